/-! both choirs' answers -/
theorem tj_n {u : Int} {σ τ : Sg} (hT : Tw u σ τ) : (τ 1 0 0).toNat = (σ 1 0 0).toNat := by rw [hT.1]
theorem tj_45 {u : Int} {σ τ : Sg} (hT : Tw u σ τ) {M : Nat} (hJ : Jv τ M) : Or45 τ (σ 1 0 0).toNat := by
  have h := Iv_45 hJ
  rwa [tj_n hT] at h
theorem tj_b {σ : Sg} {N : Nat} (hI : Jv σ N) : σ 1 0 0 = ((σ 1 0 0).toNat : Int) := hI.1
theorem tj_msM {u : Int} (hu : 0 ≤ u) {σ τ : Sg} (hT : Tw u σ τ) {N M : Nat} (hI : Jv σ N) (hJ : Jv τ M) (d : Int) : msM τ d (τ 1 0 0).toNat (τ 1 0 0).toNat = msM σ d (σ 1 0 0).toNat (σ 1 0 0).toNat := by
  rw [tj_n hT]
  exact msM_tw hu hT (tj_b hI) (Iv_45 hI) (tj_45 hT hJ) _
theorem tj_prg {u : Int} (hu : 0 ≤ u) {σ τ : Sg} (hT : Tw u σ τ) {N M : Nat} (hI : Jv σ N) (hJ : Jv τ M) (d x : Int) : ((prg τ (τ 1 0 0).toNat (τ 2 0 0).toNat d x : Nat) : Int) = ((prg σ (σ 1 0 0).toNat (σ 2 0 0).toNat d x : Nat) : Int) := by
  rw [tj_n hT, hT.2.1, prg_tw hu hT (tj_b hI) (Iv_45 hI) (tj_45 hT hJ)]
theorem tj_rng {u : Int} (hu : 0 ≤ u) {σ τ : Sg} (hT : Tw u σ τ) {N M : Nat} (hI : Jv σ N) (hJ : Jv τ M) (v d : Int) : vRng τ v d (τ 1 0 0).toNat = (if vRng σ v d (σ 1 0 0).toNat < 0 then (-1) else (vRng σ v d (σ 1 0 0).toNat + (101 * u))) := by
  rw [tj_n hT]
  exact (vRng_tw hu hT (tj_b hI) (Iv_45 hI) (tj_45 hT hJ)).2.2
theorem tj_rg {u : Int} (hu : 0 ≤ u) {σ τ : Sg} (hT : Tw u σ τ) {N M : Nat} (hI : Jv σ N) (hJ : Jv τ M) (v d : Int) : -1 ≤ vRng σ v d (σ 1 0 0).toNat ∧ vRng σ v d (σ 1 0 0).toNat ≤ 6060 :=
  have h := vRng_tw hu hT (v := v) (d := d) (tj_b hI) (Iv_45 hI) (tj_45 hT hJ)
  ⟨h.1, h.2.1⟩
theorem tj_alf {u : Int} {σ τ : Sg} (hT : Tw u σ τ) (i : Nat) : alf (τ 7 i) (τ 8 i 0) = alf (σ 7 i) (σ 8 i 0) := by
  rw [hT.2.2.2.2.2.2.1 i]
  exact alf_sh (hT.2.2.2.2.2.1 i)
theorem tj_shV {u : Int} (hu : 0 ≤ u) {σ τ : Sg} (hT : Tw u σ τ) {N M : Nat} (hI : Jv σ N) (hJ : Jv τ M) (i : Nat) (d : Int) : shV τ i d = shV σ i d := by
  unfold shV
  rw [tj_n hT, shS_tw hu hT (tj_b hI) (Iv_45 hI) (tj_45 hT hJ)]
theorem tj_wkq {u : Int} {σ τ : Sg} (hT : Tw u σ τ) {N : Nat} (hI : Jv σ N) (i : Nat) : ((wkq τ i : Nat) : Int) = ((wkq σ i : Nat) : Int) := by
  rw [wkq_tw hT ((Jv_b hI).2.2 i).1]
theorem tj_mvf {u : Int} {σ τ : Sg} (hT : Tw u σ τ) {i c : Nat} (hc : (c : Int) < σ 8 i 0) : mvf (τ 7 i) c = mvf (σ 7 i) c := mvf_sh (hT.2.2.2.2.2.1 i) c (by omega)
