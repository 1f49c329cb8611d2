/-! one act: its answer and the choir behind, u tones higher -/
def acs (σ : Sg) (x : Int) : Int := if σ 1 0 0 = 0 then 0 else (x / 16) % (σ 1 0 0)
def acp (σ : Sg) (x : Int) : Int := if σ 2 0 0 = 0 then 0 else (x / 16) % (σ 2 0 0)
def acc (σ : Sg) (x : Int) : Int := if σ 2 0 0 = 0 then 0 else ((x / 16) / 6) % (σ 8 (acp σ x).toNat 0)
def acF (x : Int) : Int := 20 + ((x / 16) % 30)
def acG (x : Int) : Int := acF x - (((x / 16) / 30) % 15)
def acH (x : Int) : Int := acG x - (((x / 16) / 450) % 4)
def acD (x : Int) : Int := if acH x < ((x / 16) / 1800) % 8 then 0 else acH x - (((x / 16) / 1800) % 8)
def acL (x : Int) : Int := 1 + ((x / 16) % (if (x / 16) % 3 = 0 then 5 else 600))
def Ac (u : Int) (σ : Sg) (x z : Int) (τ : Sg) : Prop :=
  if x % 16 < 3 then z = an (kAdd σ ((x / 16) % 4) ((((x / 16) / 4) % 24) + u) ((30 + (((x / 16) / 96) % 24)) + u)) (σ 1 0 0) (-2000000002) (-2000000003) (-2000000003) ∧ τ = stt (kAdd σ ((x / 16) % 4) ((((x / 16) / 4) % 24) + u) ((30 + (((x / 16) / 96) % 24)) + u)) (sAdd σ ((x / 16) % 4) ((((x / 16) / 4) % 24) + u) ((30 + (((x / 16) / 96) % 24)) + u)) σ
  else if x % 16 < 5 then z = an (kTel σ (acs σ x) (((x / 16) / 12) % 4)) (bI (thr (σ 6 0 (acs σ x).toNat) (((x / 16) / 12) % 4) = true)) (-2000000001) (-2000000002) (-2000000002) ∧ τ = stt (kTel σ (acs σ x) (((x / 16) / 12) % 4)) (sTel σ (acs σ x) (((x / 16) / 12) % 4) (bI (((x / 16) / 48) % 3 = 0))) σ
  else if x % 16 < 6 then z = an (kChg σ (acs σ x) (((x / 16) / 12) % 4)) (σ 3 0 (acs σ x).toNat) (-2000000001) (-2000000002) (-2000000002) ∧ τ = stt (kChg σ (acs σ x) (((x / 16) / 12) % 4)) (su σ 3 0 (acs σ x).toNat (((x / 16) / 12) % 4)) σ
  else if x % 16 < 11 then z = an (kChd σ (acF x + u) (acG x + u) (acH x + u) (acD x + u)) (σ 8 (σ 2 0 0).toNat 0 + 1) (-2000000002) (-2000000003) (-2000000003) ∧ τ = stt (kChd σ (acF x + u) (acG x + u) (acH x + u) (acD x + u)) (sChd σ (acF x + u) (acG x + u) (acH x + u) (acD x + u)) σ
  else if x % 16 < 13 then z = an (kPce σ (acL x)) (σ 2 0 0) (-2000000002) (-2000000003) (-2000000003) ∧ τ = stt (kPce σ (acL x)) (sPce σ (acL x)) σ
  else if x % 16 < 14 then (∃ w, w = an (kSet σ (acp σ x) (acc σ x) (((x / 16) / 96) % 4) ((((x / 16) / 384) % 54) + u)) (σ 7 (acp σ x).toNat (4 * (acc σ x).toNat + (((x / 16) / 96) % 4).toNat)) (-2000000001) (-2000000002) (-2000000003) ∧ z = if w < 0 then w else w - u) ∧ τ = stt (kSet σ (acp σ x) (acc σ x) (((x / 16) / 96) % 4) ((((x / 16) / 384) % 54) + u)) (sSet σ (acp σ x) (acc σ x) (((x / 16) / 96) % 4) ((((x / 16) / 384) % 54) + u)) σ
  else z = an (kReh σ (acp σ x) (1 + (((x / 16) / 6) % 6))) (wsm (rhS σ (acp σ x).toNat (1 + (((x / 16) / 6) % 6)).toNat) (acp σ x).toNat ((rhS σ (acp σ x).toNat (1 + (((x / 16) / 6) % 6)).toNat) 8 (acp σ x).toNat 0).toNat) (-2000000001) (-2000000002) (-2000000002) ∧ τ = stt (kReh σ (acp σ x) (1 + (((x / 16) / 6) % 6))) (rhS σ (acp σ x).toNat (1 + (((x / 16) / 6) % 6)).toNat) σ
theorem acs_rg {σ : Sg} {x : Int} (h : 0 ≤ σ 1 0 0) (hx : 0 ≤ x) : 0 ≤ acs σ x ∧ (acs σ x < σ 1 0 0 ∨ σ 1 0 0 = 0 ∧ acs σ x = 0) := by
  unfold acs
  split
  · omega
  · have h1 := Int.emod_nonneg (x / 16) (b := σ 1 0 0) (by omega)
    have h2 := Int.emod_lt_of_pos (x / 16) (b := σ 1 0 0) (by omega)
    omega
theorem acp_rg {σ : Sg} {x : Int} (h : 0 ≤ σ 2 0 0) (hx : 0 ≤ x) : 0 ≤ acp σ x ∧ (acp σ x < σ 2 0 0 ∨ σ 2 0 0 = 0 ∧ acp σ x = 0) := by
  unfold acp
  split
  · omega
  · have h1 := Int.emod_nonneg (x / 16) (b := σ 2 0 0) (by omega)
    have h2 := Int.emod_lt_of_pos (x / 16) (b := σ 2 0 0) (by omega)
    omega
theorem acc_rg {σ : Sg} {N : Nat} (hI : Jv σ N) {x : Int} (hx : 0 ≤ x) : 0 ≤ acc σ x ∧ (acc σ x < σ 8 (acp σ x).toNat 0 ∨ σ 2 0 0 = 0 ∧ acc σ x = 0) := by
  obtain ⟨hn, hn12, hk, hk6, hsg, haw, hch, hch1, hch0, htn, hto, htz, hpr, hN, hpz, hle, hlz⟩ := hI
  have h0 := acp_rg (σ := σ) (x := x) (by omega) hx
  unfold acc
  split
  · omega
  · have h3 := hch1 (acp σ x).toNat (by omega)
    have h1 := Int.emod_nonneg (x / 16 / 6) (b := σ 8 (acp σ x).toNat 0) (by omega)
    have h2 := Int.emod_lt_of_pos (x / 16 / 6) (b := σ 8 (acp σ x).toNat 0) (by omega)
    omega
theorem acD_rg {x : Int} (hx : 0 ≤ x) : (20 ≤ acF x ∧ acF x ≤ 49) ∧ (6 ≤ acG x ∧ acG x ≤ acF x) ∧ (3 ≤ acH x ∧ acH x ≤ acG x) ∧ 0 ≤ acD x ∧ acD x ≤ acH x := by
  unfold acD acH acG acF
  split <;> omega
theorem acL_rg {x : Int} (hx : 0 ≤ x) : 1 ≤ acL x ∧ acL x ≤ 600 := by
  unfold acL
  split <;> omega
theorem Jv_of {σ : Sg} {n k N : Nat} (h : Iv σ n k N) : Jv σ N := by
  have e1 := h.1
  have e2 := h.2.2.1
  show Iv σ (σ 1 0 0).toNat (σ 2 0 0).toNat N
  rw [show (σ 1 0 0).toNat = n by omega, show (σ 2 0 0).toNat = k by omega]
  exact h
theorem Jv_up {σ : Sg} {N : Nat} (h : Jv σ N) (hN : N ≤ 500) : Jv σ (N + 1) := Iv_up h (by omega)
/-- what holds of both behind an act -/
abbrev Bth (u : Int) (N : Nat) (z z' : Int) (σ' τ' : Sg) : Prop := z' = z ∧ Tw u σ' τ' ∧ Jv σ' N ∧ Jv τ' N
theorem bth_n {u K K' V V' a b c z z' : Int} {N : Nat} {σ τ ρ ρ' σ' τ' : Sg} (hN : N ≤ 500) (hT : Tw u σ τ) (h1 : Jv σ N) (h2 : Jv τ N) (hK : K = 1 ∨ K = 2 ∨ K = 3) (hk : K' = K) (a1 : z = an K V a b c) (a2 : σ' = stt K ρ σ) (b1 : z' = an K' V' a b c) (b2 : τ' = stt K' ρ' τ) : Bth u (N + 1) z z' σ' τ' := by
  subst hk
  rw [stt_n (by omega)] at a2 b2
  subst a2; subst b2
  refine ⟨?_, hT, Jv_up h1 hN, Jv_up h2 hN⟩
  rcases hK with h | h | h
  · rw [a1, b1, an_1 h, an_1 h]
  · rw [a1, b1, an_2 h, an_2 h]
  · subst h; rw [a1, b1]; rfl
theorem bth_y {u K K' V V' a b c z z' : Int} {M : Nat} {σ τ ρ ρ' σ' τ' : Sg} (hK : K = 0) (hk : K' = K) (hV : V' = V) (hT : Tw u ρ ρ') (h1 : Jv ρ M) (h2 : Jv ρ' M) (a1 : z = an K V a b c) (a2 : σ' = stt K ρ σ) (b1 : z' = an K' V' a b c) (b2 : τ' = stt K' ρ' τ) : Bth u M z z' σ' τ' := by
  subst hk; subst hV
  rw [stt_0 hK] at a2 b2
  subst a2; subst b2
  exact ⟨by rw [a1, b1], hT, h1, h2⟩
theorem ac_add {u : Int} (hu : 0 ≤ u ∧ u ≤ 6) {σ τ : Sg} (hT : Tw u σ τ) {N : Nat} (hN : N ≤ 500) (h1 : Jv σ N) (h2 : Jv τ N) {v lo hi z z' : Int} {σ' τ' : Sg} (hv : 0 ≤ v ∧ v ≤ 3) (hlo : 0 ≤ lo ∧ lo ≤ 23) (hhi : 30 ≤ hi ∧ hi ≤ 53)
    (a1 : z = an (kAdd σ v (lo + 0) (hi + 0)) (σ 1 0 0) (-2000000002) (-2000000003) (-2000000003)) (a2 : σ' = stt (kAdd σ v (lo + 0) (hi + 0)) (sAdd σ v (lo + 0) (hi + 0)) σ) (b1 : z' = an (kAdd τ v (lo + u) (hi + u)) (τ 1 0 0) (-2000000002) (-2000000003) (-2000000003)) (b2 : τ' = stt (kAdd τ v (lo + u) (hi + u)) (sAdd τ v (lo + u) (hi + u)) τ) : Bth u (N + 1) z z' σ' τ' := by
  rw [Int.add_zero, Int.add_zero] at a1 a2
  have e1 := hT.1
  have ⟨b9, _, _⟩ := Jv_b h1
  have k1 : kAdd σ v lo hi = if σ 1 0 0 = 12 then 2 else 0 := by unfold kAdd; rw [if_neg (fun q => q (by omega))]
  have k2 : kAdd τ v (lo + u) (hi + u) = kAdd σ v lo hi := by rw [k1]; unfold kAdd; rw [if_neg (fun q => q (by omega)), e1]
  by_cases q : σ 1 0 0 = 12
  · rw [if_pos q] at k1
    exact bth_n hN hT h1 h2 (Or.inr (Or.inl k1)) k2 a1 a2 b1 b2
  · rw [if_neg q] at k1
    exact bth_y k1 k2 e1 (Tw_add hT (by omega) v lo hi) (Jv_of (Iv_up (Iv_add h1 k1) (by omega))) (Jv_of (Iv_up (Iv_add h2 (k2.trans k1)) (by omega))) a1 a2 b1 b2
theorem ac_tel {u : Int} {σ τ : Sg} (hT : Tw u σ τ) {N : Nat} (hN : N ≤ 500) (h1 : Jv σ N) (h2 : Jv τ N) {x d t z z' : Int} {σ' τ' : Sg} (hd : 0 ≤ d ∧ d ≤ 30) (hx : 0 ≤ x)
    (a1 : z = an (kTel σ x d) (bI (thr (σ 6 0 x.toNat) d = true)) (-2000000001) (-2000000002) (-2000000002)) (a2 : σ' = stt (kTel σ x d) (sTel σ x d t) σ) (b1 : z' = an (kTel τ x d) (bI (thr (τ 6 0 x.toNat) d = true)) (-2000000001) (-2000000002) (-2000000002)) (b2 : τ' = stt (kTel τ x d) (sTel τ x d t) τ) : Bth u (N + 1) z z' σ' τ' := by
  have e1 := hT.1
  have k1 : kTel σ x d = if x < σ 1 0 0 then 0 else 1 := by unfold kTel; (repeat' split) <;> omega
  have k2 : kTel τ x d = kTel σ x d := by unfold kTel; rw [e1]
  by_cases q : x < σ 1 0 0
  · rw [if_pos q] at k1
    exact bth_y k1 k2 (by rw [hT.2.2.2.2.1]) (Tw_tel hT x d t) (Jv_of (Iv_up (Iv_tel h1 _ _ _) (by omega))) (Jv_of (Iv_up (Iv_tel h2 _ _ _) (by omega))) a1 a2 b1 b2
  · rw [if_neg q] at k1
    exact bth_n hN hT h1 h2 (Or.inl k1) k2 a1 a2 b1 b2
theorem ac_chg {u : Int} {σ τ : Sg} (hT : Tw u σ τ) {N : Nat} (hN : N ≤ 500) (h1 : Jv σ N) (h2 : Jv τ N) {x v z z' : Int} {σ' τ' : Sg} (hv : 0 ≤ v ∧ v ≤ 3) (hx : 0 ≤ x)
    (a1 : z = an (kChg σ x v) (σ 3 0 x.toNat) (-2000000001) (-2000000002) (-2000000002)) (a2 : σ' = stt (kChg σ x v) (su σ 3 0 x.toNat v) σ) (b1 : z' = an (kChg τ x v) (τ 3 0 x.toNat) (-2000000001) (-2000000002) (-2000000002)) (b2 : τ' = stt (kChg τ x v) (su τ 3 0 x.toNat v) τ) : Bth u (N + 1) z z' σ' τ' := by
  have e1 := hT.1
  have k1 : kChg σ x v = if x < σ 1 0 0 then 0 else 1 := by unfold kChg; (repeat' split) <;> omega
  have k2 : kChg τ x v = kChg σ x v := by unfold kChg; rw [e1]
  by_cases q : x < σ 1 0 0
  · rw [if_pos q] at k1
    exact bth_y k1 k2 (by rw [hT.2.2.1]) (Tw_chg hT _ v) (Jv_of (Iv_up (Iv_chg h1 k1) (by omega))) (Jv_of (Iv_up (Iv_chg h2 (k2.trans k1)) (by omega))) a1 a2 b1 b2
  · rw [if_neg q] at k1
    exact bth_n hN hT h1 h2 (Or.inl k1) k2 a1 a2 b1 b2
theorem ac_chd {u : Int} (hu : 0 ≤ u ∧ u ≤ 6) {σ τ : Sg} (hT : Tw u σ τ) {N : Nat} (hN : N ≤ 500) (h1 : Jv σ N) (h2 : Jv τ N) {a b c d z z' : Int} {σ' τ' : Sg} (h : (20 ≤ a ∧ a ≤ 49) ∧ (6 ≤ b ∧ b ≤ a) ∧ (3 ≤ c ∧ c ≤ b) ∧ 0 ≤ d ∧ d ≤ c)
    (a1 : z = an (kChd σ (a + 0) (b + 0) (c + 0) (d + 0)) (σ 8 (σ 2 0 0).toNat 0 + 1) (-2000000002) (-2000000003) (-2000000003)) (a2 : σ' = stt (kChd σ (a + 0) (b + 0) (c + 0) (d + 0)) (sChd σ (a + 0) (b + 0) (c + 0) (d + 0)) σ) (b1 : z' = an (kChd τ (a + u) (b + u) (c + u) (d + u)) (τ 8 (τ 2 0 0).toNat 0 + 1) (-2000000002) (-2000000003) (-2000000003)) (b2 : τ' = stt (kChd τ (a + u) (b + u) (c + u) (d + u)) (sChd τ (a + u) (b + u) (c + u) (d + u)) τ) : Bth u (N + 1) z z' σ' τ' := by
  rw [Int.add_zero, Int.add_zero, Int.add_zero, Int.add_zero] at a1 a2
  have e2 := hT.2.1
  have e8 := hT.2.2.2.2.2.2.1 (σ 2 0 0).toNat
  have ⟨_, _, b9⟩ := Jv_b h1
  have b9 := b9 (σ 2 0 0).toNat
  have k1 : kChd σ a b c d = if σ 8 (σ 2 0 0).toNat 0 = 16 then 2 else 0 := by unfold kChd; rw [if_neg (fun q => q (by omega))]
  have k2 : kChd τ (a + u) (b + u) (c + u) (d + u) = kChd σ a b c d := by rw [k1]; unfold kChd; rw [if_neg (fun q => q (by omega)), e2, e8]
  by_cases q : σ 8 (σ 2 0 0).toNat 0 = 16
  · rw [if_pos q] at k1
    exact bth_n hN hT h1 h2 (Or.inr (Or.inl k1)) k2 a1 a2 b1 b2
  · rw [if_neg q] at k1
    exact bth_y k1 k2 (by rw [e2, e8]) (Tw_chd hT (by omega) a b c d) (Jv_of (Iv_up (Iv_chd h1 k1) (by omega))) (Jv_of (Iv_up (Iv_chd h2 (k2.trans k1)) (by omega))) a1 a2 b1 b2
theorem ac_pce {u : Int} {σ τ : Sg} (hT : Tw u σ τ) {N : Nat} (hN : N ≤ 500) (h1 : Jv σ N) (h2 : Jv τ N) {x z z' : Int} {σ' τ' : Sg} (hx : 1 ≤ x ∧ x ≤ 600)
    (a1 : z = an (kPce σ x) (σ 2 0 0) (-2000000002) (-2000000003) (-2000000003)) (a2 : σ' = stt (kPce σ x) (sPce σ x) σ) (b1 : z' = an (kPce τ x) (τ 2 0 0) (-2000000002) (-2000000003) (-2000000003)) (b2 : τ' = stt (kPce τ x) (sPce τ x) τ) : Bth u (N + 1) z z' σ' τ' := by
  have e2 := hT.2.1
  have e8 := hT.2.2.2.2.2.2.1 (σ 2 0 0).toNat
  have k1 : kPce σ x = if 0 < σ 8 (σ 2 0 0).toNat 0 ∧ σ 2 0 0 < 6 then 0 else 2 := by unfold kPce; rw [if_neg (fun q => q (by omega))]
  have k2 : kPce τ x = kPce σ x := by unfold kPce; rw [e2, e8]
  by_cases q : 0 < σ 8 (σ 2 0 0).toNat 0 ∧ σ 2 0 0 < 6
  · rw [if_pos q] at k1
    exact bth_y k1 k2 e2 (Tw_pce hT x) (Jv_of (Iv_up (Iv_pce h1 k1) (by omega))) (Jv_of (Iv_up (Iv_pce h2 (k2.trans k1)) (by omega))) a1 a2 b1 b2
  · rw [if_neg q] at k1
    exact bth_n hN hT h1 h2 (Or.inr (Or.inl k1)) k2 a1 a2 b1 b2
theorem ac_set {u : Int} (hu : 0 ≤ u ∧ u ≤ 6) {σ τ : Sg} (hT : Tw u σ τ) {N : Nat} (hN : N ≤ 500) (h1 : Jv σ N) (h2 : Jv τ N) {x y v t w w' : Int} {σ' τ' : Sg} (hx : 0 ≤ x) (hy : 0 ≤ y) (hv : 0 ≤ v ∧ v ≤ 3) (ht : 0 ≤ t ∧ t ≤ 53)
    (a1 : w = an (kSet σ x y v (t + 0)) (σ 7 x.toNat (4 * y.toNat + v.toNat)) (-2000000001) (-2000000002) (-2000000003)) (a2 : σ' = stt (kSet σ x y v (t + 0)) (sSet σ x y v (t + 0)) σ) (b1 : w' = an (kSet τ x y v (t + u)) (τ 7 x.toNat (4 * y.toNat + v.toNat)) (-2000000001) (-2000000002) (-2000000003)) (b2 : τ' = stt (kSet τ x y v (t + u)) (sSet τ x y v (t + u)) τ) : Bth u (N + 1) (if w < 0 then w else w - 0) (if w' < 0 then w' else w' - u) σ' τ' := by
  rw [Int.add_zero] at a1 a2
  have e2 := hT.2.1
  have e8 := hT.2.2.2.2.2.2.1 x.toNat
  have e7 := hT.2.2.2.2.2.1 x.toNat
  by_cases q1 : isC σ x y
  · have q1' : isC τ x y := by unfold isC; rw [e2, e8]; exact q1
    obtain ⟨c1, c2, c3, c4⟩ := q1
    have hc : y.toNat < (σ 8 x.toNat 0).toNat := by omega
    have f1 : flr (τ 7 x.toNat) y.toNat v.toNat ≤ t + u ↔ flr (σ 7 x.toNat) y.toNat v.toNat ≤ t := by
      unfold flr
      by_cases q : v.toNat = 3
      · rw [if_pos q, if_pos q]; omega
      · rw [if_neg q, if_neg q, e7 _ (by omega)]; omega
    have f2 : t + u ≤ clg (τ 7 x.toNat) y.toNat v.toNat ↔ t ≤ clg (σ 7 x.toNat) y.toNat v.toNat := by
      unfold clg
      by_cases q : v.toNat = 0
      · rw [if_pos q, if_pos q]; omega
      · rw [if_neg q, if_neg q, e7 _ (by omega)]; omega
    have k1 : kSet σ x y v t = if flr (σ 7 x.toNat) y.toNat v.toNat ≤ t ∧ t ≤ clg (σ 7 x.toNat) y.toNat v.toNat then 0 else 3 := by
      unfold kSet
      rw [if_neg (fun q => q ⟨c1, c2, c3, c4⟩), if_neg (fun q => q (by omega))]
    have k2 : kSet τ x y v (t + u) = kSet σ x y v t := by
      rw [k1]
      unfold kSet
      rw [if_neg (fun q => q q1'), if_neg (fun q => q (by omega))]
      by_cases q : flr (σ 7 x.toNat) y.toNat v.toNat ≤ t ∧ t ≤ clg (σ 7 x.toNat) y.toNat v.toNat
      · rw [if_pos q, if_pos ⟨f1.mpr q.1, f2.mpr q.2⟩]
      · rw [if_neg q, if_neg (fun z => q ⟨f1.mp z.1, f2.mp z.2⟩)]
    by_cases q : flr (σ 7 x.toNat) y.toNat v.toNat ≤ t ∧ t ≤ clg (σ 7 x.toNat) y.toNat v.toNat
    · rw [if_pos q] at k1
      have k0 := k2.trans k1
      rw [an_0 k1] at a1
      rw [an_0 k0] at b1
      rw [stt_0 k1] at a2
      rw [stt_0 k0] at b2
      have r1 := h1.2.2.2.2.2.2.2.2.2.1 x.toNat (4 * y.toNat + v.toNat)
      have r2 := e7 (4 * y.toNat + v.toNat) (by omega)
      subst a2; subst b2
      refine ⟨?_, Tw_set hT _ _ _, Jv_of (Iv_up (Iv_set h1 k1) (by omega)), Jv_of (Iv_up (Iv_set h2 k0) (by omega))⟩
      rw [a1, b1, r2, if_neg (by omega), if_neg (by omega)]; omega
    · rw [if_neg q] at k1
      have k0 := k2.trans k1
      rw [an_3 k1] at a1
      rw [an_3 k0] at b1
      rw [stt_n (by omega)] at a2 b2
      subst a2; subst b2; subst a1; subst b1
      exact ⟨rfl, hT, Jv_up h1 hN, Jv_up h2 hN⟩
  · have q1' : ¬ isC τ x y := by unfold isC; rw [e2, e8]; exact q1
    have k1 : kSet σ x y v t = 1 := by unfold kSet; rw [if_pos q1]
    have k0 : kSet τ x y v (t + u) = 1 := by unfold kSet; rw [if_pos q1']
    rw [an_1 k1] at a1
    rw [an_1 k0] at b1
    rw [stt_n (by omega)] at a2 b2
    subst a2; subst b2; subst a1; subst b1
    exact ⟨rfl, hT, Jv_up h1 hN, Jv_up h2 hN⟩
theorem ac_reh {u : Int} {σ τ : Sg} (hT : Tw u σ τ) {N : Nat} (hN : N ≤ 500) (h1 : Jv σ N) (h2 : Jv τ N) {x t z z' : Int} {σ' τ' : Sg} (hx : 0 ≤ x) (ht : 1 ≤ t ∧ t ≤ 30)
    (a1 : z = an (kReh σ x t) (wsm (rhS σ x.toNat t.toNat) x.toNat ((rhS σ x.toNat t.toNat) 8 x.toNat 0).toNat) (-2000000001) (-2000000002) (-2000000002)) (a2 : σ' = stt (kReh σ x t) (rhS σ x.toNat t.toNat) σ) (b1 : z' = an (kReh τ x t) (wsm (rhS τ x.toNat t.toNat) x.toNat ((rhS τ x.toNat t.toNat) 8 x.toNat 0).toNat) (-2000000001) (-2000000002) (-2000000002)) (b2 : τ' = stt (kReh τ x t) (rhS τ x.toNat t.toNat) τ) : Bth u (N + 1) z z' σ' τ' := by
  have e2 := hT.2.1
  have ⟨_, _, b9⟩ := Jv_b h1
  have b9 := b9 x.toNat
  have k1 : kReh σ x t = if x < σ 2 0 0 then 0 else 1 := by unfold kReh; (repeat' split) <;> omega
  have k2 : kReh τ x t = kReh σ x t := by unfold kReh; rw [e2]
  by_cases q : x < σ 2 0 0
  · rw [if_pos q] at k1
    have hr := (Tw_rhS hT (i := x.toNat) b9.1 t.toNat).1
    have e8 := hr.2.2.2.2.2.2.1 x.toNat
    have e9 : rhS σ x.toNat t.toNat 8 = σ 8 := (Tw_rhS hT (i := x.toNat) b9.1 t.toNat).2
    refine bth_y k1 k2 ?_ hr (Jv_rhS h1 hN (by omega) (by omega)) (Jv_rhS h2 hN (by omega) (by omega)) a1 a2 b1 b2
    rw [e8]
    exact wsm_tw hr _ (by rw [e9]; omega)
  · rw [if_neg q] at k1
    exact bth_n hN hT h1 h2 (Or.inl k1) k2 a1 a2 b1 b2
theorem Ac_tw {u : Int} (hu : 0 ≤ u ∧ u ≤ 6) {σ τ : Sg} (hT : Tw u σ τ) {N : Nat} (hN : N ≤ 500) (h1 : Jv σ N) (h2 : Jv τ N) {x z z' : Int} (hx : 0 ≤ x) {σ' τ' : Sg} (a : Ac 0 σ x z σ') (b : Ac u τ x z' τ') : Bth u (N + 1) z z' σ' τ' := by
  have es : acs τ x = acs σ x := by unfold acs; rw [hT.1]
  have ep : acp τ x = acp σ x := by unfold acp; rw [hT.2.1]
  have ec : acc τ x = acc σ x := by unfold acc; rw [hT.2.1, ep, hT.2.2.2.2.2.2.1]
  have ⟨b1, b2, _⟩ := Jv_b h1
  have rs := acs_rg (σ := σ) (x := x) (by omega) hx
  have rp := acp_rg (σ := σ) (x := x) (by omega) hx
  have rc := acc_rg h1 hx
  unfold Ac at a b
  by_cases q1 : x % 16 < 3
  · rw [if_pos q1] at a b
    exact ac_add hu hT hN h1 h2 (by omega) (by omega) (by omega) a.1 a.2 b.1 b.2
  rw [if_neg q1] at a b
  by_cases q2 : x % 16 < 5
  · rw [if_pos q2] at a b
    rw [es] at b
    exact ac_tel hT hN h1 h2 (by omega) (by omega) a.1 a.2 b.1 b.2
  rw [if_neg q2] at a b
  by_cases q3 : x % 16 < 6
  · rw [if_pos q3] at a b
    rw [es] at b
    exact ac_chg hT hN h1 h2 (by omega) (by omega) a.1 a.2 b.1 b.2
  rw [if_neg q3] at a b
  by_cases q4 : x % 16 < 11
  · rw [if_pos q4] at a b
    exact ac_chd hu hT hN h1 h2 (acD_rg hx) a.1 a.2 b.1 b.2
  rw [if_neg q4] at a b
  by_cases q5 : x % 16 < 13
  · rw [if_pos q5] at a b
    exact ac_pce hT hN h1 h2 (acL_rg hx) a.1 a.2 b.1 b.2
  rw [if_neg q5] at a b
  by_cases q6 : x % 16 < 14
  · rw [if_pos q6] at a b
    rw [ep, ec] at b
    obtain ⟨⟨w, a1, a2⟩, a3⟩ := a
    obtain ⟨⟨w', b1, b2⟩, b3⟩ := b
    subst a2; subst b2
    exact ac_set hu hT hN h1 h2 (by omega) (by omega) (by omega) (by omega) a1 a3 b1 b3
  · rw [if_neg q6] at a b
    rw [ep] at b
    exact ac_reh hT hN h1 h2 (by omega) (by omega) a.1 a.2 b.1 b.2
theorem an_rg {K V a b c : Int} (hV : K = 0 → -2000000003 ≤ V ∧ V ≤ 100000) (ha : -2000000003 ≤ a ∧ a ≤ 100000) (hb : -2000000003 ≤ b ∧ b ≤ 100000) (hc : -2000000003 ≤ c ∧ c ≤ 100000) : -2000000003 ≤ an K V a b c ∧ an K V a b c ≤ 100000 := by
  unfold an
  by_cases q : K = 0
  · rw [if_pos q]; exact hV q
  · rw [if_neg q]
    (repeat' split) <;> omega
/-- what an act does to the numbers that the law keeps -/
theorem Ac_nf {σ : Sg} {N : Nat} (hN : N ≤ 500) (hI : Jv σ N) {x z : Int} (hx : 0 ≤ x) {σ' : Sg} (a : Ac 0 σ x z σ') : (-2000000003 ≤ z ∧ z ≤ 100000) ∧ (
    (x % 16 < 3 ∧ 0 ≤ z ∧ σ' 1 0 0 = σ 1 0 0 + 1 ∧ σ' 2 = σ 2 ∧ σ' 8 = σ 8 ∧ σ' 9 = σ 9) ∨
    (5 < x % 16 ∧ x % 16 < 11 ∧ 0 ≤ z ∧ σ' 1 = σ 1 ∧ σ' 2 = σ 2 ∧ σ' 9 = σ 9 ∧ σ' 8 (σ 2 0 0).toNat 0 = σ 8 (σ 2 0 0).toNat 0 + 1 ∧ ∀ i, i ≠ (σ 2 0 0).toNat → σ' 8 i 0 = σ 8 i 0) ∨
    (10 < x % 16 ∧ x % 16 < 13 ∧ 0 ≤ z ∧ σ 2 0 0 < 6 ∧ σ' 1 = σ 1 ∧ σ' 2 0 0 = σ 2 0 0 + 1 ∧ σ' 8 = σ 8 ∧ σ' 9 (σ 2 0 0).toNat 0 = acL x ∧ ∀ i, i ≠ (σ 2 0 0).toNat → σ' 9 i 0 = σ 9 i 0) ∨
    ((x % 16 < 3 ∨ (5 < x % 16 ∧ x % 16 < 13) → z < 0) ∧ σ' 1 = σ 1 ∧ σ' 2 = σ 2 ∧ σ' 8 = σ 8 ∧ σ' 9 = σ 9)) := by
  have ⟨b1, b2, b8⟩ := Jv_b hI
  have rs := acs_rg (σ := σ) (x := x) (by omega) hx
  have rp := acp_rg (σ := σ) (x := x) (by omega) hx
  unfold Ac at a
  by_cases q1 : x % 16 < 3
  · rw [if_pos q1] at a
    obtain ⟨a1, a2⟩ := a
    rw [Int.add_zero, Int.add_zero] at a1 a2
    have k1 : kAdd σ ((x / 16) % 4) (((x / 16) / 4) % 24) (30 + (((x / 16) / 96) % 24)) = if σ 1 0 0 = 12 then 2 else 0 := by unfold kAdd; rw [if_neg (fun q => q (by omega))]
    by_cases q : σ 1 0 0 = 12
    · rw [if_pos q] at k1
      rw [an_2 k1] at a1
      rw [stt_n (by omega)] at a2
      subst a2
      exact ⟨by omega, Or.inr (Or.inr (Or.inr ⟨fun _ => by omega, rfl, rfl, rfl, rfl⟩))⟩
    · rw [if_neg q] at k1
      rw [an_0 k1] at a1
      rw [stt_0 k1] at a2
      subst a2
      exact ⟨by omega, Or.inl ⟨q1, by omega, rfl, rfl, rfl, rfl⟩⟩
  rw [if_neg q1] at a
  by_cases q2 : x % 16 < 5
  · rw [if_pos q2] at a
    obtain ⟨a1, a2⟩ := a
    refine ⟨?_, Or.inr (Or.inr (Or.inr ⟨fun h => by omega, ?_⟩))⟩
    · rw [a1]; exact an_rg (fun _ => by have := bI_01 (thr (σ 6 0 (acs σ x).toNat) (((x / 16) / 12) % 4) = true); omega) (by decide) (by decide) (by decide)
    · subst a2; unfold stt; split <;> exact ⟨rfl, rfl, rfl, rfl⟩
  rw [if_neg q2] at a
  by_cases q3 : x % 16 < 6
  · rw [if_pos q3] at a
    obtain ⟨a1, a2⟩ := a
    refine ⟨?_, Or.inr (Or.inr (Or.inr ⟨fun h => by omega, ?_⟩))⟩
    · rw [a1]; exact an_rg (fun h => by
        have h3 : acs σ x ≤ σ 1 0 0 - 1 := by
          unfold kChg at h
          (repeat' split at h) <;> omega
        have := hI.2.2.2.2.1 (acs σ x).toNat (by omega); omega) (by decide) (by decide) (by decide)
    · subst a2; unfold stt; split <;> exact ⟨rfl, rfl, rfl, rfl⟩
  rw [if_neg q3] at a
  by_cases q4 : x % 16 < 11
  · rw [if_pos q4] at a
    obtain ⟨a1, a2⟩ := a
    rw [Int.add_zero, Int.add_zero, Int.add_zero, Int.add_zero] at a1 a2
    have hd := acD_rg hx
    have h8 := b8 (σ 2 0 0).toNat
    have k1 : kChd σ (acF x) (acG x) (acH x) (acD x) = if σ 8 (σ 2 0 0).toNat 0 = 16 then 2 else 0 := by unfold kChd; rw [if_neg (fun q => q (by omega))]
    by_cases q : σ 8 (σ 2 0 0).toNat 0 = 16
    · rw [if_pos q] at k1
      rw [an_2 k1] at a1
      rw [stt_n (by omega)] at a2
      subst a2
      exact ⟨by omega, Or.inr (Or.inr (Or.inr ⟨fun _ => by omega, rfl, rfl, rfl, rfl⟩))⟩
    · rw [if_neg q] at k1
      rw [an_0 k1] at a1
      rw [stt_0 k1] at a2
      subst a2
      refine ⟨by omega, Or.inr (Or.inl ⟨by omega, q4, by omega, rfl, rfl, rfl, ?_, fun i hi => ?_⟩)⟩
      · unfold sChd; rw [su_s, uI_s]
      · unfold sChd; rw [su_n _ _ _ _ hi]; rfl
  rw [if_neg q4] at a
  by_cases q5 : x % 16 < 13
  · rw [if_pos q5] at a
    obtain ⟨a1, a2⟩ := a
    have hl := acL_rg hx
    have k1 : kPce σ (acL x) = if 0 < σ 8 (σ 2 0 0).toNat 0 ∧ σ 2 0 0 < 6 then 0 else 2 := by unfold kPce; rw [if_neg (fun q => q (by omega))]
    by_cases q : 0 < σ 8 (σ 2 0 0).toNat 0 ∧ σ 2 0 0 < 6
    · rw [if_pos q] at k1
      rw [an_0 k1] at a1
      rw [stt_0 k1] at a2
      subst a2
      refine ⟨by omega, Or.inr (Or.inr (Or.inl ⟨by omega, q5, by omega, q.2, rfl, rfl, rfl, ?_, fun i hi => ?_⟩))⟩
      · show su σ 9 (σ 2 0 0).toNat 0 (acL x) 9 (σ 2 0 0).toNat 0 = acL x
        rw [su_s, uI_s]
      · show su σ 9 (σ 2 0 0).toNat 0 (acL x) 9 i 0 = σ 9 i 0
        rw [su_n _ _ _ _ hi]
    · rw [if_neg q] at k1
      rw [an_2 k1] at a1
      rw [stt_n (by omega)] at a2
      subst a2
      exact ⟨by omega, Or.inr (Or.inr (Or.inr ⟨fun _ => by omega, rfl, rfl, rfl, rfl⟩))⟩
  rw [if_neg q5] at a
  by_cases q6 : x % 16 < 14
  · rw [if_pos q6] at a
    obtain ⟨⟨w, a1, a2⟩, a3⟩ := a
    refine ⟨?_, Or.inr (Or.inr (Or.inr ⟨fun h => by omega, ?_⟩))⟩
    · have r := an_rg (K := kSet σ (acp σ x) (acc σ x) (((x / 16) / 96) % 4) ((((x / 16) / 384) % 54) + 0)) (V := σ 7 (acp σ x).toNat (4 * (acc σ x).toNat + (((x / 16) / 96) % 4).toNat)) (a := -2000000001) (b := -2000000002) (c := -2000000003) (fun _ => by have := hI.2.2.2.2.2.2.2.2.2.1 (acp σ x).toNat (4 * (acc σ x).toNat + (((x / 16) / 96) % 4).toNat); omega) (by decide) (by decide) (by decide)
      rw [← a1] at r
      rw [a2]; split <;> omega
    · subst a3; unfold stt; split <;> exact ⟨rfl, rfl, rfl, rfl⟩
  · rw [if_neg q6] at a
    obtain ⟨a1, a2⟩ := a
    refine ⟨?_, Or.inr (Or.inr (Or.inr ⟨fun h => by omega, ?_⟩))⟩
    · rw [a1]; exact an_rg (fun h => by
        have hI9 : ∀ c, 0 ≤ rhS σ (acp σ x).toNat (1 + (((x / 16) / 6) % 6)).toNat 10 (acp σ x).toNat c := by
          intro c
          have hk : acp σ x ≤ σ 2 0 0 - 1 := by
            unfold kReh at h
            (repeat' split at h) <;> omega
          exact ((Jv_rhS hI hN (i := (acp σ x).toNat) (by omega) (q := (1 + (((x / 16) / 6) % 6)).toNat) (by omega)).2.2.2.2.2.2.2.2.2.2.2.2.1 _ c).1
        have e9 := rhS_k (σ := σ) (i := (acp σ x).toNat) (1 + (((x / 16) / 6) % 6)).toNat 8 (by decide)
        have := wsm_rg hI9 ((rhS σ (acp σ x).toNat (1 + (((x / 16) / 6) % 6)).toNat) 8 (acp σ x).toNat 0).toNat
        have := b8 (acp σ x).toNat
        rw [e9] at *
        omega) (by decide) (by decide) (by decide)
    · subst a2; unfold stt; split
      · exact ⟨rhS_k _ 1 (by decide), rhS_k _ 2 (by decide), rhS_k _ 8 (by decide), rhS_k _ 9 (by decide)⟩
      · exact ⟨rfl, rfl, rfl, rfl⟩
