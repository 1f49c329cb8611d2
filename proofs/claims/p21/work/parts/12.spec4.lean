/-! one tone tried after the other -/
def tqs (tn : Nat → Int) (i : Nat) (lo : Int) : Nat → Nat → Int
  | 0 => tn
  | q + 1 => uI tn i (lo + (q : Int))
theorem tqs_put (tn : Nat → Int) (i : Nat) (lo : Int) (q : Nat) : uI (tqs tn i lo q) i (lo + (q : Int)) = tqs tn i lo (q + 1) := by
  cases q with
  | zero => rfl
  | succ q => exact uI_uI _ _ _ _
theorem tqs_back (tn : Nat → Int) (i : Nat) (lo : Int) (q : Nat) : uI (tqs tn i lo q) i (tn i) = tn := by
  cases q with
  | zero => exact uI_self _ _
  | succ q => exact (uI_uI _ _ _ _).trans (uI_self _ _)
def lfS (tn : Nat → Int) (i : Nat) (lo sz : Int) : Nat → Int
  | 0 => alf tn sz
  | q + 1 => min (lfS tn i lo sz q) (alf (tqs tn i lo (q + 1)) sz)
theorem alf_rg (t : Nat → Int) {sz : Int} (h : 0 ≤ sz ∧ sz ≤ 16) : 0 ≤ alf t sz ∧ alf t sz ≤ 640 := by
  have h1 := afs_rg t (sz.toNat - 1)
  unfold alf
  omega
theorem lfS_rg (tn : Nat → Int) (i : Nat) (lo : Int) {sz : Int} (h : 0 ≤ sz ∧ sz ≤ 16) : ∀ q, 0 ≤ lfS tn i lo sz q ∧ lfS tn i lo sz q ≤ 640
  | 0 => alf_rg tn h
  | q + 1 => by
    have h1 := lfS_rg tn i lo h q
    have h2 := alf_rg (tqs tn i lo (q + 1)) h
    show 0 ≤ min (lfS tn i lo sz q) (alf (tqs tn i lo (q + 1)) sz) ∧ min (lfS tn i lo sz q) (alf (tqs tn i lo (q + 1)) sz) ≤ 640
    omega
theorem ht_put {tn : Nat → Int} (ht : ∀ j, 0 ≤ tn j ∧ tn j ≤ 60) (i : Nat) {x : Int} (hx : 0 ≤ x ∧ x ≤ 60) : ∀ j, 0 ≤ uI tn i x j ∧ uI tn i x j ≤ 60 := by
  intro j
  have := ht j
  unfold uI
  split <;> omega
theorem ho_put {tn : Nat → Int} (ho : ∀ c, tn (4 * c + 3) ≤ tn (4 * c + 2) ∧ tn (4 * c + 2) ≤ tn (4 * c + 1) ∧ tn (4 * c + 1) ≤ tn (4 * c)) {c v : Nat} (hv : v < 4) {x : Int} (h1 : v < 3 → tn (4 * c + (v + 1)) ≤ x) (h2 : 0 < v → x ≤ tn (4 * c + (v - 1))) :
    ∀ d, uI tn (4 * c + v) x (4 * d + 3) ≤ uI tn (4 * c + v) x (4 * d + 2) ∧ uI tn (4 * c + v) x (4 * d + 2) ≤ uI tn (4 * c + v) x (4 * d + 1) ∧ uI tn (4 * c + v) x (4 * d + 1) ≤ uI tn (4 * c + v) x (4 * d) := by
  intro d
  have h := ho d
  by_cases hd : d = c
  · subst hd
    have hv4 : v = 0 ∨ v = 1 ∨ v = 2 ∨ v = 3 := by omega
    rcases hv4 with rfl | rfl | rfl | rfl
    · have h1 := h1 (by omega)
      rw [show 4 * d + 0 = 4 * d by omega] at *
      rw [uI_n (k := 4 * d) (by omega), uI_n (k := 4 * d) (by omega), uI_n (k := 4 * d) (by omega), uI_s]
      exact ⟨h.1, h.2.1, h1⟩
    · have h1 := h1 (by omega)
      have h2 := h2 (by omega)
      rw [uI_n (k := 4 * d + 1) (by omega), uI_n (k := 4 * d + 1) (by omega), uI_s, uI_n (k := 4 * d + 1) (by omega)]
      exact ⟨h.1, h1, h2⟩
    · have h1 := h1 (by omega)
      have h2 := h2 (by omega)
      rw [uI_n (k := 4 * d + 2) (by omega), uI_s, uI_n (k := 4 * d + 2) (by omega), uI_n (k := 4 * d + 2) (by omega)]
      exact ⟨h1, h2, h.2.2⟩
    · have h2 := h2 (by omega)
      rw [uI_s, uI_n (k := 4 * d + 3) (by omega), uI_n (k := 4 * d + 3) (by omega), uI_n (k := 4 * d + 3) (by omega)]
      exact ⟨h2, h.2.1, h.2.2⟩
  · rw [uI_n (by omega), uI_n (by omega), uI_n (by omega), uI_n (by omega)]
    exact h
/-- the least faults with one tone put elsewhere -/
abbrev lft (tn : Nat → Int) (c v : Nat) (sz : Int) : Int := lfS tn (4 * c + v) (flr tn c v) sz (clg tn c v - flr tn c v + 1).toNat
theorem flr_rg {tn : Nat → Int} (ht : ∀ j, 0 ≤ tn j ∧ tn j ≤ 60) (c v : Nat) : 0 ≤ flr tn c v ∧ flr tn c v ≤ 60 := by
  have := ht (4 * c + (v + 1))
  unfold flr
  split <;> omega
theorem clg_rg {tn : Nat → Int} (ht : ∀ j, 0 ≤ tn j ∧ tn j ≤ 60) (c v : Nat) : 0 ≤ clg tn c v ∧ clg tn c v ≤ 60 := by
  have := ht (4 * c + (v - 1))
  unfold clg
  split <;> omega
theorem ho_put' {tn : Nat → Int} (ho : ∀ c, tn (4 * c + 3) ≤ tn (4 * c + 2) ∧ tn (4 * c + 2) ≤ tn (4 * c + 1) ∧ tn (4 * c + 1) ≤ tn (4 * c)) {c v : Nat} (hv : v < 4) {x : Int} (h1 : flr tn c v ≤ x) (h2 : x ≤ clg tn c v) :
    ∀ d, uI tn (4 * c + v) x (4 * d + 3) ≤ uI tn (4 * c + v) x (4 * d + 2) ∧ uI tn (4 * c + v) x (4 * d + 2) ≤ uI tn (4 * c + v) x (4 * d + 1) ∧ uI tn (4 * c + v) x (4 * d + 1) ≤ uI tn (4 * c + v) x (4 * d) :=
  ho_put ho hv (fun q => by unfold flr at h1; rw [if_neg (by omega)] at h1; exact h1) (fun q => by unfold clg at h2; rw [if_neg (by omega)] at h2; exact h2)
