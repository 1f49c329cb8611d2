theorem kSet_put {σ : Sg} {p c v : Nat} (hp : (p : Int) < σ 2 0 0) (hc : (c : Int) < σ 8 p 0) (hv : v < 4) (X : Int) {t : Int} (ht : 0 ≤ t ∧ t ≤ 60) : kSet (su σ 7 p (4 * c + v) X) (p : Int) (c : Int) (v : Int) t = if flr (σ 7 p) c v ≤ t ∧ t ≤ clg (σ 7 p) c v then 0 else 3 := by
  have e1 : flr (su σ 7 p (4 * c + v) X 7 p) c v = flr (σ 7 p) c v := by rw [su_at]; exact flr_put _ _ _ _
  have e2 : clg (su σ 7 p (4 * c + v) X 7 p) c v = clg (σ 7 p) c v := by rw [su_at]; exact clg_put _ _
  have h1 : isC (su σ 7 p (4 * c + v) X) (p : Int) (c : Int) := by
    show 0 ≤ (p : Int) ∧ (p : Int) ≤ σ 2 0 0 - 1 ∧ 0 ≤ (c : Int) ∧ (c : Int) ≤ σ 8 p 0 - 1
    omega
  unfold kSet
  rw [if_neg (fun q => q h1), if_neg (fun q => q (by omega))]
  simp only [Int.toNat_natCast]
  by_cases q : flr (σ 7 p) c v ≤ t ∧ t ≤ clg (σ 7 p) c v
  · rw [if_pos q, if_pos (by rw [e1, e2]; exact q)]
  · rw [if_neg q, if_neg (by rw [e1, e2]; exact q)]
theorem alf_put (σ : Sg) (p j : Nat) (X : Int) : alf (su σ 7 p j X 7 p) (su σ 7 p j X 8 p 0) = alf (uI (σ 7 p) j X) (σ 8 p 0) := by rw [su_at]; rfl
theorem rh1_8 (σ : Sg) (i p : Nat) : rh1 σ i 8 p 0 = σ 8 p 0 := rfl
