/-! the invariant behind each call -/
theorem Iv_up {σ : Sg} {n k N : Nat} (hI : Iv σ n k N) (h : N < 600) : Iv σ n k (N + 1) := by
  obtain ⟨hn, hn12, hk, hk6, hsg, haw, hch, hch1, hch0, htn, hto, htz, hpr, hN, hpz, hle, hlz⟩ := hI
  exact ⟨hn, hn12, hk, hk6, hsg, haw, hch, hch1, hch0, htn, hto, htz, fun i j => by have := hpr i j; omega, by omega, hpz, hle, hlz⟩
theorem Iv_add {σ : Sg} {n k N : Nat} (hI : Iv σ n k N) {v lo hi : Int} (h0 : kAdd σ v lo hi = 0) : Iv (sAdd σ v lo hi) (n + 1) k N := by
  obtain ⟨hn, hn12, hk, hk6, hsg, haw, hch, hch1, hch0, htn, hto, htz, hpr, hN, hpz, hle, hlz⟩ := hI
  have e9 : (σ 1 0 0).toNat = n := by omega
  have h1 : (0 ≤ v ∧ v ≤ 3) ∧ (0 ≤ lo ∧ lo ≤ 60) ∧ lo ≤ hi ∧ hi ≤ 60 ∧ σ 1 0 0 ≠ 12 := by
    unfold kAdd at h0
    (repeat' split at h0) <;> omega
  simp only [sAdd, e9]
  refine ⟨by simp [su, uI]; omega, by omega, hk, hk6, fun j hj => ?_, haw, hch, hch1, hch0, htn, hto, htz, hpr, hN, hpz, hle, hlz⟩
  have h3 : (su (su (su (su σ 3 0 n v) 4 0 n lo) 5 0 n hi) 1 0 0 (σ 1 0 0 + 1)) 3 0 j = uI (σ 3 0) n v j := by simp [su]
  have h4 : (su (su (su (su σ 3 0 n v) 4 0 n lo) 5 0 n hi) 1 0 0 (σ 1 0 0 + 1)) 4 0 j = uI (σ 4 0) n lo j := by simp [su]
  have h5 : (su (su (su (su σ 3 0 n v) 4 0 n lo) 5 0 n hi) 1 0 0 (σ 1 0 0 + 1)) 5 0 j = uI (σ 5 0) n hi j := by simp [su]
  rw [h3, h4, h5]
  by_cases e : j = n
  · subst e
    rw [uI_s, uI_s, uI_s]
    omega
  · rw [uI_n e, uI_n e, uI_n e]
    exact hsg j (by omega)
theorem Iv_tel {σ : Sg} {n k N : Nat} (hI : Iv σ n k N) (x d t : Int) : Iv (sTel σ x d t) n k N := by
  obtain ⟨hn, hn12, hk, hk6, hsg, haw, hch, hch1, hch0, htn, hto, htz, hpr, hN, hpz, hle, hlz⟩ := hI
  refine ⟨hn, hn12, hk, hk6, hsg, fun j => ?_, hch, hch1, hch0, htn, hto, htz, hpr, hN, hpz, hle, hlz⟩
  have h6 : sTel σ x d t 6 0 j = uI (σ 6 0) x.toNat (if t = 0 then orI (σ 6 0 x.toNat) (shlI 1 d) else andI (σ 6 0 x.toNat) (xorI (shlI 1 d) (-1))) j := by rw [sTel, su_s]
  rw [h6]
  by_cases e : j = x.toNat
  · subst e
    rw [uI_s]
    split <;> exact iI_rg _
  · rw [uI_n e]; exact haw j
theorem Iv_chg {σ : Sg} {n k N : Nat} (hI : Iv σ n k N) {x v : Int} (h0 : kChg σ x v = 0) : Iv (su σ 3 0 x.toNat v) n k N := by
  obtain ⟨hn, hn12, hk, hk6, hsg, haw, hch, hch1, hch0, htn, hto, htz, hpr, hN, hpz, hle, hlz⟩ := hI
  have h1 : 0 ≤ v ∧ v ≤ 3 := by
    unfold kChg at h0
    (repeat' split at h0) <;> omega
  refine ⟨hn, hn12, hk, hk6, fun j hj => ?_, haw, hch, hch1, hch0, htn, hto, htz, hpr, hN, hpz, hle, hlz⟩
  have h2 := hsg j hj
  have h3 : su σ 3 0 x.toNat v 3 0 j = uI (σ 3 0) x.toNat v j := by rw [su_s]
  rw [h3]
  by_cases e : j = x.toNat
  · subst e
    rw [uI_s]
    exact ⟨h1.1, h1.2, h2.2.2⟩
  · rw [uI_n e]; exact h2
theorem Iv_chd {σ : Sg} {n k N : Nat} (hI : Iv σ n k N) {a b c d : Int} (h0 : kChd σ a b c d = 0) : Iv (sChd σ a b c d) n k N := by
  obtain ⟨hn, hn12, hk, hk6, hsg, haw, hch, hch1, hch0, htn, hto, htz, hpr, hN, hpz, hle, hlz⟩ := hI
  have e9 : (σ 2 0 0).toNat = k := by omega
  have hck := hch k
  obtain ⟨z, hz8⟩ : ∃ z : Nat, σ 8 k 0 = (z : Int) := ⟨(σ 8 k 0).toNat, by omega⟩
  have e8 : (σ 8 k 0).toNat = z := by omega
  have h1 : (0 ≤ a ∧ a ≤ 60) ∧ (0 ≤ b ∧ b ≤ a) ∧ (0 ≤ c ∧ c ≤ b) ∧ (0 ≤ d ∧ d ≤ c) ∧ σ 8 k 0 ≠ 16 := by
    unfold kChd at h0
    rw [e9] at h0
    (repeat' split at h0) <;> omega
  simp only [sChd, e9, e8]
  generalize hτ : su (su (su (su (su σ 7 k (4 * z) a) 7 k (4 * z + 1) b) 7 k (4 * z + 2) c) 7 k (4 * z + 3) d) 8 k 0 (σ 8 k 0 + 1) = τ
  have e7 : τ 7 k = uI (uI (uI (uI (σ 7 k) (4 * z) a) (4 * z + 1) b) (4 * z + 2) c) (4 * z + 3) d := by rw [← hτ]; simp [su]
  have n7 : ∀ i, i ≠ k → τ 7 i = σ 7 i := fun i hi => by rw [← hτ]; simp [su, hi]
  have e8' : τ 8 k 0 = σ 8 k 0 + 1 := by rw [← hτ]; simp [su, uI]
  have n8 : ∀ i, i ≠ k → τ 8 i 0 = σ 8 i 0 := fun i hi => by rw [← hτ]; simp [su, hi]
  have t1 : τ 1 = σ 1 := by rw [← hτ]; rfl
  have t2 : τ 2 = σ 2 := by rw [← hτ]; rfl
  have t3 : τ 3 = σ 3 := by rw [← hτ]; rfl
  have t4 : τ 4 = σ 4 := by rw [← hτ]; rfl
  have t5 : τ 5 = σ 5 := by rw [← hτ]; rfl
  have t6 : τ 6 = σ 6 := by rw [← hτ]; rfl
  have t9 : τ 9 = σ 9 := by rw [← hτ]; rfl
  have t10 : τ 10 = σ 10 := by rw [← hτ]; rfl
  unfold Iv
  rw [t1, t2, t3, t4, t5, t6, t9, t10]
  refine ⟨hn, hn12, hk, hk6, hsg, haw, fun i => ?_, fun i hi => ?_, fun i hi => ?_, fun i j => ?_, fun i c => ?_, fun i hi j => ?_, hpr, hN, hpz, hle, hlz⟩
  · by_cases e : i = k
    · subst e; rw [e8']; omega
    · rw [n8 i e]; exact hch i
  · rw [n8 i (by omega)]; exact hch1 i hi
  · rw [n8 i (by omega)]; exact hch0 i hi
  · by_cases e : i = k
    · subst e; rw [e7]; exact ht_put (ht_put (ht_put (ht_put (htn i) _ (by omega)) _ (by omega)) _ (by omega)) _ (by omega) j
    · rw [n7 i e]; exact htn i j
  · by_cases e : i = k
    · subst e; rw [e7]; exact ho4 (hto i) z (by omega) c
    · rw [n7 i e]; exact hto i c
  · rw [n7 i (by omega)]; exact htz i hi j
theorem Iv_pce {σ : Sg} {n k N : Nat} (hI : Iv σ n k N) {x : Int} (h0 : kPce σ x = 0) : Iv (sPce σ x) n (k + 1) N := by
  obtain ⟨hn, hn12, hk, hk6, hsg, haw, hch, hch1, hch0, htn, hto, htz, hpr, hN, hpz, hle, hlz⟩ := hI
  have e9 : (σ 2 0 0).toNat = k := by omega
  have hck := hch k
  have h1 : 1 ≤ x ∧ x ≤ 3600 ∧ 0 < σ 8 k 0 ∧ σ 2 0 0 < 6 := by
    unfold kPce at h0
    rw [e9] at h0
    (repeat' split at h0) <;> omega
  simp only [sPce, e9]
  refine ⟨hn, hn12, by simp [su, uI]; omega, by omega, hsg, haw, hch, fun i hi => ?_, fun i hi => hch0 i (by omega), htn, hto, fun i hi j => htz i (by omega) j, hpr, hN, fun i hi j => hpz i (by omega) j, fun i => ?_, fun i hi => ?_⟩
  · show 1 ≤ σ 8 i 0
    by_cases e : i = k
    · subst e; omega
    · exact hch1 i (by omega)
  · show 0 ≤ su σ 9 k 0 x 9 i 0 ∧ su σ 9 k 0 x 9 i 0 ≤ 3600
    by_cases e : i = k
    · subst e; rw [su_s, uI_s]; omega
    · rw [su_n _ _ _ _ e]; exact hle i
  · show su σ 9 k 0 x 9 i 0 = 0
    rw [su_n _ _ _ _ (by omega)]; exact hlz i (by omega)
theorem Iv_set {σ : Sg} {n k N : Nat} (hI : Iv σ n k N) {x y v t : Int} (h0 : kSet σ x y v t = 0) : Iv (sSet σ x y v t) n k N := by
  obtain ⟨hn, hn12, hk, hk6, hsg, haw, hch, hch1, hch0, htn, hto, htz, hpr, hN, hpz, hle, hlz⟩ := hI
  have h1 : isC σ x y ∧ (0 ≤ v ∧ v ≤ 3) ∧ (0 ≤ t ∧ t ≤ 60) ∧ flr (σ 7 x.toNat) y.toNat v.toNat ≤ t ∧ t ≤ clg (σ 7 x.toNat) y.toNat v.toNat := by
    unfold kSet at h0
    split at h0
    · exact absurd h0 (by decide)
    · rename_i q1
      split at h0
      · exact absurd h0 (by decide)
      · rename_i q2
        split at h0
        · rename_i q3
          have q2 := Classical.not_not.mp q2
          exact ⟨Classical.not_not.mp q1, q2.1, q2.2, q3⟩
        · exact absurd h0 (by decide)
  obtain ⟨⟨c1, c2, c3, c4⟩, c5, c6, c7, c8⟩ := h1
  have e7 : sSet σ x y v t 7 x.toNat = uI (σ 7 x.toNat) (4 * y.toNat + v.toNat) t := by rw [sSet, su_s]
  have n7 : ∀ i, i ≠ x.toNat → sSet σ x y v t 7 i = σ 7 i := fun i hi => by rw [sSet, su_n _ _ _ _ hi]
  refine ⟨hn, hn12, hk, hk6, hsg, haw, hch, hch1, hch0, fun i j => ?_, fun i c => ?_, fun i hi j => ?_, hpr, hN, hpz, hle, hlz⟩
  · by_cases e : i = x.toNat
    · subst e; rw [e7]; exact ht_put (htn _) _ (by omega) j
    · rw [n7 i e]; exact htn i j
  · by_cases e : i = x.toNat
    · subst e; rw [e7]; exact ho_put' (hto _) (by omega) c7 c8 c
    · rw [n7 i e]; exact hto i c
  · rw [n7 i (by omega)]; exact htz i hi j
theorem Iv_0 : Iv (fun _ _ _ => 0) 0 0 0 := by
  exact ⟨rfl, by omega, rfl, by omega, fun j hj => by omega, fun j => by simp, fun i => by simp, fun i hi => by omega, fun i _ => rfl, fun i j => by simp, fun i c => by simp, fun i _ j => rfl, fun i j => by simp, by omega, fun i _ j => rfl, fun i => by simp, fun i _ => rfl⟩
