/-! the class's answers are the reference's -/
theorem rng_eq {σ : Sg} {v d : Int} {n : Nat} (h : ∀ j, j < n → 0 ≤ σ 4 0 j ∧ σ 4 0 j ≤ σ 5 0 j ∧ σ 5 0 j ≤ 60) : ∀ k, k ≤ n → (foA σ v d k = -1 ∧ laA σ v d k = 60 ∧ ftC σ v d k = 0 ∧ ltC σ v d k = -1) ∨ (0 ≤ foA σ v d k ∧ foA σ v d k = ftC σ v d k ∧ laA σ v d k = ltC σ v d k ∧ 0 ≤ ltC σ v d k ∧ ltC σ v d k ≤ 60)
  | 0, _ => Or.inl ⟨rfl, rfl, rfl, rfl⟩
  | k + 1, hk => by
    have h1 := rng_eq (v := v) (d := d) h k (by omega)
    have h2 := h k (by omega)
    rw [foA_s, laA_s, ftC_s, ltC_s]
    by_cases q : sgs σ v d k = true
    · right
      simp only [q, true_and, if_true]
      rcases h1 with ⟨a1, a2, a3, a4⟩ | ⟨a1, a2, a3, a4, a5⟩
      · rw [a1, a2, a3, a4]
        (repeat' split) <;> omega
      · (repeat' split) <;> omega
    · rw [if_neg (fun z => q z.1), if_neg (fun z => q z.1), if_neg q, if_neg q]
      exact h1
/-- promise 5's answer -/
theorem vRng_eq {σ : Sg} {v d : Int} {n : Nat} (h : ∀ j, j < n → 0 ≤ σ 4 0 j ∧ σ 4 0 j ≤ σ 5 0 j ∧ σ 5 0 j ≤ 60) : (if ltC σ v d n < ftC σ v d n then -1 else 100 * ftC σ v d n + ltC σ v d n) = vRng σ v d n := by
  have h1 := rng_eq (v := v) (d := d) h n (Nat.le_refl n)
  unfold vRng foM
  rcases h1 with ⟨a1, a2, a3, a4⟩ | ⟨a1, a2, a3, a4, a5⟩
  · rw [a1, a2, a3, a4]; decide
  · rw [if_neg (by omega : ¬ foA σ v d n < 0), a2, a3]
theorem msM_eq {σ : Sg} {d : Int} {n : Nat} (h : ∀ j, j < n → 0 ≤ σ 4 0 j ∧ σ 4 0 j ≤ σ 5 0 j ∧ σ 5 0 j ≤ 60) : ∀ k, msM σ d n k = msC σ d n k
  | 0 => rfl
  | k + 1 => by
    rw [msM_s, msC_s, msM_eq h k]
    have h1 := rng_eq (v := σ 3 0 k) (d := d) h n (Nat.le_refl n)
    have h3 := ftC_rg (σ := σ) (v := σ 3 0 k) (d := d) (n := n) (fun j hj => by have := h j hj; omega) n (Nat.le_refl n)
    have h2 : foM σ (σ 3 0 k) d n = 61 ↔ ltC σ (σ 3 0 k) d n < 0 := by
      unfold foM
      rcases h1 with ⟨a1, a2, a3, a4⟩ | ⟨a1, a2, a3, a4, a5⟩
      · rw [a1, a4]; decide
      · rw [if_neg (by omega)]; omega
    by_cases q : ¬ thr (σ 6 0 k) d = true ∧ ltC σ (σ 3 0 k) d n < 0
    · rw [if_pos q, if_pos ⟨q.1, h2.mpr q.2⟩]
    · rw [if_neg q, if_neg (fun z => q ⟨z.1, h2.mp z.2⟩)]
/-! shifts -/
theorem ftc_iff {σ : Sg} {i v : Nat} {x fo la : Int} {b : Bool} : ∀ c, ftc σ i v x fo la b c = true ↔ b = true ∧ ∀ q, q < c → fo ≤ σ 7 i (4 * q + v) + x ∧ σ 7 i (4 * q + v) + x ≤ la
  | 0 => ⟨fun h => ⟨h, fun q hq => by omega⟩, fun h => h.1⟩
  | c + 1 => by
    rw [ftc_s, Bool.and_eq_true, ftc_iff c, decide_eq_true_eq]
    constructor
    · intro ⟨⟨h1, h2⟩, h3⟩
      refine ⟨h1, fun q hq => ?_⟩
      by_cases e : q = c
      · subst e; exact h3
      · exact h2 q (by omega)
    · intro ⟨h1, h2⟩
      exact ⟨⟨h1, fun q hq => h2 q (by omega)⟩, h2 c (by omega)⟩
theorem lwC_le (tn : Nat → Int) (v : Nat) : ∀ s q, q < s → lwC tn v s ≤ tn (4 * q + v)
  | 0, q, h => by omega
  | s + 1, q, h => by
    show min (lwC tn v s) (tn (4 * s + v)) ≤ _
    by_cases e : q = s
    · subst e; omega
    · have := lwC_le tn v s q (by omega); omega
theorem hgC_le (tn : Nat → Int) (v : Nat) : ∀ s q, q < s → tn (4 * q + v) ≤ hgC tn v s
  | 0, q, h => by omega
  | s + 1, q, h => by
    show _ ≤ max (hgC tn v s) (tn (4 * s + v))
    by_cases e : q = s
    · subst e; omega
    · have := hgC_le tn v s q (by omega); omega
theorem lwC_at {tn : Nat → Int} (ht : ∀ j, 0 ≤ tn j ∧ tn j ≤ 60) (v : Nat) : ∀ s, 0 < s → ∃ q, q < s ∧ lwC tn v s = tn (4 * q + v)
  | 0, h => by omega
  | s + 1, _ => by
    show ∃ q, q < s + 1 ∧ min (lwC tn v s) (tn (4 * s + v)) = _
    by_cases e : tn (4 * s + v) ≤ lwC tn v s
    · exact ⟨s, by omega, by omega⟩
    · have h1 := ht (4 * s + v)
      cases s with
      | zero => exact ⟨0, by omega, by simp only [lwC] at e; omega⟩
      | succ s =>
        obtain ⟨q, h2, h3⟩ := lwC_at ht v (s + 1) (by omega)
        exact ⟨q, by omega, by rw [← h3]; omega⟩
theorem hgC_at {tn : Nat → Int} (ht : ∀ j, 0 ≤ tn j ∧ tn j ≤ 60) (v : Nat) : ∀ s, 0 < s → ∃ q, q < s ∧ hgC tn v s = tn (4 * q + v)
  | 0, h => by omega
  | s + 1, _ => by
    show ∃ q, q < s + 1 ∧ max (hgC tn v s) (tn (4 * s + v)) = _
    by_cases e : hgC tn v s ≤ tn (4 * s + v)
    · exact ⟨s, by omega, by omega⟩
    · have h1 := ht (4 * s + v)
      cases s with
      | zero => exact ⟨0, by omega, by simp only [hgC] at e; omega⟩
      | succ s =>
        obtain ⟨q, h2, h3⟩ := hgC_at ht v (s + 1) (by omega)
        exact ⟨q, by omega, by rw [← h3]; omega⟩
/-- the class's bounds of the shifts, over the voices -/
def nlo (σ : Sg) (i n : Nat) (d : Int) : Nat → Int
  | 0 => -12
  | v + 1 => max (nlo σ i n d v) (ftC σ (v : Int) d n - lwC (σ 7 i) v (σ 8 i 0).toNat)
def nhi (σ : Sg) (i n : Nat) (d : Int) : Nat → Int
  | 0 => 12
  | v + 1 => min (nhi σ i n d v) (ltC σ (v : Int) d n - hgC (σ 7 i) v (σ 8 i 0).toNat)
def nsC (σ : Sg) (i n : Nat) (d : Int) : Int := if nhi σ i n d 4 < nlo σ i n d 4 then 13 else max (nlo σ i n d 4) (min (nhi σ i n d 4) 0)
theorem nlo_rg {σ : Sg} {i n : Nat} {d : Int} (h : ∀ j, j < n → 0 ≤ σ 4 0 j ∧ σ 4 0 j ≤ σ 5 0 j ∧ σ 5 0 j ≤ 60) (ht : ∀ j, 0 ≤ σ 7 i j ∧ σ 7 i j ≤ 60) : ∀ v, -100 ≤ nlo σ i n d v ∧ nlo σ i n d v ≤ 100
  | 0 => by simp [nlo]
  | v + 1 => by
    have h1 := nlo_rg (d := d) h ht v
    have h2 := ftC_rg (σ := σ) (v := (v : Int)) (d := d) (n := n) (fun j hj => by have := h j hj; omega) n (Nat.le_refl n)
    have h3 := lwC_rg ht v (σ 8 i 0).toNat
    simp only [nlo]; omega
theorem nhi_rg {σ : Sg} {i n : Nat} {d : Int} (h : ∀ j, j < n → 0 ≤ σ 4 0 j ∧ σ 4 0 j ≤ σ 5 0 j ∧ σ 5 0 j ≤ 60) (ht : ∀ j, 0 ≤ σ 7 i j ∧ σ 7 i j ≤ 60) : ∀ v, -100 ≤ nhi σ i n d v ∧ nhi σ i n d v ≤ 100
  | 0 => by simp [nhi]
  | v + 1 => by
    have h1 := nhi_rg (d := d) h ht v
    have h2 := ltC_rg (σ := σ) (v := (v : Int)) (d := d) (n := n) (fun j hj => by have := h j hj; omega) n (Nat.le_refl n)
    have h3 := hgC_rg ht v (σ 8 i 0).toNat
    simp only [nhi]; omega
theorem ftc_cls {σ : Sg} {i n v : Nat} {d x : Int} {b : Bool} (h : ∀ j, j < n → 0 ≤ σ 4 0 j ∧ σ 4 0 j ≤ σ 5 0 j ∧ σ 5 0 j ≤ 60) (ht : ∀ j, 0 ≤ σ 7 i j ∧ σ 7 i j ≤ 60) (hs : 0 < (σ 8 i 0).toNat) :
    ftc σ i v x (foM σ (v : Int) d n) (laA σ (v : Int) d n) b (σ 8 i 0).toNat = true ↔ b = true ∧ ftC σ (v : Int) d n - lwC (σ 7 i) v (σ 8 i 0).toNat ≤ x ∧ x ≤ ltC σ (v : Int) d n - hgC (σ 7 i) v (σ 8 i 0).toNat := by
  rw [ftc_iff]
  obtain ⟨ql, l1, l2⟩ := lwC_at ht v _ hs
  obtain ⟨qh, k1, k2⟩ := hgC_at ht v _ hs
  have hle := lwC_le (σ 7 i) v (σ 8 i 0).toNat
  have hge := hgC_le (σ 7 i) v (σ 8 i 0).toNat
  have h1 := rng_eq (v := (v : Int)) (d := d) h n (Nat.le_refl n)
  refine and_congr_right (fun _ => ?_)
  unfold foM
  rcases h1 with ⟨a1, a2, a3, a4⟩ | ⟨a1, a2, a3, a4, a5⟩
  · rw [if_pos (by omega), a2, a3, a4]
    constructor
    · intro hq
      have := hq ql l1
      omega
    · intro hq
      have := hle ql l1
      have := hge ql l1
      omega
  · rw [if_neg (by omega), a2, a3]
    constructor
    · intro hq
      have z1 := hq ql l1
      have z2 := hq qh k1
      omega
    · intro hq q hq2
      have z1 := hle q hq2
      have z2 := hge q hq2
      omega
theorem ftv_cls {σ : Sg} {i n : Nat} {d x : Int} (h : ∀ j, j < n → 0 ≤ σ 4 0 j ∧ σ 4 0 j ≤ σ 5 0 j ∧ σ 5 0 j ≤ 60) (ht : ∀ j, 0 ≤ σ 7 i j ∧ σ 7 i j ≤ 60) (hs : 0 < (σ 8 i 0).toNat) (hx : -12 ≤ x ∧ x ≤ 12) : ∀ v, ftv σ i n d x v = true ↔ nlo σ i n d v ≤ x ∧ x ≤ nhi σ i n d v
  | 0 => ⟨fun _ => hx, fun _ => rfl⟩
  | v + 1 => by
    rw [ftv_s, ftc_cls h ht hs, ftv_cls h ht hs hx v]
    simp only [nlo, nhi]; omega
theorem shS_no {σ : Sg} {i n : Nat} {d : Int} (h : ∀ j, j < n → 0 ≤ σ 4 0 j ∧ σ 4 0 j ≤ σ 5 0 j ∧ σ 5 0 j ≤ 60) (ht : ∀ j, 0 ≤ σ 7 i j ∧ σ 7 i j ≤ 60) (hs : 0 < (σ 8 i 0).toNat) (hn : nhi σ i n d 4 < nlo σ i n d 4) : ∀ r, r ≤ 13 → shS σ i n d r = 99
  | 0, _ => rfl
  | r + 1, hr => by
    rw [shS_s, if_neg (fun z => by have := (ftv_cls h ht hs (by omega) 4).mp z; omega), if_neg (fun z => by have := (ftv_cls h ht hs (by omega) 4).mp z; omega)]
    exact shS_no h ht hs hn r (by omega)
theorem shS_yes {σ : Sg} {i n : Nat} {d t : Int} (h : ∀ j, j < n → 0 ≤ σ 4 0 j ∧ σ 4 0 j ≤ σ 5 0 j ∧ σ 5 0 j ≤ 60) (ht : ∀ j, 0 ≤ σ 7 i j ∧ σ 7 i j ≤ 60) (hs : 0 < (σ 8 i 0).toNat) (hlo : -12 ≤ nlo σ i n d 4) (hhi : nhi σ i n d 4 ≤ 12) (hn : nlo σ i n d 4 ≤ nhi σ i n d 4) (he : t = max (nlo σ i n d 4) (min (nhi σ i n d 4) 0)) : ∀ (m q : Nat), ((q + m : Nat) : Int) = absI t → shS σ i n d (13 - q) = t
  | 0, q, hm => by
    unfold absI at hm
    rw [shS_q σ i n d (by split at hm <;> omega)]
    by_cases q1 : nlo σ i n d 4 ≤ -(q : Int)
    · rw [if_pos ((ftv_cls h ht hs (by split at hm <;> omega) 4).mpr (by split at hm <;> omega))]
      split at hm <;> omega
    · rw [if_neg (fun z => q1 ((ftv_cls h ht hs (by split at hm <;> omega) 4).mp z).1), if_pos ((ftv_cls h ht hs (by split at hm <;> omega) 4).mpr (by split at hm <;> omega))]
      split at hm <;> omega
  | m + 1, q, hm => by
    have hm2 := hm
    unfold absI at hm
    rw [shS_q σ i n d (by split at hm <;> omega), if_neg (fun z => by have := (ftv_cls h ht hs (by split at hm <;> omega) 4).mp z; split at hm <;> omega), if_neg (fun z => by have := (ftv_cls h ht hs (by split at hm <;> omega) 4).mp z; split at hm <;> omega)]
    exact shS_yes h ht hs hlo hhi hn he m (q + 1) (by rw [← hm2]; omega)
theorem nlo_12 {σ : Sg} {i n : Nat} {d : Int} : ∀ v, -12 ≤ nlo σ i n d v
  | 0 => by simp [nlo]
  | v + 1 => by have := nlo_12 (σ := σ) (i := i) (n := n) (d := d) v; simp only [nlo]; omega
theorem nhi_12 {σ : Sg} {i n : Nat} {d : Int} : ∀ v, nhi σ i n d v ≤ 12
  | 0 => by simp [nhi]
  | v + 1 => by have := nhi_12 (σ := σ) (i := i) (n := n) (d := d) v; simp only [nhi]; omega
/-- the class's shift is the reference's -/
theorem nsC_eq {σ : Sg} {i n : Nat} {d : Int} (h : ∀ j, j < n → 0 ≤ σ 4 0 j ∧ σ 4 0 j ≤ σ 5 0 j ∧ σ 5 0 j ≤ 60) (ht : ∀ j, 0 ≤ σ 7 i j ∧ σ 7 i j ≤ 60) (hs : 0 < (σ 8 i 0).toNat) : (shS σ i n d 13 = 99 ∧ nsC σ i n d = 13) ∨ (shS σ i n d 13 = nsC σ i n d ∧ -12 ≤ nsC σ i n d ∧ nsC σ i n d ≤ 12) := by
  have h1 := nlo_12 (σ := σ) (i := i) (n := n) (d := d) 4
  have h2 := nhi_12 (σ := σ) (i := i) (n := n) (d := d) 4
  by_cases q : nhi σ i n d 4 < nlo σ i n d 4
  · left
    exact ⟨shS_no h ht hs q 13 (Nat.le_refl _), by unfold nsC; rw [if_pos q]⟩
  · right
    have h3 : nsC σ i n d = max (nlo σ i n d 4) (min (nhi σ i n d 4) 0) := by unfold nsC; rw [if_neg q]
    refine ⟨?_, by omega, by omega⟩
    have h4 : ((absI (nsC σ i n d)).toNat : Int) = absI (nsC σ i n d) := by unfold absI; split <;> omega
    exact shS_yes h ht hs h1 h2 (by omega) h3 (absI (nsC σ i n d)).toNat 0 (by rw [← h4]; omega)
/-! weakness -/
theorem wk_eq {σ : Sg} {i c : Nat} (hc : (c : Int) < σ 8 i 0) : wkC (mff (σ 7 i) (σ 8 i 0)) (σ 10 i) c = wkS σ i c := by
  unfold wkC wkS mff
  rw [if_pos hc]
  split <;> omega
theorem ws_eq {σ : Sg} {i : Nat} : ∀ c : Nat, (c : Int) ≤ σ 8 i 0 → wsC (mff (σ 7 i) (σ 8 i 0)) (σ 10 i) c = wsm σ i c
  | 0, _ => rfl
  | c + 1, h => by
    show wsC (mff (σ 7 i) (σ 8 i 0)) (σ 10 i) c + wkC (mff (σ 7 i) (σ 8 i 0)) (σ 10 i) c = wsm σ i c + wkS σ i c
    rw [ws_eq c (by omega), wk_eq (by omega)]
theorem wc_eq {σ : Sg} {i : Nat} (h0 : 0 < σ 8 i 0) : ∀ c : Nat, (c : Int) < σ 8 i 0 → wcC (mff (σ 7 i) (σ 8 i 0)) (σ 10 i) c = wkt σ i c
  | 0, _ => rfl
  | c + 1, h => by
    have h1 := wkt_le σ i c
    rw [wcC_s, wkt_s, wc_eq h0 c (by omega), wk_eq (by omega), wk_eq (by omega)]
theorem wq_eq {σ : Sg} {i : Nat} (h0 : 0 < σ 8 i 0) : wcC (mff (σ 7 i) (σ 8 i 0)) (σ 10 i) ((σ 8 i 0).toNat - 1) = wkq σ i := wc_eq h0 _ (by omega)
/-! sets of pieces -/
theorem orI_0 {x : Int} (h : -2147483648 ≤ x ∧ x < 2147483648) : orI x 0 = x := by
  unfold orI
  rw [iI_0, Int32.or_zero, iI_toInt h]
theorem andI_comm (a b : Int) : andI a b = andI b a := by
  unfold andI
  rw [Int32.and_comm]
