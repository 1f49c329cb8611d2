/-! the state that class and reference share: sg k i j (0 refusal, 1 singers, 2 pieces, 3 voice, 4 lowest, 5 highest, 6 away, 7 tones, 8 chords, 9 length, 10 practice) -/
abbrev Sg : Type := Nat → Nat → Nat → Int
def su (σ : Sg) (k i j : Nat) (v : Int) : Sg := fun a b => if a = k then (if b = i then uI (σ a b) j v else σ a b) else σ a b
/-- there on a date, by the bits of the dates away -/
def thr (w d : Int) : Bool := decide (andI (shrI w d) 1 = 0)
/-- singer k sings voice v on date d -/
def sgs (σ : Sg) (v d : Int) (k : Nat) : Bool := decide (σ 3 0 k = v) && thr (σ 6 0 k) d
theorem sgs_t {σ : Sg} {v d : Int} {k : Nat} (h1 : σ 3 0 k = v) (h2 : thr (σ 6 0 k) d = true) : sgs σ v d k = true := by simp [sgs, h1, h2]
theorem sgs_f1 {σ : Sg} {v d : Int} {k : Nat} (h1 : σ 3 0 k ≠ v) : sgs σ v d k = false := by simp [sgs, h1]
theorem sgs_f2 {σ : Sg} {v d : Int} {k : Nat} (h2 : ¬ thr (σ 6 0 k) d = true) : sgs σ v d k = false := by
  have h3 : thr (σ 6 0 k) d = false := by simpa using h2
  simp [sgs, h3]
/-- the invariant: n singers, k pieces, N calls behind -/
def Iv (σ : Sg) (n k N : Nat) : Prop :=
  σ 1 0 0 = (n : Int) ∧ n ≤ 12 ∧ σ 2 0 0 = (k : Int) ∧ k ≤ 6 ∧
  (∀ j, j < n → 0 ≤ σ 3 0 j ∧ σ 3 0 j ≤ 3 ∧ 0 ≤ σ 4 0 j ∧ σ 4 0 j ≤ σ 5 0 j ∧ σ 5 0 j ≤ 60) ∧
  (∀ j, -2147483648 ≤ σ 6 0 j ∧ σ 6 0 j < 2147483648) ∧
  (∀ i, 0 ≤ σ 8 i 0 ∧ σ 8 i 0 ≤ 16) ∧ (∀ i, i < k → 1 ≤ σ 8 i 0) ∧ (∀ i, k < i → σ 8 i 0 = 0) ∧
  (∀ i j, 0 ≤ σ 7 i j ∧ σ 7 i j ≤ 60) ∧ (∀ i c, σ 7 i (4 * c + 3) ≤ σ 7 i (4 * c + 2) ∧ σ 7 i (4 * c + 2) ≤ σ 7 i (4 * c + 1) ∧ σ 7 i (4 * c + 1) ≤ σ 7 i (4 * c)) ∧ (∀ i, k < i → ∀ j, σ 7 i j = 0) ∧
  (∀ i j, 0 ≤ σ 10 i j ∧ σ 10 i j ≤ 120 * N) ∧ N ≤ 600 ∧ (∀ i, k ≤ i → ∀ j, σ 10 i j = 0) ∧
  (∀ i, 0 ≤ σ 9 i 0 ∧ σ 9 i 0 ≤ 3600) ∧ (∀ i, k ≤ i → σ 9 i 0 = 0)
/-- the first tone of a voice's range, as the reference finds it -/
def foA (σ : Sg) (v d : Int) : Nat → Int
  | 0 => -1
  | k + 1 => if sgs σ v d k = true ∧ foA σ v d k < σ 4 0 k then σ 4 0 k else foA σ v d k
def foM (σ : Sg) (v d : Int) (n : Nat) : Int := if foA σ v d n < 0 then 61 else foA σ v d n
def laA (σ : Sg) (v d : Int) : Nat → Int
  | 0 => 60
  | k + 1 => if sgs σ v d k = true ∧ σ 5 0 k < laA σ v d k then σ 5 0 k else laA σ v d k
theorem foA_s (σ : Sg) (v d : Int) (k : Nat) : foA σ v d (k + 1) = if sgs σ v d k = true ∧ foA σ v d k < σ 4 0 k then σ 4 0 k else foA σ v d k := rfl
theorem laA_s (σ : Sg) (v d : Int) (k : Nat) : laA σ v d (k + 1) = if sgs σ v d k = true ∧ σ 5 0 k < laA σ v d k then σ 5 0 k else laA σ v d k := rfl
theorem foA_rg {σ : Sg} {v d : Int} {n : Nat} (h : ∀ j, j < n → 0 ≤ σ 4 0 j ∧ σ 4 0 j ≤ 60) : ∀ k, k ≤ n → -1 ≤ foA σ v d k ∧ foA σ v d k ≤ 60
  | 0, _ => by simp [foA]
  | k + 1, hk => by
    have h1 := foA_rg (v := v) (d := d) h k (by omega)
    have h2 := h k (by omega)
    rw [foA_s]
    split <;> omega
theorem laA_rg {σ : Sg} {v d : Int} {n : Nat} (h : ∀ j, j < n → 0 ≤ σ 5 0 j ∧ σ 5 0 j ≤ 60) : ∀ k, k ≤ n → 0 ≤ laA σ v d k ∧ laA σ v d k ≤ 60
  | 0, _ => by simp [laA]
  | k + 1, hk => by
    have h1 := laA_rg (v := v) (d := d) h k (by omega)
    have h2 := h k (by omega)
    rw [laA_s]
    split <;> omega
/-! the reference's world -/
abbrev MW (G : gT) (A : Nat → Nat) (r0 : Int) (σ : Sg) : va_W := [(A 0, .inr (3, [.int (iI r0), .int (iI (σ 1 0 0)), .ref (A 1), .ref (A 2), .ref (A 3), .ref (A 4), .int (iI (σ 2 0 0)), .ref (A 5), .ref (A 6), .ref (A 7), .ref (A 8)])),
  (A 1, .inl (G.2.1, 12, .inl (ia (σ 3 0)))), (A 2, .inl (G.2.1, 12, .inl (ia (σ 4 0)))), (A 3, .inl (G.2.1, 12, .inl (ia (σ 5 0)))), (A 4, .inl (G.2.1, 12, .inl (ia (σ 6 0)))),
  (A 5, .inl (G.2.1, 448, .inl (ia (fun q => σ 7 (q / 64) (q % 64))))), (A 6, .inl (G.2.1, 7, .inl (ia (fun q => σ 8 q 0)))), (A 7, .inl (G.2.1, 6, .inl (ia (fun q => σ 9 q 0)))), (A 8, .inl (G.2.1, 96, .inl (ia (fun q => σ 10 (q / 16) (q % 16)))))]
