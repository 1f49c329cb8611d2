/-! the planner's world: the roster, the planner, its pieces, the draft the last of them -/
abbrev PWi (G : gT) (P : Nat → Nat → Nat) (σ : Sg) (i : Nat) : va_W := PW G (P i) (σ 7 i) (σ 10 i) (mff (σ 7 i) (σ 8 i 0)) (σ 8 i 0) (σ 9 i 0)
def PL (G : gT) (P : Nat → Nat → Nat) (σ : Sg) : Nat → va_W
  | 0 => []
  | k + 1 => PL G P σ k ++ PWi G P σ k
theorem PL_s (G : gT) (P : Nat → Nat → Nat) (σ : Sg) (k : Nat) : PL G P σ (k + 1) = PL G P σ k ++ PWi G P σ k := rfl
abbrev rfP (P : Nat → Nat → Nat) (k : Nat) : Nat → Option Nat := fun j => if j < k then some (P j 0) else none
abbrev CH (G : gT) (B : Nat → Nat) (P : Nat → Nat → Nat) (σ : Sg) (k : Nat) : va_W := [(B 5, .inr (2, [.ref (B 0), .ref (B 6), .int (iI (σ 2 0 0)), .ref (P k 0)])), (B 6, .inl (G.2.2.1, 6, .inr (.inr (.inr (.inr (rfP P k))))))]
abbrev CW (G : gT) (B : Nat → Nat) (P : Nat → Nat → Nat) (σ : Sg) (k : Nat) : va_W := RW G B σ ++ (CH G B P σ k ++ PL G P σ (k + 1))
theorem PL_mem {G : gT} {P : Nat → Nat → Nat} {σ : Sg} {i : Nat} : ∀ {k : Nat}, i < k → ∀ q ∈ PWi G P σ i, q ∈ PL G P σ k
  | 0, h => by omega
  | k + 1, h => by
    intro q hq
    rw [PL_s]
    by_cases e : i = k
    · subst e; exact List.mem_append_right _ hq
    · exact List.mem_append_left _ (PL_mem (by omega) q hq)
theorem CW_R {G : gT} {B : Nat → Nat} {P : Nat → Nat → Nat} {σ : Sg} {k : Nat} {H : Heap} (h : gP G (CW G B P σ k) H) : gP G (RW G B σ) H := (gP_app.mp h).1
theorem CW_P {G : gT} {B : Nat → Nat} {P : Nat → Nat → Nat} {σ : Sg} {k : Nat} {H : Heap} (h : gP G (CW G B P σ k) H) (i : Nat) (hi : i ≤ k) : gP G (PWi G P σ i) H :=
  gP_of_mem (fun q hq => List.mem_append_right _ (List.mem_append_right _ (PL_mem (by omega) q hq))) h
/-- the pieces but one -/
def PX (G : gT) (P : Nat → Nat → Nat) (σ : Sg) (i : Nat) : Nat → va_W
  | 0 => []
  | k + 1 => if k = i then PX G P σ i k else PX G P σ i k ++ PWi G P σ k
theorem PX_ge {G : gT} {P : Nat → Nat → Nat} {σ : Sg} {i : Nat} : ∀ {k : Nat}, k ≤ i → PX G P σ i k = PL G P σ k
  | 0, _ => rfl
  | k + 1, h => by rw [PX, if_neg (by omega), PX_ge (by omega), PL_s]
theorem PX_perm {G : gT} {P : Nat → Nat → Nat} {σ : Sg} {i : Nat} : ∀ {k : Nat}, i < k → (PL G P σ k).Perm (PWi G P σ i ++ PX G P σ i k)
  | 0, h => by omega
  | k + 1, h => by
    rw [PL_s, PX]
    by_cases e : k = i
    · subst e
      rw [if_pos rfl, PX_ge (Nat.le_refl _)]
      exact List.perm_append_comm
    · rw [if_neg e, ← List.append_assoc]
      exact (PX_perm (by omega)).append_right _
theorem PX_same {G : gT} {P : Nat → Nat → Nat} {σ τ : Sg} {i : Nat} (h : ∀ j, j ≠ i → PWi G P τ j = PWi G P σ j) : ∀ k : Nat, PX G P τ i k = PX G P σ i k
  | 0 => rfl
  | k + 1 => by
    rw [PX, PX, PX_same h k]
    by_cases e : k = i
    · rw [if_pos e, if_pos e]
    · rw [if_neg e, if_neg e, h k e]
/-- all but one piece -/
def CX (G : gT) (B : Nat → Nat) (P : Nat → Nat → Nat) (σ : Sg) (k i : Nat) : va_W := PX G P σ i (k + 1) ++ (RW G B σ ++ CH G B P σ k)
theorem CX_perm {G : gT} {B : Nat → Nat} {P : Nat → Nat → Nat} {σ : Sg} {k i : Nat} (h : i ≤ k) : (CW G B P σ k).Perm (PWi G P σ i ++ CX G B P σ k i) := by
  show (RW G B σ ++ (CH G B P σ k ++ PL G P σ (k + 1))).Perm (PWi G P σ i ++ (PX G P σ i (k + 1) ++ (RW G B σ ++ CH G B P σ k)))
  rw [← List.append_assoc, ← List.append_assoc]
  exact List.perm_append_comm.trans ((PX_perm (by omega)).append_right _)
theorem CX_same {G : gT} {B : Nat → Nat} {P : Nat → Nat → Nat} {σ τ : Sg} {k i : Nat} (h : ∀ j, j ≠ i → PWi G P τ j = PWi G P σ j) (hr : RW G B τ = RW G B σ) (hc : CH G B P τ k = CH G B P σ k) : CX G B P τ k i = CX G B P σ k i := by
  unfold CX
  rw [PX_same h, hr, hc]
theorem rfP_at {P : Nat → Nat → Nat} {k i : Nat} (h : i < k) : rfP P k i = some (P i 0) := if_pos h
