/-! ints by their numbers -/
def iI (z : Int) : Int32 := Int32.ofInt z
theorem iI_bv (z : Int) : (iI z).toBitVec = BitVec.ofInt 32 z := rfl
theorem iI_add (a b : Int) : iI a + iI b = iI (a + b) := by
  apply Int32.toBitVec_inj.mp
  show BitVec.ofInt 32 a + BitVec.ofInt 32 b = BitVec.ofInt 32 (a + b)
  rw [BitVec.ofInt_add]
theorem iI_mul (a b : Int) : iI a * iI b = iI (a * b) := by
  apply Int32.toBitVec_inj.mp
  show BitVec.ofInt 32 a * BitVec.ofInt 32 b = BitVec.ofInt 32 (a * b)
  rw [BitVec.ofInt_mul]
theorem iI_neg (a : Int) : -(iI a) = iI (-a) := by
  apply Int32.toBitVec_inj.mp
  show -(BitVec.ofInt 32 a) = BitVec.ofInt 32 (-a)
  rw [BitVec.ofInt_neg]
theorem iI_sub (a b : Int) : iI a - iI b = iI (a - b) := by
  have h := iI_add a (-b)
  rw [← iI_neg] at h
  rw [Int.sub_eq_add_neg, ← h, Int32.sub_eq_add_neg]
theorem iI_of (x : Int32) : iI x.toInt = x := Int32.ofInt_toInt x
theorem iI_toInt {z : Int} (h : -2147483648 ≤ z ∧ z < 2147483648) : (iI z).toInt = z := by
  have h2 : (iI z).toInt = (BitVec.ofInt 32 z).toInt := rfl
  rw [h2, BitVec.toInt_ofInt]
  rw [Int.bmod_def]
  omega
theorem iI_rg (x : Int32) : -2147483648 ≤ x.toInt ∧ x.toInt < 2147483648 := by
  have h1 := Int32.le_toInt x
  have h2 := Int32.toInt_lt x
  omega
theorem iI_lt {a b : Int} (ha : -2147483648 ≤ a ∧ a < 2147483648) (hb : -2147483648 ≤ b ∧ b < 2147483648) : iI a < iI b ↔ a < b := by
  rw [Int32.lt_iff_toInt_lt, iI_toInt ha, iI_toInt hb]
theorem iI_le {a b : Int} (ha : -2147483648 ≤ a ∧ a < 2147483648) (hb : -2147483648 ≤ b ∧ b < 2147483648) : iI a ≤ iI b ↔ a ≤ b := by
  rw [Int32.le_iff_toInt_le, iI_toInt ha, iI_toInt hb]
theorem iI_eq {a b : Int} (ha : -2147483648 ≤ a ∧ a < 2147483648) (hb : -2147483648 ≤ b ∧ b < 2147483648) : iI a = iI b ↔ a = b := by
  constructor
  · intro h
    have h2 : (iI a).toInt = (iI b).toInt := by rw [h]
    rwa [iI_toInt ha, iI_toInt hb] at h2
  · intro h; rw [h]
theorem iI_0 : iI 0 = 0 := by decide +kernel
theorem iI_lt0 {a : Int} (ha : -2147483648 ≤ a ∧ a < 2147483648) : iI a < 0 ↔ a < 0 := by
  rw [← iI_0]; exact iI_lt ha (by omega)
theorem iI_le0 {a : Int} (ha : -2147483648 ≤ a ∧ a < 2147483648) : iI a ≤ 0 ↔ a ≤ 0 := by
  rw [← iI_0]; exact iI_le ha (by omega)
theorem iI_ge0 {a : Int} (ha : -2147483648 ≤ a ∧ a < 2147483648) : 0 ≤ iI a ↔ 0 ≤ a := by
  rw [← iI_0]; exact iI_le (by omega) ha
theorem iI_eq0 {a : Int} (ha : -2147483648 ≤ a ∧ a < 2147483648) : iI a = 0 ↔ a = 0 := by
  rw [← iI_0]; exact iI_eq ha (by omega)
theorem iI_nat (k : Nat) : iI (k : Int) = nI k := by
  apply Int32.toBitVec_inj.mp
  show BitVec.ofInt 32 (k : Int) = BitVec.ofNat 32 k
  exact BitVec.ofInt_ofNat ..
theorem iI_in {z : Int} {k n : Nat} (hk : z = (k : Int)) (h : k < n) (hn : n < 2 ^ 31) : vp_in (iI z) n := by
  subst hk; rw [iI_nat]; exact vp_in_nI h hn
theorem iI_cl {z : Int} {k : Nat} (hk : z = (k : Int)) (h : k < 2 ^ 31) : (iI z).toNatClampNeg = k := by
  subst hk; rw [iI_nat]; exact nI_clamp h
def ia (f : Nat → Int) : Nat → Int32 := fun j => iI (f j)
def uI (f : Nat → Int) (k : Nat) (v : Int) : Nat → Int := fun j => if j = k then v else f j
theorem ia_upd (f : Nat → Int) (k : Nat) (v : Int) : upd (ia f) k (iI v) = ia (uI f k v) := by
  funext j
  simp only [upd, ia, uI]
  split <;> rfl
theorem uI_s (f : Nat → Int) (k : Nat) (v : Int) : uI f k v k = v := by simp [uI]
theorem uI_n {f : Nat → Int} {k j : Nat} {v : Int} (h : j ≠ k) : uI f k v j = f j := by simp [uI, h]
/-! the bits' operations, as numbers -/
def andI (a b : Int) : Int := (iI a &&& iI b).toInt
def orI (a b : Int) : Int := (iI a ||| iI b).toInt
def xorI (a b : Int) : Int := (iI a ^^^ iI b).toInt
def shlI (a b : Int) : Int := (iI a <<< (iI b &&& 31)).toInt
def shrI (a b : Int) : Int := (iI a >>> (iI b &&& 31)).toInt
def absI (a : Int) : Int := if 0 ≤ a then a else -a
def bI (P : Prop) [Decidable P] : Int := if P then 1 else 0
theorem bI_t {P : Prop} [Decidable P] (h : P) : bI P = 1 := if_pos h
theorem bI_f {P : Prop} [Decidable P] (h : ¬ P) : bI P = 0 := if_neg h
theorem bI_01 (P : Prop) [Decidable P] : bI P = 0 ∨ bI P = 1 := by unfold bI; split <;> simp
theorem bI_rg (P : Prop) [Decidable P] : -2147483648 ≤ bI P ∧ bI P < 2147483648 := by rcases bI_01 P with h | h <;> rw [h] <;> omega
theorem bI_c {P Q : Prop} [Decidable P] [Decidable Q] (h : P ↔ Q) : bI P = bI Q := by unfold bI; by_cases q : P <;> simp [q, h.mp, ← h]
theorem bI_0 {P : Prop} [Decidable P] : bI P = 0 ↔ ¬ P := by unfold bI; split <;> simp_all
theorem lv_to {ls : Array Slot} {nL : Nat} {a b : List (Nat × Value)} (h : lv_has ls nL a) (e : a = b) : lv_has ls nL b := e ▸ h
/-! loops -/
theorem lp_up {P : Nat → Prop} (n : Nat) (he : P n) (hs : ∀ i, i < n → P (i + 1) → P i) : ∀ i, i ≤ n → P i := by
  intro i hi
  induction h : n - i generalizing i with
  | zero => have : i = n := by omega
            rw [this]; exact he
  | succ k ih => exact hs i (by omega) (ih (i + 1) (by omega) (by omega))
section KIT
variable {p : Program} {l : Launch} {e : Env} {R : Room} {s : State} {m : MethodId} {args : Array Value} {below : List Frame} {meth : Method} {c : Code} {H : Heap} {locs : List Loc} {cells slots : Nat} {Q : State → Prop}
variable {cc : ByteArray} {pc : Nat} {ls : Array Slot} {rest : List Value} {nL : Nat} {Ts : List Cond} {own : String}
theorem k_iconst (F : CallFix p m c cc nL s args Ts own) {n : Int} (hdg : decode cc pc = .ok (.iconst n, 1)) (k : W p l e R s m args below meth c H locs cells slots Q (F0 m (pc + 1) ls (.int (iI n) :: rest))) : W p l e R s m args below meth c H locs cells slots Q (F0 m pc ls rest) :=
  lv_iconst F.1 F.2.1 hdg rfl k
theorem k_bipush (F : CallFix p m c cc nL s args Ts own) {n : Int} (hdg : decode cc pc = .ok (.bipush n, 2)) (hn : (Int8.ofInt n).toInt32 = iI n) (k : W p l e R s m args below meth c H locs cells slots Q (F0 m (pc + 2) ls (.int (iI n) :: rest))) : W p l e R s m args below meth c H locs cells slots Q (F0 m pc ls rest) :=
  lv_bipush F.1 F.2.1 hdg hn k
theorem k_sipush (F : CallFix p m c cc nL s args Ts own) {n : Int} (hdg : decode cc pc = .ok (.sipush n, 3)) (hn : (Int16.ofInt n).toInt32 = iI n) (k : W p l e R s m args below meth c H locs cells slots Q (F0 m (pc + 3) ls (.int (iI n) :: rest))) : W p l e R s m args below meth c H locs cells slots Q (F0 m pc ls rest) :=
  lv_sipush F.1 F.2.1 hdg hn k
theorem k_iadd (F : CallFix p m c cc nL s args Ts own) {a b z : Int} (hz : a + b = z) (hdg : decode cc pc = .ok (.iadd, 1)) (k : W p l e R s m args below meth c H locs cells slots Q (F0 m (pc + 1) ls (.int (iI z) :: rest))) : W p l e R s m args below meth c H locs cells slots Q (F0 m pc ls (.int (iI b) :: .int (iI a) :: rest)) :=
  lv_iadd F.1 F.2.1 hdg (by rw [iI_add, hz]; exact k)
theorem k_isub (F : CallFix p m c cc nL s args Ts own) {a b z : Int} (hz : a - b = z) (hdg : decode cc pc = .ok (.isub, 1)) (k : W p l e R s m args below meth c H locs cells slots Q (F0 m (pc + 1) ls (.int (iI z) :: rest))) : W p l e R s m args below meth c H locs cells slots Q (F0 m pc ls (.int (iI b) :: .int (iI a) :: rest)) :=
  lv_isub F.1 F.2.1 hdg (by rw [iI_sub, hz]; exact k)
theorem k_imul (F : CallFix p m c cc nL s args Ts own) {a b z : Int} (hz : a * b = z) (hdg : decode cc pc = .ok (.imul, 1)) (k : W p l e R s m args below meth c H locs cells slots Q (F0 m (pc + 1) ls (.int (iI z) :: rest))) : W p l e R s m args below meth c H locs cells slots Q (F0 m pc ls (.int (iI b) :: .int (iI a) :: rest)) :=
  lv_imul F.1 F.2.1 hdg (by rw [iI_mul, hz]; exact k)
theorem k_ineg (F : CallFix p m c cc nL s args Ts own) {a z : Int} (hz : -a = z) (hdg : decode cc pc = .ok (.ineg, 1)) (k : W p l e R s m args below meth c H locs cells slots Q (F0 m (pc + 1) ls (.int (iI z) :: rest))) : W p l e R s m args below meth c H locs cells slots Q (F0 m pc ls (.int (iI a) :: rest)) :=
  lv_ineg F.1 F.2.1 hdg (by rw [iI_neg, hz]; exact k)
theorem k_irem (F : CallFix p m c cc nL s args Ts own) {a b z : Int} (hb : iI b ≠ 0) (hz : iI a - iI a / iI b * iI b = iI z) (hdg : decode cc pc = .ok (.irem, 1)) (k : W p l e R s m args below meth c H locs cells slots Q (F0 m (pc + 1) ls (.int (iI z) :: rest))) : W p l e R s m args below meth c H locs cells slots Q (F0 m pc ls (.int (iI b) :: .int (iI a) :: rest)) :=
  lv_irem F.1 F.2.1 hdg hb (by rw [hz]; exact k)
/-! conditions -/
theorem k_icmp_eq (F : CallFix p m c cc nL s args Ts own) {a b : Int} {off : Int} {tgt : Nat} (hdg : decode cc pc = .ok (.if_icmp .eq off, 3)) (ht : (pc : Int) + off = (tgt : Int)) (ha : -2147483648 ≤ a ∧ a < 2147483648) (hb : -2147483648 ≤ b ∧ b < 2147483648) (kt : a = b → W p l e R s m args below meth c H locs cells slots Q (F0 m tgt ls rest)) (kf : a ≠ b → W p l e R s m args below meth c H locs cells slots Q (F0 m (pc + 3) ls rest)) : W p l e R s m args below meth c H locs cells slots Q (F0 m pc ls (.int (iI b) :: .int (iI a) :: rest)) :=
  lv_icmp_eq F.1 F.2.1 hdg ht (fun h => kt ((iI_eq ha hb).mp h)) (fun h => kf (fun q => h ((iI_eq ha hb).mpr q)))
theorem k_icmp_ne (F : CallFix p m c cc nL s args Ts own) {a b : Int} {off : Int} {tgt : Nat} (hdg : decode cc pc = .ok (.if_icmp .ne off, 3)) (ht : (pc : Int) + off = (tgt : Int)) (ha : -2147483648 ≤ a ∧ a < 2147483648) (hb : -2147483648 ≤ b ∧ b < 2147483648) (kt : a ≠ b → W p l e R s m args below meth c H locs cells slots Q (F0 m tgt ls rest)) (kf : a = b → W p l e R s m args below meth c H locs cells slots Q (F0 m (pc + 3) ls rest)) : W p l e R s m args below meth c H locs cells slots Q (F0 m pc ls (.int (iI b) :: .int (iI a) :: rest)) :=
  lv_icmp_ne F.1 F.2.1 hdg ht (fun h => kt (fun q => h ((iI_eq ha hb).mpr q))) (fun h => kf ((iI_eq ha hb).mp h))
theorem k_icmp_lt (F : CallFix p m c cc nL s args Ts own) {a b : Int} {off : Int} {tgt : Nat} (hdg : decode cc pc = .ok (.if_icmp .lt off, 3)) (ht : (pc : Int) + off = (tgt : Int)) (ha : -2147483648 ≤ a ∧ a < 2147483648) (hb : -2147483648 ≤ b ∧ b < 2147483648) (kt : a < b → W p l e R s m args below meth c H locs cells slots Q (F0 m tgt ls rest)) (kf : b ≤ a → W p l e R s m args below meth c H locs cells slots Q (F0 m (pc + 3) ls rest)) : W p l e R s m args below meth c H locs cells slots Q (F0 m pc ls (.int (iI b) :: .int (iI a) :: rest)) :=
  lv_icmp_lt F.1 F.2.1 hdg ht (fun h => kt ((iI_lt ha hb).mp h)) (fun h => kf (by rcases Int.lt_or_le a b with q | q; exact absurd ((iI_lt ha hb).mpr q) h; exact q))
theorem k_icmp_ge (F : CallFix p m c cc nL s args Ts own) {a b : Int} {off : Int} {tgt : Nat} (hdg : decode cc pc = .ok (.if_icmp .ge off, 3)) (ht : (pc : Int) + off = (tgt : Int)) (ha : -2147483648 ≤ a ∧ a < 2147483648) (hb : -2147483648 ≤ b ∧ b < 2147483648) (kt : b ≤ a → W p l e R s m args below meth c H locs cells slots Q (F0 m tgt ls rest)) (kf : a < b → W p l e R s m args below meth c H locs cells slots Q (F0 m (pc + 3) ls rest)) : W p l e R s m args below meth c H locs cells slots Q (F0 m pc ls (.int (iI b) :: .int (iI a) :: rest)) :=
  lv_icmp_ge F.1 F.2.1 hdg ht (fun h => kt ((iI_le hb ha).mp h)) (fun h => kf (by rcases Int.lt_or_le a b with q | q; exact q; exact absurd ((iI_le hb ha).mpr q) h))
theorem k_icmp_gt (F : CallFix p m c cc nL s args Ts own) {a b : Int} {off : Int} {tgt : Nat} (hdg : decode cc pc = .ok (.if_icmp .gt off, 3)) (ht : (pc : Int) + off = (tgt : Int)) (ha : -2147483648 ≤ a ∧ a < 2147483648) (hb : -2147483648 ≤ b ∧ b < 2147483648) (kt : b < a → W p l e R s m args below meth c H locs cells slots Q (F0 m tgt ls rest)) (kf : a ≤ b → W p l e R s m args below meth c H locs cells slots Q (F0 m (pc + 3) ls rest)) : W p l e R s m args below meth c H locs cells slots Q (F0 m pc ls (.int (iI b) :: .int (iI a) :: rest)) :=
  lv_icmp_gt F.1 F.2.1 hdg ht (fun h => kt ((iI_lt hb ha).mp h)) (fun h => kf (by rcases Int.lt_or_le b a with q | q; exact absurd ((iI_lt hb ha).mpr q) h; exact q))
theorem k_icmp_le (F : CallFix p m c cc nL s args Ts own) {a b : Int} {off : Int} {tgt : Nat} (hdg : decode cc pc = .ok (.if_icmp .le off, 3)) (ht : (pc : Int) + off = (tgt : Int)) (ha : -2147483648 ≤ a ∧ a < 2147483648) (hb : -2147483648 ≤ b ∧ b < 2147483648) (kt : a ≤ b → W p l e R s m args below meth c H locs cells slots Q (F0 m tgt ls rest)) (kf : b < a → W p l e R s m args below meth c H locs cells slots Q (F0 m (pc + 3) ls rest)) : W p l e R s m args below meth c H locs cells slots Q (F0 m pc ls (.int (iI b) :: .int (iI a) :: rest)) :=
  lv_icmp_le F.1 F.2.1 hdg ht (fun h => kt ((iI_le ha hb).mp h)) (fun h => kf (by rcases Int.lt_or_le b a with q | q; exact q; exact absurd ((iI_le ha hb).mpr q) h))
theorem k_if_eq (F : CallFix p m c cc nL s args Ts own) {a : Int} {off : Int} {tgt : Nat} (hdg : decode cc pc = .ok (.ifCond .eq off, 3)) (ht : (pc : Int) + off = (tgt : Int)) (ha : -2147483648 ≤ a ∧ a < 2147483648) (kt : a = 0 → W p l e R s m args below meth c H locs cells slots Q (F0 m tgt ls rest)) (kf : a ≠ 0 → W p l e R s m args below meth c H locs cells slots Q (F0 m (pc + 3) ls rest)) : W p l e R s m args below meth c H locs cells slots Q (F0 m pc ls (.int (iI a) :: rest)) :=
  lv_if_eq F.1 F.2.1 hdg ht (fun h => kt ((iI_eq0 ha).mp h)) (fun h => kf (fun q => h ((iI_eq0 ha).mpr q)))
theorem k_if_ne (F : CallFix p m c cc nL s args Ts own) {a : Int} {off : Int} {tgt : Nat} (hdg : decode cc pc = .ok (.ifCond .ne off, 3)) (ht : (pc : Int) + off = (tgt : Int)) (ha : -2147483648 ≤ a ∧ a < 2147483648) (kt : a ≠ 0 → W p l e R s m args below meth c H locs cells slots Q (F0 m tgt ls rest)) (kf : a = 0 → W p l e R s m args below meth c H locs cells slots Q (F0 m (pc + 3) ls rest)) : W p l e R s m args below meth c H locs cells slots Q (F0 m pc ls (.int (iI a) :: rest)) :=
  lv_if_ne F.1 F.2.1 hdg ht (fun h => kt (fun q => h ((iI_eq0 ha).mpr q))) (fun h => kf ((iI_eq0 ha).mp h))
theorem k_if_lt (F : CallFix p m c cc nL s args Ts own) {a : Int} {off : Int} {tgt : Nat} (hdg : decode cc pc = .ok (.ifCond .lt off, 3)) (ht : (pc : Int) + off = (tgt : Int)) (ha : -2147483648 ≤ a ∧ a < 2147483648) (kt : a < 0 → W p l e R s m args below meth c H locs cells slots Q (F0 m tgt ls rest)) (kf : 0 ≤ a → W p l e R s m args below meth c H locs cells slots Q (F0 m (pc + 3) ls rest)) : W p l e R s m args below meth c H locs cells slots Q (F0 m pc ls (.int (iI a) :: rest)) :=
  lv_if_lt F.1 F.2.1 hdg ht (fun h => kt ((iI_lt0 ha).mp h)) (fun h => kf (by rcases Int.lt_or_le a 0 with q | q; exact absurd ((iI_lt0 ha).mpr q) h; exact q))
theorem k_if_ge (F : CallFix p m c cc nL s args Ts own) {a : Int} {off : Int} {tgt : Nat} (hdg : decode cc pc = .ok (.ifCond .ge off, 3)) (ht : (pc : Int) + off = (tgt : Int)) (ha : -2147483648 ≤ a ∧ a < 2147483648) (kt : 0 ≤ a → W p l e R s m args below meth c H locs cells slots Q (F0 m tgt ls rest)) (kf : a < 0 → W p l e R s m args below meth c H locs cells slots Q (F0 m (pc + 3) ls rest)) : W p l e R s m args below meth c H locs cells slots Q (F0 m pc ls (.int (iI a) :: rest)) :=
  lv_if_ge F.1 F.2.1 hdg ht (fun h => kt ((iI_ge0 ha).mp h)) (fun h => kf (by rcases Int.lt_or_le a 0 with q | q; exact q; exact absurd ((iI_ge0 ha).mpr q) h))
theorem k_if_gt (F : CallFix p m c cc nL s args Ts own) {a : Int} {off : Int} {tgt : Nat} (hdg : decode cc pc = .ok (.ifCond .gt off, 3)) (ht : (pc : Int) + off = (tgt : Int)) (ha : -2147483648 ≤ a ∧ a < 2147483648) (kt : 0 < a → W p l e R s m args below meth c H locs cells slots Q (F0 m tgt ls rest)) (kf : a ≤ 0 → W p l e R s m args below meth c H locs cells slots Q (F0 m (pc + 3) ls rest)) : W p l e R s m args below meth c H locs cells slots Q (F0 m pc ls (.int (iI a) :: rest)) :=
  lv_if_gt F.1 F.2.1 hdg ht (fun h => kt (by rcases Int.lt_or_le 0 a with q | q; exact q; exact absurd ((iI_le0 ha).mpr q) (fun z => absurd h (Int32.not_lt.mpr z)))) (fun h => kf (by rcases Int.lt_or_le 0 a with q | q; exact absurd (Int32.not_le.mp (fun z => absurd ((iI_le0 ha).mp z) (by omega))) h; exact q))
theorem k_if_le (F : CallFix p m c cc nL s args Ts own) {a : Int} {off : Int} {tgt : Nat} (hdg : decode cc pc = .ok (.ifCond .le off, 3)) (ht : (pc : Int) + off = (tgt : Int)) (ha : -2147483648 ≤ a ∧ a < 2147483648) (kt : a ≤ 0 → W p l e R s m args below meth c H locs cells slots Q (F0 m tgt ls rest)) (kf : 0 < a → W p l e R s m args below meth c H locs cells slots Q (F0 m (pc + 3) ls rest)) : W p l e R s m args below meth c H locs cells slots Q (F0 m pc ls (.int (iI a) :: rest)) :=
  lv_if_le F.1 F.2.1 hdg ht (fun h => kt ((iI_le0 ha).mp h)) (fun h => kf (by rcases Int.lt_or_le 0 a with q | q; exact q; exact absurd ((iI_le0 ha).mpr q) h))
theorem k_iand (F : CallFix p m c cc nL s args Ts own) {a b : Int} (hdg : decode cc pc = .ok (.iand, 1)) (k : W p l e R s m args below meth c H locs cells slots Q (F0 m (pc + 1) ls (.int (iI (andI a b)) :: rest))) : W p l e R s m args below meth c H locs cells slots Q (F0 m pc ls (.int (iI b) :: .int (iI a) :: rest)) :=
  lv_iand F.1 F.2.1 hdg (by rw [andI, iI_of] at k; exact k)
theorem k_ior (F : CallFix p m c cc nL s args Ts own) {a b : Int} (hdg : decode cc pc = .ok (.ior, 1)) (k : W p l e R s m args below meth c H locs cells slots Q (F0 m (pc + 1) ls (.int (iI (orI a b)) :: rest))) : W p l e R s m args below meth c H locs cells slots Q (F0 m pc ls (.int (iI b) :: .int (iI a) :: rest)) :=
  lv_ior F.1 F.2.1 hdg (by rw [orI, iI_of] at k; exact k)
theorem k_ixor (F : CallFix p m c cc nL s args Ts own) {a b : Int} (hdg : decode cc pc = .ok (.ixor, 1)) (k : W p l e R s m args below meth c H locs cells slots Q (F0 m (pc + 1) ls (.int (iI (xorI a b)) :: rest))) : W p l e R s m args below meth c H locs cells slots Q (F0 m pc ls (.int (iI b) :: .int (iI a) :: rest)) :=
  lv_ixor F.1 F.2.1 hdg (by rw [xorI, iI_of] at k; exact k)
theorem k_ishl (F : CallFix p m c cc nL s args Ts own) {a b : Int} (hdg : decode cc pc = .ok (.ishl, 1)) (k : W p l e R s m args below meth c H locs cells slots Q (F0 m (pc + 1) ls (.int (iI (shlI a b)) :: rest))) : W p l e R s m args below meth c H locs cells slots Q (F0 m pc ls (.int (iI b) :: .int (iI a) :: rest)) :=
  lv_ishl F.1 F.2.1 hdg (by rw [shlI, iI_of] at k; exact k)
theorem k_ishr (F : CallFix p m c cc nL s args Ts own) {a b : Int} (hdg : decode cc pc = .ok (.ishr, 1)) (k : W p l e R s m args below meth c H locs cells slots Q (F0 m (pc + 1) ls (.int (iI (shrI a b)) :: rest))) : W p l e R s m args below meth c H locs cells slots Q (F0 m pc ls (.int (iI b) :: .int (iI a) :: rest)) :=
  lv_ishr F.1 F.2.1 hdg (by rw [shrI, iI_of] at k; exact k)
theorem k_ifb_eq (F : CallFix p m c cc nL s args Ts own) {P : Prop} [Decidable P] {off : Int} {tgt : Nat} (hdg : decode cc pc = .ok (.ifCond .eq off, 3)) (ht : (pc : Int) + off = (tgt : Int)) (kt : ¬ P → W p l e R s m args below meth c H locs cells slots Q (F0 m tgt ls rest)) (kf : P → W p l e R s m args below meth c H locs cells slots Q (F0 m (pc + 3) ls rest)) : W p l e R s m args below meth c H locs cells slots Q (F0 m pc ls (.int (iI (bI P)) :: rest)) :=
  k_if_eq F hdg ht (bI_rg P) (fun h => kt (bI_0.mp h)) (fun h => kf (Decidable.not_not.mp (fun q => h (bI_0.mpr q))))
theorem k_ifb_ne (F : CallFix p m c cc nL s args Ts own) {P : Prop} [Decidable P] {off : Int} {tgt : Nat} (hdg : decode cc pc = .ok (.ifCond .ne off, 3)) (ht : (pc : Int) + off = (tgt : Int)) (kt : P → W p l e R s m args below meth c H locs cells slots Q (F0 m tgt ls rest)) (kf : ¬ P → W p l e R s m args below meth c H locs cells slots Q (F0 m (pc + 3) ls rest)) : W p l e R s m args below meth c H locs cells slots Q (F0 m pc ls (.int (iI (bI P)) :: rest)) :=
  k_if_ne F hdg ht (bI_rg P) (fun h => kt (Decidable.not_not.mp (fun q => h (bI_0.mpr q)))) (fun h => kf (bI_0.mp h))
theorem iI_max {a b : Int} (ha : -2147483648 ≤ a ∧ a < 2147483648) (hb : -2147483648 ≤ b ∧ b < 2147483648) : (if iI a < iI b then iI b else iI a) = iI (max a b) := by
  by_cases h : a < b
  · rw [if_pos ((iI_lt ha hb).mpr h), show max a b = b by omega]
  · rw [if_neg (fun q => h ((iI_lt ha hb).mp q)), show max a b = a by omega]
theorem iI_min {a b : Int} (ha : -2147483648 ≤ a ∧ a < 2147483648) (hb : -2147483648 ≤ b ∧ b < 2147483648) : (if iI b < iI a then iI b else iI a) = iI (min a b) := by
  by_cases h : b < a
  · rw [if_pos ((iI_lt hb ha).mpr h), show min a b = b by omega]
  · rw [if_neg (fun q => h ((iI_lt hb ha).mp q)), show min a b = a by omega]
theorem iI_abs {a : Int} (ha : -2147483648 ≤ a ∧ a < 2147483648) : (if 0 ≤ iI a then iI a else 0 - iI a) = iI (absI a) := by
  unfold absI
  by_cases h : 0 ≤ a
  · rw [if_pos ((iI_ge0 ha).mpr h), if_pos h]
  · rw [if_neg (fun q => h ((iI_ge0 ha).mp q)), if_neg h, ← iI_0, iI_sub, Int.zero_sub]
theorem k_mmax (F : CallFix p m c cc nL s args Ts own) (hsz : ls.size = nL) {index : Nat} (hlink : (Cond.methodLink own index Lib.Math.max.name).before args s = true) (hstat : (Cond.static Lib.Math.max.name).before args s = true) (hini : (Cond.initialized "java/lang/Math").before args s = true) (hcode : (Cond.code Lib.Math.max.name Lib.Math.max.code 2 (some .int)).before args s = true)
    (hframes : 1 ≤ R.frames) (hlocals : (rest.map fun v => v.category).sum + 13 ≤ R.locals) (hc : cells ≤ R.cells) (hs : slots ≤ R.slots) {a b : Int} (ha : -2147483648 ≤ a ∧ a < 2147483648) (hb : -2147483648 ≤ b ∧ b < 2147483648) (hdg : decode cc pc = .ok (.invokestatic index, 3))
    (kk : W p l e R s m args below meth c H locs cells slots Q (F0 m (pc + 3) ls (.int (iI (max a b)) :: rest))) : W p l e R s m args below meth c H locs cells slots Q (F0 m pc ls (.int (iI b) :: .int (iI a) :: rest)) :=
  va_mmax F.1 F.2.1 (F.2.2.1.trans hsz.symm) F.2.2.2.1 hlink hstat hini hcode hframes hlocals hc hs hdg (by rw [iI_max ha hb]; exact kk)
theorem k_mmin (F : CallFix p m c cc nL s args Ts own) (hsz : ls.size = nL) {index : Nat} (hlink : (Cond.methodLink own index Lib.Math.min.name).before args s = true) (hstat : (Cond.static Lib.Math.min.name).before args s = true) (hini : (Cond.initialized "java/lang/Math").before args s = true) (hcode : (Cond.code Lib.Math.min.name Lib.Math.min.code 2 (some .int)).before args s = true)
    (hframes : 1 ≤ R.frames) (hlocals : (rest.map fun v => v.category).sum + 13 ≤ R.locals) (hc : cells ≤ R.cells) (hs : slots ≤ R.slots) {a b : Int} (ha : -2147483648 ≤ a ∧ a < 2147483648) (hb : -2147483648 ≤ b ∧ b < 2147483648) (hdg : decode cc pc = .ok (.invokestatic index, 3))
    (kk : W p l e R s m args below meth c H locs cells slots Q (F0 m (pc + 3) ls (.int (iI (min a b)) :: rest))) : W p l e R s m args below meth c H locs cells slots Q (F0 m pc ls (.int (iI b) :: .int (iI a) :: rest)) :=
  va_mmin F.1 F.2.1 (F.2.2.1.trans hsz.symm) F.2.2.2.1 hlink hstat hini hcode hframes hlocals hc hs hdg (by rw [iI_min ha hb]; exact kk)
theorem k_mabs (F : CallFix p m c cc nL s args Ts own) (hsz : ls.size = nL) {index : Nat} (hlink : (Cond.methodLink own index Lib.Math.abs.name).before args s = true) (hstat : (Cond.static Lib.Math.abs.name).before args s = true) (hini : (Cond.initialized "java/lang/Math").before args s = true) (hcode : (Cond.code Lib.Math.abs.name Lib.Math.abs.code 1 (some .int)).before args s = true)
    (hframes : 1 ≤ R.frames) (hlocals : (rest.map fun v => v.category).sum + 13 ≤ R.locals) (hc : cells ≤ R.cells) (hs : slots ≤ R.slots) {a : Int} (ha : -2147483648 ≤ a ∧ a < 2147483648) (hdg : decode cc pc = .ok (.invokestatic index, 3))
    (kk : W p l e R s m args below meth c H locs cells slots Q (F0 m (pc + 3) ls (.int (iI (absI a)) :: rest))) : W p l e R s m args below meth c H locs cells slots Q (F0 m pc ls (.int (iI a) :: rest)) :=
  va_mabs F.1 F.2.1 (F.2.2.1.trans hsz.symm) F.2.2.2.1 hlink hstat hini hcode hframes hlocals hc hs hdg (by rw [iI_abs ha]; exact kk)
/-! what is given of the classes: the objects' classes, int[], Piece[], long[] -/
abbrev gT : Type := va_G × ClassId × ClassId × ClassId
abbrev gY (G : gT) : List (ClassId × FieldType) := [(G.2.1, .int), (G.2.2.1, .object RX0)]
abbrev gK (G : gT) (U : State) : Prop := va_K G.1 vwCl (gY G) U
abbrev gP (G : gT) (w : va_W) (H : Heap) : Prop := va_P G.1 vwCl w H
/-- an answer that is a number, the heap as it was -/
def oI (z : Int) : Array Value → State → Outcome → State → Prop := vp_Si (fun r => r = iI z)
def oV : Array Value → State → Outcome → State → Prop := va_Sv (fun _ => True)
abbrev rB (G : gT) (w : va_W) (U : State) : Prop := gP G w U.heap ∧ gK G U
theorem rB_blind (G : gT) (w : va_W) (As : List Value) : FrameBlind (va_Pc As (rB G w)) := fun a U g mk q => ⟨q.1, q.2.1, va_K.moved (u := U) (U := U.calling g mk a) (Vm.Alike.refl U.vm) q.2.2⟩
/-- the head of a method that writes nothing -/
theorem rd_start {own : String} {y : MethodName} {ws ws' : List Cond} {rm : Room} {mL : Nat} {ret : Option FieldType} {G : gT} {w : va_W} {As : List Value} {Qc : Array Value → State → Outcome → State → Prop} (hy : plainName y.cls = true) (ho : y.cls = own) (hw : ws = .code y cc mL ret :: ws') (hlen : (lg_sl As).length ≤ mL)
    (body : ∀ (p : Program) (e : Env) (s : State) (m : MethodId) (args : Array Value) (below : List Frame) (meth : Method) (c : Code) (ls : Array Slot), CallFix p m c cc mL s args ws own → meth.sig.returnType = ret → meth.locks = false → gP G w s.heap → gK G s → lv_has ls mL (lv_args 0 As) →
      W p l e rm s m args below meth c s.heap [] 0 0 (MQ below Qc args s 0 0 (fun _ => False)) (F0 m 0 ls [])) : Met l y ws rm (va_Pc As (rB G w)) Qc 0 0 (fun _ => False) := by
  refine Met.ofW (cc := cc) (maxL := mL) (ret := ret) hy hw ?_
  intro p e s m args below meth c s₁ B hml hv
  obtain ⟨rfl, hP, hK⟩ := hv
  have hl := lv_entry As (n := mL) hlen
  rw [lg_entry_eq]
  exact body p e s m _ below meth c _ ⟨B.exec, B.bytes, hml, ho ▸ findClass_of_methodNamed B.named, atoms_spec (ws := ws) B.pre⟩ B.returns B.notSynchronized hP hK hl
theorem k_iald (F : CallFix p m c cc nL s args Ts own) {G : gT} {w : va_W} {a : Nat} (hK : gK G s) (hP : gP G w H) (q0 : Nat) {n : Nat} {f : Nat → Int} (ha : w[q0]? = some (a, .inl (G.2.1, n, .inl (ia f)))) {z v : Int} (k : Nat) (hk : z = (k : Int)) (hlt : k < n) (hn : n < 2 ^ 31) (hv : f k = v) (hdg : decode cc pc = .ok (.iaload, 1))
    (kk : W p l e R s m args below meth c H locs cells slots Q (F0 m (pc + 1) ls (.int (iI v) :: rest))) : W p l e R s m args below meth c H locs cells slots Q (F0 m pc ls (.int (iI z) :: .ref a :: rest)) := by
  subst hv
  refine va_iald F.1 F.2.1 hK hP q0 0 ha rfl (iI_in hk hlt hn) hdg ?_
  rw [iI_cl hk (by omega)]
  exact kk
theorem k_get (F : CallFix p m c cc nL s args Ts own) {G : gT} {w : va_W} {a : Nat} (hK : gK G s) (hP : gP G w H) {ref C : String} {T : u_T} {N ci index : Nat} (hin : ∀ x ∈ u_ws C T N, x ∈ Ts) (q0 : Nat) {fs : List Value} (he : w[q0]? = some (a, .inr (ci, fs))) (hc : vwCl[ci]? = some (C, T, N)) (k : Nat) (hk : k < N) (hlink : (Cond.fieldLink own index ref (T k).2.1 (T k).2.2.1).before args s = true) (hr : ref = (T k).1) {v : Value} (hv : fs[k]? = some v) (hdg : decode cc pc = .ok (.getfield index, 3))
    (kk : W p l e R s m args below meth c H locs cells slots Q (F0 m (pc + 3) ls (v :: rest))) : W p l e R s m args below meth c H locs cells slots Q (F0 m pc ls (.ref a :: rest)) := by
  subst hr
  exact va_get F.1 F.2.1 F.2.2.2.2 hin F.2.2.2.1 hK hP q0 he hc k hk hlink (fun _ h9 => h9) hv hdg kk
theorem k_cond (F : CallFix p m c cc nL s args Ts own) {w : Cond} (h : w ∈ Ts) : w.before args s = true := F.2.2.2.2 w h
/-- a call of a method that writes nothing, answered by a number -/
theorem k_cs {z : Int} {st0 : List Value} {a : Array Value} {mm : Nat} (hm : mm = 0) (hr : va_Run p l e R s m args below meth c H locs cells slots 0 0 (F0 m pc ls st0) rest (oI z a) (fun _ => False))
    (kk : W p l e R s m args below meth c H locs cells slots Q (F0 m (pc + 3) ls (.int (iI z) :: rest))) : W p l e R s m args below meth c H locs cells slots Q (F0 m pc ls st0) := by
  intro T hT X
  obtain ⟨v, st₀, t, T', L, h0, X', hL, e1, -, ⟨r, hv, hp, hh⟩, st⟩ := hr T hT X
  cases hv
  subst hp
  obtain ⟨t2, a1, b1⟩ := kk T' (by rw [e1, hh, h0]) (Stand.forget X' (fun q h => (hL q h).elim))
  exact ⟨t2, st t2 a1, b1⟩
theorem rd_V (F : CallFix p m c cc nL s args Ts own) {G : gT} {w w0 : va_W} {z : Int} {y : MethodName} {bytes : ByteArray} {ws ws' : List Cond} {rm : Room} {mL n index : Nat} {ret : Option FieldType} {b : Nat} {As st0 : List Value} {C : String}
    (hM : Met l y ws rm (va_Pc (.ref b :: As) (rB G w)) (oI z) 0 0 (fun _ => False)) (g : GoodIn Ts (wsV own index C y ws)) (hw : ws = .code y bytes mL ret :: ws') (hrc : rm.cells = 0) (hrs : rm.slots = 0)
    (hd : y.cls = C ∧ y.cls ≠ "java/lang/invoke/MethodHandle" ∧ y.cls ≠ "java/lang/invoke/VarHandle" ∧ (parseMethodDescriptor y.desc).map (fun d => d.parameters.length) = some n) (hR : rm.frames + 1 ≤ R.frames ∧ 8 + (mL + 11) + rm.locals ≤ R.locals)
    (hK : gK G s) (hP : gP G w H) {ci q0 : Nat} {T : u_T} {N : Nat} {fs : List Value} (hc : vwCl[ci]? = some (C, T, N)) (he : w[q0]? = some (b, .inr (ci, fs))) (hn : As.length = n) (hst : st0 = As.reverse ++ .ref b :: rest) (hsz : ls.size = nL) (hW : (rest.map fun v => v.category).sum ≤ 8) (hdg : decode cc pc = .ok (.invokevirtual index, 3)) (hf : cells ≤ R.cells ∧ slots ≤ R.slots)
    (kk : W p l e R s m args below meth c H locs cells slots Q (F0 m (pc + 3) ls (.int (iI z) :: rest))) : W p l e R s m args below meth c H locs cells slots Q (F0 m pc ls st0) :=
  k_cs (mm := 0) rfl (va_runV (As := As) (rest := rest) F hM (cwV n F.2.2.2.2 g hw hrc hrs hd hR) ⟨rB_blind G w _, va_recv hK hP hc he, fun U hU hW => ⟨rfl, by rw [hU]; exact hP, va_K.moved hW.alike hK⟩⟩ rfl hn hsz hst (lv_room hW) hdg hf) kk
theorem rd_S (F : CallFix p m c cc nL s args Ts own) {G : gT} {w w0 : va_W} {z : Int} {y : MethodName} {bytes : ByteArray} {ws ws' : List Cond} {rm : Room} {mL n index : Nat} {ret : Option FieldType} {As st0 : List Value}
    (hM : Met l y ws rm (va_Pc As (rB G w)) (oI z) 0 0 (fun _ => False)) (g : GoodIn Ts (va_wsS own index y ws)) (hw : ws = .code y bytes mL ret :: ws') (hrc : rm.cells = 0) (hrs : rm.slots = 0)
    (hd : y.cls ≠ "java/lang/invoke/MethodHandle" ∧ y.cls ≠ "java/lang/invoke/VarHandle" ∧ (parseMethodDescriptor y.desc).map (fun d => d.parameters.length) = some n) (hR : rm.frames + 1 ≤ R.frames ∧ 8 + (mL + 11) + rm.locals ≤ R.locals)
    (hK : gK G s) (hP : gP G w H) (hn : As.length = n) (hst : st0 = As.reverse ++ rest) (hsz : ls.size = nL) (hW : (rest.map fun v => v.category).sum ≤ 8) (hdg : decode cc pc = .ok (.invokestatic index, 3)) (hf : cells ≤ R.cells ∧ slots ≤ R.slots)
    (kk : W p l e R s m args below meth c H locs cells slots Q (F0 m (pc + 3) ls (.int (iI z) :: rest))) : W p l e R s m args below meth c H locs cells slots Q (F0 m pc ls st0) :=
  k_cs (mm := 0) rfl (va_runS (As := As) (rest := rest) F hM (va_cwS n F.2.2.2.2 g hw hrc hrs hd hR) ⟨rB_blind G w _, fun U hU hW => ⟨rfl, by rw [hU]; exact hP, va_K.moved hW.alike hK⟩⟩ rfl hn hsz hst (lv_room hW) hdg hf) kk
theorem k_ret (F : CallFix p m c cc nL s args Ts own) (hr : meth.sig.returnType = some .int) (hlocks : meth.locks = false) {z z' : Int} (hz : z' = z) (hdg : decode cc pc = .ok (.ireturn, 1)) : W p l e R s m args below meth c s.heap [] cells slots (MQ below (oI z) args s cells slots (fun _ => False)) (F0 m pc ls [.int (iI z')]) :=
  W.iret F.1 F.2.1 hr (fun t ht _ => ⟨_, rfl, by rw [hz], ht⟩) (fun q h => nomatch h) hdg hlocks
theorem k_zret (F : CallFix p m c cc nL s args Ts own) (hr : meth.sig.returnType = some .boolean) (hlocks : meth.locks = false) {z z' : Int} (hz : z' = z) (h01 : z' = 0 ∨ z' = 1) (hdg : decode cc pc = .ok (.ireturn, 1)) : W p l e R s m args below meth c s.heap [] cells slots (MQ below (oI z) args s cells slots (fun _ => False)) (F0 m pc ls [.int (iI z')]) :=
  W.zret F.1 F.2.1 hr (by rcases h01 with h | h <;> rw [h] <;> decide +kernel) (fun t ht _ => ⟨_, rfl, by rw [hz], ht⟩) (fun q h => nomatch h) hdg hlocks
end KIT
