/-! methods that throw, or write and return -/
def yI (P : Prop) (z : Int) (G : gT) (w : va_W) (A : Nat → Prop) : Array Value → State → Outcome → State → Prop := va_Qi (fun (r : Int32) (_ : Unit) => r = iI z ∧ P) (fun _ t => gP G w t.heap) A
abbrev xW (G : gT) (w : va_W) (z0 sz : Nat) (U : State) : Prop := U.heap.size = sz ∧ xB G w z0 U ∧ va_D (fun _ => True) w
theorem xW_blind (G : gT) (w : va_W) (z0 sz : Nat) (As : List Value) : FrameBlind (va_Pc As (xW G w z0 sz)) := fun a U g mk q => ⟨q.1, q.2.1, ⟨q.2.2.1.1, va_K.moved (u := U) (U := U.calling g mk a) (Vm.Alike.refl U.vm) q.2.2.1.2.1, tz_call q.2.2.1.2.2⟩, q.2.2.2⟩
section KITV
variable {p : Program} {l : Launch} {e : Env} {R : Room} {s : State} {m : MethodId} {args : Array Value} {below : List Frame} {meth : Method} {c : Code} {H H0 : Heap} {locs : List Loc} {cells slots : Nat} {Q : State → Prop}
variable {cc : ByteArray} {pc : Nat} {ls : Array Slot} {rest : List Value} {nL : Nat} {Ts : List Cond} {own : String} {A A0 : Nat → Prop}
theorem x_startW {own : String} {y : MethodName} {ws ws' : List Cond} {rm : Room} {mL mc ms z0 sz : Nat} {ret : Option FieldType} {G : gT} {w : va_W} {As : List Value} {Qc : (Nat → Prop) → Array Value → State → Outcome → State → Prop} {XC : String → State → State → Prop} (hy : plainName y.cls = true) (ho : y.cls = own) (hw : ws = .code y cc mL ret :: ws') (hlen : (lg_sl As).length ≤ mL)
    (body : ∀ (p : Program) (e : Env) (s : State) (m : MethodId) (args : Array Value) (below : List Frame) (meth : Method) (c : Code) (ls : Array Slot) (A : Nat → Prop), CallFix p m c cc mL s args ws own → meth.sig.returnType = ret → meth.locks = false → (∀ x ∈ c.exceptionTable.toList, False) → gP G w s.heap → gK G s → tz z0 s → va_D A w → (∀ q, s.heap.size ≤ q → A q) → lv_has ls mL (lv_args 0 As) →
      W p l e rm s m args below meth c s.heap [] 0 0 (vx_MQ below (Qc A) XC args s mc ms A) (F0 m 0 ls [])) : vx_Met l y ws rm (va_Pc As (xW G w z0 sz)) (Qc (va_A w sz)) XC mc ms (va_A w sz) := by
  refine vx_ofW (cc := cc) (maxL := mL) (ret := ret) hy hw ?_
  intro p e s m args below meth c s₁ B hml hx hv
  obtain ⟨rfl, hsz, ⟨hP, hK, hz⟩, hD⟩ := hv
  have hl := lv_entry As (n := mL) hlen
  rw [lg_entry_eq]
  subst hsz
  exact body p e s m _ below meth c _ _ ⟨B.exec, B.bytes, hml, ho ▸ findClass_of_methodNamed B.named, atoms_spec (ws := ws) B.pre⟩ B.returns B.notSynchronized hx hP hK hz hD.self (fun q h => Or.inr h) hl
theorem x_wret (F : CallFix p m c cc nL s args Ts own) (hlocks : meth.locks = false) {G : gT} {w' : va_W} {P : Prop} {z z' : Int} {mc ms : Nat} {XC : String → State → State → Prop} (hr : meth.sig.returnType = some .int) (hp : P) (hz : z' = z) (hP : gP G w' H) (hS : va_S A s.heap H locs) (hc : cells ≤ mc ∧ slots ≤ ms) (hdg : decode cc pc = .ok (.ireturn, 1)) : W p l e R s m args below meth c H locs cells slots (vx_MQ below (yI P z G w' A) XC args s mc ms A) (F0 m pc ls [.int (iI z')]) :=
  W.widen hc.1 hc.2 (vx_ret (W.iret F.1 F.2.1 hr (fun t ht _ => ⟨⟨_, (), rfl, ⟨by rw [hz], hp⟩, by show gP G w' t.heap; rw [ht]; exact hP⟩, hS.F ht⟩) hS.2.2 hdg hlocks))
theorem x_wzret (F : CallFix p m c cc nL s args Ts own) (hlocks : meth.locks = false) {G : gT} {w' : va_W} {P : Prop} {z z' : Int} {mc ms : Nat} {XC : String → State → State → Prop} (hr : meth.sig.returnType = some .boolean) (hp : P) (hz : z' = z) (h01 : z' = 0 ∨ z' = 1) (hP : gP G w' H) (hS : va_S A s.heap H locs) (hc : cells ≤ mc ∧ slots ≤ ms) (hdg : decode cc pc = .ok (.ireturn, 1)) : W p l e R s m args below meth c H locs cells slots (vx_MQ below (yI P z G w' A) XC args s mc ms A) (F0 m pc ls [.int (iI z')]) :=
  W.widen hc.1 hc.2 (vx_ret (W.zret F.1 F.2.1 hr (by rcases h01 with h | h <;> rw [h] <;> decide +kernel) (fun t ht _ => ⟨⟨_, (), rfl, ⟨by rw [hz], hp⟩, by show gP G w' t.heap; rw [ht]; exact hP⟩, hS.F ht⟩) hS.2.2 hdg hlocks))
end KITV
theorem su_s (σ : Sg) (k i j : Nat) (v : Int) : su σ k i j v k i = uI (σ k i) j v := by simp [su]
theorem su_n (σ : Sg) (k : Nat) {i b : Nat} (j : Nat) (v : Int) (h : b ≠ i) : su σ k i j v k b = σ k b := by simp [su, h]
theorem PL_cong {G : gT} {P : Nat → Nat → Nat} {σ τ : Sg} (h7 : τ 7 = σ 7) (h8 : τ 8 = σ 8) (h9 : τ 9 = σ 9) (h10 : τ 10 = σ 10) : ∀ k : Nat, PL G P τ k = PL G P σ k
  | 0 => rfl
  | k + 1 => by
    have e : PWi G P τ k = PWi G P σ k := by
      show PW G (P k) (τ 7 k) (τ 10 k) (mff (τ 7 k) (τ 8 k 0)) (τ 8 k 0) (τ 9 k 0) = _
      rw [h7, h8, h9, h10]
    rw [PL_s, PL_s, PL_cong h7 h8 h9 h10 k, e]
theorem CW_roster {G : gT} {B : Nat → Nat} {P : Nat → Nat → Nat} {σ τ : Sg} {k : Nat} (h2 : τ 2 = σ 2) (h7 : τ 7 = σ 7) (h8 : τ 8 = σ 8) (h9 : τ 9 = σ 9) (h10 : τ 10 = σ 10) : (RW G B τ ++ (CH G B P σ k ++ PL G P σ (k + 1))).Perm (CW G B P τ k) := by
  show (RW G B τ ++ (CH G B P σ k ++ PL G P σ (k + 1))).Perm (RW G B τ ++ (CH G B P τ k ++ PL G P τ (k + 1)))
  have e : CH G B P τ k = CH G B P σ k := by unfold CH; rw [h2]
  rw [PL_cong h7 h8 h9 h10, e]
theorem CW_piece {G : gT} {B : Nat → Nat} {P : Nat → Nat → Nat} {σ τ : Sg} {k i : Nat} (hi : i ≤ k) {tn pr mf : Nat → Int} {sz sc : Int} (h7 : τ 7 i = tn) (h10 : τ 10 i = pr) (h8 : τ 8 i 0 = sz) (h9 : τ 9 i 0 = sc) (hmf : mf = mff tn sz)
    (hne : ∀ j, j ≠ i → τ 7 j = σ 7 j ∧ τ 10 j = σ 10 j ∧ τ 8 j 0 = σ 8 j 0 ∧ τ 9 j 0 = σ 9 j 0) (h1 : τ 1 = σ 1) (h2 : τ 2 = σ 2) (h3 : τ 3 = σ 3) (h4 : τ 4 = σ 4) (h5 : τ 5 = σ 5) (h6 : τ 6 = σ 6) :
    (PW G (P i) tn pr mf sz sc ++ CX G B P σ k i).Perm (CW G B P τ k) := by
  have e : CX G B P τ k i = CX G B P σ k i := CX_same (fun j hj => by
    obtain ⟨a1, a2, a3, a4⟩ := hne j hj
    show PW G (P j) (τ 7 j) (τ 10 j) (mff (τ 7 j) (τ 8 j 0)) (τ 8 j 0) (τ 9 j 0) = _
    rw [a1, a2, a3, a4]) (by show RW G B τ = RW G B σ; unfold RW; rw [h1, h3, h4, h5, h6]) (by show CH G B P τ k = CH G B P σ k; unfold CH; rw [h2])
  subst hmf
  subst h7; subst h10; subst h8; subst h9
  rw [← e]
  exact (CX_perm hi).symm
theorem PL_adr {G : gT} {P : Nat → Nat → Nat} (σ τ : Sg) : ∀ k : Nat, (PL G P τ k).map (·.1) = (PL G P σ k).map (·.1)
  | 0 => rfl
  | k + 1 => by rw [PL_s, PL_s, List.map_append, List.map_append, PL_adr σ τ k]; rfl
theorem CW_adr {G : gT} {B : Nat → Nat} {P : Nat → Nat → Nat} (σ τ : Sg) (k : Nat) : (CW G B P τ k).map (·.1) = (CW G B P σ k).map (·.1) := by
  show (RW G B τ ++ (CH G B P τ k ++ PL G P τ (k + 1))).map (·.1) = (RW G B σ ++ (CH G B P σ k ++ PL G P σ (k + 1))).map (·.1)
  rw [List.map_append, List.map_append, List.map_append, List.map_append, PL_adr σ τ]
  rfl
