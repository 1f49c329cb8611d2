/-! a choir as one world, and the law's own calls of it -/
abbrev DW (G : gT) (B : Nat → Nat) (P : Nat → Nat → Nat) (σ : Sg) : va_W := CW G B P σ (σ 2 0 0).toNat
abbrev Jv (σ : Sg) (N : Nat) : Prop := Iv σ (σ 1 0 0).toNat (σ 2 0 0).toNat N
/-- a wrapper's answer: the code K, the class's answer V, what stands for the exceptions -/
def an (K V a b c : Int) : Int := if K = 0 then V else if K = 1 then a else if K = 2 then b else c
theorem an_0 {K V a b c : Int} (h : K = 0) : an K V a b c = V := if_pos h
theorem an_1 {K V a b c : Int} (h : K = 1) : an K V a b c = a := by subst h; rfl
theorem an_2 {K V a b c : Int} (h : K = 2) : an K V a b c = b := by subst h; rfl
theorem an_3 {K V a b c : Int} (h : K = 3) : an K V a b c = c := by subst h; rfl
def stt (K : Int) (τ σ : Sg) : Sg := if K = 0 then τ else σ
theorem stt_0 {K : Int} {τ σ : Sg} (h : K = 0) : stt K τ σ = τ := if_pos h
theorem stt_n {K : Int} {τ σ : Sg} (h : K ≠ 0) : stt K τ σ = σ := if_neg h
theorem stt_s (K : Int) (σ : Sg) : stt K σ σ = σ := by unfold stt; split <;> rfl
theorem rhS_k {σ : Sg} {i : Nat} : ∀ q, (∀ a, a ≠ 10 → rhS σ i q a = σ a)
  | 0 => fun _ _ => rfl
  | q + 1 => fun a ha => by
    show su (rhS σ i q) 10 i _ _ a = _
    rw [su_k ha]; exact rhS_k q a ha
/-- an answer, and the choir behind -/
abbrev jQ (G : gT) (B : Nat → Nat) (z : Int) (τ : Sg) (A : Nat → Prop) : Array Value → State → Outcome → State → Prop := va_Qi (fun (r : Int32) (_ : Nat → Nat → Nat) => r = iI z) (fun P' t => gP G (DW G B P' τ) t.heap ∧ va_D A (DW G B P' τ)) A
abbrev jC (l : Launch) (y : MethodName) (ws : List Cond) (rm : Room) (G : gT) (z0 sz0 : Nat) (B : Nat → Nat) (P : Nat → Nat → Nat) (σ : Sg) (As : List Value) (z : Int) (τ : Sg) (mc ms : Nat) : Prop :=
  Met l y ws rm (va_Pc (.ref (B 5) :: As) (lB G (DW G B P σ) z0 sz0)) (jQ G B z τ (va_A (DW G B P σ) sz0)) mc ms (va_A (DW G B P σ) sz0)
/-- what a method of the law is given: the world, no cell of it below z0 -/
abbrev qB (G : gT) (w : va_W) (z0 sz : Nat) (U : State) : Prop := lB G w z0 sz U ∧ ∀ x ∈ w, z0 ≤ x.1
theorem qB_blind (G : gT) (w : va_W) (z0 sz : Nat) (As : List Value) : FrameBlind (va_Pc As (qB G w z0 sz)) := fun a U g mk q =>
  have h := lB_blind G w z0 sz As a U g mk ⟨q.1, q.2.1⟩
  ⟨h.1, h.2, q.2.2⟩
section JK
variable {p : Program} {l : Launch} {e : Env} {R : Room} {s : State} {m : MethodId} {args : Array Value} {below : List Frame} {meth : Method} {c : Code} {H H0 : Heap} {locs : List Loc} {cells slots : Nat} {Q : State → Prop}
variable {cc : ByteArray} {pc : Nat} {ls : Array Slot} {rest : List Value} {nL : Nat} {Ts : List Cond} {own : String} {A : Nat → Prop}
theorem k_rem (F : CallFix p m c cc nL s args Ts own) {a b : Int} (ha : 0 ≤ a ∧ a < 2147483648) (hb : 0 < b ∧ b < 2147483648) (hdg : decode cc pc = .ok (.irem, 1)) (k : W p l e R s m args below meth c H locs cells slots Q (F0 m (pc + 1) ls (.int (iI (a % b)) :: rest))) : W p l e R s m args below meth c H locs cells slots Q (F0 m pc ls (.int (iI b) :: .int (iI a) :: rest)) := by
  obtain ⟨j, rfl⟩ : ∃ j : Nat, a = (j : Int) := ⟨a.toNat, by omega⟩
  obtain ⟨d, rfl⟩ : ∃ d : Nat, b = (d : Int) := ⟨b.toNat, by omega⟩
  refine lv_irem F.1 F.2.1 hdg (fun h => ?_) ?_
  · have := (iI_eq0 (by omega)).mp h; omega
  · have e : ((j : Int) % (d : Int)) = ((j % d : Nat) : Int) := by omega
    rw [e, iI_nat] at k
    rw [iI_nat, iI_nat, pk_rem (by omega) (by omega) (by omega)]
    exact k
theorem k_div (F : CallFix p m c cc nL s args Ts own) {a b : Int} (ha : 0 ≤ a ∧ a < 2147483648) (hb : 0 < b ∧ b < 2147483648) (hdg : decode cc pc = .ok (.idiv, 1)) (k : W p l e R s m args below meth c H locs cells slots Q (F0 m (pc + 1) ls (.int (iI (a / b)) :: rest))) : W p l e R s m args below meth c H locs cells slots Q (F0 m pc ls (.int (iI b) :: .int (iI a) :: rest)) := by
  obtain ⟨j, rfl⟩ : ∃ j : Nat, a = (j : Int) := ⟨a.toNat, by omega⟩
  obtain ⟨d, rfl⟩ : ∃ d : Nat, b = (d : Int) := ⟨b.toNat, by omega⟩
  refine lv_idiv F.1 F.2.1 hdg (fun h => ?_) ?_
  · have := (iI_eq0 (by omega)).mp h; omega
  · have e : ((j : Int) / (d : Int)) = ((j / d : Nat) : Int) := by omega
    rw [e, iI_nat] at k
    rw [iI_nat, iI_nat, pk_div (by omega) (by omega) (by omega)]
    exact k
theorem k_ldc (F : CallFix p m c cc nL s args Ts own) {index : Nat} {v : Int32} {z : Int} (hc : Cond.constant own index v ∈ Ts) (hv : v = iI z) (hdg : decode cc pc = .ok (.ldc index, 2)) (k : W p l e R s m args below meth c H locs cells slots Q (F0 m (pc + 2) ls (.int (iI z) :: rest))) : W p l e R s m args below meth c H locs cells slots Q (F0 m pc ls rest) :=
  lv_ldc (v := v) F.1 F.2.1 F.2.2.2.1 (k_cond F hc) hdg (by rw [hv]; exact k)
theorem pm_mid (a b c : va_W) : (a ++ (b ++ c)).Perm (b ++ (a ++ c)) := by
  rw [← List.append_assoc, ← List.append_assoc]
  exact List.perm_append_comm.append_right _
/-- a call of one of the law's own calls of the class -/
theorem j_call2 (F : CallFix p m c cc nL s args Ts own) {G : gT} {wr wq : va_W} {B : Nat → Nat} {P : Nat → Nat → Nat} {σ τ : Sg} {y : MethodName} {bytes : ByteArray} {ws ws' : List Cond} {rm : Room} {mL n index z0 mc ms : Nat} {ret : Option FieldType} {hh : List (Nat × Nat × Nat × Nat)} {As st0 : List Value} {z z' : Int} {τ' : Sg}
    (hM : jC l y ws rm G z0 H.size B P σ As z τ mc ms) (hzz : z = z') (hττ : τ = τ') (g : GoodIn Ts (va_wsS own index y ws)) (hw : ws = .codeWith y bytes mL ret hh :: ws') (hrc : rm.cells = mc) (hrs : rm.slots = ms)
    (hd : y.cls ≠ "java/lang/invoke/MethodHandle" ∧ y.cls ≠ "java/lang/invoke/VarHandle" ∧ (parseMethodDescriptor y.desc).map (fun d => d.parameters.length) = some n) (hR : rm.frames + 1 ≤ R.frames ∧ 8 + (mL + 11) + rm.locals ≤ R.locals)
    (hK : gK G s) (hP : gP G (wr ++ (DW G B P σ ++ wq)) H) (hD : va_D A (wr ++ (DW G B P σ ++ wq))) (hz : lz z0 s) (hAz : ∀ q, A q → z0 ≤ q) (hS : va_S A s.heap H locs) (hA : ∀ q, s.heap.size ≤ q → A q) (hn : (Value.ref (B 5) :: As).length = n) (hst : st0 = (Value.ref (B 5) :: As).reverse ++ rest) (hsz : ls.size = nL) (hW : (rest.map fun v => v.category).sum ≤ 8) (hdg : decode cc pc = .ok (.invokestatic index, 3)) (hf : cells + mc ≤ R.cells ∧ slots + ms ≤ R.slots)
    (kk : ∀ (P' : Nat → Nat → Nat) (H1 : Heap) (locs1 : List Loc), gP G (wr ++ (DW G B P' τ' ++ wq)) H1 → va_D A (wr ++ (DW G B P' τ' ++ wq)) → va_S A s.heap H1 locs1 → W p l e R s m args below meth c H1 locs1 (cells + mc) (slots + ms) Q (F0 m (pc + 3) ls (.int (iI z') :: rest))) : W p l e R s m args below meth c H locs cells slots Q (F0 m pc ls st0) := by
  subst hzz
  subst hττ
  refine l_callS F (w := DW G B P σ) (wr := wr ++ wq) (W2 := fun P' => DW G B P' τ) hM g hw hrc hrs hd hR hK (gP_perm (pm_mid _ _ _) hP) (D_perm (pm_mid _ _ _) hD) hz hAz hS hA hn hst hsz hW hdg hf (fun r u H1 locs1 hpost hP1 hD1 hS1 => ?_)
  subst hpost
  exact kk u H1 locs1 (gP_perm (pm_mid _ _ _) hP1) (D_perm (pm_mid _ _ _) hD1) hS1
theorem j_call (F : CallFix p m c cc nL s args Ts own) {G : gT} {wr : va_W} {B : Nat → Nat} {P : Nat → Nat → Nat} {σ τ : Sg} {y : MethodName} {bytes : ByteArray} {ws ws' : List Cond} {rm : Room} {mL n index z0 mc ms : Nat} {ret : Option FieldType} {hh : List (Nat × Nat × Nat × Nat)} {As st0 : List Value} {z z' : Int} {τ' : Sg}
    (hM : jC l y ws rm G z0 H.size B P σ As z τ mc ms) (hzz : z = z') (hττ : τ = τ') (g : GoodIn Ts (va_wsS own index y ws)) (hw : ws = .codeWith y bytes mL ret hh :: ws') (hrc : rm.cells = mc) (hrs : rm.slots = ms)
    (hd : y.cls ≠ "java/lang/invoke/MethodHandle" ∧ y.cls ≠ "java/lang/invoke/VarHandle" ∧ (parseMethodDescriptor y.desc).map (fun d => d.parameters.length) = some n) (hR : rm.frames + 1 ≤ R.frames ∧ 8 + (mL + 11) + rm.locals ≤ R.locals)
    (hK : gK G s) (hP : gP G (wr ++ DW G B P σ) H) (hD : va_D A (wr ++ DW G B P σ)) (hz : lz z0 s) (hAz : ∀ q, A q → z0 ≤ q) (hS : va_S A s.heap H locs) (hA : ∀ q, s.heap.size ≤ q → A q) (hn : (Value.ref (B 5) :: As).length = n) (hst : st0 = (Value.ref (B 5) :: As).reverse ++ rest) (hsz : ls.size = nL) (hW : (rest.map fun v => v.category).sum ≤ 8) (hdg : decode cc pc = .ok (.invokestatic index, 3)) (hf : cells + mc ≤ R.cells ∧ slots + ms ≤ R.slots)
    (kk : ∀ (P' : Nat → Nat → Nat) (H1 : Heap) (locs1 : List Loc), gP G (wr ++ DW G B P' τ') H1 → va_D A (wr ++ DW G B P' τ') → va_S A s.heap H1 locs1 → W p l e R s m args below meth c H1 locs1 (cells + mc) (slots + ms) Q (F0 m (pc + 3) ls (.int (iI z') :: rest))) : W p l e R s m args below meth c H locs cells slots Q (F0 m pc ls st0) := by
  subst hzz
  subst hττ
  refine l_callS F (w := DW G B P σ) (wr := wr) (W2 := fun P' => DW G B P' τ) hM g hw hrc hrs hd hR hK (gP_perm List.perm_append_comm hP) (D_perm List.perm_append_comm hD) hz hAz hS hA hn hst hsz hW hdg hf (fun r u H1 locs1 hpost hP1 hD1 hS1 => ?_)
  subst hpost
  exact kk u H1 locs1 (gP_perm List.perm_append_comm hP1) (D_perm List.perm_append_comm hD1) hS1
theorem j_call3 (F : CallFix p m c cc nL s args Ts own) {G : gT} {wr wq : va_W} {B : Nat → Nat} {P : Nat → Nat → Nat} {σ τ : Sg} {y : MethodName} {bytes : ByteArray} {ws ws' : List Cond} {rm : Room} {mL n index z0 mc ms : Nat} {ret : Option FieldType} {hh : List (Nat × Nat × Nat × Nat)} {As st0 : List Value} {z z' : Int} {τ' : Sg}
    (hM : jC l y ws rm G z0 H.size B P σ As z τ mc ms) (hzz : z = z') (hττ : τ = τ') (g : GoodIn Ts (va_wsS own index y ws)) (hw : ws = .codeWith y bytes mL ret hh :: ws') (hrc : rm.cells = mc) (hrs : rm.slots = ms)
    (hd : y.cls ≠ "java/lang/invoke/MethodHandle" ∧ y.cls ≠ "java/lang/invoke/VarHandle" ∧ (parseMethodDescriptor y.desc).map (fun d => d.parameters.length) = some n) (hR : rm.frames + 1 ≤ R.frames ∧ 8 + (mL + 11) + rm.locals ≤ R.locals)
    (hK : gK G s) (hP : gP G (wr ++ (wq ++ DW G B P σ)) H) (hD : va_D A (wr ++ (wq ++ DW G B P σ))) (hz : lz z0 s) (hAz : ∀ q, A q → z0 ≤ q) (hS : va_S A s.heap H locs) (hA : ∀ q, s.heap.size ≤ q → A q) (hn : (Value.ref (B 5) :: As).length = n) (hst : st0 = (Value.ref (B 5) :: As).reverse ++ rest) (hsz : ls.size = nL) (hW : (rest.map fun v => v.category).sum ≤ 8) (hdg : decode cc pc = .ok (.invokestatic index, 3)) (hf : cells + mc ≤ R.cells ∧ slots + ms ≤ R.slots)
    (kk : ∀ (P' : Nat → Nat → Nat) (H1 : Heap) (locs1 : List Loc), gP G (wr ++ (wq ++ DW G B P' τ')) H1 → va_D A (wr ++ (wq ++ DW G B P' τ')) → va_S A s.heap H1 locs1 → W p l e R s m args below meth c H1 locs1 (cells + mc) (slots + ms) Q (F0 m (pc + 3) ls (.int (iI z') :: rest))) : W p l e R s m args below meth c H locs cells slots Q (F0 m pc ls st0) := by
  subst hzz
  subst hττ
  refine l_callS F (w := DW G B P σ) (wr := wr ++ wq) (W2 := fun P' => DW G B P' τ) hM g hw hrc hrs hd hR hK (gP_perm List.perm_append_comm (by rw [List.append_assoc]; exact hP)) (D_perm List.perm_append_comm (by rw [List.append_assoc]; exact hD)) hz hAz hS hA hn hst hsz hW hdg hf (fun r u H1 locs1 hpost hP1 hD1 hS1 => ?_)
  subst hpost
  have hP2 := gP_perm List.perm_append_comm hP1
  have hD2 := D_perm List.perm_append_comm hD1
  rw [List.append_assoc] at hP2 hD2
  exact kk u H1 locs1 hP2 hD2 hS1
/-- the head of one of the law's methods -/
theorem q_start {own : String} {y : MethodName} {ws ws' : List Cond} {rm : Room} {mL mc ms z0 sz : Nat} {ret : Option FieldType} {G : gT} {w : va_W} {As : List Value} {Qc : (Nat → Prop) → Array Value → State → Outcome → State → Prop} (hy : plainName y.cls = true) (ho : y.cls = own) (hw : ws = .code y cc mL ret :: ws') (hlen : (lg_sl As).length ≤ mL)
    (body : ∀ (p : Program) (e : Env) (s : State) (m : MethodId) (args : Array Value) (below : List Frame) (meth : Method) (c : Code) (ls : Array Slot) (A : Nat → Prop), CallFix p m c cc mL s args ws own → meth.sig.returnType = ret → meth.locks = false → lz z0 s → (∀ q, A q → z0 ≤ q) → gK G s → gP G w s.heap → va_D A w → va_S A s.heap s.heap [] → (∀ q, s.heap.size ≤ q → A q) → lv_has ls mL (lv_args 0 As) →
      W p l e rm s m args below meth c s.heap [] 0 0 (MQ below (Qc A) args s mc ms A) (F0 m 0 ls [])) : Met l y ws rm (va_Pc As (qB G w z0 sz)) (Qc (va_A w sz)) mc ms (va_A w sz) := by
  refine Met.ofW (cc := cc) (maxL := mL) (ret := ret) hy hw ?_
  intro p e s m args below meth c s₁ B hml hv
  obtain ⟨rfl, ⟨⟨hsz, hP, hK, hD⟩, hE⟩, hwz⟩ := hv
  have hl := lv_entry As (n := mL) hlen
  rw [lg_entry_eq]
  subst hsz
  refine body p e s m _ below meth c _ _ ⟨B.exec, B.bytes, hml, ho ▸ findClass_of_methodNamed B.named, atoms_spec (ws := ws) B.pre⟩ B.returns B.notSynchronized hE (fun q h => ?_) hK hP hD.self va_S.rf (fun q h => Or.inr h) hl
  rcases A_mem.mp h with h | h
  · obtain ⟨y', hy', rfl⟩ := List.mem_map.mp h
    exact hwz y' hy'
  · exact Nat.le_trans hE.1.1 h
/-- a call of another method of the law -/
theorem q_call (F : CallFix p m c cc nL s args Ts own) {G : gT} {w wr wa : va_W} {S : Type} {post : Int32 → S → Prop} {W2 wb : S → va_W} {y : MethodName} {bytes : ByteArray} {ws ws' : List Cond} {rm : Room} {mL n index z0 mc ms : Nat} {ret : Option FieldType} {As st0 : List Value}
    (hM : Met l y ws rm (va_Pc As (qB G w z0 H.size)) (va_Qi post (fun u t => gP G (W2 u) t.heap ∧ va_D (va_A w H.size) (W2 u)) (va_A w H.size)) mc ms (va_A w H.size)) (g : GoodIn Ts (va_wsS own index y ws)) (hw : ws = .code y bytes mL ret :: ws') (hrc : rm.cells = mc) (hrs : rm.slots = ms)
    (hd : y.cls ≠ "java/lang/invoke/MethodHandle" ∧ y.cls ≠ "java/lang/invoke/VarHandle" ∧ (parseMethodDescriptor y.desc).map (fun d => d.parameters.length) = some n) (hR : rm.frames + 1 ≤ R.frames ∧ 8 + (mL + 11) + rm.locals ≤ R.locals)
    (hK : gK G s) (hP : gP G wa H) (hD : va_D A wa) (hpa : wa.Perm (w ++ wr)) (hpb : ∀ u, (W2 u ++ wr).Perm (wb u)) (hz : lz z0 s) (hAz : ∀ q, A q → z0 ≤ q) (hS : va_S A s.heap H locs) (hA : ∀ q, s.heap.size ≤ q → A q) (hn : As.length = n) (hst : st0 = As.reverse ++ rest) (hsz : ls.size = nL) (hW : (rest.map fun v => v.category).sum ≤ 8) (hdg : decode cc pc = .ok (.invokestatic index, 3)) (hf : cells + mc ≤ R.cells ∧ slots + ms ≤ R.slots)
    (kk : ∀ (r : Int32) (u : S) (H1 : Heap) (locs1 : List Loc), post r u → gP G (wb u) H1 → va_D A (wb u) → va_S A s.heap H1 locs1 → W p l e R s m args below meth c H1 locs1 (cells + mc) (slots + ms) Q (F0 m (pc + 3) ls (.int r :: rest))) : W p l e R s m args below meth c H locs cells slots Q (F0 m pc ls st0) := by
  have hP := gP_perm hpa hP
  have hD := D_perm hpa hD
  have hPw := (gP_app.mp hP).1
  have hPr := (gP_app.mp hP).2
  have hDi := D_iff.mp hD
  have hnd := hDi.1
  rw [List.map_append] at hnd
  have hdis := (List.nodup_append.mp hnd).2.2
  have hDw : va_D (fun _ => True) w := D_iff.mpr ⟨(List.nodup_append.mp hnd).1, fun _ _ => trivial⟩
  have hFc : ∀ x, va_A w H.size x → A x := by
    intro x h
    rcases A_mem.mp h with h | h
    · obtain ⟨y', hy', rfl⟩ := List.mem_map.mp h
      exact hDi.2 y' (List.mem_append_left _ hy')
    · exact hA x (Nat.le_trans hS.1 h)
  have hno : ∀ x ∈ wr, x.1 < H.size ∧ ¬ va_A w H.size x.1 := by
    intro x hx
    have hlt := (gP_iff.mp hPr x hx).lt
    refine ⟨hlt, fun h => ?_⟩
    rcases A_mem.mp h with h | h
    · exact hdis x.1 h x.1 (List.mem_map.mpr ⟨x, hx, rfl⟩) rfl
    · omega
  have hwz : ∀ x ∈ w, z0 ≤ x.1 := fun x hx => hAz x.1 (hDi.2 x (List.mem_append_left _ hx))
  refine va_calli (va_runS (As := As) (rest := rest) F hM (va_cwS n F.2.2.2.2 g hw hrc hrs hd hR) ⟨qB_blind G w z0 _ _, fun U hU hW => ⟨rfl, ⟨⟨by rw [hU], by rw [hU]; exact hPw, va_K.moved hW.alike hK, hDw⟩, lz_to hW (by rw [hU]; exact hS.1) (fun a ha h9 => by rw [hU]; exact hS.2.1 a ha (fun q => h9 (hAz a q))) hz⟩, hwz⟩⟩ rfl hn hsz hst (lv_room hW) hdg hf) hS (fun q _ h => hFc q h) hFc (fun r u t H1 locs1 ht hvm hw hB hz1 hk hS1 => ?_)
  obtain ⟨hB1, hB2⟩ := hB
  rw [ht] at hB1
  refine kk r u H1 locs1 hw (gP_perm (hpb u) (gP_app.mpr ⟨hB1, gP_iff.mpr (fun x hx => (gP_iff.mp hPr x hx).kept (hk x.1 (hno x hx).1 (hno x hx).2))⟩)) (D_perm (hpb u) (D_iff.mpr ⟨?_, ?_⟩)) hS1
  · rw [List.map_append]
    refine List.nodup_append.mpr ⟨(D_iff.mp hB2).1, (List.nodup_append.mp hnd).2.1, ?_⟩
    intro x hx y hy e
    obtain ⟨x', hx', rfl⟩ := List.mem_map.mp hx
    obtain ⟨y', hy', rfl⟩ := List.mem_map.mp hy
    have h9 := (D_iff.mp hB2).2 x' hx'
    rw [e] at h9
    exact (hno y' hy').2 h9
  · intro x hx
    rcases List.mem_append.mp hx with h | h
    · exact hFc x.1 ((D_iff.mp hB2).2 x h)
    · exact hDi.2 x (List.mem_append_right _ h)
end JK
section JK2
variable {p : Program} {l : Launch} {e : Env} {R : Room} {s : State} {m : MethodId} {args : Array Value} {below : List Frame} {meth : Method} {c : Code} {H H0 : Heap} {locs : List Loc} {cells slots : Nat} {Q : State → Prop}
variable {cc : ByteArray} {pc : Nat} {ls : Array Slot} {rest : List Value} {nL : Nat} {Ts : List Cond} {own : String} {A : Nat → Prop}
theorem k_same_ne (F : CallFix p m c cc nL s args Ts own) {a : Int32} {off : Int} {tgt : Nat} (hdg : decode cc pc = .ok (.if_icmp .ne off, 3)) (ht : (pc : Int) + off = (tgt : Int)) (kf : W p l e R s m args below meth c H locs cells slots Q (F0 m (pc + 3) ls rest)) : W p l e R s m args below meth c H locs cells slots Q (F0 m pc ls (.int a :: .int a :: rest)) :=
  lv_icmp_ne F.1 F.2.1 hdg ht (fun h => absurd rfl h) (fun _ => kf)
end JK2
/-! the law's rows of numbers -/
abbrev A2 (G : gT) (n m : Nat) (fn fm : Nat → Int) : va_W := [(n, .inl (G.2.1, 3, .inl (ia fn))), (m, .inl (G.2.1, 6, .inl (ia fm)))]
abbrev A1 (G : gT) (o : Nat) (fl : Nat → Int) : va_W := [(o, .inl (G.2.1, 6, .inl (ia fl)))]
def NF (f : Nat → Int) (σ : Sg) : Prop := f 0 = σ 1 0 0 ∧ f 1 = σ 2 0 0 ∧ f 2 = σ 8 (σ 2 0 0).toNat 0
def MF (f : Nat → Int) (σ : Sg) : Prop := ∀ i : Nat, (i : Int) < σ 2 0 0 → f i = σ 8 i 0
def LF (f : Nat → Int) (σ : Sg) : Prop := ∀ i : Nat, i < 6 → f i = σ 9 i 0
theorem Jv_b {σ : Sg} {N : Nat} (h : Jv σ N) : (0 ≤ σ 1 0 0 ∧ σ 1 0 0 ≤ 12) ∧ (0 ≤ σ 2 0 0 ∧ σ 2 0 0 ≤ 6) ∧ ∀ i, 0 ≤ σ 8 i 0 ∧ σ 8 i 0 ≤ 16 := by
  obtain ⟨h1, h2, h3, h4, h5, h6, h7, h8⟩ := h
  exact ⟨by omega, by omega, h7⟩
