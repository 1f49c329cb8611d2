/-! methods that write: worlds up to order, the frame rule, rows -/
theorem gP_iff {G : gT} {w : va_W} {H : Heap} : gP G w H ↔ ∀ q ∈ w, va_at G.1 vwCl q H :=
  ⟨fun h q hq => by obtain ⟨k, hk⟩ := List.getElem?_of_mem hq; exact h k q hk, fun h k q hk => h q (List.mem_of_getElem? hk)⟩
theorem gP_perm {G : gT} {w w' : va_W} {H : Heap} (h : w.Perm w') (hP : gP G w H) : gP G w' H :=
  gP_iff.mpr (fun q hq => gP_iff.mp hP q (h.mem_iff.mpr hq))
theorem gP_of_mem {G : gT} {w w' : va_W} {H : Heap} (h : ∀ q ∈ w', q ∈ w) (hP : gP G w H) : gP G w' H :=
  gP_iff.mpr (fun q hq => gP_iff.mp hP q (h q hq))
theorem gP_app {G : gT} {a b : va_W} {H : Heap} : gP G (a ++ b) H ↔ gP G a H ∧ gP G b H :=
  ⟨fun h => ⟨gP_of_mem (fun q hq => List.mem_append_left _ hq) h, gP_of_mem (fun q hq => List.mem_append_right _ hq) h⟩, fun h => va_P.app h.1 h.2⟩
theorem D_iff {A : Nat → Prop} {w : va_W} : va_D A w ↔ (w.map (·.1)).Nodup ∧ ∀ q ∈ w, A q.1 := by
  constructor
  · intro h
    refine ⟨?_, fun q hq => by obtain ⟨k, hk⟩ := List.getElem?_of_mem hq; exact h.2 k q hk⟩
    refine List.pairwise_iff_getElem.mpr (fun i j hi hj hij e => ?_)
    rw [List.length_map] at hi hj
    rw [List.getElem_map, List.getElem_map] at e
    have := h.1 i j w[i] w[j] (List.getElem?_eq_getElem hi) (List.getElem?_eq_getElem hj) e
    omega
  · intro h
    have h1 := List.pairwise_iff_getElem.mp h.1
    refine ⟨fun i j p q hi hj e => ?_, fun k q hk => h.2 q (List.mem_of_getElem? hk)⟩
    obtain ⟨hi', hi2⟩ := List.getElem?_eq_some_iff.mp hi
    obtain ⟨hj', hj2⟩ := List.getElem?_eq_some_iff.mp hj
    have l1 : i < (w.map (·.1)).length := by rw [List.length_map]; exact hi'
    have l2 : j < (w.map (·.1)).length := by rw [List.length_map]; exact hj'
    have e2 : (w.map (·.1))[i] = (w.map (·.1))[j] := by rw [List.getElem_map, List.getElem_map, hi2, hj2]; exact e
    rcases Nat.lt_trichotomy i j with q1 | q1 | q1
    · exact absurd e2 (h1 i j l1 l2 q1)
    · exact q1
    · exact absurd e2.symm (h1 j i l2 l1 q1)
theorem D_addr {A : Nat → Prop} {w w' : va_W} (h : (w'.map (·.1)).Perm (w.map (·.1))) (hD : va_D A w) : va_D A w' := by
  obtain ⟨h1, h2⟩ := D_iff.mp hD
  refine D_iff.mpr ⟨h.nodup_iff.mpr h1, fun q hq => ?_⟩
  have h3 : q.1 ∈ w.map (·.1) := h.mem_iff.mp (List.mem_map.mpr ⟨q, hq, rfl⟩)
  obtain ⟨q', h4, h5⟩ := List.mem_map.mp h3
  rw [← h5]; exact h2 q' h4
theorem D_perm {A : Nat → Prop} {w w' : va_W} (h : w.Perm w') (hD : va_D A w) : va_D A w' := D_addr (h.symm.map _) hD
theorem D_left {A : Nat → Prop} {a b : va_W} (hD : va_D A (a ++ b)) : va_D A a := by
  obtain ⟨h1, h2⟩ := D_iff.mp hD
  rw [List.map_append] at h1
  exact D_iff.mpr ⟨(List.nodup_append.mp h1).1, fun q hq => h2 q (List.mem_append_left _ hq)⟩
theorem D_any {A : Nat → Prop} {w : va_W} (hD : va_D A w) : va_D (fun _ => True) w := hD.weaken (fun _ _ _ _ => trivial)
theorem A_mem {w : va_W} {sz q : Nat} : va_A w sz q ↔ q ∈ w.map (·.1) ∨ sz ≤ q := by
  constructor
  · intro h
    rcases h with ⟨k, e, h⟩ | h
    · exact Or.inl (List.mem_map.mpr ⟨(q, e), List.mem_of_getElem? h, rfl⟩)
    · exact Or.inr h
  · intro h
    rcases h with h | h
    · obtain ⟨x, hx, e⟩ := List.mem_map.mp h
      obtain ⟨k, hk⟩ := List.getElem?_of_mem hx
      subst e
      exact Or.inl ⟨k, x.2, hk⟩
    · exact Or.inr h
/-- behind a call, up to order: what came back beside the rest, which is unchanged -/
theorem j_P {G : gT} {A0 : Nat → Prop} {ws1 w w' wr ws2 : va_W} {H H1 : Heap} (hP : gP G ws1 H) (hD : va_D A0 ws1) (hp1 : ws1.Perm (w ++ wr)) (hp2 : (w' ++ wr).Perm ws2)
    (hk : ∀ q : Nat, q < H.size → ¬ va_A w H.size q → H1[q]? = H[q]?) (hP1 : gP G w' H1) : gP G ws2 H1 := by
  refine gP_perm hp2 (gP_app.mpr ⟨hP1, ?_⟩)
  have hPr := (gP_app.mp (gP_perm hp1 hP)).2
  have hDr := (D_iff.mp (D_perm hp1 hD)).1
  rw [List.map_append] at hDr
  refine gP_iff.mpr (fun q hq => ?_)
  have h1 := gP_iff.mp hPr q hq
  refine h1.kept (hk q.1 h1.lt (fun h => ?_))
  rcases A_mem.mp h with h | h
  · exact (List.nodup_append.mp hDr).2.2 q.1 h q.1 (List.mem_map.mpr ⟨q, hq, rfl⟩) rfl
  · have := h1.lt; omega
theorem j_D {A0 : Nat → Prop} {ws1 w w' wr ws2 : va_W} (hD : va_D A0 ws1) (hp1 : ws1.Perm (w ++ wr)) (hp2 : (w' ++ wr).Perm ws2) (ha : w'.map (·.1) = w.map (·.1)) : va_D A0 ws2 := by
  refine D_addr ?_ hD
  refine (hp2.symm.map _).trans ?_
  rw [List.map_append, ha, ← List.map_append]
  exact (hp1.symm.map _)
theorem j_A {A0 : Nat → Prop} {ws1 w wr : va_W} {H0 H : Heap} {locs : List Loc} (hD : va_D A0 ws1) (hp1 : ws1.Perm (w ++ wr)) (hS : va_S A0 H0 H locs) (hA : ∀ q, H0.size ≤ q → A0 q) : ∀ q, va_A w H.size q → A0 q := by
  intro q h
  rcases A_mem.mp h with h | h
  · obtain ⟨x, hx, e⟩ := List.mem_map.mp h
    subst e
    exact (D_iff.mp hD).2 x (hp1.mem_iff.mpr (List.mem_append_left _ hx))
  · exact hA q (Nat.le_trans hS.1 h)
abbrev wB (G : gT) (w : va_W) (sz : Nat) (U : State) : Prop := U.heap.size = sz ∧ gP G w U.heap ∧ gK G U ∧ va_D (fun _ => True) w
theorem wB_blind (G : gT) (w : va_W) (sz : Nat) (As : List Value) : FrameBlind (va_Pc As (wB G w sz)) := fun a U g mk q => ⟨q.1, q.2.1, q.2.2.1, va_K.moved (u := U) (U := U.calling g mk a) (Vm.Alike.refl U.vm) q.2.2.2.1, q.2.2.2.2⟩
/-- an answer that is a number, and the world behind -/
def wI (z : Int) (G : gT) (w : va_W) (A : Nat → Prop) : Array Value → State → Outcome → State → Prop := va_Qi (fun (r : Int32) (_ : Unit) => r = iI z) (fun _ t => gP G w t.heap) A
def wV (G : gT) (w : va_W) (A : Nat → Prop) : Array Value → State → Outcome → State → Prop := va_Qv (fun (_ : Unit) => True) (fun _ t => gP G w t.heap) A
section KITW
variable {p : Program} {l : Launch} {e : Env} {R : Room} {s : State} {m : MethodId} {args : Array Value} {below : List Frame} {meth : Method} {c : Code} {H H0 : Heap} {locs : List Loc} {cells slots : Nat} {Q : State → Prop}
variable {cc : ByteArray} {pc : Nat} {ls : Array Slot} {rest : List Value} {nL : Nat} {Ts : List Cond} {own : String} {A A0 : Nat → Prop}
theorem wr_start {own : String} {y : MethodName} {ws ws' : List Cond} {rm : Room} {mL mc ms sz : Nat} {ret : Option FieldType} {G : gT} {w : va_W} {As : List Value} {Qc : (Nat → Prop) → Array Value → State → Outcome → State → Prop} (hy : plainName y.cls = true) (ho : y.cls = own) (hw : ws = .code y cc mL ret :: ws') (hlen : (lg_sl As).length ≤ mL)
    (body : ∀ (p : Program) (e : Env) (s : State) (m : MethodId) (args : Array Value) (below : List Frame) (meth : Method) (c : Code) (ls : Array Slot) (A : Nat → Prop), CallFix p m c cc mL s args ws own → meth.sig.returnType = ret → meth.locks = false → meth.name = y.name → gK G s → s.heap.size = sz → gP G w s.heap → va_D A w → va_S A s.heap s.heap [] → (∀ q, s.heap.size ≤ q → A q) → lv_has ls mL (lv_args 0 As) →
      W p l e rm s m args below meth c s.heap [] 0 0 (MQ below (Qc A) args s mc ms A) (F0 m 0 ls [])) : Met l y ws rm (va_Pc As (wB G w sz)) (Qc (va_A w sz)) mc ms (va_A w sz) := by
  refine Met.ofW (cc := cc) (maxL := mL) (ret := ret) hy hw ?_
  intro p e s m args below meth c s₁ B hml hv
  obtain ⟨rfl, hsz, hP, hK, hD⟩ := hv
  have hl := lv_entry As (n := mL) hlen
  rw [lg_entry_eq]
  subst hsz
  exact body p e s m _ below meth c _ _ ⟨B.exec, B.bytes, hml, ho ▸ findClass_of_methodNamed B.named, atoms_spec (ws := ws) B.pre⟩ B.returns B.notSynchronized (name_of_methodNamed B.named B.method).1 hK rfl hP hD.self va_S.rf (fun q h => Or.inr h) hl
theorem k_iast (F : CallFix p m c cc nL s args Ts own) {G : gT} {w : va_W} {a : Nat} (hK : gK G s) (hP : gP G w H) (hD : va_D A w) (hS : va_S A H0 H locs) (q0 : Nat) {n : Nat} {f : Nat → Int} (ha : w[q0]? = some (a, .inl (G.2.1, n, .inl (ia f)))) {z v : Int} (k : Nat) (hk : z = (k : Int)) (hlt : k < n) (hn : n < 2 ^ 31) (hdg : decode cc pc = .ok (.iastore, 1))
    (kk : ∀ (H1 : Heap) (locs1 : List Loc), gP G (w.set q0 (a, .inl (G.2.1, n, .inl (ia (uI f k v))))) H1 → va_D A (w.set q0 (a, .inl (G.2.1, n, .inl (ia (uI f k v))))) → va_S A H0 H1 locs1 → W p l e R s m args below meth c H1 locs1 cells slots Q (F0 m (pc + 1) ls rest)) : W p l e R s m args below meth c H locs cells slots Q (F0 m pc ls (.int (iI v) :: .int (iI z) :: .ref a :: rest)) := by
  refine va_iast F.1 F.2.1 hK hP hD hS q0 0 ha rfl (iI_in hk hlt hn) hdg (fun H1 locs1 h1 h2 h3 => ?_)
  rw [iI_cl hk (by omega), ia_upd] at h1 h2
  exact kk H1 locs1 h1 h2 h3
theorem wr_ret (F : CallFix p m c cc nL s args Ts own) {G : gT} {w' : va_W} {z z' : Int} (hr : meth.sig.returnType = some .int) (hlocks : meth.locks = false) (hz : z' = z) (hP : gP G w' H) (hS : va_S A s.heap H locs) (hdg : decode cc pc = .ok (.ireturn, 1)) : W p l e R s m args below meth c H locs cells slots (MQ below (wI z G w' A) args s cells slots A) (F0 m pc ls [.int (iI z')]) :=
  W.iret F.1 F.2.1 hr (fun t ht _ => ⟨⟨_, (), rfl, by rw [hz], by show gP G w' t.heap; rw [ht]; exact hP⟩, hS.F ht⟩) hS.2.2 hdg hlocks
theorem wr_zret (F : CallFix p m c cc nL s args Ts own) {G : gT} {w' : va_W} {z z' : Int} (hr : meth.sig.returnType = some .boolean) (hlocks : meth.locks = false) (hz : z' = z) (h01 : z' = 0 ∨ z' = 1) (hP : gP G w' H) (hS : va_S A s.heap H locs) (hdg : decode cc pc = .ok (.ireturn, 1)) : W p l e R s m args below meth c H locs cells slots (MQ below (wI z G w' A) args s cells slots A) (F0 m pc ls [.int (iI z')]) :=
  W.zret F.1 F.2.1 hr (by rcases h01 with h | h <;> rw [h] <;> decide +kernel) (fun t ht _ => ⟨⟨_, (), rfl, by rw [hz], by show gP G w' t.heap; rw [ht]; exact hP⟩, hS.F ht⟩) hS.2.2 hdg hlocks
theorem wr_vret (F : CallFix p m c cc nL s args Ts own) {G : gT} {w' : va_W} (hr : meth.sig.returnType = none) (hlocks : meth.locks = false) (hP : gP G w' H) (hS : va_S A s.heap H locs) (hdg : decode cc pc = .ok (.return_, 1)) : W p l e R s m args below meth c H locs cells slots (MQ below (wV G w' A) args s cells slots A) (F0 m pc ls []) :=
  W.vret F.1 F.2.1 hr (fun t ht _ => ⟨⟨(), rfl, trivial, by show gP G w' t.heap; rw [ht]; exact hP⟩, hS.F ht⟩) hS.2.2 hdg hlocks
/-- a call of a method that writes: a number comes back -/
theorem wr_V (F : CallFix p m c cc nL s args Ts own) {G : gT} {w w' ws1 ws2 wr : va_W} {z : Int} {y : MethodName} {bytes : ByteArray} {ws ws' : List Cond} {rm : Room} {mL n index : Nat} {ret : Option FieldType} {b : Nat} {As st0 : List Value} {C : String}
    (hM : Met l y ws rm (va_Pc (.ref b :: As) (wB G w H.size)) (wI z G w' (va_A w H.size)) 0 0 (va_A w H.size)) (g : GoodIn Ts (wsV own index C y ws)) (hw : ws = .code y bytes mL ret :: ws') (hrc : rm.cells = 0) (hrs : rm.slots = 0)
    (hd : y.cls = C ∧ y.cls ≠ "java/lang/invoke/MethodHandle" ∧ y.cls ≠ "java/lang/invoke/VarHandle" ∧ (parseMethodDescriptor y.desc).map (fun d => d.parameters.length) = some n) (hR : rm.frames + 1 ≤ R.frames ∧ 8 + (mL + 11) + rm.locals ≤ R.locals)
    (hK : gK G s) (hP : gP G ws1 H) (hD : va_D A0 ws1) (hS : va_S A0 H0 H locs) (hA : ∀ q, H0.size ≤ q → A0 q) (hp1 : ws1.Perm (w ++ wr)) (hp2 : (w' ++ wr).Perm ws2) (hadr : w'.map (·.1) = w.map (·.1)) {ci q0 : Nat} {T : u_T} {N : Nat} {fs : List Value} (hc : vwCl[ci]? = some (C, T, N)) (he : w[q0]? = some (b, .inr (ci, fs))) (hn : As.length = n) (hst : st0 = As.reverse ++ .ref b :: rest) (hsz : ls.size = nL) (hW : (rest.map fun v => v.category).sum ≤ 8) (hdg : decode cc pc = .ok (.invokevirtual index, 3)) (hf : cells ≤ R.cells ∧ slots ≤ R.slots)
    (kk : ∀ (H1 : Heap) (locs1 : List Loc), gP G ws2 H1 → va_D A0 ws2 → va_S A0 H0 H1 locs1 → W p l e R s m args below meth c H1 locs1 cells slots Q (F0 m (pc + 3) ls (.int (iI z) :: rest))) : W p l e R s m args below meth c H locs cells slots Q (F0 m pc ls st0) := by
  have hPc := (gP_app.mp (gP_perm hp1 hP)).1
  have hFc := j_A hD hp1 hS hA
  refine va_calli (va_runV (As := As) (rest := rest) F hM (cwV n F.2.2.2.2 g hw hrc hrs hd hR) ⟨wB_blind G w _ _, va_recv hK hPc hc he, fun U hU hW => ⟨rfl, by rw [hU], by rw [hU]; exact hPc, va_K.moved hW.alike hK, D_any (D_left (D_perm hp1 hD))⟩⟩ rfl hn hsz hst (lv_room hW) hdg hf) hS (fun q _ h => hFc q h) hFc (fun r u t H1 locs1 ht hvm hw hB hz hk hS1 => ?_)
  subst hw
  rw [ht] at hB
  exact kk H1 locs1 (j_P hP hD hp1 hp2 hk hB) (j_D hD hp1 hp2 hadr) hS1
theorem wv_V (F : CallFix p m c cc nL s args Ts own) {G : gT} {w w' ws1 ws2 wr : va_W} {y : MethodName} {bytes : ByteArray} {ws ws' : List Cond} {rm : Room} {mL n index : Nat} {ret : Option FieldType} {b : Nat} {As st0 : List Value} {C : String}
    (hM : Met l y ws rm (va_Pc (.ref b :: As) (wB G w H.size)) (wV G w' (va_A w H.size)) 0 0 (va_A w H.size)) (g : GoodIn Ts (wsV own index C y ws)) (hw : ws = .code y bytes mL ret :: ws') (hrc : rm.cells = 0) (hrs : rm.slots = 0)
    (hd : y.cls = C ∧ y.cls ≠ "java/lang/invoke/MethodHandle" ∧ y.cls ≠ "java/lang/invoke/VarHandle" ∧ (parseMethodDescriptor y.desc).map (fun d => d.parameters.length) = some n) (hR : rm.frames + 1 ≤ R.frames ∧ 8 + (mL + 11) + rm.locals ≤ R.locals)
    (hK : gK G s) (hP : gP G ws1 H) (hD : va_D A0 ws1) (hS : va_S A0 H0 H locs) (hA : ∀ q, H0.size ≤ q → A0 q) (hp1 : ws1.Perm (w ++ wr)) (hp2 : (w' ++ wr).Perm ws2) (hadr : w'.map (·.1) = w.map (·.1)) {ci q0 : Nat} {T : u_T} {N : Nat} {fs : List Value} (hc : vwCl[ci]? = some (C, T, N)) (he : w[q0]? = some (b, .inr (ci, fs))) (hn : As.length = n) (hst : st0 = As.reverse ++ .ref b :: rest) (hsz : ls.size = nL) (hW : (rest.map fun v => v.category).sum ≤ 8) (hdg : decode cc pc = .ok (.invokevirtual index, 3)) (hf : cells ≤ R.cells ∧ slots ≤ R.slots)
    (kk : ∀ (H1 : Heap) (locs1 : List Loc), gP G ws2 H1 → va_D A0 ws2 → va_S A0 H0 H1 locs1 → W p l e R s m args below meth c H1 locs1 cells slots Q (F0 m (pc + 3) ls rest)) : W p l e R s m args below meth c H locs cells slots Q (F0 m pc ls st0) := by
  have hPc := (gP_app.mp (gP_perm hp1 hP)).1
  have hFc := j_A hD hp1 hS hA
  refine va_callv (va_runV (As := As) (rest := rest) F hM (cwV n F.2.2.2.2 g hw hrc hrs hd hR) ⟨wB_blind G w _ _, va_recv hK hPc hc he, fun U hU hW => ⟨rfl, by rw [hU], by rw [hU]; exact hPc, va_K.moved hW.alike hK, D_any (D_left (D_perm hp1 hD))⟩⟩ rfl hn hsz hst (lv_room hW) hdg hf) hS (fun q _ h => hFc q h) hFc (fun u t H1 locs1 ht hvm hw hB hz hk hS1 => ?_)
  rw [ht] at hB
  exact kk H1 locs1 (j_P hP hD hp1 hp2 hk hB) (j_D hD hp1 hp2 hadr) hS1
end KITW
theorem pm_nil (w : va_W) : w.Perm (w ++ []) := by rw [List.append_nil]
theorem pm_nil' (w : va_W) : (w ++ []).Perm w := by rw [List.append_nil]
theorem D_to {A : Nat → Prop} {w w' : va_W} (h : w'.map (·.1) = w.map (·.1)) (hD : va_D A w) : va_D A w' := D_addr (by rw [h]) hD
theorem D_too {A : Nat → Prop} {w w' : va_W} (hD : va_D A w) (h : w'.map (·.1) = w.map (·.1)) : va_D A w' := D_addr (by rw [h]) hD
theorem absI_le {x k : Int} : absI x ≤ k ↔ -k ≤ x ∧ x ≤ k := by unfold absI; split <;> omega
theorem absI_rg {x : Int} (h : -100000 ≤ x ∧ x ≤ 100000) : -2147483648 ≤ absI x ∧ absI x < 2147483648 := by unfold absI; split <;> omega
theorem uI_uI (f : Nat → Int) (k : Nat) (v w : Int) : uI (uI f k v) k w = uI f k w := by funext j; simp only [uI]; split <;> rfl
theorem uI_self (f : Nat → Int) (k : Nat) : uI f k (f k) = f := by funext j; simp only [uI]; split <;> simp_all
/-- the faults kept, one move counted anew -/
abbrev cmf (tn : Nat → Int) (sz : Int) (mf : Nat → Int) (c : Nat) : Nat → Int := if 1 ≤ c ∧ (c : Int) < sz then uI mf c (mvf tn c) else mf
/-- the faults kept, as they are due -/
def mff (tn : Nat → Int) (sz : Int) : Nat → Int := fun c => if (c : Int) < sz then mvf tn c else 0
theorem mff_rg (tn : Nat → Int) (sz : Int) (c : Nat) : 0 ≤ mff tn sz c ∧ mff tn sz c ≤ 40 := by
  have h := mvf_rg tn c
  unfold mff
  split <;> omega
theorem fsC_mff (tn : Nat → Int) (sz : Int) (h : 0 ≤ sz) : ∀ c : Nat, (c : Int) < sz ∨ c = 0 → fsC (mff tn sz) c = afs tn c
  | 0, _ => rfl
  | c + 1, hc => by
    have h1 := fsC_mff tn sz h c (by omega)
    show fsC (mff tn sz) c + mff tn sz (c + 1) = afs tn c + mvf tn (c + 1)
    rw [h1, mff, if_pos (by omega)]
theorem mvf_c {t t' : Nat → Int} {c : Nat} (h : ∀ v, v < 4 → t' (4 * c + v) = t (4 * c + v)) (h1 : ∀ v, v < 4 → t' (4 * (c + 1) + v) = t (4 * (c + 1) + v)) : mvf t' (c + 1) = mvf t (c + 1) := by
  have hs : ∀ v, v < 4 → stp t' c v = stp t c v := fun v hv => by unfold stp; rw [h v hv, h1 v hv]
  have hf : ∀ a, a < 4 → ∀ d, d ≤ 3 - a → fin t' c a d = fin t c a d := by
    intro a ha d
    induction d with
    | zero => intro _; rfl
    | succ d ih =>
      intro hd
      rw [fin_s, fin_s, ih (by omega)]
      have e : prl t' c a (a + 1 + d) ↔ prl t c a (a + 1 + d) := by unfold prl; rw [hs a ha, hs (a + 1 + d) (by omega), h1 a ha, h1 (a + 1 + d) (by omega)]
      by_cases q : prl t c a (a + 1 + d)
      · rw [if_pos q, if_pos (e.mpr q)]
      · rw [if_neg q, if_neg (fun z => q (e.mp z))]
  have ho : ∀ a, a ≤ 4 → fou t' c a = fou t c a := by
    intro a
    induction a with
    | zero => intro _; rfl
    | succ a ih =>
      intro ha
      rw [fou_s, fou_s, ih (by omega), hf a (by omega) (3 - a) (Nat.le_refl _)]
      unfold lpf
      rw [hs a (by omega)]
  exact ho 4 (Nat.le_refl 4)
theorem mvf_far {t : Nat → Int} {i : Nat} {x : Int} {j : Nat} (h1 : i / 4 ≠ j) (h2 : i / 4 + 1 ≠ j) : mvf (uI t i x) j = mvf t j := by
  cases j with
  | zero => rfl
  | succ j => exact mvf_c (fun v hv => uI_n (by omega)) (fun v hv => uI_n (by omega))
/-- a tone put: the two moves counted anew give the faults due -/
theorem cmf_put (tn : Nat → Int) (sz : Int) (c v : Nat) (x : Int) (hv : v < 4) : cmf (uI tn (4 * c + v) x) sz (cmf (uI tn (4 * c + v) x) sz (mff tn sz) c) (c + 1) = mff (uI tn (4 * c + v) x) sz := by
  funext j
  have e0 : mvf (uI tn (4 * c + v) x) 0 = 0 := rfl
  have e1 : mvf tn 0 = 0 := rfl
  by_cases hj1 : j = c + 1
  · subst hj1
    by_cases hs : ((c + 1 : Nat) : Int) < sz
    · rw [cmf, if_pos ⟨by omega, hs⟩, uI_s, mff, if_pos hs]
    · rw [cmf, if_neg (fun q => hs q.2), mff, if_neg hs]
      by_cases hc : 1 ≤ c ∧ (c : Int) < sz
      · rw [cmf, if_pos hc, uI_n (by omega), mff, if_neg hs]
      · rw [cmf, if_neg hc, mff, if_neg hs]
  · have h2 : cmf (uI tn (4 * c + v) x) sz (cmf (uI tn (4 * c + v) x) sz (mff tn sz) c) (c + 1) j = cmf (uI tn (4 * c + v) x) sz (mff tn sz) c j := by
      unfold cmf
      split
      · exact uI_n hj1
      · rfl
    rw [h2]
    by_cases hjc : j = c
    · subst hjc
      by_cases hs : (j : Int) < sz
      · by_cases h1 : 1 ≤ j
        · rw [cmf, if_pos ⟨h1, hs⟩, uI_s, mff, if_pos hs]
        · have : j = 0 := by omega
          subst this
          rw [cmf, if_neg (by omega), mff, mff, if_pos hs, if_pos hs, e0, e1]
      · rw [cmf, if_neg (fun q => hs q.2), mff, mff, if_neg hs, if_neg hs]
    · have h3 : cmf (uI tn (4 * c + v) x) sz (mff tn sz) c j = mff tn sz j := by
        unfold cmf
        split
        · exact uI_n hjc
        · rfl
      rw [h3, mff, mff, mvf_far (by omega) (by omega)]
