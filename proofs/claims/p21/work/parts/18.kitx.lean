/-! methods that return or throw -/
def isCD : Cond → Bool
  | .castable .. => true
  | .declares .. => true
  | .methodLinkNest .. => true
  | _ => false
abbrev nmI : String := "java/lang/IndexOutOfBoundsException"
abbrev nmA : String := "java/lang/IllegalArgumentException"
abbrev nmS : String := "java/lang/IllegalStateException"
abbrev nmU : List String := ["java/lang/RuntimeException", "java/lang/Exception"]
/-- the exceptions' words that no list of a method holds -/
def exL : List Cond := (vx_atS RX2 39 nmA nmU).filter (fun w => !goodWord w) ++ ((vx_atS RX2 141 nmI nmU).filter (fun w => !goodWord w) ++ ((vx_atS RX2 50 nmS nmU).filter (fun w => !goodWord w) ++ [.methodLinkNest RX2 11 yX1_init RX2, .methodLinkNest RX2 22 yX0_init RX2]))
theorem nest_11 : Cond.methodLinkNest RX2 11 yX1_init RX2 ∈ exL := List.mem_append_right _ (List.mem_append_right _ (List.mem_append_right _ List.mem_cons_self))
theorem nest_22 : Cond.methodLinkNest RX2 22 yX0_init RX2 ∈ exL := List.mem_append_right _ (List.mem_append_right _ (List.mem_append_right _ (List.mem_cons_of_mem _ List.mem_cons_self)))
theorem exL_cd : exL.all isCD = true := by decide +kernel
def exT : List (Nat × String) := [(37, "the highest tone is below the lowest one"), (48, "there are 12 singers"), (80, "the draft has 16 chords"), (86, "the length is out of range"), (91, "the draft is empty"), (97, "there are 6 pieces"), (116, "the voices would cross"), (139, "the chord is the first or the last one"), (149, "the piece cannot be sung with any shift"), (163, "the number of times is out of range"), (177, "the voice is out of range"), (179, "the tone is out of range"), (181, "the date is out of range"), (183, "the time is out of range"), (188, "there is no such singer"), (191, "there is no such chord"), (193, "there is no such piece")]
def tz (z0 : Nat) (U : State) : Prop := z0 ≤ U.heap.size ∧ vx_Zq Bundle.tN "UNASSIGNED_STACK" Bundle.steD (fun q => z0 ≤ q) U U.heap ∧ vx_Zq Bundle.tN "SUPPRESSED_SENTINEL" Bundle.listD (fun q => z0 ≤ q) U U.heap ∧ (∀ w ∈ exL, va_Nw w U) ∧ ∀ q ∈ exT, ∃ a : Nat, vk_R RX2 q.1 q.2 a U
theorem nw_warm {w : Cond} {s U : State} (hW : s.WarmedH U.vm) (hc : isCD w = true) (h : va_Nw w s) : va_Nw w U := by
  cases w with
  | castable a b => exact va_Nw.warmC hW h
  | declares x => exact va_Nw.warmD hW h
  | methodLinkNest a i x b => exact va_Nw.warmM hW h
  | _ => cases hc
theorem tz_to {z0 : Nat} {s U : State} (hW : s.WarmedH U.vm) (hz : s.heap.size ≤ U.heap.size) (hq : ∀ a : Nat, a < s.heap.size → ¬ (z0 ≤ a) → U.heap[a]? = s.heap[a]?) (h : tz z0 s) : tz z0 U :=
  ⟨Nat.le_trans h.1 hz, vx_Zq.moved hW.alike (h.2.1.kept hq), vx_Zq.moved hW.alike (h.2.2.1.kept hq), fun w hw => nw_warm hW (List.all_eq_true.mp exL_cd w hw) (h.2.2.2.1 w hw), fun q hq => by
    obtain ⟨a, ha⟩ := h.2.2.2.2 q hq
    exact ⟨a, vk_R.warm hW ha⟩⟩
theorem tz_call {z0 : Nat} {U : State} {g : JFrame} {mk : MethodId} {a : Array Value} (h : tz z0 U) : tz z0 (U.calling g mk a) := tz_to (State.WarmedH.refl U) (Nat.le_refl _) (fun _ _ _ => rfl) h
/-- thrown: of this class, nothing changed that was there -/
def xC (P : Prop) (En : String) : String → State → State → Prop := vx_X (fun (_ : Unit) => P) (fun E _ _ => E = En) (fun _ => False)
abbrev en (a b c : String) (K : Int) : String := if K = 1 then a else if K = 2 then b else c
abbrev xB (G : gT) (w : va_W) (z0 : Nat) (U : State) : Prop := gP G w U.heap ∧ gK G U ∧ tz z0 U
theorem xB_blind (G : gT) (w : va_W) (z0 : Nat) (As : List Value) : FrameBlind (va_Pc As (xB G w z0)) := fun a U g mk q => ⟨q.1, q.2.1, va_K.moved (u := U) (U := U.calling g mk a) (Vm.Alike.refl U.vm) q.2.2.1, tz_call q.2.2.2⟩
/-- returned: a number, under a condition; nothing changed -/
def xI (P : Prop) (z : Int) : Array Value → State → Outcome → State → Prop := va_Qi (fun (r : Int32) (_ : Unit) => r = iI z ∧ P) (fun _ _ => True) (fun _ => False)
def xV (P : Prop) : Array Value → State → Outcome → State → Prop := va_Qv (fun (_ : Unit) => P) (fun _ _ => True) (fun _ => False)
def xR (P : Prop) (q : Nat) : Array Value → State → Outcome → State → Prop := va_Qr (fun (_ : Unit) => P) (fun _ a _ => a = q) (fun _ => False)
section KITX
variable {p : Program} {l : Launch} {e : Env} {R : Room} {s : State} {m : MethodId} {args : Array Value} {below : List Frame} {meth : Method} {c : Code} {H H0 : Heap} {locs : List Loc} {cells slots : Nat} {Q : State → Prop}
variable {cc : ByteArray} {pc : Nat} {ls : Array Slot} {rest : List Value} {nL : Nat} {Ts : List Cond} {own : String} {A A0 : Nat → Prop}
theorem x_start {own : String} {y : MethodName} {ws ws' : List Cond} {rm : Room} {mL mc ms z0 : Nat} {ret : Option FieldType} {G : gT} {w : va_W} {As : List Value} {Qc : Array Value → State → Outcome → State → Prop} {XC : String → State → State → Prop} {free : Nat → Prop} (hy : plainName y.cls = true) (ho : y.cls = own) (hw : ws = .code y cc mL ret :: ws') (hlen : (lg_sl As).length ≤ mL)
    (body : ∀ (p : Program) (e : Env) (s : State) (m : MethodId) (args : Array Value) (below : List Frame) (meth : Method) (c : Code) (ls : Array Slot), CallFix p m c cc mL s args ws own → meth.sig.returnType = ret → meth.locks = false → (∀ x ∈ c.exceptionTable.toList, False) → gP G w s.heap → gK G s → tz z0 s → lv_has ls mL (lv_args 0 As) →
      W p l e rm s m args below meth c s.heap [] 0 0 (vx_MQ below Qc XC args s mc ms free) (F0 m 0 ls [])) : vx_Met l y ws rm (va_Pc As (xB G w z0)) Qc XC mc ms free := by
  refine vx_ofW (cc := cc) (maxL := mL) (ret := ret) hy hw ?_
  intro p e s m args below meth c s₁ B hml hx hv
  obtain ⟨rfl, hP, hK, hz⟩ := hv
  have hl := lv_entry As (n := mL) hlen
  rw [lg_entry_eq]
  exact body p e s m _ below meth c _ ⟨B.exec, B.bytes, hml, ho ▸ findClass_of_methodNamed B.named, atoms_spec (ws := ws) B.pre⟩ B.returns B.notSynchronized hx hP hK hz hl
theorem gP_kq {G : gT} {w : va_W} {H H1 : Heap} (hq : ∀ q : Nat, q < H.size → H1[q]? = H[q]?) (hP : gP G w H) : gP G w H1 :=
  gP_iff.mpr (fun q h => (gP_iff.mp hP q h).kept (hq q.1 (gP_iff.mp hP q h).lt))
abbrev sF (s : State) (H : Heap) (locs : List Loc) : Prop := va_S (fun _ => False) s.heap H locs
theorem sF_eq {s : State} {H : Heap} {locs : List Loc} (h : sF s H locs) : ∀ q : Nat, q < s.heap.size → H[q]? = s.heap[q]? := fun q hq => h.2.1 q hq (fun z => z)
theorem sF_mono {s : State} {H : Heap} {locs : List Loc} {B : Nat → Prop} (h : sF s H locs) : va_S B s.heap H locs := ⟨h.1, fun q hq _ => sF_eq h q hq, fun q hq => (h.2.2 q hq).elim⟩
theorem tz_H {z0 : Nat} {U : State} {locs : List Loc} (hz : tz z0 s) (hS : sF s H locs) (hU : U.heap = H) (hW : s.WarmedH U.vm) : tz z0 U :=
  tz_to hW (by rw [hU]; exact hS.1) (fun a ha _ => by rw [hU]; exact sF_eq hS a ha) hz
theorem x_throw (F : CallFix p m c cc nL s args Ts RX2) (hfl : l.stackTraces = false) (hxt : ∀ x ∈ c.exceptionTable.toList, False) (hlocks : meth.locks = false) {cls text En : String} {ik is ic z0 mc ms : Nat} {P : Prop} {Qc : Array Value → State → Outcome → State → Prop} {free : Nat → Prop} (hz : tz z0 s) (hS : sF s H locs)
    (hcls : Bundle.fit cls = true) (h2 : ∀ w ∈ (vx_atS RX2 ic cls nmU).filter (fun w => !goodWord w), w ∈ exL) (hgood : ∀ w ∈ Cond.classLink RX2 ik cls :: Cond.initialized cls :: vx_atS RX2 ic cls nmU, vx_ot w = true)
    (hT : ∀ w ∈ (vx_atS RX2 ic cls nmU).filter goodWord, w ∈ Ts) (hk : Cond.classLink RX2 ik cls ∈ Ts) (hi : Cond.initialized cls ∈ Ts) (hstr : (is, text) ∈ exT) (hsz : ls.size = nL)
    (d0 : decode cc pc = .ok (.new ik, 3)) (d3 : decode cc (pc + 3) = .ok (.dup, 1)) (d4 : decode cc (pc + 4) = .ok (.ldc is, 2)) (d6 : decode cc (pc + 6) = .ok (.invokespecial ic, 3)) (d9 : decode cc (pc + 9) = .ok (.athrow, 1))
    (hR : 5 < R.frames ∧ (rest.map fun v => v.category).sum + 82 ≤ R.locals ∧ cells + 1 ≤ R.cells ∧ slots + 6 ≤ R.slots) (hc : cells + 1 ≤ mc ∧ slots + 6 ≤ ms) (hX : P ∧ cls = En) :
    W p l e R s m args below meth c H locs cells slots (vx_MQ below Qc (xC P En) args s mc ms free) (F0 m pc ls rest) := by
  obtain ⟨sa, hsa⟩ := hz.2.2.2.2 _ hstr
  refine vx_throwS (A := fun _ => False) (names := nmU) (sa := sa) (text := text) F.1 F.2.1 hfl F.2.2.2.1 hcls (by decide +kernel) (F.2.2.2.2 _ hk) (F.2.2.2.2 _ hi) hsa (vx_hat (B := exL) (fun w h => F.2.2.2.2 w (hT w h)) h2 (fun w h => vx_ot_at (State.WarmedH.refl s) rfl ?_ (hz.2.2.2.1 w h))) hgood (hz.2.1.narrow (fun q h => h.elim)) (hz.2.2.1.narrow (fun q h => h.elim)) hS (hsz.trans F.2.2.1.symm) d0 d3 d4 d6 d9 (fun x h => (hxt x h).elim) hR.1 hR.2.1 hR.2.2.1 hR.2.2.2 hlocks (fun t _ h1 h2 => ⟨(), hX.1, hX.2, Nat.le_trans hS.1 h1, fun q hq _ => by rw [h2 q (Nat.lt_of_lt_of_le hq hS.1)]; exact sF_eq hS q hq⟩) (fun q h => (hS.2.2 q h).elim) hc.1 hc.2
  have h9 : exL.all vx_ot = true := by decide +kernel
  exact List.all_eq_true.mp h9 w h
theorem x_cS (F : CallFix p m c cc nL s args Ts own) (hxt : ∀ x ∈ c.exceptionTable.toList, False) (hlocks : meth.locks = false) {G : gT} {w : va_W} {y : MethodName} {bytes : ByteArray} {ws ws' : List Cond} {rm : Room} {mL n index z0 mc ms : Nat} {ret : Option FieldType} {As st0 : List Value} {P P1 P2 : Prop} {En En2 : String} {Qc : Array Value → State → Outcome → State → Prop} {free : Nat → Prop}
    (hM : vx_Met l y ws rm (va_Pc As (xB G w z0)) (xV P) (xC P1 En) 1 6 (fun _ => False)) (g : GoodIn Ts (va_wsS own index y ws)) (hw : ws = .code y bytes mL ret :: ws') (hrc : rm.cells = 1) (hrs : rm.slots = 6)
    (hd : y.cls ≠ "java/lang/invoke/MethodHandle" ∧ y.cls ≠ "java/lang/invoke/VarHandle" ∧ (parseMethodDescriptor y.desc).map (fun d => d.parameters.length) = some n) (hR : rm.frames + 1 ≤ R.frames ∧ 8 + (mL + 11) + rm.locals ≤ R.locals)
    (hK : gK G s) (hP : gP G w H) (hz : tz z0 s) (hS : sF s H locs) (hn : As.length = n) (hst : st0 = As.reverse ++ rest) (hsz : ls.size = nL) (hW : (rest.map fun v => v.category).sum ≤ 8) (hdg : decode cc pc = .ok (.invokestatic index, 3)) (hf : cells + 1 ≤ R.cells ∧ slots + 6 ≤ R.slots) (hc : cells + 1 ≤ mc ∧ slots + 6 ≤ ms) (hX : P1 → P2 ∧ En = En2)
    (kk : P → ∀ (H1 : Heap) (locs1 : List Loc), (∀ q : Nat, q < H.size → H1[q]? = H[q]?) → sF s H1 locs1 → W p l e R s m args below meth c H1 locs1 (cells + 1) (slots + 6) (vx_MQ below Qc (xC P2 En2) args s mc ms free) (F0 m (pc + 3) ls rest)) : W p l e R s m args below meth c H locs cells slots (vx_MQ below Qc (xC P2 En2) args s mc ms free) (F0 m pc ls st0) := by
  refine vx_callv (vx_runS (As := As) (rest := rest) F hM (va_cwS n F.2.2.2.2 g hw hrc hrs hd hR) ⟨xB_blind G w z0 _, fun U hU hW => ⟨rfl, by rw [hU]; exact hP, va_K.moved hW.alike hK, tz_H hz hS hU hW⟩⟩ rfl hn hsz hst (lv_room hW) hdg hf) hS (fun q _ h => h) (fun q h => h) (fun q _ h => h) (fun E ce q9 u t H1 locs1 ht hvm hp1 hE hsz1 hk hS1 hce hcv hcl => ?_) (fun u t H1 locs1 ht hvm hp hB hz1 hk hS1 => kk hp H1 locs1 (fun q hq => hk q hq (fun z => z)) hS1)
  exact vx_out (fun x h => (hxt x h).elim) hlocks hce hcv hcl (fun t h9 _ => ⟨(), (hX hp1).1, by rw [hE]; exact (hX hp1).2, hS1.F h9⟩) (fun q h => (hS1.2.2 q h).elim) hc.1 hc.2
theorem x_cV (F : CallFix p m c cc nL s args Ts own) (hxt : ∀ x ∈ c.exceptionTable.toList, False) (hlocks : meth.locks = false) {G : gT} {w : va_W} {y : MethodName} {bytes : ByteArray} {ws ws' : List Cond} {rm : Room} {mL n index z0 mc ms b : Nat} {ret : Option FieldType} {As st0 : List Value} {C : String} {P P1 P2 : Prop} {En En2 : String} {Qc : Array Value → State → Outcome → State → Prop} {free : Nat → Prop}
    (hM : vx_Met l y ws rm (va_Pc (.ref b :: As) (xB G w z0)) (xV P) (xC P1 En) 1 6 (fun _ => False)) (g : GoodIn Ts (wsV own index C y ws)) (hw : ws = .code y bytes mL ret :: ws') (hrc : rm.cells = 1) (hrs : rm.slots = 6)
    (hd : y.cls = C ∧ y.cls ≠ "java/lang/invoke/MethodHandle" ∧ y.cls ≠ "java/lang/invoke/VarHandle" ∧ (parseMethodDescriptor y.desc).map (fun d => d.parameters.length) = some n) (hR : rm.frames + 1 ≤ R.frames ∧ 8 + (mL + 11) + rm.locals ≤ R.locals)
    (hK : gK G s) (hP : gP G w H) (hz : tz z0 s) (hS : sF s H locs) {ci q0 : Nat} {T : u_T} {N : Nat} {fs : List Value} (hc0 : vwCl[ci]? = some (C, T, N)) (he : w[q0]? = some (b, .inr (ci, fs))) (hn : As.length = n) (hst : st0 = As.reverse ++ .ref b :: rest) (hsz : ls.size = nL) (hW : (rest.map fun v => v.category).sum ≤ 8) (hdg : decode cc pc = .ok (.invokevirtual index, 3)) (hf : cells + 1 ≤ R.cells ∧ slots + 6 ≤ R.slots) (hc : cells + 1 ≤ mc ∧ slots + 6 ≤ ms) (hX : P1 → P2 ∧ En = En2)
    (kk : P → ∀ (H1 : Heap) (locs1 : List Loc), (∀ q : Nat, q < H.size → H1[q]? = H[q]?) → sF s H1 locs1 → W p l e R s m args below meth c H1 locs1 (cells + 1) (slots + 6) (vx_MQ below Qc (xC P2 En2) args s mc ms free) (F0 m (pc + 3) ls rest)) : W p l e R s m args below meth c H locs cells slots (vx_MQ below Qc (xC P2 En2) args s mc ms free) (F0 m pc ls st0) := by
  refine vx_callv (vx_runV (As := As) (rest := rest) F hM (cwV n F.2.2.2.2 g hw hrc hrs hd hR) ⟨xB_blind G w z0 _, va_recv hK hP hc0 he, fun U hU hW => ⟨rfl, by rw [hU]; exact hP, va_K.moved hW.alike hK, tz_H hz hS hU hW⟩⟩ rfl hn hsz hst (lv_room hW) hdg hf) hS (fun q _ h => h) (fun q h => h) (fun q _ h => h) (fun E ce q9 u t H1 locs1 ht hvm hp1 hE hsz1 hk hS1 hce hcv hcl => ?_) (fun u t H1 locs1 ht hvm hp hB hz1 hk hS1 => kk hp H1 locs1 (fun q hq => hk q hq (fun z => z)) hS1)
  exact vx_out (fun x h => (hxt x h).elim) hlocks hce hcv hcl (fun t h9 _ => ⟨(), (hX hp1).1, by rw [hE]; exact (hX hp1).2, hS1.F h9⟩) (fun q h => (hS1.2.2 q h).elim) hc.1 hc.2
theorem x_cR (F : CallFix p m c cc nL s args Ts own) (hxt : ∀ x ∈ c.exceptionTable.toList, False) (hlocks : meth.locks = false) {G : gT} {w : va_W} {y : MethodName} {bytes : ByteArray} {ws ws' : List Cond} {rm : Room} {mL n index z0 mc ms b qa : Nat} {ret : Option FieldType} {As st0 : List Value} {C : String} {P P1 P2 : Prop} {En En2 : String} {Qc : Array Value → State → Outcome → State → Prop} {free : Nat → Prop}
    (hM : vx_Met l y ws rm (va_Pc (.ref b :: As) (xB G w z0)) (xR P qa) (xC P1 En) 1 6 (fun _ => False)) (g : GoodIn Ts (wsV own index C y ws)) (hw : ws = .code y bytes mL ret :: ws') (hrc : rm.cells = 1) (hrs : rm.slots = 6)
    (hd : y.cls = C ∧ y.cls ≠ "java/lang/invoke/MethodHandle" ∧ y.cls ≠ "java/lang/invoke/VarHandle" ∧ (parseMethodDescriptor y.desc).map (fun d => d.parameters.length) = some n) (hR : rm.frames + 1 ≤ R.frames ∧ 8 + (mL + 11) + rm.locals ≤ R.locals)
    (hK : gK G s) (hP : gP G w H) (hz : tz z0 s) (hS : sF s H locs) {ci q0 : Nat} {T : u_T} {N : Nat} {fs : List Value} (hc0 : vwCl[ci]? = some (C, T, N)) (he : w[q0]? = some (b, .inr (ci, fs))) (hn : As.length = n) (hst : st0 = As.reverse ++ .ref b :: rest) (hsz : ls.size = nL) (hW : (rest.map fun v => v.category).sum ≤ 8) (hdg : decode cc pc = .ok (.invokevirtual index, 3)) (hf : cells + 1 ≤ R.cells ∧ slots + 6 ≤ R.slots) (hc : cells + 1 ≤ mc ∧ slots + 6 ≤ ms) (hX : P1 → P2 ∧ En = En2)
    (kk : P → ∀ (H1 : Heap) (locs1 : List Loc), (∀ q : Nat, q < H.size → H1[q]? = H[q]?) → sF s H1 locs1 → W p l e R s m args below meth c H1 locs1 (cells + 1) (slots + 6) (vx_MQ below Qc (xC P2 En2) args s mc ms free) (F0 m (pc + 3) ls (.ref qa :: rest))) : W p l e R s m args below meth c H locs cells slots (vx_MQ below Qc (xC P2 En2) args s mc ms free) (F0 m pc ls st0) := by
  have hr := vx_runV (As := As) (rest := rest) (e := e) (below := below) (meth := meth) (locs := locs) (cells := cells) (slots := slots) F hM (cwV n F.2.2.2.2 g hw hrc hrs hd hR) ⟨xB_blind G w z0 _, va_recv hK hP hc0 he, fun U hU hW => ⟨rfl, by rw [hU]; exact hP, va_K.moved hW.alike hK, tz_H hz hS hU hW⟩⟩ (g := F0 m pc ls st0) rfl hn hsz hst (lv_room hW) hdg hf
  intro T hT X
  rcases hr T hT X with ⟨v, st₀, t, T', L, h0, X', hL, e1, e2, ⟨⟨u, a, hv, hp, hb⟩, hF⟩, st⟩ | ⟨q, st₀, t, T', L, E, ce, h0, X', hL, e1, e2, ⟨u, hp, hb, hF⟩, hce, hcv, hcl, st⟩
  · cases hv
    have hb : a = qa := hb
    subst hb
    obtain ⟨k1, k2, k3⟩ := vx_keep h0 e1 hS (fun q _ h => h) (fun q h => h) hL hF
    obtain ⟨t2, a1, b1⟩ := kk hp T'.heap (locs ++ L) (fun q hq => k2 q hq (fun z => z)) k3 T' rfl X'
    exact ⟨t2, st t2 a1, b1⟩
  · obtain ⟨k1, k2, k3⟩ := vx_keep h0 e1 hS (fun q _ h => h) (fun q h => h) hL hF
    have h9 : vx_W p l e R s m args below meth c T'.heap (locs ++ L) (cells + 1) (slots + 6) (vx_MQ below Qc (xC P2 En2) args s mc ms free) (F0 m pc ls rest) q := vx_out (fun x h => (hxt x h).elim) hlocks (by rw [e1]; exact hce) hcv hcl (fun t h9 _ => ⟨(), (hX hp).1, by rw [hb]; exact (hX hp).2, k3.F h9⟩) (fun q h => (k3.2.2 q h).elim) hc.1 hc.2
    obtain ⟨t2, a1, b1⟩ := h9 T' rfl X'
    exact ⟨t2, st.trans a1, b1⟩
theorem x_ret (F : CallFix p m c cc nL s args Ts own) (hlocks : meth.locks = false) {P : Prop} {z z' : Int} {mc ms : Nat} {XC : String → State → State → Prop} {free : Nat → Prop} (hr : meth.sig.returnType = some .int) (hP : P) (hz : z' = z) (hS : sF s H locs) (hc : cells ≤ mc ∧ slots ≤ ms) (hdg : decode cc pc = .ok (.ireturn, 1)) : W p l e R s m args below meth c H locs cells slots (vx_MQ below (xI P z) XC args s mc ms free) (F0 m pc ls [.int (iI z')]) :=
  W.widen hc.1 hc.2 (vx_ret (W.iret F.1 F.2.1 hr (fun t ht _ => ⟨⟨_, (), rfl, ⟨by rw [hz], hP⟩, trivial⟩, hS.F ht⟩) (fun q h => (hS.2.2 q h).elim) hdg hlocks))
theorem x_zret (F : CallFix p m c cc nL s args Ts own) (hlocks : meth.locks = false) {P : Prop} {z z' : Int} {mc ms : Nat} {XC : String → State → State → Prop} {free : Nat → Prop} (hr : meth.sig.returnType = some .boolean) (hP : P) (hz : z' = z) (h01 : z' = 0 ∨ z' = 1) (hS : sF s H locs) (hc : cells ≤ mc ∧ slots ≤ ms) (hdg : decode cc pc = .ok (.ireturn, 1)) : W p l e R s m args below meth c H locs cells slots (vx_MQ below (xI P z) XC args s mc ms free) (F0 m pc ls [.int (iI z')]) :=
  W.widen hc.1 hc.2 (vx_ret (W.zret F.1 F.2.1 hr (by rcases h01 with h | h <;> rw [h] <;> decide +kernel) (fun t ht _ => ⟨⟨_, (), rfl, ⟨by rw [hz], hP⟩, trivial⟩, hS.F ht⟩) (fun q h => (hS.2.2 q h).elim) hdg hlocks))
theorem x_vret (F : CallFix p m c cc nL s args Ts own) (hlocks : meth.locks = false) {P : Prop} {mc ms : Nat} {XC : String → State → State → Prop} {free : Nat → Prop} (hr : meth.sig.returnType = none) (hP : P) (hS : sF s H locs) (hc : cells ≤ mc ∧ slots ≤ ms) (hdg : decode cc pc = .ok (.return_, 1)) : W p l e R s m args below meth c H locs cells slots (vx_MQ below (xV P) XC args s mc ms free) (F0 m pc ls []) :=
  W.widen hc.1 hc.2 (vx_ret (W.vret F.1 F.2.1 hr (fun t ht _ => ⟨⟨(), rfl, hP, trivial⟩, hS.F ht⟩) (fun q h => (hS.2.2 q h).elim) hdg hlocks))
theorem x_rret (F : CallFix p m c cc nL s args Ts own) (hlocks : meth.locks = false) {P : Prop} {q : Nat} {C : String} {mc ms : Nat} {XC : String → State → State → Prop} {free : Nat → Prop} (hr : meth.sig.returnType = some (.object C)) (hP : P) (hS : sF s H locs) (hc : cells ≤ mc ∧ slots ≤ ms) (hdg : decode cc pc = .ok (.areturn, 1)) : W p l e R s m args below meth c H locs cells slots (vx_MQ below (xR P q) XC args s mc ms free) (F0 m pc ls [.ref q]) :=
  W.widen hc.1 hc.2 (vx_ret (W.aret F.1 F.2.1 hr (Or.inl ⟨_, rfl⟩) (Or.inr ⟨_, rfl⟩) (fun t ht _ => ⟨⟨(), _, rfl, hP, rfl⟩, hS.F ht⟩) (fun q h => (hS.2.2 q h).elim) hdg hlocks))
end KITX
theorem exA2 : ∀ w ∈ (vx_atS RX2 39 nmA nmU).filter (fun w => !goodWord w), w ∈ exL := fun w h => List.mem_append_left _ h
theorem exI2 : ∀ w ∈ (vx_atS RX2 141 nmI nmU).filter (fun w => !goodWord w), w ∈ exL := fun w h => List.mem_append_right _ (List.mem_append_left _ h)
theorem exS2 : ∀ w ∈ (vx_atS RX2 50 nmS nmU).filter (fun w => !goodWord w), w ∈ exL := fun w h => List.mem_append_right _ (List.mem_append_right _ (List.mem_append_left _ h))
theorem exA1 : ∀ w ∈ Cond.classLink RX2 35 nmA :: Cond.initialized nmA :: vx_atS RX2 39 nmA nmU, vx_ot w = true := by
  have h : (Cond.classLink RX2 35 nmA :: Cond.initialized nmA :: vx_atS RX2 39 nmA nmU).all vx_ot = true := by decide +kernel
  exact List.all_eq_true.mp h
theorem exI1 : ∀ w ∈ Cond.classLink RX2 137 nmI :: Cond.initialized nmI :: vx_atS RX2 141 nmI nmU, vx_ot w = true := by
  have h : (Cond.classLink RX2 137 nmI :: Cond.initialized nmI :: vx_atS RX2 141 nmI nmU).all vx_ot = true := by decide +kernel
  exact List.all_eq_true.mp h
theorem exS1 : ∀ w ∈ Cond.classLink RX2 46 nmS :: Cond.initialized nmS :: vx_atS RX2 50 nmS nmU, vx_ot w = true := by
  have h : (Cond.classLink RX2 46 nmS :: Cond.initialized nmS :: vx_atS RX2 50 nmS nmU).all vx_ot = true := by decide +kernel
  exact List.all_eq_true.mp h
