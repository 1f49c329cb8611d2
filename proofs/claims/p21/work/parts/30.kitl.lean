/-! the law's own calls of the class: an answer put away, or an exception caught -/
def lz (z0 : Nat) (U : State) : Prop := tz z0 U ∧ va_Nc nmS nmA U ∧ va_Nc nmA nmI U ∧ va_Nc nmS nmI U
theorem castA : Cond.castable nmA nmA ∈ exL := by decide +kernel
theorem castI : Cond.castable nmI nmI ∈ exL := by decide +kernel
theorem castS : Cond.castable nmS nmS ∈ exL := by decide +kernel
theorem lz_to {z0 : Nat} {s U : State} (hW : s.WarmedH U.vm) (hz : s.heap.size ≤ U.heap.size) (hq : ∀ a : Nat, a < s.heap.size → ¬ (z0 ≤ a) → U.heap[a]? = s.heap[a]?) (h : lz z0 s) : lz z0 U :=
  ⟨tz_to hW hz hq h.1, h.2.1.moved hW.alike, h.2.2.1.moved hW.alike, h.2.2.2.moved hW.alike⟩
abbrev oC (G : gT) (o : Nat) (f : Nat → Int64) : va_W := [(o, .inl (G.2.2.2, 1, .inr (.inl f)))]
abbrev lB (G : gT) (w : va_W) (z0 sz : Nat) (U : State) : Prop := wB G w sz U ∧ lz z0 U
theorem lB_blind (G : gT) (w : va_W) (z0 sz : Nat) (As : List Value) : FrameBlind (va_Pc As (lB G w z0 sz)) := fun a U g mk q => ⟨q.1, ⟨q.2.1.1, q.2.1.2.1, va_K.moved (u := U) (U := U.calling g mk a) (Vm.Alike.refl U.vm) q.2.1.2.2.1, q.2.1.2.2.2⟩, lz_to (State.WarmedH.refl U) (Nat.le_refl _) (fun _ _ _ => rfl) q.2.2⟩
section KL
variable {p : Program} {l : Launch} {e : Env} {R : Room} {s : State} {m : MethodId} {args : Array Value} {below : List Frame} {meth : Method} {c : Code} {H H0 : Heap} {locs : List Loc} {cells slots : Nat} {Q : State → Prop}
variable {cc : ByteArray} {pc : Nat} {ls : Array Slot} {rest : List Value} {nL : Nat} {Ts : List Cond} {own : String} {A : Nat → Prop}
theorem l_start {own : String} {y : MethodName} {ws ws' : List Cond} {rm : Room} {mL mc ms z0 sz : Nat} {ret : Option FieldType} {hh : List (Nat × Nat × Nat × Nat)} {G : gT} {w : va_W} {As : List Value} {Qc : (Nat → Prop) → Array Value → State → Outcome → State → Prop} (hy : plainName y.cls = true) (ho : y.cls = own) (hw : ws = .codeWith y cc mL ret hh :: ws') (hlen : (lg_sl As).length ≤ mL)
    (body : ∀ (p : Program) (e : Env) (s : State) (m : MethodId) (args : Array Value) (below : List Frame) (meth : Method) (c : Code) (ls : Array Slot) (A : Nat → Prop), CallFix p m c cc mL s args ws own → meth.sig.returnType = ret → meth.locks = false → c.exceptionTable.toList = tableOf hh → lz z0 s → gK G s → gP G w s.heap → va_D A w → (∀ q, s.heap.size ≤ q → A q) → lv_has ls mL (lv_args 0 As) →
      W p l e rm s m args below meth c s.heap [] 0 0 (MQ below (Qc A) args s mc ms A) (F0 m 0 ls [])) : Met l y ws rm (va_Pc As (lB G w z0 sz)) (Qc (va_A w sz)) mc ms (va_A w sz) := by
  refine va_MetW (cc := cc) (maxL := mL) (ret := ret) hy hw ?_
  intro p e s m args below meth c s₁ B hml hv
  obtain ⟨rfl, ⟨hsz, hP, hK, hD⟩, hE⟩ := hv
  have hl := lv_entry As (n := mL) hlen
  rw [lg_entry_eq]
  subst hsz
  have hat := atoms_spec (ws := ws) B.pre
  exact body p e s m _ below meth c _ _ ⟨B.exec, B.bytes, hml, ho ▸ findClass_of_methodNamed B.named, hat⟩ B.returns B.notSynchronized (vx_table (x := y) B (hat _ (by rw [hw]; exact List.mem_cons_self))) hE hK hP hD.self (fun q h => Or.inr h) hl
/-- a call of a method of the class that writes or throws: what else is there stays -/
theorem l_callW (F : CallFix p m c cc nL s args Ts own) {G : gT} {w wr : va_W} {S : Type} {W2 : S → va_W} {y : MethodName} {bytes : ByteArray} {ws ws' : List Cond} {rm : Room} {mL n index z0 mc ms b : Nat} {ret : Option FieldType} {As st0 : List Value} {C En : String} {P P1 : Prop} {z : Int}
    (hM : vx_Met l y ws rm (va_Pc (.ref b :: As) (xW G w z0 H.size)) (va_Qi (fun (r : Int32) (_ : S) => r = iI z ∧ P) (fun u t => gP G (W2 u) t.heap ∧ va_D (va_A w H.size) (W2 u)) (va_A w H.size)) (xC P1 En) mc ms (va_A w H.size)) (g : GoodIn Ts (wsV own index C y ws)) (hw : ws = .code y bytes mL ret :: ws') (hrc : rm.cells = mc) (hrs : rm.slots = ms)
    (hd : y.cls = C ∧ y.cls ≠ "java/lang/invoke/MethodHandle" ∧ y.cls ≠ "java/lang/invoke/VarHandle" ∧ (parseMethodDescriptor y.desc).map (fun d => d.parameters.length) = some n) (hR : rm.frames + 1 ≤ R.frames ∧ 8 + (mL + 11) + rm.locals ≤ R.locals)
    (hK : gK G s) (hP : gP G (wr ++ w) H) (hD : va_D A (wr ++ w)) (hz : tz z0 s) (hS : sF s H locs) (hA : ∀ q, s.heap.size ≤ q → A q) {ci q0 : Nat} {T : u_T} {N : Nat} {fs : List Value} (hc0 : vwCl[ci]? = some (C, T, N)) (he : w[q0]? = some (b, .inr (ci, fs))) (hn : As.length = n) (hst : st0 = As.reverse ++ .ref b :: rest) (hsz : ls.size = nL) (hW : (rest.map fun v => v.category).sum ≤ 8) (hdg : decode cc pc = .ok (.invokevirtual index, 3)) (hf : cells + mc ≤ R.cells ∧ slots + ms ≤ R.slots)
    (kx : P1 → ∀ (ce : Cell) (q9 : Nat) (H1 : Heap) (locs1 : List Loc), gP G (wr ++ w) H1 → va_S A s.heap H1 locs1 → H1[q9]? = some ce → ce.vm = .none → s.vm.findClass En = some ce.cls → vx_W p l e R s m args below meth c H1 locs1 (cells + mc) (slots + ms) Q (F0 m pc ls rest) q9)
    (kk : P → ∀ (u : S) (H1 : Heap) (locs1 : List Loc), gP G (wr ++ W2 u) H1 → va_D A (wr ++ W2 u) → va_S A s.heap H1 locs1 → W p l e R s m args below meth c H1 locs1 (cells + mc) (slots + ms) Q (F0 m (pc + 3) ls (.int (iI z) :: rest))) : W p l e R s m args below meth c H locs cells slots Q (F0 m pc ls st0) := by
  have hPw := (gP_app.mp hP).2
  have hPr := (gP_app.mp hP).1
  have hDi := D_iff.mp hD
  have hnd := hDi.1
  rw [List.map_append] at hnd
  have hdis := (List.nodup_append.mp hnd).2.2
  have hDw : va_D (fun _ => True) w := D_iff.mpr ⟨(List.nodup_append.mp hnd).2.1, fun _ _ => trivial⟩
  have hFc : ∀ x, va_A w H.size x → A x := by
    intro x h
    rcases A_mem.mp h with h | h
    · obtain ⟨y', hy', rfl⟩ := List.mem_map.mp h
      exact hDi.2 y' (List.mem_append_right _ hy')
    · exact hA x (Nat.le_trans hS.1 h)
  have hno : ∀ x ∈ wr, x.1 < H.size ∧ ¬ va_A w H.size x.1 := by
    intro x hx
    have hlt := (gP_iff.mp hPr x hx).lt
    refine ⟨hlt, fun h => ?_⟩
    rcases A_mem.mp h with h | h
    · exact hdis x.1 (List.mem_map.mpr ⟨x, hx, rfl⟩) x.1 h rfl
    · omega
  refine vx_calli (vx_runV (As := As) (rest := rest) F hM (cwV n F.2.2.2.2 g hw hrc hrs hd hR) ⟨xW_blind G w z0 _ _, va_recv hK hPw hc0 he, fun U hU hW => ⟨rfl, by rw [hU], ⟨by rw [hU]; exact hPw, va_K.moved hW.alike hK, tz_H hz hS hU hW⟩, hDw⟩⟩ rfl hn hsz hst (lv_room hW) hdg hf) (sF_mono hS) (fun q _ h => hFc q h) hFc (fun q _ h => h.elim) (fun E ce q9 u t H1 locs1 ht hvm hp1 hE hsz1 hk hS1 hce hcv hcl => ?_) (fun r u t H1 locs1 ht hvm hw hB hz1 hk hS1 => ?_)
  · have hE : E = En := hE
    subst hE
    exact kx hp1 ce q9 H1 locs1 (gP_kq (fun q hq => hk q hq (fun z => z)) hP) hS1 hce hcv hcl
  · obtain ⟨hr, hp⟩ := hw
    subst hr
    obtain ⟨hB1, hB2⟩ := hB
    rw [ht] at hB1
    refine kk hp u H1 locs1 (gP_app.mpr ⟨gP_iff.mpr (fun x hx => (gP_iff.mp hPr x hx).kept (hk x.1 (hno x hx).1 (hno x hx).2)), hB1⟩) (D_iff.mpr ⟨?_, ?_⟩) hS1
    · rw [List.map_append]
      refine List.nodup_append.mpr ⟨(List.nodup_append.mp hnd).1, (D_iff.mp hB2).1, ?_⟩
      intro x hx y hy e
      obtain ⟨x', hx', rfl⟩ := List.mem_map.mp hx
      obtain ⟨y', hy', rfl⟩ := List.mem_map.mp hy
      have h9 := (D_iff.mp hB2).2 y' hy'
      rw [← e] at h9
      exact (hno x' hx').2 h9
    · intro x hx
      rcases List.mem_append.mp hx with h | h
      · exact hDi.2 x (List.mem_append_left _ h)
      · exact hFc x.1 ((D_iff.mp hB2).2 x h)
end KL
/-- a contract of one that reads, as one that writes -/
theorem asW {l : Launch} {y : MethodName} {ws : List Cond} {rm : Room} {G : gT} {w : va_W} {z0 sz mc ms : Nat} {As : List Value} {P : Prop} {z : Int} {XC : String → State → State → Prop} (h : vx_Met l y ws rm (va_Pc As (xB G w z0)) (xI P z) XC mc ms (fun _ => False)) : vx_Met l y ws rm (va_Pc As (xW G w z0 sz)) (va_Qi (fun (r : Int32) (_ : Unit) => r = iI z ∧ P) (fun _ t => gP G w t.heap ∧ va_D (va_A w sz) w) (va_A w sz)) XC mc ms (va_A w sz) := by
  intro p e ha hc hk s m args below hf hap hP hT
  obtain ⟨rfl, hsz, hB, hD⟩ := hP
  obtain ⟨k, o, h1, h2, h3, h4⟩ := h p e ha hc hk s m _ below hf hap ⟨rfl, hB⟩ hT
  refine ⟨k, o, h1, h2, h3, ?_⟩
  rcases h4 with ⟨⟨⟨r, u, a1, a2, a3⟩, hF⟩, L, b1, b2⟩ | ⟨q, b1, b2⟩
  · left
    refine ⟨⟨⟨r, u, a1, a2, gP_kq (fun q hq => hF.2 q hq (fun z => z)) hB.1, by subst hsz; exact hD.self⟩, hF.1, fun q hq _ => hF.2 q hq (fun z => z)⟩, L, b1, fun q hq => (b2 q hq).elim⟩
  · right
    obtain ⟨E, ce, L, c1, c2, c3, c4, c5, c6, c7⟩ := b2
    exact ⟨q, b1, E, ce, L, c1, c2, c3, c4, c5, c6, fun z hz => (c7 z hz).elim⟩
theorem asY {l : Launch} {y : MethodName} {ws : List Cond} {rm : Room} {G : gT} {w w' : va_W} {z0 sz mc ms : Nat} {As : List Value} {P : Prop} {z : Int} {XC : String → State → State → Prop} (hadr : w'.map (·.1) = w.map (·.1)) (h : vx_Met l y ws rm (va_Pc As (xW G w z0 sz)) (yI P z G w' (va_A w sz)) XC mc ms (va_A w sz)) : vx_Met l y ws rm (va_Pc As (xW G w z0 sz)) (va_Qi (fun (r : Int32) (_ : Unit) => r = iI z ∧ P) (fun _ t => gP G w' t.heap ∧ va_D (va_A w sz) w') (va_A w sz)) XC mc ms (va_A w sz) := by
  intro p e ha hc hk s m args below hf hap hP hT
  obtain ⟨rfl, hsz, hB, hD⟩ := hP
  obtain ⟨k, o, h1, h2, h3, h4⟩ := h p e ha hc hk s m _ below hf hap ⟨rfl, hsz, hB, hD⟩ hT
  refine ⟨k, o, h1, h2, h3, ?_⟩
  rcases h4 with ⟨⟨⟨r, u, a1, a2, a3⟩, hF⟩, L, b1, b2⟩ | hx
  · left
    exact ⟨⟨⟨r, u, a1, a2, a3, by subst hsz; exact D_too hD.self hadr⟩, hF⟩, L, b1, b2⟩
  · exact Or.inr hx
