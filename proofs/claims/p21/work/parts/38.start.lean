/-! the law's start -/
section KZ
variable {p : Program} {l : Launch} {e : Env} {R : Room} {s : State} {m : MethodId} {args : Array Value} {below : List Frame} {meth : Method} {c : Code} {H H0 : Heap} {locs : List Loc} {cells slots : Nat} {Q : State → Prop}
variable {cc : ByteArray} {pc : Nat} {ls : Array Slot} {rest : List Value} {nL : Nat} {Ts : List Cond} {own : String} {A A0 : Nat → Prop}
/-- a maker called on a fresh object -/
theorem rn_IE (F : CallFix p m c cc nL s args Ts own) {G : gT} {w : va_W} {S : Type} {pq : S → Prop} {E9 : State → Prop} {W2 : S → va_W} {y : MethodName} {bytes : ByteArray} {ws ws' : List Cond} {rm : Room} {mL index mc ms q ci : Nat} {fs st0 : List Value}
    (hM : Met l y ws rm (va_Pc [.ref q] (fun U => wB G [(q, .inr (ci, fs))] H.size U ∧ E9 U)) (va_Qv pq (fun a t => gP G (W2 a) t.heap ∧ va_D (va_A [(q, .inr (ci, fs))] H.size) (W2 a)) (va_A [(q, .inr (ci, fs))] H.size)) mc ms (va_A [(q, .inr (ci, fs))] H.size))
    (g : GoodIn Ts ws) (hw : ws = .code y bytes mL none :: ws') (hrc : rm.cells = mc) (hrs : rm.slots = ms) (i1 : Cond.initialized y.cls ∈ Ts) (i2 : Cond.methodLink own index y ∈ Ts) (i3 : Cond.instanceMethod y ∈ Ts) (hn : y.name = "<init>") (hd : y.cls ≠ "java/lang/invoke/MethodHandle" ∧ y.cls ≠ "java/lang/invoke/VarHandle" ∧ (parseMethodDescriptor y.desc).map (fun d => d.parameters.length) = some 0) (hR : rm.frames + 1 ≤ R.frames ∧ 8 + (mL + 11) + rm.locals ≤ R.locals)
    (hK : gK G s) (hP : gP G (w ++ [(q, .inr (ci, fs))]) H) (hD : va_D A0 (w ++ [(q, .inr (ci, fs))])) (hS : va_S A0 H0 H locs) (hA : ∀ q, H0.size ≤ q → A0 q) (hE : ∀ U : State, U.heap = H → s.WarmedH U.vm → E9 U) (hEb : ∀ (U : State) (g : JFrame) (mk : MethodId) (a : Array Value), E9 U → E9 (U.calling g mk a)) (hst : st0 = .ref q :: rest) (hsz : ls.size = nL) (hW : (rest.map fun v => v.category).sum ≤ 8) (hdg : decode cc pc = .ok (.invokespecial index, 3)) (hf : cells + mc ≤ R.cells ∧ slots + ms ≤ R.slots)
    (kk : ∀ (a : S) (H1 : Heap) (locs1 : List Loc), pq a → gP G (w ++ W2 a) H1 → va_D A0 (w ++ W2 a) → va_S A0 H0 H1 locs1 → W p l e R s m args below meth c H1 locs1 (cells + mc) (slots + ms) Q (F0 m (pc + 3) ls rest)) : W p l e R s m args below meth c H locs cells slots Q (F0 m pc ls st0) := by
  have hPc := (gP_app.mp hP).2
  have hPw := (gP_app.mp hP).1
  have hDi := D_iff.mp hD
  have hnd := hDi.1
  rw [List.map_append] at hnd
  have hdis := (List.nodup_append.mp hnd).2.2
  have hq : A0 q := hDi.2 (q, .inr (ci, fs)) (List.mem_append_right _ List.mem_cons_self)
  have hFc : ∀ x, va_A [(q, .inr (ci, fs))] H.size x → A0 x := by
    intro x h
    rcases A_mem.mp h with h | h
    · have h : x ∈ [q] := h
      rw [List.mem_singleton] at h
      subst h; exact hq
    · exact hA x (Nat.le_trans hS.1 h)
  have hDq : va_D (fun _ => True) [(q, (.inr (ci, fs) : va_E))] := D_iff.mpr ⟨by simp, fun _ _ => trivial⟩
  refine va_callv (va_runI (As := []) (rest := rest) F hM (cwI 0 F.2.2.2.2 g hw hrc hrs (F.2.2.2.2 _ i1) (F.2.2.2.2 _ i2) (F.2.2.2.2 _ i3) hn hd hR) ⟨fun a U g mk q9 => ⟨q9.1, ⟨q9.2.1.1, q9.2.1.2.1, va_K.moved (u := U) (U := U.calling g mk a) (Vm.Alike.refl U.vm) q9.2.1.2.2.1, q9.2.1.2.2.2⟩, hEb U g mk a q9.2.2⟩, fun U hU hW => ⟨rfl, ⟨by rw [hU], by rw [hU]; exact hPc, va_K.moved hW.alike hK, hDq⟩, hE U hU hW⟩⟩ rfl rfl hsz hst (lv_room hW) hdg hf) hS (fun q _ h => hFc q h) hFc (fun a t H1 locs1 ht hvm hw hB hz hk hS1 => ?_)
  obtain ⟨hB1, hB2⟩ := hB
  rw [ht] at hB1
  have hin : ∀ x ∈ w, x.1 < H.size ∧ x.1 ≠ q := fun x hx => ⟨(gP_iff.mp hPw x hx).lt, fun z => hdis x.1 (List.mem_map.mpr ⟨x, hx, rfl⟩) q List.mem_cons_self z⟩
  have hno : ∀ x ∈ w, ¬ va_A [(q, (.inr (ci, fs) : va_E))] H.size x.1 := by
    intro x hx h
    rcases A_mem.mp h with h | h
    · have h : x.1 ∈ [q] := h
      rw [List.mem_singleton] at h
      exact (hin x hx).2 h
    · have := (hin x hx).1; omega
  refine kk a H1 locs1 hw (gP_app.mpr ⟨gP_iff.mpr (fun x hx => (gP_iff.mp hPw x hx).kept (hk x.1 (hin x hx).1 (hno x hx))), hB1⟩) (D_iff.mpr ⟨?_, ?_⟩) hS1
  · rw [List.map_append]
    refine List.nodup_append.mpr ⟨(List.nodup_append.mp hnd).1, (D_iff.mp hB2).1, ?_⟩
    intro x hx y hy e
    obtain ⟨x', hx', rfl⟩ := List.mem_map.mp hx
    obtain ⟨y', hy', rfl⟩ := List.mem_map.mp hy
    have h9 := (D_iff.mp hB2).2 y' hy'
    rw [← e] at h9
    exact hno x' hx' h9
  · intro x hx
    rcases List.mem_append.mp hx with h | h
    · exact hDi.2 x (List.mem_append_left _ h)
    · exact hFc x.1 ((D_iff.mp hB2).2 x h)
end KZ
theorem exL_tbl : exL.all (fun w => decide (w ∈ lw_tbl)) = true := by decide +kernel
theorem exL_on : exL.all (fun w => w.onTables) = true := by decide +kernel
theorem exT_tbl : exT.all (fun q => decide (Cond.stringRef RX2 q.1 q.2 ∈ lw_tbl)) = true := by decide +kernel

theorem wp3 (Z : va_W) (n m l : Nat × va_E) : (((Z ++ [n]) ++ [m]) ++ [l]).Perm ([l] ++ ([n, m] ++ Z)) := by
  have h1 : (((Z ++ [n]) ++ [m]) ++ [l]) = Z ++ [n, m, l] := by simp
  rw [h1]
  exact List.perm_append_comm.trans ((List.perm_append_comm (l₁ := [n, m]) (l₂ := [l])).append_right Z)
