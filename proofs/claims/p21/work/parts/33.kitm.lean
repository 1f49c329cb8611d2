/-! rows of the law's loop -/
section KM
variable {p : Program} {l : Launch} {e : Env} {R : Room} {s : State} {m : MethodId} {args : Array Value} {below : List Frame} {meth : Method} {c : Code} {H H0 : Heap} {locs : List Loc} {cells slots : Nat} {Q : State → Prop}
variable {cc : ByteArray} {pc : Nat} {ls : Array Slot} {rest : List Value} {nL : Nat} {Ts : List Cond} {own : String} {A : Nat → Prop}
theorem k_sld (F : CallFix p m c cc nL s args Ts own) {b L : Nat} {xs : Nat → Int32} (hX : va_X b L xs s s.heap) (hbl : b < s.heap.size) (hbA : ¬ A b) (hS : va_S A s.heap H locs) {z : Int} (i : Nat) (hz : z = (i : Int)) (hi : i < L) (hL : L ≤ 2560) (hdg : decode cc pc = .ok (.iaload, 1))
    (kk : W p l e R s m args below meth c H locs cells slots Q (F0 m (pc + 1) ls (.int (iI (xs i).toInt) :: rest))) : W p l e R s m args below meth c H locs cells slots Q (F0 m pc ls (.int (iI z) :: .ref b :: rest)) := by
  refine va_sld F.1 F.2.1 hX hbl hbA hS (iI_in hz hi (by omega)) hdg ?_
  rw [iI_cl hz (by omega)]
  rw [iI_of] at kk
  exact kk
theorem l_callS (F : CallFix p m c cc nL s args Ts own) {G : gT} {w wr : va_W} {S : Type} {post : Int32 → S → Prop} {W2 : S → va_W} {y : MethodName} {bytes : ByteArray} {ws ws' : List Cond} {rm : Room} {mL n index z0 mc ms : Nat} {ret : Option FieldType} {hh : List (Nat × Nat × Nat × Nat)} {As st0 : List Value}
    (hM : Met l y ws rm (va_Pc As (lB G w z0 H.size)) (va_Qi post (fun u t => gP G (W2 u) t.heap ∧ va_D (va_A w H.size) (W2 u)) (va_A w H.size)) mc ms (va_A w H.size)) (g : GoodIn Ts (va_wsS own index y ws)) (hw : ws = .codeWith y bytes mL ret hh :: ws') (hrc : rm.cells = mc) (hrs : rm.slots = ms)
    (hd : y.cls ≠ "java/lang/invoke/MethodHandle" ∧ y.cls ≠ "java/lang/invoke/VarHandle" ∧ (parseMethodDescriptor y.desc).map (fun d => d.parameters.length) = some n) (hR : rm.frames + 1 ≤ R.frames ∧ 8 + (mL + 11) + rm.locals ≤ R.locals)
    (hK : gK G s) (hP : gP G (w ++ wr) H) (hD : va_D A (w ++ wr)) (hz : lz z0 s) (hAz : ∀ q, A q → z0 ≤ q) (hS : va_S A s.heap H locs) (hA : ∀ q, s.heap.size ≤ q → A q) (hn : As.length = n) (hst : st0 = As.reverse ++ rest) (hsz : ls.size = nL) (hW : (rest.map fun v => v.category).sum ≤ 8) (hdg : decode cc pc = .ok (.invokestatic index, 3)) (hf : cells + mc ≤ R.cells ∧ slots + ms ≤ R.slots)
    (kk : ∀ (r : Int32) (u : S) (H1 : Heap) (locs1 : List Loc), post r u → gP G (W2 u ++ wr) H1 → va_D A (W2 u ++ wr) → va_S A s.heap H1 locs1 → W p l e R s m args below meth c H1 locs1 (cells + mc) (slots + ms) Q (F0 m (pc + 3) ls (.int r :: rest))) : W p l e R s m args below meth c H locs cells slots Q (F0 m pc ls st0) := by
  have hPw := (gP_app.mp hP).1
  have hPr := (gP_app.mp hP).2
  have hDi := D_iff.mp hD
  have hnd := hDi.1
  rw [List.map_append] at hnd
  have hdis := (List.nodup_append.mp hnd).2.2
  have hDw : va_D (fun _ => True) w := D_iff.mpr ⟨(List.nodup_append.mp hnd).1, fun _ _ => trivial⟩
  have hFc : ∀ x, va_A w H.size x → A x := by
    intro x h
    rcases A_mem.mp h with h | h
    · obtain ⟨y', hy', rfl⟩ := List.mem_map.mp h
      exact hDi.2 y' (List.mem_append_left _ hy')
    · exact hA x (Nat.le_trans hS.1 h)
  have hno : ∀ x ∈ wr, x.1 < H.size ∧ ¬ va_A w H.size x.1 := by
    intro x hx
    have hlt := (gP_iff.mp hPr x hx).lt
    refine ⟨hlt, fun h => ?_⟩
    rcases A_mem.mp h with h | h
    · exact hdis x.1 h x.1 (List.mem_map.mpr ⟨x, hx, rfl⟩) rfl
    · omega
  refine va_calli (vx_runSW (As := As) (rest := rest) F hM (vx_cwSW n F.2.2.2.2 g hw hrc hrs hd hR) ⟨lB_blind G w z0 _ _, fun U hU hW => ⟨rfl, ⟨by rw [hU], by rw [hU]; exact hPw, va_K.moved hW.alike hK, hDw⟩, lz_to hW (by rw [hU]; exact hS.1) (fun a ha h9 => by rw [hU]; exact hS.2.1 a ha (fun q => h9 (hAz a q))) hz⟩⟩ rfl hn hsz hst (lv_room hW) hdg hf) hS (fun q _ h => hFc q h) hFc (fun r u t H1 locs1 ht hvm hw hB hz1 hk hS1 => ?_)
  obtain ⟨hB1, hB2⟩ := hB
  rw [ht] at hB1
  refine kk r u H1 locs1 hw (gP_app.mpr ⟨hB1, gP_iff.mpr (fun x hx => (gP_iff.mp hPr x hx).kept (hk x.1 (hno x hx).1 (hno x hx).2))⟩) (D_iff.mpr ⟨?_, ?_⟩) hS1
  · rw [List.map_append]
    refine List.nodup_append.mpr ⟨(D_iff.mp hB2).1, (List.nodup_append.mp hnd).2.1, ?_⟩
    intro x hx y hy e
    obtain ⟨x', hx', rfl⟩ := List.mem_map.mp hx
    obtain ⟨y', hy', rfl⟩ := List.mem_map.mp hy
    have h9 := (D_iff.mp hB2).2 x' hx'
    rw [e] at h9
    exact (hno y' hy').2 h9
  · intro x hx
    rcases List.mem_append.mp hx with h | h
    · exact hFc x.1 ((D_iff.mp hB2).2 x h)
    · exact hDi.2 x (List.mem_append_right _ h)
end KM
