/-! the drawn numbers -/
def drw (xs : Nat → Int32) (L k : Nat) : Int := andI (if k < L then (xs k).toInt else 15525191 * ((k : Int) + 3) + 13873) 2147483647
theorem drw_rg (xs : Nat → Int32) (L k : Nat) : 0 ≤ drw xs L k ∧ drw xs L k < 2147483648 := by
  unfold drw andI
  generalize (if k < L then (xs k).toInt else 15525191 * ((k : Int) + 3) + 13873) = z
  obtain ⟨j, hj, e⟩ := pk_andE (iI z) (m := iI 2147483647) 31 (by decide +kernel)
  have hj : j < 2147483648 := hj
  rw [e, ← iI_nat, iI_toInt (by omega)]
  omega
abbrev xB9 (b L : Nat) (xs : Nat → Int32) (U : State) : Prop := va_X b L xs U U.heap ∧ b < U.heap.size
set_option maxHeartbeats 4000000 in
theorem mL_drawn (l : Launch) (b L k : Nat) (xs : Nat → Int32) (hk : k ≤ 60) (hL : L ≤ 260) : Met l yL_drawn wsL_drawn { frames := 0, cells := 0, slots := 0, locals := 0 } (va_Pc [.ref b, .int (iI (k : Int))] (xB9 b L xs)) (oI (drw xs L k)) 0 0 (fun _ => False) := by
  refine Met.ofW (cc := cL_drawn) (maxL := 2) (ret := (some .int)) (by decide) rfl ?_
  intro p e s m args below meth c s₁ B hml hv
  obtain ⟨rfl, hX, hbl⟩ := hv
  have hl := lv_entry [.ref b, .int (iI (k : Int))] (n := 2) (Nat.le_of_ble_eq_true rfl)
  rw [lg_entry_eq]
  generalize (lg_sl [.ref b, .int (iI (k : Int))] ++ List.replicate (2 - (lg_sl [.ref b, .int (iI (k : Int))]).length) Slot.unset).toArray = ls at hl ⊢
  have hl : lv_has ls 2 [(0, .ref b), (1, .int (iI (k : Int)))] := hl
  have F : CallFix p m c cL_drawn 2 s _ wsL_drawn RL := ⟨B.exec, B.bytes, hml, findClass_of_methodNamed B.named, atoms_spec (ws := wsL_drawn) B.pre⟩
  have hr := B.returns
  have hlocks := B.notSynchronized
  have hS : va_S (fun _ => False) s.heap s.heap [] := va_S.rf
  refine lv_iload_n F.1 F.2.1 dL_drawn_0 rfl (lv_at hl 1 rfl) ?_
  refine lv_aload_n F.1 F.2.1 dL_drawn_1 rfl (lv_at hl 0 rfl) ?_
  refine va_slen F.1 F.2.1 hX hbl (fun z => z) hS dL_drawn_2 ?_
  rw [show Int32.ofNat L = iI (L : Int) from (iI_nat L).symm]
  refine k_icmp_ge F (tgt := 12) dL_drawn_3 (by decide) (by omega) (by omega) (fun h => ?_) (fun h => ?_)
  · refine k_ldc F (v := 15525191) (z := 15525191) (by decide +kernel) (by decide +kernel) dL_drawn_12 ?_
    refine lv_iload_n F.1 F.2.1 dL_drawn_14 rfl (lv_at hl 1 rfl) ?_
    refine k_iconst F dL_drawn_15 ?_
    refine k_iadd F rfl dL_drawn_16 ?_
    refine k_imul F rfl dL_drawn_17 ?_
    refine k_sipush F dL_drawn_18 (by decide +kernel) ?_
    refine k_iadd F rfl dL_drawn_21 ?_
    refine k_ldc F (v := 2147483647) (z := 2147483647) (by decide +kernel) (by decide +kernel) dL_drawn_22 ?_
    refine k_iand F dL_drawn_24 ?_
    exact k_ret F hr hlocks (by unfold drw; rw [if_neg (by omega)]) dL_drawn_25
  · refine lv_aload_n F.1 F.2.1 dL_drawn_6 rfl (lv_at hl 0 rfl) ?_
    refine lv_iload_n F.1 F.2.1 dL_drawn_7 rfl (lv_at hl 1 rfl) ?_
    refine k_sld F hX hbl (fun z => z) hS k rfl (by omega) (by omega) dL_drawn_8 ?_
    refine lv_goto (tgt := 22) F.1 F.2.1 dL_drawn_9 (by decide) ?_
    refine k_ldc F (v := 2147483647) (z := 2147483647) (by decide +kernel) (by decide +kernel) dL_drawn_22 ?_
    refine k_iand F dL_drawn_24 ?_
    exact k_ret F hr hlocks (by unfold drw; rw [if_pos (by omega)]) dL_drawn_25
section DR
variable {p : Program} {l : Launch} {e : Env} {R : Room} {s : State} {m : MethodId} {args : Array Value} {below : List Frame} {meth : Method} {c : Code} {H H0 : Heap} {locs : List Loc} {cells slots : Nat} {Q : State → Prop}
variable {cc : ByteArray} {pc : Nat} {ls : Array Slot} {rest : List Value} {nL : Nat} {Ts : List Cond} {own : String} {A : Nat → Prop}
theorem d_call (F : CallFix p m c cc nL s args Ts own) {b L k index : Nat} {xs : Nat → Int32} (hk : k ≤ 60) (hL : L ≤ 260) (g : GoodIn Ts (va_wsS own index yL_drawn wsL_drawn)) (hR : 1 ≤ R.frames ∧ 21 ≤ R.locals)
    (hX : va_X b L xs s s.heap) (hbl : b < s.heap.size) (hbA : ¬ A b) (hS : va_S A s.heap H locs) (hsz : ls.size = nL) (hW : (rest.map fun v => v.category).sum ≤ 8) (hdg : decode cc pc = .ok (.invokestatic index, 3)) (hf : cells ≤ R.cells ∧ slots ≤ R.slots)
    (kk : W p l e R s m args below meth c H locs cells slots Q (F0 m (pc + 3) ls (.int (iI (drw xs L k)) :: rest))) : W p l e R s m args below meth c H locs cells slots Q (F0 m pc ls (.int (iI (k : Int)) :: .ref b :: rest)) :=
  k_cs (mm := 0) rfl (va_runS (As := [.ref b, .int (iI (k : Int))]) (rest := rest) F (mL_drawn l b L k xs hk hL) (va_cwS 2 F.2.2.2.2 g rfl rfl rfl (by decide +kernel) hR) ⟨fun a U g mk q => ⟨q.1, va_X.moved (u := U) (U := U.calling g mk a) (Vm.Alike.refl U.vm) q.2.1, q.2.2⟩, fun U hU hW => ⟨rfl, by rw [hU]; exact (hX.moved hW.alike).kept (hS.2.1 b hbl hbA), by rw [hU]; exact Nat.lt_of_lt_of_le hbl hS.1⟩⟩ rfl rfl hsz rfl (lv_room hW) hdg hf) kk
end DR
/-! the law's world, turned to a callee's -/
theorem wpA (a b X Y : va_W) : (a ++ (b ++ (X ++ Y))).Perm ((b ++ X) ++ (a ++ Y)) := by
  have h1 : (a ++ (b ++ (X ++ Y))).Perm ((b ++ (X ++ Y)) ++ a) := List.perm_append_comm
  refine h1.trans ?_
  rw [List.append_assoc, List.append_assoc, List.append_assoc]
  exact (List.perm_append_comm.append_left X).append_left b
theorem wpB (a b X Y : va_W) : (a ++ (b ++ (X ++ Y))).Perm ((b ++ Y) ++ (a ++ X)) :=
  (((List.perm_append_comm (l₁ := X) (l₂ := Y)).append_left b).append_left a).trans (wpA a b Y X)
theorem wpC (a Z : va_W) : (a ++ Z).Perm (Z ++ a) := List.perm_append_comm
theorem wpE (a b X Y : va_W) : (a ++ (b ++ (X ++ Y))).Perm ((a ++ (b ++ X)) ++ Y) := by
  rw [List.append_assoc, List.append_assoc]
theorem wpD (a b X Y : va_W) : (a ++ (b ++ (X ++ Y))).Perm ((a ++ (b ++ Y)) ++ X) :=
  (((List.perm_append_comm (l₁ := X) (l₂ := Y)).append_left b).append_left a).trans (wpE a b Y X)
/-! the law's numbers -/
theorem NF_tw {u : Int} {σ τ : Sg} (hT : Tw u σ τ) {f : Nat → Int} (h : NF f σ) : NF f τ := ⟨h.1.trans hT.1.symm, h.2.1.trans hT.2.1.symm, by rw [h.2.2, hT.2.1, hT.2.2.2.2.2.2.1]⟩
theorem MF_tw {u : Int} {σ τ : Sg} (hT : Tw u σ τ) {f : Nat → Int} (h : MF f σ) : MF f τ := fun i hi => by rw [hT.2.1] at hi; rw [h i hi, hT.2.2.2.2.2.2.1]
theorem LF_tw {u : Int} {σ τ : Sg} (hT : Tw u σ τ) {f : Nat → Int} (h : LF f σ) : LF f τ := fun i hi => by rw [h i hi, hT.2.2.2.2.2.2.2.1]
abbrev Arr (fn fm fl : Nat → Int) (σ : Sg) : Prop := NF fn σ ∧ MF fm σ ∧ LF fl σ
theorem arr_0 {fn fm fl : Nat → Int} {σ σ' : Sg} (h : Arr fn fm fl σ) (a1 : σ' 1 0 0 = σ 1 0 0 + 1) (a2 : σ' 2 = σ 2) (a3 : σ' 8 = σ 8) (a4 : σ' 9 = σ 9) : Arr (uI fn 0 (σ 1 0 0 + 1)) fm fl σ' := by
  obtain ⟨⟨h1, h2, h3⟩, h4, h5⟩ := h
  refine ⟨⟨?_, ?_, ?_⟩, fun i hi => ?_, fun i hi => ?_⟩
  · rw [uI_s, a1]
  · rw [uI_n (by decide), h2, a2]
  · rw [uI_n (by decide), h3, a2, a3]
  · rw [a2] at hi; rw [h4 i hi, a3]
  · rw [h5 i hi, a4]
theorem arr_1 {fn fm fl : Nat → Int} {σ σ' : Sg} (h : Arr fn fm fl σ) (h0 : 0 ≤ σ 2 0 0) (a1 : σ' 1 = σ 1) (a2 : σ' 2 = σ 2) (a4 : σ' 9 = σ 9) (a3 : σ' 8 (σ 2 0 0).toNat 0 = σ 8 (σ 2 0 0).toNat 0 + 1) (a5 : ∀ i, i ≠ (σ 2 0 0).toNat → σ' 8 i 0 = σ 8 i 0) : Arr (uI fn 2 (σ 8 (σ 2 0 0).toNat 0 + 1)) fm fl σ' := by
  obtain ⟨⟨h1, h2, h3⟩, h4, h5⟩ := h
  refine ⟨⟨?_, ?_, ?_⟩, fun i hi => ?_, fun i hi => ?_⟩
  · rw [uI_n (by decide), h1, a1]
  · rw [uI_n (by decide), h2, a2]
  · rw [uI_s, a2, a3]
  · rw [a2] at hi; rw [h4 i hi, a5 i (by omega)]
  · rw [h5 i hi, a4]
theorem arr_2 {fn fm fl : Nat → Int} {σ σ' : Sg} {N : Nat} (h : Arr fn fm fl σ) (hI : Jv σ N) {x : Int} (a1 : σ' 1 = σ 1) (a2 : σ' 2 0 0 = σ 2 0 0 + 1) (a3 : σ' 8 = σ 8) (a4 : σ' 9 (σ 2 0 0).toNat 0 = x) (a5 : ∀ i, i ≠ (σ 2 0 0).toNat → σ' 9 i 0 = σ 9 i 0) :
    Arr (uI (uI fn 1 (σ 2 0 0 + 1)) 2 0) (uI fm (σ 2 0 0).toNat (σ 8 (σ 2 0 0).toNat 0)) (uI fl (σ 2 0 0).toNat x) σ' := by
  obtain ⟨⟨h1, h2, h3⟩, h4, h5⟩ := h
  have ⟨_, hb2, _⟩ := Jv_b hI
  have hch0 := hI.2.2.2.2.2.2.2.2.1
  refine ⟨⟨?_, ?_, ?_⟩, fun i hi => ?_, fun i hi => ?_⟩
  · rw [uI_n (by decide), uI_n (by decide), h1, a1]
  · rw [uI_n (by decide), uI_s, a2]
  · rw [uI_s, a2, a3]; exact (hch0 _ (by omega)).symm
  · rw [a2] at hi
    by_cases e : i = (σ 2 0 0).toNat
    · subst e; rw [uI_s, a3]
    · rw [uI_n e, h4 i (by omega), a3]
  · by_cases e : i = (σ 2 0 0).toNat
    · subst e; rw [uI_s, a4]
    · rw [uI_n e, h5 i hi, a5 i e]
theorem arr_3 {fn fm fl : Nat → Int} {σ σ' : Sg} (h : Arr fn fm fl σ) (a1 : σ' 1 = σ 1) (a2 : σ' 2 = σ 2) (a3 : σ' 8 = σ 8) (a4 : σ' 9 = σ 9) : Arr fn fm fl σ' := by
  obtain ⟨⟨h1, h2, h3⟩, h4, h5⟩ := h
  refine ⟨⟨?_, ?_, ?_⟩, fun i hi => ?_, fun i hi => ?_⟩
  · rw [h1, a1]
  · rw [h2, a2]
  · rw [h3, a2, a3]
  · rw [a2] at hi; rw [h4 i hi, a3]
  · rw [h5 i hi, a4]
