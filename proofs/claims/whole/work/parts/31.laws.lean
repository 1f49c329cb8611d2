theorem i64_0 : (iI 0).toInt64 = 0 := by decide +kernel
theorem i64_1 : (iI 1).toInt64 = 1 := by decide +kernel

set_option maxHeartbeats 4000000 in
set_option maxRecDepth 100000 in
theorem mL_addSinger (l : Launch) (hfl : l.stackTraces = false) (G : gT) (z0 sz0 o : Nat) (f : Nat → Int64) (B : Nat → Nat) (P : Nat → Nat → Nat) (σ : Sg) (v lo hi : Int) (hv : -2147483648 ≤ v ∧ v < 2147483648) (hlo : -2147483648 ≤ lo ∧ lo < 2147483648) (hhi : -2147483648 ≤ hi ∧ hi < 2147483648) {n k N : Nat} (hI : Iv σ n k N) : Met l yL_addSinger wsL_addSinger { frames := 8, cells := 6, slots := 36, locals := 154 } (va_Pc [.ref (B 5), .int (iI v), .int (iI lo), .int (iI hi), .ref o] (lB G (oC G o f ++ CW G B P σ k) z0 sz0)) (va_Qi (fun (r : Int32) (u : Nat → Int64) => r = iI (kAdd σ v lo hi) ∧ (kAdd σ v lo hi = 0 → u 0 = (iI (σ 1 0 0)).toInt64)) (fun u t9 => gP G (oC G o u ++ CW G B P (if kAdd σ v lo hi = 0 then sAdd σ v lo hi else σ) k) t9.heap ∧ va_D (va_A (oC G o f ++ CW G B P σ k) sz0) (oC G o u ++ CW G B P (if kAdd σ v lo hi = 0 then sAdd σ v lo hi else σ) k)) (va_A (oC G o f ++ CW G B P σ k) sz0)) 6 36 (va_A (oC G o f ++ CW G B P σ k) sz0) := by
  refine l_start (own := RL) (cc := cL_addSinger) (mL := 6) (ret := (some .int)) (hh := [(0, 12, 15, 13), (0, 12, 19, 15)]) (Qc := fun AA => va_Qi (fun (r : Int32) (u : Nat → Int64) => r = iI (kAdd σ v lo hi) ∧ (kAdd σ v lo hi = 0 → u 0 = (iI (σ 1 0 0)).toInt64)) (fun u t9 => gP G (oC G o u ++ CW G B P (if kAdd σ v lo hi = 0 then sAdd σ v lo hi else σ) k) t9.heap ∧ va_D AA (oC G o u ++ CW G B P (if kAdd σ v lo hi = 0 then sAdd σ v lo hi else σ) k)) AA) (by decide) rfl rfl (Nat.le_of_ble_eq_true rfl) ?_
  intro pP eE sS mM args bB meth cC ls AA F hr hlocks htab hz hK hP hD hA hl
  have hS : sF sS sS.heap [] := va_S.rf
  have hl : lv_has ls 6 [(0, .ref (B 5)), (1, .int (iI v)), (2, .int (iI lo)), (3, .int (iI hi)), (4, .ref o)] := hl
  refine lv_aload F.1 F.2.1 dL_addSinger_0 (lv_at hl 4 rfl) ?_
  refine k_iconst F dL_addSinger_2 ?_
  refine lv_aload_n F.1 F.2.1 dL_addSinger_3 rfl (lv_at hl 0 rfl) ?_
  refine lv_iload_n F.1 F.2.1 dL_addSinger_4 rfl (lv_at hl 1 rfl) ?_
  refine lv_iload_n F.1 F.2.1 dL_addSinger_5 rfl (lv_at hl 2 rfl) ?_
  refine lv_iload_n F.1 F.2.1 dL_addSinger_6 rfl (lv_at hl 3 rfl) ?_
  refine l_callW F (n := 3) (w := CW G B P σ k) (wr := oC G o f) (W2 := (fun _ : Unit => CW G B P (sAdd σ v lo hi) k)) (asY (CW_adr _ _ _) (mX2_addSinger l hfl G z0 _ B P σ v lo hi hv hlo hhi hI)) gL_addSinger_X2_addSinger rfl rfl rfl (by decide +kernel) ⟨Nat.le_of_ble_eq_true rfl, Nat.le_of_ble_eq_true rfl⟩ hK hP hD hz.1 hS hA (ci := 2) (q0 := 5) rfl rfl rfl rfl hl.1 (Nat.le_of_ble_eq_true rfl) dL_addSinger_7 ⟨Nat.le_of_ble_eq_true rfl, Nat.le_of_ble_eq_true rfl⟩ (fun hk ce q9 H locs hP hS hce hcv hcl => ?_) (fun hk _ H locs hP hD hS => ?_)
  · skip
    have hk3 : kAdd σ v lo hi = 1 ∨ kAdd σ v lo hi = 2 := by
      unfold kAdd at hk ⊢
      (repeat' split) <;> simp_all
    rcases hk3 with hk3 | hk3
    · skip
      rw [hk3] at hcl
      have hcl : sS.vm.findClass nmA = some ce.cls := hcl
      refine vx_catch (own := RL) (name := nmA) F.2.2.2.1 [] ⟨0, 12, 15, 13⟩ [⟨0, 12, 19, 15⟩] (htab.trans rfl) (fun _ h9 => nomatch h9) (by decide) (by decide) (k_cond F (w := .classLink RL 13 nmA) (by decide +kernel)) (va_Nw.use rfl (hz.1.2.2.2.1 _ castA)) hce hcv hcl ?_
      refine lv_astore (lv' := (5, .ref q9) :: [(0, .ref (B 5)), (1, .int (iI v)), (2, .int (iI lo)), (3, .int (iI hi)), (4, .ref o)]) F.1 F.2.1 dL_addSinger_15 hl (by decide) rfl (fun ls hl => ?_)
      refine k_iconst F dL_addSinger_17 ?_
      exact W.iret F.1 F.2.1 hr (fun t9 ht _ => ⟨⟨_, f, rfl, ⟨by rw [hk3], fun h9 => absurd (hk3.symm.trans h9) (by decide)⟩, by rw [ht, hk3]; exact hP, by rw [hk3]; exact hD⟩, hS.F ht⟩) hS.2.2 dL_addSinger_18 hlocks
    · skip
      rw [hk3] at hcl
      have hcl : sS.vm.findClass nmS = some ce.cls := hcl
      refine vx_catch (own := RL) (name := nmS) F.2.2.2.1 [⟨0, 12, 15, 13⟩] ⟨0, 12, 19, 15⟩ [] (htab.trans rfl) (List.forall_mem_cons.mpr ⟨Or.inr ⟨by decide, nmA, k_cond F (w := .classLink RL 13 nmA) (by decide +kernel), hz.2.1⟩, (fun _ h9 => nomatch h9)⟩) (by decide) (by decide) (k_cond F (w := .classLink RL 15 nmS) (by decide +kernel)) (va_Nw.use rfl (hz.1.2.2.2.1 _ castS)) hce hcv hcl ?_
      refine lv_astore (lv' := (5, .ref q9) :: [(0, .ref (B 5)), (1, .int (iI v)), (2, .int (iI lo)), (3, .int (iI hi)), (4, .ref o)]) F.1 F.2.1 dL_addSinger_19 hl (by decide) rfl (fun ls hl => ?_)
      refine k_iconst F dL_addSinger_21 ?_
      exact W.iret F.1 F.2.1 hr (fun t9 ht _ => ⟨⟨_, f, rfl, ⟨by rw [hk3], fun h9 => absurd (hk3.symm.trans h9) (by decide)⟩, by rw [ht, hk3]; exact hP, by rw [hk3]; exact hD⟩, hS.F ht⟩) hS.2.2 dL_addSinger_22 hlocks
  · skip
    refine lv_i2l F.1 F.2.1 dL_addSinger_10 rfl ?_
    refine va_last F.1 F.2.1 hK hP hD hS 0 2 rfl rfl (iI_in (k := 0) rfl (by decide) (by decide)) dL_addSinger_11 (fun H locs hP hD hS => ?_)
    refine lv_goto (tgt := 23) F.1 F.2.1 dL_addSinger_12 (by decide) ?_
    refine k_iconst F dL_addSinger_23 ?_
    exact W.iret F.1 F.2.1 hr (fun t9 ht _ => ⟨⟨_, (vp_updL f (iI 0).toNatClampNeg (iI (σ 1 0 0)).toInt64), rfl, ⟨by rw [hk], fun _ => by rfl⟩, by rw [ht, hk]; exact hP, by rw [hk]; exact hD⟩, hS.F ht⟩) hS.2.2 dL_addSinger_24 hlocks

set_option maxHeartbeats 4000000 in
set_option maxRecDepth 100000 in
theorem mL_tell (l : Launch) (hfl : l.stackTraces = false) (G : gT) (z0 sz0 o : Nat) (f : Nat → Int64) (B : Nat → Nat) (P : Nat → Nat → Nat) (σ : Sg) (x d t : Int) (hx : -2147483648 ≤ x ∧ x < 2147483648) (hd : -2147483648 ≤ d ∧ d < 2147483648) (ht : t = 0 ∨ t = 1) {n k N : Nat} (hI : Iv σ n k N) : Met l yL_tell wsL_tell { frames := 8, cells := 6, slots := 36, locals := 155 } (va_Pc [.ref (B 5), .int (iI x), .int (iI d), .int (iI t), .ref o] (lB G (oC G o f ++ CW G B P σ k) z0 sz0)) (va_Qi (fun (r : Int32) (u : Nat → Int64) => r = iI (kTel σ x d) ∧ (kTel σ x d = 0 → u 0 = (iI (bI (thr (σ 6 0 x.toNat) d = true))).toInt64)) (fun u t9 => gP G (oC G o u ++ CW G B P (if kTel σ x d = 0 then sTel σ x d t else σ) k) t9.heap ∧ va_D (va_A (oC G o f ++ CW G B P σ k) sz0) (oC G o u ++ CW G B P (if kTel σ x d = 0 then sTel σ x d t else σ) k)) (va_A (oC G o f ++ CW G B P σ k) sz0)) 6 36 (va_A (oC G o f ++ CW G B P σ k) sz0) := by
  refine l_start (own := RL) (cc := cL_tell) (mL := 6) (ret := (some .int)) (hh := [(0, 19, 22, 21), (0, 19, 26, 13)]) (Qc := fun AA => va_Qi (fun (r : Int32) (u : Nat → Int64) => r = iI (kTel σ x d) ∧ (kTel σ x d = 0 → u 0 = (iI (bI (thr (σ 6 0 x.toNat) d = true))).toInt64)) (fun u t9 => gP G (oC G o u ++ CW G B P (if kTel σ x d = 0 then sTel σ x d t else σ) k) t9.heap ∧ va_D AA (oC G o u ++ CW G B P (if kTel σ x d = 0 then sTel σ x d t else σ) k)) AA) (by decide) rfl rfl (Nat.le_of_ble_eq_true rfl) ?_
  intro pP eE sS mM args bB meth cC ls AA F hr hlocks htab hz hK hP hD hA hl
  have hS : sF sS sS.heap [] := va_S.rf
  have hl : lv_has ls 6 [(0, .ref (B 5)), (1, .int (iI x)), (2, .int (iI d)), (3, .int (iI t)), (4, .ref o)] := hl
  refine lv_aload F.1 F.2.1 dL_tell_0 (lv_at hl 4 rfl) ?_
  refine k_iconst F dL_tell_2 ?_
  refine lv_aload_n F.1 F.2.1 dL_tell_3 rfl (lv_at hl 0 rfl) ?_
  refine lv_iload_n F.1 F.2.1 dL_tell_4 rfl (lv_at hl 1 rfl) ?_
  refine lv_iload_n F.1 F.2.1 dL_tell_5 rfl (lv_at hl 2 rfl) ?_
  refine lv_iload_n F.1 F.2.1 dL_tell_6 rfl (lv_at hl 3 rfl) ?_
  refine l_callW F (n := 3) (w := CW G B P σ k) (wr := oC G o f) (W2 := (fun _ : Unit => CW G B P (sTel σ x d t) k)) (asY (CW_adr _ _ _) (mX2_tell l hfl G z0 _ B P σ x d t hx hd ht hI)) gL_tell_X2_tell rfl rfl rfl (by decide +kernel) ⟨Nat.le_of_ble_eq_true rfl, Nat.le_of_ble_eq_true rfl⟩ hK hP hD hz.1 hS hA (ci := 2) (q0 := 5) rfl rfl rfl rfl hl.1 (Nat.le_of_ble_eq_true rfl) dL_tell_7 ⟨Nat.le_of_ble_eq_true rfl, Nat.le_of_ble_eq_true rfl⟩ (fun hk ce q9 H locs hP hS hce hcv hcl => ?_) (fun hk _ H locs hP hD hS => ?_)
  · skip
    have hk3 : kTel σ x d = 1 ∨ kTel σ x d = 2 := by
      unfold kTel at hk ⊢
      (repeat' split) <;> simp_all
    rcases hk3 with hk3 | hk3
    · skip
      rw [hk3] at hcl
      have hcl : sS.vm.findClass nmI = some ce.cls := hcl
      refine vx_catch (own := RL) (name := nmI) F.2.2.2.1 [] ⟨0, 19, 22, 21⟩ [⟨0, 19, 26, 13⟩] (htab.trans rfl) (fun _ h9 => nomatch h9) (by decide) (by decide) (k_cond F (w := .classLink RL 21 nmI) (by decide +kernel)) (va_Nw.use rfl (hz.1.2.2.2.1 _ castI)) hce hcv hcl ?_
      refine lv_astore (lv' := (5, .ref q9) :: [(0, .ref (B 5)), (1, .int (iI x)), (2, .int (iI d)), (3, .int (iI t)), (4, .ref o)]) F.1 F.2.1 dL_tell_22 hl (by decide) rfl (fun ls hl => ?_)
      refine k_iconst F dL_tell_24 ?_
      exact W.iret F.1 F.2.1 hr (fun t9 ht _ => ⟨⟨_, f, rfl, ⟨by rw [hk3], fun h9 => absurd (hk3.symm.trans h9) (by decide)⟩, by rw [ht, hk3]; exact hP, by rw [hk3]; exact hD⟩, hS.F ht⟩) hS.2.2 dL_tell_25 hlocks
    · skip
      rw [hk3] at hcl
      have hcl : sS.vm.findClass nmA = some ce.cls := hcl
      refine vx_catch (own := RL) (name := nmA) F.2.2.2.1 [⟨0, 19, 22, 21⟩] ⟨0, 19, 26, 13⟩ [] (htab.trans rfl) (List.forall_mem_cons.mpr ⟨Or.inr ⟨by decide, nmI, k_cond F (w := .classLink RL 21 nmI) (by decide +kernel), hz.2.2.1⟩, (fun _ h9 => nomatch h9)⟩) (by decide) (by decide) (k_cond F (w := .classLink RL 13 nmA) (by decide +kernel)) (va_Nw.use rfl (hz.1.2.2.2.1 _ castA)) hce hcv hcl ?_
      refine lv_astore (lv' := (5, .ref q9) :: [(0, .ref (B 5)), (1, .int (iI x)), (2, .int (iI d)), (3, .int (iI t)), (4, .ref o)]) F.1 F.2.1 dL_tell_26 hl (by decide) rfl (fun ls hl => ?_)
      refine k_iconst F dL_tell_28 ?_
      exact W.iret F.1 F.2.1 hr (fun t9 ht _ => ⟨⟨_, f, rfl, ⟨by rw [hk3], fun h9 => absurd (hk3.symm.trans h9) (by decide)⟩, by rw [ht, hk3]; exact hP, by rw [hk3]; exact hD⟩, hS.F ht⟩) hS.2.2 dL_tell_29 hlocks
  · skip
    refine k_ifb_eq F (tgt := 17) dL_tell_10 (by decide) (fun c9 => ?_) (fun c9 => ?_)
    · skip
      refine lv_lconst F.1 F.2.1 (v := 0) dL_tell_17 rfl ?_
      refine va_last F.1 F.2.1 hK hP hD hS 0 2 rfl rfl (iI_in (k := 0) rfl (by decide) (by decide)) dL_tell_18 (fun H locs hP hD hS => ?_)
      refine lv_goto (tgt := 30) F.1 F.2.1 dL_tell_19 (by decide) ?_
      refine k_iconst F dL_tell_30 ?_
      exact W.iret F.1 F.2.1 hr (fun t9 ht _ => ⟨⟨_, (vp_updL f (iI 0).toNatClampNeg 0), rfl, ⟨by rw [hk], fun _ => by rw [bI_f c9, i64_0]; rfl⟩, by rw [ht, hk]; exact hP, by rw [hk]; exact hD⟩, hS.F ht⟩) hS.2.2 dL_tell_31 hlocks
    · skip
      refine lv_lconst F.1 F.2.1 (v := 1) dL_tell_13 rfl ?_
      refine lv_goto (tgt := 18) F.1 F.2.1 dL_tell_14 (by decide) ?_
      refine va_last F.1 F.2.1 hK hP hD hS 0 2 rfl rfl (iI_in (k := 0) rfl (by decide) (by decide)) dL_tell_18 (fun H locs hP hD hS => ?_)
      refine lv_goto (tgt := 30) F.1 F.2.1 dL_tell_19 (by decide) ?_
      refine k_iconst F dL_tell_30 ?_
      exact W.iret F.1 F.2.1 hr (fun t9 ht _ => ⟨⟨_, (vp_updL f (iI 0).toNatClampNeg 1), rfl, ⟨by rw [hk], fun _ => by rw [bI_t c9, i64_1]; rfl⟩, by rw [ht, hk]; exact hP, by rw [hk]; exact hD⟩, hS.F ht⟩) hS.2.2 dL_tell_31 hlocks

set_option maxHeartbeats 4000000 in
set_option maxRecDepth 100000 in
theorem mL_change (l : Launch) (hfl : l.stackTraces = false) (G : gT) (z0 sz0 o : Nat) (f : Nat → Int64) (B : Nat → Nat) (P : Nat → Nat → Nat) (σ : Sg) (x v : Int) (hx : -2147483648 ≤ x ∧ x < 2147483648) (hv : -2147483648 ≤ v ∧ v < 2147483648) {n k N : Nat} (hI : Iv σ n k N) : Met l yL_change wsL_change { frames := 8, cells := 6, slots := 36, locals := 153 } (va_Pc [.ref (B 5), .int (iI x), .int (iI v), .ref o] (lB G (oC G o f ++ CW G B P σ k) z0 sz0)) (va_Qi (fun (r : Int32) (u : Nat → Int64) => r = iI (kChg σ x v) ∧ (kChg σ x v = 0 → u 0 = (iI (σ 3 0 x.toNat)).toInt64)) (fun u t9 => gP G (oC G o u ++ CW G B P (if kChg σ x v = 0 then su σ 3 0 x.toNat v else σ) k) t9.heap ∧ va_D (va_A (oC G o f ++ CW G B P σ k) sz0) (oC G o u ++ CW G B P (if kChg σ x v = 0 then su σ 3 0 x.toNat v else σ) k)) (va_A (oC G o f ++ CW G B P σ k) sz0)) 6 36 (va_A (oC G o f ++ CW G B P σ k) sz0) := by
  refine l_start (own := RL) (cc := cL_change) (mL := 5) (ret := (some .int)) (hh := [(0, 10, 13, 21), (0, 10, 17, 13)]) (Qc := fun AA => va_Qi (fun (r : Int32) (u : Nat → Int64) => r = iI (kChg σ x v) ∧ (kChg σ x v = 0 → u 0 = (iI (σ 3 0 x.toNat)).toInt64)) (fun u t9 => gP G (oC G o u ++ CW G B P (if kChg σ x v = 0 then su σ 3 0 x.toNat v else σ) k) t9.heap ∧ va_D AA (oC G o u ++ CW G B P (if kChg σ x v = 0 then su σ 3 0 x.toNat v else σ) k)) AA) (by decide) rfl rfl (Nat.le_of_ble_eq_true rfl) ?_
  intro pP eE sS mM args bB meth cC ls AA F hr hlocks htab hz hK hP hD hA hl
  have hS : sF sS sS.heap [] := va_S.rf
  have hl : lv_has ls 5 [(0, .ref (B 5)), (1, .int (iI x)), (2, .int (iI v)), (3, .ref o)] := hl
  refine lv_aload_n F.1 F.2.1 dL_change_0 rfl (lv_at hl 3 rfl) ?_
  refine k_iconst F dL_change_1 ?_
  refine lv_aload_n F.1 F.2.1 dL_change_2 rfl (lv_at hl 0 rfl) ?_
  refine lv_iload_n F.1 F.2.1 dL_change_3 rfl (lv_at hl 1 rfl) ?_
  refine lv_iload_n F.1 F.2.1 dL_change_4 rfl (lv_at hl 2 rfl) ?_
  refine l_callW F (n := 2) (w := CW G B P σ k) (wr := oC G o f) (W2 := (fun _ : Unit => CW G B P (su σ 3 0 x.toNat v) k)) (asY (CW_adr _ _ _) (mX2_change l hfl G z0 _ B P σ x v hx hv hI)) gL_change_X2_change rfl rfl rfl (by decide +kernel) ⟨Nat.le_of_ble_eq_true rfl, Nat.le_of_ble_eq_true rfl⟩ hK hP hD hz.1 hS hA (ci := 2) (q0 := 5) rfl rfl rfl rfl hl.1 (Nat.le_of_ble_eq_true rfl) dL_change_5 ⟨Nat.le_of_ble_eq_true rfl, Nat.le_of_ble_eq_true rfl⟩ (fun hk ce q9 H locs hP hS hce hcv hcl => ?_) (fun hk _ H locs hP hD hS => ?_)
  · skip
    have hk3 : kChg σ x v = 1 ∨ kChg σ x v = 2 := by
      unfold kChg at hk ⊢
      (repeat' split) <;> simp_all
    rcases hk3 with hk3 | hk3
    · skip
      rw [hk3] at hcl
      have hcl : sS.vm.findClass nmI = some ce.cls := hcl
      refine vx_catch (own := RL) (name := nmI) F.2.2.2.1 [] ⟨0, 10, 13, 21⟩ [⟨0, 10, 17, 13⟩] (htab.trans rfl) (fun _ h9 => nomatch h9) (by decide) (by decide) (k_cond F (w := .classLink RL 21 nmI) (by decide +kernel)) (va_Nw.use rfl (hz.1.2.2.2.1 _ castI)) hce hcv hcl ?_
      refine lv_astore (lv' := (4, .ref q9) :: [(0, .ref (B 5)), (1, .int (iI x)), (2, .int (iI v)), (3, .ref o)]) F.1 F.2.1 dL_change_13 hl (by decide) rfl (fun ls hl => ?_)
      refine k_iconst F dL_change_15 ?_
      exact W.iret F.1 F.2.1 hr (fun t9 ht _ => ⟨⟨_, f, rfl, ⟨by rw [hk3], fun h9 => absurd (hk3.symm.trans h9) (by decide)⟩, by rw [ht, hk3]; exact hP, by rw [hk3]; exact hD⟩, hS.F ht⟩) hS.2.2 dL_change_16 hlocks
    · skip
      rw [hk3] at hcl
      have hcl : sS.vm.findClass nmA = some ce.cls := hcl
      refine vx_catch (own := RL) (name := nmA) F.2.2.2.1 [⟨0, 10, 13, 21⟩] ⟨0, 10, 17, 13⟩ [] (htab.trans rfl) (List.forall_mem_cons.mpr ⟨Or.inr ⟨by decide, nmI, k_cond F (w := .classLink RL 21 nmI) (by decide +kernel), hz.2.2.1⟩, (fun _ h9 => nomatch h9)⟩) (by decide) (by decide) (k_cond F (w := .classLink RL 13 nmA) (by decide +kernel)) (va_Nw.use rfl (hz.1.2.2.2.1 _ castA)) hce hcv hcl ?_
      refine lv_astore (lv' := (4, .ref q9) :: [(0, .ref (B 5)), (1, .int (iI x)), (2, .int (iI v)), (3, .ref o)]) F.1 F.2.1 dL_change_17 hl (by decide) rfl (fun ls hl => ?_)
      refine k_iconst F dL_change_19 ?_
      exact W.iret F.1 F.2.1 hr (fun t9 ht _ => ⟨⟨_, f, rfl, ⟨by rw [hk3], fun h9 => absurd (hk3.symm.trans h9) (by decide)⟩, by rw [ht, hk3]; exact hP, by rw [hk3]; exact hD⟩, hS.F ht⟩) hS.2.2 dL_change_20 hlocks
  · skip
    refine lv_i2l F.1 F.2.1 dL_change_8 rfl ?_
    refine va_last F.1 F.2.1 hK hP hD hS 0 2 rfl rfl (iI_in (k := 0) rfl (by decide) (by decide)) dL_change_9 (fun H locs hP hD hS => ?_)
    refine lv_goto (tgt := 21) F.1 F.2.1 dL_change_10 (by decide) ?_
    refine k_iconst F dL_change_21 ?_
    exact W.iret F.1 F.2.1 hr (fun t9 ht _ => ⟨⟨_, (vp_updL f (iI 0).toNatClampNeg (iI (σ 3 0 x.toNat)).toInt64), rfl, ⟨by rw [hk], fun _ => by rfl⟩, by rw [ht, hk]; exact hP, by rw [hk]; exact hD⟩, hS.F ht⟩) hS.2.2 dL_change_22 hlocks

set_option maxHeartbeats 4000000 in
set_option maxRecDepth 100000 in
theorem mL_range (l : Launch) (hfl : l.stackTraces = false) (G : gT) (z0 sz0 o : Nat) (f : Nat → Int64) (B : Nat → Nat) (P : Nat → Nat → Nat) (σ : Sg) (v d : Int) (hv : -2147483648 ≤ v ∧ v < 2147483648) (hd : -2147483648 ≤ d ∧ d < 2147483648) {n k N : Nat} (hI : Iv σ n k N) : Met l yL_range wsL_range { frames := 8, cells := 6, slots := 36, locals := 154 } (va_Pc [.ref (B 5), .int (iI v), .int (iI d), .ref o] (lB G (oC G o f ++ CW G B P σ k) z0 sz0)) (va_Qi (fun (r : Int32) (u : Nat → Int64) => r = iI (kRng v d) ∧ (kRng v d = 0 → u 0 = (iI (vRng σ v d n)).toInt64)) (fun u t9 => gP G (oC G o u ++ CW G B P σ k) t9.heap ∧ va_D (va_A (oC G o f ++ CW G B P σ k) sz0) (oC G o u ++ CW G B P σ k)) (va_A (oC G o f ++ CW G B P σ k) sz0)) 6 36 (va_A (oC G o f ++ CW G B P σ k) sz0) := by
  refine l_start (own := RL) (cc := cL_range) (mL := 5) (ret := (some .int)) (hh := [(0, 10, 13, 13)]) (Qc := fun AA => va_Qi (fun (r : Int32) (u : Nat → Int64) => r = iI (kRng v d) ∧ (kRng v d = 0 → u 0 = (iI (vRng σ v d n)).toInt64)) (fun u t9 => gP G (oC G o u ++ CW G B P σ k) t9.heap ∧ va_D AA (oC G o u ++ CW G B P σ k)) AA) (by decide) rfl rfl (Nat.le_of_ble_eq_true rfl) ?_
  intro pP eE sS mM args bB meth cC ls AA F hr hlocks htab hz hK hP hD hA hl
  have hS : sF sS sS.heap [] := va_S.rf
  have hl : lv_has ls 5 [(0, .ref (B 5)), (1, .int (iI v)), (2, .int (iI d)), (3, .ref o)] := hl
  refine lv_aload_n F.1 F.2.1 dL_range_0 rfl (lv_at hl 3 rfl) ?_
  refine k_iconst F dL_range_1 ?_
  refine lv_aload_n F.1 F.2.1 dL_range_2 rfl (lv_at hl 0 rfl) ?_
  refine lv_iload_n F.1 F.2.1 dL_range_3 rfl (lv_at hl 1 rfl) ?_
  refine lv_iload_n F.1 F.2.1 dL_range_4 rfl (lv_at hl 2 rfl) ?_
  refine l_callW F (n := 2) (w := CW G B P σ k) (wr := oC G o f) (W2 := (fun _ : Unit => CW G B P σ k)) (asW (mX2_range l hfl G z0 B P σ v d hv hd hI)) gL_range_X2_range rfl rfl rfl (by decide +kernel) ⟨Nat.le_of_ble_eq_true rfl, Nat.le_of_ble_eq_true rfl⟩ hK hP hD hz.1 hS hA (ci := 2) (q0 := 5) rfl rfl rfl rfl hl.1 (Nat.le_of_ble_eq_true rfl) dL_range_5 ⟨Nat.le_of_ble_eq_true rfl, Nat.le_of_ble_eq_true rfl⟩ (fun hk ce q9 H locs hP hS hce hcv hcl => ?_) (fun hk _ H locs hP hD hS => ?_)
  · skip
    have hk3 : kRng v d = 1 := by
      unfold kRng at hk ⊢
      (repeat' split) <;> simp_all
    rw [hk3] at hcl
    have hcl : sS.vm.findClass nmA = some ce.cls := hcl
    refine vx_catch (own := RL) (name := nmA) F.2.2.2.1 [] ⟨0, 10, 13, 13⟩ [] (htab.trans rfl) (fun _ h9 => nomatch h9) (by decide) (by decide) (k_cond F (w := .classLink RL 13 nmA) (by decide +kernel)) (va_Nw.use rfl (hz.1.2.2.2.1 _ castA)) hce hcv hcl ?_
    refine lv_astore (lv' := (4, .ref q9) :: [(0, .ref (B 5)), (1, .int (iI v)), (2, .int (iI d)), (3, .ref o)]) F.1 F.2.1 dL_range_13 hl (by decide) rfl (fun ls hl => ?_)
    refine k_iconst F dL_range_15 ?_
    exact W.iret F.1 F.2.1 hr (fun t9 ht _ => ⟨⟨_, f, rfl, ⟨by rw [hk3], fun h9 => absurd (hk3.symm.trans h9) (by decide)⟩, by rw [ht]; exact hP, hD⟩, hS.F ht⟩) hS.2.2 dL_range_16 hlocks
  · skip
    refine lv_i2l F.1 F.2.1 dL_range_8 rfl ?_
    refine va_last F.1 F.2.1 hK hP hD hS 0 2 rfl rfl (iI_in (k := 0) rfl (by decide) (by decide)) dL_range_9 (fun H locs hP hD hS => ?_)
    refine lv_goto (tgt := 17) F.1 F.2.1 dL_range_10 (by decide) ?_
    refine k_iconst F dL_range_17 ?_
    exact W.iret F.1 F.2.1 hr (fun t9 ht _ => ⟨⟨_, (vp_updL f (iI 0).toNatClampNeg (iI (vRng σ v d n)).toInt64), rfl, ⟨by rw [hk], fun _ => by rfl⟩, by rw [ht]; exact hP, hD⟩, hS.F ht⟩) hS.2.2 dL_range_18 hlocks

set_option maxHeartbeats 4000000 in
set_option maxRecDepth 100000 in
theorem mL_chord (l : Launch) (hfl : l.stackTraces = false) (G : gT) (z0 sz0 o : Nat) (f : Nat → Int64) (B : Nat → Nat) (P : Nat → Nat → Nat) (σ : Sg) (a b c d : Int) (ha : -2147483648 ≤ a ∧ a < 2147483648) (hb : -2147483648 ≤ b ∧ b < 2147483648) (hc : -2147483648 ≤ c ∧ c < 2147483648) (hd : -2147483648 ≤ d ∧ d < 2147483648) {n k N : Nat} (hI : Iv σ n k N) : Met l yL_chord wsL_chord { frames := 8, cells := 6, slots := 36, locals := 155 } (va_Pc [.ref (B 5), .int (iI a), .int (iI b), .int (iI c), .int (iI d), .ref o] (lB G (oC G o f ++ CW G B P σ k) z0 sz0)) (va_Qi (fun (r : Int32) (u : Nat → Int64) => r = iI (kChd σ a b c d) ∧ (kChd σ a b c d = 0 → u 0 = (iI (σ 8 (σ 2 0 0).toNat 0 + 1)).toInt64)) (fun u t9 => gP G (oC G o u ++ CW G B P (if kChd σ a b c d = 0 then sChd σ a b c d else σ) k) t9.heap ∧ va_D (va_A (oC G o f ++ CW G B P σ k) sz0) (oC G o u ++ CW G B P (if kChd σ a b c d = 0 then sChd σ a b c d else σ) k)) (va_A (oC G o f ++ CW G B P σ k) sz0)) 6 36 (va_A (oC G o f ++ CW G B P σ k) sz0) := by
  refine l_start (own := RL) (cc := cL_chord) (mL := 7) (ret := (some .int)) (hh := [(0, 14, 17, 13), (0, 14, 21, 15)]) (Qc := fun AA => va_Qi (fun (r : Int32) (u : Nat → Int64) => r = iI (kChd σ a b c d) ∧ (kChd σ a b c d = 0 → u 0 = (iI (σ 8 (σ 2 0 0).toNat 0 + 1)).toInt64)) (fun u t9 => gP G (oC G o u ++ CW G B P (if kChd σ a b c d = 0 then sChd σ a b c d else σ) k) t9.heap ∧ va_D AA (oC G o u ++ CW G B P (if kChd σ a b c d = 0 then sChd σ a b c d else σ) k)) AA) (by decide) rfl rfl (Nat.le_of_ble_eq_true rfl) ?_
  intro pP eE sS mM args bB meth cC ls AA F hr hlocks htab hz hK hP hD hA hl
  have hS : sF sS sS.heap [] := va_S.rf
  have hl : lv_has ls 7 [(0, .ref (B 5)), (1, .int (iI a)), (2, .int (iI b)), (3, .int (iI c)), (4, .int (iI d)), (5, .ref o)] := hl
  refine lv_aload F.1 F.2.1 dL_chord_0 (lv_at hl 5 rfl) ?_
  refine k_iconst F dL_chord_2 ?_
  refine lv_aload_n F.1 F.2.1 dL_chord_3 rfl (lv_at hl 0 rfl) ?_
  refine lv_iload_n F.1 F.2.1 dL_chord_4 rfl (lv_at hl 1 rfl) ?_
  refine lv_iload_n F.1 F.2.1 dL_chord_5 rfl (lv_at hl 2 rfl) ?_
  refine lv_iload_n F.1 F.2.1 dL_chord_6 rfl (lv_at hl 3 rfl) ?_
  refine lv_iload F.1 F.2.1 dL_chord_7 (lv_at hl 4 rfl) ?_
  refine l_callW F (n := 4) (w := CW G B P σ k) (wr := oC G o f) (W2 := (fun _ : Unit => CW G B P (sChd σ a b c d) k)) (asY (CW_adr _ _ _) (mX2_chord l hfl G z0 _ B P σ a b c d ha hb hc hd hI)) gL_chord_X2_chord rfl rfl rfl (by decide +kernel) ⟨Nat.le_of_ble_eq_true rfl, Nat.le_of_ble_eq_true rfl⟩ hK hP hD hz.1 hS hA (ci := 2) (q0 := 5) rfl rfl rfl rfl hl.1 (Nat.le_of_ble_eq_true rfl) dL_chord_9 ⟨Nat.le_of_ble_eq_true rfl, Nat.le_of_ble_eq_true rfl⟩ (fun hk ce q9 H locs hP hS hce hcv hcl => ?_) (fun hk _ H locs hP hD hS => ?_)
  · skip
    have hk3 : kChd σ a b c d = 1 ∨ kChd σ a b c d = 2 := by
      unfold kChd at hk ⊢
      (repeat' split) <;> simp_all
    rcases hk3 with hk3 | hk3
    · skip
      rw [hk3] at hcl
      have hcl : sS.vm.findClass nmA = some ce.cls := hcl
      refine vx_catch (own := RL) (name := nmA) F.2.2.2.1 [] ⟨0, 14, 17, 13⟩ [⟨0, 14, 21, 15⟩] (htab.trans rfl) (fun _ h9 => nomatch h9) (by decide) (by decide) (k_cond F (w := .classLink RL 13 nmA) (by decide +kernel)) (va_Nw.use rfl (hz.1.2.2.2.1 _ castA)) hce hcv hcl ?_
      refine lv_astore (lv' := (6, .ref q9) :: [(0, .ref (B 5)), (1, .int (iI a)), (2, .int (iI b)), (3, .int (iI c)), (4, .int (iI d)), (5, .ref o)]) F.1 F.2.1 dL_chord_17 hl (by decide) rfl (fun ls hl => ?_)
      refine k_iconst F dL_chord_19 ?_
      exact W.iret F.1 F.2.1 hr (fun t9 ht _ => ⟨⟨_, f, rfl, ⟨by rw [hk3], fun h9 => absurd (hk3.symm.trans h9) (by decide)⟩, by rw [ht, hk3]; exact hP, by rw [hk3]; exact hD⟩, hS.F ht⟩) hS.2.2 dL_chord_20 hlocks
    · skip
      rw [hk3] at hcl
      have hcl : sS.vm.findClass nmS = some ce.cls := hcl
      refine vx_catch (own := RL) (name := nmS) F.2.2.2.1 [⟨0, 14, 17, 13⟩] ⟨0, 14, 21, 15⟩ [] (htab.trans rfl) (List.forall_mem_cons.mpr ⟨Or.inr ⟨by decide, nmA, k_cond F (w := .classLink RL 13 nmA) (by decide +kernel), hz.2.1⟩, (fun _ h9 => nomatch h9)⟩) (by decide) (by decide) (k_cond F (w := .classLink RL 15 nmS) (by decide +kernel)) (va_Nw.use rfl (hz.1.2.2.2.1 _ castS)) hce hcv hcl ?_
      refine lv_astore (lv' := (6, .ref q9) :: [(0, .ref (B 5)), (1, .int (iI a)), (2, .int (iI b)), (3, .int (iI c)), (4, .int (iI d)), (5, .ref o)]) F.1 F.2.1 dL_chord_21 hl (by decide) rfl (fun ls hl => ?_)
      refine k_iconst F dL_chord_23 ?_
      exact W.iret F.1 F.2.1 hr (fun t9 ht _ => ⟨⟨_, f, rfl, ⟨by rw [hk3], fun h9 => absurd (hk3.symm.trans h9) (by decide)⟩, by rw [ht, hk3]; exact hP, by rw [hk3]; exact hD⟩, hS.F ht⟩) hS.2.2 dL_chord_24 hlocks
  · skip
    refine lv_i2l F.1 F.2.1 dL_chord_12 rfl ?_
    refine va_last F.1 F.2.1 hK hP hD hS 0 2 rfl rfl (iI_in (k := 0) rfl (by decide) (by decide)) dL_chord_13 (fun H locs hP hD hS => ?_)
    refine lv_goto (tgt := 25) F.1 F.2.1 dL_chord_14 (by decide) ?_
    refine k_iconst F dL_chord_25 ?_
    exact W.iret F.1 F.2.1 hr (fun t9 ht _ => ⟨⟨_, (vp_updL f (iI 0).toNatClampNeg (iI (σ 8 (σ 2 0 0).toNat 0 + 1)).toInt64), rfl, ⟨by rw [hk], fun _ => by rfl⟩, by rw [ht, hk]; exact hP, by rw [hk]; exact hD⟩, hS.F ht⟩) hS.2.2 dL_chord_26 hlocks

set_option maxHeartbeats 4000000 in
set_option maxRecDepth 100000 in
theorem mL_addPiece (l : Launch) (hfl : l.stackTraces = false) (G : gT) (z0 sz0 o : Nat) (f : Nat → Int64) (B : Nat → Nat) (P : Nat → Nat → Nat) (σ : Sg) (x : Int) (hx : -2147483648 ≤ x ∧ x < 2147483648) {n k N : Nat} (hI : Iv σ n k N) : Met l yL_addPiece wsL_addPiece { frames := 7, cells := 6, slots := 120, locals := 132 } (va_Pc [.ref (B 5), .int (iI x), .ref o] (lB G (oC G o f ++ CW G B P σ k) z0 sz0)) (va_Qi (fun (r : Int32) (u : (Nat → Int64) × (Nat → Nat → Nat)) => r = iI (kPce σ x) ∧ (kPce σ x = 0 → u.1 0 = (iI (σ 2 0 0)).toInt64)) (fun u t9 => gP G (oC G o u.1 ++ CW G B u.2 (if kPce σ x = 0 then sPce σ x else σ) (if kPce σ x = 0 then k + 1 else k)) t9.heap ∧ va_D (va_A (oC G o f ++ CW G B P σ k) sz0) (oC G o u.1 ++ CW G B u.2 (if kPce σ x = 0 then sPce σ x else σ) (if kPce σ x = 0 then k + 1 else k))) (va_A (oC G o f ++ CW G B P σ k) sz0)) 6 120 (va_A (oC G o f ++ CW G B P σ k) sz0) := by
  refine l_start (own := RL) (cc := cL_addPiece) (mL := 4) (ret := (some .int)) (hh := [(0, 9, 12, 13), (0, 9, 15, 15)]) (Qc := fun AA => va_Qi (fun (r : Int32) (u : (Nat → Int64) × (Nat → Nat → Nat)) => r = iI (kPce σ x) ∧ (kPce σ x = 0 → u.1 0 = (iI (σ 2 0 0)).toInt64)) (fun u t9 => gP G (oC G o u.1 ++ CW G B u.2 (if kPce σ x = 0 then sPce σ x else σ) (if kPce σ x = 0 then k + 1 else k)) t9.heap ∧ va_D AA (oC G o u.1 ++ CW G B u.2 (if kPce σ x = 0 then sPce σ x else σ) (if kPce σ x = 0 then k + 1 else k))) AA) (by decide) rfl rfl (Nat.le_of_ble_eq_true rfl) ?_
  intro pP eE sS mM args bB meth cC ls AA F hr hlocks htab hz hK hP hD hA hl
  have hS : sF sS sS.heap [] := va_S.rf
  have hl : lv_has ls 4 [(0, .ref (B 5)), (1, .int (iI x)), (2, .ref o)] := hl
  refine lv_aload_n F.1 F.2.1 dL_addPiece_0 rfl (lv_at hl 2 rfl) ?_
  refine k_iconst F dL_addPiece_1 ?_
  refine lv_aload_n F.1 F.2.1 dL_addPiece_2 rfl (lv_at hl 0 rfl) ?_
  refine lv_iload_n F.1 F.2.1 dL_addPiece_3 rfl (lv_at hl 1 rfl) ?_
  refine l_callW F (n := 1) (w := CW G B P σ k) (wr := oC G o f) (W2 := (fun Pn => CW G B Pn (sPce σ x) (k + 1))) (mX2_addPiece l hfl G z0 _ B P σ x hx hI) gL_addPiece_X2_addPiece rfl rfl rfl (by decide +kernel) ⟨Nat.le_of_ble_eq_true rfl, Nat.le_of_ble_eq_true rfl⟩ hK hP hD hz.1 hS hA (ci := 2) (q0 := 5) rfl rfl rfl rfl hl.1 (Nat.le_of_ble_eq_true rfl) dL_addPiece_4 ⟨Nat.le_of_ble_eq_true rfl, Nat.le_of_ble_eq_true rfl⟩ (fun hk ce q9 H locs hP hS hce hcv hcl => ?_) (fun hk Pn H locs hP hD hS => ?_)
  · skip
    have hk3 : kPce σ x = 1 ∨ kPce σ x = 2 := by
      unfold kPce at hk ⊢
      (repeat' split) <;> simp_all
    rcases hk3 with hk3 | hk3
    · skip
      rw [hk3] at hcl
      have hcl : sS.vm.findClass nmA = some ce.cls := hcl
      refine vx_catch (own := RL) (name := nmA) F.2.2.2.1 [] ⟨0, 9, 12, 13⟩ [⟨0, 9, 15, 15⟩] (htab.trans rfl) (fun _ h9 => nomatch h9) (by decide) (by decide) (k_cond F (w := .classLink RL 13 nmA) (by decide +kernel)) (va_Nw.use rfl (hz.1.2.2.2.1 _ castA)) hce hcv hcl ?_
      refine lv_astore_n (lv' := (3, .ref q9) :: [(0, .ref (B 5)), (1, .int (iI x)), (2, .ref o)]) F.1 F.2.1 dL_addPiece_12 rfl hl (by decide) rfl (fun ls hl => ?_)
      refine k_iconst F dL_addPiece_13 ?_
      exact W.iret F.1 F.2.1 hr (fun t9 ht _ => ⟨⟨_, (f, P), rfl, ⟨by rw [hk3], fun h9 => absurd (hk3.symm.trans h9) (by decide)⟩, by rw [ht, hk3]; exact hP, by rw [hk3]; exact hD⟩, hS.F ht⟩) hS.2.2 dL_addPiece_14 hlocks
    · skip
      rw [hk3] at hcl
      have hcl : sS.vm.findClass nmS = some ce.cls := hcl
      refine vx_catch (own := RL) (name := nmS) F.2.2.2.1 [⟨0, 9, 12, 13⟩] ⟨0, 9, 15, 15⟩ [] (htab.trans rfl) (List.forall_mem_cons.mpr ⟨Or.inr ⟨by decide, nmA, k_cond F (w := .classLink RL 13 nmA) (by decide +kernel), hz.2.1⟩, (fun _ h9 => nomatch h9)⟩) (by decide) (by decide) (k_cond F (w := .classLink RL 15 nmS) (by decide +kernel)) (va_Nw.use rfl (hz.1.2.2.2.1 _ castS)) hce hcv hcl ?_
      refine lv_astore_n (lv' := (3, .ref q9) :: [(0, .ref (B 5)), (1, .int (iI x)), (2, .ref o)]) F.1 F.2.1 dL_addPiece_15 rfl hl (by decide) rfl (fun ls hl => ?_)
      refine k_iconst F dL_addPiece_16 ?_
      exact W.iret F.1 F.2.1 hr (fun t9 ht _ => ⟨⟨_, (f, P), rfl, ⟨by rw [hk3], fun h9 => absurd (hk3.symm.trans h9) (by decide)⟩, by rw [ht, hk3]; exact hP, by rw [hk3]; exact hD⟩, hS.F ht⟩) hS.2.2 dL_addPiece_17 hlocks
  · skip
    refine lv_i2l F.1 F.2.1 dL_addPiece_7 rfl ?_
    refine va_last F.1 F.2.1 hK hP hD hS 0 2 rfl rfl (iI_in (k := 0) rfl (by decide) (by decide)) dL_addPiece_8 (fun H locs hP hD hS => ?_)
    refine lv_goto (tgt := 18) F.1 F.2.1 dL_addPiece_9 (by decide) ?_
    refine k_iconst F dL_addPiece_18 ?_
    exact W.iret F.1 F.2.1 hr (fun t9 ht _ => ⟨⟨_, (vp_updL f (iI 0).toNatClampNeg (iI (σ 2 0 0)).toInt64, Pn), rfl, ⟨by rw [hk], fun _ => by rfl⟩, by rw [ht, hk]; exact hP, by rw [hk]; exact hD⟩, hS.F ht⟩) hS.2.2 dL_addPiece_19 hlocks

set_option maxHeartbeats 4000000 in
set_option maxRecDepth 100000 in
theorem mL_setTone (l : Launch) (hfl : l.stackTraces = false) (G : gT) (z0 sz0 o : Nat) (f : Nat → Int64) (B : Nat → Nat) (P : Nat → Nat → Nat) (σ : Sg) (x y v t : Int) (hx : -2147483648 ≤ x ∧ x < 2147483648) (hy : -2147483648 ≤ y ∧ y < 2147483648) (hv : -2147483648 ≤ v ∧ v < 2147483648) (ht : -2147483648 ≤ t ∧ t < 2147483648) {n k N : Nat} (hI : Iv σ n k N) : Met l yL_setTone wsL_setTone { frames := 8, cells := 6, slots := 36, locals := 158 } (va_Pc [.ref (B 5), .int (iI x), .int (iI y), .int (iI v), .int (iI t), .ref o] (lB G (oC G o f ++ CW G B P σ k) z0 sz0)) (va_Qi (fun (r : Int32) (u : Nat → Int64) => r = iI (kSet σ x y v t) ∧ (kSet σ x y v t = 0 → u 0 = (iI (σ 7 x.toNat (4 * y.toNat + v.toNat))).toInt64)) (fun u t9 => gP G (oC G o u ++ CW G B P (if kSet σ x y v t = 0 then sSet σ x y v t else σ) k) t9.heap ∧ va_D (va_A (oC G o f ++ CW G B P σ k) sz0) (oC G o u ++ CW G B P (if kSet σ x y v t = 0 then sSet σ x y v t else σ) k)) (va_A (oC G o f ++ CW G B P σ k) sz0)) 6 36 (va_A (oC G o f ++ CW G B P σ k) sz0) := by
  refine l_start (own := RL) (cc := cL_setTone) (mL := 7) (ret := (some .int)) (hh := [(0, 14, 17, 21), (0, 14, 21, 13), (0, 14, 25, 15)]) (Qc := fun AA => va_Qi (fun (r : Int32) (u : Nat → Int64) => r = iI (kSet σ x y v t) ∧ (kSet σ x y v t = 0 → u 0 = (iI (σ 7 x.toNat (4 * y.toNat + v.toNat))).toInt64)) (fun u t9 => gP G (oC G o u ++ CW G B P (if kSet σ x y v t = 0 then sSet σ x y v t else σ) k) t9.heap ∧ va_D AA (oC G o u ++ CW G B P (if kSet σ x y v t = 0 then sSet σ x y v t else σ) k)) AA) (by decide) rfl rfl (Nat.le_of_ble_eq_true rfl) ?_
  intro pP eE sS mM args bB meth cC ls AA F hr hlocks htab hz hK hP hD hA hl
  have hS : sF sS sS.heap [] := va_S.rf
  have hl : lv_has ls 7 [(0, .ref (B 5)), (1, .int (iI x)), (2, .int (iI y)), (3, .int (iI v)), (4, .int (iI t)), (5, .ref o)] := hl
  refine lv_aload F.1 F.2.1 dL_setTone_0 (lv_at hl 5 rfl) ?_
  refine k_iconst F dL_setTone_2 ?_
  refine lv_aload_n F.1 F.2.1 dL_setTone_3 rfl (lv_at hl 0 rfl) ?_
  refine lv_iload_n F.1 F.2.1 dL_setTone_4 rfl (lv_at hl 1 rfl) ?_
  refine lv_iload_n F.1 F.2.1 dL_setTone_5 rfl (lv_at hl 2 rfl) ?_
  refine lv_iload_n F.1 F.2.1 dL_setTone_6 rfl (lv_at hl 3 rfl) ?_
  refine lv_iload F.1 F.2.1 dL_setTone_7 (lv_at hl 4 rfl) ?_
  refine l_callW F (n := 4) (w := CW G B P σ k) (wr := oC G o f) (W2 := (fun _ : Unit => CW G B P (sSet σ x y v t) k)) (asY (CW_adr _ _ _) (mX2_setTone l hfl G z0 _ B P σ x y v t hx hy hv ht hI)) gL_setTone_X2_setTone rfl rfl rfl (by decide +kernel) ⟨Nat.le_of_ble_eq_true rfl, Nat.le_of_ble_eq_true rfl⟩ hK hP hD hz.1 hS hA (ci := 2) (q0 := 5) rfl rfl rfl rfl hl.1 (Nat.le_of_ble_eq_true rfl) dL_setTone_9 ⟨Nat.le_of_ble_eq_true rfl, Nat.le_of_ble_eq_true rfl⟩ (fun hk ce q9 H locs hP hS hce hcv hcl => ?_) (fun hk _ H locs hP hD hS => ?_)
  · skip
    have hk3 : kSet σ x y v t = 1 ∨ kSet σ x y v t = 2 ∨ kSet σ x y v t = 3 := by
      unfold kSet at hk ⊢
      (repeat' split) <;> simp_all
    rcases hk3 with hk3 | hk3 | hk3
    · skip
      rw [hk3] at hcl
      have hcl : sS.vm.findClass nmI = some ce.cls := hcl
      refine vx_catch (own := RL) (name := nmI) F.2.2.2.1 [] ⟨0, 14, 17, 21⟩ [⟨0, 14, 21, 13⟩, ⟨0, 14, 25, 15⟩] (htab.trans rfl) (fun _ h9 => nomatch h9) (by decide) (by decide) (k_cond F (w := .classLink RL 21 nmI) (by decide +kernel)) (va_Nw.use rfl (hz.1.2.2.2.1 _ castI)) hce hcv hcl ?_
      refine lv_astore (lv' := (6, .ref q9) :: [(0, .ref (B 5)), (1, .int (iI x)), (2, .int (iI y)), (3, .int (iI v)), (4, .int (iI t)), (5, .ref o)]) F.1 F.2.1 dL_setTone_17 hl (by decide) rfl (fun ls hl => ?_)
      refine k_iconst F dL_setTone_19 ?_
      exact W.iret F.1 F.2.1 hr (fun t9 ht _ => ⟨⟨_, f, rfl, ⟨by rw [hk3], fun h9 => absurd (hk3.symm.trans h9) (by decide)⟩, by rw [ht, hk3]; exact hP, by rw [hk3]; exact hD⟩, hS.F ht⟩) hS.2.2 dL_setTone_20 hlocks
    · skip
      rw [hk3] at hcl
      have hcl : sS.vm.findClass nmA = some ce.cls := hcl
      refine vx_catch (own := RL) (name := nmA) F.2.2.2.1 [⟨0, 14, 17, 21⟩] ⟨0, 14, 21, 13⟩ [⟨0, 14, 25, 15⟩] (htab.trans rfl) (List.forall_mem_cons.mpr ⟨Or.inr ⟨by decide, nmI, k_cond F (w := .classLink RL 21 nmI) (by decide +kernel), hz.2.2.1⟩, (fun _ h9 => nomatch h9)⟩) (by decide) (by decide) (k_cond F (w := .classLink RL 13 nmA) (by decide +kernel)) (va_Nw.use rfl (hz.1.2.2.2.1 _ castA)) hce hcv hcl ?_
      refine lv_astore (lv' := (6, .ref q9) :: [(0, .ref (B 5)), (1, .int (iI x)), (2, .int (iI y)), (3, .int (iI v)), (4, .int (iI t)), (5, .ref o)]) F.1 F.2.1 dL_setTone_21 hl (by decide) rfl (fun ls hl => ?_)
      refine k_iconst F dL_setTone_23 ?_
      exact W.iret F.1 F.2.1 hr (fun t9 ht _ => ⟨⟨_, f, rfl, ⟨by rw [hk3], fun h9 => absurd (hk3.symm.trans h9) (by decide)⟩, by rw [ht, hk3]; exact hP, by rw [hk3]; exact hD⟩, hS.F ht⟩) hS.2.2 dL_setTone_24 hlocks
    · skip
      rw [hk3] at hcl
      have hcl : sS.vm.findClass nmS = some ce.cls := hcl
      refine vx_catch (own := RL) (name := nmS) F.2.2.2.1 [⟨0, 14, 17, 21⟩, ⟨0, 14, 21, 13⟩] ⟨0, 14, 25, 15⟩ [] (htab.trans rfl) (List.forall_mem_cons.mpr ⟨Or.inr ⟨by decide, nmI, k_cond F (w := .classLink RL 21 nmI) (by decide +kernel), hz.2.2.2⟩, (List.forall_mem_cons.mpr ⟨Or.inr ⟨by decide, nmA, k_cond F (w := .classLink RL 13 nmA) (by decide +kernel), hz.2.1⟩, (fun _ h9 => nomatch h9)⟩)⟩) (by decide) (by decide) (k_cond F (w := .classLink RL 15 nmS) (by decide +kernel)) (va_Nw.use rfl (hz.1.2.2.2.1 _ castS)) hce hcv hcl ?_
      refine lv_astore (lv' := (6, .ref q9) :: [(0, .ref (B 5)), (1, .int (iI x)), (2, .int (iI y)), (3, .int (iI v)), (4, .int (iI t)), (5, .ref o)]) F.1 F.2.1 dL_setTone_25 hl (by decide) rfl (fun ls hl => ?_)
      refine k_iconst F dL_setTone_27 ?_
      exact W.iret F.1 F.2.1 hr (fun t9 ht _ => ⟨⟨_, f, rfl, ⟨by rw [hk3], fun h9 => absurd (hk3.symm.trans h9) (by decide)⟩, by rw [ht, hk3]; exact hP, by rw [hk3]; exact hD⟩, hS.F ht⟩) hS.2.2 dL_setTone_28 hlocks
  · skip
    refine lv_i2l F.1 F.2.1 dL_setTone_12 rfl ?_
    refine va_last F.1 F.2.1 hK hP hD hS 0 2 rfl rfl (iI_in (k := 0) rfl (by decide) (by decide)) dL_setTone_13 (fun H locs hP hD hS => ?_)
    refine lv_goto (tgt := 29) F.1 F.2.1 dL_setTone_14 (by decide) ?_
    refine k_iconst F dL_setTone_29 ?_
    exact W.iret F.1 F.2.1 hr (fun t9 ht _ => ⟨⟨_, (vp_updL f (iI 0).toNatClampNeg (iI (σ 7 x.toNat (4 * y.toNat + v.toNat))).toInt64), rfl, ⟨by rw [hk], fun _ => by rfl⟩, by rw [ht, hk]; exact hP, by rw [hk]; exact hD⟩, hS.F ht⟩) hS.2.2 dL_setTone_30 hlocks

set_option maxHeartbeats 4000000 in
set_option maxRecDepth 100000 in
theorem mL_faultsAt (l : Launch) (hfl : l.stackTraces = false) (G : gT) (z0 sz0 o : Nat) (f : Nat → Int64) (B : Nat → Nat) (P : Nat → Nat → Nat) (σ : Sg) (x y : Int) (hx : -2147483648 ≤ x ∧ x < 2147483648) (hy : -2147483648 ≤ y ∧ y < 2147483648) {n k N : Nat} (hI : Iv σ n k N) : Met l yL_faultsAt wsL_faultsAt { frames := 8, cells := 6, slots := 36, locals := 155 } (va_Pc [.ref (B 5), .int (iI x), .int (iI y), .ref o] (lB G (oC G o f ++ CW G B P σ k) z0 sz0)) (va_Qi (fun (r : Int32) (u : Nat → Int64) => r = iI (kFat σ x y) ∧ (kFat σ x y = 0 → u 0 = (iI (mvf (σ 7 x.toNat) y.toNat)).toInt64)) (fun u t9 => gP G (oC G o u ++ CW G B P σ k) t9.heap ∧ va_D (va_A (oC G o f ++ CW G B P σ k) sz0) (oC G o u ++ CW G B P σ k)) (va_A (oC G o f ++ CW G B P σ k) sz0)) 6 36 (va_A (oC G o f ++ CW G B P σ k) sz0) := by
  refine l_start (own := RL) (cc := cL_faultsAt) (mL := 5) (ret := (some .int)) (hh := [(0, 10, 13, 21)]) (Qc := fun AA => va_Qi (fun (r : Int32) (u : Nat → Int64) => r = iI (kFat σ x y) ∧ (kFat σ x y = 0 → u 0 = (iI (mvf (σ 7 x.toNat) y.toNat)).toInt64)) (fun u t9 => gP G (oC G o u ++ CW G B P σ k) t9.heap ∧ va_D AA (oC G o u ++ CW G B P σ k)) AA) (by decide) rfl rfl (Nat.le_of_ble_eq_true rfl) ?_
  intro pP eE sS mM args bB meth cC ls AA F hr hlocks htab hz hK hP hD hA hl
  have hS : sF sS sS.heap [] := va_S.rf
  have hl : lv_has ls 5 [(0, .ref (B 5)), (1, .int (iI x)), (2, .int (iI y)), (3, .ref o)] := hl
  refine lv_aload_n F.1 F.2.1 dL_faultsAt_0 rfl (lv_at hl 3 rfl) ?_
  refine k_iconst F dL_faultsAt_1 ?_
  refine lv_aload_n F.1 F.2.1 dL_faultsAt_2 rfl (lv_at hl 0 rfl) ?_
  refine lv_iload_n F.1 F.2.1 dL_faultsAt_3 rfl (lv_at hl 1 rfl) ?_
  refine lv_iload_n F.1 F.2.1 dL_faultsAt_4 rfl (lv_at hl 2 rfl) ?_
  refine l_callW F (n := 2) (w := CW G B P σ k) (wr := oC G o f) (W2 := (fun _ : Unit => CW G B P σ k)) (asW (mX2_faultsAt l hfl G z0 B P σ x y hx hy hI)) gL_faultsAt_X2_faultsAt rfl rfl rfl (by decide +kernel) ⟨Nat.le_of_ble_eq_true rfl, Nat.le_of_ble_eq_true rfl⟩ hK hP hD hz.1 hS hA (ci := 2) (q0 := 5) rfl rfl rfl rfl hl.1 (Nat.le_of_ble_eq_true rfl) dL_faultsAt_5 ⟨Nat.le_of_ble_eq_true rfl, Nat.le_of_ble_eq_true rfl⟩ (fun hk ce q9 H locs hP hS hce hcv hcl => ?_) (fun hk _ H locs hP hD hS => ?_)
  · skip
    have hk3 : kFat σ x y = 1 := by
      unfold kFat at hk ⊢
      (repeat' split) <;> simp_all
    rw [hk3] at hcl
    have hcl : sS.vm.findClass nmI = some ce.cls := hcl
    refine vx_catch (own := RL) (name := nmI) F.2.2.2.1 [] ⟨0, 10, 13, 21⟩ [] (htab.trans rfl) (fun _ h9 => nomatch h9) (by decide) (by decide) (k_cond F (w := .classLink RL 21 nmI) (by decide +kernel)) (va_Nw.use rfl (hz.1.2.2.2.1 _ castI)) hce hcv hcl ?_
    refine lv_astore (lv' := (4, .ref q9) :: [(0, .ref (B 5)), (1, .int (iI x)), (2, .int (iI y)), (3, .ref o)]) F.1 F.2.1 dL_faultsAt_13 hl (by decide) rfl (fun ls hl => ?_)
    refine k_iconst F dL_faultsAt_15 ?_
    exact W.iret F.1 F.2.1 hr (fun t9 ht _ => ⟨⟨_, f, rfl, ⟨by rw [hk3], fun h9 => absurd (hk3.symm.trans h9) (by decide)⟩, by rw [ht]; exact hP, hD⟩, hS.F ht⟩) hS.2.2 dL_faultsAt_16 hlocks
  · skip
    refine lv_i2l F.1 F.2.1 dL_faultsAt_8 rfl ?_
    refine va_last F.1 F.2.1 hK hP hD hS 0 2 rfl rfl (iI_in (k := 0) rfl (by decide) (by decide)) dL_faultsAt_9 (fun H locs hP hD hS => ?_)
    refine lv_goto (tgt := 17) F.1 F.2.1 dL_faultsAt_10 (by decide) ?_
    refine k_iconst F dL_faultsAt_17 ?_
    exact W.iret F.1 F.2.1 hr (fun t9 ht _ => ⟨⟨_, (vp_updL f (iI 0).toNatClampNeg (iI (mvf (σ 7 x.toNat) y.toNat)).toInt64), rfl, ⟨by rw [hk], fun _ => by rfl⟩, by rw [ht]; exact hP, hD⟩, hS.F ht⟩) hS.2.2 dL_faultsAt_18 hlocks

set_option maxHeartbeats 4000000 in
set_option maxRecDepth 100000 in
theorem mL_faults (l : Launch) (hfl : l.stackTraces = false) (G : gT) (z0 sz0 o : Nat) (f : Nat → Int64) (B : Nat → Nat) (P : Nat → Nat → Nat) (σ : Sg) (x : Int) (hx : -2147483648 ≤ x ∧ x < 2147483648) {n k N : Nat} (hI : Iv σ n k N) : Met l yL_faults wsL_faults { frames := 8, cells := 6, slots := 36, locals := 153 } (va_Pc [.ref (B 5), .int (iI x), .ref o] (lB G (oC G o f ++ CW G B P σ k) z0 sz0)) (va_Qi (fun (r : Int32) (u : Nat → Int64) => r = iI (kPic σ x) ∧ (kPic σ x = 0 → u 0 = (iI (alf (σ 7 x.toNat) (σ 8 x.toNat 0))).toInt64)) (fun u t9 => gP G (oC G o u ++ CW G B P σ k) t9.heap ∧ va_D (va_A (oC G o f ++ CW G B P σ k) sz0) (oC G o u ++ CW G B P σ k)) (va_A (oC G o f ++ CW G B P σ k) sz0)) 6 36 (va_A (oC G o f ++ CW G B P σ k) sz0) := by
  refine l_start (own := RL) (cc := cL_faults) (mL := 4) (ret := (some .int)) (hh := [(0, 9, 12, 21)]) (Qc := fun AA => va_Qi (fun (r : Int32) (u : Nat → Int64) => r = iI (kPic σ x) ∧ (kPic σ x = 0 → u 0 = (iI (alf (σ 7 x.toNat) (σ 8 x.toNat 0))).toInt64)) (fun u t9 => gP G (oC G o u ++ CW G B P σ k) t9.heap ∧ va_D AA (oC G o u ++ CW G B P σ k)) AA) (by decide) rfl rfl (Nat.le_of_ble_eq_true rfl) ?_
  intro pP eE sS mM args bB meth cC ls AA F hr hlocks htab hz hK hP hD hA hl
  have hS : sF sS sS.heap [] := va_S.rf
  have hl : lv_has ls 4 [(0, .ref (B 5)), (1, .int (iI x)), (2, .ref o)] := hl
  refine lv_aload_n F.1 F.2.1 dL_faults_0 rfl (lv_at hl 2 rfl) ?_
  refine k_iconst F dL_faults_1 ?_
  refine lv_aload_n F.1 F.2.1 dL_faults_2 rfl (lv_at hl 0 rfl) ?_
  refine lv_iload_n F.1 F.2.1 dL_faults_3 rfl (lv_at hl 1 rfl) ?_
  refine l_callW F (n := 1) (w := CW G B P σ k) (wr := oC G o f) (W2 := (fun _ : Unit => CW G B P σ k)) (asW (mX2_faults l hfl G z0 B P σ x hx hI)) gL_faults_X2_faults rfl rfl rfl (by decide +kernel) ⟨Nat.le_of_ble_eq_true rfl, Nat.le_of_ble_eq_true rfl⟩ hK hP hD hz.1 hS hA (ci := 2) (q0 := 5) rfl rfl rfl rfl hl.1 (Nat.le_of_ble_eq_true rfl) dL_faults_4 ⟨Nat.le_of_ble_eq_true rfl, Nat.le_of_ble_eq_true rfl⟩ (fun hk ce q9 H locs hP hS hce hcv hcl => ?_) (fun hk _ H locs hP hD hS => ?_)
  · skip
    have hk3 : kPic σ x = 1 := by
      unfold kPic at hk ⊢
      (repeat' split) <;> simp_all
    rw [hk3] at hcl
    have hcl : sS.vm.findClass nmI = some ce.cls := hcl
    refine vx_catch (own := RL) (name := nmI) F.2.2.2.1 [] ⟨0, 9, 12, 21⟩ [] (htab.trans rfl) (fun _ h9 => nomatch h9) (by decide) (by decide) (k_cond F (w := .classLink RL 21 nmI) (by decide +kernel)) (va_Nw.use rfl (hz.1.2.2.2.1 _ castI)) hce hcv hcl ?_
    refine lv_astore_n (lv' := (3, .ref q9) :: [(0, .ref (B 5)), (1, .int (iI x)), (2, .ref o)]) F.1 F.2.1 dL_faults_12 rfl hl (by decide) rfl (fun ls hl => ?_)
    refine k_iconst F dL_faults_13 ?_
    exact W.iret F.1 F.2.1 hr (fun t9 ht _ => ⟨⟨_, f, rfl, ⟨by rw [hk3], fun h9 => absurd (hk3.symm.trans h9) (by decide)⟩, by rw [ht]; exact hP, hD⟩, hS.F ht⟩) hS.2.2 dL_faults_14 hlocks
  · skip
    refine lv_i2l F.1 F.2.1 dL_faults_7 rfl ?_
    refine va_last F.1 F.2.1 hK hP hD hS 0 2 rfl rfl (iI_in (k := 0) rfl (by decide) (by decide)) dL_faults_8 (fun H locs hP hD hS => ?_)
    refine lv_goto (tgt := 15) F.1 F.2.1 dL_faults_9 (by decide) ?_
    refine k_iconst F dL_faults_15 ?_
    exact W.iret F.1 F.2.1 hr (fun t9 ht _ => ⟨⟨_, (vp_updL f (iI 0).toNatClampNeg (iI (alf (σ 7 x.toNat) (σ 8 x.toNat 0))).toInt64), rfl, ⟨by rw [hk], fun _ => by rfl⟩, by rw [ht]; exact hP, hD⟩, hS.F ht⟩) hS.2.2 dL_faults_16 hlocks

set_option maxHeartbeats 4000000 in
set_option maxRecDepth 100000 in
theorem mL_leastFaults (l : Launch) (hfl : l.stackTraces = false) (G : gT) (z0 sz0 o : Nat) (f : Nat → Int64) (B : Nat → Nat) (P : Nat → Nat → Nat) (σ : Sg) (x y v : Int) (hx : -2147483648 ≤ x ∧ x < 2147483648) (hy : -2147483648 ≤ y ∧ y < 2147483648) (hv : -2147483648 ≤ v ∧ v < 2147483648) {n k N : Nat} (hI : Iv σ n k N) : Met l yL_leastFaults wsL_leastFaults { frames := 8, cells := 6, slots := 36, locals := 165 } (va_Pc [.ref (B 5), .int (iI x), .int (iI y), .int (iI v), .ref o] (lB G (oC G o f ++ CW G B P σ k) z0 sz0)) (va_Qi (fun (r : Int32) (u : Nat → Int64) => r = iI (kLst σ x y v) ∧ (kLst σ x y v = 0 → u 0 = (iI (lft (σ 7 x.toNat) y.toNat v.toNat (σ 8 x.toNat 0))).toInt64)) (fun u t9 => gP G (oC G o u ++ CW G B P σ k) t9.heap ∧ va_D (va_A (oC G o f ++ CW G B P σ k) sz0) (oC G o u ++ CW G B P σ k)) (va_A (oC G o f ++ CW G B P σ k) sz0)) 6 36 (va_A (oC G o f ++ CW G B P σ k) sz0) := by
  refine l_start (own := RL) (cc := cL_leastFaults) (mL := 6) (ret := (some .int)) (hh := [(0, 12, 15, 21), (0, 12, 19, 13)]) (Qc := fun AA => va_Qi (fun (r : Int32) (u : Nat → Int64) => r = iI (kLst σ x y v) ∧ (kLst σ x y v = 0 → u 0 = (iI (lft (σ 7 x.toNat) y.toNat v.toNat (σ 8 x.toNat 0))).toInt64)) (fun u t9 => gP G (oC G o u ++ CW G B P σ k) t9.heap ∧ va_D AA (oC G o u ++ CW G B P σ k)) AA) (by decide) rfl rfl (Nat.le_of_ble_eq_true rfl) ?_
  intro pP eE sS mM args bB meth cC ls AA F hr hlocks htab hz hK hP hD hA hl
  have hS : sF sS sS.heap [] := va_S.rf
  have hl : lv_has ls 6 [(0, .ref (B 5)), (1, .int (iI x)), (2, .int (iI y)), (3, .int (iI v)), (4, .ref o)] := hl
  refine lv_aload F.1 F.2.1 dL_leastFaults_0 (lv_at hl 4 rfl) ?_
  refine k_iconst F dL_leastFaults_2 ?_
  refine lv_aload_n F.1 F.2.1 dL_leastFaults_3 rfl (lv_at hl 0 rfl) ?_
  refine lv_iload_n F.1 F.2.1 dL_leastFaults_4 rfl (lv_at hl 1 rfl) ?_
  refine lv_iload_n F.1 F.2.1 dL_leastFaults_5 rfl (lv_at hl 2 rfl) ?_
  refine lv_iload_n F.1 F.2.1 dL_leastFaults_6 rfl (lv_at hl 3 rfl) ?_
  refine l_callW F (n := 3) (w := CW G B P σ k) (wr := oC G o f) (W2 := (fun _ : Unit => CW G B P (σ) k)) (asY (CW_adr _ _ _) (mX2_leastFaults l hfl G z0 _ B P σ x y v hx hy hv hI)) gL_leastFaults_X2_leastFaults rfl rfl rfl (by decide +kernel) ⟨Nat.le_of_ble_eq_true rfl, Nat.le_of_ble_eq_true rfl⟩ hK hP hD hz.1 hS hA (ci := 2) (q0 := 5) rfl rfl rfl rfl hl.1 (Nat.le_of_ble_eq_true rfl) dL_leastFaults_7 ⟨Nat.le_of_ble_eq_true rfl, Nat.le_of_ble_eq_true rfl⟩ (fun hk ce q9 H locs hP hS hce hcv hcl => ?_) (fun hk _ H locs hP hD hS => ?_)
  · skip
    have hk3 : kLst σ x y v = 1 ∨ kLst σ x y v = 2 := by
      unfold kLst at hk ⊢
      (repeat' split) <;> simp_all
    rcases hk3 with hk3 | hk3
    · skip
      rw [hk3] at hcl
      have hcl : sS.vm.findClass nmI = some ce.cls := hcl
      refine vx_catch (own := RL) (name := nmI) F.2.2.2.1 [] ⟨0, 12, 15, 21⟩ [⟨0, 12, 19, 13⟩] (htab.trans rfl) (fun _ h9 => nomatch h9) (by decide) (by decide) (k_cond F (w := .classLink RL 21 nmI) (by decide +kernel)) (va_Nw.use rfl (hz.1.2.2.2.1 _ castI)) hce hcv hcl ?_
      refine lv_astore (lv' := (5, .ref q9) :: [(0, .ref (B 5)), (1, .int (iI x)), (2, .int (iI y)), (3, .int (iI v)), (4, .ref o)]) F.1 F.2.1 dL_leastFaults_15 hl (by decide) rfl (fun ls hl => ?_)
      refine k_iconst F dL_leastFaults_17 ?_
      exact W.iret F.1 F.2.1 hr (fun t9 ht _ => ⟨⟨_, f, rfl, ⟨by rw [hk3], fun h9 => absurd (hk3.symm.trans h9) (by decide)⟩, by rw [ht]; exact hP, hD⟩, hS.F ht⟩) hS.2.2 dL_leastFaults_18 hlocks
    · skip
      rw [hk3] at hcl
      have hcl : sS.vm.findClass nmA = some ce.cls := hcl
      refine vx_catch (own := RL) (name := nmA) F.2.2.2.1 [⟨0, 12, 15, 21⟩] ⟨0, 12, 19, 13⟩ [] (htab.trans rfl) (List.forall_mem_cons.mpr ⟨Or.inr ⟨by decide, nmI, k_cond F (w := .classLink RL 21 nmI) (by decide +kernel), hz.2.2.1⟩, (fun _ h9 => nomatch h9)⟩) (by decide) (by decide) (k_cond F (w := .classLink RL 13 nmA) (by decide +kernel)) (va_Nw.use rfl (hz.1.2.2.2.1 _ castA)) hce hcv hcl ?_
      refine lv_astore (lv' := (5, .ref q9) :: [(0, .ref (B 5)), (1, .int (iI x)), (2, .int (iI y)), (3, .int (iI v)), (4, .ref o)]) F.1 F.2.1 dL_leastFaults_19 hl (by decide) rfl (fun ls hl => ?_)
      refine k_iconst F dL_leastFaults_21 ?_
      exact W.iret F.1 F.2.1 hr (fun t9 ht _ => ⟨⟨_, f, rfl, ⟨by rw [hk3], fun h9 => absurd (hk3.symm.trans h9) (by decide)⟩, by rw [ht]; exact hP, hD⟩, hS.F ht⟩) hS.2.2 dL_leastFaults_22 hlocks
  · skip
    refine lv_i2l F.1 F.2.1 dL_leastFaults_10 rfl ?_
    refine va_last F.1 F.2.1 hK hP hD hS 0 2 rfl rfl (iI_in (k := 0) rfl (by decide) (by decide)) dL_leastFaults_11 (fun H locs hP hD hS => ?_)
    refine lv_goto (tgt := 23) F.1 F.2.1 dL_leastFaults_12 (by decide) ?_
    refine k_iconst F dL_leastFaults_23 ?_
    exact W.iret F.1 F.2.1 hr (fun t9 ht _ => ⟨⟨_, (vp_updL f (iI 0).toNatClampNeg (iI (lft (σ 7 x.toNat) y.toNat v.toNat (σ 8 x.toNat 0))).toInt64), rfl, ⟨by rw [hk], fun _ => by rfl⟩, by rw [ht]; exact hP, hD⟩, hS.F ht⟩) hS.2.2 dL_leastFaults_24 hlocks

set_option maxHeartbeats 4000000 in
set_option maxRecDepth 100000 in
theorem mL_shift (l : Launch) (hfl : l.stackTraces = false) (G : gT) (z0 sz0 o : Nat) (f : Nat → Int64) (B : Nat → Nat) (P : Nat → Nat → Nat) (σ : Sg) (x d : Int) (hx : -2147483648 ≤ x ∧ x < 2147483648) (hd : -2147483648 ≤ d ∧ d < 2147483648) {n k N : Nat} (hI : Iv σ n k N) : Met l yL_shift wsL_shift { frames := 8, cells := 6, slots := 36, locals := 156 } (va_Pc [.ref (B 5), .int (iI x), .int (iI d), .ref o] (lB G (oC G o f ++ CW G B P σ k) z0 sz0)) (va_Qi (fun (r : Int32) (u : Nat → Int64) => r = iI (kShf σ n x d) ∧ (kShf σ n x d = 0 → u 0 = (iI (shS σ x.toNat n d 13)).toInt64)) (fun u t9 => gP G (oC G o u ++ CW G B P σ k) t9.heap ∧ va_D (va_A (oC G o f ++ CW G B P σ k) sz0) (oC G o u ++ CW G B P σ k)) (va_A (oC G o f ++ CW G B P σ k) sz0)) 6 36 (va_A (oC G o f ++ CW G B P σ k) sz0) := by
  refine l_start (own := RL) (cc := cL_shift) (mL := 5) (ret := (some .int)) (hh := [(0, 10, 13, 21), (0, 10, 17, 13), (0, 10, 21, 15)]) (Qc := fun AA => va_Qi (fun (r : Int32) (u : Nat → Int64) => r = iI (kShf σ n x d) ∧ (kShf σ n x d = 0 → u 0 = (iI (shS σ x.toNat n d 13)).toInt64)) (fun u t9 => gP G (oC G o u ++ CW G B P σ k) t9.heap ∧ va_D AA (oC G o u ++ CW G B P σ k)) AA) (by decide) rfl rfl (Nat.le_of_ble_eq_true rfl) ?_
  intro pP eE sS mM args bB meth cC ls AA F hr hlocks htab hz hK hP hD hA hl
  have hS : sF sS sS.heap [] := va_S.rf
  have hl : lv_has ls 5 [(0, .ref (B 5)), (1, .int (iI x)), (2, .int (iI d)), (3, .ref o)] := hl
  refine lv_aload_n F.1 F.2.1 dL_shift_0 rfl (lv_at hl 3 rfl) ?_
  refine k_iconst F dL_shift_1 ?_
  refine lv_aload_n F.1 F.2.1 dL_shift_2 rfl (lv_at hl 0 rfl) ?_
  refine lv_iload_n F.1 F.2.1 dL_shift_3 rfl (lv_at hl 1 rfl) ?_
  refine lv_iload_n F.1 F.2.1 dL_shift_4 rfl (lv_at hl 2 rfl) ?_
  refine l_callW F (n := 2) (w := CW G B P σ k) (wr := oC G o f) (W2 := (fun _ : Unit => CW G B P σ k)) (asW (mX2_shift l hfl G z0 B P σ x d hx hd hI)) gL_shift_X2_shift rfl rfl rfl (by decide +kernel) ⟨Nat.le_of_ble_eq_true rfl, Nat.le_of_ble_eq_true rfl⟩ hK hP hD hz.1 hS hA (ci := 2) (q0 := 5) rfl rfl rfl rfl hl.1 (Nat.le_of_ble_eq_true rfl) dL_shift_5 ⟨Nat.le_of_ble_eq_true rfl, Nat.le_of_ble_eq_true rfl⟩ (fun hk ce q9 H locs hP hS hce hcv hcl => ?_) (fun hk _ H locs hP hD hS => ?_)
  · skip
    have hk3 : kShf σ n x d = 1 ∨ kShf σ n x d = 2 ∨ kShf σ n x d = 3 := by
      unfold kShf at hk ⊢
      (repeat' split) <;> simp_all
    rcases hk3 with hk3 | hk3 | hk3
    · skip
      rw [hk3] at hcl
      have hcl : sS.vm.findClass nmI = some ce.cls := hcl
      refine vx_catch (own := RL) (name := nmI) F.2.2.2.1 [] ⟨0, 10, 13, 21⟩ [⟨0, 10, 17, 13⟩, ⟨0, 10, 21, 15⟩] (htab.trans rfl) (fun _ h9 => nomatch h9) (by decide) (by decide) (k_cond F (w := .classLink RL 21 nmI) (by decide +kernel)) (va_Nw.use rfl (hz.1.2.2.2.1 _ castI)) hce hcv hcl ?_
      refine lv_astore (lv' := (4, .ref q9) :: [(0, .ref (B 5)), (1, .int (iI x)), (2, .int (iI d)), (3, .ref o)]) F.1 F.2.1 dL_shift_13 hl (by decide) rfl (fun ls hl => ?_)
      refine k_iconst F dL_shift_15 ?_
      exact W.iret F.1 F.2.1 hr (fun t9 ht _ => ⟨⟨_, f, rfl, ⟨by rw [hk3], fun h9 => absurd (hk3.symm.trans h9) (by decide)⟩, by rw [ht]; exact hP, hD⟩, hS.F ht⟩) hS.2.2 dL_shift_16 hlocks
    · skip
      rw [hk3] at hcl
      have hcl : sS.vm.findClass nmA = some ce.cls := hcl
      refine vx_catch (own := RL) (name := nmA) F.2.2.2.1 [⟨0, 10, 13, 21⟩] ⟨0, 10, 17, 13⟩ [⟨0, 10, 21, 15⟩] (htab.trans rfl) (List.forall_mem_cons.mpr ⟨Or.inr ⟨by decide, nmI, k_cond F (w := .classLink RL 21 nmI) (by decide +kernel), hz.2.2.1⟩, (fun _ h9 => nomatch h9)⟩) (by decide) (by decide) (k_cond F (w := .classLink RL 13 nmA) (by decide +kernel)) (va_Nw.use rfl (hz.1.2.2.2.1 _ castA)) hce hcv hcl ?_
      refine lv_astore (lv' := (4, .ref q9) :: [(0, .ref (B 5)), (1, .int (iI x)), (2, .int (iI d)), (3, .ref o)]) F.1 F.2.1 dL_shift_17 hl (by decide) rfl (fun ls hl => ?_)
      refine k_iconst F dL_shift_19 ?_
      exact W.iret F.1 F.2.1 hr (fun t9 ht _ => ⟨⟨_, f, rfl, ⟨by rw [hk3], fun h9 => absurd (hk3.symm.trans h9) (by decide)⟩, by rw [ht]; exact hP, hD⟩, hS.F ht⟩) hS.2.2 dL_shift_20 hlocks
    · skip
      rw [hk3] at hcl
      have hcl : sS.vm.findClass nmS = some ce.cls := hcl
      refine vx_catch (own := RL) (name := nmS) F.2.2.2.1 [⟨0, 10, 13, 21⟩, ⟨0, 10, 17, 13⟩] ⟨0, 10, 21, 15⟩ [] (htab.trans rfl) (List.forall_mem_cons.mpr ⟨Or.inr ⟨by decide, nmI, k_cond F (w := .classLink RL 21 nmI) (by decide +kernel), hz.2.2.2⟩, (List.forall_mem_cons.mpr ⟨Or.inr ⟨by decide, nmA, k_cond F (w := .classLink RL 13 nmA) (by decide +kernel), hz.2.1⟩, (fun _ h9 => nomatch h9)⟩)⟩) (by decide) (by decide) (k_cond F (w := .classLink RL 15 nmS) (by decide +kernel)) (va_Nw.use rfl (hz.1.2.2.2.1 _ castS)) hce hcv hcl ?_
      refine lv_astore (lv' := (4, .ref q9) :: [(0, .ref (B 5)), (1, .int (iI x)), (2, .int (iI d)), (3, .ref o)]) F.1 F.2.1 dL_shift_21 hl (by decide) rfl (fun ls hl => ?_)
      refine k_iconst F dL_shift_23 ?_
      exact W.iret F.1 F.2.1 hr (fun t9 ht _ => ⟨⟨_, f, rfl, ⟨by rw [hk3], fun h9 => absurd (hk3.symm.trans h9) (by decide)⟩, by rw [ht]; exact hP, hD⟩, hS.F ht⟩) hS.2.2 dL_shift_24 hlocks
  · skip
    refine lv_i2l F.1 F.2.1 dL_shift_8 rfl ?_
    refine va_last F.1 F.2.1 hK hP hD hS 0 2 rfl rfl (iI_in (k := 0) rfl (by decide) (by decide)) dL_shift_9 (fun H locs hP hD hS => ?_)
    refine lv_goto (tgt := 25) F.1 F.2.1 dL_shift_10 (by decide) ?_
    refine k_iconst F dL_shift_25 ?_
    exact W.iret F.1 F.2.1 hr (fun t9 ht _ => ⟨⟨_, (vp_updL f (iI 0).toNatClampNeg (iI (shS σ x.toNat n d 13)).toInt64), rfl, ⟨by rw [hk], fun _ => by rfl⟩, by rw [ht]; exact hP, hD⟩, hS.F ht⟩) hS.2.2 dL_shift_26 hlocks

set_option maxHeartbeats 4000000 in
set_option maxRecDepth 100000 in
theorem mL_dates (l : Launch) (hfl : l.stackTraces = false) (G : gT) (z0 sz0 o : Nat) (f : Nat → Int64) (B : Nat → Nat) (P : Nat → Nat → Nat) (σ : Sg) (x : Int) (hx : -2147483648 ≤ x ∧ x < 2147483648) {n k N : Nat} (hI : Iv σ n k N) : Met l yL_dates wsL_dates { frames := 8, cells := 6, slots := 36, locals := 156 } (va_Pc [.ref (B 5), .int (iI x), .ref o] (lB G (oC G o f ++ CW G B P σ k) z0 sz0)) (va_Qi (fun (r : Int32) (u : Nat → Int64) => r = iI (kPic σ x) ∧ (kPic σ x = 0 → u 0 = (iI (dtS σ x.toNat n 31)).toInt64)) (fun u t9 => gP G (oC G o u ++ CW G B P σ k) t9.heap ∧ va_D (va_A (oC G o f ++ CW G B P σ k) sz0) (oC G o u ++ CW G B P σ k)) (va_A (oC G o f ++ CW G B P σ k) sz0)) 6 36 (va_A (oC G o f ++ CW G B P σ k) sz0) := by
  refine l_start (own := RL) (cc := cL_dates) (mL := 4) (ret := (some .int)) (hh := [(0, 9, 12, 21)]) (Qc := fun AA => va_Qi (fun (r : Int32) (u : Nat → Int64) => r = iI (kPic σ x) ∧ (kPic σ x = 0 → u 0 = (iI (dtS σ x.toNat n 31)).toInt64)) (fun u t9 => gP G (oC G o u ++ CW G B P σ k) t9.heap ∧ va_D AA (oC G o u ++ CW G B P σ k)) AA) (by decide) rfl rfl (Nat.le_of_ble_eq_true rfl) ?_
  intro pP eE sS mM args bB meth cC ls AA F hr hlocks htab hz hK hP hD hA hl
  have hS : sF sS sS.heap [] := va_S.rf
  have hl : lv_has ls 4 [(0, .ref (B 5)), (1, .int (iI x)), (2, .ref o)] := hl
  refine lv_aload_n F.1 F.2.1 dL_dates_0 rfl (lv_at hl 2 rfl) ?_
  refine k_iconst F dL_dates_1 ?_
  refine lv_aload_n F.1 F.2.1 dL_dates_2 rfl (lv_at hl 0 rfl) ?_
  refine lv_iload_n F.1 F.2.1 dL_dates_3 rfl (lv_at hl 1 rfl) ?_
  refine l_callW F (n := 1) (w := CW G B P σ k) (wr := oC G o f) (W2 := (fun _ : Unit => CW G B P σ k)) (asW (mX2_dates l hfl G z0 B P σ x hx hI)) gL_dates_X2_dates rfl rfl rfl (by decide +kernel) ⟨Nat.le_of_ble_eq_true rfl, Nat.le_of_ble_eq_true rfl⟩ hK hP hD hz.1 hS hA (ci := 2) (q0 := 5) rfl rfl rfl rfl hl.1 (Nat.le_of_ble_eq_true rfl) dL_dates_4 ⟨Nat.le_of_ble_eq_true rfl, Nat.le_of_ble_eq_true rfl⟩ (fun hk ce q9 H locs hP hS hce hcv hcl => ?_) (fun hk _ H locs hP hD hS => ?_)
  · skip
    have hk3 : kPic σ x = 1 := by
      unfold kPic at hk ⊢
      (repeat' split) <;> simp_all
    rw [hk3] at hcl
    have hcl : sS.vm.findClass nmI = some ce.cls := hcl
    refine vx_catch (own := RL) (name := nmI) F.2.2.2.1 [] ⟨0, 9, 12, 21⟩ [] (htab.trans rfl) (fun _ h9 => nomatch h9) (by decide) (by decide) (k_cond F (w := .classLink RL 21 nmI) (by decide +kernel)) (va_Nw.use rfl (hz.1.2.2.2.1 _ castI)) hce hcv hcl ?_
    refine lv_astore_n (lv' := (3, .ref q9) :: [(0, .ref (B 5)), (1, .int (iI x)), (2, .ref o)]) F.1 F.2.1 dL_dates_12 rfl hl (by decide) rfl (fun ls hl => ?_)
    refine k_iconst F dL_dates_13 ?_
    exact W.iret F.1 F.2.1 hr (fun t9 ht _ => ⟨⟨_, f, rfl, ⟨by rw [hk3], fun h9 => absurd (hk3.symm.trans h9) (by decide)⟩, by rw [ht]; exact hP, hD⟩, hS.F ht⟩) hS.2.2 dL_dates_14 hlocks
  · skip
    refine lv_i2l F.1 F.2.1 dL_dates_7 rfl ?_
    refine va_last F.1 F.2.1 hK hP hD hS 0 2 rfl rfl (iI_in (k := 0) rfl (by decide) (by decide)) dL_dates_8 (fun H locs hP hD hS => ?_)
    refine lv_goto (tgt := 15) F.1 F.2.1 dL_dates_9 (by decide) ?_
    refine k_iconst F dL_dates_15 ?_
    exact W.iret F.1 F.2.1 hr (fun t9 ht _ => ⟨⟨_, (vp_updL f (iI 0).toNatClampNeg (iI (dtS σ x.toNat n 31)).toInt64), rfl, ⟨by rw [hk], fun _ => by rfl⟩, by rw [ht]; exact hP, hD⟩, hS.F ht⟩) hS.2.2 dL_dates_16 hlocks

set_option maxHeartbeats 4000000 in
set_option maxRecDepth 100000 in
theorem mL_missed (l : Launch) (hfl : l.stackTraces = false) (G : gT) (z0 sz0 o : Nat) (f : Nat → Int64) (B : Nat → Nat) (P : Nat → Nat → Nat) (σ : Sg) (d : Int) (hd : -2147483648 ≤ d ∧ d < 2147483648) {n k N : Nat} (hI : Iv σ n k N) : Met l yL_missed wsL_missed { frames := 8, cells := 6, slots := 36, locals := 151 } (va_Pc [.ref (B 5), .int (iI d), .ref o] (lB G (oC G o f ++ CW G B P σ k) z0 sz0)) (va_Qi (fun (r : Int32) (u : Nat → Int64) => r = iI (kDat d) ∧ (kDat d = 0 → u 0 = (iI (msM σ d n n)).toInt64)) (fun u t9 => gP G (oC G o u ++ CW G B P σ k) t9.heap ∧ va_D (va_A (oC G o f ++ CW G B P σ k) sz0) (oC G o u ++ CW G B P σ k)) (va_A (oC G o f ++ CW G B P σ k) sz0)) 6 36 (va_A (oC G o f ++ CW G B P σ k) sz0) := by
  refine l_start (own := RL) (cc := cL_missed) (mL := 4) (ret := (some .int)) (hh := [(0, 9, 12, 13)]) (Qc := fun AA => va_Qi (fun (r : Int32) (u : Nat → Int64) => r = iI (kDat d) ∧ (kDat d = 0 → u 0 = (iI (msM σ d n n)).toInt64)) (fun u t9 => gP G (oC G o u ++ CW G B P σ k) t9.heap ∧ va_D AA (oC G o u ++ CW G B P σ k)) AA) (by decide) rfl rfl (Nat.le_of_ble_eq_true rfl) ?_
  intro pP eE sS mM args bB meth cC ls AA F hr hlocks htab hz hK hP hD hA hl
  have hS : sF sS sS.heap [] := va_S.rf
  have hl : lv_has ls 4 [(0, .ref (B 5)), (1, .int (iI d)), (2, .ref o)] := hl
  refine lv_aload_n F.1 F.2.1 dL_missed_0 rfl (lv_at hl 2 rfl) ?_
  refine k_iconst F dL_missed_1 ?_
  refine lv_aload_n F.1 F.2.1 dL_missed_2 rfl (lv_at hl 0 rfl) ?_
  refine lv_iload_n F.1 F.2.1 dL_missed_3 rfl (lv_at hl 1 rfl) ?_
  refine l_callW F (n := 1) (w := CW G B P σ k) (wr := oC G o f) (W2 := (fun _ : Unit => CW G B P σ k)) (asW (mX2_missed l hfl G z0 B P σ d hd hI)) gL_missed_X2_missed rfl rfl rfl (by decide +kernel) ⟨Nat.le_of_ble_eq_true rfl, Nat.le_of_ble_eq_true rfl⟩ hK hP hD hz.1 hS hA (ci := 2) (q0 := 5) rfl rfl rfl rfl hl.1 (Nat.le_of_ble_eq_true rfl) dL_missed_4 ⟨Nat.le_of_ble_eq_true rfl, Nat.le_of_ble_eq_true rfl⟩ (fun hk ce q9 H locs hP hS hce hcv hcl => ?_) (fun hk _ H locs hP hD hS => ?_)
  · skip
    have hk3 : kDat d = 1 := by
      unfold kDat at hk ⊢
      (repeat' split) <;> simp_all
    rw [hk3] at hcl
    have hcl : sS.vm.findClass nmA = some ce.cls := hcl
    refine vx_catch (own := RL) (name := nmA) F.2.2.2.1 [] ⟨0, 9, 12, 13⟩ [] (htab.trans rfl) (fun _ h9 => nomatch h9) (by decide) (by decide) (k_cond F (w := .classLink RL 13 nmA) (by decide +kernel)) (va_Nw.use rfl (hz.1.2.2.2.1 _ castA)) hce hcv hcl ?_
    refine lv_astore_n (lv' := (3, .ref q9) :: [(0, .ref (B 5)), (1, .int (iI d)), (2, .ref o)]) F.1 F.2.1 dL_missed_12 rfl hl (by decide) rfl (fun ls hl => ?_)
    refine k_iconst F dL_missed_13 ?_
    exact W.iret F.1 F.2.1 hr (fun t9 ht _ => ⟨⟨_, f, rfl, ⟨by rw [hk3], fun h9 => absurd (hk3.symm.trans h9) (by decide)⟩, by rw [ht]; exact hP, hD⟩, hS.F ht⟩) hS.2.2 dL_missed_14 hlocks
  · skip
    refine lv_i2l F.1 F.2.1 dL_missed_7 rfl ?_
    refine va_last F.1 F.2.1 hK hP hD hS 0 2 rfl rfl (iI_in (k := 0) rfl (by decide) (by decide)) dL_missed_8 (fun H locs hP hD hS => ?_)
    refine lv_goto (tgt := 15) F.1 F.2.1 dL_missed_9 (by decide) ?_
    refine k_iconst F dL_missed_15 ?_
    exact W.iret F.1 F.2.1 hr (fun t9 ht _ => ⟨⟨_, (vp_updL f (iI 0).toNatClampNeg (iI (msM σ d n n)).toInt64), rfl, ⟨by rw [hk], fun _ => by rfl⟩, by rw [ht]; exact hP, hD⟩, hS.F ht⟩) hS.2.2 dL_missed_16 hlocks

set_option maxHeartbeats 4000000 in
set_option maxRecDepth 100000 in
theorem mL_programme (l : Launch) (hfl : l.stackTraces = false) (G : gT) (z0 sz0 o : Nat) (f : Nat → Int64) (B : Nat → Nat) (P : Nat → Nat → Nat) (σ : Sg) (d x : Int) (hd : -2147483648 ≤ d ∧ d < 2147483648) (hx : -2147483648 ≤ x ∧ x < 2147483648) {n k N : Nat} (hI : Iv σ n k N) : Met l yL_programme wsL_programme { frames := 8, cells := 6, slots := 36, locals := 164 } (va_Pc [.ref (B 5), .int (iI d), .int (iI x), .ref o] (lB G (oC G o f ++ CW G B P σ k) z0 sz0)) (va_Qi (fun (r : Int32) (u : Nat → Int64) => r = iI (kPrg d x) ∧ (kPrg d x = 0 → u 0 = (iI (((prg σ n k d x : Nat) : Int))).toInt64)) (fun u t9 => gP G (oC G o u ++ CW G B P σ k) t9.heap ∧ va_D (va_A (oC G o f ++ CW G B P σ k) sz0) (oC G o u ++ CW G B P σ k)) (va_A (oC G o f ++ CW G B P σ k) sz0)) 6 36 (va_A (oC G o f ++ CW G B P σ k) sz0) := by
  refine l_start (own := RL) (cc := cL_programme) (mL := 5) (ret := (some .int)) (hh := [(0, 10, 13, 13)]) (Qc := fun AA => va_Qi (fun (r : Int32) (u : Nat → Int64) => r = iI (kPrg d x) ∧ (kPrg d x = 0 → u 0 = (iI (((prg σ n k d x : Nat) : Int))).toInt64)) (fun u t9 => gP G (oC G o u ++ CW G B P σ k) t9.heap ∧ va_D AA (oC G o u ++ CW G B P σ k)) AA) (by decide) rfl rfl (Nat.le_of_ble_eq_true rfl) ?_
  intro pP eE sS mM args bB meth cC ls AA F hr hlocks htab hz hK hP hD hA hl
  have hS : sF sS sS.heap [] := va_S.rf
  have hl : lv_has ls 5 [(0, .ref (B 5)), (1, .int (iI d)), (2, .int (iI x)), (3, .ref o)] := hl
  refine lv_aload_n F.1 F.2.1 dL_programme_0 rfl (lv_at hl 3 rfl) ?_
  refine k_iconst F dL_programme_1 ?_
  refine lv_aload_n F.1 F.2.1 dL_programme_2 rfl (lv_at hl 0 rfl) ?_
  refine lv_iload_n F.1 F.2.1 dL_programme_3 rfl (lv_at hl 1 rfl) ?_
  refine lv_iload_n F.1 F.2.1 dL_programme_4 rfl (lv_at hl 2 rfl) ?_
  refine l_callW F (n := 2) (w := CW G B P σ k) (wr := oC G o f) (W2 := (fun _ : Unit => CW G B P σ k)) (asW (mX2_programme l hfl G z0 B P σ d x hd hx hI)) gL_programme_X2_programme rfl rfl rfl (by decide +kernel) ⟨Nat.le_of_ble_eq_true rfl, Nat.le_of_ble_eq_true rfl⟩ hK hP hD hz.1 hS hA (ci := 2) (q0 := 5) rfl rfl rfl rfl hl.1 (Nat.le_of_ble_eq_true rfl) dL_programme_5 ⟨Nat.le_of_ble_eq_true rfl, Nat.le_of_ble_eq_true rfl⟩ (fun hk ce q9 H locs hP hS hce hcv hcl => ?_) (fun hk _ H locs hP hD hS => ?_)
  · skip
    have hk3 : kPrg d x = 1 := by
      unfold kPrg at hk ⊢
      (repeat' split) <;> simp_all
    rw [hk3] at hcl
    have hcl : sS.vm.findClass nmA = some ce.cls := hcl
    refine vx_catch (own := RL) (name := nmA) F.2.2.2.1 [] ⟨0, 10, 13, 13⟩ [] (htab.trans rfl) (fun _ h9 => nomatch h9) (by decide) (by decide) (k_cond F (w := .classLink RL 13 nmA) (by decide +kernel)) (va_Nw.use rfl (hz.1.2.2.2.1 _ castA)) hce hcv hcl ?_
    refine lv_astore (lv' := (4, .ref q9) :: [(0, .ref (B 5)), (1, .int (iI d)), (2, .int (iI x)), (3, .ref o)]) F.1 F.2.1 dL_programme_13 hl (by decide) rfl (fun ls hl => ?_)
    refine k_iconst F dL_programme_15 ?_
    exact W.iret F.1 F.2.1 hr (fun t9 ht _ => ⟨⟨_, f, rfl, ⟨by rw [hk3], fun h9 => absurd (hk3.symm.trans h9) (by decide)⟩, by rw [ht]; exact hP, hD⟩, hS.F ht⟩) hS.2.2 dL_programme_16 hlocks
  · skip
    refine lv_i2l F.1 F.2.1 dL_programme_8 rfl ?_
    refine va_last F.1 F.2.1 hK hP hD hS 0 2 rfl rfl (iI_in (k := 0) rfl (by decide) (by decide)) dL_programme_9 (fun H locs hP hD hS => ?_)
    refine lv_goto (tgt := 17) F.1 F.2.1 dL_programme_10 (by decide) ?_
    refine k_iconst F dL_programme_17 ?_
    exact W.iret F.1 F.2.1 hr (fun t9 ht _ => ⟨⟨_, (vp_updL f (iI 0).toNatClampNeg (iI (((prg σ n k d x : Nat) : Int))).toInt64), rfl, ⟨by rw [hk], fun _ => by rfl⟩, by rw [ht]; exact hP, hD⟩, hS.F ht⟩) hS.2.2 dL_programme_18 hlocks

set_option maxHeartbeats 4000000 in
set_option maxRecDepth 100000 in
theorem mL_duration (l : Launch) (hfl : l.stackTraces = false) (G : gT) (z0 sz0 o : Nat) (f : Nat → Int64) (B : Nat → Nat) (P : Nat → Nat → Nat) (σ : Sg) (d x : Int) (hd : -2147483648 ≤ d ∧ d < 2147483648) (hx : -2147483648 ≤ x ∧ x < 2147483648) {n k N : Nat} (hI : Iv σ n k N) : Met l yL_duration wsL_duration { frames := 8, cells := 6, slots := 36, locals := 164 } (va_Pc [.ref (B 5), .int (iI d), .int (iI x), .ref o] (lB G (oC G o f ++ CW G B P σ k) z0 sz0)) (va_Qi (fun (r : Int32) (u : Nat → Int64) => r = iI (kPrg d x) ∧ (kPrg d x = 0 → u 0 = (iI (lnS σ ((prg σ n k d x : Nat) : Int) k)).toInt64)) (fun u t9 => gP G (oC G o u ++ CW G B P σ k) t9.heap ∧ va_D (va_A (oC G o f ++ CW G B P σ k) sz0) (oC G o u ++ CW G B P σ k)) (va_A (oC G o f ++ CW G B P σ k) sz0)) 6 36 (va_A (oC G o f ++ CW G B P σ k) sz0) := by
  refine l_start (own := RL) (cc := cL_duration) (mL := 5) (ret := (some .int)) (hh := [(0, 10, 13, 13)]) (Qc := fun AA => va_Qi (fun (r : Int32) (u : Nat → Int64) => r = iI (kPrg d x) ∧ (kPrg d x = 0 → u 0 = (iI (lnS σ ((prg σ n k d x : Nat) : Int) k)).toInt64)) (fun u t9 => gP G (oC G o u ++ CW G B P σ k) t9.heap ∧ va_D AA (oC G o u ++ CW G B P σ k)) AA) (by decide) rfl rfl (Nat.le_of_ble_eq_true rfl) ?_
  intro pP eE sS mM args bB meth cC ls AA F hr hlocks htab hz hK hP hD hA hl
  have hS : sF sS sS.heap [] := va_S.rf
  have hl : lv_has ls 5 [(0, .ref (B 5)), (1, .int (iI d)), (2, .int (iI x)), (3, .ref o)] := hl
  refine lv_aload_n F.1 F.2.1 dL_duration_0 rfl (lv_at hl 3 rfl) ?_
  refine k_iconst F dL_duration_1 ?_
  refine lv_aload_n F.1 F.2.1 dL_duration_2 rfl (lv_at hl 0 rfl) ?_
  refine lv_iload_n F.1 F.2.1 dL_duration_3 rfl (lv_at hl 1 rfl) ?_
  refine lv_iload_n F.1 F.2.1 dL_duration_4 rfl (lv_at hl 2 rfl) ?_
  refine l_callW F (n := 2) (w := CW G B P σ k) (wr := oC G o f) (W2 := (fun _ : Unit => CW G B P σ k)) (asW (mX2_duration l hfl G z0 B P σ d x hd hx hI)) gL_duration_X2_duration rfl rfl rfl (by decide +kernel) ⟨Nat.le_of_ble_eq_true rfl, Nat.le_of_ble_eq_true rfl⟩ hK hP hD hz.1 hS hA (ci := 2) (q0 := 5) rfl rfl rfl rfl hl.1 (Nat.le_of_ble_eq_true rfl) dL_duration_5 ⟨Nat.le_of_ble_eq_true rfl, Nat.le_of_ble_eq_true rfl⟩ (fun hk ce q9 H locs hP hS hce hcv hcl => ?_) (fun hk _ H locs hP hD hS => ?_)
  · skip
    have hk3 : kPrg d x = 1 := by
      unfold kPrg at hk ⊢
      (repeat' split) <;> simp_all
    rw [hk3] at hcl
    have hcl : sS.vm.findClass nmA = some ce.cls := hcl
    refine vx_catch (own := RL) (name := nmA) F.2.2.2.1 [] ⟨0, 10, 13, 13⟩ [] (htab.trans rfl) (fun _ h9 => nomatch h9) (by decide) (by decide) (k_cond F (w := .classLink RL 13 nmA) (by decide +kernel)) (va_Nw.use rfl (hz.1.2.2.2.1 _ castA)) hce hcv hcl ?_
    refine lv_astore (lv' := (4, .ref q9) :: [(0, .ref (B 5)), (1, .int (iI d)), (2, .int (iI x)), (3, .ref o)]) F.1 F.2.1 dL_duration_13 hl (by decide) rfl (fun ls hl => ?_)
    refine k_iconst F dL_duration_15 ?_
    exact W.iret F.1 F.2.1 hr (fun t9 ht _ => ⟨⟨_, f, rfl, ⟨by rw [hk3], fun h9 => absurd (hk3.symm.trans h9) (by decide)⟩, by rw [ht]; exact hP, hD⟩, hS.F ht⟩) hS.2.2 dL_duration_16 hlocks
  · skip
    refine lv_i2l F.1 F.2.1 dL_duration_8 rfl ?_
    refine va_last F.1 F.2.1 hK hP hD hS 0 2 rfl rfl (iI_in (k := 0) rfl (by decide) (by decide)) dL_duration_9 (fun H locs hP hD hS => ?_)
    refine lv_goto (tgt := 17) F.1 F.2.1 dL_duration_10 (by decide) ?_
    refine k_iconst F dL_duration_17 ?_
    exact W.iret F.1 F.2.1 hr (fun t9 ht _ => ⟨⟨_, (vp_updL f (iI 0).toNatClampNeg (iI (lnS σ ((prg σ n k d x : Nat) : Int) k)).toInt64), rfl, ⟨by rw [hk], fun _ => by rfl⟩, by rw [ht]; exact hP, hD⟩, hS.F ht⟩) hS.2.2 dL_duration_18 hlocks

set_option maxHeartbeats 4000000 in
set_option maxRecDepth 100000 in
theorem mL_rehearse (l : Launch) (hfl : l.stackTraces = false) (G : gT) (z0 sz0 o : Nat) (f : Nat → Int64) (B : Nat → Nat) (P : Nat → Nat → Nat) (σ : Sg) (x t : Int) (hx : -2147483648 ≤ x ∧ x < 2147483648) (ht : -2147483648 ≤ t ∧ t < 2147483648) {n k N : Nat} (hI : Iv σ n k N) (hN5 : N ≤ 512) : Met l yL_rehearse wsL_rehearse { frames := 8, cells := 6, slots := 36, locals := 156 } (va_Pc [.ref (B 5), .int (iI x), .int (iI t), .ref o] (lB G (oC G o f ++ CW G B P σ k) z0 sz0)) (va_Qi (fun (r : Int32) (u : Nat → Int64) => r = iI (kReh σ x t) ∧ (kReh σ x t = 0 → u 0 = (iI (wsm (rhS σ x.toNat t.toNat) x.toNat ((rhS σ x.toNat t.toNat) 8 x.toNat 0).toNat)).toInt64)) (fun u t9 => gP G (oC G o u ++ CW G B P (if kReh σ x t = 0 then (rhS σ x.toNat t.toNat) else σ) k) t9.heap ∧ va_D (va_A (oC G o f ++ CW G B P σ k) sz0) (oC G o u ++ CW G B P (if kReh σ x t = 0 then (rhS σ x.toNat t.toNat) else σ) k)) (va_A (oC G o f ++ CW G B P σ k) sz0)) 6 36 (va_A (oC G o f ++ CW G B P σ k) sz0) := by
  refine l_start (own := RL) (cc := cL_rehearse) (mL := 5) (ret := (some .int)) (hh := [(0, 10, 13, 21), (0, 10, 17, 13)]) (Qc := fun AA => va_Qi (fun (r : Int32) (u : Nat → Int64) => r = iI (kReh σ x t) ∧ (kReh σ x t = 0 → u 0 = (iI (wsm (rhS σ x.toNat t.toNat) x.toNat ((rhS σ x.toNat t.toNat) 8 x.toNat 0).toNat)).toInt64)) (fun u t9 => gP G (oC G o u ++ CW G B P (if kReh σ x t = 0 then (rhS σ x.toNat t.toNat) else σ) k) t9.heap ∧ va_D AA (oC G o u ++ CW G B P (if kReh σ x t = 0 then (rhS σ x.toNat t.toNat) else σ) k)) AA) (by decide) rfl rfl (Nat.le_of_ble_eq_true rfl) ?_
  intro pP eE sS mM args bB meth cC ls AA F hr hlocks htab hz hK hP hD hA hl
  have hS : sF sS sS.heap [] := va_S.rf
  have hl : lv_has ls 5 [(0, .ref (B 5)), (1, .int (iI x)), (2, .int (iI t)), (3, .ref o)] := hl
  refine lv_aload_n F.1 F.2.1 dL_rehearse_0 rfl (lv_at hl 3 rfl) ?_
  refine k_iconst F dL_rehearse_1 ?_
  refine lv_aload_n F.1 F.2.1 dL_rehearse_2 rfl (lv_at hl 0 rfl) ?_
  refine lv_iload_n F.1 F.2.1 dL_rehearse_3 rfl (lv_at hl 1 rfl) ?_
  refine lv_iload_n F.1 F.2.1 dL_rehearse_4 rfl (lv_at hl 2 rfl) ?_
  refine l_callW F (n := 2) (w := CW G B P σ k) (wr := oC G o f) (W2 := (fun _ : Unit => CW G B P ((rhS σ x.toNat t.toNat)) k)) (asY (CW_adr _ _ _) (mX2_rehearse l hfl G z0 _ B P σ x t hx ht hI hN5)) gL_rehearse_X2_rehearse rfl rfl rfl (by decide +kernel) ⟨Nat.le_of_ble_eq_true rfl, Nat.le_of_ble_eq_true rfl⟩ hK hP hD hz.1 hS hA (ci := 2) (q0 := 5) rfl rfl rfl rfl hl.1 (Nat.le_of_ble_eq_true rfl) dL_rehearse_5 ⟨Nat.le_of_ble_eq_true rfl, Nat.le_of_ble_eq_true rfl⟩ (fun hk ce q9 H locs hP hS hce hcv hcl => ?_) (fun hk _ H locs hP hD hS => ?_)
  · skip
    have hk3 : kReh σ x t = 1 ∨ kReh σ x t = 2 := by
      unfold kReh at hk ⊢
      (repeat' split) <;> simp_all
    rcases hk3 with hk3 | hk3
    · skip
      rw [hk3] at hcl
      have hcl : sS.vm.findClass nmI = some ce.cls := hcl
      refine vx_catch (own := RL) (name := nmI) F.2.2.2.1 [] ⟨0, 10, 13, 21⟩ [⟨0, 10, 17, 13⟩] (htab.trans rfl) (fun _ h9 => nomatch h9) (by decide) (by decide) (k_cond F (w := .classLink RL 21 nmI) (by decide +kernel)) (va_Nw.use rfl (hz.1.2.2.2.1 _ castI)) hce hcv hcl ?_
      refine lv_astore (lv' := (4, .ref q9) :: [(0, .ref (B 5)), (1, .int (iI x)), (2, .int (iI t)), (3, .ref o)]) F.1 F.2.1 dL_rehearse_13 hl (by decide) rfl (fun ls hl => ?_)
      refine k_iconst F dL_rehearse_15 ?_
      exact W.iret F.1 F.2.1 hr (fun t9 ht _ => ⟨⟨_, f, rfl, ⟨by rw [hk3], fun h9 => absurd (hk3.symm.trans h9) (by decide)⟩, by rw [ht, hk3]; exact hP, by rw [hk3]; exact hD⟩, hS.F ht⟩) hS.2.2 dL_rehearse_16 hlocks
    · skip
      rw [hk3] at hcl
      have hcl : sS.vm.findClass nmA = some ce.cls := hcl
      refine vx_catch (own := RL) (name := nmA) F.2.2.2.1 [⟨0, 10, 13, 21⟩] ⟨0, 10, 17, 13⟩ [] (htab.trans rfl) (List.forall_mem_cons.mpr ⟨Or.inr ⟨by decide, nmI, k_cond F (w := .classLink RL 21 nmI) (by decide +kernel), hz.2.2.1⟩, (fun _ h9 => nomatch h9)⟩) (by decide) (by decide) (k_cond F (w := .classLink RL 13 nmA) (by decide +kernel)) (va_Nw.use rfl (hz.1.2.2.2.1 _ castA)) hce hcv hcl ?_
      refine lv_astore (lv' := (4, .ref q9) :: [(0, .ref (B 5)), (1, .int (iI x)), (2, .int (iI t)), (3, .ref o)]) F.1 F.2.1 dL_rehearse_17 hl (by decide) rfl (fun ls hl => ?_)
      refine k_iconst F dL_rehearse_19 ?_
      exact W.iret F.1 F.2.1 hr (fun t9 ht _ => ⟨⟨_, f, rfl, ⟨by rw [hk3], fun h9 => absurd (hk3.symm.trans h9) (by decide)⟩, by rw [ht, hk3]; exact hP, by rw [hk3]; exact hD⟩, hS.F ht⟩) hS.2.2 dL_rehearse_20 hlocks
  · skip
    refine lv_i2l F.1 F.2.1 dL_rehearse_8 rfl ?_
    refine va_last F.1 F.2.1 hK hP hD hS 0 2 rfl rfl (iI_in (k := 0) rfl (by decide) (by decide)) dL_rehearse_9 (fun H locs hP hD hS => ?_)
    refine lv_goto (tgt := 21) F.1 F.2.1 dL_rehearse_10 (by decide) ?_
    refine k_iconst F dL_rehearse_21 ?_
    exact W.iret F.1 F.2.1 hr (fun t9 ht _ => ⟨⟨_, (vp_updL f (iI 0).toNatClampNeg (iI (wsm (rhS σ x.toNat t.toNat) x.toNat ((rhS σ x.toNat t.toNat) 8 x.toNat 0).toNat)).toInt64), rfl, ⟨by rw [hk], fun _ => by rfl⟩, by rw [ht, hk]; exact hP, by rw [hk]; exact hD⟩, hS.F ht⟩) hS.2.2 dL_rehearse_22 hlocks

set_option maxHeartbeats 4000000 in
set_option maxRecDepth 100000 in
theorem mL_weakness (l : Launch) (hfl : l.stackTraces = false) (G : gT) (z0 sz0 o : Nat) (f : Nat → Int64) (B : Nat → Nat) (P : Nat → Nat → Nat) (σ : Sg) (x y : Int) (hx : -2147483648 ≤ x ∧ x < 2147483648) (hy : -2147483648 ≤ y ∧ y < 2147483648) {n k N : Nat} (hI : Iv σ n k N) (hN5 : N ≤ 512) : Met l yL_weakness wsL_weakness { frames := 8, cells := 6, slots := 36, locals := 155 } (va_Pc [.ref (B 5), .int (iI x), .int (iI y), .ref o] (lB G (oC G o f ++ CW G B P σ k) z0 sz0)) (va_Qi (fun (r : Int32) (u : Nat → Int64) => r = iI (kFat σ x y) ∧ (kFat σ x y = 0 → u 0 = (iI (wkS σ x.toNat y.toNat)).toInt64)) (fun u t9 => gP G (oC G o u ++ CW G B P σ k) t9.heap ∧ va_D (va_A (oC G o f ++ CW G B P σ k) sz0) (oC G o u ++ CW G B P σ k)) (va_A (oC G o f ++ CW G B P σ k) sz0)) 6 36 (va_A (oC G o f ++ CW G B P σ k) sz0) := by
  refine l_start (own := RL) (cc := cL_weakness) (mL := 5) (ret := (some .int)) (hh := [(0, 10, 13, 21)]) (Qc := fun AA => va_Qi (fun (r : Int32) (u : Nat → Int64) => r = iI (kFat σ x y) ∧ (kFat σ x y = 0 → u 0 = (iI (wkS σ x.toNat y.toNat)).toInt64)) (fun u t9 => gP G (oC G o u ++ CW G B P σ k) t9.heap ∧ va_D AA (oC G o u ++ CW G B P σ k)) AA) (by decide) rfl rfl (Nat.le_of_ble_eq_true rfl) ?_
  intro pP eE sS mM args bB meth cC ls AA F hr hlocks htab hz hK hP hD hA hl
  have hS : sF sS sS.heap [] := va_S.rf
  have hl : lv_has ls 5 [(0, .ref (B 5)), (1, .int (iI x)), (2, .int (iI y)), (3, .ref o)] := hl
  refine lv_aload_n F.1 F.2.1 dL_weakness_0 rfl (lv_at hl 3 rfl) ?_
  refine k_iconst F dL_weakness_1 ?_
  refine lv_aload_n F.1 F.2.1 dL_weakness_2 rfl (lv_at hl 0 rfl) ?_
  refine lv_iload_n F.1 F.2.1 dL_weakness_3 rfl (lv_at hl 1 rfl) ?_
  refine lv_iload_n F.1 F.2.1 dL_weakness_4 rfl (lv_at hl 2 rfl) ?_
  refine l_callW F (n := 2) (w := CW G B P σ k) (wr := oC G o f) (W2 := (fun _ : Unit => CW G B P σ k)) (asW (mX2_weakness l hfl G z0 B P σ x y hx hy hI (by omega))) gL_weakness_X2_weakness rfl rfl rfl (by decide +kernel) ⟨Nat.le_of_ble_eq_true rfl, Nat.le_of_ble_eq_true rfl⟩ hK hP hD hz.1 hS hA (ci := 2) (q0 := 5) rfl rfl rfl rfl hl.1 (Nat.le_of_ble_eq_true rfl) dL_weakness_5 ⟨Nat.le_of_ble_eq_true rfl, Nat.le_of_ble_eq_true rfl⟩ (fun hk ce q9 H locs hP hS hce hcv hcl => ?_) (fun hk _ H locs hP hD hS => ?_)
  · skip
    have hk3 : kFat σ x y = 1 := by
      unfold kFat at hk ⊢
      (repeat' split) <;> simp_all
    rw [hk3] at hcl
    have hcl : sS.vm.findClass nmI = some ce.cls := hcl
    refine vx_catch (own := RL) (name := nmI) F.2.2.2.1 [] ⟨0, 10, 13, 21⟩ [] (htab.trans rfl) (fun _ h9 => nomatch h9) (by decide) (by decide) (k_cond F (w := .classLink RL 21 nmI) (by decide +kernel)) (va_Nw.use rfl (hz.1.2.2.2.1 _ castI)) hce hcv hcl ?_
    refine lv_astore (lv' := (4, .ref q9) :: [(0, .ref (B 5)), (1, .int (iI x)), (2, .int (iI y)), (3, .ref o)]) F.1 F.2.1 dL_weakness_13 hl (by decide) rfl (fun ls hl => ?_)
    refine k_iconst F dL_weakness_15 ?_
    exact W.iret F.1 F.2.1 hr (fun t9 ht _ => ⟨⟨_, f, rfl, ⟨by rw [hk3], fun h9 => absurd (hk3.symm.trans h9) (by decide)⟩, by rw [ht]; exact hP, hD⟩, hS.F ht⟩) hS.2.2 dL_weakness_16 hlocks
  · skip
    refine lv_i2l F.1 F.2.1 dL_weakness_8 rfl ?_
    refine va_last F.1 F.2.1 hK hP hD hS 0 2 rfl rfl (iI_in (k := 0) rfl (by decide) (by decide)) dL_weakness_9 (fun H locs hP hD hS => ?_)
    refine lv_goto (tgt := 17) F.1 F.2.1 dL_weakness_10 (by decide) ?_
    refine k_iconst F dL_weakness_17 ?_
    exact W.iret F.1 F.2.1 hr (fun t9 ht _ => ⟨⟨_, (vp_updL f (iI 0).toNatClampNeg (iI (wkS σ x.toNat y.toNat)).toInt64), rfl, ⟨by rw [hk], fun _ => by rfl⟩, by rw [ht]; exact hP, hD⟩, hS.F ht⟩) hS.2.2 dL_weakness_18 hlocks

set_option maxHeartbeats 4000000 in
set_option maxRecDepth 100000 in
theorem mL_weakest (l : Launch) (hfl : l.stackTraces = false) (G : gT) (z0 sz0 o : Nat) (f : Nat → Int64) (B : Nat → Nat) (P : Nat → Nat → Nat) (σ : Sg) (x : Int) (hx : -2147483648 ≤ x ∧ x < 2147483648) {n k N : Nat} (hI : Iv σ n k N) (hN5 : N ≤ 512) : Met l yL_weakest wsL_weakest { frames := 8, cells := 6, slots := 36, locals := 153 } (va_Pc [.ref (B 5), .int (iI x), .ref o] (lB G (oC G o f ++ CW G B P σ k) z0 sz0)) (va_Qi (fun (r : Int32) (u : Nat → Int64) => r = iI (kPic σ x) ∧ (kPic σ x = 0 → u 0 = (iI (((wkq σ x.toNat : Nat) : Int))).toInt64)) (fun u t9 => gP G (oC G o u ++ CW G B P σ k) t9.heap ∧ va_D (va_A (oC G o f ++ CW G B P σ k) sz0) (oC G o u ++ CW G B P σ k)) (va_A (oC G o f ++ CW G B P σ k) sz0)) 6 36 (va_A (oC G o f ++ CW G B P σ k) sz0) := by
  refine l_start (own := RL) (cc := cL_weakest) (mL := 4) (ret := (some .int)) (hh := [(0, 9, 12, 21)]) (Qc := fun AA => va_Qi (fun (r : Int32) (u : Nat → Int64) => r = iI (kPic σ x) ∧ (kPic σ x = 0 → u 0 = (iI (((wkq σ x.toNat : Nat) : Int))).toInt64)) (fun u t9 => gP G (oC G o u ++ CW G B P σ k) t9.heap ∧ va_D AA (oC G o u ++ CW G B P σ k)) AA) (by decide) rfl rfl (Nat.le_of_ble_eq_true rfl) ?_
  intro pP eE sS mM args bB meth cC ls AA F hr hlocks htab hz hK hP hD hA hl
  have hS : sF sS sS.heap [] := va_S.rf
  have hl : lv_has ls 4 [(0, .ref (B 5)), (1, .int (iI x)), (2, .ref o)] := hl
  refine lv_aload_n F.1 F.2.1 dL_weakest_0 rfl (lv_at hl 2 rfl) ?_
  refine k_iconst F dL_weakest_1 ?_
  refine lv_aload_n F.1 F.2.1 dL_weakest_2 rfl (lv_at hl 0 rfl) ?_
  refine lv_iload_n F.1 F.2.1 dL_weakest_3 rfl (lv_at hl 1 rfl) ?_
  refine l_callW F (n := 1) (w := CW G B P σ k) (wr := oC G o f) (W2 := (fun _ : Unit => CW G B P σ k)) (asW (mX2_weakest l hfl G z0 B P σ x hx hI (by omega))) gL_weakest_X2_weakest rfl rfl rfl (by decide +kernel) ⟨Nat.le_of_ble_eq_true rfl, Nat.le_of_ble_eq_true rfl⟩ hK hP hD hz.1 hS hA (ci := 2) (q0 := 5) rfl rfl rfl rfl hl.1 (Nat.le_of_ble_eq_true rfl) dL_weakest_4 ⟨Nat.le_of_ble_eq_true rfl, Nat.le_of_ble_eq_true rfl⟩ (fun hk ce q9 H locs hP hS hce hcv hcl => ?_) (fun hk _ H locs hP hD hS => ?_)
  · skip
    have hk3 : kPic σ x = 1 := by
      unfold kPic at hk ⊢
      (repeat' split) <;> simp_all
    rw [hk3] at hcl
    have hcl : sS.vm.findClass nmI = some ce.cls := hcl
    refine vx_catch (own := RL) (name := nmI) F.2.2.2.1 [] ⟨0, 9, 12, 21⟩ [] (htab.trans rfl) (fun _ h9 => nomatch h9) (by decide) (by decide) (k_cond F (w := .classLink RL 21 nmI) (by decide +kernel)) (va_Nw.use rfl (hz.1.2.2.2.1 _ castI)) hce hcv hcl ?_
    refine lv_astore_n (lv' := (3, .ref q9) :: [(0, .ref (B 5)), (1, .int (iI x)), (2, .ref o)]) F.1 F.2.1 dL_weakest_12 rfl hl (by decide) rfl (fun ls hl => ?_)
    refine k_iconst F dL_weakest_13 ?_
    exact W.iret F.1 F.2.1 hr (fun t9 ht _ => ⟨⟨_, f, rfl, ⟨by rw [hk3], fun h9 => absurd (hk3.symm.trans h9) (by decide)⟩, by rw [ht]; exact hP, hD⟩, hS.F ht⟩) hS.2.2 dL_weakest_14 hlocks
  · skip
    refine lv_i2l F.1 F.2.1 dL_weakest_7 rfl ?_
    refine va_last F.1 F.2.1 hK hP hD hS 0 2 rfl rfl (iI_in (k := 0) rfl (by decide) (by decide)) dL_weakest_8 (fun H locs hP hD hS => ?_)
    refine lv_goto (tgt := 15) F.1 F.2.1 dL_weakest_9 (by decide) ?_
    refine k_iconst F dL_weakest_15 ?_
    exact W.iret F.1 F.2.1 hr (fun t9 ht _ => ⟨⟨_, (vp_updL f (iI 0).toNatClampNeg (iI (((wkq σ x.toNat : Nat) : Int))).toInt64), rfl, ⟨by rw [hk], fun _ => by rfl⟩, by rw [ht]; exact hP, hD⟩, hS.F ht⟩) hS.2.2 dL_weakest_16 hlocks
