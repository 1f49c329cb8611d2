set_option maxHeartbeats 4000000 in
set_option maxRecDepth 100000 in
theorem mL_singers (l : Launch) (hfl : l.stackTraces = false) (G : gT) (z0 sz0 : Nat) (B : Nat → Nat) (P : Nat → Nat → Nat) (σ : Sg) (v lo hi : Int) (hv : -2147483648 ≤ v ∧ v < 2147483648) (hlo : -2147483648 ≤ lo ∧ lo < 2147483648) (hhi : -2147483648 ≤ hi ∧ hi < 2147483648) {N : Nat} (hI : Jv σ N) : jC l yL_singers wsL_singers { frames := 8, cells := 6, slots := 36, locals := 154 } G z0 sz0 B P σ [.int (iI v), .int (iI lo), .int (iI hi)] (an (kAdd σ v lo hi) (σ 1 0 0) (-2000000002) (-2000000003) (-2000000003)) (stt (kAdd σ v lo hi) (sAdd σ v lo hi) σ) 6 36 := by
  refine l_start (own := RL) (cc := cL_singers) (mL := 5) (ret := (some .int)) (hh := [(0, 7, 8, 13), (0, 7, 13, 16)]) (Qc := fun AA => jQ G B (an (kAdd σ v lo hi) (σ 1 0 0) (-2000000002) (-2000000003) (-2000000003)) (stt (kAdd σ v lo hi) (sAdd σ v lo hi) σ) AA) (by decide) rfl rfl (Nat.le_of_ble_eq_true rfl) ?_
  intro pP eE sS mM args bB meth cC ls AA F hr hlocks htab hz hK hP hD hA hl
  have hS : sF sS sS.heap [] := va_S.rf
  have hl : lv_has ls 5 [(0, .ref (B 5)), (1, .int (iI v)), (2, .int (iI lo)), (3, .int (iI hi))] := hl
  refine lv_aload_n F.1 F.2.1 dL_singers_0 rfl (lv_at hl 0 rfl) ?_
  refine lv_iload_n F.1 F.2.1 dL_singers_1 rfl (lv_at hl 1 rfl) ?_
  refine lv_iload_n F.1 F.2.1 dL_singers_2 rfl (lv_at hl 2 rfl) ?_
  refine lv_iload_n F.1 F.2.1 dL_singers_3 rfl (lv_at hl 3 rfl) ?_
  refine l_callW F (n := 3) (w := CW G B P σ (σ 2 0 0).toNat) (wr := []) (W2 := (fun _ : Unit => CW G B P (sAdd σ v lo hi) (σ 2 0 0).toNat)) (asY (CW_adr _ _ _) (mX2_addSinger l hfl G z0 _ B P σ v lo hi hv hlo hhi hI)) gL_singers_X2_addSinger rfl rfl rfl (by decide +kernel) ⟨Nat.le_of_ble_eq_true rfl, Nat.le_of_ble_eq_true rfl⟩ hK hP hD hz.1 hS hA (ci := 2) (q0 := 5) rfl rfl rfl rfl hl.1 (Nat.le_of_ble_eq_true rfl) dL_singers_4 ⟨Nat.le_of_ble_eq_true rfl, Nat.le_of_ble_eq_true rfl⟩ (fun hk ce q9 H locs hP hS hce hcv hcl => ?_) (fun hk _ H locs hP hD hS => ?_)
  · skip
    have hk3 : kAdd σ v lo hi = 1 ∨ kAdd σ v lo hi = 2 := by
      unfold kAdd at hk ⊢
      (repeat' split) <;> simp_all
    rw [show stt (kAdd σ v lo hi) (sAdd σ v lo hi) σ = σ from stt_n hk]
    rcases hk3 with hk3 | hk3
    · skip
      rw [show an (kAdd σ v lo hi) (σ 1 0 0) (-2000000002) (-2000000003) (-2000000003) = -2000000002 from an_1 hk3]
      rw [hk3] at hcl
      have hcl : sS.vm.findClass nmA = some ce.cls := hcl
      refine vx_catch (own := RL) (name := nmA) F.2.2.2.1 [] ⟨0, 7, 8, 13⟩ [⟨0, 7, 13, 16⟩] (htab.trans rfl) (fun _ h9 => nomatch h9) (by decide) (by decide) (k_cond F (w := .classLink RL 13 nmA) (by decide +kernel)) (va_Nw.use rfl (hz.1.2.2.2.1 _ castA)) hce hcv hcl ?_
      refine lv_astore (lv' := (4, .ref q9) :: [(0, .ref (B 5)), (1, .int (iI v)), (2, .int (iI lo)), (3, .int (iI hi))]) F.1 F.2.1 dL_singers_8 hl (by decide) rfl (fun ls hl => ?_)
      refine k_ldc F (v := -2000000002) (z := -2000000002) (by decide +kernel) (by decide +kernel) dL_singers_10 ?_
      exact W.iret F.1 F.2.1 hr (fun t9 ht _ => ⟨⟨_, P, rfl, rfl, by rw [ht]; exact hP, hD⟩, hS.F ht⟩) hS.2.2 dL_singers_12 hlocks
    · skip
      rw [show an (kAdd σ v lo hi) (σ 1 0 0) (-2000000002) (-2000000003) (-2000000003) = -2000000003 from an_2 hk3]
      rw [hk3] at hcl
      have hcl : sS.vm.findClass nmS = some ce.cls := hcl
      refine vx_catch (own := RL) (name := nmS) F.2.2.2.1 [⟨0, 7, 8, 13⟩] ⟨0, 7, 13, 16⟩ [] (htab.trans rfl) (List.forall_mem_cons.mpr ⟨Or.inr ⟨by decide, nmA, k_cond F (w := .classLink RL 13 nmA) (by decide +kernel), hz.2.1⟩, (fun _ h9 => nomatch h9)⟩) (by decide) (by decide) (k_cond F (w := .classLink RL 16 nmS) (by decide +kernel)) (va_Nw.use rfl (hz.1.2.2.2.1 _ castS)) hce hcv hcl ?_
      refine lv_astore (lv' := (4, .ref q9) :: [(0, .ref (B 5)), (1, .int (iI v)), (2, .int (iI lo)), (3, .int (iI hi))]) F.1 F.2.1 dL_singers_13 hl (by decide) rfl (fun ls hl => ?_)
      refine k_ldc F (v := -2000000003) (z := -2000000003) (by decide +kernel) (by decide +kernel) dL_singers_15 ?_
      exact W.iret F.1 F.2.1 hr (fun t9 ht _ => ⟨⟨_, P, rfl, rfl, by rw [ht]; exact hP, hD⟩, hS.F ht⟩) hS.2.2 dL_singers_17 hlocks
  · skip
    rw [show an (kAdd σ v lo hi) (σ 1 0 0) (-2000000002) (-2000000003) (-2000000003) = σ 1 0 0 from an_0 hk]
    rw [show stt (kAdd σ v lo hi) (sAdd σ v lo hi) σ = sAdd σ v lo hi from stt_0 hk]
    exact W.iret F.1 F.2.1 hr (fun t9 ht _ => ⟨⟨_, P, rfl, rfl, (by rw [ht]; exact hP), hD⟩, hS.F ht⟩) hS.2.2 dL_singers_7 hlocks

set_option maxHeartbeats 4000000 in
set_option maxRecDepth 100000 in
theorem mL_tells (l : Launch) (hfl : l.stackTraces = false) (G : gT) (z0 sz0 : Nat) (B : Nat → Nat) (P : Nat → Nat → Nat) (σ : Sg) (x d t : Int) (hx : -2147483648 ≤ x ∧ x < 2147483648) (hd : -2147483648 ≤ d ∧ d < 2147483648) (ht : t = 0 ∨ t = 1) {N : Nat} (hI : Jv σ N) : jC l yL_tells wsL_tells { frames := 8, cells := 6, slots := 36, locals := 155 } G z0 sz0 B P σ [.int (iI x), .int (iI d), .int (iI t)] (an (kTel σ x d) (bI (thr (σ 6 0 x.toNat) d = true)) (-2000000001) (-2000000002) (-2000000002)) (stt (kTel σ x d) (sTel σ x d t) σ) 6 36 := by
  refine l_start (own := RL) (cc := cL_tells) (mL := 5) (ret := (some .int)) (hh := [(0, 15, 16, 23), (0, 15, 21, 13)]) (Qc := fun AA => jQ G B (an (kTel σ x d) (bI (thr (σ 6 0 x.toNat) d = true)) (-2000000001) (-2000000002) (-2000000002)) (stt (kTel σ x d) (sTel σ x d t) σ) AA) (by decide) rfl rfl (Nat.le_of_ble_eq_true rfl) ?_
  intro pP eE sS mM args bB meth cC ls AA F hr hlocks htab hz hK hP hD hA hl
  have hS : sF sS sS.heap [] := va_S.rf
  have hl : lv_has ls 5 [(0, .ref (B 5)), (1, .int (iI x)), (2, .int (iI d)), (3, .int (iI t))] := hl
  refine lv_aload_n F.1 F.2.1 dL_tells_0 rfl (lv_at hl 0 rfl) ?_
  refine lv_iload_n F.1 F.2.1 dL_tells_1 rfl (lv_at hl 1 rfl) ?_
  refine lv_iload_n F.1 F.2.1 dL_tells_2 rfl (lv_at hl 2 rfl) ?_
  refine lv_iload_n F.1 F.2.1 dL_tells_3 rfl (lv_at hl 3 rfl) ?_
  refine l_callW F (n := 3) (w := CW G B P σ (σ 2 0 0).toNat) (wr := []) (W2 := (fun _ : Unit => CW G B P (sTel σ x d t) (σ 2 0 0).toNat)) (asY (CW_adr _ _ _) (mX2_tell l hfl G z0 _ B P σ x d t hx hd ht hI)) gL_tells_X2_tell rfl rfl rfl (by decide +kernel) ⟨Nat.le_of_ble_eq_true rfl, Nat.le_of_ble_eq_true rfl⟩ hK hP hD hz.1 hS hA (ci := 2) (q0 := 5) rfl rfl rfl rfl hl.1 (Nat.le_of_ble_eq_true rfl) dL_tells_4 ⟨Nat.le_of_ble_eq_true rfl, Nat.le_of_ble_eq_true rfl⟩ (fun hk ce q9 H locs hP hS hce hcv hcl => ?_) (fun hk _ H locs hP hD hS => ?_)
  · skip
    have hk3 : kTel σ x d = 1 ∨ kTel σ x d = 2 := by
      unfold kTel at hk ⊢
      (repeat' split) <;> simp_all
    rw [show stt (kTel σ x d) (sTel σ x d t) σ = σ from stt_n hk]
    rcases hk3 with hk3 | hk3
    · skip
      rw [show an (kTel σ x d) (bI (thr (σ 6 0 x.toNat) d = true)) (-2000000001) (-2000000002) (-2000000002) = -2000000001 from an_1 hk3]
      rw [hk3] at hcl
      have hcl : sS.vm.findClass nmI = some ce.cls := hcl
      refine vx_catch (own := RL) (name := nmI) F.2.2.2.1 [] ⟨0, 15, 16, 23⟩ [⟨0, 15, 21, 13⟩] (htab.trans rfl) (fun _ h9 => nomatch h9) (by decide) (by decide) (k_cond F (w := .classLink RL 23 nmI) (by decide +kernel)) (va_Nw.use rfl (hz.1.2.2.2.1 _ castI)) hce hcv hcl ?_
      refine lv_astore (lv' := (4, .ref q9) :: [(0, .ref (B 5)), (1, .int (iI x)), (2, .int (iI d)), (3, .int (iI t))]) F.1 F.2.1 dL_tells_16 hl (by decide) rfl (fun ls hl => ?_)
      refine k_ldc F (v := -2000000001) (z := -2000000001) (by decide +kernel) (by decide +kernel) dL_tells_18 ?_
      exact W.iret F.1 F.2.1 hr (fun t9 ht _ => ⟨⟨_, P, rfl, rfl, by rw [ht]; exact hP, hD⟩, hS.F ht⟩) hS.2.2 dL_tells_20 hlocks
    · skip
      rw [show an (kTel σ x d) (bI (thr (σ 6 0 x.toNat) d = true)) (-2000000001) (-2000000002) (-2000000002) = -2000000002 from an_2 hk3]
      rw [hk3] at hcl
      have hcl : sS.vm.findClass nmA = some ce.cls := hcl
      refine vx_catch (own := RL) (name := nmA) F.2.2.2.1 [⟨0, 15, 16, 23⟩] ⟨0, 15, 21, 13⟩ [] (htab.trans rfl) (List.forall_mem_cons.mpr ⟨Or.inr ⟨by decide, nmI, k_cond F (w := .classLink RL 23 nmI) (by decide +kernel), hz.2.2.1⟩, (fun _ h9 => nomatch h9)⟩) (by decide) (by decide) (k_cond F (w := .classLink RL 13 nmA) (by decide +kernel)) (va_Nw.use rfl (hz.1.2.2.2.1 _ castA)) hce hcv hcl ?_
      refine lv_astore (lv' := (4, .ref q9) :: [(0, .ref (B 5)), (1, .int (iI x)), (2, .int (iI d)), (3, .int (iI t))]) F.1 F.2.1 dL_tells_21 hl (by decide) rfl (fun ls hl => ?_)
      refine k_ldc F (v := -2000000002) (z := -2000000002) (by decide +kernel) (by decide +kernel) dL_tells_23 ?_
      exact W.iret F.1 F.2.1 hr (fun t9 ht _ => ⟨⟨_, P, rfl, rfl, by rw [ht]; exact hP, hD⟩, hS.F ht⟩) hS.2.2 dL_tells_25 hlocks
  · skip
    rw [show an (kTel σ x d) (bI (thr (σ 6 0 x.toNat) d = true)) (-2000000001) (-2000000002) (-2000000002) = bI (thr (σ 6 0 x.toNat) d = true) from an_0 hk]
    rw [show stt (kTel σ x d) (sTel σ x d t) σ = sTel σ x d t from stt_0 hk]
    refine k_ifb_eq F (tgt := 14) dL_tells_7 (by decide) (fun c9 => ?_) (fun c9 => ?_)
    · skip
      refine k_iconst F dL_tells_14 ?_
      exact W.iret F.1 F.2.1 hr (fun t9 ht _ => ⟨⟨_, P, rfl, by rw [bI_f c9], (by rw [ht]; exact hP), hD⟩, hS.F ht⟩) hS.2.2 dL_tells_15 hlocks
    · skip
      refine k_iconst F dL_tells_10 ?_
      refine lv_goto (tgt := 15) F.1 F.2.1 dL_tells_11 (by decide) ?_
      exact W.iret F.1 F.2.1 hr (fun t9 ht _ => ⟨⟨_, P, rfl, by rw [bI_t c9], (by rw [ht]; exact hP), hD⟩, hS.F ht⟩) hS.2.2 dL_tells_15 hlocks

set_option maxHeartbeats 4000000 in
set_option maxRecDepth 100000 in
theorem mL_changes (l : Launch) (hfl : l.stackTraces = false) (G : gT) (z0 sz0 : Nat) (B : Nat → Nat) (P : Nat → Nat → Nat) (σ : Sg) (x v : Int) (hx : -2147483648 ≤ x ∧ x < 2147483648) (hv : -2147483648 ≤ v ∧ v < 2147483648) {N : Nat} (hI : Jv σ N) : jC l yL_changes wsL_changes { frames := 8, cells := 6, slots := 36, locals := 153 } G z0 sz0 B P σ [.int (iI x), .int (iI v)] (an (kChg σ x v) (σ 3 0 x.toNat) (-2000000001) (-2000000002) (-2000000002)) (stt (kChg σ x v) (su σ 3 0 x.toNat v) σ) 6 36 := by
  refine l_start (own := RL) (cc := cL_changes) (mL := 4) (ret := (some .int)) (hh := [(0, 6, 7, 23), (0, 6, 11, 13)]) (Qc := fun AA => jQ G B (an (kChg σ x v) (σ 3 0 x.toNat) (-2000000001) (-2000000002) (-2000000002)) (stt (kChg σ x v) (su σ 3 0 x.toNat v) σ) AA) (by decide) rfl rfl (Nat.le_of_ble_eq_true rfl) ?_
  intro pP eE sS mM args bB meth cC ls AA F hr hlocks htab hz hK hP hD hA hl
  have hS : sF sS sS.heap [] := va_S.rf
  have hl : lv_has ls 4 [(0, .ref (B 5)), (1, .int (iI x)), (2, .int (iI v))] := hl
  refine lv_aload_n F.1 F.2.1 dL_changes_0 rfl (lv_at hl 0 rfl) ?_
  refine lv_iload_n F.1 F.2.1 dL_changes_1 rfl (lv_at hl 1 rfl) ?_
  refine lv_iload_n F.1 F.2.1 dL_changes_2 rfl (lv_at hl 2 rfl) ?_
  refine l_callW F (n := 2) (w := CW G B P σ (σ 2 0 0).toNat) (wr := []) (W2 := (fun _ : Unit => CW G B P (su σ 3 0 x.toNat v) (σ 2 0 0).toNat)) (asY (CW_adr _ _ _) (mX2_change l hfl G z0 _ B P σ x v hx hv hI)) gL_changes_X2_change rfl rfl rfl (by decide +kernel) ⟨Nat.le_of_ble_eq_true rfl, Nat.le_of_ble_eq_true rfl⟩ hK hP hD hz.1 hS hA (ci := 2) (q0 := 5) rfl rfl rfl rfl hl.1 (Nat.le_of_ble_eq_true rfl) dL_changes_3 ⟨Nat.le_of_ble_eq_true rfl, Nat.le_of_ble_eq_true rfl⟩ (fun hk ce q9 H locs hP hS hce hcv hcl => ?_) (fun hk _ H locs hP hD hS => ?_)
  · skip
    have hk3 : kChg σ x v = 1 ∨ kChg σ x v = 2 := by
      unfold kChg at hk ⊢
      (repeat' split) <;> simp_all
    rw [show stt (kChg σ x v) (su σ 3 0 x.toNat v) σ = σ from stt_n hk]
    rcases hk3 with hk3 | hk3
    · skip
      rw [show an (kChg σ x v) (σ 3 0 x.toNat) (-2000000001) (-2000000002) (-2000000002) = -2000000001 from an_1 hk3]
      rw [hk3] at hcl
      have hcl : sS.vm.findClass nmI = some ce.cls := hcl
      refine vx_catch (own := RL) (name := nmI) F.2.2.2.1 [] ⟨0, 6, 7, 23⟩ [⟨0, 6, 11, 13⟩] (htab.trans rfl) (fun _ h9 => nomatch h9) (by decide) (by decide) (k_cond F (w := .classLink RL 23 nmI) (by decide +kernel)) (va_Nw.use rfl (hz.1.2.2.2.1 _ castI)) hce hcv hcl ?_
      refine lv_astore_n (lv' := (3, .ref q9) :: [(0, .ref (B 5)), (1, .int (iI x)), (2, .int (iI v))]) F.1 F.2.1 dL_changes_7 rfl hl (by decide) rfl (fun ls hl => ?_)
      refine k_ldc F (v := -2000000001) (z := -2000000001) (by decide +kernel) (by decide +kernel) dL_changes_8 ?_
      exact W.iret F.1 F.2.1 hr (fun t9 ht _ => ⟨⟨_, P, rfl, rfl, by rw [ht]; exact hP, hD⟩, hS.F ht⟩) hS.2.2 dL_changes_10 hlocks
    · skip
      rw [show an (kChg σ x v) (σ 3 0 x.toNat) (-2000000001) (-2000000002) (-2000000002) = -2000000002 from an_2 hk3]
      rw [hk3] at hcl
      have hcl : sS.vm.findClass nmA = some ce.cls := hcl
      refine vx_catch (own := RL) (name := nmA) F.2.2.2.1 [⟨0, 6, 7, 23⟩] ⟨0, 6, 11, 13⟩ [] (htab.trans rfl) (List.forall_mem_cons.mpr ⟨Or.inr ⟨by decide, nmI, k_cond F (w := .classLink RL 23 nmI) (by decide +kernel), hz.2.2.1⟩, (fun _ h9 => nomatch h9)⟩) (by decide) (by decide) (k_cond F (w := .classLink RL 13 nmA) (by decide +kernel)) (va_Nw.use rfl (hz.1.2.2.2.1 _ castA)) hce hcv hcl ?_
      refine lv_astore_n (lv' := (3, .ref q9) :: [(0, .ref (B 5)), (1, .int (iI x)), (2, .int (iI v))]) F.1 F.2.1 dL_changes_11 rfl hl (by decide) rfl (fun ls hl => ?_)
      refine k_ldc F (v := -2000000002) (z := -2000000002) (by decide +kernel) (by decide +kernel) dL_changes_12 ?_
      exact W.iret F.1 F.2.1 hr (fun t9 ht _ => ⟨⟨_, P, rfl, rfl, by rw [ht]; exact hP, hD⟩, hS.F ht⟩) hS.2.2 dL_changes_14 hlocks
  · skip
    rw [show an (kChg σ x v) (σ 3 0 x.toNat) (-2000000001) (-2000000002) (-2000000002) = σ 3 0 x.toNat from an_0 hk]
    rw [show stt (kChg σ x v) (su σ 3 0 x.toNat v) σ = su σ 3 0 x.toNat v from stt_0 hk]
    exact W.iret F.1 F.2.1 hr (fun t9 ht _ => ⟨⟨_, P, rfl, rfl, (by rw [ht]; exact hP), hD⟩, hS.F ht⟩) hS.2.2 dL_changes_6 hlocks

set_option maxHeartbeats 4000000 in
set_option maxRecDepth 100000 in
theorem mL_range (l : Launch) (hfl : l.stackTraces = false) (G : gT) (z0 sz0 : Nat) (B : Nat → Nat) (P : Nat → Nat → Nat) (σ : Sg) (v d : Int) (hv : -2147483648 ≤ v ∧ v < 2147483648) (hd : -2147483648 ≤ d ∧ d < 2147483648) {N : Nat} (hI : Jv σ N) : jC l yL_range wsL_range { frames := 8, cells := 6, slots := 36, locals := 154 } G z0 sz0 B P σ [.int (iI v), .int (iI d)] (an (kRng v d) (vRng σ v d (σ 1 0 0).toNat) (-2000000002) (-2000000002) (-2000000002)) (σ) 6 36 := by
  refine l_start (own := RL) (cc := cL_range) (mL := 4) (ret := (some .int)) (hh := [(0, 6, 7, 13)]) (Qc := fun AA => jQ G B (an (kRng v d) (vRng σ v d (σ 1 0 0).toNat) (-2000000002) (-2000000002) (-2000000002)) (σ) AA) (by decide) rfl rfl (Nat.le_of_ble_eq_true rfl) ?_
  intro pP eE sS mM args bB meth cC ls AA F hr hlocks htab hz hK hP hD hA hl
  have hS : sF sS sS.heap [] := va_S.rf
  have hl : lv_has ls 4 [(0, .ref (B 5)), (1, .int (iI v)), (2, .int (iI d))] := hl
  refine lv_aload_n F.1 F.2.1 dL_range_0 rfl (lv_at hl 0 rfl) ?_
  refine lv_iload_n F.1 F.2.1 dL_range_1 rfl (lv_at hl 1 rfl) ?_
  refine lv_iload_n F.1 F.2.1 dL_range_2 rfl (lv_at hl 2 rfl) ?_
  refine l_callW F (n := 2) (w := CW G B P σ (σ 2 0 0).toNat) (wr := []) (W2 := (fun _ : Unit => CW G B P σ (σ 2 0 0).toNat)) (asW (mX2_range l hfl G z0 B P σ v d hv hd hI)) gL_range_X2_range rfl rfl rfl (by decide +kernel) ⟨Nat.le_of_ble_eq_true rfl, Nat.le_of_ble_eq_true rfl⟩ hK hP hD hz.1 hS hA (ci := 2) (q0 := 5) rfl rfl rfl rfl hl.1 (Nat.le_of_ble_eq_true rfl) dL_range_3 ⟨Nat.le_of_ble_eq_true rfl, Nat.le_of_ble_eq_true rfl⟩ (fun hk ce q9 H locs hP hS hce hcv hcl => ?_) (fun hk _ H locs hP hD hS => ?_)
  · skip
    have hk3 : kRng v d = 1 := by
      unfold kRng at hk ⊢
      (repeat' split) <;> simp_all
    rw [show an (kRng v d) (vRng σ v d (σ 1 0 0).toNat) (-2000000002) (-2000000002) (-2000000002) = -2000000002 from an_1 hk3]
    rw [hk3] at hcl
    have hcl : sS.vm.findClass nmA = some ce.cls := hcl
    refine vx_catch (own := RL) (name := nmA) F.2.2.2.1 [] ⟨0, 6, 7, 13⟩ [] (htab.trans rfl) (fun _ h9 => nomatch h9) (by decide) (by decide) (k_cond F (w := .classLink RL 13 nmA) (by decide +kernel)) (va_Nw.use rfl (hz.1.2.2.2.1 _ castA)) hce hcv hcl ?_
    refine lv_astore_n (lv' := (3, .ref q9) :: [(0, .ref (B 5)), (1, .int (iI v)), (2, .int (iI d))]) F.1 F.2.1 dL_range_7 rfl hl (by decide) rfl (fun ls hl => ?_)
    refine k_ldc F (v := -2000000002) (z := -2000000002) (by decide +kernel) (by decide +kernel) dL_range_8 ?_
    exact W.iret F.1 F.2.1 hr (fun t9 ht _ => ⟨⟨_, P, rfl, rfl, by rw [ht]; exact hP, hD⟩, hS.F ht⟩) hS.2.2 dL_range_10 hlocks
  · skip
    rw [show an (kRng v d) (vRng σ v d (σ 1 0 0).toNat) (-2000000002) (-2000000002) (-2000000002) = vRng σ v d (σ 1 0 0).toNat from an_0 hk]
    exact W.iret F.1 F.2.1 hr (fun t9 ht _ => ⟨⟨_, P, rfl, rfl, (by rw [ht]; exact hP), hD⟩, hS.F ht⟩) hS.2.2 dL_range_6 hlocks

set_option maxHeartbeats 4000000 in
set_option maxRecDepth 100000 in
theorem mL_chords (l : Launch) (hfl : l.stackTraces = false) (G : gT) (z0 sz0 : Nat) (B : Nat → Nat) (P : Nat → Nat → Nat) (σ : Sg) (a b c d : Int) (ha : -2147483648 ≤ a ∧ a < 2147483648) (hb : -2147483648 ≤ b ∧ b < 2147483648) (hc : -2147483648 ≤ c ∧ c < 2147483648) (hd : -2147483648 ≤ d ∧ d < 2147483648) {N : Nat} (hI : Jv σ N) : jC l yL_chords wsL_chords { frames := 8, cells := 6, slots := 36, locals := 155 } G z0 sz0 B P σ [.int (iI a), .int (iI b), .int (iI c), .int (iI d)] (an (kChd σ a b c d) (σ 8 (σ 2 0 0).toNat 0 + 1) (-2000000002) (-2000000003) (-2000000003)) (stt (kChd σ a b c d) (sChd σ a b c d) σ) 6 36 := by
  refine l_start (own := RL) (cc := cL_chords) (mL := 6) (ret := (some .int)) (hh := [(0, 9, 10, 13), (0, 9, 15, 16)]) (Qc := fun AA => jQ G B (an (kChd σ a b c d) (σ 8 (σ 2 0 0).toNat 0 + 1) (-2000000002) (-2000000003) (-2000000003)) (stt (kChd σ a b c d) (sChd σ a b c d) σ) AA) (by decide) rfl rfl (Nat.le_of_ble_eq_true rfl) ?_
  intro pP eE sS mM args bB meth cC ls AA F hr hlocks htab hz hK hP hD hA hl
  have hS : sF sS sS.heap [] := va_S.rf
  have hl : lv_has ls 6 [(0, .ref (B 5)), (1, .int (iI a)), (2, .int (iI b)), (3, .int (iI c)), (4, .int (iI d))] := hl
  refine lv_aload_n F.1 F.2.1 dL_chords_0 rfl (lv_at hl 0 rfl) ?_
  refine lv_iload_n F.1 F.2.1 dL_chords_1 rfl (lv_at hl 1 rfl) ?_
  refine lv_iload_n F.1 F.2.1 dL_chords_2 rfl (lv_at hl 2 rfl) ?_
  refine lv_iload_n F.1 F.2.1 dL_chords_3 rfl (lv_at hl 3 rfl) ?_
  refine lv_iload F.1 F.2.1 dL_chords_4 (lv_at hl 4 rfl) ?_
  refine l_callW F (n := 4) (w := CW G B P σ (σ 2 0 0).toNat) (wr := []) (W2 := (fun _ : Unit => CW G B P (sChd σ a b c d) (σ 2 0 0).toNat)) (asY (CW_adr _ _ _) (mX2_chord l hfl G z0 _ B P σ a b c d ha hb hc hd hI)) gL_chords_X2_chord rfl rfl rfl (by decide +kernel) ⟨Nat.le_of_ble_eq_true rfl, Nat.le_of_ble_eq_true rfl⟩ hK hP hD hz.1 hS hA (ci := 2) (q0 := 5) rfl rfl rfl rfl hl.1 (Nat.le_of_ble_eq_true rfl) dL_chords_6 ⟨Nat.le_of_ble_eq_true rfl, Nat.le_of_ble_eq_true rfl⟩ (fun hk ce q9 H locs hP hS hce hcv hcl => ?_) (fun hk _ H locs hP hD hS => ?_)
  · skip
    have hk3 : kChd σ a b c d = 1 ∨ kChd σ a b c d = 2 := by
      unfold kChd at hk ⊢
      (repeat' split) <;> simp_all
    rw [show stt (kChd σ a b c d) (sChd σ a b c d) σ = σ from stt_n hk]
    rcases hk3 with hk3 | hk3
    · skip
      rw [show an (kChd σ a b c d) (σ 8 (σ 2 0 0).toNat 0 + 1) (-2000000002) (-2000000003) (-2000000003) = -2000000002 from an_1 hk3]
      rw [hk3] at hcl
      have hcl : sS.vm.findClass nmA = some ce.cls := hcl
      refine vx_catch (own := RL) (name := nmA) F.2.2.2.1 [] ⟨0, 9, 10, 13⟩ [⟨0, 9, 15, 16⟩] (htab.trans rfl) (fun _ h9 => nomatch h9) (by decide) (by decide) (k_cond F (w := .classLink RL 13 nmA) (by decide +kernel)) (va_Nw.use rfl (hz.1.2.2.2.1 _ castA)) hce hcv hcl ?_
      refine lv_astore (lv' := (5, .ref q9) :: [(0, .ref (B 5)), (1, .int (iI a)), (2, .int (iI b)), (3, .int (iI c)), (4, .int (iI d))]) F.1 F.2.1 dL_chords_10 hl (by decide) rfl (fun ls hl => ?_)
      refine k_ldc F (v := -2000000002) (z := -2000000002) (by decide +kernel) (by decide +kernel) dL_chords_12 ?_
      exact W.iret F.1 F.2.1 hr (fun t9 ht _ => ⟨⟨_, P, rfl, rfl, by rw [ht]; exact hP, hD⟩, hS.F ht⟩) hS.2.2 dL_chords_14 hlocks
    · skip
      rw [show an (kChd σ a b c d) (σ 8 (σ 2 0 0).toNat 0 + 1) (-2000000002) (-2000000003) (-2000000003) = -2000000003 from an_2 hk3]
      rw [hk3] at hcl
      have hcl : sS.vm.findClass nmS = some ce.cls := hcl
      refine vx_catch (own := RL) (name := nmS) F.2.2.2.1 [⟨0, 9, 10, 13⟩] ⟨0, 9, 15, 16⟩ [] (htab.trans rfl) (List.forall_mem_cons.mpr ⟨Or.inr ⟨by decide, nmA, k_cond F (w := .classLink RL 13 nmA) (by decide +kernel), hz.2.1⟩, (fun _ h9 => nomatch h9)⟩) (by decide) (by decide) (k_cond F (w := .classLink RL 16 nmS) (by decide +kernel)) (va_Nw.use rfl (hz.1.2.2.2.1 _ castS)) hce hcv hcl ?_
      refine lv_astore (lv' := (5, .ref q9) :: [(0, .ref (B 5)), (1, .int (iI a)), (2, .int (iI b)), (3, .int (iI c)), (4, .int (iI d))]) F.1 F.2.1 dL_chords_15 hl (by decide) rfl (fun ls hl => ?_)
      refine k_ldc F (v := -2000000003) (z := -2000000003) (by decide +kernel) (by decide +kernel) dL_chords_17 ?_
      exact W.iret F.1 F.2.1 hr (fun t9 ht _ => ⟨⟨_, P, rfl, rfl, by rw [ht]; exact hP, hD⟩, hS.F ht⟩) hS.2.2 dL_chords_19 hlocks
  · skip
    rw [show an (kChd σ a b c d) (σ 8 (σ 2 0 0).toNat 0 + 1) (-2000000002) (-2000000003) (-2000000003) = σ 8 (σ 2 0 0).toNat 0 + 1 from an_0 hk]
    rw [show stt (kChd σ a b c d) (sChd σ a b c d) σ = sChd σ a b c d from stt_0 hk]
    exact W.iret F.1 F.2.1 hr (fun t9 ht _ => ⟨⟨_, P, rfl, rfl, (by rw [ht]; exact hP), hD⟩, hS.F ht⟩) hS.2.2 dL_chords_9 hlocks

set_option maxHeartbeats 4000000 in
set_option maxRecDepth 100000 in
theorem mL_pieces (l : Launch) (hfl : l.stackTraces = false) (G : gT) (z0 sz0 : Nat) (B : Nat → Nat) (P : Nat → Nat → Nat) (σ : Sg) (x : Int) (hx : -2147483648 ≤ x ∧ x < 2147483648) {N : Nat} (hI : Jv σ N) : jC l yL_pieces wsL_pieces { frames := 7, cells := 6, slots := 120, locals := 132 } G z0 sz0 B P σ [.int (iI x)] (an (kPce σ x) (σ 2 0 0) (-2000000002) (-2000000003) (-2000000003)) (stt (kPce σ x) (sPce σ x) σ) 6 120 := by
  refine l_start (own := RL) (cc := cL_pieces) (mL := 3) (ret := (some .int)) (hh := [(0, 5, 6, 13), (0, 5, 10, 16)]) (Qc := fun AA => jQ G B (an (kPce σ x) (σ 2 0 0) (-2000000002) (-2000000003) (-2000000003)) (stt (kPce σ x) (sPce σ x) σ) AA) (by decide) rfl rfl (Nat.le_of_ble_eq_true rfl) ?_
  intro pP eE sS mM args bB meth cC ls AA F hr hlocks htab hz hK hP hD hA hl
  have hS : sF sS sS.heap [] := va_S.rf
  have hl : lv_has ls 3 [(0, .ref (B 5)), (1, .int (iI x))] := hl
  refine lv_aload_n F.1 F.2.1 dL_pieces_0 rfl (lv_at hl 0 rfl) ?_
  refine lv_iload_n F.1 F.2.1 dL_pieces_1 rfl (lv_at hl 1 rfl) ?_
  refine l_callW F (n := 1) (w := CW G B P σ (σ 2 0 0).toNat) (wr := []) (W2 := (fun Pn => CW G B Pn (sPce σ x) ((σ 2 0 0).toNat + 1))) (mX2_addPiece l hfl G z0 _ B P σ x hx hI) gL_pieces_X2_addPiece rfl rfl rfl (by decide +kernel) ⟨Nat.le_of_ble_eq_true rfl, Nat.le_of_ble_eq_true rfl⟩ hK hP hD hz.1 hS hA (ci := 2) (q0 := 5) rfl rfl rfl rfl hl.1 (Nat.le_of_ble_eq_true rfl) dL_pieces_2 ⟨Nat.le_of_ble_eq_true rfl, Nat.le_of_ble_eq_true rfl⟩ (fun hk ce q9 H locs hP hS hce hcv hcl => ?_) (fun hk Pn H locs hP hD hS => ?_)
  · skip
    have hk3 : kPce σ x = 1 ∨ kPce σ x = 2 := by
      unfold kPce at hk ⊢
      (repeat' split) <;> simp_all
    rw [show stt (kPce σ x) (sPce σ x) σ = σ from stt_n hk]
    rcases hk3 with hk3 | hk3
    · skip
      rw [show an (kPce σ x) (σ 2 0 0) (-2000000002) (-2000000003) (-2000000003) = -2000000002 from an_1 hk3]
      rw [hk3] at hcl
      have hcl : sS.vm.findClass nmA = some ce.cls := hcl
      refine vx_catch (own := RL) (name := nmA) F.2.2.2.1 [] ⟨0, 5, 6, 13⟩ [⟨0, 5, 10, 16⟩] (htab.trans rfl) (fun _ h9 => nomatch h9) (by decide) (by decide) (k_cond F (w := .classLink RL 13 nmA) (by decide +kernel)) (va_Nw.use rfl (hz.1.2.2.2.1 _ castA)) hce hcv hcl ?_
      refine lv_astore_n (lv' := (2, .ref q9) :: [(0, .ref (B 5)), (1, .int (iI x))]) F.1 F.2.1 dL_pieces_6 rfl hl (by decide) rfl (fun ls hl => ?_)
      refine k_ldc F (v := -2000000002) (z := -2000000002) (by decide +kernel) (by decide +kernel) dL_pieces_7 ?_
      exact W.iret F.1 F.2.1 hr (fun t9 ht _ => ⟨⟨_, P, rfl, rfl, by rw [ht]; exact hP, hD⟩, hS.F ht⟩) hS.2.2 dL_pieces_9 hlocks
    · skip
      rw [show an (kPce σ x) (σ 2 0 0) (-2000000002) (-2000000003) (-2000000003) = -2000000003 from an_2 hk3]
      rw [hk3] at hcl
      have hcl : sS.vm.findClass nmS = some ce.cls := hcl
      refine vx_catch (own := RL) (name := nmS) F.2.2.2.1 [⟨0, 5, 6, 13⟩] ⟨0, 5, 10, 16⟩ [] (htab.trans rfl) (List.forall_mem_cons.mpr ⟨Or.inr ⟨by decide, nmA, k_cond F (w := .classLink RL 13 nmA) (by decide +kernel), hz.2.1⟩, (fun _ h9 => nomatch h9)⟩) (by decide) (by decide) (k_cond F (w := .classLink RL 16 nmS) (by decide +kernel)) (va_Nw.use rfl (hz.1.2.2.2.1 _ castS)) hce hcv hcl ?_
      refine lv_astore_n (lv' := (2, .ref q9) :: [(0, .ref (B 5)), (1, .int (iI x))]) F.1 F.2.1 dL_pieces_10 rfl hl (by decide) rfl (fun ls hl => ?_)
      refine k_ldc F (v := -2000000003) (z := -2000000003) (by decide +kernel) (by decide +kernel) dL_pieces_11 ?_
      exact W.iret F.1 F.2.1 hr (fun t9 ht _ => ⟨⟨_, P, rfl, rfl, by rw [ht]; exact hP, hD⟩, hS.F ht⟩) hS.2.2 dL_pieces_13 hlocks
  · skip
    rw [show an (kPce σ x) (σ 2 0 0) (-2000000002) (-2000000003) (-2000000003) = σ 2 0 0 from an_0 hk]
    rw [show stt (kPce σ x) (sPce σ x) σ = sPce σ x from stt_0 hk]
    have e2 : ((sPce σ x) 2 0 0).toNat = (σ 2 0 0).toNat + 1 := by have := hI.2.2.1; show (σ 2 0 0 + 1).toNat = _; omega
    exact W.iret F.1 F.2.1 hr (fun t9 ht _ => ⟨⟨_, Pn, rfl, rfl, (by rw [ht]; show gP G (CW G B Pn _ _) H; rw [e2]; exact hP), (by show va_D AA (CW G B Pn _ _); rw [e2]; exact hD)⟩, hS.F ht⟩) hS.2.2 dL_pieces_5 hlocks

set_option maxHeartbeats 4000000 in
set_option maxRecDepth 100000 in
theorem mL_tones (l : Launch) (hfl : l.stackTraces = false) (G : gT) (z0 sz0 : Nat) (B : Nat → Nat) (P : Nat → Nat → Nat) (σ : Sg) (x y v t : Int) (hx : -2147483648 ≤ x ∧ x < 2147483648) (hy : -2147483648 ≤ y ∧ y < 2147483648) (hv : -2147483648 ≤ v ∧ v < 2147483648) (ht : -2147483648 ≤ t ∧ t < 2147483648) {N : Nat} (hI : Jv σ N) : jC l yL_tones wsL_tones { frames := 8, cells := 6, slots := 36, locals := 158 } G z0 sz0 B P σ [.int (iI x), .int (iI y), .int (iI v), .int (iI t)] (an (kSet σ x y v t) (σ 7 x.toNat (4 * y.toNat + v.toNat)) (-2000000001) (-2000000002) (-2000000003)) (stt (kSet σ x y v t) (sSet σ x y v t) σ) 6 36 := by
  refine l_start (own := RL) (cc := cL_tones) (mL := 6) (ret := (some .int)) (hh := [(0, 9, 10, 23), (0, 9, 15, 13), (0, 9, 20, 16)]) (Qc := fun AA => jQ G B (an (kSet σ x y v t) (σ 7 x.toNat (4 * y.toNat + v.toNat)) (-2000000001) (-2000000002) (-2000000003)) (stt (kSet σ x y v t) (sSet σ x y v t) σ) AA) (by decide) rfl rfl (Nat.le_of_ble_eq_true rfl) ?_
  intro pP eE sS mM args bB meth cC ls AA F hr hlocks htab hz hK hP hD hA hl
  have hS : sF sS sS.heap [] := va_S.rf
  have hl : lv_has ls 6 [(0, .ref (B 5)), (1, .int (iI x)), (2, .int (iI y)), (3, .int (iI v)), (4, .int (iI t))] := hl
  refine lv_aload_n F.1 F.2.1 dL_tones_0 rfl (lv_at hl 0 rfl) ?_
  refine lv_iload_n F.1 F.2.1 dL_tones_1 rfl (lv_at hl 1 rfl) ?_
  refine lv_iload_n F.1 F.2.1 dL_tones_2 rfl (lv_at hl 2 rfl) ?_
  refine lv_iload_n F.1 F.2.1 dL_tones_3 rfl (lv_at hl 3 rfl) ?_
  refine lv_iload F.1 F.2.1 dL_tones_4 (lv_at hl 4 rfl) ?_
  refine l_callW F (n := 4) (w := CW G B P σ (σ 2 0 0).toNat) (wr := []) (W2 := (fun _ : Unit => CW G B P (sSet σ x y v t) (σ 2 0 0).toNat)) (asY (CW_adr _ _ _) (mX2_setTone l hfl G z0 _ B P σ x y v t hx hy hv ht hI)) gL_tones_X2_setTone rfl rfl rfl (by decide +kernel) ⟨Nat.le_of_ble_eq_true rfl, Nat.le_of_ble_eq_true rfl⟩ hK hP hD hz.1 hS hA (ci := 2) (q0 := 5) rfl rfl rfl rfl hl.1 (Nat.le_of_ble_eq_true rfl) dL_tones_6 ⟨Nat.le_of_ble_eq_true rfl, Nat.le_of_ble_eq_true rfl⟩ (fun hk ce q9 H locs hP hS hce hcv hcl => ?_) (fun hk _ H locs hP hD hS => ?_)
  · skip
    have hk3 : kSet σ x y v t = 1 ∨ kSet σ x y v t = 2 ∨ kSet σ x y v t = 3 := by
      unfold kSet at hk ⊢
      (repeat' split) <;> simp_all
    rw [show stt (kSet σ x y v t) (sSet σ x y v t) σ = σ from stt_n hk]
    rcases hk3 with hk3 | hk3 | hk3
    · skip
      rw [show an (kSet σ x y v t) (σ 7 x.toNat (4 * y.toNat + v.toNat)) (-2000000001) (-2000000002) (-2000000003) = -2000000001 from an_1 hk3]
      rw [hk3] at hcl
      have hcl : sS.vm.findClass nmI = some ce.cls := hcl
      refine vx_catch (own := RL) (name := nmI) F.2.2.2.1 [] ⟨0, 9, 10, 23⟩ [⟨0, 9, 15, 13⟩, ⟨0, 9, 20, 16⟩] (htab.trans rfl) (fun _ h9 => nomatch h9) (by decide) (by decide) (k_cond F (w := .classLink RL 23 nmI) (by decide +kernel)) (va_Nw.use rfl (hz.1.2.2.2.1 _ castI)) hce hcv hcl ?_
      refine lv_astore (lv' := (5, .ref q9) :: [(0, .ref (B 5)), (1, .int (iI x)), (2, .int (iI y)), (3, .int (iI v)), (4, .int (iI t))]) F.1 F.2.1 dL_tones_10 hl (by decide) rfl (fun ls hl => ?_)
      refine k_ldc F (v := -2000000001) (z := -2000000001) (by decide +kernel) (by decide +kernel) dL_tones_12 ?_
      exact W.iret F.1 F.2.1 hr (fun t9 ht _ => ⟨⟨_, P, rfl, rfl, by rw [ht]; exact hP, hD⟩, hS.F ht⟩) hS.2.2 dL_tones_14 hlocks
    · skip
      rw [show an (kSet σ x y v t) (σ 7 x.toNat (4 * y.toNat + v.toNat)) (-2000000001) (-2000000002) (-2000000003) = -2000000002 from an_2 hk3]
      rw [hk3] at hcl
      have hcl : sS.vm.findClass nmA = some ce.cls := hcl
      refine vx_catch (own := RL) (name := nmA) F.2.2.2.1 [⟨0, 9, 10, 23⟩] ⟨0, 9, 15, 13⟩ [⟨0, 9, 20, 16⟩] (htab.trans rfl) (List.forall_mem_cons.mpr ⟨Or.inr ⟨by decide, nmI, k_cond F (w := .classLink RL 23 nmI) (by decide +kernel), hz.2.2.1⟩, (fun _ h9 => nomatch h9)⟩) (by decide) (by decide) (k_cond F (w := .classLink RL 13 nmA) (by decide +kernel)) (va_Nw.use rfl (hz.1.2.2.2.1 _ castA)) hce hcv hcl ?_
      refine lv_astore (lv' := (5, .ref q9) :: [(0, .ref (B 5)), (1, .int (iI x)), (2, .int (iI y)), (3, .int (iI v)), (4, .int (iI t))]) F.1 F.2.1 dL_tones_15 hl (by decide) rfl (fun ls hl => ?_)
      refine k_ldc F (v := -2000000002) (z := -2000000002) (by decide +kernel) (by decide +kernel) dL_tones_17 ?_
      exact W.iret F.1 F.2.1 hr (fun t9 ht _ => ⟨⟨_, P, rfl, rfl, by rw [ht]; exact hP, hD⟩, hS.F ht⟩) hS.2.2 dL_tones_19 hlocks
    · skip
      rw [show an (kSet σ x y v t) (σ 7 x.toNat (4 * y.toNat + v.toNat)) (-2000000001) (-2000000002) (-2000000003) = -2000000003 from an_3 hk3]
      rw [hk3] at hcl
      have hcl : sS.vm.findClass nmS = some ce.cls := hcl
      refine vx_catch (own := RL) (name := nmS) F.2.2.2.1 [⟨0, 9, 10, 23⟩, ⟨0, 9, 15, 13⟩] ⟨0, 9, 20, 16⟩ [] (htab.trans rfl) (List.forall_mem_cons.mpr ⟨Or.inr ⟨by decide, nmI, k_cond F (w := .classLink RL 23 nmI) (by decide +kernel), hz.2.2.2⟩, (List.forall_mem_cons.mpr ⟨Or.inr ⟨by decide, nmA, k_cond F (w := .classLink RL 13 nmA) (by decide +kernel), hz.2.1⟩, (fun _ h9 => nomatch h9)⟩)⟩) (by decide) (by decide) (k_cond F (w := .classLink RL 16 nmS) (by decide +kernel)) (va_Nw.use rfl (hz.1.2.2.2.1 _ castS)) hce hcv hcl ?_
      refine lv_astore (lv' := (5, .ref q9) :: [(0, .ref (B 5)), (1, .int (iI x)), (2, .int (iI y)), (3, .int (iI v)), (4, .int (iI t))]) F.1 F.2.1 dL_tones_20 hl (by decide) rfl (fun ls hl => ?_)
      refine k_ldc F (v := -2000000003) (z := -2000000003) (by decide +kernel) (by decide +kernel) dL_tones_22 ?_
      exact W.iret F.1 F.2.1 hr (fun t9 ht _ => ⟨⟨_, P, rfl, rfl, by rw [ht]; exact hP, hD⟩, hS.F ht⟩) hS.2.2 dL_tones_24 hlocks
  · skip
    rw [show an (kSet σ x y v t) (σ 7 x.toNat (4 * y.toNat + v.toNat)) (-2000000001) (-2000000002) (-2000000003) = σ 7 x.toNat (4 * y.toNat + v.toNat) from an_0 hk]
    rw [show stt (kSet σ x y v t) (sSet σ x y v t) σ = sSet σ x y v t from stt_0 hk]
    exact W.iret F.1 F.2.1 hr (fun t9 ht _ => ⟨⟨_, P, rfl, rfl, (by rw [ht]; exact hP), hD⟩, hS.F ht⟩) hS.2.2 dL_tones_9 hlocks

set_option maxHeartbeats 4000000 in
set_option maxRecDepth 100000 in
theorem mL_faultsAt (l : Launch) (hfl : l.stackTraces = false) (G : gT) (z0 sz0 : Nat) (B : Nat → Nat) (P : Nat → Nat → Nat) (σ : Sg) (x y : Int) (hx : -2147483648 ≤ x ∧ x < 2147483648) (hy : -2147483648 ≤ y ∧ y < 2147483648) {N : Nat} (hI : Jv σ N) : jC l yL_faultsAt wsL_faultsAt { frames := 8, cells := 6, slots := 36, locals := 155 } G z0 sz0 B P σ [.int (iI x), .int (iI y)] (an (kFat σ x y) (mvf (σ 7 x.toNat) y.toNat) (-2000000001) (-2000000001) (-2000000001)) (σ) 6 36 := by
  refine l_start (own := RL) (cc := cL_faultsAt) (mL := 4) (ret := (some .int)) (hh := [(0, 6, 7, 23)]) (Qc := fun AA => jQ G B (an (kFat σ x y) (mvf (σ 7 x.toNat) y.toNat) (-2000000001) (-2000000001) (-2000000001)) (σ) AA) (by decide) rfl rfl (Nat.le_of_ble_eq_true rfl) ?_
  intro pP eE sS mM args bB meth cC ls AA F hr hlocks htab hz hK hP hD hA hl
  have hS : sF sS sS.heap [] := va_S.rf
  have hl : lv_has ls 4 [(0, .ref (B 5)), (1, .int (iI x)), (2, .int (iI y))] := hl
  refine lv_aload_n F.1 F.2.1 dL_faultsAt_0 rfl (lv_at hl 0 rfl) ?_
  refine lv_iload_n F.1 F.2.1 dL_faultsAt_1 rfl (lv_at hl 1 rfl) ?_
  refine lv_iload_n F.1 F.2.1 dL_faultsAt_2 rfl (lv_at hl 2 rfl) ?_
  refine l_callW F (n := 2) (w := CW G B P σ (σ 2 0 0).toNat) (wr := []) (W2 := (fun _ : Unit => CW G B P σ (σ 2 0 0).toNat)) (asW (mX2_faultsAt l hfl G z0 B P σ x y hx hy hI)) gL_faultsAt_X2_faultsAt rfl rfl rfl (by decide +kernel) ⟨Nat.le_of_ble_eq_true rfl, Nat.le_of_ble_eq_true rfl⟩ hK hP hD hz.1 hS hA (ci := 2) (q0 := 5) rfl rfl rfl rfl hl.1 (Nat.le_of_ble_eq_true rfl) dL_faultsAt_3 ⟨Nat.le_of_ble_eq_true rfl, Nat.le_of_ble_eq_true rfl⟩ (fun hk ce q9 H locs hP hS hce hcv hcl => ?_) (fun hk _ H locs hP hD hS => ?_)
  · skip
    have hk3 : kFat σ x y = 1 := by
      unfold kFat at hk ⊢
      (repeat' split) <;> simp_all
    rw [show an (kFat σ x y) (mvf (σ 7 x.toNat) y.toNat) (-2000000001) (-2000000001) (-2000000001) = -2000000001 from an_1 hk3]
    rw [hk3] at hcl
    have hcl : sS.vm.findClass nmI = some ce.cls := hcl
    refine vx_catch (own := RL) (name := nmI) F.2.2.2.1 [] ⟨0, 6, 7, 23⟩ [] (htab.trans rfl) (fun _ h9 => nomatch h9) (by decide) (by decide) (k_cond F (w := .classLink RL 23 nmI) (by decide +kernel)) (va_Nw.use rfl (hz.1.2.2.2.1 _ castI)) hce hcv hcl ?_
    refine lv_astore_n (lv' := (3, .ref q9) :: [(0, .ref (B 5)), (1, .int (iI x)), (2, .int (iI y))]) F.1 F.2.1 dL_faultsAt_7 rfl hl (by decide) rfl (fun ls hl => ?_)
    refine k_ldc F (v := -2000000001) (z := -2000000001) (by decide +kernel) (by decide +kernel) dL_faultsAt_8 ?_
    exact W.iret F.1 F.2.1 hr (fun t9 ht _ => ⟨⟨_, P, rfl, rfl, by rw [ht]; exact hP, hD⟩, hS.F ht⟩) hS.2.2 dL_faultsAt_10 hlocks
  · skip
    rw [show an (kFat σ x y) (mvf (σ 7 x.toNat) y.toNat) (-2000000001) (-2000000001) (-2000000001) = mvf (σ 7 x.toNat) y.toNat from an_0 hk]
    exact W.iret F.1 F.2.1 hr (fun t9 ht _ => ⟨⟨_, P, rfl, rfl, (by rw [ht]; exact hP), hD⟩, hS.F ht⟩) hS.2.2 dL_faultsAt_6 hlocks

set_option maxHeartbeats 4000000 in
set_option maxRecDepth 100000 in
theorem mL_faults (l : Launch) (hfl : l.stackTraces = false) (G : gT) (z0 sz0 : Nat) (B : Nat → Nat) (P : Nat → Nat → Nat) (σ : Sg) (x : Int) (hx : -2147483648 ≤ x ∧ x < 2147483648) {N : Nat} (hI : Jv σ N) : jC l yL_faults wsL_faults { frames := 8, cells := 6, slots := 36, locals := 153 } G z0 sz0 B P σ [.int (iI x)] (an (kPic σ x) (alf (σ 7 x.toNat) (σ 8 x.toNat 0)) (-2000000001) (-2000000001) (-2000000001)) (σ) 6 36 := by
  refine l_start (own := RL) (cc := cL_faults) (mL := 3) (ret := (some .int)) (hh := [(0, 5, 6, 23)]) (Qc := fun AA => jQ G B (an (kPic σ x) (alf (σ 7 x.toNat) (σ 8 x.toNat 0)) (-2000000001) (-2000000001) (-2000000001)) (σ) AA) (by decide) rfl rfl (Nat.le_of_ble_eq_true rfl) ?_
  intro pP eE sS mM args bB meth cC ls AA F hr hlocks htab hz hK hP hD hA hl
  have hS : sF sS sS.heap [] := va_S.rf
  have hl : lv_has ls 3 [(0, .ref (B 5)), (1, .int (iI x))] := hl
  refine lv_aload_n F.1 F.2.1 dL_faults_0 rfl (lv_at hl 0 rfl) ?_
  refine lv_iload_n F.1 F.2.1 dL_faults_1 rfl (lv_at hl 1 rfl) ?_
  refine l_callW F (n := 1) (w := CW G B P σ (σ 2 0 0).toNat) (wr := []) (W2 := (fun _ : Unit => CW G B P σ (σ 2 0 0).toNat)) (asW (mX2_faults l hfl G z0 B P σ x hx hI)) gL_faults_X2_faults rfl rfl rfl (by decide +kernel) ⟨Nat.le_of_ble_eq_true rfl, Nat.le_of_ble_eq_true rfl⟩ hK hP hD hz.1 hS hA (ci := 2) (q0 := 5) rfl rfl rfl rfl hl.1 (Nat.le_of_ble_eq_true rfl) dL_faults_2 ⟨Nat.le_of_ble_eq_true rfl, Nat.le_of_ble_eq_true rfl⟩ (fun hk ce q9 H locs hP hS hce hcv hcl => ?_) (fun hk _ H locs hP hD hS => ?_)
  · skip
    have hk3 : kPic σ x = 1 := by
      unfold kPic at hk ⊢
      (repeat' split) <;> simp_all
    rw [show an (kPic σ x) (alf (σ 7 x.toNat) (σ 8 x.toNat 0)) (-2000000001) (-2000000001) (-2000000001) = -2000000001 from an_1 hk3]
    rw [hk3] at hcl
    have hcl : sS.vm.findClass nmI = some ce.cls := hcl
    refine vx_catch (own := RL) (name := nmI) F.2.2.2.1 [] ⟨0, 5, 6, 23⟩ [] (htab.trans rfl) (fun _ h9 => nomatch h9) (by decide) (by decide) (k_cond F (w := .classLink RL 23 nmI) (by decide +kernel)) (va_Nw.use rfl (hz.1.2.2.2.1 _ castI)) hce hcv hcl ?_
    refine lv_astore_n (lv' := (2, .ref q9) :: [(0, .ref (B 5)), (1, .int (iI x))]) F.1 F.2.1 dL_faults_6 rfl hl (by decide) rfl (fun ls hl => ?_)
    refine k_ldc F (v := -2000000001) (z := -2000000001) (by decide +kernel) (by decide +kernel) dL_faults_7 ?_
    exact W.iret F.1 F.2.1 hr (fun t9 ht _ => ⟨⟨_, P, rfl, rfl, by rw [ht]; exact hP, hD⟩, hS.F ht⟩) hS.2.2 dL_faults_9 hlocks
  · skip
    rw [show an (kPic σ x) (alf (σ 7 x.toNat) (σ 8 x.toNat 0)) (-2000000001) (-2000000001) (-2000000001) = alf (σ 7 x.toNat) (σ 8 x.toNat 0) from an_0 hk]
    exact W.iret F.1 F.2.1 hr (fun t9 ht _ => ⟨⟨_, P, rfl, rfl, (by rw [ht]; exact hP), hD⟩, hS.F ht⟩) hS.2.2 dL_faults_5 hlocks

set_option maxHeartbeats 4000000 in
set_option maxRecDepth 100000 in
theorem mL_least (l : Launch) (hfl : l.stackTraces = false) (G : gT) (z0 sz0 : Nat) (B : Nat → Nat) (P : Nat → Nat → Nat) (σ : Sg) (x y v : Int) (hx : -2147483648 ≤ x ∧ x < 2147483648) (hy : -2147483648 ≤ y ∧ y < 2147483648) (hv : -2147483648 ≤ v ∧ v < 2147483648) {N : Nat} (hI : Jv σ N) : jC l yL_least wsL_least { frames := 8, cells := 6, slots := 36, locals := 165 } G z0 sz0 B P σ [.int (iI x), .int (iI y), .int (iI v)] (an (kLst σ x y v) (lft (σ 7 x.toNat) y.toNat v.toNat (σ 8 x.toNat 0)) (-2000000001) (-2000000002) (-2000000002)) (σ) 6 36 := by
  refine l_start (own := RL) (cc := cL_least) (mL := 5) (ret := (some .int)) (hh := [(0, 7, 8, 23), (0, 7, 13, 13)]) (Qc := fun AA => jQ G B (an (kLst σ x y v) (lft (σ 7 x.toNat) y.toNat v.toNat (σ 8 x.toNat 0)) (-2000000001) (-2000000002) (-2000000002)) (σ) AA) (by decide) rfl rfl (Nat.le_of_ble_eq_true rfl) ?_
  intro pP eE sS mM args bB meth cC ls AA F hr hlocks htab hz hK hP hD hA hl
  have hS : sF sS sS.heap [] := va_S.rf
  have hl : lv_has ls 5 [(0, .ref (B 5)), (1, .int (iI x)), (2, .int (iI y)), (3, .int (iI v))] := hl
  refine lv_aload_n F.1 F.2.1 dL_least_0 rfl (lv_at hl 0 rfl) ?_
  refine lv_iload_n F.1 F.2.1 dL_least_1 rfl (lv_at hl 1 rfl) ?_
  refine lv_iload_n F.1 F.2.1 dL_least_2 rfl (lv_at hl 2 rfl) ?_
  refine lv_iload_n F.1 F.2.1 dL_least_3 rfl (lv_at hl 3 rfl) ?_
  refine l_callW F (n := 3) (w := CW G B P σ (σ 2 0 0).toNat) (wr := []) (W2 := (fun _ : Unit => CW G B P (σ) (σ 2 0 0).toNat)) (asY (CW_adr _ _ _) (mX2_leastFaults l hfl G z0 _ B P σ x y v hx hy hv hI)) gL_least_X2_leastFaults rfl rfl rfl (by decide +kernel) ⟨Nat.le_of_ble_eq_true rfl, Nat.le_of_ble_eq_true rfl⟩ hK hP hD hz.1 hS hA (ci := 2) (q0 := 5) rfl rfl rfl rfl hl.1 (Nat.le_of_ble_eq_true rfl) dL_least_4 ⟨Nat.le_of_ble_eq_true rfl, Nat.le_of_ble_eq_true rfl⟩ (fun hk ce q9 H locs hP hS hce hcv hcl => ?_) (fun hk _ H locs hP hD hS => ?_)
  · skip
    have hk3 : kLst σ x y v = 1 ∨ kLst σ x y v = 2 := by
      unfold kLst at hk ⊢
      (repeat' split) <;> simp_all
    rcases hk3 with hk3 | hk3
    · skip
      rw [show an (kLst σ x y v) (lft (σ 7 x.toNat) y.toNat v.toNat (σ 8 x.toNat 0)) (-2000000001) (-2000000002) (-2000000002) = -2000000001 from an_1 hk3]
      rw [hk3] at hcl
      have hcl : sS.vm.findClass nmI = some ce.cls := hcl
      refine vx_catch (own := RL) (name := nmI) F.2.2.2.1 [] ⟨0, 7, 8, 23⟩ [⟨0, 7, 13, 13⟩] (htab.trans rfl) (fun _ h9 => nomatch h9) (by decide) (by decide) (k_cond F (w := .classLink RL 23 nmI) (by decide +kernel)) (va_Nw.use rfl (hz.1.2.2.2.1 _ castI)) hce hcv hcl ?_
      refine lv_astore (lv' := (4, .ref q9) :: [(0, .ref (B 5)), (1, .int (iI x)), (2, .int (iI y)), (3, .int (iI v))]) F.1 F.2.1 dL_least_8 hl (by decide) rfl (fun ls hl => ?_)
      refine k_ldc F (v := -2000000001) (z := -2000000001) (by decide +kernel) (by decide +kernel) dL_least_10 ?_
      exact W.iret F.1 F.2.1 hr (fun t9 ht _ => ⟨⟨_, P, rfl, rfl, by rw [ht]; exact hP, hD⟩, hS.F ht⟩) hS.2.2 dL_least_12 hlocks
    · skip
      rw [show an (kLst σ x y v) (lft (σ 7 x.toNat) y.toNat v.toNat (σ 8 x.toNat 0)) (-2000000001) (-2000000002) (-2000000002) = -2000000002 from an_2 hk3]
      rw [hk3] at hcl
      have hcl : sS.vm.findClass nmA = some ce.cls := hcl
      refine vx_catch (own := RL) (name := nmA) F.2.2.2.1 [⟨0, 7, 8, 23⟩] ⟨0, 7, 13, 13⟩ [] (htab.trans rfl) (List.forall_mem_cons.mpr ⟨Or.inr ⟨by decide, nmI, k_cond F (w := .classLink RL 23 nmI) (by decide +kernel), hz.2.2.1⟩, (fun _ h9 => nomatch h9)⟩) (by decide) (by decide) (k_cond F (w := .classLink RL 13 nmA) (by decide +kernel)) (va_Nw.use rfl (hz.1.2.2.2.1 _ castA)) hce hcv hcl ?_
      refine lv_astore (lv' := (4, .ref q9) :: [(0, .ref (B 5)), (1, .int (iI x)), (2, .int (iI y)), (3, .int (iI v))]) F.1 F.2.1 dL_least_13 hl (by decide) rfl (fun ls hl => ?_)
      refine k_ldc F (v := -2000000002) (z := -2000000002) (by decide +kernel) (by decide +kernel) dL_least_15 ?_
      exact W.iret F.1 F.2.1 hr (fun t9 ht _ => ⟨⟨_, P, rfl, rfl, by rw [ht]; exact hP, hD⟩, hS.F ht⟩) hS.2.2 dL_least_17 hlocks
  · skip
    rw [show an (kLst σ x y v) (lft (σ 7 x.toNat) y.toNat v.toNat (σ 8 x.toNat 0)) (-2000000001) (-2000000002) (-2000000002) = lft (σ 7 x.toNat) y.toNat v.toNat (σ 8 x.toNat 0) from an_0 hk]
    exact W.iret F.1 F.2.1 hr (fun t9 ht _ => ⟨⟨_, P, rfl, rfl, (by rw [ht]; exact hP), hD⟩, hS.F ht⟩) hS.2.2 dL_least_7 hlocks

set_option maxHeartbeats 4000000 in
set_option maxRecDepth 100000 in
theorem mL_shift (l : Launch) (hfl : l.stackTraces = false) (G : gT) (z0 sz0 : Nat) (B : Nat → Nat) (P : Nat → Nat → Nat) (σ : Sg) (x d : Int) (hx : -2147483648 ≤ x ∧ x < 2147483648) (hd : -2147483648 ≤ d ∧ d < 2147483648) {N : Nat} (hI : Jv σ N) : jC l yL_shift wsL_shift { frames := 8, cells := 6, slots := 36, locals := 156 } G z0 sz0 B P σ [.int (iI x), .int (iI d)] (an (kShf σ (σ 1 0 0).toNat x d) (shS σ x.toNat (σ 1 0 0).toNat d 13) (-2000000001) (-2000000002) (-2000000003)) (σ) 6 36 := by
  refine l_start (own := RL) (cc := cL_shift) (mL := 4) (ret := (some .int)) (hh := [(0, 6, 7, 23), (0, 6, 11, 13), (0, 6, 15, 16)]) (Qc := fun AA => jQ G B (an (kShf σ (σ 1 0 0).toNat x d) (shS σ x.toNat (σ 1 0 0).toNat d 13) (-2000000001) (-2000000002) (-2000000003)) (σ) AA) (by decide) rfl rfl (Nat.le_of_ble_eq_true rfl) ?_
  intro pP eE sS mM args bB meth cC ls AA F hr hlocks htab hz hK hP hD hA hl
  have hS : sF sS sS.heap [] := va_S.rf
  have hl : lv_has ls 4 [(0, .ref (B 5)), (1, .int (iI x)), (2, .int (iI d))] := hl
  refine lv_aload_n F.1 F.2.1 dL_shift_0 rfl (lv_at hl 0 rfl) ?_
  refine lv_iload_n F.1 F.2.1 dL_shift_1 rfl (lv_at hl 1 rfl) ?_
  refine lv_iload_n F.1 F.2.1 dL_shift_2 rfl (lv_at hl 2 rfl) ?_
  refine l_callW F (n := 2) (w := CW G B P σ (σ 2 0 0).toNat) (wr := []) (W2 := (fun _ : Unit => CW G B P σ (σ 2 0 0).toNat)) (asW (mX2_shift l hfl G z0 B P σ x d hx hd hI)) gL_shift_X2_shift rfl rfl rfl (by decide +kernel) ⟨Nat.le_of_ble_eq_true rfl, Nat.le_of_ble_eq_true rfl⟩ hK hP hD hz.1 hS hA (ci := 2) (q0 := 5) rfl rfl rfl rfl hl.1 (Nat.le_of_ble_eq_true rfl) dL_shift_3 ⟨Nat.le_of_ble_eq_true rfl, Nat.le_of_ble_eq_true rfl⟩ (fun hk ce q9 H locs hP hS hce hcv hcl => ?_) (fun hk _ H locs hP hD hS => ?_)
  · skip
    have hk3 : kShf σ (σ 1 0 0).toNat x d = 1 ∨ kShf σ (σ 1 0 0).toNat x d = 2 ∨ kShf σ (σ 1 0 0).toNat x d = 3 := by
      unfold kShf at hk ⊢
      (repeat' split) <;> simp_all
    rcases hk3 with hk3 | hk3 | hk3
    · skip
      rw [show an (kShf σ (σ 1 0 0).toNat x d) (shS σ x.toNat (σ 1 0 0).toNat d 13) (-2000000001) (-2000000002) (-2000000003) = -2000000001 from an_1 hk3]
      rw [hk3] at hcl
      have hcl : sS.vm.findClass nmI = some ce.cls := hcl
      refine vx_catch (own := RL) (name := nmI) F.2.2.2.1 [] ⟨0, 6, 7, 23⟩ [⟨0, 6, 11, 13⟩, ⟨0, 6, 15, 16⟩] (htab.trans rfl) (fun _ h9 => nomatch h9) (by decide) (by decide) (k_cond F (w := .classLink RL 23 nmI) (by decide +kernel)) (va_Nw.use rfl (hz.1.2.2.2.1 _ castI)) hce hcv hcl ?_
      refine lv_astore_n (lv' := (3, .ref q9) :: [(0, .ref (B 5)), (1, .int (iI x)), (2, .int (iI d))]) F.1 F.2.1 dL_shift_7 rfl hl (by decide) rfl (fun ls hl => ?_)
      refine k_ldc F (v := -2000000001) (z := -2000000001) (by decide +kernel) (by decide +kernel) dL_shift_8 ?_
      exact W.iret F.1 F.2.1 hr (fun t9 ht _ => ⟨⟨_, P, rfl, rfl, by rw [ht]; exact hP, hD⟩, hS.F ht⟩) hS.2.2 dL_shift_10 hlocks
    · skip
      rw [show an (kShf σ (σ 1 0 0).toNat x d) (shS σ x.toNat (σ 1 0 0).toNat d 13) (-2000000001) (-2000000002) (-2000000003) = -2000000002 from an_2 hk3]
      rw [hk3] at hcl
      have hcl : sS.vm.findClass nmA = some ce.cls := hcl
      refine vx_catch (own := RL) (name := nmA) F.2.2.2.1 [⟨0, 6, 7, 23⟩] ⟨0, 6, 11, 13⟩ [⟨0, 6, 15, 16⟩] (htab.trans rfl) (List.forall_mem_cons.mpr ⟨Or.inr ⟨by decide, nmI, k_cond F (w := .classLink RL 23 nmI) (by decide +kernel), hz.2.2.1⟩, (fun _ h9 => nomatch h9)⟩) (by decide) (by decide) (k_cond F (w := .classLink RL 13 nmA) (by decide +kernel)) (va_Nw.use rfl (hz.1.2.2.2.1 _ castA)) hce hcv hcl ?_
      refine lv_astore_n (lv' := (3, .ref q9) :: [(0, .ref (B 5)), (1, .int (iI x)), (2, .int (iI d))]) F.1 F.2.1 dL_shift_11 rfl hl (by decide) rfl (fun ls hl => ?_)
      refine k_ldc F (v := -2000000002) (z := -2000000002) (by decide +kernel) (by decide +kernel) dL_shift_12 ?_
      exact W.iret F.1 F.2.1 hr (fun t9 ht _ => ⟨⟨_, P, rfl, rfl, by rw [ht]; exact hP, hD⟩, hS.F ht⟩) hS.2.2 dL_shift_14 hlocks
    · skip
      rw [show an (kShf σ (σ 1 0 0).toNat x d) (shS σ x.toNat (σ 1 0 0).toNat d 13) (-2000000001) (-2000000002) (-2000000003) = -2000000003 from an_3 hk3]
      rw [hk3] at hcl
      have hcl : sS.vm.findClass nmS = some ce.cls := hcl
      refine vx_catch (own := RL) (name := nmS) F.2.2.2.1 [⟨0, 6, 7, 23⟩, ⟨0, 6, 11, 13⟩] ⟨0, 6, 15, 16⟩ [] (htab.trans rfl) (List.forall_mem_cons.mpr ⟨Or.inr ⟨by decide, nmI, k_cond F (w := .classLink RL 23 nmI) (by decide +kernel), hz.2.2.2⟩, (List.forall_mem_cons.mpr ⟨Or.inr ⟨by decide, nmA, k_cond F (w := .classLink RL 13 nmA) (by decide +kernel), hz.2.1⟩, (fun _ h9 => nomatch h9)⟩)⟩) (by decide) (by decide) (k_cond F (w := .classLink RL 16 nmS) (by decide +kernel)) (va_Nw.use rfl (hz.1.2.2.2.1 _ castS)) hce hcv hcl ?_
      refine lv_astore_n (lv' := (3, .ref q9) :: [(0, .ref (B 5)), (1, .int (iI x)), (2, .int (iI d))]) F.1 F.2.1 dL_shift_15 rfl hl (by decide) rfl (fun ls hl => ?_)
      refine k_ldc F (v := -2000000003) (z := -2000000003) (by decide +kernel) (by decide +kernel) dL_shift_16 ?_
      exact W.iret F.1 F.2.1 hr (fun t9 ht _ => ⟨⟨_, P, rfl, rfl, by rw [ht]; exact hP, hD⟩, hS.F ht⟩) hS.2.2 dL_shift_18 hlocks
  · skip
    rw [show an (kShf σ (σ 1 0 0).toNat x d) (shS σ x.toNat (σ 1 0 0).toNat d 13) (-2000000001) (-2000000002) (-2000000003) = shS σ x.toNat (σ 1 0 0).toNat d 13 from an_0 hk]
    exact W.iret F.1 F.2.1 hr (fun t9 ht _ => ⟨⟨_, P, rfl, rfl, (by rw [ht]; exact hP), hD⟩, hS.F ht⟩) hS.2.2 dL_shift_6 hlocks

set_option maxHeartbeats 4000000 in
set_option maxRecDepth 100000 in
theorem mL_dates (l : Launch) (hfl : l.stackTraces = false) (G : gT) (z0 sz0 : Nat) (B : Nat → Nat) (P : Nat → Nat → Nat) (σ : Sg) (x : Int) (hx : -2147483648 ≤ x ∧ x < 2147483648) {N : Nat} (hI : Jv σ N) : jC l yL_dates wsL_dates { frames := 8, cells := 6, slots := 36, locals := 156 } G z0 sz0 B P σ [.int (iI x)] (an (kPic σ x) (dtS σ x.toNat (σ 1 0 0).toNat 31) (-2000000001) (-2000000001) (-2000000001)) (σ) 6 36 := by
  refine l_start (own := RL) (cc := cL_dates) (mL := 3) (ret := (some .int)) (hh := [(0, 5, 6, 23)]) (Qc := fun AA => jQ G B (an (kPic σ x) (dtS σ x.toNat (σ 1 0 0).toNat 31) (-2000000001) (-2000000001) (-2000000001)) (σ) AA) (by decide) rfl rfl (Nat.le_of_ble_eq_true rfl) ?_
  intro pP eE sS mM args bB meth cC ls AA F hr hlocks htab hz hK hP hD hA hl
  have hS : sF sS sS.heap [] := va_S.rf
  have hl : lv_has ls 3 [(0, .ref (B 5)), (1, .int (iI x))] := hl
  refine lv_aload_n F.1 F.2.1 dL_dates_0 rfl (lv_at hl 0 rfl) ?_
  refine lv_iload_n F.1 F.2.1 dL_dates_1 rfl (lv_at hl 1 rfl) ?_
  refine l_callW F (n := 1) (w := CW G B P σ (σ 2 0 0).toNat) (wr := []) (W2 := (fun _ : Unit => CW G B P σ (σ 2 0 0).toNat)) (asW (mX2_dates l hfl G z0 B P σ x hx hI)) gL_dates_X2_dates rfl rfl rfl (by decide +kernel) ⟨Nat.le_of_ble_eq_true rfl, Nat.le_of_ble_eq_true rfl⟩ hK hP hD hz.1 hS hA (ci := 2) (q0 := 5) rfl rfl rfl rfl hl.1 (Nat.le_of_ble_eq_true rfl) dL_dates_2 ⟨Nat.le_of_ble_eq_true rfl, Nat.le_of_ble_eq_true rfl⟩ (fun hk ce q9 H locs hP hS hce hcv hcl => ?_) (fun hk _ H locs hP hD hS => ?_)
  · skip
    have hk3 : kPic σ x = 1 := by
      unfold kPic at hk ⊢
      (repeat' split) <;> simp_all
    rw [show an (kPic σ x) (dtS σ x.toNat (σ 1 0 0).toNat 31) (-2000000001) (-2000000001) (-2000000001) = -2000000001 from an_1 hk3]
    rw [hk3] at hcl
    have hcl : sS.vm.findClass nmI = some ce.cls := hcl
    refine vx_catch (own := RL) (name := nmI) F.2.2.2.1 [] ⟨0, 5, 6, 23⟩ [] (htab.trans rfl) (fun _ h9 => nomatch h9) (by decide) (by decide) (k_cond F (w := .classLink RL 23 nmI) (by decide +kernel)) (va_Nw.use rfl (hz.1.2.2.2.1 _ castI)) hce hcv hcl ?_
    refine lv_astore_n (lv' := (2, .ref q9) :: [(0, .ref (B 5)), (1, .int (iI x))]) F.1 F.2.1 dL_dates_6 rfl hl (by decide) rfl (fun ls hl => ?_)
    refine k_ldc F (v := -2000000001) (z := -2000000001) (by decide +kernel) (by decide +kernel) dL_dates_7 ?_
    exact W.iret F.1 F.2.1 hr (fun t9 ht _ => ⟨⟨_, P, rfl, rfl, by rw [ht]; exact hP, hD⟩, hS.F ht⟩) hS.2.2 dL_dates_9 hlocks
  · skip
    rw [show an (kPic σ x) (dtS σ x.toNat (σ 1 0 0).toNat 31) (-2000000001) (-2000000001) (-2000000001) = dtS σ x.toNat (σ 1 0 0).toNat 31 from an_0 hk]
    exact W.iret F.1 F.2.1 hr (fun t9 ht _ => ⟨⟨_, P, rfl, rfl, (by rw [ht]; exact hP), hD⟩, hS.F ht⟩) hS.2.2 dL_dates_5 hlocks

set_option maxHeartbeats 4000000 in
set_option maxRecDepth 100000 in
theorem mL_missed (l : Launch) (hfl : l.stackTraces = false) (G : gT) (z0 sz0 : Nat) (B : Nat → Nat) (P : Nat → Nat → Nat) (σ : Sg) (d : Int) (hd : -2147483648 ≤ d ∧ d < 2147483648) {N : Nat} (hI : Jv σ N) : jC l yL_missed wsL_missed { frames := 8, cells := 6, slots := 36, locals := 151 } G z0 sz0 B P σ [.int (iI d)] (an (kDat d) (msM σ d (σ 1 0 0).toNat (σ 1 0 0).toNat) (-2000000002) (-2000000002) (-2000000002)) (σ) 6 36 := by
  refine l_start (own := RL) (cc := cL_missed) (mL := 3) (ret := (some .int)) (hh := [(0, 5, 6, 13)]) (Qc := fun AA => jQ G B (an (kDat d) (msM σ d (σ 1 0 0).toNat (σ 1 0 0).toNat) (-2000000002) (-2000000002) (-2000000002)) (σ) AA) (by decide) rfl rfl (Nat.le_of_ble_eq_true rfl) ?_
  intro pP eE sS mM args bB meth cC ls AA F hr hlocks htab hz hK hP hD hA hl
  have hS : sF sS sS.heap [] := va_S.rf
  have hl : lv_has ls 3 [(0, .ref (B 5)), (1, .int (iI d))] := hl
  refine lv_aload_n F.1 F.2.1 dL_missed_0 rfl (lv_at hl 0 rfl) ?_
  refine lv_iload_n F.1 F.2.1 dL_missed_1 rfl (lv_at hl 1 rfl) ?_
  refine l_callW F (n := 1) (w := CW G B P σ (σ 2 0 0).toNat) (wr := []) (W2 := (fun _ : Unit => CW G B P σ (σ 2 0 0).toNat)) (asW (mX2_missed l hfl G z0 B P σ d hd hI)) gL_missed_X2_missed rfl rfl rfl (by decide +kernel) ⟨Nat.le_of_ble_eq_true rfl, Nat.le_of_ble_eq_true rfl⟩ hK hP hD hz.1 hS hA (ci := 2) (q0 := 5) rfl rfl rfl rfl hl.1 (Nat.le_of_ble_eq_true rfl) dL_missed_2 ⟨Nat.le_of_ble_eq_true rfl, Nat.le_of_ble_eq_true rfl⟩ (fun hk ce q9 H locs hP hS hce hcv hcl => ?_) (fun hk _ H locs hP hD hS => ?_)
  · skip
    have hk3 : kDat d = 1 := by
      unfold kDat at hk ⊢
      (repeat' split) <;> simp_all
    rw [show an (kDat d) (msM σ d (σ 1 0 0).toNat (σ 1 0 0).toNat) (-2000000002) (-2000000002) (-2000000002) = -2000000002 from an_1 hk3]
    rw [hk3] at hcl
    have hcl : sS.vm.findClass nmA = some ce.cls := hcl
    refine vx_catch (own := RL) (name := nmA) F.2.2.2.1 [] ⟨0, 5, 6, 13⟩ [] (htab.trans rfl) (fun _ h9 => nomatch h9) (by decide) (by decide) (k_cond F (w := .classLink RL 13 nmA) (by decide +kernel)) (va_Nw.use rfl (hz.1.2.2.2.1 _ castA)) hce hcv hcl ?_
    refine lv_astore_n (lv' := (2, .ref q9) :: [(0, .ref (B 5)), (1, .int (iI d))]) F.1 F.2.1 dL_missed_6 rfl hl (by decide) rfl (fun ls hl => ?_)
    refine k_ldc F (v := -2000000002) (z := -2000000002) (by decide +kernel) (by decide +kernel) dL_missed_7 ?_
    exact W.iret F.1 F.2.1 hr (fun t9 ht _ => ⟨⟨_, P, rfl, rfl, by rw [ht]; exact hP, hD⟩, hS.F ht⟩) hS.2.2 dL_missed_9 hlocks
  · skip
    rw [show an (kDat d) (msM σ d (σ 1 0 0).toNat (σ 1 0 0).toNat) (-2000000002) (-2000000002) (-2000000002) = msM σ d (σ 1 0 0).toNat (σ 1 0 0).toNat from an_0 hk]
    exact W.iret F.1 F.2.1 hr (fun t9 ht _ => ⟨⟨_, P, rfl, rfl, (by rw [ht]; exact hP), hD⟩, hS.F ht⟩) hS.2.2 dL_missed_5 hlocks

set_option maxHeartbeats 4000000 in
set_option maxRecDepth 100000 in
theorem mL_plan (l : Launch) (hfl : l.stackTraces = false) (G : gT) (z0 sz0 : Nat) (B : Nat → Nat) (P : Nat → Nat → Nat) (σ : Sg) (d x : Int) (hd : -2147483648 ≤ d ∧ d < 2147483648) (hx : -2147483648 ≤ x ∧ x < 2147483648) {N : Nat} (hI : Jv σ N) : jC l yL_plan wsL_plan { frames := 8, cells := 6, slots := 36, locals := 164 } G z0 sz0 B P σ [.int (iI d), .int (iI x)] (an (kPrg d x) (((prg σ (σ 1 0 0).toNat (σ 2 0 0).toNat d x : Nat) : Int)) (-2000000002) (-2000000002) (-2000000002)) (σ) 6 36 := by
  refine l_start (own := RL) (cc := cL_plan) (mL := 4) (ret := (some .int)) (hh := [(0, 6, 7, 13)]) (Qc := fun AA => jQ G B (an (kPrg d x) (((prg σ (σ 1 0 0).toNat (σ 2 0 0).toNat d x : Nat) : Int)) (-2000000002) (-2000000002) (-2000000002)) (σ) AA) (by decide) rfl rfl (Nat.le_of_ble_eq_true rfl) ?_
  intro pP eE sS mM args bB meth cC ls AA F hr hlocks htab hz hK hP hD hA hl
  have hS : sF sS sS.heap [] := va_S.rf
  have hl : lv_has ls 4 [(0, .ref (B 5)), (1, .int (iI d)), (2, .int (iI x))] := hl
  refine lv_aload_n F.1 F.2.1 dL_plan_0 rfl (lv_at hl 0 rfl) ?_
  refine lv_iload_n F.1 F.2.1 dL_plan_1 rfl (lv_at hl 1 rfl) ?_
  refine lv_iload_n F.1 F.2.1 dL_plan_2 rfl (lv_at hl 2 rfl) ?_
  refine l_callW F (n := 2) (w := CW G B P σ (σ 2 0 0).toNat) (wr := []) (W2 := (fun _ : Unit => CW G B P σ (σ 2 0 0).toNat)) (asW (mX2_programme l hfl G z0 B P σ d x hd hx hI)) gL_plan_X2_programme rfl rfl rfl (by decide +kernel) ⟨Nat.le_of_ble_eq_true rfl, Nat.le_of_ble_eq_true rfl⟩ hK hP hD hz.1 hS hA (ci := 2) (q0 := 5) rfl rfl rfl rfl hl.1 (Nat.le_of_ble_eq_true rfl) dL_plan_3 ⟨Nat.le_of_ble_eq_true rfl, Nat.le_of_ble_eq_true rfl⟩ (fun hk ce q9 H locs hP hS hce hcv hcl => ?_) (fun hk _ H locs hP hD hS => ?_)
  · skip
    have hk3 : kPrg d x = 1 := by
      unfold kPrg at hk ⊢
      (repeat' split) <;> simp_all
    rw [show an (kPrg d x) (((prg σ (σ 1 0 0).toNat (σ 2 0 0).toNat d x : Nat) : Int)) (-2000000002) (-2000000002) (-2000000002) = -2000000002 from an_1 hk3]
    rw [hk3] at hcl
    have hcl : sS.vm.findClass nmA = some ce.cls := hcl
    refine vx_catch (own := RL) (name := nmA) F.2.2.2.1 [] ⟨0, 6, 7, 13⟩ [] (htab.trans rfl) (fun _ h9 => nomatch h9) (by decide) (by decide) (k_cond F (w := .classLink RL 13 nmA) (by decide +kernel)) (va_Nw.use rfl (hz.1.2.2.2.1 _ castA)) hce hcv hcl ?_
    refine lv_astore_n (lv' := (3, .ref q9) :: [(0, .ref (B 5)), (1, .int (iI d)), (2, .int (iI x))]) F.1 F.2.1 dL_plan_7 rfl hl (by decide) rfl (fun ls hl => ?_)
    refine k_ldc F (v := -2000000002) (z := -2000000002) (by decide +kernel) (by decide +kernel) dL_plan_8 ?_
    exact W.iret F.1 F.2.1 hr (fun t9 ht _ => ⟨⟨_, P, rfl, rfl, by rw [ht]; exact hP, hD⟩, hS.F ht⟩) hS.2.2 dL_plan_10 hlocks
  · skip
    rw [show an (kPrg d x) (((prg σ (σ 1 0 0).toNat (σ 2 0 0).toNat d x : Nat) : Int)) (-2000000002) (-2000000002) (-2000000002) = ((prg σ (σ 1 0 0).toNat (σ 2 0 0).toNat d x : Nat) : Int) from an_0 hk]
    exact W.iret F.1 F.2.1 hr (fun t9 ht _ => ⟨⟨_, P, rfl, rfl, (by rw [ht]; exact hP), hD⟩, hS.F ht⟩) hS.2.2 dL_plan_6 hlocks

set_option maxHeartbeats 4000000 in
set_option maxRecDepth 100000 in
theorem mL_duration (l : Launch) (hfl : l.stackTraces = false) (G : gT) (z0 sz0 : Nat) (B : Nat → Nat) (P : Nat → Nat → Nat) (σ : Sg) (d x : Int) (hd : -2147483648 ≤ d ∧ d < 2147483648) (hx : -2147483648 ≤ x ∧ x < 2147483648) {N : Nat} (hI : Jv σ N) : jC l yL_duration wsL_duration { frames := 8, cells := 6, slots := 36, locals := 164 } G z0 sz0 B P σ [.int (iI d), .int (iI x)] (an (kPrg d x) (lnS σ ((prg σ (σ 1 0 0).toNat (σ 2 0 0).toNat d x : Nat) : Int) (σ 2 0 0).toNat) (-2000000002) (-2000000002) (-2000000002)) (σ) 6 36 := by
  refine l_start (own := RL) (cc := cL_duration) (mL := 4) (ret := (some .int)) (hh := [(0, 6, 7, 13)]) (Qc := fun AA => jQ G B (an (kPrg d x) (lnS σ ((prg σ (σ 1 0 0).toNat (σ 2 0 0).toNat d x : Nat) : Int) (σ 2 0 0).toNat) (-2000000002) (-2000000002) (-2000000002)) (σ) AA) (by decide) rfl rfl (Nat.le_of_ble_eq_true rfl) ?_
  intro pP eE sS mM args bB meth cC ls AA F hr hlocks htab hz hK hP hD hA hl
  have hS : sF sS sS.heap [] := va_S.rf
  have hl : lv_has ls 4 [(0, .ref (B 5)), (1, .int (iI d)), (2, .int (iI x))] := hl
  refine lv_aload_n F.1 F.2.1 dL_duration_0 rfl (lv_at hl 0 rfl) ?_
  refine lv_iload_n F.1 F.2.1 dL_duration_1 rfl (lv_at hl 1 rfl) ?_
  refine lv_iload_n F.1 F.2.1 dL_duration_2 rfl (lv_at hl 2 rfl) ?_
  refine l_callW F (n := 2) (w := CW G B P σ (σ 2 0 0).toNat) (wr := []) (W2 := (fun _ : Unit => CW G B P σ (σ 2 0 0).toNat)) (asW (mX2_duration l hfl G z0 B P σ d x hd hx hI)) gL_duration_X2_duration rfl rfl rfl (by decide +kernel) ⟨Nat.le_of_ble_eq_true rfl, Nat.le_of_ble_eq_true rfl⟩ hK hP hD hz.1 hS hA (ci := 2) (q0 := 5) rfl rfl rfl rfl hl.1 (Nat.le_of_ble_eq_true rfl) dL_duration_3 ⟨Nat.le_of_ble_eq_true rfl, Nat.le_of_ble_eq_true rfl⟩ (fun hk ce q9 H locs hP hS hce hcv hcl => ?_) (fun hk _ H locs hP hD hS => ?_)
  · skip
    have hk3 : kPrg d x = 1 := by
      unfold kPrg at hk ⊢
      (repeat' split) <;> simp_all
    rw [show an (kPrg d x) (lnS σ ((prg σ (σ 1 0 0).toNat (σ 2 0 0).toNat d x : Nat) : Int) (σ 2 0 0).toNat) (-2000000002) (-2000000002) (-2000000002) = -2000000002 from an_1 hk3]
    rw [hk3] at hcl
    have hcl : sS.vm.findClass nmA = some ce.cls := hcl
    refine vx_catch (own := RL) (name := nmA) F.2.2.2.1 [] ⟨0, 6, 7, 13⟩ [] (htab.trans rfl) (fun _ h9 => nomatch h9) (by decide) (by decide) (k_cond F (w := .classLink RL 13 nmA) (by decide +kernel)) (va_Nw.use rfl (hz.1.2.2.2.1 _ castA)) hce hcv hcl ?_
    refine lv_astore_n (lv' := (3, .ref q9) :: [(0, .ref (B 5)), (1, .int (iI d)), (2, .int (iI x))]) F.1 F.2.1 dL_duration_7 rfl hl (by decide) rfl (fun ls hl => ?_)
    refine k_ldc F (v := -2000000002) (z := -2000000002) (by decide +kernel) (by decide +kernel) dL_duration_8 ?_
    exact W.iret F.1 F.2.1 hr (fun t9 ht _ => ⟨⟨_, P, rfl, rfl, by rw [ht]; exact hP, hD⟩, hS.F ht⟩) hS.2.2 dL_duration_10 hlocks
  · skip
    rw [show an (kPrg d x) (lnS σ ((prg σ (σ 1 0 0).toNat (σ 2 0 0).toNat d x : Nat) : Int) (σ 2 0 0).toNat) (-2000000002) (-2000000002) (-2000000002) = lnS σ ((prg σ (σ 1 0 0).toNat (σ 2 0 0).toNat d x : Nat) : Int) (σ 2 0 0).toNat from an_0 hk]
    exact W.iret F.1 F.2.1 hr (fun t9 ht _ => ⟨⟨_, P, rfl, rfl, (by rw [ht]; exact hP), hD⟩, hS.F ht⟩) hS.2.2 dL_duration_6 hlocks

set_option maxHeartbeats 4000000 in
set_option maxRecDepth 100000 in
theorem mL_rehearses (l : Launch) (hfl : l.stackTraces = false) (G : gT) (z0 sz0 : Nat) (B : Nat → Nat) (P : Nat → Nat → Nat) (σ : Sg) (x t : Int) (hx : -2147483648 ≤ x ∧ x < 2147483648) (ht : -2147483648 ≤ t ∧ t < 2147483648) {N : Nat} (hI : Jv σ N) (hN5 : N ≤ 512) : jC l yL_rehearses wsL_rehearses { frames := 8, cells := 6, slots := 36, locals := 156 } G z0 sz0 B P σ [.int (iI x), .int (iI t)] (an (kReh σ x t) (wsm (rhS σ x.toNat t.toNat) x.toNat ((rhS σ x.toNat t.toNat) 8 x.toNat 0).toNat) (-2000000001) (-2000000002) (-2000000002)) (stt (kReh σ x t) ((rhS σ x.toNat t.toNat)) σ) 6 36 := by
  refine l_start (own := RL) (cc := cL_rehearses) (mL := 4) (ret := (some .int)) (hh := [(0, 6, 7, 23), (0, 6, 11, 13)]) (Qc := fun AA => jQ G B (an (kReh σ x t) (wsm (rhS σ x.toNat t.toNat) x.toNat ((rhS σ x.toNat t.toNat) 8 x.toNat 0).toNat) (-2000000001) (-2000000002) (-2000000002)) (stt (kReh σ x t) ((rhS σ x.toNat t.toNat)) σ) AA) (by decide) rfl rfl (Nat.le_of_ble_eq_true rfl) ?_
  intro pP eE sS mM args bB meth cC ls AA F hr hlocks htab hz hK hP hD hA hl
  have hS : sF sS sS.heap [] := va_S.rf
  have hl : lv_has ls 4 [(0, .ref (B 5)), (1, .int (iI x)), (2, .int (iI t))] := hl
  refine lv_aload_n F.1 F.2.1 dL_rehearses_0 rfl (lv_at hl 0 rfl) ?_
  refine lv_iload_n F.1 F.2.1 dL_rehearses_1 rfl (lv_at hl 1 rfl) ?_
  refine lv_iload_n F.1 F.2.1 dL_rehearses_2 rfl (lv_at hl 2 rfl) ?_
  refine l_callW F (n := 2) (w := CW G B P σ (σ 2 0 0).toNat) (wr := []) (W2 := (fun _ : Unit => CW G B P ((rhS σ x.toNat t.toNat)) (σ 2 0 0).toNat)) (asY (CW_adr _ _ _) (mX2_rehearse l hfl G z0 _ B P σ x t hx ht hI hN5)) gL_rehearses_X2_rehearse rfl rfl rfl (by decide +kernel) ⟨Nat.le_of_ble_eq_true rfl, Nat.le_of_ble_eq_true rfl⟩ hK hP hD hz.1 hS hA (ci := 2) (q0 := 5) rfl rfl rfl rfl hl.1 (Nat.le_of_ble_eq_true rfl) dL_rehearses_3 ⟨Nat.le_of_ble_eq_true rfl, Nat.le_of_ble_eq_true rfl⟩ (fun hk ce q9 H locs hP hS hce hcv hcl => ?_) (fun hk _ H locs hP hD hS => ?_)
  · skip
    have hk3 : kReh σ x t = 1 ∨ kReh σ x t = 2 := by
      unfold kReh at hk ⊢
      (repeat' split) <;> simp_all
    rw [show stt (kReh σ x t) ((rhS σ x.toNat t.toNat)) σ = σ from stt_n hk]
    rcases hk3 with hk3 | hk3
    · skip
      rw [show an (kReh σ x t) (wsm (rhS σ x.toNat t.toNat) x.toNat ((rhS σ x.toNat t.toNat) 8 x.toNat 0).toNat) (-2000000001) (-2000000002) (-2000000002) = -2000000001 from an_1 hk3]
      rw [hk3] at hcl
      have hcl : sS.vm.findClass nmI = some ce.cls := hcl
      refine vx_catch (own := RL) (name := nmI) F.2.2.2.1 [] ⟨0, 6, 7, 23⟩ [⟨0, 6, 11, 13⟩] (htab.trans rfl) (fun _ h9 => nomatch h9) (by decide) (by decide) (k_cond F (w := .classLink RL 23 nmI) (by decide +kernel)) (va_Nw.use rfl (hz.1.2.2.2.1 _ castI)) hce hcv hcl ?_
      refine lv_astore_n (lv' := (3, .ref q9) :: [(0, .ref (B 5)), (1, .int (iI x)), (2, .int (iI t))]) F.1 F.2.1 dL_rehearses_7 rfl hl (by decide) rfl (fun ls hl => ?_)
      refine k_ldc F (v := -2000000001) (z := -2000000001) (by decide +kernel) (by decide +kernel) dL_rehearses_8 ?_
      exact W.iret F.1 F.2.1 hr (fun t9 ht _ => ⟨⟨_, P, rfl, rfl, by rw [ht]; exact hP, hD⟩, hS.F ht⟩) hS.2.2 dL_rehearses_10 hlocks
    · skip
      rw [show an (kReh σ x t) (wsm (rhS σ x.toNat t.toNat) x.toNat ((rhS σ x.toNat t.toNat) 8 x.toNat 0).toNat) (-2000000001) (-2000000002) (-2000000002) = -2000000002 from an_2 hk3]
      rw [hk3] at hcl
      have hcl : sS.vm.findClass nmA = some ce.cls := hcl
      refine vx_catch (own := RL) (name := nmA) F.2.2.2.1 [⟨0, 6, 7, 23⟩] ⟨0, 6, 11, 13⟩ [] (htab.trans rfl) (List.forall_mem_cons.mpr ⟨Or.inr ⟨by decide, nmI, k_cond F (w := .classLink RL 23 nmI) (by decide +kernel), hz.2.2.1⟩, (fun _ h9 => nomatch h9)⟩) (by decide) (by decide) (k_cond F (w := .classLink RL 13 nmA) (by decide +kernel)) (va_Nw.use rfl (hz.1.2.2.2.1 _ castA)) hce hcv hcl ?_
      refine lv_astore_n (lv' := (3, .ref q9) :: [(0, .ref (B 5)), (1, .int (iI x)), (2, .int (iI t))]) F.1 F.2.1 dL_rehearses_11 rfl hl (by decide) rfl (fun ls hl => ?_)
      refine k_ldc F (v := -2000000002) (z := -2000000002) (by decide +kernel) (by decide +kernel) dL_rehearses_12 ?_
      exact W.iret F.1 F.2.1 hr (fun t9 ht _ => ⟨⟨_, P, rfl, rfl, by rw [ht]; exact hP, hD⟩, hS.F ht⟩) hS.2.2 dL_rehearses_14 hlocks
  · skip
    rw [show an (kReh σ x t) (wsm (rhS σ x.toNat t.toNat) x.toNat ((rhS σ x.toNat t.toNat) 8 x.toNat 0).toNat) (-2000000001) (-2000000002) (-2000000002) = wsm (rhS σ x.toNat t.toNat) x.toNat ((rhS σ x.toNat t.toNat) 8 x.toNat 0).toNat from an_0 hk]
    rw [show stt (kReh σ x t) ((rhS σ x.toNat t.toNat)) σ = (rhS σ x.toNat t.toNat) from stt_0 hk]
    exact W.iret F.1 F.2.1 hr (fun t9 ht _ => ⟨⟨_, P, rfl, rfl, (by rw [ht]; show gP G (CW G B P _ (rhS σ x.toNat t.toNat 2 0 0).toNat) H; rw [show rhS σ x.toNat t.toNat 2 = σ 2 from rhS_k _ 2 (by decide)]; exact hP), (by show va_D AA (CW G B P _ (rhS σ x.toNat t.toNat 2 0 0).toNat); rw [show rhS σ x.toNat t.toNat 2 = σ 2 from rhS_k _ 2 (by decide)]; exact hD)⟩, hS.F ht⟩) hS.2.2 dL_rehearses_6 hlocks

set_option maxHeartbeats 4000000 in
set_option maxRecDepth 100000 in
theorem mL_weakness (l : Launch) (hfl : l.stackTraces = false) (G : gT) (z0 sz0 : Nat) (B : Nat → Nat) (P : Nat → Nat → Nat) (σ : Sg) (x y : Int) (hx : -2147483648 ≤ x ∧ x < 2147483648) (hy : -2147483648 ≤ y ∧ y < 2147483648) {N : Nat} (hI : Jv σ N) (hN5 : N ≤ 512) : jC l yL_weakness wsL_weakness { frames := 8, cells := 6, slots := 36, locals := 155 } G z0 sz0 B P σ [.int (iI x), .int (iI y)] (an (kFat σ x y) (wkS σ x.toNat y.toNat) (-2000000001) (-2000000001) (-2000000001)) (σ) 6 36 := by
  refine l_start (own := RL) (cc := cL_weakness) (mL := 4) (ret := (some .int)) (hh := [(0, 6, 7, 23)]) (Qc := fun AA => jQ G B (an (kFat σ x y) (wkS σ x.toNat y.toNat) (-2000000001) (-2000000001) (-2000000001)) (σ) AA) (by decide) rfl rfl (Nat.le_of_ble_eq_true rfl) ?_
  intro pP eE sS mM args bB meth cC ls AA F hr hlocks htab hz hK hP hD hA hl
  have hS : sF sS sS.heap [] := va_S.rf
  have hl : lv_has ls 4 [(0, .ref (B 5)), (1, .int (iI x)), (2, .int (iI y))] := hl
  refine lv_aload_n F.1 F.2.1 dL_weakness_0 rfl (lv_at hl 0 rfl) ?_
  refine lv_iload_n F.1 F.2.1 dL_weakness_1 rfl (lv_at hl 1 rfl) ?_
  refine lv_iload_n F.1 F.2.1 dL_weakness_2 rfl (lv_at hl 2 rfl) ?_
  refine l_callW F (n := 2) (w := CW G B P σ (σ 2 0 0).toNat) (wr := []) (W2 := (fun _ : Unit => CW G B P σ (σ 2 0 0).toNat)) (asW (mX2_weakness l hfl G z0 B P σ x y hx hy hI (by omega))) gL_weakness_X2_weakness rfl rfl rfl (by decide +kernel) ⟨Nat.le_of_ble_eq_true rfl, Nat.le_of_ble_eq_true rfl⟩ hK hP hD hz.1 hS hA (ci := 2) (q0 := 5) rfl rfl rfl rfl hl.1 (Nat.le_of_ble_eq_true rfl) dL_weakness_3 ⟨Nat.le_of_ble_eq_true rfl, Nat.le_of_ble_eq_true rfl⟩ (fun hk ce q9 H locs hP hS hce hcv hcl => ?_) (fun hk _ H locs hP hD hS => ?_)
  · skip
    have hk3 : kFat σ x y = 1 := by
      unfold kFat at hk ⊢
      (repeat' split) <;> simp_all
    rw [show an (kFat σ x y) (wkS σ x.toNat y.toNat) (-2000000001) (-2000000001) (-2000000001) = -2000000001 from an_1 hk3]
    rw [hk3] at hcl
    have hcl : sS.vm.findClass nmI = some ce.cls := hcl
    refine vx_catch (own := RL) (name := nmI) F.2.2.2.1 [] ⟨0, 6, 7, 23⟩ [] (htab.trans rfl) (fun _ h9 => nomatch h9) (by decide) (by decide) (k_cond F (w := .classLink RL 23 nmI) (by decide +kernel)) (va_Nw.use rfl (hz.1.2.2.2.1 _ castI)) hce hcv hcl ?_
    refine lv_astore_n (lv' := (3, .ref q9) :: [(0, .ref (B 5)), (1, .int (iI x)), (2, .int (iI y))]) F.1 F.2.1 dL_weakness_7 rfl hl (by decide) rfl (fun ls hl => ?_)
    refine k_ldc F (v := -2000000001) (z := -2000000001) (by decide +kernel) (by decide +kernel) dL_weakness_8 ?_
    exact W.iret F.1 F.2.1 hr (fun t9 ht _ => ⟨⟨_, P, rfl, rfl, by rw [ht]; exact hP, hD⟩, hS.F ht⟩) hS.2.2 dL_weakness_10 hlocks
  · skip
    rw [show an (kFat σ x y) (wkS σ x.toNat y.toNat) (-2000000001) (-2000000001) (-2000000001) = wkS σ x.toNat y.toNat from an_0 hk]
    exact W.iret F.1 F.2.1 hr (fun t9 ht _ => ⟨⟨_, P, rfl, rfl, (by rw [ht]; exact hP), hD⟩, hS.F ht⟩) hS.2.2 dL_weakness_6 hlocks

set_option maxHeartbeats 4000000 in
set_option maxRecDepth 100000 in
theorem mL_weakest (l : Launch) (hfl : l.stackTraces = false) (G : gT) (z0 sz0 : Nat) (B : Nat → Nat) (P : Nat → Nat → Nat) (σ : Sg) (x : Int) (hx : -2147483648 ≤ x ∧ x < 2147483648) {N : Nat} (hI : Jv σ N) (hN5 : N ≤ 512) : jC l yL_weakest wsL_weakest { frames := 8, cells := 6, slots := 36, locals := 153 } G z0 sz0 B P σ [.int (iI x)] (an (kPic σ x) (((wkq σ x.toNat : Nat) : Int)) (-2000000001) (-2000000001) (-2000000001)) (σ) 6 36 := by
  refine l_start (own := RL) (cc := cL_weakest) (mL := 3) (ret := (some .int)) (hh := [(0, 5, 6, 23)]) (Qc := fun AA => jQ G B (an (kPic σ x) (((wkq σ x.toNat : Nat) : Int)) (-2000000001) (-2000000001) (-2000000001)) (σ) AA) (by decide) rfl rfl (Nat.le_of_ble_eq_true rfl) ?_
  intro pP eE sS mM args bB meth cC ls AA F hr hlocks htab hz hK hP hD hA hl
  have hS : sF sS sS.heap [] := va_S.rf
  have hl : lv_has ls 3 [(0, .ref (B 5)), (1, .int (iI x))] := hl
  refine lv_aload_n F.1 F.2.1 dL_weakest_0 rfl (lv_at hl 0 rfl) ?_
  refine lv_iload_n F.1 F.2.1 dL_weakest_1 rfl (lv_at hl 1 rfl) ?_
  refine l_callW F (n := 1) (w := CW G B P σ (σ 2 0 0).toNat) (wr := []) (W2 := (fun _ : Unit => CW G B P σ (σ 2 0 0).toNat)) (asW (mX2_weakest l hfl G z0 B P σ x hx hI (by omega))) gL_weakest_X2_weakest rfl rfl rfl (by decide +kernel) ⟨Nat.le_of_ble_eq_true rfl, Nat.le_of_ble_eq_true rfl⟩ hK hP hD hz.1 hS hA (ci := 2) (q0 := 5) rfl rfl rfl rfl hl.1 (Nat.le_of_ble_eq_true rfl) dL_weakest_2 ⟨Nat.le_of_ble_eq_true rfl, Nat.le_of_ble_eq_true rfl⟩ (fun hk ce q9 H locs hP hS hce hcv hcl => ?_) (fun hk _ H locs hP hD hS => ?_)
  · skip
    have hk3 : kPic σ x = 1 := by
      unfold kPic at hk ⊢
      (repeat' split) <;> simp_all
    rw [show an (kPic σ x) (((wkq σ x.toNat : Nat) : Int)) (-2000000001) (-2000000001) (-2000000001) = -2000000001 from an_1 hk3]
    rw [hk3] at hcl
    have hcl : sS.vm.findClass nmI = some ce.cls := hcl
    refine vx_catch (own := RL) (name := nmI) F.2.2.2.1 [] ⟨0, 5, 6, 23⟩ [] (htab.trans rfl) (fun _ h9 => nomatch h9) (by decide) (by decide) (k_cond F (w := .classLink RL 23 nmI) (by decide +kernel)) (va_Nw.use rfl (hz.1.2.2.2.1 _ castI)) hce hcv hcl ?_
    refine lv_astore_n (lv' := (2, .ref q9) :: [(0, .ref (B 5)), (1, .int (iI x))]) F.1 F.2.1 dL_weakest_6 rfl hl (by decide) rfl (fun ls hl => ?_)
    refine k_ldc F (v := -2000000001) (z := -2000000001) (by decide +kernel) (by decide +kernel) dL_weakest_7 ?_
    exact W.iret F.1 F.2.1 hr (fun t9 ht _ => ⟨⟨_, P, rfl, rfl, by rw [ht]; exact hP, hD⟩, hS.F ht⟩) hS.2.2 dL_weakest_9 hlocks
  · skip
    rw [show an (kPic σ x) (((wkq σ x.toNat : Nat) : Int)) (-2000000001) (-2000000001) (-2000000001) = ((wkq σ x.toNat : Nat) : Int) from an_0 hk]
    exact W.iret F.1 F.2.1 hr (fun t9 ht _ => ⟨⟨_, P, rfl, rfl, (by rw [ht]; exact hP), hD⟩, hS.F ht⟩) hS.2.2 dL_weakest_5 hlocks
