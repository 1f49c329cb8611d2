set_option maxHeartbeats 4000000 in
set_option maxRecDepth 100000 in
theorem mX3_refused (l : Launch) (G : gT) (sz0 : Nat) (A : Nat → Nat) (r0 : Int) (σ : Sg) (x z : Int) (hx : -2147483648 ≤ x ∧ x < 2147483648) (hz : z = bI (x ≠ 0)) : Met l yX3_refused wsX3_refused { frames := 0, cells := 0, slots := 0, locals := 0 } (va_Pc [.ref (A 0), .int (iI x)] (wB G (MW G A r0 σ) sz0)) (wI (z) G (MW G A x σ) (va_A (MW G A r0 σ) sz0)) 0 0 (va_A (MW G A r0 σ) sz0) := by
  refine wr_start (own := RX3) (cc := cX3_refused) (mL := 2) (ret := (some .boolean)) (Qc := fun AA => wI (z) G (MW G A x σ) AA) (by decide) rfl rfl (Nat.le_of_ble_eq_true rfl) ?_
  intro pP eE sS mM args bB meth cC ls AA F hr hlocks hin hK hsz0 hP hD hS hA hl
  have iX3 : ∀ x ∈ wsX30, x ∈ wsX3_refused := by decide +kernel
  have f34 := k_cond F (w := .fieldLink RX3 34 "ChoirPlannerModel" "refusal" "I") (by decide +kernel)
  have hl : lv_has ls 2 [(0, .ref (A 0)), (1, .int (iI x))] := hl
  refine lv_aload_n F.1 F.2.1 dX3_refused_0 rfl (lv_at hl 0 rfl) ?_
  refine lv_iload_n F.1 F.2.1 dX3_refused_1 rfl (lv_at hl 1 rfl) ?_
  refine va_put (D := G.1) (ci := 3) (v := .int (iI x)) (ty := .int) (C := RX3) (T := TX3) (N := 11) F.1 F.2.1 F.2.2.2.2 iX3 tyX3 tyX3_ok nmX3 F.2.2.2.1 hK hP hD hS 0 rfl rfl 0 (by decide) f34 (fun _ h9 => h9) rfl (by decide +kernel) rfl rfl (Nat.le_of_ble_eq_true rfl) dX3_refused_2 (fun H locs hP hD hS => ?_)
  have hP : gP G ([(A 0, .inr (3, [.int (iI x), .int (iI (σ 1 0 0)), .ref (A 1), .ref (A 2), .ref (A 3), .ref (A 4), .int (iI (σ 2 0 0)), .ref (A 5), .ref (A 6), .ref (A 7), .ref (A 8)])), (A 1, .inl (G.2.1, 12, .inl (ia (σ 3 0)))), (A 2, .inl (G.2.1, 12, .inl (ia (σ 4 0)))), (A 3, .inl (G.2.1, 12, .inl (ia (σ 5 0)))), (A 4, .inl (G.2.1, 12, .inl (ia (σ 6 0)))), (A 5, .inl (G.2.1, 448, .inl (ia (fun q => σ 7 (q / 64) (q % 64))))), (A 6, .inl (G.2.1, 7, .inl (ia (fun q => σ 8 q 0)))), (A 7, .inl (G.2.1, 6, .inl (ia (fun q => σ 9 q 0)))), (A 8, .inl (G.2.1, 96, .inl (ia (fun q => σ 10 (q / 16) (q % 16)))))]) H := hP
  have hD : va_D AA ([(A 0, .inr (3, [.int (iI x), .int (iI (σ 1 0 0)), .ref (A 1), .ref (A 2), .ref (A 3), .ref (A 4), .int (iI (σ 2 0 0)), .ref (A 5), .ref (A 6), .ref (A 7), .ref (A 8)])), (A 1, .inl (G.2.1, 12, .inl (ia (σ 3 0)))), (A 2, .inl (G.2.1, 12, .inl (ia (σ 4 0)))), (A 3, .inl (G.2.1, 12, .inl (ia (σ 5 0)))), (A 4, .inl (G.2.1, 12, .inl (ia (σ 6 0)))), (A 5, .inl (G.2.1, 448, .inl (ia (fun q => σ 7 (q / 64) (q % 64))))), (A 6, .inl (G.2.1, 7, .inl (ia (fun q => σ 8 q 0)))), (A 7, .inl (G.2.1, 6, .inl (ia (fun q => σ 9 q 0)))), (A 8, .inl (G.2.1, 96, .inl (ia (fun q => σ 10 (q / 16) (q % 16)))))]) := hD
  refine lv_iload_n F.1 F.2.1 dX3_refused_5 rfl (lv_at hl 1 rfl) ?_
  refine k_if_eq F (tgt := 13) dX3_refused_6 (by decide) (by omega) (fun c_1 => ?_) (fun c_1 => ?_)
  · skip
    refine k_iconst F dX3_refused_13 ?_
    exact wr_zret F hr hlocks (by rw [hz]; exact (bI_f (by omega)).symm) (Or.inl rfl) hP hS dX3_refused_14
  · skip
    refine k_iconst F dX3_refused_9 ?_
    refine lv_goto (tgt := 14) F.1 F.2.1 dX3_refused_10 (by decide) ?_
    exact wr_zret F hr hlocks (by rw [hz]; exact (bI_t (by omega)).symm) (Or.inr rfl) hP hS dX3_refused_14

set_option maxHeartbeats 4000000 in
set_option maxRecDepth 100000 in
theorem mX3_addSinger (l : Launch) (G : gT) (sz0 : Nat) (A : Nat → Nat) (r0 : Int) (σ : Sg) (v lo hi : Int) (hv : -2147483648 ≤ v ∧ v < 2147483648) (hlo : -2147483648 ≤ lo ∧ lo < 2147483648) (hhi : -2147483648 ≤ hi ∧ hi < 2147483648) {n k N : Nat} (hI : Iv σ n k N) : Met l yX3_addSinger wsX3_addSinger { frames := 2, cells := 0, slots := 0, locals := 42 } (va_Pc [.ref (A 0), .int (iI v), .int (iI lo), .int (iI hi)] (wB G (MW G A r0 σ) sz0)) (wI (if kAdd σ v lo hi = 0 then σ 1 0 0 else 0) G (MW G A (kAdd σ v lo hi) (if kAdd σ v lo hi = 0 then sAdd σ v lo hi else σ)) (va_A (MW G A r0 σ) sz0)) 0 0 (va_A (MW G A r0 σ) sz0) := by
  refine wr_start (own := RX3) (cc := cX3_addSinger) (mL := 5) (ret := (some .int)) (Qc := fun AA => wI (if kAdd σ v lo hi = 0 then σ 1 0 0 else 0) G (MW G A (kAdd σ v lo hi) (if kAdd σ v lo hi = 0 then sAdd σ v lo hi else σ)) AA) (by decide) rfl rfl (Nat.le_of_ble_eq_true rfl) ?_
  intro pP eE sS mM args bB meth cC ls AA F hr hlocks hin hK hsz0 hP hD hS hA hl
  obtain ⟨hn, hn12, hk, hk6, hsg, haw, hch, hch1, hch0, htn, hto, htz, hpr, hN, hpz, hle, hlz⟩ := id hI
  have iX3 : ∀ x ∈ wsX30, x ∈ wsX3_addSinger := by decide +kernel
  have f7 := k_cond F (w := .fieldLink RX3 7 "ChoirPlannerModel" "voiceOf" "[I") (by decide +kernel)
  have f13 := k_cond F (w := .fieldLink RX3 13 "ChoirPlannerModel" "lows" "[I") (by decide +kernel)
  have f16 := k_cond F (w := .fieldLink RX3 16 "ChoirPlannerModel" "highs" "[I") (by decide +kernel)
  have f42 := k_cond F (w := .fieldLink RX3 42 "ChoirPlannerModel" "singers" "I") (by decide +kernel)
  have hl : lv_has ls 5 [(0, .ref (A 0)), (1, .int (iI v)), (2, .int (iI lo)), (3, .int (iI hi))] := hl
  refine lv_iload_n F.1 F.2.1 dX3_addSinger_0 rfl (lv_at hl 1 rfl) ?_
  refine rd_S F (n := 1) (w0 := []) (mX3_isVoice l G (MW G A r0 σ) v (by omega)) gX3_addSinger_X3_isVoice rfl rfl rfl (by decide +kernel) ⟨Nat.le_of_ble_eq_true rfl, Nat.le_of_ble_eq_true rfl⟩ hK hP rfl rfl hl.1 (Nat.le_of_ble_eq_true rfl) dX3_addSinger_1 ⟨Nat.zero_le _, Nat.zero_le _⟩ ?_
  refine k_ifb_eq F (tgt := 28) dX3_addSinger_4 (by decide) (fun c_1 => ?_) (fun c_1 => ?_)
  · skip
    refine k_iconst F dX3_addSinger_28 ?_
    refine lv_istore (lv' := [(4, .int (iI 0)), (0, .ref (A 0)), (1, .int (iI v)), (2, .int (iI lo)), (3, .int (iI hi))]) F.1 F.2.1 dX3_addSinger_29 hl (by decide) rfl (fun ls hl => ?_)
    refine lv_aload_n F.1 F.2.1 dX3_addSinger_31 rfl (lv_at hl 1 rfl) ?_
    refine lv_iload F.1 F.2.1 dX3_addSinger_32 (lv_at hl 0 rfl) ?_
    refine k_if_ne F (tgt := 41) dX3_addSinger_34 (by decide) (by decide) (fun c_2 => absurd c_2 (by omega)) (fun c_2 => ?_)
    refine k_iconst F dX3_addSinger_37 ?_
    refine lv_goto (tgt := 55) F.1 F.2.1 dX3_addSinger_38 (by decide) ?_
    refine wr_V F (n := 1) (w := MW G A r0 σ) (w' := MW G A 1 σ) (wr := []) (ws2 := MW G A 1 σ) (mX3_refused l G sS.heap.size A r0 σ 1 1 (by decide) (by decide +kernel)) gX3_addSinger_X3_refused rfl rfl rfl (by decide +kernel) ⟨Nat.le_of_ble_eq_true rfl, Nat.le_of_ble_eq_true rfl⟩ hK hP hD hS hA (pm_nil _) (pm_nil' _) rfl (ci := 3) (q0 := 0) rfl rfl rfl rfl hl.1 (Nat.le_of_ble_eq_true rfl) dX3_addSinger_55 ⟨Nat.zero_le _, Nat.zero_le _⟩ (fun H locs hP hD hS => ?_)
    refine k_if_eq F (tgt := 63) dX3_addSinger_58 (by decide) (by decide) (fun c_3 => absurd c_3 (by omega)) (fun c_3 => ?_)
    refine k_iconst F dX3_addSinger_61 ?_
    exact wr_ret F hr hlocks (by rw [show kAdd σ v lo hi = 1 from (by unfold kAdd; (repeat' split) <;> omega), if_neg (by decide)]) (by rw [show kAdd σ v lo hi = 1 from (by unfold kAdd; (repeat' split) <;> omega), if_neg (by decide)]; exact hP) hS dX3_addSinger_62
  · skip
    refine lv_iload_n F.1 F.2.1 dX3_addSinger_7 rfl (lv_at hl 2 rfl) ?_
    refine rd_S F (n := 1) (w0 := []) (mX3_isTone l G (MW G A r0 σ) lo (by omega)) gX3_addSinger_X3_isTone rfl rfl rfl (by decide +kernel) ⟨Nat.le_of_ble_eq_true rfl, Nat.le_of_ble_eq_true rfl⟩ hK hP rfl rfl hl.1 (Nat.le_of_ble_eq_true rfl) dX3_addSinger_8 ⟨Nat.zero_le _, Nat.zero_le _⟩ ?_
    refine k_ifb_eq F (tgt := 28) dX3_addSinger_11 (by decide) (fun c_4 => ?_) (fun c_4 => ?_)
    · skip
      refine k_iconst F dX3_addSinger_28 ?_
      refine lv_istore (lv' := [(4, .int (iI 0)), (0, .ref (A 0)), (1, .int (iI v)), (2, .int (iI lo)), (3, .int (iI hi))]) F.1 F.2.1 dX3_addSinger_29 hl (by decide) rfl (fun ls hl => ?_)
      refine lv_aload_n F.1 F.2.1 dX3_addSinger_31 rfl (lv_at hl 1 rfl) ?_
      refine lv_iload F.1 F.2.1 dX3_addSinger_32 (lv_at hl 0 rfl) ?_
      refine k_if_ne F (tgt := 41) dX3_addSinger_34 (by decide) (by decide) (fun c_5 => absurd c_5 (by omega)) (fun c_5 => ?_)
      refine k_iconst F dX3_addSinger_37 ?_
      refine lv_goto (tgt := 55) F.1 F.2.1 dX3_addSinger_38 (by decide) ?_
      refine wr_V F (n := 1) (w := MW G A r0 σ) (w' := MW G A 1 σ) (wr := []) (ws2 := MW G A 1 σ) (mX3_refused l G sS.heap.size A r0 σ 1 1 (by decide) (by decide +kernel)) gX3_addSinger_X3_refused rfl rfl rfl (by decide +kernel) ⟨Nat.le_of_ble_eq_true rfl, Nat.le_of_ble_eq_true rfl⟩ hK hP hD hS hA (pm_nil _) (pm_nil' _) rfl (ci := 3) (q0 := 0) rfl rfl rfl rfl hl.1 (Nat.le_of_ble_eq_true rfl) dX3_addSinger_55 ⟨Nat.zero_le _, Nat.zero_le _⟩ (fun H locs hP hD hS => ?_)
      refine k_if_eq F (tgt := 63) dX3_addSinger_58 (by decide) (by decide) (fun c_6 => absurd c_6 (by omega)) (fun c_6 => ?_)
      refine k_iconst F dX3_addSinger_61 ?_
      exact wr_ret F hr hlocks (by rw [show kAdd σ v lo hi = 1 from (by unfold kAdd; (repeat' split) <;> omega), if_neg (by decide)]) (by rw [show kAdd σ v lo hi = 1 from (by unfold kAdd; (repeat' split) <;> omega), if_neg (by decide)]; exact hP) hS dX3_addSinger_62
    · skip
      refine lv_iload_n F.1 F.2.1 dX3_addSinger_14 rfl (lv_at hl 3 rfl) ?_
      refine lv_iload_n F.1 F.2.1 dX3_addSinger_15 rfl (lv_at hl 2 rfl) ?_
      refine k_bipush F dX3_addSinger_16 (by decide +kernel) ?_
      refine rd_S F (n := 3) (w0 := []) (mX3_in l G (MW G A r0 σ) hi lo 60 (by omega) (by omega) (by decide)) gX3_addSinger_X3_in rfl rfl rfl (by decide +kernel) ⟨Nat.le_of_ble_eq_true rfl, Nat.le_of_ble_eq_true rfl⟩ hK hP rfl rfl hl.1 (Nat.le_of_ble_eq_true rfl) dX3_addSinger_18 ⟨Nat.zero_le _, Nat.zero_le _⟩ ?_
      refine k_ifb_eq F (tgt := 28) dX3_addSinger_21 (by decide) (fun c_7 => ?_) (fun c_7 => ?_)
      · skip
        refine k_iconst F dX3_addSinger_28 ?_
        refine lv_istore (lv' := [(4, .int (iI 0)), (0, .ref (A 0)), (1, .int (iI v)), (2, .int (iI lo)), (3, .int (iI hi))]) F.1 F.2.1 dX3_addSinger_29 hl (by decide) rfl (fun ls hl => ?_)
        refine lv_aload_n F.1 F.2.1 dX3_addSinger_31 rfl (lv_at hl 1 rfl) ?_
        refine lv_iload F.1 F.2.1 dX3_addSinger_32 (lv_at hl 0 rfl) ?_
        refine k_if_ne F (tgt := 41) dX3_addSinger_34 (by decide) (by decide) (fun c_8 => absurd c_8 (by omega)) (fun c_8 => ?_)
        refine k_iconst F dX3_addSinger_37 ?_
        refine lv_goto (tgt := 55) F.1 F.2.1 dX3_addSinger_38 (by decide) ?_
        refine wr_V F (n := 1) (w := MW G A r0 σ) (w' := MW G A 1 σ) (wr := []) (ws2 := MW G A 1 σ) (mX3_refused l G sS.heap.size A r0 σ 1 1 (by decide) (by decide +kernel)) gX3_addSinger_X3_refused rfl rfl rfl (by decide +kernel) ⟨Nat.le_of_ble_eq_true rfl, Nat.le_of_ble_eq_true rfl⟩ hK hP hD hS hA (pm_nil _) (pm_nil' _) rfl (ci := 3) (q0 := 0) rfl rfl rfl rfl hl.1 (Nat.le_of_ble_eq_true rfl) dX3_addSinger_55 ⟨Nat.zero_le _, Nat.zero_le _⟩ (fun H locs hP hD hS => ?_)
        refine k_if_eq F (tgt := 63) dX3_addSinger_58 (by decide) (by decide) (fun c_9 => absurd c_9 (by omega)) (fun c_9 => ?_)
        refine k_iconst F dX3_addSinger_61 ?_
        exact wr_ret F hr hlocks (by rw [show kAdd σ v lo hi = 1 from (by unfold kAdd; (repeat' split) <;> omega), if_neg (by decide)]) (by rw [show kAdd σ v lo hi = 1 from (by unfold kAdd; (repeat' split) <;> omega), if_neg (by decide)]; exact hP) hS dX3_addSinger_62
      · skip
        refine k_iconst F dX3_addSinger_24 ?_
        refine lv_goto (tgt := 29) F.1 F.2.1 dX3_addSinger_25 (by decide) ?_
        refine lv_istore (lv' := [(4, .int (iI 1)), (0, .ref (A 0)), (1, .int (iI v)), (2, .int (iI lo)), (3, .int (iI hi))]) F.1 F.2.1 dX3_addSinger_29 hl (by decide) rfl (fun ls hl => ?_)
        refine lv_aload_n F.1 F.2.1 dX3_addSinger_31 rfl (lv_at hl 1 rfl) ?_
        refine lv_iload F.1 F.2.1 dX3_addSinger_32 (lv_at hl 0 rfl) ?_
        refine k_if_ne F (tgt := 41) dX3_addSinger_34 (by decide) (by decide) (fun c_10 => ?_) (fun c_10 => absurd c_10 (by omega))
        refine lv_aload_n F.1 F.2.1 dX3_addSinger_41 rfl (lv_at hl 1 rfl) ?_
        refine k_get F hK hP iX3 0 rfl rfl 1 (by decide) f42 rfl rfl dX3_addSinger_42 ?_
        refine k_bipush F dX3_addSinger_45 (by decide +kernel) ?_
        refine k_icmp_ne F (tgt := 54) dX3_addSinger_47 (by decide) (by omega) (by decide) (fun c_11 => ?_) (fun c_11 => ?_)
        · skip
          refine k_iconst F dX3_addSinger_54 ?_
          refine wr_V F (n := 1) (w := MW G A r0 σ) (w' := MW G A 0 σ) (wr := []) (ws2 := MW G A 0 σ) (mX3_refused l G sS.heap.size A r0 σ 0 0 (by decide) (by decide +kernel)) gX3_addSinger_X3_refused rfl rfl rfl (by decide +kernel) ⟨Nat.le_of_ble_eq_true rfl, Nat.le_of_ble_eq_true rfl⟩ hK hP hD hS hA (pm_nil _) (pm_nil' _) rfl (ci := 3) (q0 := 0) rfl rfl rfl rfl hl.1 (Nat.le_of_ble_eq_true rfl) dX3_addSinger_55 ⟨Nat.zero_le _, Nat.zero_le _⟩ (fun H locs hP hD hS => ?_)
          refine k_if_eq F (tgt := 63) dX3_addSinger_58 (by decide) (by decide) (fun c_12 => ?_) (fun c_12 => absurd c_12 (by omega))
          refine lv_aload_n F.1 F.2.1 dX3_addSinger_63 rfl (lv_at hl 1 rfl) ?_
          refine k_get F hK hP iX3 0 rfl rfl 2 (by decide) f7 rfl rfl dX3_addSinger_64 ?_
          refine lv_aload_n F.1 F.2.1 dX3_addSinger_67 rfl (lv_at hl 1 rfl) ?_
          refine k_get F hK hP iX3 0 rfl rfl 1 (by decide) f42 rfl rfl dX3_addSinger_68 ?_
          refine lv_iload_n F.1 F.2.1 dX3_addSinger_71 rfl (lv_at hl 2 rfl) ?_
          refine k_iast F hK hP hD hS 1 rfl ((σ 1 0 0).toNat) (by omega) (by omega) (by decide) dX3_addSinger_72 (fun H locs hP hD hS => ?_)
          have hP : gP G ([(A 0, .inr (3, [.int (iI 0), .int (iI (σ 1 0 0)), .ref (A 1), .ref (A 2), .ref (A 3), .ref (A 4), .int (iI (σ 2 0 0)), .ref (A 5), .ref (A 6), .ref (A 7), .ref (A 8)])), (A 1, .inl (G.2.1, 12, .inl (ia (uI (σ 3 0) ((σ 1 0 0).toNat) v)))), (A 2, .inl (G.2.1, 12, .inl (ia (σ 4 0)))), (A 3, .inl (G.2.1, 12, .inl (ia (σ 5 0)))), (A 4, .inl (G.2.1, 12, .inl (ia (σ 6 0)))), (A 5, .inl (G.2.1, 448, .inl (ia (fun q => σ 7 (q / 64) (q % 64))))), (A 6, .inl (G.2.1, 7, .inl (ia (fun q => σ 8 q 0)))), (A 7, .inl (G.2.1, 6, .inl (ia (fun q => σ 9 q 0)))), (A 8, .inl (G.2.1, 96, .inl (ia (fun q => σ 10 (q / 16) (q % 16)))))]) H := hP
          have hD : va_D AA ([(A 0, .inr (3, [.int (iI 0), .int (iI (σ 1 0 0)), .ref (A 1), .ref (A 2), .ref (A 3), .ref (A 4), .int (iI (σ 2 0 0)), .ref (A 5), .ref (A 6), .ref (A 7), .ref (A 8)])), (A 1, .inl (G.2.1, 12, .inl (ia (uI (σ 3 0) ((σ 1 0 0).toNat) v)))), (A 2, .inl (G.2.1, 12, .inl (ia (σ 4 0)))), (A 3, .inl (G.2.1, 12, .inl (ia (σ 5 0)))), (A 4, .inl (G.2.1, 12, .inl (ia (σ 6 0)))), (A 5, .inl (G.2.1, 448, .inl (ia (fun q => σ 7 (q / 64) (q % 64))))), (A 6, .inl (G.2.1, 7, .inl (ia (fun q => σ 8 q 0)))), (A 7, .inl (G.2.1, 6, .inl (ia (fun q => σ 9 q 0)))), (A 8, .inl (G.2.1, 96, .inl (ia (fun q => σ 10 (q / 16) (q % 16)))))]) := hD
          refine lv_aload_n F.1 F.2.1 dX3_addSinger_73 rfl (lv_at hl 1 rfl) ?_
          refine k_get F hK hP iX3 0 rfl rfl 3 (by decide) f13 rfl rfl dX3_addSinger_74 ?_
          refine lv_aload_n F.1 F.2.1 dX3_addSinger_77 rfl (lv_at hl 1 rfl) ?_
          refine k_get F hK hP iX3 0 rfl rfl 1 (by decide) f42 rfl rfl dX3_addSinger_78 ?_
          refine lv_iload_n F.1 F.2.1 dX3_addSinger_81 rfl (lv_at hl 3 rfl) ?_
          refine k_iast F hK hP hD hS 2 rfl ((σ 1 0 0).toNat) (by omega) (by omega) (by decide) dX3_addSinger_82 (fun H locs hP hD hS => ?_)
          have hP : gP G ([(A 0, .inr (3, [.int (iI 0), .int (iI (σ 1 0 0)), .ref (A 1), .ref (A 2), .ref (A 3), .ref (A 4), .int (iI (σ 2 0 0)), .ref (A 5), .ref (A 6), .ref (A 7), .ref (A 8)])), (A 1, .inl (G.2.1, 12, .inl (ia (uI (σ 3 0) ((σ 1 0 0).toNat) v)))), (A 2, .inl (G.2.1, 12, .inl (ia (uI (σ 4 0) ((σ 1 0 0).toNat) lo)))), (A 3, .inl (G.2.1, 12, .inl (ia (σ 5 0)))), (A 4, .inl (G.2.1, 12, .inl (ia (σ 6 0)))), (A 5, .inl (G.2.1, 448, .inl (ia (fun q => σ 7 (q / 64) (q % 64))))), (A 6, .inl (G.2.1, 7, .inl (ia (fun q => σ 8 q 0)))), (A 7, .inl (G.2.1, 6, .inl (ia (fun q => σ 9 q 0)))), (A 8, .inl (G.2.1, 96, .inl (ia (fun q => σ 10 (q / 16) (q % 16)))))]) H := hP
          have hD : va_D AA ([(A 0, .inr (3, [.int (iI 0), .int (iI (σ 1 0 0)), .ref (A 1), .ref (A 2), .ref (A 3), .ref (A 4), .int (iI (σ 2 0 0)), .ref (A 5), .ref (A 6), .ref (A 7), .ref (A 8)])), (A 1, .inl (G.2.1, 12, .inl (ia (uI (σ 3 0) ((σ 1 0 0).toNat) v)))), (A 2, .inl (G.2.1, 12, .inl (ia (uI (σ 4 0) ((σ 1 0 0).toNat) lo)))), (A 3, .inl (G.2.1, 12, .inl (ia (σ 5 0)))), (A 4, .inl (G.2.1, 12, .inl (ia (σ 6 0)))), (A 5, .inl (G.2.1, 448, .inl (ia (fun q => σ 7 (q / 64) (q % 64))))), (A 6, .inl (G.2.1, 7, .inl (ia (fun q => σ 8 q 0)))), (A 7, .inl (G.2.1, 6, .inl (ia (fun q => σ 9 q 0)))), (A 8, .inl (G.2.1, 96, .inl (ia (fun q => σ 10 (q / 16) (q % 16)))))]) := hD
          refine lv_aload_n F.1 F.2.1 dX3_addSinger_83 rfl (lv_at hl 1 rfl) ?_
          refine k_get F hK hP iX3 0 rfl rfl 4 (by decide) f16 rfl rfl dX3_addSinger_84 ?_
          refine lv_aload_n F.1 F.2.1 dX3_addSinger_87 rfl (lv_at hl 1 rfl) ?_
          refine k_get F hK hP iX3 0 rfl rfl 1 (by decide) f42 rfl rfl dX3_addSinger_88 ?_
          refine lv_iload_n F.1 F.2.1 dX3_addSinger_91 rfl (lv_at hl 4 rfl) ?_
          refine k_iast F hK hP hD hS 3 rfl ((σ 1 0 0).toNat) (by omega) (by omega) (by decide) dX3_addSinger_92 (fun H locs hP hD hS => ?_)
          have hP : gP G ([(A 0, .inr (3, [.int (iI 0), .int (iI (σ 1 0 0)), .ref (A 1), .ref (A 2), .ref (A 3), .ref (A 4), .int (iI (σ 2 0 0)), .ref (A 5), .ref (A 6), .ref (A 7), .ref (A 8)])), (A 1, .inl (G.2.1, 12, .inl (ia (uI (σ 3 0) ((σ 1 0 0).toNat) v)))), (A 2, .inl (G.2.1, 12, .inl (ia (uI (σ 4 0) ((σ 1 0 0).toNat) lo)))), (A 3, .inl (G.2.1, 12, .inl (ia (uI (σ 5 0) ((σ 1 0 0).toNat) hi)))), (A 4, .inl (G.2.1, 12, .inl (ia (σ 6 0)))), (A 5, .inl (G.2.1, 448, .inl (ia (fun q => σ 7 (q / 64) (q % 64))))), (A 6, .inl (G.2.1, 7, .inl (ia (fun q => σ 8 q 0)))), (A 7, .inl (G.2.1, 6, .inl (ia (fun q => σ 9 q 0)))), (A 8, .inl (G.2.1, 96, .inl (ia (fun q => σ 10 (q / 16) (q % 16)))))]) H := hP
          have hD : va_D AA ([(A 0, .inr (3, [.int (iI 0), .int (iI (σ 1 0 0)), .ref (A 1), .ref (A 2), .ref (A 3), .ref (A 4), .int (iI (σ 2 0 0)), .ref (A 5), .ref (A 6), .ref (A 7), .ref (A 8)])), (A 1, .inl (G.2.1, 12, .inl (ia (uI (σ 3 0) ((σ 1 0 0).toNat) v)))), (A 2, .inl (G.2.1, 12, .inl (ia (uI (σ 4 0) ((σ 1 0 0).toNat) lo)))), (A 3, .inl (G.2.1, 12, .inl (ia (uI (σ 5 0) ((σ 1 0 0).toNat) hi)))), (A 4, .inl (G.2.1, 12, .inl (ia (σ 6 0)))), (A 5, .inl (G.2.1, 448, .inl (ia (fun q => σ 7 (q / 64) (q % 64))))), (A 6, .inl (G.2.1, 7, .inl (ia (fun q => σ 8 q 0)))), (A 7, .inl (G.2.1, 6, .inl (ia (fun q => σ 9 q 0)))), (A 8, .inl (G.2.1, 96, .inl (ia (fun q => σ 10 (q / 16) (q % 16)))))]) := hD
          refine lv_aload_n F.1 F.2.1 dX3_addSinger_93 rfl (lv_at hl 1 rfl) ?_
          refine lv_dup F.1 F.2.1 dX3_addSinger_94 rfl ?_
          refine k_get F hK hP iX3 0 rfl rfl 1 (by decide) f42 rfl rfl dX3_addSinger_95 ?_
          refine k_iconst F dX3_addSinger_98 ?_
          refine k_iadd F rfl dX3_addSinger_99 ?_
          refine va_put (D := G.1) (ci := 3) (v := .int (iI (σ 1 0 0 + 1))) (ty := .int) (C := RX3) (T := TX3) (N := 11) F.1 F.2.1 F.2.2.2.2 iX3 tyX3 tyX3_ok nmX3 F.2.2.2.1 hK hP hD hS 0 rfl rfl 1 (by decide) f42 (fun _ h9 => h9) rfl (by decide +kernel) rfl rfl (Nat.le_of_ble_eq_true rfl) dX3_addSinger_100 (fun H locs hP hD hS => ?_)
          have hP : gP G ([(A 0, .inr (3, [.int (iI 0), .int (iI (σ 1 0 0 + 1)), .ref (A 1), .ref (A 2), .ref (A 3), .ref (A 4), .int (iI (σ 2 0 0)), .ref (A 5), .ref (A 6), .ref (A 7), .ref (A 8)])), (A 1, .inl (G.2.1, 12, .inl (ia (uI (σ 3 0) ((σ 1 0 0).toNat) v)))), (A 2, .inl (G.2.1, 12, .inl (ia (uI (σ 4 0) ((σ 1 0 0).toNat) lo)))), (A 3, .inl (G.2.1, 12, .inl (ia (uI (σ 5 0) ((σ 1 0 0).toNat) hi)))), (A 4, .inl (G.2.1, 12, .inl (ia (σ 6 0)))), (A 5, .inl (G.2.1, 448, .inl (ia (fun q => σ 7 (q / 64) (q % 64))))), (A 6, .inl (G.2.1, 7, .inl (ia (fun q => σ 8 q 0)))), (A 7, .inl (G.2.1, 6, .inl (ia (fun q => σ 9 q 0)))), (A 8, .inl (G.2.1, 96, .inl (ia (fun q => σ 10 (q / 16) (q % 16)))))]) H := hP
          have hD : va_D AA ([(A 0, .inr (3, [.int (iI 0), .int (iI (σ 1 0 0 + 1)), .ref (A 1), .ref (A 2), .ref (A 3), .ref (A 4), .int (iI (σ 2 0 0)), .ref (A 5), .ref (A 6), .ref (A 7), .ref (A 8)])), (A 1, .inl (G.2.1, 12, .inl (ia (uI (σ 3 0) ((σ 1 0 0).toNat) v)))), (A 2, .inl (G.2.1, 12, .inl (ia (uI (σ 4 0) ((σ 1 0 0).toNat) lo)))), (A 3, .inl (G.2.1, 12, .inl (ia (uI (σ 5 0) ((σ 1 0 0).toNat) hi)))), (A 4, .inl (G.2.1, 12, .inl (ia (σ 6 0)))), (A 5, .inl (G.2.1, 448, .inl (ia (fun q => σ 7 (q / 64) (q % 64))))), (A 6, .inl (G.2.1, 7, .inl (ia (fun q => σ 8 q 0)))), (A 7, .inl (G.2.1, 6, .inl (ia (fun q => σ 9 q 0)))), (A 8, .inl (G.2.1, 96, .inl (ia (fun q => σ 10 (q / 16) (q % 16)))))]) := hD
          refine lv_aload_n F.1 F.2.1 dX3_addSinger_103 rfl (lv_at hl 1 rfl) ?_
          refine k_get F hK hP iX3 0 rfl rfl 1 (by decide) f42 rfl rfl dX3_addSinger_104 ?_
          refine k_iconst F dX3_addSinger_107 ?_
          refine k_isub F (z := σ 1 0 0) (by omega) dX3_addSinger_108 ?_
          exact wr_ret F hr hlocks (by rw [show kAdd σ v lo hi = 0 from (by unfold kAdd; (repeat' split) <;> omega), if_pos rfl] <;> rfl) (by rw [show kAdd σ v lo hi = 0 from (by unfold kAdd; (repeat' split) <;> omega), if_pos rfl]; exact MW_of rfl rfl rfl rfl rfl rfl rfl rfl rfl rfl hP) hS dX3_addSinger_109
        · skip
          refine k_iconst F dX3_addSinger_50 ?_
          refine lv_goto (tgt := 55) F.1 F.2.1 dX3_addSinger_51 (by decide) ?_
          refine wr_V F (n := 1) (w := MW G A r0 σ) (w' := MW G A 2 σ) (wr := []) (ws2 := MW G A 2 σ) (mX3_refused l G sS.heap.size A r0 σ 2 1 (by decide) (by decide +kernel)) gX3_addSinger_X3_refused rfl rfl rfl (by decide +kernel) ⟨Nat.le_of_ble_eq_true rfl, Nat.le_of_ble_eq_true rfl⟩ hK hP hD hS hA (pm_nil _) (pm_nil' _) rfl (ci := 3) (q0 := 0) rfl rfl rfl rfl hl.1 (Nat.le_of_ble_eq_true rfl) dX3_addSinger_55 ⟨Nat.zero_le _, Nat.zero_le _⟩ (fun H locs hP hD hS => ?_)
          refine k_if_eq F (tgt := 63) dX3_addSinger_58 (by decide) (by decide) (fun c_13 => absurd c_13 (by omega)) (fun c_13 => ?_)
          refine k_iconst F dX3_addSinger_61 ?_
          exact wr_ret F hr hlocks (by rw [show kAdd σ v lo hi = 2 from (by unfold kAdd; (repeat' split) <;> omega), if_neg (by decide)]) (by rw [show kAdd σ v lo hi = 2 from (by unfold kAdd; (repeat' split) <;> omega), if_neg (by decide)]; exact hP) hS dX3_addSinger_62

set_option maxHeartbeats 4000000 in
set_option maxRecDepth 100000 in
theorem mX3_tell (l : Launch) (G : gT) (sz0 : Nat) (A : Nat → Nat) (r0 : Int) (σ : Sg) (x d t : Int) (hx : -2147483648 ≤ x ∧ x < 2147483648) (hd : -2147483648 ≤ d ∧ d < 2147483648) (ht : t = 0 ∨ t = 1) {n k N : Nat} (hI : Iv σ n k N) : Met l yX3_tell wsX3_tell { frames := 2, cells := 0, slots := 0, locals := 43 } (va_Pc [.ref (A 0), .int (iI x), .int (iI d), .int (iI t)] (wB G (MW G A r0 σ) sz0)) (wI (if kTel σ x d = 0 then bI (thr (σ 6 0 x.toNat) d = true) else 0) G (MW G A (kTel σ x d) (if kTel σ x d = 0 then sTel σ x d t else σ)) (va_A (MW G A r0 σ) sz0)) 0 0 (va_A (MW G A r0 σ) sz0) := by
  refine wr_start (own := RX3) (cc := cX3_tell) (mL := 5) (ret := (some .boolean)) (Qc := fun AA => wI (if kTel σ x d = 0 then bI (thr (σ 6 0 x.toNat) d = true) else 0) G (MW G A (kTel σ x d) (if kTel σ x d = 0 then sTel σ x d t else σ)) AA) (by decide) rfl rfl (Nat.le_of_ble_eq_true rfl) ?_
  intro pP eE sS mM args bB meth cC ls AA F hr hlocks hin hK hsz0 hP hD hS hA hl
  obtain ⟨hn, hn12, hk, hk6, hsg, haw, hch, hch1, hch0, htn, hto, htz, hpr, hN, hpz, hle, hlz⟩ := id hI
  have iX3 : ∀ x ∈ wsX30, x ∈ wsX3_tell := by decide +kernel
  have f19 := k_cond F (w := .fieldLink RX3 19 "ChoirPlannerModel" "away" "[I") (by decide +kernel)
  have hl : lv_has ls 5 [(0, .ref (A 0)), (1, .int (iI x)), (2, .int (iI d)), (3, .int (iI t))] := hl
  refine lv_aload_n F.1 F.2.1 dX3_tell_0 rfl (lv_at hl 0 rfl) ?_
  refine lv_aload_n F.1 F.2.1 dX3_tell_1 rfl (lv_at hl 0 rfl) ?_
  refine lv_iload_n F.1 F.2.1 dX3_tell_2 rfl (lv_at hl 1 rfl) ?_
  refine rd_V F (n := 1) (w0 := []) (mX3_isSinger l G A r0 σ x (by omega) hI) gX3_tell_X3_isSinger rfl rfl rfl (by decide +kernel) ⟨Nat.le_of_ble_eq_true rfl, Nat.le_of_ble_eq_true rfl⟩ hK hP (ci := 3) (q0 := 0) rfl rfl rfl rfl hl.1 (Nat.le_of_ble_eq_true rfl) dX3_tell_3 ⟨Nat.zero_le _, Nat.zero_le _⟩ ?_
  refine k_ifb_ne F (tgt := 13) dX3_tell_6 (by decide) (fun c_1 => ?_) (fun c_1 => ?_)
  · skip
    refine lv_iload_n F.1 F.2.1 dX3_tell_13 rfl (lv_at hl 2 rfl) ?_
    refine rd_S F (n := 1) (w0 := []) (mX3_isDate l G (MW G A r0 σ) d (by omega)) gX3_tell_X3_isDate rfl rfl rfl (by decide +kernel) ⟨Nat.le_of_ble_eq_true rfl, Nat.le_of_ble_eq_true rfl⟩ hK hP rfl rfl hl.1 (Nat.le_of_ble_eq_true rfl) dX3_tell_14 ⟨Nat.zero_le _, Nat.zero_le _⟩ ?_
    refine k_ifb_eq F (tgt := 24) dX3_tell_17 (by decide) (fun c_2 => ?_) (fun c_2 => ?_)
    · skip
      refine k_iconst F dX3_tell_24 ?_
      refine wr_V F (n := 1) (w := MW G A r0 σ) (w' := MW G A 2 σ) (wr := []) (ws2 := MW G A 2 σ) (mX3_refused l G sS.heap.size A r0 σ 2 1 (by decide) (by decide +kernel)) gX3_tell_X3_refused rfl rfl rfl (by decide +kernel) ⟨Nat.le_of_ble_eq_true rfl, Nat.le_of_ble_eq_true rfl⟩ hK hP hD hS hA (pm_nil _) (pm_nil' _) rfl (ci := 3) (q0 := 0) rfl rfl rfl rfl hl.1 (Nat.le_of_ble_eq_true rfl) dX3_tell_25 ⟨Nat.zero_le _, Nat.zero_le _⟩ (fun H locs hP hD hS => ?_)
      refine k_if_eq F (tgt := 33) dX3_tell_28 (by decide) (by decide) (fun c_3 => absurd c_3 (by omega)) (fun c_3 => ?_)
      refine k_iconst F dX3_tell_31 ?_
      exact wr_zret F hr hlocks (by rw [show kTel σ x d = 2 from (by unfold kTel; (repeat' split) <;> omega), if_neg (by decide)]) (Or.inl rfl) (by rw [show kTel σ x d = 2 from (by unfold kTel; (repeat' split) <;> omega), if_neg (by decide)]; exact hP) hS dX3_tell_32
    · skip
      refine k_iconst F dX3_tell_20 ?_
      refine lv_goto (tgt := 25) F.1 F.2.1 dX3_tell_21 (by decide) ?_
      refine wr_V F (n := 1) (w := MW G A r0 σ) (w' := MW G A 0 σ) (wr := []) (ws2 := MW G A 0 σ) (mX3_refused l G sS.heap.size A r0 σ 0 0 (by decide) (by decide +kernel)) gX3_tell_X3_refused rfl rfl rfl (by decide +kernel) ⟨Nat.le_of_ble_eq_true rfl, Nat.le_of_ble_eq_true rfl⟩ hK hP hD hS hA (pm_nil _) (pm_nil' _) rfl (ci := 3) (q0 := 0) rfl rfl rfl rfl hl.1 (Nat.le_of_ble_eq_true rfl) dX3_tell_25 ⟨Nat.zero_le _, Nat.zero_le _⟩ (fun H locs hP hD hS => ?_)
      refine k_if_eq F (tgt := 33) dX3_tell_28 (by decide) (by decide) (fun c_4 => ?_) (fun c_4 => absurd c_4 (by omega))
      have hK0 : kTel σ x d = 0 := (by unfold kTel; (repeat' split) <;> omega)
      obtain ⟨j, rfl⟩ : ∃ j : Nat, x = (j : Int) := ⟨x.toNat, by omega⟩
      refine lv_aload_n F.1 F.2.1 dX3_tell_33 rfl (lv_at hl 0 rfl) ?_
      refine lv_iload_n F.1 F.2.1 dX3_tell_34 rfl (lv_at hl 1 rfl) ?_
      refine lv_iload_n F.1 F.2.1 dX3_tell_35 rfl (lv_at hl 2 rfl) ?_
      refine rd_V F (n := 2) (w0 := []) (mX3_isThere l G A 0 σ j d (by omega)) gX3_tell_X3_isThere rfl rfl rfl (by decide +kernel) ⟨Nat.le_of_ble_eq_true rfl, Nat.le_of_ble_eq_true rfl⟩ hK hP (ci := 3) (q0 := 0) rfl rfl rfl rfl hl.1 (Nat.le_of_ble_eq_true rfl) dX3_tell_36 ⟨Nat.zero_le _, Nat.zero_le _⟩ ?_
      refine lv_istore (lv' := [(4, .int (iI (bI (thr (σ 6 0 j) d = true)))), (0, .ref (A 0)), (1, .int (iI (j : Int))), (2, .int (iI d)), (3, .int (iI t))]) F.1 F.2.1 dX3_tell_39 hl (by decide) rfl (fun ls hl => ?_)
      refine lv_aload_n F.1 F.2.1 dX3_tell_41 rfl (lv_at hl 1 rfl) ?_
      refine k_get F hK hP iX3 0 rfl rfl 5 (by decide) f19 rfl rfl dX3_tell_42 ?_
      refine lv_iload_n F.1 F.2.1 dX3_tell_45 rfl (lv_at hl 2 rfl) ?_
      refine lv_iload_n F.1 F.2.1 dX3_tell_46 rfl (lv_at hl 4 rfl) ?_
      refine k_if_eq F (tgt := 65) dX3_tell_47 (by decide) (by omega) (fun c_5 => ?_) (fun c_5 => ?_)
      · skip
        refine lv_aload_n F.1 F.2.1 dX3_tell_65 rfl (lv_at hl 1 rfl) ?_
        refine k_get F hK hP iX3 0 rfl rfl 5 (by decide) f19 rfl rfl dX3_tell_66 ?_
        refine lv_iload_n F.1 F.2.1 dX3_tell_69 rfl (lv_at hl 2 rfl) ?_
        refine k_iald F hK hP 4 rfl j (by omega) (by omega) (by decide) rfl dX3_tell_70 ?_
        refine k_iconst F dX3_tell_71 ?_
        refine lv_iload_n F.1 F.2.1 dX3_tell_72 rfl (lv_at hl 3 rfl) ?_
        refine k_ishl F dX3_tell_73 ?_
        refine k_ior F dX3_tell_74 ?_
        refine k_iast F hK hP hD hS 4 rfl j (by omega) (by omega) (by decide) dX3_tell_75 (fun H locs hP hD hS => ?_)
        have hP : gP G ([(A 0, .inr (3, [.int (iI 0), .int (iI (σ 1 0 0)), .ref (A 1), .ref (A 2), .ref (A 3), .ref (A 4), .int (iI (σ 2 0 0)), .ref (A 5), .ref (A 6), .ref (A 7), .ref (A 8)])), (A 1, .inl (G.2.1, 12, .inl (ia (σ 3 0)))), (A 2, .inl (G.2.1, 12, .inl (ia (σ 4 0)))), (A 3, .inl (G.2.1, 12, .inl (ia (σ 5 0)))), (A 4, .inl (G.2.1, 12, .inl (ia (uI (σ 6 0) j (orI ((σ 6 0) j) (shlI 1 d)))))), (A 5, .inl (G.2.1, 448, .inl (ia (fun q => σ 7 (q / 64) (q % 64))))), (A 6, .inl (G.2.1, 7, .inl (ia (fun q => σ 8 q 0)))), (A 7, .inl (G.2.1, 6, .inl (ia (fun q => σ 9 q 0)))), (A 8, .inl (G.2.1, 96, .inl (ia (fun q => σ 10 (q / 16) (q % 16)))))]) H := hP
        have hD : va_D AA ([(A 0, .inr (3, [.int (iI 0), .int (iI (σ 1 0 0)), .ref (A 1), .ref (A 2), .ref (A 3), .ref (A 4), .int (iI (σ 2 0 0)), .ref (A 5), .ref (A 6), .ref (A 7), .ref (A 8)])), (A 1, .inl (G.2.1, 12, .inl (ia (σ 3 0)))), (A 2, .inl (G.2.1, 12, .inl (ia (σ 4 0)))), (A 3, .inl (G.2.1, 12, .inl (ia (σ 5 0)))), (A 4, .inl (G.2.1, 12, .inl (ia (uI (σ 6 0) j (orI ((σ 6 0) j) (shlI 1 d)))))), (A 5, .inl (G.2.1, 448, .inl (ia (fun q => σ 7 (q / 64) (q % 64))))), (A 6, .inl (G.2.1, 7, .inl (ia (fun q => σ 8 q 0)))), (A 7, .inl (G.2.1, 6, .inl (ia (fun q => σ 9 q 0)))), (A 8, .inl (G.2.1, 96, .inl (ia (fun q => σ 10 (q / 16) (q % 16)))))]) := hD
        refine lv_iload F.1 F.2.1 dX3_tell_76 (lv_at hl 0 rfl) ?_
        exact wr_zret F hr hlocks (by rw [hK0, if_pos rfl] <;> rfl) (bI_01 _) (by rw [hK0, if_pos rfl]; first | (unfold sTel; rw [if_pos (by assumption)]; exact MW_of rfl rfl rfl rfl rfl rfl rfl rfl rfl rfl hP) | (unfold sTel; rw [if_neg (by assumption)]; exact MW_of rfl rfl rfl rfl rfl rfl rfl rfl rfl rfl hP)) hS dX3_tell_78
      · skip
        refine lv_aload_n F.1 F.2.1 dX3_tell_50 rfl (lv_at hl 1 rfl) ?_
        refine k_get F hK hP iX3 0 rfl rfl 5 (by decide) f19 rfl rfl dX3_tell_51 ?_
        refine lv_iload_n F.1 F.2.1 dX3_tell_54 rfl (lv_at hl 2 rfl) ?_
        refine k_iald F hK hP 4 rfl j (by omega) (by omega) (by decide) rfl dX3_tell_55 ?_
        refine k_iconst F dX3_tell_56 ?_
        refine lv_iload_n F.1 F.2.1 dX3_tell_57 rfl (lv_at hl 3 rfl) ?_
        refine k_ishl F dX3_tell_58 ?_
        refine k_iconst F dX3_tell_59 ?_
        refine k_ixor F dX3_tell_60 ?_
        refine k_iand F dX3_tell_61 ?_
        refine lv_goto (tgt := 75) F.1 F.2.1 dX3_tell_62 (by decide) ?_
        refine k_iast F hK hP hD hS 4 rfl j (by omega) (by omega) (by decide) dX3_tell_75 (fun H locs hP hD hS => ?_)
        have hP : gP G ([(A 0, .inr (3, [.int (iI 0), .int (iI (σ 1 0 0)), .ref (A 1), .ref (A 2), .ref (A 3), .ref (A 4), .int (iI (σ 2 0 0)), .ref (A 5), .ref (A 6), .ref (A 7), .ref (A 8)])), (A 1, .inl (G.2.1, 12, .inl (ia (σ 3 0)))), (A 2, .inl (G.2.1, 12, .inl (ia (σ 4 0)))), (A 3, .inl (G.2.1, 12, .inl (ia (σ 5 0)))), (A 4, .inl (G.2.1, 12, .inl (ia (uI (σ 6 0) j (andI ((σ 6 0) j) (xorI (shlI 1 d) (-1))))))), (A 5, .inl (G.2.1, 448, .inl (ia (fun q => σ 7 (q / 64) (q % 64))))), (A 6, .inl (G.2.1, 7, .inl (ia (fun q => σ 8 q 0)))), (A 7, .inl (G.2.1, 6, .inl (ia (fun q => σ 9 q 0)))), (A 8, .inl (G.2.1, 96, .inl (ia (fun q => σ 10 (q / 16) (q % 16)))))]) H := hP
        have hD : va_D AA ([(A 0, .inr (3, [.int (iI 0), .int (iI (σ 1 0 0)), .ref (A 1), .ref (A 2), .ref (A 3), .ref (A 4), .int (iI (σ 2 0 0)), .ref (A 5), .ref (A 6), .ref (A 7), .ref (A 8)])), (A 1, .inl (G.2.1, 12, .inl (ia (σ 3 0)))), (A 2, .inl (G.2.1, 12, .inl (ia (σ 4 0)))), (A 3, .inl (G.2.1, 12, .inl (ia (σ 5 0)))), (A 4, .inl (G.2.1, 12, .inl (ia (uI (σ 6 0) j (andI ((σ 6 0) j) (xorI (shlI 1 d) (-1))))))), (A 5, .inl (G.2.1, 448, .inl (ia (fun q => σ 7 (q / 64) (q % 64))))), (A 6, .inl (G.2.1, 7, .inl (ia (fun q => σ 8 q 0)))), (A 7, .inl (G.2.1, 6, .inl (ia (fun q => σ 9 q 0)))), (A 8, .inl (G.2.1, 96, .inl (ia (fun q => σ 10 (q / 16) (q % 16)))))]) := hD
        refine lv_iload F.1 F.2.1 dX3_tell_76 (lv_at hl 0 rfl) ?_
        exact wr_zret F hr hlocks (by rw [hK0, if_pos rfl] <;> rfl) (bI_01 _) (by rw [hK0, if_pos rfl]; first | (unfold sTel; rw [if_pos (by assumption)]; exact MW_of rfl rfl rfl rfl rfl rfl rfl rfl rfl rfl hP) | (unfold sTel; rw [if_neg (by assumption)]; exact MW_of rfl rfl rfl rfl rfl rfl rfl rfl rfl rfl hP)) hS dX3_tell_78
  · skip
    refine k_iconst F dX3_tell_9 ?_
    refine lv_goto (tgt := 25) F.1 F.2.1 dX3_tell_10 (by decide) ?_
    refine wr_V F (n := 1) (w := MW G A r0 σ) (w' := MW G A 1 σ) (wr := []) (ws2 := MW G A 1 σ) (mX3_refused l G sS.heap.size A r0 σ 1 1 (by decide) (by decide +kernel)) gX3_tell_X3_refused rfl rfl rfl (by decide +kernel) ⟨Nat.le_of_ble_eq_true rfl, Nat.le_of_ble_eq_true rfl⟩ hK hP hD hS hA (pm_nil _) (pm_nil' _) rfl (ci := 3) (q0 := 0) rfl rfl rfl rfl hl.1 (Nat.le_of_ble_eq_true rfl) dX3_tell_25 ⟨Nat.zero_le _, Nat.zero_le _⟩ (fun H locs hP hD hS => ?_)
    refine k_if_eq F (tgt := 33) dX3_tell_28 (by decide) (by decide) (fun c_6 => absurd c_6 (by omega)) (fun c_6 => ?_)
    refine k_iconst F dX3_tell_31 ?_
    exact wr_zret F hr hlocks (by rw [show kTel σ x d = 1 from (by unfold kTel; (repeat' split) <;> omega), if_neg (by decide)]) (Or.inl rfl) (by rw [show kTel σ x d = 1 from (by unfold kTel; (repeat' split) <;> omega), if_neg (by decide)]; exact hP) hS dX3_tell_32

set_option maxHeartbeats 4000000 in
set_option maxRecDepth 100000 in
theorem mX3_change (l : Launch) (G : gT) (sz0 : Nat) (A : Nat → Nat) (r0 : Int) (σ : Sg) (x v : Int) (hx : -2147483648 ≤ x ∧ x < 2147483648) (hv : -2147483648 ≤ v ∧ v < 2147483648) {n k N : Nat} (hI : Iv σ n k N) : Met l yX3_change wsX3_change { frames := 2, cells := 0, slots := 0, locals := 43 } (va_Pc [.ref (A 0), .int (iI x), .int (iI v)] (wB G (MW G A r0 σ) sz0)) (wI (if kChg σ x v = 0 then σ 3 0 x.toNat else 0) G (MW G A (kChg σ x v) (if kChg σ x v = 0 then su σ 3 0 x.toNat v else σ)) (va_A (MW G A r0 σ) sz0)) 0 0 (va_A (MW G A r0 σ) sz0) := by
  refine wr_start (own := RX3) (cc := cX3_change) (mL := 4) (ret := (some .int)) (Qc := fun AA => wI (if kChg σ x v = 0 then σ 3 0 x.toNat else 0) G (MW G A (kChg σ x v) (if kChg σ x v = 0 then su σ 3 0 x.toNat v else σ)) AA) (by decide) rfl rfl (Nat.le_of_ble_eq_true rfl) ?_
  intro pP eE sS mM args bB meth cC ls AA F hr hlocks hin hK hsz0 hP hD hS hA hl
  obtain ⟨hn, hn12, hk, hk6, hsg, haw, hch, hch1, hch0, htn, hto, htz, hpr, hN, hpz, hle, hlz⟩ := id hI
  have iX3 : ∀ x ∈ wsX30, x ∈ wsX3_change := by decide +kernel
  have f7 := k_cond F (w := .fieldLink RX3 7 "ChoirPlannerModel" "voiceOf" "[I") (by decide +kernel)
  have hl : lv_has ls 4 [(0, .ref (A 0)), (1, .int (iI x)), (2, .int (iI v))] := hl
  refine lv_aload_n F.1 F.2.1 dX3_change_0 rfl (lv_at hl 0 rfl) ?_
  refine lv_aload_n F.1 F.2.1 dX3_change_1 rfl (lv_at hl 0 rfl) ?_
  refine lv_iload_n F.1 F.2.1 dX3_change_2 rfl (lv_at hl 1 rfl) ?_
  refine rd_V F (n := 1) (w0 := []) (mX3_isSinger l G A r0 σ x (by omega) hI) gX3_change_X3_isSinger rfl rfl rfl (by decide +kernel) ⟨Nat.le_of_ble_eq_true rfl, Nat.le_of_ble_eq_true rfl⟩ hK hP (ci := 3) (q0 := 0) rfl rfl rfl rfl hl.1 (Nat.le_of_ble_eq_true rfl) dX3_change_3 ⟨Nat.zero_le _, Nat.zero_le _⟩ ?_
  refine k_ifb_ne F (tgt := 13) dX3_change_6 (by decide) (fun c_1 => ?_) (fun c_1 => ?_)
  · skip
    refine lv_iload_n F.1 F.2.1 dX3_change_13 rfl (lv_at hl 2 rfl) ?_
    refine rd_S F (n := 1) (w0 := []) (mX3_isVoice l G (MW G A r0 σ) v (by omega)) gX3_change_X3_isVoice rfl rfl rfl (by decide +kernel) ⟨Nat.le_of_ble_eq_true rfl, Nat.le_of_ble_eq_true rfl⟩ hK hP rfl rfl hl.1 (Nat.le_of_ble_eq_true rfl) dX3_change_14 ⟨Nat.zero_le _, Nat.zero_le _⟩ ?_
    refine k_ifb_eq F (tgt := 24) dX3_change_17 (by decide) (fun c_2 => ?_) (fun c_2 => ?_)
    · skip
      refine k_iconst F dX3_change_24 ?_
      refine wr_V F (n := 1) (w := MW G A r0 σ) (w' := MW G A 2 σ) (wr := []) (ws2 := MW G A 2 σ) (mX3_refused l G sS.heap.size A r0 σ 2 1 (by decide) (by decide +kernel)) gX3_change_X3_refused rfl rfl rfl (by decide +kernel) ⟨Nat.le_of_ble_eq_true rfl, Nat.le_of_ble_eq_true rfl⟩ hK hP hD hS hA (pm_nil _) (pm_nil' _) rfl (ci := 3) (q0 := 0) rfl rfl rfl rfl hl.1 (Nat.le_of_ble_eq_true rfl) dX3_change_25 ⟨Nat.zero_le _, Nat.zero_le _⟩ (fun H locs hP hD hS => ?_)
      refine k_if_eq F (tgt := 33) dX3_change_28 (by decide) (by decide) (fun c_3 => absurd c_3 (by omega)) (fun c_3 => ?_)
      refine k_iconst F dX3_change_31 ?_
      exact wr_ret F hr hlocks (by rw [show kChg σ x v = 2 from (by unfold kChg; (repeat' split) <;> omega), if_neg (by decide)]) (by rw [show kChg σ x v = 2 from (by unfold kChg; (repeat' split) <;> omega), if_neg (by decide)]; exact hP) hS dX3_change_32
    · skip
      refine k_iconst F dX3_change_20 ?_
      refine lv_goto (tgt := 25) F.1 F.2.1 dX3_change_21 (by decide) ?_
      refine wr_V F (n := 1) (w := MW G A r0 σ) (w' := MW G A 0 σ) (wr := []) (ws2 := MW G A 0 σ) (mX3_refused l G sS.heap.size A r0 σ 0 0 (by decide) (by decide +kernel)) gX3_change_X3_refused rfl rfl rfl (by decide +kernel) ⟨Nat.le_of_ble_eq_true rfl, Nat.le_of_ble_eq_true rfl⟩ hK hP hD hS hA (pm_nil _) (pm_nil' _) rfl (ci := 3) (q0 := 0) rfl rfl rfl rfl hl.1 (Nat.le_of_ble_eq_true rfl) dX3_change_25 ⟨Nat.zero_le _, Nat.zero_le _⟩ (fun H locs hP hD hS => ?_)
      refine k_if_eq F (tgt := 33) dX3_change_28 (by decide) (by decide) (fun c_4 => ?_) (fun c_4 => absurd c_4 (by omega))
      have hK0 : kChg σ x v = 0 := (by unfold kChg; (repeat' split) <;> omega)
      obtain ⟨j, rfl⟩ : ∃ j : Nat, x = (j : Int) := ⟨x.toNat, by omega⟩
      refine lv_aload_n F.1 F.2.1 dX3_change_33 rfl (lv_at hl 0 rfl) ?_
      refine k_get F hK hP iX3 0 rfl rfl 2 (by decide) f7 rfl rfl dX3_change_34 ?_
      refine lv_iload_n F.1 F.2.1 dX3_change_37 rfl (lv_at hl 1 rfl) ?_
      refine k_iald F hK hP 1 rfl j (by omega) (by omega) (by decide) rfl dX3_change_38 ?_
      refine lv_istore_n (lv' := [(3, .int (iI ((σ 3 0) j))), (0, .ref (A 0)), (1, .int (iI (j : Int))), (2, .int (iI v))]) F.1 F.2.1 dX3_change_39 rfl hl (by decide) rfl (fun ls hl => ?_)
      refine lv_aload_n F.1 F.2.1 dX3_change_40 rfl (lv_at hl 1 rfl) ?_
      refine k_get F hK hP iX3 0 rfl rfl 2 (by decide) f7 rfl rfl dX3_change_41 ?_
      refine lv_iload_n F.1 F.2.1 dX3_change_44 rfl (lv_at hl 2 rfl) ?_
      refine lv_iload_n F.1 F.2.1 dX3_change_45 rfl (lv_at hl 3 rfl) ?_
      refine k_iast F hK hP hD hS 1 rfl j (by omega) (by omega) (by decide) dX3_change_46 (fun H locs hP hD hS => ?_)
      have hP : gP G ([(A 0, .inr (3, [.int (iI 0), .int (iI (σ 1 0 0)), .ref (A 1), .ref (A 2), .ref (A 3), .ref (A 4), .int (iI (σ 2 0 0)), .ref (A 5), .ref (A 6), .ref (A 7), .ref (A 8)])), (A 1, .inl (G.2.1, 12, .inl (ia (uI (σ 3 0) j v)))), (A 2, .inl (G.2.1, 12, .inl (ia (σ 4 0)))), (A 3, .inl (G.2.1, 12, .inl (ia (σ 5 0)))), (A 4, .inl (G.2.1, 12, .inl (ia (σ 6 0)))), (A 5, .inl (G.2.1, 448, .inl (ia (fun q => σ 7 (q / 64) (q % 64))))), (A 6, .inl (G.2.1, 7, .inl (ia (fun q => σ 8 q 0)))), (A 7, .inl (G.2.1, 6, .inl (ia (fun q => σ 9 q 0)))), (A 8, .inl (G.2.1, 96, .inl (ia (fun q => σ 10 (q / 16) (q % 16)))))]) H := hP
      have hD : va_D AA ([(A 0, .inr (3, [.int (iI 0), .int (iI (σ 1 0 0)), .ref (A 1), .ref (A 2), .ref (A 3), .ref (A 4), .int (iI (σ 2 0 0)), .ref (A 5), .ref (A 6), .ref (A 7), .ref (A 8)])), (A 1, .inl (G.2.1, 12, .inl (ia (uI (σ 3 0) j v)))), (A 2, .inl (G.2.1, 12, .inl (ia (σ 4 0)))), (A 3, .inl (G.2.1, 12, .inl (ia (σ 5 0)))), (A 4, .inl (G.2.1, 12, .inl (ia (σ 6 0)))), (A 5, .inl (G.2.1, 448, .inl (ia (fun q => σ 7 (q / 64) (q % 64))))), (A 6, .inl (G.2.1, 7, .inl (ia (fun q => σ 8 q 0)))), (A 7, .inl (G.2.1, 6, .inl (ia (fun q => σ 9 q 0)))), (A 8, .inl (G.2.1, 96, .inl (ia (fun q => σ 10 (q / 16) (q % 16)))))]) := hD
      refine lv_iload_n F.1 F.2.1 dX3_change_47 rfl (lv_at hl 0 rfl) ?_
      exact wr_ret F hr hlocks (by rw [hK0, if_pos rfl] <;> rfl) (by rw [hK0, if_pos rfl]; exact MW_of rfl rfl rfl rfl rfl rfl rfl rfl rfl rfl hP) hS dX3_change_48
  · skip
    refine k_iconst F dX3_change_9 ?_
    refine lv_goto (tgt := 25) F.1 F.2.1 dX3_change_10 (by decide) ?_
    refine wr_V F (n := 1) (w := MW G A r0 σ) (w' := MW G A 1 σ) (wr := []) (ws2 := MW G A 1 σ) (mX3_refused l G sS.heap.size A r0 σ 1 1 (by decide) (by decide +kernel)) gX3_change_X3_refused rfl rfl rfl (by decide +kernel) ⟨Nat.le_of_ble_eq_true rfl, Nat.le_of_ble_eq_true rfl⟩ hK hP hD hS hA (pm_nil _) (pm_nil' _) rfl (ci := 3) (q0 := 0) rfl rfl rfl rfl hl.1 (Nat.le_of_ble_eq_true rfl) dX3_change_25 ⟨Nat.zero_le _, Nat.zero_le _⟩ (fun H locs hP hD hS => ?_)
    refine k_if_eq F (tgt := 33) dX3_change_28 (by decide) (by decide) (fun c_5 => absurd c_5 (by omega)) (fun c_5 => ?_)
    refine k_iconst F dX3_change_31 ?_
    exact wr_ret F hr hlocks (by rw [show kChg σ x v = 1 from (by unfold kChg; (repeat' split) <;> omega), if_neg (by decide)]) (by rw [show kChg σ x v = 1 from (by unfold kChg; (repeat' split) <;> omega), if_neg (by decide)]; exact hP) hS dX3_change_32

set_option maxHeartbeats 4000000 in
set_option maxRecDepth 100000 in
theorem mX3_range (l : Launch) (G : gT) (sz0 : Nat) (A : Nat → Nat) (r0 : Int) (σ : Sg) (v d : Int) (hv : -2147483648 ≤ v ∧ v < 2147483648) (hd : -2147483648 ≤ d ∧ d < 2147483648) {n k N : Nat} (hI : Iv σ n k N) : Met l yX3_range wsX3_range { frames := 2, cells := 0, slots := 0, locals := 47 } (va_Pc [.ref (A 0), .int (iI v), .int (iI d)] (wB G (MW G A r0 σ) sz0)) (wI (if kRng v d = 0 then vRng σ v d n else 0) G (MW G A (kRng v d) σ) (va_A (MW G A r0 σ) sz0)) 0 0 (va_A (MW G A r0 σ) sz0) := by
  refine wr_start (own := RX3) (cc := cX3_range) (mL := 5) (ret := (some .int)) (Qc := fun AA => wI (if kRng v d = 0 then vRng σ v d n else 0) G (MW G A (kRng v d) σ) AA) (by decide) rfl rfl (Nat.le_of_ble_eq_true rfl) ?_
  intro pP eE sS mM args bB meth cC ls AA F hr hlocks hin hK hsz0 hP hD hS hA hl
  obtain ⟨hn, hn12, hk, hk6, hsg, haw, hch, hch1, hch0, htn, hto, htz, hpr, hN, hpz, hle, hlz⟩ := id hI
  have bf := foM_rg (σ := σ) (v := v) (d := d) (n := n) (fun j hj => by have := hsg j hj; omega)
  have bl := laA_rg (σ := σ) (v := v) (d := d) (n := n) (fun j hj => by have := hsg j hj; omega) n (Nat.le_refl n)
  have hl : lv_has ls 5 [(0, .ref (A 0)), (1, .int (iI v)), (2, .int (iI d))] := hl
  refine lv_aload_n F.1 F.2.1 dX3_range_0 rfl (lv_at hl 0 rfl) ?_
  refine lv_iload_n F.1 F.2.1 dX3_range_1 rfl (lv_at hl 1 rfl) ?_
  refine rd_S F (n := 1) (w0 := []) (mX3_isVoice l G (MW G A r0 σ) v (by omega)) gX3_range_X3_isVoice rfl rfl rfl (by decide +kernel) ⟨Nat.le_of_ble_eq_true rfl, Nat.le_of_ble_eq_true rfl⟩ hK hP rfl rfl hl.1 (Nat.le_of_ble_eq_true rfl) dX3_range_2 ⟨Nat.zero_le _, Nat.zero_le _⟩ ?_
  refine k_ifb_eq F (tgt := 19) dX3_range_5 (by decide) (fun c_1 => ?_) (fun c_1 => ?_)
  · skip
    refine k_iconst F dX3_range_19 ?_
    refine wr_V F (n := 1) (w := MW G A r0 σ) (w' := MW G A 1 σ) (wr := []) (ws2 := MW G A 1 σ) (mX3_refused l G sS.heap.size A r0 σ 1 1 (by decide) (by decide +kernel)) gX3_range_X3_refused rfl rfl rfl (by decide +kernel) ⟨Nat.le_of_ble_eq_true rfl, Nat.le_of_ble_eq_true rfl⟩ hK hP hD hS hA (pm_nil _) (pm_nil' _) rfl (ci := 3) (q0 := 0) rfl rfl rfl rfl hl.1 (Nat.le_of_ble_eq_true rfl) dX3_range_20 ⟨Nat.zero_le _, Nat.zero_le _⟩ (fun H locs hP hD hS => ?_)
    refine k_if_eq F (tgt := 28) dX3_range_23 (by decide) (by decide) (fun c_2 => absurd c_2 (by omega)) (fun c_2 => ?_)
    refine k_iconst F dX3_range_26 ?_
    exact wr_ret F hr hlocks (by rw [show kRng v d = 1 from (by unfold kRng; (repeat' split) <;> omega), if_neg (by decide)]) (by rw [show kRng v d = 1 from (by unfold kRng; (repeat' split) <;> omega)]; exact hP) hS dX3_range_27
  · skip
    refine lv_iload_n F.1 F.2.1 dX3_range_8 rfl (lv_at hl 2 rfl) ?_
    refine rd_S F (n := 1) (w0 := []) (mX3_isDate l G (MW G A r0 σ) d (by omega)) gX3_range_X3_isDate rfl rfl rfl (by decide +kernel) ⟨Nat.le_of_ble_eq_true rfl, Nat.le_of_ble_eq_true rfl⟩ hK hP rfl rfl hl.1 (Nat.le_of_ble_eq_true rfl) dX3_range_9 ⟨Nat.zero_le _, Nat.zero_le _⟩ ?_
    refine k_ifb_eq F (tgt := 19) dX3_range_12 (by decide) (fun c_3 => ?_) (fun c_3 => ?_)
    · skip
      refine k_iconst F dX3_range_19 ?_
      refine wr_V F (n := 1) (w := MW G A r0 σ) (w' := MW G A 1 σ) (wr := []) (ws2 := MW G A 1 σ) (mX3_refused l G sS.heap.size A r0 σ 1 1 (by decide) (by decide +kernel)) gX3_range_X3_refused rfl rfl rfl (by decide +kernel) ⟨Nat.le_of_ble_eq_true rfl, Nat.le_of_ble_eq_true rfl⟩ hK hP hD hS hA (pm_nil _) (pm_nil' _) rfl (ci := 3) (q0 := 0) rfl rfl rfl rfl hl.1 (Nat.le_of_ble_eq_true rfl) dX3_range_20 ⟨Nat.zero_le _, Nat.zero_le _⟩ (fun H locs hP hD hS => ?_)
      refine k_if_eq F (tgt := 28) dX3_range_23 (by decide) (by decide) (fun c_4 => absurd c_4 (by omega)) (fun c_4 => ?_)
      refine k_iconst F dX3_range_26 ?_
      exact wr_ret F hr hlocks (by rw [show kRng v d = 1 from (by unfold kRng; (repeat' split) <;> omega), if_neg (by decide)]) (by rw [show kRng v d = 1 from (by unfold kRng; (repeat' split) <;> omega)]; exact hP) hS dX3_range_27
    · skip
      refine k_iconst F dX3_range_15 ?_
      refine lv_goto (tgt := 20) F.1 F.2.1 dX3_range_16 (by decide) ?_
      refine wr_V F (n := 1) (w := MW G A r0 σ) (w' := MW G A 0 σ) (wr := []) (ws2 := MW G A 0 σ) (mX3_refused l G sS.heap.size A r0 σ 0 0 (by decide) (by decide +kernel)) gX3_range_X3_refused rfl rfl rfl (by decide +kernel) ⟨Nat.le_of_ble_eq_true rfl, Nat.le_of_ble_eq_true rfl⟩ hK hP hD hS hA (pm_nil _) (pm_nil' _) rfl (ci := 3) (q0 := 0) rfl rfl rfl rfl hl.1 (Nat.le_of_ble_eq_true rfl) dX3_range_20 ⟨Nat.zero_le _, Nat.zero_le _⟩ (fun H locs hP hD hS => ?_)
      refine k_if_eq F (tgt := 28) dX3_range_23 (by decide) (by decide) (fun c_5 => ?_) (fun c_5 => absurd c_5 (by omega))
      refine lv_aload_n F.1 F.2.1 dX3_range_28 rfl (lv_at hl 0 rfl) ?_
      refine lv_iload_n F.1 F.2.1 dX3_range_29 rfl (lv_at hl 1 rfl) ?_
      refine lv_iload_n F.1 F.2.1 dX3_range_30 rfl (lv_at hl 2 rfl) ?_
      refine rd_V F (n := 2) (w0 := []) (mX3_firstOf l G A 0 σ v d (by omega) hI) gX3_range_X3_firstOf rfl rfl rfl (by decide +kernel) ⟨Nat.le_of_ble_eq_true rfl, Nat.le_of_ble_eq_true rfl⟩ hK hP (ci := 3) (q0 := 0) rfl rfl rfl rfl hl.1 (Nat.le_of_ble_eq_true rfl) dX3_range_31 ⟨Nat.zero_le _, Nat.zero_le _⟩ ?_
      refine lv_istore_n (lv' := [(3, .int (iI (foM σ v d n))), (0, .ref (A 0)), (1, .int (iI v)), (2, .int (iI d))]) F.1 F.2.1 dX3_range_34 rfl hl (by decide) rfl (fun ls hl => ?_)
      refine lv_aload_n F.1 F.2.1 dX3_range_35 rfl (lv_at hl 1 rfl) ?_
      refine lv_iload_n F.1 F.2.1 dX3_range_36 rfl (lv_at hl 2 rfl) ?_
      refine lv_iload_n F.1 F.2.1 dX3_range_37 rfl (lv_at hl 3 rfl) ?_
      refine rd_V F (n := 2) (w0 := []) (mX3_lastOf l G A 0 σ v d (by omega) hI) gX3_range_X3_lastOf rfl rfl rfl (by decide +kernel) ⟨Nat.le_of_ble_eq_true rfl, Nat.le_of_ble_eq_true rfl⟩ hK hP (ci := 3) (q0 := 0) rfl rfl rfl rfl hl.1 (Nat.le_of_ble_eq_true rfl) dX3_range_38 ⟨Nat.zero_le _, Nat.zero_le _⟩ ?_
      refine lv_istore (lv' := [(4, .int (iI (laA σ v d n))), (3, .int (iI (foM σ v d n))), (0, .ref (A 0)), (1, .int (iI v)), (2, .int (iI d))]) F.1 F.2.1 dX3_range_41 hl (by decide) rfl (fun ls hl => ?_)
      refine lv_iload_n F.1 F.2.1 dX3_range_43 rfl (lv_at hl 1 rfl) ?_
      refine lv_iload F.1 F.2.1 dX3_range_44 (lv_at hl 0 rfl) ?_
      refine k_icmp_le F (tgt := 53) dX3_range_46 (by decide) (by omega) (by omega) (fun c_6 => ?_) (fun c_6 => ?_)
      · skip
        refine k_bipush F dX3_range_53 (by decide +kernel) ?_
        refine lv_iload_n F.1 F.2.1 dX3_range_55 rfl (lv_at hl 1 rfl) ?_
        refine k_imul F rfl dX3_range_56 ?_
        refine lv_iload F.1 F.2.1 dX3_range_57 (lv_at hl 0 rfl) ?_
        refine k_iadd F rfl dX3_range_59 ?_
        exact wr_ret F hr hlocks (by rw [show kRng v d = 0 from (by unfold kRng; (repeat' split) <;> omega), if_pos rfl]; unfold vRng; first | rw [if_pos (by omega)] | rw [if_neg (by omega)]) (by rw [show kRng v d = 0 from (by unfold kRng; (repeat' split) <;> omega)]; exact hP) hS dX3_range_60
      · skip
        refine k_iconst F dX3_range_49 ?_
        refine lv_goto (tgt := 60) F.1 F.2.1 dX3_range_50 (by decide) ?_
        exact wr_ret F hr hlocks (by rw [show kRng v d = 0 from (by unfold kRng; (repeat' split) <;> omega), if_pos rfl]; unfold vRng; first | rw [if_pos (by omega)] | rw [if_neg (by omega)]) (by rw [show kRng v d = 0 from (by unfold kRng; (repeat' split) <;> omega)]; exact hP) hS dX3_range_60

set_option maxHeartbeats 4000000 in
set_option maxRecDepth 100000 in
theorem mX3_faultsAt (l : Launch) (G : gT) (sz0 : Nat) (A : Nat → Nat) (r0 : Int) (σ : Sg) (x y : Int) (hx : -2147483648 ≤ x ∧ x < 2147483648) (hy : -2147483648 ≤ y ∧ y < 2147483648) {n k N : Nat} (hI : Iv σ n k N) : Met l yX3_faultsAt wsX3_faultsAt { frames := 3, cells := 0, slots := 0, locals := 76 } (va_Pc [.ref (A 0), .int (iI x), .int (iI y)] (wB G (MW G A r0 σ) sz0)) (wI (if kFat σ x y = 0 then mvf (σ 7 x.toNat) y.toNat else 0) G (MW G A (kFat σ x y) σ) (va_A (MW G A r0 σ) sz0)) 0 0 (va_A (MW G A r0 σ) sz0) := by
  refine wr_start (own := RX3) (cc := cX3_faultsAt) (mL := 3) (ret := (some .int)) (Qc := fun AA => wI (if kFat σ x y = 0 then mvf (σ 7 x.toNat) y.toNat else 0) G (MW G A (kFat σ x y) σ) AA) (by decide) rfl rfl (Nat.le_of_ble_eq_true rfl) ?_
  intro pP eE sS mM args bB meth cC ls AA F hr hlocks hin hK hsz0 hP hD hS hA hl
  obtain ⟨hn, hn12, hk, hk6, hsg, haw, hch, hch1, hch0, htn, hto, htz, hpr, hN, hpz, hle, hlz⟩ := id hI
  have hcx := hch x.toNat
  have hl : lv_has ls 3 [(0, .ref (A 0)), (1, .int (iI x)), (2, .int (iI y))] := hl
  refine lv_aload_n F.1 F.2.1 dX3_faultsAt_0 rfl (lv_at hl 0 rfl) ?_
  refine lv_aload_n F.1 F.2.1 dX3_faultsAt_1 rfl (lv_at hl 0 rfl) ?_
  refine lv_iload_n F.1 F.2.1 dX3_faultsAt_2 rfl (lv_at hl 1 rfl) ?_
  refine lv_iload_n F.1 F.2.1 dX3_faultsAt_3 rfl (lv_at hl 2 rfl) ?_
  refine rd_V F (n := 2) (w0 := []) (mX3_isChord l G A r0 σ x y (by omega) (by omega) hI) gX3_faultsAt_X3_isChord rfl rfl rfl (by decide +kernel) ⟨Nat.le_of_ble_eq_true rfl, Nat.le_of_ble_eq_true rfl⟩ hK hP (ci := 3) (q0 := 0) rfl rfl rfl rfl hl.1 (Nat.le_of_ble_eq_true rfl) dX3_faultsAt_4 ⟨Nat.zero_le _, Nat.zero_le _⟩ ?_
  refine k_ifb_eq F (tgt := 14) dX3_faultsAt_7 (by decide) (fun c_1 => ?_) (fun c_1 => ?_)
  · skip
    refine k_iconst F dX3_faultsAt_14 ?_
    refine wr_V F (n := 1) (w := MW G A r0 σ) (w' := MW G A 1 σ) (wr := []) (ws2 := MW G A 1 σ) (mX3_refused l G sS.heap.size A r0 σ 1 1 (by decide) (by decide +kernel)) gX3_faultsAt_X3_refused rfl rfl rfl (by decide +kernel) ⟨Nat.le_of_ble_eq_true rfl, Nat.le_of_ble_eq_true rfl⟩ hK hP hD hS hA (pm_nil _) (pm_nil' _) rfl (ci := 3) (q0 := 0) rfl rfl rfl rfl hl.1 (Nat.le_of_ble_eq_true rfl) dX3_faultsAt_15 ⟨Nat.zero_le _, Nat.zero_le _⟩ (fun H locs hP hD hS => ?_)
    refine k_if_eq F (tgt := 25) dX3_faultsAt_18 (by decide) (by decide) (fun c_2 => absurd c_2 (by omega)) (fun c_2 => ?_)
    refine k_iconst F dX3_faultsAt_21 ?_
    refine lv_goto (tgt := 31) F.1 F.2.1 dX3_faultsAt_22 (by decide) ?_
    exact wr_ret F hr hlocks (by rw [show kFat σ x y = 1 from (by unfold kFat; (repeat' split) <;> omega), if_neg (by decide)]) (by rw [show kFat σ x y = 1 from (by unfold kFat; (repeat' split) <;> omega)]; exact hP) hS dX3_faultsAt_31
  · skip
    refine k_iconst F dX3_faultsAt_10 ?_
    refine lv_goto (tgt := 15) F.1 F.2.1 dX3_faultsAt_11 (by decide) ?_
    refine wr_V F (n := 1) (w := MW G A r0 σ) (w' := MW G A 0 σ) (wr := []) (ws2 := MW G A 0 σ) (mX3_refused l G sS.heap.size A r0 σ 0 0 (by decide) (by decide +kernel)) gX3_faultsAt_X3_refused rfl rfl rfl (by decide +kernel) ⟨Nat.le_of_ble_eq_true rfl, Nat.le_of_ble_eq_true rfl⟩ hK hP hD hS hA (pm_nil _) (pm_nil' _) rfl (ci := 3) (q0 := 0) rfl rfl rfl rfl hl.1 (Nat.le_of_ble_eq_true rfl) dX3_faultsAt_15 ⟨Nat.zero_le _, Nat.zero_le _⟩ (fun H locs hP hD hS => ?_)
    refine k_if_eq F (tgt := 25) dX3_faultsAt_18 (by decide) (by decide) (fun c_3 => ?_) (fun c_3 => absurd c_3 (by omega))
    have hK0 : kFat σ x y = 0 := (by unfold kFat; (repeat' split) <;> omega)
    obtain ⟨i, rfl⟩ : ∃ i : Nat, x = (i : Int) := ⟨x.toNat, by omega⟩
    obtain ⟨c, rfl⟩ : ∃ c : Nat, y = (c : Int) := ⟨y.toNat, by omega⟩
    simp only [Int.toNat_natCast] at c_1 hcx
    refine lv_aload_n F.1 F.2.1 dX3_faultsAt_25 rfl (lv_at hl 0 rfl) ?_
    refine lv_iload_n F.1 F.2.1 dX3_faultsAt_26 rfl (lv_at hl 1 rfl) ?_
    refine lv_iload_n F.1 F.2.1 dX3_faultsAt_27 rfl (lv_at hl 2 rfl) ?_
    refine rd_V F (n := 2) (w0 := []) (mX3_faultsOf l G A 0 σ i c (by omega) (by omega) hI) gX3_faultsAt_X3_faultsOf rfl rfl rfl (by decide +kernel) ⟨Nat.le_of_ble_eq_true rfl, Nat.le_of_ble_eq_true rfl⟩ hK hP (ci := 3) (q0 := 0) rfl rfl rfl rfl hl.1 (Nat.le_of_ble_eq_true rfl) dX3_faultsAt_28 ⟨Nat.zero_le _, Nat.zero_le _⟩ ?_
    exact wr_ret F hr hlocks (by rw [hK0, if_pos rfl] <;> rfl) (by rw [hK0]; exact hP) hS dX3_faultsAt_31

set_option maxHeartbeats 4000000 in
set_option maxRecDepth 100000 in
theorem mX3_faults (l : Launch) (G : gT) (sz0 : Nat) (A : Nat → Nat) (r0 : Int) (σ : Sg) (x : Int) (hx : -2147483648 ≤ x ∧ x < 2147483648) {n k N : Nat} (hI : Iv σ n k N) : Met l yX3_faults wsX3_faults { frames := 4, cells := 0, slots := 0, locals := 99 } (va_Pc [.ref (A 0), .int (iI x)] (wB G (MW G A r0 σ) sz0)) (wI (if kPic σ x = 0 then alf (σ 7 x.toNat) (σ 8 x.toNat 0) else 0) G (MW G A (kPic σ x) σ) (va_A (MW G A r0 σ) sz0)) 0 0 (va_A (MW G A r0 σ) sz0) := by
  refine wr_start (own := RX3) (cc := cX3_faults) (mL := 2) (ret := (some .int)) (Qc := fun AA => wI (if kPic σ x = 0 then alf (σ 7 x.toNat) (σ 8 x.toNat 0) else 0) G (MW G A (kPic σ x) σ) AA) (by decide) rfl rfl (Nat.le_of_ble_eq_true rfl) ?_
  intro pP eE sS mM args bB meth cC ls AA F hr hlocks hin hK hsz0 hP hD hS hA hl
  obtain ⟨hn, hn12, hk, hk6, hsg, haw, hch, hch1, hch0, htn, hto, htz, hpr, hN, hpz, hle, hlz⟩ := id hI
  have hl : lv_has ls 2 [(0, .ref (A 0)), (1, .int (iI x))] := hl
  refine lv_aload_n F.1 F.2.1 dX3_faults_0 rfl (lv_at hl 0 rfl) ?_
  refine lv_aload_n F.1 F.2.1 dX3_faults_1 rfl (lv_at hl 0 rfl) ?_
  refine lv_iload_n F.1 F.2.1 dX3_faults_2 rfl (lv_at hl 1 rfl) ?_
  refine rd_V F (n := 1) (w0 := []) (mX3_isPiece l G A r0 σ x (by omega) hI) gX3_faults_X3_isPiece rfl rfl rfl (by decide +kernel) ⟨Nat.le_of_ble_eq_true rfl, Nat.le_of_ble_eq_true rfl⟩ hK hP (ci := 3) (q0 := 0) rfl rfl rfl rfl hl.1 (Nat.le_of_ble_eq_true rfl) dX3_faults_3 ⟨Nat.zero_le _, Nat.zero_le _⟩ ?_
  refine k_ifb_eq F (tgt := 13) dX3_faults_6 (by decide) (fun c_1 => ?_) (fun c_1 => ?_)
  · skip
    refine k_iconst F dX3_faults_13 ?_
    refine wr_V F (n := 1) (w := MW G A r0 σ) (w' := MW G A 1 σ) (wr := []) (ws2 := MW G A 1 σ) (mX3_refused l G sS.heap.size A r0 σ 1 1 (by decide) (by decide +kernel)) gX3_faults_X3_refused rfl rfl rfl (by decide +kernel) ⟨Nat.le_of_ble_eq_true rfl, Nat.le_of_ble_eq_true rfl⟩ hK hP hD hS hA (pm_nil _) (pm_nil' _) rfl (ci := 3) (q0 := 0) rfl rfl rfl rfl hl.1 (Nat.le_of_ble_eq_true rfl) dX3_faults_14 ⟨Nat.zero_le _, Nat.zero_le _⟩ (fun H locs hP hD hS => ?_)
    refine k_if_eq F (tgt := 24) dX3_faults_17 (by decide) (by decide) (fun c_2 => absurd c_2 (by omega)) (fun c_2 => ?_)
    refine k_iconst F dX3_faults_20 ?_
    refine lv_goto (tgt := 29) F.1 F.2.1 dX3_faults_21 (by decide) ?_
    exact wr_ret F hr hlocks (by rw [show kPic σ x = 1 from (by unfold kPic; (repeat' split) <;> omega), if_neg (by decide)]) (by rw [show kPic σ x = 1 from (by unfold kPic; (repeat' split) <;> omega)]; exact hP) hS dX3_faults_29
  · skip
    refine k_iconst F dX3_faults_9 ?_
    refine lv_goto (tgt := 14) F.1 F.2.1 dX3_faults_10 (by decide) ?_
    refine wr_V F (n := 1) (w := MW G A r0 σ) (w' := MW G A 0 σ) (wr := []) (ws2 := MW G A 0 σ) (mX3_refused l G sS.heap.size A r0 σ 0 0 (by decide) (by decide +kernel)) gX3_faults_X3_refused rfl rfl rfl (by decide +kernel) ⟨Nat.le_of_ble_eq_true rfl, Nat.le_of_ble_eq_true rfl⟩ hK hP hD hS hA (pm_nil _) (pm_nil' _) rfl (ci := 3) (q0 := 0) rfl rfl rfl rfl hl.1 (Nat.le_of_ble_eq_true rfl) dX3_faults_14 ⟨Nat.zero_le _, Nat.zero_le _⟩ (fun H locs hP hD hS => ?_)
    refine k_if_eq F (tgt := 24) dX3_faults_17 (by decide) (by decide) (fun c_3 => ?_) (fun c_3 => absurd c_3 (by omega))
    have hK0 : kPic σ x = 0 := (by unfold kPic; (repeat' split) <;> omega)
    obtain ⟨i, rfl⟩ : ∃ i : Nat, x = (i : Int) := ⟨x.toNat, by omega⟩
    refine lv_aload_n F.1 F.2.1 dX3_faults_24 rfl (lv_at hl 0 rfl) ?_
    refine lv_iload_n F.1 F.2.1 dX3_faults_25 rfl (lv_at hl 1 rfl) ?_
    refine rd_V F (n := 1) (w0 := []) (mX3_allFaults l G A 0 σ i (by omega) hI) gX3_faults_X3_allFaults rfl rfl rfl (by decide +kernel) ⟨Nat.le_of_ble_eq_true rfl, Nat.le_of_ble_eq_true rfl⟩ hK hP (ci := 3) (q0 := 0) rfl rfl rfl rfl hl.1 (Nat.le_of_ble_eq_true rfl) dX3_faults_26 ⟨Nat.zero_le _, Nat.zero_le _⟩ ?_
    exact wr_ret F hr hlocks (by rw [hK0, if_pos rfl] <;> rfl) (by rw [hK0]; exact hP) hS dX3_faults_29

set_option maxHeartbeats 4000000 in
set_option maxRecDepth 100000 in
theorem mX3_shift (l : Launch) (G : gT) (sz0 : Nat) (A : Nat → Nat) (r0 : Int) (σ : Sg) (x d : Int) (hx : -2147483648 ≤ x ∧ x < 2147483648) (hd : -2147483648 ≤ d ∧ d < 2147483648) {n k N : Nat} (hI : Iv σ n k N) : Met l yX3_shift wsX3_shift { frames := 4, cells := 0, slots := 0, locals := 98 } (va_Pc [.ref (A 0), .int (iI x), .int (iI d)] (wB G (MW G A r0 σ) sz0)) (wI (if kShf σ n x d = 0 then shS σ x.toNat n d 13 else 0) G (MW G A (kShf σ n x d) σ) (va_A (MW G A r0 σ) sz0)) 0 0 (va_A (MW G A r0 σ) sz0) := by
  refine wr_start (own := RX3) (cc := cX3_shift) (mL := 5) (ret := (some .int)) (Qc := fun AA => wI (if kShf σ n x d = 0 then shS σ x.toNat n d 13 else 0) G (MW G A (kShf σ n x d) σ) AA) (by decide) rfl rfl (Nat.le_of_ble_eq_true rfl) ?_
  intro pP eE sS mM args bB meth cC ls AA F hr hlocks hin hK hsz0 hP hD hS hA hl
  obtain ⟨hn, hn12, hk, hk6, hsg, haw, hch, hch1, hch0, htn, hto, htz, hpr, hN, hpz, hle, hlz⟩ := id hI
  have hl : lv_has ls 5 [(0, .ref (A 0)), (1, .int (iI x)), (2, .int (iI d))] := hl
  refine lv_aload_n F.1 F.2.1 dX3_shift_0 rfl (lv_at hl 0 rfl) ?_
  refine lv_iload_n F.1 F.2.1 dX3_shift_1 rfl (lv_at hl 1 rfl) ?_
  refine rd_V F (n := 1) (w0 := []) (mX3_isPiece l G A r0 σ x (by omega) hI) gX3_shift_X3_isPiece rfl rfl rfl (by decide +kernel) ⟨Nat.le_of_ble_eq_true rfl, Nat.le_of_ble_eq_true rfl⟩ hK hP (ci := 3) (q0 := 0) rfl rfl rfl rfl hl.1 (Nat.le_of_ble_eq_true rfl) dX3_shift_2 ⟨Nat.zero_le _, Nat.zero_le _⟩ ?_
  refine k_ifb_eq F (tgt := 19) dX3_shift_5 (by decide) (fun c_1 => ?_) (fun c_1 => ?_)
  · skip
    refine k_iconst F dX3_shift_19 ?_
    refine lv_istore_n (lv' := [(3, .int (iI 0)), (0, .ref (A 0)), (1, .int (iI x)), (2, .int (iI d))]) F.1 F.2.1 dX3_shift_20 rfl hl (by decide) rfl (fun ls hl => ?_)
    refine lv_iload_n F.1 F.2.1 dX3_shift_21 rfl (lv_at hl 0 rfl) ?_
    refine k_if_eq F (tgt := 34) dX3_shift_22 (by decide) (by decide) (fun c_2 => ?_) (fun c_2 => absurd c_2 (by omega))
    refine k_iconst F dX3_shift_34 ?_
    refine lv_istore (lv' := [(4, .int (iI 0)), (3, .int (iI 0)), (0, .ref (A 0)), (1, .int (iI x)), (2, .int (iI d))]) F.1 F.2.1 dX3_shift_35 hl (by decide) rfl (fun ls hl => ?_)
    refine lv_aload_n F.1 F.2.1 dX3_shift_37 rfl (lv_at hl 2 rfl) ?_
    refine lv_aload_n F.1 F.2.1 dX3_shift_38 rfl (lv_at hl 2 rfl) ?_
    refine lv_iload_n F.1 F.2.1 dX3_shift_39 rfl (lv_at hl 3 rfl) ?_
    refine rd_V F (n := 1) (w0 := []) (mX3_isPiece l G A r0 σ x (by omega) hI) gX3_shift_X3_isPiece rfl rfl rfl (by decide +kernel) ⟨Nat.le_of_ble_eq_true rfl, Nat.le_of_ble_eq_true rfl⟩ hK hP (ci := 3) (q0 := 0) rfl rfl rfl rfl hl.1 (Nat.le_of_ble_eq_true rfl) dX3_shift_40 ⟨Nat.zero_le _, Nat.zero_le _⟩ ?_
    refine k_ifb_ne F (tgt := 50) dX3_shift_43 (by decide) (fun c_3 => ?_) (fun c_3 => ?_)
    · skip
      refine lv_iload_n F.1 F.2.1 dX3_shift_50 rfl (lv_at hl 1 rfl) ?_
      refine k_if_ne F (tgt := 58) dX3_shift_51 (by decide) (by decide) (fun c_4 => absurd c_4 (by omega)) (fun c_4 => ?_)
      refine k_iconst F dX3_shift_54 ?_
      refine lv_goto (tgt := 70) F.1 F.2.1 dX3_shift_55 (by decide) ?_
      refine wr_V F (n := 1) (w := MW G A r0 σ) (w' := MW G A 2 σ) (wr := []) (ws2 := MW G A 2 σ) (mX3_refused l G sS.heap.size A r0 σ 2 1 (by decide) (by decide +kernel)) gX3_shift_X3_refused rfl rfl rfl (by decide +kernel) ⟨Nat.le_of_ble_eq_true rfl, Nat.le_of_ble_eq_true rfl⟩ hK hP hD hS hA (pm_nil _) (pm_nil' _) rfl (ci := 3) (q0 := 0) rfl rfl rfl rfl hl.1 (Nat.le_of_ble_eq_true rfl) dX3_shift_70 ⟨Nat.zero_le _, Nat.zero_le _⟩ (fun H locs hP hD hS => ?_)
      refine k_if_eq F (tgt := 80) dX3_shift_73 (by decide) (by decide) (fun c_5 => absurd c_5 (by omega)) (fun c_5 => ?_)
      refine k_iconst F dX3_shift_76 ?_
      refine lv_goto (tgt := 82) F.1 F.2.1 dX3_shift_77 (by decide) ?_
      exact wr_ret F hr hlocks (by rw [show kShf σ n x d = 2 from (by unfold kShf; (repeat' split) <;> omega), if_neg (by decide)]) (by rw [show kShf σ n x d = 2 from (by unfold kShf; (repeat' split) <;> omega)]; exact hP) hS dX3_shift_82
    · skip
      refine k_iconst F dX3_shift_46 ?_
      refine lv_goto (tgt := 70) F.1 F.2.1 dX3_shift_47 (by decide) ?_
      refine wr_V F (n := 1) (w := MW G A r0 σ) (w' := MW G A 1 σ) (wr := []) (ws2 := MW G A 1 σ) (mX3_refused l G sS.heap.size A r0 σ 1 1 (by decide) (by decide +kernel)) gX3_shift_X3_refused rfl rfl rfl (by decide +kernel) ⟨Nat.le_of_ble_eq_true rfl, Nat.le_of_ble_eq_true rfl⟩ hK hP hD hS hA (pm_nil _) (pm_nil' _) rfl (ci := 3) (q0 := 0) rfl rfl rfl rfl hl.1 (Nat.le_of_ble_eq_true rfl) dX3_shift_70 ⟨Nat.zero_le _, Nat.zero_le _⟩ (fun H locs hP hD hS => ?_)
      refine k_if_eq F (tgt := 80) dX3_shift_73 (by decide) (by decide) (fun c_6 => absurd c_6 (by omega)) (fun c_6 => ?_)
      refine k_iconst F dX3_shift_76 ?_
      refine lv_goto (tgt := 82) F.1 F.2.1 dX3_shift_77 (by decide) ?_
      exact wr_ret F hr hlocks (by rw [show kShf σ n x d = 1 from (by unfold kShf; (repeat' split) <;> omega), if_neg (by decide)]) (by rw [show kShf σ n x d = 1 from (by unfold kShf; (repeat' split) <;> omega)]; exact hP) hS dX3_shift_82
  · skip
    refine lv_iload_n F.1 F.2.1 dX3_shift_8 rfl (lv_at hl 2 rfl) ?_
    refine rd_S F (n := 1) (w0 := []) (mX3_isDate l G (MW G A r0 σ) d (by omega)) gX3_shift_X3_isDate rfl rfl rfl (by decide +kernel) ⟨Nat.le_of_ble_eq_true rfl, Nat.le_of_ble_eq_true rfl⟩ hK hP rfl rfl hl.1 (Nat.le_of_ble_eq_true rfl) dX3_shift_9 ⟨Nat.zero_le _, Nat.zero_le _⟩ ?_
    refine k_ifb_eq F (tgt := 19) dX3_shift_12 (by decide) (fun c_7 => ?_) (fun c_7 => ?_)
    · skip
      refine k_iconst F dX3_shift_19 ?_
      refine lv_istore_n (lv' := [(3, .int (iI 0)), (0, .ref (A 0)), (1, .int (iI x)), (2, .int (iI d))]) F.1 F.2.1 dX3_shift_20 rfl hl (by decide) rfl (fun ls hl => ?_)
      refine lv_iload_n F.1 F.2.1 dX3_shift_21 rfl (lv_at hl 0 rfl) ?_
      refine k_if_eq F (tgt := 34) dX3_shift_22 (by decide) (by decide) (fun c_8 => ?_) (fun c_8 => absurd c_8 (by omega))
      refine k_iconst F dX3_shift_34 ?_
      refine lv_istore (lv' := [(4, .int (iI 0)), (3, .int (iI 0)), (0, .ref (A 0)), (1, .int (iI x)), (2, .int (iI d))]) F.1 F.2.1 dX3_shift_35 hl (by decide) rfl (fun ls hl => ?_)
      refine lv_aload_n F.1 F.2.1 dX3_shift_37 rfl (lv_at hl 2 rfl) ?_
      refine lv_aload_n F.1 F.2.1 dX3_shift_38 rfl (lv_at hl 2 rfl) ?_
      refine lv_iload_n F.1 F.2.1 dX3_shift_39 rfl (lv_at hl 3 rfl) ?_
      refine rd_V F (n := 1) (w0 := []) (mX3_isPiece l G A r0 σ x (by omega) hI) gX3_shift_X3_isPiece rfl rfl rfl (by decide +kernel) ⟨Nat.le_of_ble_eq_true rfl, Nat.le_of_ble_eq_true rfl⟩ hK hP (ci := 3) (q0 := 0) rfl rfl rfl rfl hl.1 (Nat.le_of_ble_eq_true rfl) dX3_shift_40 ⟨Nat.zero_le _, Nat.zero_le _⟩ ?_
      refine k_ifb_ne F (tgt := 50) dX3_shift_43 (by decide) (fun c_9 => ?_) (fun c_9 => ?_)
      · skip
        refine lv_iload_n F.1 F.2.1 dX3_shift_50 rfl (lv_at hl 1 rfl) ?_
        refine k_if_ne F (tgt := 58) dX3_shift_51 (by decide) (by decide) (fun c_10 => absurd c_10 (by omega)) (fun c_10 => ?_)
        refine k_iconst F dX3_shift_54 ?_
        refine lv_goto (tgt := 70) F.1 F.2.1 dX3_shift_55 (by decide) ?_
        refine wr_V F (n := 1) (w := MW G A r0 σ) (w' := MW G A 2 σ) (wr := []) (ws2 := MW G A 2 σ) (mX3_refused l G sS.heap.size A r0 σ 2 1 (by decide) (by decide +kernel)) gX3_shift_X3_refused rfl rfl rfl (by decide +kernel) ⟨Nat.le_of_ble_eq_true rfl, Nat.le_of_ble_eq_true rfl⟩ hK hP hD hS hA (pm_nil _) (pm_nil' _) rfl (ci := 3) (q0 := 0) rfl rfl rfl rfl hl.1 (Nat.le_of_ble_eq_true rfl) dX3_shift_70 ⟨Nat.zero_le _, Nat.zero_le _⟩ (fun H locs hP hD hS => ?_)
        refine k_if_eq F (tgt := 80) dX3_shift_73 (by decide) (by decide) (fun c_11 => absurd c_11 (by omega)) (fun c_11 => ?_)
        refine k_iconst F dX3_shift_76 ?_
        refine lv_goto (tgt := 82) F.1 F.2.1 dX3_shift_77 (by decide) ?_
        exact wr_ret F hr hlocks (by rw [show kShf σ n x d = 2 from (by unfold kShf; (repeat' split) <;> omega), if_neg (by decide)]) (by rw [show kShf σ n x d = 2 from (by unfold kShf; (repeat' split) <;> omega)]; exact hP) hS dX3_shift_82
      · skip
        refine k_iconst F dX3_shift_46 ?_
        refine lv_goto (tgt := 70) F.1 F.2.1 dX3_shift_47 (by decide) ?_
        refine wr_V F (n := 1) (w := MW G A r0 σ) (w' := MW G A 1 σ) (wr := []) (ws2 := MW G A 1 σ) (mX3_refused l G sS.heap.size A r0 σ 1 1 (by decide) (by decide +kernel)) gX3_shift_X3_refused rfl rfl rfl (by decide +kernel) ⟨Nat.le_of_ble_eq_true rfl, Nat.le_of_ble_eq_true rfl⟩ hK hP hD hS hA (pm_nil _) (pm_nil' _) rfl (ci := 3) (q0 := 0) rfl rfl rfl rfl hl.1 (Nat.le_of_ble_eq_true rfl) dX3_shift_70 ⟨Nat.zero_le _, Nat.zero_le _⟩ (fun H locs hP hD hS => ?_)
        refine k_if_eq F (tgt := 80) dX3_shift_73 (by decide) (by decide) (fun c_12 => absurd c_12 (by omega)) (fun c_12 => ?_)
        refine k_iconst F dX3_shift_76 ?_
        refine lv_goto (tgt := 82) F.1 F.2.1 dX3_shift_77 (by decide) ?_
        exact wr_ret F hr hlocks (by rw [show kShf σ n x d = 1 from (by unfold kShf; (repeat' split) <;> omega), if_neg (by decide)]) (by rw [show kShf σ n x d = 1 from (by unfold kShf; (repeat' split) <;> omega)]; exact hP) hS dX3_shift_82
    · skip
      refine k_iconst F dX3_shift_15 ?_
      refine lv_goto (tgt := 20) F.1 F.2.1 dX3_shift_16 (by decide) ?_
      refine lv_istore_n (lv' := [(3, .int (iI 1)), (0, .ref (A 0)), (1, .int (iI x)), (2, .int (iI d))]) F.1 F.2.1 dX3_shift_20 rfl hl (by decide) rfl (fun ls hl => ?_)
      refine lv_iload_n F.1 F.2.1 dX3_shift_21 rfl (lv_at hl 0 rfl) ?_
      refine k_if_eq F (tgt := 34) dX3_shift_22 (by decide) (by decide) (fun c_13 => absurd c_13 (by omega)) (fun c_13 => ?_)
      obtain ⟨i, rfl⟩ : ∃ i : Nat, x = (i : Int) := ⟨x.toNat, by omega⟩
      have b1 := shS_rg σ i n d 13 (Nat.le_refl 13)
      refine lv_aload_n F.1 F.2.1 dX3_shift_25 rfl (lv_at hl 1 rfl) ?_
      refine lv_iload_n F.1 F.2.1 dX3_shift_26 rfl (lv_at hl 2 rfl) ?_
      refine lv_iload_n F.1 F.2.1 dX3_shift_27 rfl (lv_at hl 3 rfl) ?_
      refine rd_V F (n := 2) (w0 := []) (mX3_shiftOf l G A r0 σ i d (by omega) hI) gX3_shift_X3_shiftOf rfl rfl rfl (by decide +kernel) ⟨Nat.le_of_ble_eq_true rfl, Nat.le_of_ble_eq_true rfl⟩ hK hP (ci := 3) (q0 := 0) rfl rfl rfl rfl hl.1 (Nat.le_of_ble_eq_true rfl) dX3_shift_28 ⟨Nat.zero_le _, Nat.zero_le _⟩ ?_
      refine lv_goto (tgt := 35) F.1 F.2.1 dX3_shift_31 (by decide) ?_
      refine lv_istore (lv' := [(4, .int (iI (shS σ i n d 13))), (3, .int (iI 1)), (0, .ref (A 0)), (1, .int (iI (i : Int))), (2, .int (iI d))]) F.1 F.2.1 dX3_shift_35 hl (by decide) rfl (fun ls hl => ?_)
      refine lv_aload_n F.1 F.2.1 dX3_shift_37 rfl (lv_at hl 2 rfl) ?_
      refine lv_aload_n F.1 F.2.1 dX3_shift_38 rfl (lv_at hl 2 rfl) ?_
      refine lv_iload_n F.1 F.2.1 dX3_shift_39 rfl (lv_at hl 3 rfl) ?_
      refine rd_V F (n := 1) (w0 := []) (mX3_isPiece l G A r0 σ (i : Int) (by omega) hI) gX3_shift_X3_isPiece rfl rfl rfl (by decide +kernel) ⟨Nat.le_of_ble_eq_true rfl, Nat.le_of_ble_eq_true rfl⟩ hK hP (ci := 3) (q0 := 0) rfl rfl rfl rfl hl.1 (Nat.le_of_ble_eq_true rfl) dX3_shift_40 ⟨Nat.zero_le _, Nat.zero_le _⟩ ?_
      refine k_ifb_ne F (tgt := 50) dX3_shift_43 (by decide) (fun c_14 => ?_) (fun c_14 => ?_)
      · skip
        refine lv_iload_n F.1 F.2.1 dX3_shift_50 rfl (lv_at hl 1 rfl) ?_
        refine k_if_ne F (tgt := 58) dX3_shift_51 (by decide) (by decide) (fun c_15 => ?_) (fun c_15 => absurd c_15 (by omega))
        refine lv_iload F.1 F.2.1 dX3_shift_58 (lv_at hl 0 rfl) ?_
        refine k_bipush F dX3_shift_60 (by decide +kernel) ?_
        refine k_icmp_ne F (tgt := 69) dX3_shift_62 (by decide) (by omega) (by decide) (fun c_16 => ?_) (fun c_16 => ?_)
        · skip
          refine k_iconst F dX3_shift_69 ?_
          refine wr_V F (n := 1) (w := MW G A r0 σ) (w' := MW G A 0 σ) (wr := []) (ws2 := MW G A 0 σ) (mX3_refused l G sS.heap.size A r0 σ 0 0 (by decide) (by decide +kernel)) gX3_shift_X3_refused rfl rfl rfl (by decide +kernel) ⟨Nat.le_of_ble_eq_true rfl, Nat.le_of_ble_eq_true rfl⟩ hK hP hD hS hA (pm_nil _) (pm_nil' _) rfl (ci := 3) (q0 := 0) rfl rfl rfl rfl hl.1 (Nat.le_of_ble_eq_true rfl) dX3_shift_70 ⟨Nat.zero_le _, Nat.zero_le _⟩ (fun H locs hP hD hS => ?_)
          refine k_if_eq F (tgt := 80) dX3_shift_73 (by decide) (by decide) (fun c_17 => ?_) (fun c_17 => absurd c_17 (by omega))
          refine lv_iload F.1 F.2.1 dX3_shift_80 (lv_at hl 0 rfl) ?_
          exact wr_ret F hr hlocks (by rw [show kShf σ n (i : Int) d = 0 from (by unfold kShf; simp only [isC, Int.toNat_natCast]; (repeat' split) <;> omega), if_pos rfl] <;> rfl) (by rw [show kShf σ n (i : Int) d = 0 from (by unfold kShf; simp only [isC, Int.toNat_natCast]; (repeat' split) <;> omega)]; exact hP) hS dX3_shift_82
        · skip
          refine k_iconst F dX3_shift_65 ?_
          refine lv_goto (tgt := 70) F.1 F.2.1 dX3_shift_66 (by decide) ?_
          refine wr_V F (n := 1) (w := MW G A r0 σ) (w' := MW G A 3 σ) (wr := []) (ws2 := MW G A 3 σ) (mX3_refused l G sS.heap.size A r0 σ 3 1 (by decide) (by decide +kernel)) gX3_shift_X3_refused rfl rfl rfl (by decide +kernel) ⟨Nat.le_of_ble_eq_true rfl, Nat.le_of_ble_eq_true rfl⟩ hK hP hD hS hA (pm_nil _) (pm_nil' _) rfl (ci := 3) (q0 := 0) rfl rfl rfl rfl hl.1 (Nat.le_of_ble_eq_true rfl) dX3_shift_70 ⟨Nat.zero_le _, Nat.zero_le _⟩ (fun H locs hP hD hS => ?_)
          refine k_if_eq F (tgt := 80) dX3_shift_73 (by decide) (by decide) (fun c_18 => absurd c_18 (by omega)) (fun c_18 => ?_)
          refine k_iconst F dX3_shift_76 ?_
          refine lv_goto (tgt := 82) F.1 F.2.1 dX3_shift_77 (by decide) ?_
          exact wr_ret F hr hlocks (by rw [show kShf σ n (i : Int) d = 3 from (by unfold kShf; simp only [isC, Int.toNat_natCast]; (repeat' split) <;> omega), if_neg (by decide)]) (by rw [show kShf σ n (i : Int) d = 3 from (by unfold kShf; simp only [isC, Int.toNat_natCast]; (repeat' split) <;> omega)]; exact hP) hS dX3_shift_82
      · skip
        refine k_iconst F dX3_shift_46 ?_
        refine lv_goto (tgt := 70) F.1 F.2.1 dX3_shift_47 (by decide) ?_
        refine wr_V F (n := 1) (w := MW G A r0 σ) (w' := MW G A 1 σ) (wr := []) (ws2 := MW G A 1 σ) (mX3_refused l G sS.heap.size A r0 σ 1 1 (by decide) (by decide +kernel)) gX3_shift_X3_refused rfl rfl rfl (by decide +kernel) ⟨Nat.le_of_ble_eq_true rfl, Nat.le_of_ble_eq_true rfl⟩ hK hP hD hS hA (pm_nil _) (pm_nil' _) rfl (ci := 3) (q0 := 0) rfl rfl rfl rfl hl.1 (Nat.le_of_ble_eq_true rfl) dX3_shift_70 ⟨Nat.zero_le _, Nat.zero_le _⟩ (fun H locs hP hD hS => ?_)
        refine k_if_eq F (tgt := 80) dX3_shift_73 (by decide) (by decide) (fun c_19 => absurd c_19 (by omega)) (fun c_19 => ?_)
        refine k_iconst F dX3_shift_76 ?_
        refine lv_goto (tgt := 82) F.1 F.2.1 dX3_shift_77 (by decide) ?_
        exact wr_ret F hr hlocks (by rw [show kShf σ n (i : Int) d = 1 from (by unfold kShf; simp only [isC, Int.toNat_natCast]; (repeat' split) <;> omega), if_neg (by decide)]) (by rw [show kShf σ n (i : Int) d = 1 from (by unfold kShf; simp only [isC, Int.toNat_natCast]; (repeat' split) <;> omega)]; exact hP) hS dX3_shift_82

set_option maxHeartbeats 4000000 in
set_option maxRecDepth 100000 in
theorem mX3_dates (l : Launch) (G : gT) (sz0 : Nat) (A : Nat → Nat) (r0 : Int) (σ : Sg) (x : Int) (hx : -2147483648 ≤ x ∧ x < 2147483648) {n k N : Nat} (hI : Iv σ n k N) : Met l yX3_dates wsX3_dates { frames := 4, cells := 0, slots := 0, locals := 98 } (va_Pc [.ref (A 0), .int (iI x)] (wB G (MW G A r0 σ) sz0)) (wI (if kPic σ x = 0 then dtS σ x.toNat n 31 else 0) G (MW G A (kPic σ x) σ) (va_A (MW G A r0 σ) sz0)) 0 0 (va_A (MW G A r0 σ) sz0) := by
  refine wr_start (own := RX3) (cc := cX3_dates) (mL := 4) (ret := (some .int)) (Qc := fun AA => wI (if kPic σ x = 0 then dtS σ x.toNat n 31 else 0) G (MW G A (kPic σ x) σ) AA) (by decide) rfl rfl (Nat.le_of_ble_eq_true rfl) ?_
  intro pP eE sS mM args bB meth cC ls AA F hr hlocks hin hK hsz0 hP hD hS hA hl
  obtain ⟨hn, hn12, hk, hk6, hsg, haw, hch, hch1, hch0, htn, hto, htz, hpr, hN, hpz, hle, hlz⟩ := id hI
  have hl : lv_has ls 4 [(0, .ref (A 0)), (1, .int (iI x))] := hl
  refine lv_aload_n F.1 F.2.1 dX3_dates_0 rfl (lv_at hl 0 rfl) ?_
  refine lv_aload_n F.1 F.2.1 dX3_dates_1 rfl (lv_at hl 0 rfl) ?_
  refine lv_iload_n F.1 F.2.1 dX3_dates_2 rfl (lv_at hl 1 rfl) ?_
  refine rd_V F (n := 1) (w0 := []) (mX3_isPiece l G A r0 σ x (by omega) hI) gX3_dates_X3_isPiece rfl rfl rfl (by decide +kernel) ⟨Nat.le_of_ble_eq_true rfl, Nat.le_of_ble_eq_true rfl⟩ hK hP (ci := 3) (q0 := 0) rfl rfl rfl rfl hl.1 (Nat.le_of_ble_eq_true rfl) dX3_dates_3 ⟨Nat.zero_le _, Nat.zero_le _⟩ ?_
  refine k_ifb_eq F (tgt := 13) dX3_dates_6 (by decide) (fun c_1 => ?_) (fun c_1 => ?_)
  · skip
    refine k_iconst F dX3_dates_13 ?_
    refine wr_V F (n := 1) (w := MW G A r0 σ) (w' := MW G A 1 σ) (wr := []) (ws2 := MW G A 1 σ) (mX3_refused l G sS.heap.size A r0 σ 1 1 (by decide) (by decide +kernel)) gX3_dates_X3_refused rfl rfl rfl (by decide +kernel) ⟨Nat.le_of_ble_eq_true rfl, Nat.le_of_ble_eq_true rfl⟩ hK hP hD hS hA (pm_nil _) (pm_nil' _) rfl (ci := 3) (q0 := 0) rfl rfl rfl rfl hl.1 (Nat.le_of_ble_eq_true rfl) dX3_dates_14 ⟨Nat.zero_le _, Nat.zero_le _⟩ (fun H locs hP hD hS => ?_)
    refine k_if_eq F (tgt := 22) dX3_dates_17 (by decide) (by decide) (fun c_2 => absurd c_2 (by omega)) (fun c_2 => ?_)
    refine k_iconst F dX3_dates_20 ?_
    exact wr_ret F hr hlocks (by rw [show kPic σ x = 1 from (by unfold kPic; (repeat' split) <;> omega), if_neg (by decide)]) (by rw [show kPic σ x = 1 from (by unfold kPic; (repeat' split) <;> omega)]; exact hP) hS dX3_dates_21
  · skip
    refine k_iconst F dX3_dates_9 ?_
    refine lv_goto (tgt := 14) F.1 F.2.1 dX3_dates_10 (by decide) ?_
    refine wr_V F (n := 1) (w := MW G A r0 σ) (w' := MW G A 0 σ) (wr := []) (ws2 := MW G A 0 σ) (mX3_refused l G sS.heap.size A r0 σ 0 0 (by decide) (by decide +kernel)) gX3_dates_X3_refused rfl rfl rfl (by decide +kernel) ⟨Nat.le_of_ble_eq_true rfl, Nat.le_of_ble_eq_true rfl⟩ hK hP hD hS hA (pm_nil _) (pm_nil' _) rfl (ci := 3) (q0 := 0) rfl rfl rfl rfl hl.1 (Nat.le_of_ble_eq_true rfl) dX3_dates_14 ⟨Nat.zero_le _, Nat.zero_le _⟩ (fun H locs hP hD hS => ?_)
    refine k_if_eq F (tgt := 22) dX3_dates_17 (by decide) (by decide) (fun c_3 => ?_) (fun c_3 => absurd c_3 (by omega))
    have hK0 : kPic σ x = 0 := (by unfold kPic; (repeat' split) <;> omega)
    obtain ⟨i, rfl⟩ : ∃ i : Nat, x = (i : Int) := ⟨x.toNat, by omega⟩
    refine k_iconst F dX3_dates_22 ?_
    refine lv_istore_n (lv' := [(2, .int (iI 0)), (0, .ref (A 0)), (1, .int (iI (i : Int)))]) F.1 F.2.1 dX3_dates_23 rfl hl (by decide) rfl (fun ls hl => ?_)
    refine k_iconst F dX3_dates_24 ?_
    refine lv_istore_n (lv' := [(3, .int (iI 0)), (2, .int (iI 0)), (0, .ref (A 0)), (1, .int (iI (i : Int)))]) F.1 F.2.1 dX3_dates_25 rfl hl (by decide) rfl (fun ls hl => ?_)
    have J_4 : ∀ d : Nat, d ≤ 31 → ∀ (H : Heap) (locs : List Loc), gP G (MW G A 0 σ) H → va_D AA (MW G A 0 σ) → va_S AA sS.heap H locs → ∀ ls : Array Slot, lv_has ls 4 [(2, .int (iI (dtS σ i n d))), (3, .int (iI (d : Int))), (0, .ref (A 0)), (1, .int (iI (i : Int)))] → W pP l eE ({ frames := 4, cells := 0, slots := 0, locals := 98 }) sS mM args bB meth cC H locs 0 0 (MQ bB (wI (if kPic σ (i : Int) = 0 then dtS σ (i : Int).toNat n 31 else 0) G (MW G A (kPic σ (i : Int)) σ) AA) args sS 0 0 AA) (F0 mM 26 ls []) := by
      refine lp_up (31) ?_ ?_
      · intro H locs hP hD hS ls hl
        refine lv_iload_n F.1 F.2.1 dX3_dates_26 rfl (lv_at hl 1 rfl) ?_
        refine k_bipush F dX3_dates_27 (by decide +kernel) ?_
        refine k_icmp_ge F (tgt := 57) dX3_dates_29 (by decide) (by omega) (by decide) (fun c_6 => ?_) (fun c_6 => absurd c_6 (by omega))
        refine lv_iload_n F.1 F.2.1 dX3_dates_57 rfl (lv_at hl 0 rfl) ?_
        exact wr_ret F hr hlocks (by rw [hK0, if_pos rfl] <;> rfl) (by rw [hK0]; exact hP) hS dX3_dates_58
      · intro d hk9 ih H locs hP hD hS ls hl
        have b1 := shS_rg σ i n d 13 (Nat.le_refl 13)
        refine lv_iload_n F.1 F.2.1 dX3_dates_26 rfl (lv_at hl 1 rfl) ?_
        refine k_bipush F dX3_dates_27 (by decide +kernel) ?_
        refine k_icmp_ge F (tgt := 57) dX3_dates_29 (by decide) (by omega) (by decide) (fun c_7 => absurd c_7 (by omega)) (fun c_7 => ?_)
        refine lv_iload_n F.1 F.2.1 dX3_dates_32 rfl (lv_at hl 0 rfl) ?_
        refine lv_aload_n F.1 F.2.1 dX3_dates_33 rfl (lv_at hl 2 rfl) ?_
        refine lv_iload_n F.1 F.2.1 dX3_dates_34 rfl (lv_at hl 3 rfl) ?_
        refine lv_iload_n F.1 F.2.1 dX3_dates_35 rfl (lv_at hl 1 rfl) ?_
        refine rd_V F (n := 2) (w0 := []) (mX3_shiftOf l G A 0 σ i (d : Int) (by omega) hI) gX3_dates_X3_shiftOf rfl rfl rfl (by decide +kernel) ⟨Nat.le_of_ble_eq_true rfl, Nat.le_of_ble_eq_true rfl⟩ hK hP (ci := 3) (q0 := 0) rfl rfl rfl rfl hl.1 (Nat.le_of_ble_eq_true rfl) dX3_dates_36 ⟨Nat.zero_le _, Nat.zero_le _⟩ ?_
        refine k_bipush F dX3_dates_39 (by decide +kernel) ?_
        refine k_icmp_ne F (tgt := 48) dX3_dates_41 (by decide) (by omega) (by decide) (fun c_8 => ?_) (fun c_8 => ?_)
        · skip
          refine k_iconst F dX3_dates_48 ?_
          refine k_iadd F rfl dX3_dates_49 ?_
          refine lv_istore_n (lv' := [(2, .int (iI (dtS σ i n d + 1))), (3, .int (iI (d : Int))), (0, .ref (A 0)), (1, .int (iI (i : Int)))]) F.1 F.2.1 dX3_dates_50 rfl hl (by decide) rfl (fun ls hl => ?_)
          refine lv_iinc (v := iI ((d : Int) + 1)) (lv' := [(3, .int (iI ((d : Int) + 1))), (2, .int (iI (dtS σ i n d + 1))), (0, .ref (A 0)), (1, .int (iI (i : Int)))]) F.1 F.2.1 dX3_dates_51 hl (k := 1) rfl (iI_add _ _) (by decide) rfl (fun ls hl => ?_)
          refine lv_goto (tgt := 26) F.1 F.2.1 dX3_dates_54 (by decide) ?_
          have e_9 : ((dtS σ i n d + 1) : Int) = dtS σ i n (d + 1) := by rw [dtS_s]; first | rw [if_pos (by assumption)] | rw [if_neg (by assumption)]
          have e_10 : (((d : Int) + 1) : Int) = ((d + 1 : Nat) : Int) := rfl
          exact ih _ _ hP (D_too (w' := MW G A 0 σ) hD rfl) hS _ (lv_to (lv_to (lv_sub hl [1, 0, 2, 3] rfl) (congrArg (fun x9 : Int => ([(2, .int (iI x9)), (3, .int (iI ((d : Int) + 1))), (0, .ref (A 0)), (1, .int (iI (i : Int)))] : List (Nat × Value))) e_9)) (congrArg (fun x9 : Int => ([(2, .int (iI (dtS σ i n (d + 1)))), (3, .int (iI x9)), (0, .ref (A 0)), (1, .int (iI (i : Int)))] : List (Nat × Value))) e_10))
        · skip
          refine k_iconst F dX3_dates_44 ?_
          refine lv_goto (tgt := 49) F.1 F.2.1 dX3_dates_45 (by decide) ?_
          refine k_iadd F rfl dX3_dates_49 ?_
          refine lv_istore_n (lv' := [(2, .int (iI (dtS σ i n d + 0))), (3, .int (iI (d : Int))), (0, .ref (A 0)), (1, .int (iI (i : Int)))]) F.1 F.2.1 dX3_dates_50 rfl hl (by decide) rfl (fun ls hl => ?_)
          refine lv_iinc (v := iI ((d : Int) + 1)) (lv' := [(3, .int (iI ((d : Int) + 1))), (2, .int (iI (dtS σ i n d + 0))), (0, .ref (A 0)), (1, .int (iI (i : Int)))]) F.1 F.2.1 dX3_dates_51 hl (k := 1) rfl (iI_add _ _) (by decide) rfl (fun ls hl => ?_)
          refine lv_goto (tgt := 26) F.1 F.2.1 dX3_dates_54 (by decide) ?_
          have e_11 : ((dtS σ i n d + 0) : Int) = dtS σ i n (d + 1) := by rw [dtS_s]; first | rw [if_pos (by assumption)] | rw [if_neg (by assumption)]
          have e_12 : (((d : Int) + 1) : Int) = ((d + 1 : Nat) : Int) := rfl
          exact ih _ _ hP (D_too (w' := MW G A 0 σ) hD rfl) hS _ (lv_to (lv_to (lv_sub hl [1, 0, 2, 3] rfl) (congrArg (fun x9 : Int => ([(2, .int (iI x9)), (3, .int (iI ((d : Int) + 1))), (0, .ref (A 0)), (1, .int (iI (i : Int)))] : List (Nat × Value))) e_11)) (congrArg (fun x9 : Int => ([(2, .int (iI (dtS σ i n (d + 1)))), (3, .int (iI x9)), (0, .ref (A 0)), (1, .int (iI (i : Int)))] : List (Nat × Value))) e_12))
    have e_13 : (0 : Int) = dtS σ i n 0 := rfl
    have e_14 : (0 : Int) = ((0 : Nat) : Int) := rfl
    exact J_4 0 (by omega) _ _ hP (D_too (w' := MW G A 0 σ) hD rfl) hS _ (lv_to (lv_to (lv_sub hl [1, 0, 2, 3] rfl) (congrArg (fun x9 : Int => ([(2, .int (iI x9)), (3, .int (iI 0)), (0, .ref (A 0)), (1, .int (iI (i : Int)))] : List (Nat × Value))) e_13)) (congrArg (fun x9 : Int => ([(2, .int (iI (dtS σ i n 0))), (3, .int (iI x9)), (0, .ref (A 0)), (1, .int (iI (i : Int)))] : List (Nat × Value))) e_14))

set_option maxHeartbeats 4000000 in
set_option maxRecDepth 100000 in
theorem mX3_missed (l : Launch) (G : gT) (sz0 : Nat) (A : Nat → Nat) (r0 : Int) (σ : Sg) (d : Int) (hd : -2147483648 ≤ d ∧ d < 2147483648) {n k N : Nat} (hI : Iv σ n k N) : Met l yX3_missed wsX3_missed { frames := 2, cells := 0, slots := 0, locals := 47 } (va_Pc [.ref (A 0), .int (iI d)] (wB G (MW G A r0 σ) sz0)) (wI (if kDat d = 0 then msM σ d n n else 0) G (MW G A (kDat d) σ) (va_A (MW G A r0 σ) sz0)) 0 0 (va_A (MW G A r0 σ) sz0) := by
  refine wr_start (own := RX3) (cc := cX3_missed) (mL := 4) (ret := (some .int)) (Qc := fun AA => wI (if kDat d = 0 then msM σ d n n else 0) G (MW G A (kDat d) σ) AA) (by decide) rfl rfl (Nat.le_of_ble_eq_true rfl) ?_
  intro pP eE sS mM args bB meth cC ls AA F hr hlocks hin hK hsz0 hP hD hS hA hl
  obtain ⟨hn, hn12, hk, hk6, hsg, haw, hch, hch1, hch0, htn, hto, htz, hpr, hN, hpz, hle, hlz⟩ := id hI
  have iX3 : ∀ x ∈ wsX30, x ∈ wsX3_missed := by decide +kernel
  have f7 := k_cond F (w := .fieldLink RX3 7 "ChoirPlannerModel" "voiceOf" "[I") (by decide +kernel)
  have f42 := k_cond F (w := .fieldLink RX3 42 "ChoirPlannerModel" "singers" "I") (by decide +kernel)
  have hl : lv_has ls 4 [(0, .ref (A 0)), (1, .int (iI d))] := hl
  refine lv_aload_n F.1 F.2.1 dX3_missed_0 rfl (lv_at hl 0 rfl) ?_
  refine lv_iload_n F.1 F.2.1 dX3_missed_1 rfl (lv_at hl 1 rfl) ?_
  refine rd_S F (n := 1) (w0 := []) (mX3_isDate l G (MW G A r0 σ) d (by omega)) gX3_missed_X3_isDate rfl rfl rfl (by decide +kernel) ⟨Nat.le_of_ble_eq_true rfl, Nat.le_of_ble_eq_true rfl⟩ hK hP rfl rfl hl.1 (Nat.le_of_ble_eq_true rfl) dX3_missed_2 ⟨Nat.zero_le _, Nat.zero_le _⟩ ?_
  refine k_ifb_eq F (tgt := 12) dX3_missed_5 (by decide) (fun c_1 => ?_) (fun c_1 => ?_)
  · skip
    refine k_iconst F dX3_missed_12 ?_
    refine wr_V F (n := 1) (w := MW G A r0 σ) (w' := MW G A 1 σ) (wr := []) (ws2 := MW G A 1 σ) (mX3_refused l G sS.heap.size A r0 σ 1 1 (by decide) (by decide +kernel)) gX3_missed_X3_refused rfl rfl rfl (by decide +kernel) ⟨Nat.le_of_ble_eq_true rfl, Nat.le_of_ble_eq_true rfl⟩ hK hP hD hS hA (pm_nil _) (pm_nil' _) rfl (ci := 3) (q0 := 0) rfl rfl rfl rfl hl.1 (Nat.le_of_ble_eq_true rfl) dX3_missed_13 ⟨Nat.zero_le _, Nat.zero_le _⟩ (fun H locs hP hD hS => ?_)
    refine k_if_eq F (tgt := 21) dX3_missed_16 (by decide) (by decide) (fun c_2 => absurd c_2 (by omega)) (fun c_2 => ?_)
    refine k_iconst F dX3_missed_19 ?_
    exact wr_ret F hr hlocks (by rw [show kDat d = 1 from (by unfold kDat; (repeat' split) <;> omega), if_neg (by decide)]) (by rw [show kDat d = 1 from (by unfold kDat; (repeat' split) <;> omega)]; exact hP) hS dX3_missed_20
  · skip
    refine k_iconst F dX3_missed_8 ?_
    refine lv_goto (tgt := 13) F.1 F.2.1 dX3_missed_9 (by decide) ?_
    refine wr_V F (n := 1) (w := MW G A r0 σ) (w' := MW G A 0 σ) (wr := []) (ws2 := MW G A 0 σ) (mX3_refused l G sS.heap.size A r0 σ 0 0 (by decide) (by decide +kernel)) gX3_missed_X3_refused rfl rfl rfl (by decide +kernel) ⟨Nat.le_of_ble_eq_true rfl, Nat.le_of_ble_eq_true rfl⟩ hK hP hD hS hA (pm_nil _) (pm_nil' _) rfl (ci := 3) (q0 := 0) rfl rfl rfl rfl hl.1 (Nat.le_of_ble_eq_true rfl) dX3_missed_13 ⟨Nat.zero_le _, Nat.zero_le _⟩ (fun H locs hP hD hS => ?_)
    refine k_if_eq F (tgt := 21) dX3_missed_16 (by decide) (by decide) (fun c_3 => ?_) (fun c_3 => absurd c_3 (by omega))
    refine k_iconst F dX3_missed_21 ?_
    refine lv_istore_n (lv' := [(2, .int (iI 0)), (0, .ref (A 0)), (1, .int (iI d))]) F.1 F.2.1 dX3_missed_22 rfl hl (by decide) rfl (fun ls hl => ?_)
    refine k_iconst F dX3_missed_23 ?_
    refine lv_istore_n (lv' := [(3, .int (iI 0)), (2, .int (iI 0)), (0, .ref (A 0)), (1, .int (iI d))]) F.1 F.2.1 dX3_missed_24 rfl hl (by decide) rfl (fun ls hl => ?_)
    have J_4 : ∀ q : Nat, q ≤ n → ∀ (H : Heap) (locs : List Loc), gP G (MW G A 0 σ) H → va_D AA (MW G A 0 σ) → va_S AA sS.heap H locs → ∀ ls : Array Slot, lv_has ls 4 [(2, .int (iI (msM σ d n q))), (3, .int (iI (q : Int))), (0, .ref (A 0)), (1, .int (iI d))] → W pP l eE ({ frames := 2, cells := 0, slots := 0, locals := 47 }) sS mM args bB meth cC H locs 0 0 (MQ bB (wI (if kDat d = 0 then msM σ d n n else 0) G (MW G A (kDat d) σ) AA) args sS 0 0 AA) (F0 mM 25 ls []) := by
      refine lp_up (n) ?_ ?_
      · intro H locs hP hD hS ls hl
        refine lv_iload_n F.1 F.2.1 dX3_missed_25 rfl (lv_at hl 1 rfl) ?_
        refine lv_aload_n F.1 F.2.1 dX3_missed_26 rfl (lv_at hl 2 rfl) ?_
        refine k_get F hK hP iX3 0 rfl rfl 1 (by decide) f42 rfl rfl dX3_missed_27 ?_
        refine k_icmp_ge F (tgt := 72) dX3_missed_30 (by decide) (by omega) (by omega) (fun c_6 => ?_) (fun c_6 => absurd c_6 (by omega))
        refine lv_iload_n F.1 F.2.1 dX3_missed_72 rfl (lv_at hl 0 rfl) ?_
        exact wr_ret F hr hlocks (by rw [show kDat d = 0 from (by unfold kDat; (repeat' split) <;> omega), if_pos rfl] <;> rfl) (by rw [show kDat d = 0 from (by unfold kDat; (repeat' split) <;> omega)]; exact hP) hS dX3_missed_73
      · intro q hk9 ih H locs hP hD hS ls hl
        have hb := hsg q hk9
        have bf := foM_rg (σ := σ) (v := σ 3 0 q) (d := d) (n := n) (fun j hj => by have := hsg j hj; omega)
        refine lv_iload_n F.1 F.2.1 dX3_missed_25 rfl (lv_at hl 1 rfl) ?_
        refine lv_aload_n F.1 F.2.1 dX3_missed_26 rfl (lv_at hl 2 rfl) ?_
        refine k_get F hK hP iX3 0 rfl rfl 1 (by decide) f42 rfl rfl dX3_missed_27 ?_
        refine k_icmp_ge F (tgt := 72) dX3_missed_30 (by decide) (by omega) (by omega) (fun c_7 => absurd c_7 (by omega)) (fun c_7 => ?_)
        refine lv_iload_n F.1 F.2.1 dX3_missed_33 rfl (lv_at hl 0 rfl) ?_
        refine lv_aload_n F.1 F.2.1 dX3_missed_34 rfl (lv_at hl 2 rfl) ?_
        refine lv_iload_n F.1 F.2.1 dX3_missed_35 rfl (lv_at hl 1 rfl) ?_
        refine lv_iload_n F.1 F.2.1 dX3_missed_36 rfl (lv_at hl 3 rfl) ?_
        refine rd_V F (n := 2) (w0 := []) (mX3_isThere l G A 0 σ q d (by omega)) gX3_missed_X3_isThere rfl rfl rfl (by decide +kernel) ⟨Nat.le_of_ble_eq_true rfl, Nat.le_of_ble_eq_true rfl⟩ hK hP (ci := 3) (q0 := 0) rfl rfl rfl rfl hl.1 (Nat.le_of_ble_eq_true rfl) dX3_missed_37 ⟨Nat.zero_le _, Nat.zero_le _⟩ ?_
        refine k_ifb_ne F (tgt := 63) dX3_missed_40 (by decide) (fun c_8 => ?_) (fun c_8 => ?_)
        · skip
          refine k_iconst F dX3_missed_63 ?_
          refine k_iadd F rfl dX3_missed_64 ?_
          refine lv_istore_n (lv' := [(2, .int (iI (msM σ d n q + 0))), (3, .int (iI (q : Int))), (0, .ref (A 0)), (1, .int (iI d))]) F.1 F.2.1 dX3_missed_65 rfl hl (by decide) rfl (fun ls hl => ?_)
          refine lv_iinc (v := iI ((q : Int) + 1)) (lv' := [(3, .int (iI ((q : Int) + 1))), (2, .int (iI (msM σ d n q + 0))), (0, .ref (A 0)), (1, .int (iI d))]) F.1 F.2.1 dX3_missed_66 hl (k := 1) rfl (iI_add _ _) (by decide) rfl (fun ls hl => ?_)
          refine lv_goto (tgt := 25) F.1 F.2.1 dX3_missed_69 (by decide) ?_
          have e_9 : ((msM σ d n q + 0) : Int) = msM σ d n (q + 1) := by rw [msM_s]; first | rw [if_pos ⟨by assumption, by assumption⟩] | rw [if_neg (fun z => absurd z.2 (by assumption))] | rw [if_neg (fun z => absurd (by assumption) z.1)]
          have e_10 : (((q : Int) + 1) : Int) = ((q + 1 : Nat) : Int) := rfl
          exact ih _ _ hP (D_too (w' := MW G A 0 σ) hD rfl) hS _ (lv_to (lv_to (lv_sub hl [1, 0, 2, 3] rfl) (congrArg (fun x9 : Int => ([(2, .int (iI x9)), (3, .int (iI ((q : Int) + 1))), (0, .ref (A 0)), (1, .int (iI d))] : List (Nat × Value))) e_9)) (congrArg (fun x9 : Int => ([(2, .int (iI (msM σ d n (q + 1)))), (3, .int (iI x9)), (0, .ref (A 0)), (1, .int (iI d))] : List (Nat × Value))) e_10))
        · skip
          refine lv_aload_n F.1 F.2.1 dX3_missed_43 rfl (lv_at hl 2 rfl) ?_
          refine lv_aload_n F.1 F.2.1 dX3_missed_44 rfl (lv_at hl 2 rfl) ?_
          refine k_get F hK hP iX3 0 rfl rfl 2 (by decide) f7 rfl rfl dX3_missed_45 ?_
          refine lv_iload_n F.1 F.2.1 dX3_missed_48 rfl (lv_at hl 1 rfl) ?_
          refine k_iald F hK hP 1 rfl q (by omega) (by omega) (by decide) rfl dX3_missed_49 ?_
          refine lv_iload_n F.1 F.2.1 dX3_missed_50 rfl (lv_at hl 3 rfl) ?_
          refine rd_V F (n := 2) (w0 := []) (mX3_firstOf l G A 0 σ ((σ 3 0) q) d (by omega) hI) gX3_missed_X3_firstOf rfl rfl rfl (by decide +kernel) ⟨Nat.le_of_ble_eq_true rfl, Nat.le_of_ble_eq_true rfl⟩ hK hP (ci := 3) (q0 := 0) rfl rfl rfl rfl hl.1 (Nat.le_of_ble_eq_true rfl) dX3_missed_51 ⟨Nat.zero_le _, Nat.zero_le _⟩ ?_
          refine k_bipush F dX3_missed_54 (by decide +kernel) ?_
          refine k_icmp_ne F (tgt := 63) dX3_missed_56 (by decide) (by omega) (by decide) (fun c_11 => ?_) (fun c_11 => ?_)
          · skip
            refine k_iconst F dX3_missed_63 ?_
            refine k_iadd F rfl dX3_missed_64 ?_
            refine lv_istore_n (lv' := [(2, .int (iI (msM σ d n q + 0))), (3, .int (iI (q : Int))), (0, .ref (A 0)), (1, .int (iI d))]) F.1 F.2.1 dX3_missed_65 rfl hl (by decide) rfl (fun ls hl => ?_)
            refine lv_iinc (v := iI ((q : Int) + 1)) (lv' := [(3, .int (iI ((q : Int) + 1))), (2, .int (iI (msM σ d n q + 0))), (0, .ref (A 0)), (1, .int (iI d))]) F.1 F.2.1 dX3_missed_66 hl (k := 1) rfl (iI_add _ _) (by decide) rfl (fun ls hl => ?_)
            refine lv_goto (tgt := 25) F.1 F.2.1 dX3_missed_69 (by decide) ?_
            have e_12 : ((msM σ d n q + 0) : Int) = msM σ d n (q + 1) := by rw [msM_s]; first | rw [if_pos ⟨by assumption, by assumption⟩] | rw [if_neg (fun z => absurd z.2 (by assumption))] | rw [if_neg (fun z => absurd (by assumption) z.1)]
            have e_13 : (((q : Int) + 1) : Int) = ((q + 1 : Nat) : Int) := rfl
            exact ih _ _ hP (D_too (w' := MW G A 0 σ) hD rfl) hS _ (lv_to (lv_to (lv_sub hl [1, 0, 2, 3] rfl) (congrArg (fun x9 : Int => ([(2, .int (iI x9)), (3, .int (iI ((q : Int) + 1))), (0, .ref (A 0)), (1, .int (iI d))] : List (Nat × Value))) e_12)) (congrArg (fun x9 : Int => ([(2, .int (iI (msM σ d n (q + 1)))), (3, .int (iI x9)), (0, .ref (A 0)), (1, .int (iI d))] : List (Nat × Value))) e_13))
          · skip
            refine k_iconst F dX3_missed_59 ?_
            refine lv_goto (tgt := 64) F.1 F.2.1 dX3_missed_60 (by decide) ?_
            refine k_iadd F rfl dX3_missed_64 ?_
            refine lv_istore_n (lv' := [(2, .int (iI (msM σ d n q + 1))), (3, .int (iI (q : Int))), (0, .ref (A 0)), (1, .int (iI d))]) F.1 F.2.1 dX3_missed_65 rfl hl (by decide) rfl (fun ls hl => ?_)
            refine lv_iinc (v := iI ((q : Int) + 1)) (lv' := [(3, .int (iI ((q : Int) + 1))), (2, .int (iI (msM σ d n q + 1))), (0, .ref (A 0)), (1, .int (iI d))]) F.1 F.2.1 dX3_missed_66 hl (k := 1) rfl (iI_add _ _) (by decide) rfl (fun ls hl => ?_)
            refine lv_goto (tgt := 25) F.1 F.2.1 dX3_missed_69 (by decide) ?_
            have e_14 : ((msM σ d n q + 1) : Int) = msM σ d n (q + 1) := by rw [msM_s]; first | rw [if_pos ⟨by assumption, by assumption⟩] | rw [if_neg (fun z => absurd z.2 (by assumption))] | rw [if_neg (fun z => absurd (by assumption) z.1)]
            have e_15 : (((q : Int) + 1) : Int) = ((q + 1 : Nat) : Int) := rfl
            exact ih _ _ hP (D_too (w' := MW G A 0 σ) hD rfl) hS _ (lv_to (lv_to (lv_sub hl [1, 0, 2, 3] rfl) (congrArg (fun x9 : Int => ([(2, .int (iI x9)), (3, .int (iI ((q : Int) + 1))), (0, .ref (A 0)), (1, .int (iI d))] : List (Nat × Value))) e_14)) (congrArg (fun x9 : Int => ([(2, .int (iI (msM σ d n (q + 1)))), (3, .int (iI x9)), (0, .ref (A 0)), (1, .int (iI d))] : List (Nat × Value))) e_15))
    have e_16 : (0 : Int) = msM σ d n 0 := rfl
    have e_17 : (0 : Int) = ((0 : Nat) : Int) := rfl
    exact J_4 0 (by omega) _ _ hP (D_too (w' := MW G A 0 σ) hD rfl) hS _ (lv_to (lv_to (lv_sub hl [1, 0, 2, 3] rfl) (congrArg (fun x9 : Int => ([(2, .int (iI x9)), (3, .int (iI 0)), (0, .ref (A 0)), (1, .int (iI d))] : List (Nat × Value))) e_16)) (congrArg (fun x9 : Int => ([(2, .int (iI (msM σ d n 0))), (3, .int (iI x9)), (0, .ref (A 0)), (1, .int (iI d))] : List (Nat × Value))) e_17))

set_option maxHeartbeats 4000000 in
set_option maxRecDepth 100000 in
theorem mX3_weakness (l : Launch) (G : gT) (sz0 : Nat) (A : Nat → Nat) (r0 : Int) (σ : Sg) (x y : Int) (hx : -2147483648 ≤ x ∧ x < 2147483648) (hy : -2147483648 ≤ y ∧ y < 2147483648) {n k N : Nat} (hI : Iv σ n k N) : Met l yX3_weakness wsX3_weakness { frames := 4, cells := 0, slots := 0, locals := 99 } (va_Pc [.ref (A 0), .int (iI x), .int (iI y)] (wB G (MW G A r0 σ) sz0)) (wI (if kFat σ x y = 0 then wkS σ x.toNat y.toNat else 0) G (MW G A (kFat σ x y) σ) (va_A (MW G A r0 σ) sz0)) 0 0 (va_A (MW G A r0 σ) sz0) := by
  refine wr_start (own := RX3) (cc := cX3_weakness) (mL := 3) (ret := (some .int)) (Qc := fun AA => wI (if kFat σ x y = 0 then wkS σ x.toNat y.toNat else 0) G (MW G A (kFat σ x y) σ) AA) (by decide) rfl rfl (Nat.le_of_ble_eq_true rfl) ?_
  intro pP eE sS mM args bB meth cC ls AA F hr hlocks hin hK hsz0 hP hD hS hA hl
  obtain ⟨hn, hn12, hk, hk6, hsg, haw, hch, hch1, hch0, htn, hto, htz, hpr, hN, hpz, hle, hlz⟩ := id hI
  have hcx := hch x.toNat
  have hl : lv_has ls 3 [(0, .ref (A 0)), (1, .int (iI x)), (2, .int (iI y))] := hl
  refine lv_aload_n F.1 F.2.1 dX3_weakness_0 rfl (lv_at hl 0 rfl) ?_
  refine lv_aload_n F.1 F.2.1 dX3_weakness_1 rfl (lv_at hl 0 rfl) ?_
  refine lv_iload_n F.1 F.2.1 dX3_weakness_2 rfl (lv_at hl 1 rfl) ?_
  refine lv_iload_n F.1 F.2.1 dX3_weakness_3 rfl (lv_at hl 2 rfl) ?_
  refine rd_V F (n := 2) (w0 := []) (mX3_isChord l G A r0 σ x y (by omega) (by omega) hI) gX3_weakness_X3_isChord rfl rfl rfl (by decide +kernel) ⟨Nat.le_of_ble_eq_true rfl, Nat.le_of_ble_eq_true rfl⟩ hK hP (ci := 3) (q0 := 0) rfl rfl rfl rfl hl.1 (Nat.le_of_ble_eq_true rfl) dX3_weakness_4 ⟨Nat.zero_le _, Nat.zero_le _⟩ ?_
  refine k_ifb_eq F (tgt := 14) dX3_weakness_7 (by decide) (fun c_1 => ?_) (fun c_1 => ?_)
  · skip
    refine k_iconst F dX3_weakness_14 ?_
    refine wr_V F (n := 1) (w := MW G A r0 σ) (w' := MW G A 1 σ) (wr := []) (ws2 := MW G A 1 σ) (mX3_refused l G sS.heap.size A r0 σ 1 1 (by decide) (by decide +kernel)) gX3_weakness_X3_refused rfl rfl rfl (by decide +kernel) ⟨Nat.le_of_ble_eq_true rfl, Nat.le_of_ble_eq_true rfl⟩ hK hP hD hS hA (pm_nil _) (pm_nil' _) rfl (ci := 3) (q0 := 0) rfl rfl rfl rfl hl.1 (Nat.le_of_ble_eq_true rfl) dX3_weakness_15 ⟨Nat.zero_le _, Nat.zero_le _⟩ (fun H locs hP hD hS => ?_)
    refine k_if_eq F (tgt := 25) dX3_weakness_18 (by decide) (by decide) (fun c_2 => absurd c_2 (by omega)) (fun c_2 => ?_)
    refine k_iconst F dX3_weakness_21 ?_
    refine lv_goto (tgt := 31) F.1 F.2.1 dX3_weakness_22 (by decide) ?_
    exact wr_ret F hr hlocks (by rw [show kFat σ x y = 1 from (by unfold kFat; (repeat' split) <;> omega), if_neg (by decide)]) (by rw [show kFat σ x y = 1 from (by unfold kFat; (repeat' split) <;> omega)]; exact hP) hS dX3_weakness_31
  · skip
    refine k_iconst F dX3_weakness_10 ?_
    refine lv_goto (tgt := 15) F.1 F.2.1 dX3_weakness_11 (by decide) ?_
    refine wr_V F (n := 1) (w := MW G A r0 σ) (w' := MW G A 0 σ) (wr := []) (ws2 := MW G A 0 σ) (mX3_refused l G sS.heap.size A r0 σ 0 0 (by decide) (by decide +kernel)) gX3_weakness_X3_refused rfl rfl rfl (by decide +kernel) ⟨Nat.le_of_ble_eq_true rfl, Nat.le_of_ble_eq_true rfl⟩ hK hP hD hS hA (pm_nil _) (pm_nil' _) rfl (ci := 3) (q0 := 0) rfl rfl rfl rfl hl.1 (Nat.le_of_ble_eq_true rfl) dX3_weakness_15 ⟨Nat.zero_le _, Nat.zero_le _⟩ (fun H locs hP hD hS => ?_)
    refine k_if_eq F (tgt := 25) dX3_weakness_18 (by decide) (by decide) (fun c_3 => ?_) (fun c_3 => absurd c_3 (by omega))
    have hK0 : kFat σ x y = 0 := (by unfold kFat; (repeat' split) <;> omega)
    obtain ⟨i, rfl⟩ : ∃ i : Nat, x = (i : Int) := ⟨x.toNat, by omega⟩
    obtain ⟨c, rfl⟩ : ∃ c : Nat, y = (c : Int) := ⟨y.toNat, by omega⟩
    simp only [Int.toNat_natCast] at c_1 hcx
    refine lv_aload_n F.1 F.2.1 dX3_weakness_25 rfl (lv_at hl 0 rfl) ?_
    refine lv_iload_n F.1 F.2.1 dX3_weakness_26 rfl (lv_at hl 1 rfl) ?_
    refine lv_iload_n F.1 F.2.1 dX3_weakness_27 rfl (lv_at hl 2 rfl) ?_
    refine rd_V F (n := 2) (w0 := []) (mX3_weaknessOf l G A 0 σ i c (by omega) (by omega) hI) gX3_weakness_X3_weaknessOf rfl rfl rfl (by decide +kernel) ⟨Nat.le_of_ble_eq_true rfl, Nat.le_of_ble_eq_true rfl⟩ hK hP (ci := 3) (q0 := 0) rfl rfl rfl rfl hl.1 (Nat.le_of_ble_eq_true rfl) dX3_weakness_28 ⟨Nat.zero_le _, Nat.zero_le _⟩ ?_
    exact wr_ret F hr hlocks (by rw [hK0, if_pos rfl] <;> rfl) (by rw [hK0]; exact hP) hS dX3_weakness_31

set_option maxHeartbeats 4000000 in
set_option maxRecDepth 100000 in
theorem mX3_weakest (l : Launch) (G : gT) (sz0 : Nat) (A : Nat → Nat) (r0 : Int) (σ : Sg) (x : Int) (hx : -2147483648 ≤ x ∧ x < 2147483648) {n k N : Nat} (hI : Iv σ n k N) : Met l yX3_weakest wsX3_weakest { frames := 5, cells := 0, slots := 0, locals := 122 } (va_Pc [.ref (A 0), .int (iI x)] (wB G (MW G A r0 σ) sz0)) (wI (if kPic σ x = 0 then ((wkq σ x.toNat : Nat) : Int) else 0) G (MW G A (kPic σ x) σ) (va_A (MW G A r0 σ) sz0)) 0 0 (va_A (MW G A r0 σ) sz0) := by
  refine wr_start (own := RX3) (cc := cX3_weakest) (mL := 2) (ret := (some .int)) (Qc := fun AA => wI (if kPic σ x = 0 then ((wkq σ x.toNat : Nat) : Int) else 0) G (MW G A (kPic σ x) σ) AA) (by decide) rfl rfl (Nat.le_of_ble_eq_true rfl) ?_
  intro pP eE sS mM args bB meth cC ls AA F hr hlocks hin hK hsz0 hP hD hS hA hl
  obtain ⟨hn, hn12, hk, hk6, hsg, haw, hch, hch1, hch0, htn, hto, htz, hpr, hN, hpz, hle, hlz⟩ := id hI
  have hl : lv_has ls 2 [(0, .ref (A 0)), (1, .int (iI x))] := hl
  refine lv_aload_n F.1 F.2.1 dX3_weakest_0 rfl (lv_at hl 0 rfl) ?_
  refine lv_aload_n F.1 F.2.1 dX3_weakest_1 rfl (lv_at hl 0 rfl) ?_
  refine lv_iload_n F.1 F.2.1 dX3_weakest_2 rfl (lv_at hl 1 rfl) ?_
  refine rd_V F (n := 1) (w0 := []) (mX3_isPiece l G A r0 σ x (by omega) hI) gX3_weakest_X3_isPiece rfl rfl rfl (by decide +kernel) ⟨Nat.le_of_ble_eq_true rfl, Nat.le_of_ble_eq_true rfl⟩ hK hP (ci := 3) (q0 := 0) rfl rfl rfl rfl hl.1 (Nat.le_of_ble_eq_true rfl) dX3_weakest_3 ⟨Nat.zero_le _, Nat.zero_le _⟩ ?_
  refine k_ifb_eq F (tgt := 13) dX3_weakest_6 (by decide) (fun c_1 => ?_) (fun c_1 => ?_)
  · skip
    refine k_iconst F dX3_weakest_13 ?_
    refine wr_V F (n := 1) (w := MW G A r0 σ) (w' := MW G A 1 σ) (wr := []) (ws2 := MW G A 1 σ) (mX3_refused l G sS.heap.size A r0 σ 1 1 (by decide) (by decide +kernel)) gX3_weakest_X3_refused rfl rfl rfl (by decide +kernel) ⟨Nat.le_of_ble_eq_true rfl, Nat.le_of_ble_eq_true rfl⟩ hK hP hD hS hA (pm_nil _) (pm_nil' _) rfl (ci := 3) (q0 := 0) rfl rfl rfl rfl hl.1 (Nat.le_of_ble_eq_true rfl) dX3_weakest_14 ⟨Nat.zero_le _, Nat.zero_le _⟩ (fun H locs hP hD hS => ?_)
    refine k_if_eq F (tgt := 24) dX3_weakest_17 (by decide) (by decide) (fun c_2 => absurd c_2 (by omega)) (fun c_2 => ?_)
    refine k_iconst F dX3_weakest_20 ?_
    refine lv_goto (tgt := 29) F.1 F.2.1 dX3_weakest_21 (by decide) ?_
    exact wr_ret F hr hlocks (by rw [show kPic σ x = 1 from (by unfold kPic; (repeat' split) <;> omega), if_neg (by decide)]) (by rw [show kPic σ x = 1 from (by unfold kPic; (repeat' split) <;> omega)]; exact hP) hS dX3_weakest_29
  · skip
    refine k_iconst F dX3_weakest_9 ?_
    refine lv_goto (tgt := 14) F.1 F.2.1 dX3_weakest_10 (by decide) ?_
    refine wr_V F (n := 1) (w := MW G A r0 σ) (w' := MW G A 0 σ) (wr := []) (ws2 := MW G A 0 σ) (mX3_refused l G sS.heap.size A r0 σ 0 0 (by decide) (by decide +kernel)) gX3_weakest_X3_refused rfl rfl rfl (by decide +kernel) ⟨Nat.le_of_ble_eq_true rfl, Nat.le_of_ble_eq_true rfl⟩ hK hP hD hS hA (pm_nil _) (pm_nil' _) rfl (ci := 3) (q0 := 0) rfl rfl rfl rfl hl.1 (Nat.le_of_ble_eq_true rfl) dX3_weakest_14 ⟨Nat.zero_le _, Nat.zero_le _⟩ (fun H locs hP hD hS => ?_)
    refine k_if_eq F (tgt := 24) dX3_weakest_17 (by decide) (by decide) (fun c_3 => ?_) (fun c_3 => absurd c_3 (by omega))
    have hK0 : kPic σ x = 0 := (by unfold kPic; (repeat' split) <;> omega)
    obtain ⟨i, rfl⟩ : ∃ i : Nat, x = (i : Int) := ⟨x.toNat, by omega⟩
    refine lv_aload_n F.1 F.2.1 dX3_weakest_24 rfl (lv_at hl 0 rfl) ?_
    refine lv_iload_n F.1 F.2.1 dX3_weakest_25 rfl (lv_at hl 1 rfl) ?_
    refine rd_V F (n := 1) (w0 := []) (mX3_weakestOf l G A 0 σ i (by omega) hI) gX3_weakest_X3_weakestOf rfl rfl rfl (by decide +kernel) ⟨Nat.le_of_ble_eq_true rfl, Nat.le_of_ble_eq_true rfl⟩ hK hP (ci := 3) (q0 := 0) rfl rfl rfl rfl hl.1 (Nat.le_of_ble_eq_true rfl) dX3_weakest_26 ⟨Nat.zero_le _, Nat.zero_le _⟩ ?_
    exact wr_ret F hr hlocks (by rw [hK0, if_pos rfl] <;> rfl) (by rw [hK0]; exact hP) hS dX3_weakest_29

set_option maxHeartbeats 4000000 in
set_option maxRecDepth 100000 in
theorem mX3_thrown (l : Launch) (G : gT) (A : Nat → Nat) (r0 : Int) (σ : Sg)  : Met l yX3_thrown wsX3_thrown { frames := 0, cells := 0, slots := 0, locals := 0 } (va_Pc [.ref (A 0)] (rB G (MW G A r0 σ))) (oI (r0)) 0 0 (fun _ => False) := by
  refine rd_start (own := RX3) (cc := cX3_thrown) (mL := 1) (ret := (some .int)) (by decide) rfl rfl (Nat.le_of_ble_eq_true rfl) ?_
  intro pP eE sS mM args bB meth cC ls F hr hlocks hP hK hl
  have iX3 : ∀ x ∈ wsX30, x ∈ wsX3_thrown := by decide +kernel
  have f34 := k_cond F (w := .fieldLink RX3 34 "ChoirPlannerModel" "refusal" "I") (by decide +kernel)
  have hl : lv_has ls 1 [(0, .ref (A 0))] := hl
  refine lv_aload_n F.1 F.2.1 dX3_thrown_0 rfl (lv_at hl 0 rfl) ?_
  refine k_get F hK hP iX3 0 rfl rfl 0 (by decide) f34 rfl rfl dX3_thrown_1 ?_
  exact k_ret F hr hlocks rfl dX3_thrown_4
