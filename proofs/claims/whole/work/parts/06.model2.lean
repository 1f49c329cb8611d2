set_option maxHeartbeats 4000000 in
set_option maxRecDepth 100000 in
theorem mX3_toneAt (l : Launch) (G : gT) (A : Nat → Nat) (r0 : Int) (σ : Sg) (i c v : Nat) (hi : i ≤ 6) (hc : c < 16) (hv : v < 4) : Met l yX3_toneAt wsX3_toneAt { frames := 0, cells := 0, slots := 0, locals := 0 } (va_Pc [.ref (A 0), .int (iI (i : Int)), .int (iI (c : Int)), .int (iI (v : Int))] (rB G (MW G A r0 σ))) (oI (σ 7 i (4 * c + v))) 0 0 (fun _ => False) := by
  refine rd_start (own := RX3) (cc := cX3_toneAt) (mL := 4) (ret := (some .int)) (by decide) rfl rfl (Nat.le_of_ble_eq_true rfl) ?_
  intro pP eE sS mM args bB meth cC ls F hr hlocks hP hK hl
  have iX3 : ∀ x ∈ wsX30, x ∈ wsX3_toneAt := by decide +kernel
  have f22 := k_cond F (w := .fieldLink RX3 22 "ChoirPlannerModel" "tones" "[I") (by decide +kernel)
  have hl : lv_has ls 4 [(0, .ref (A 0)), (1, .int (iI (i : Int))), (2, .int (iI (c : Int))), (3, .int (iI (v : Int)))] := hl
  refine lv_aload_n F.1 F.2.1 dX3_toneAt_0 rfl (lv_at hl 0 rfl) ?_
  refine k_get F hK hP iX3 0 rfl rfl 7 (by decide) f22 rfl rfl dX3_toneAt_1 ?_
  refine k_bipush F dX3_toneAt_4 (by decide +kernel) ?_
  refine lv_iload_n F.1 F.2.1 dX3_toneAt_6 rfl (lv_at hl 1 rfl) ?_
  refine k_imul F rfl dX3_toneAt_7 ?_
  refine k_iconst F dX3_toneAt_8 ?_
  refine lv_iload_n F.1 F.2.1 dX3_toneAt_9 rfl (lv_at hl 2 rfl) ?_
  refine k_imul F rfl dX3_toneAt_10 ?_
  refine k_iadd F rfl dX3_toneAt_11 ?_
  refine lv_iload_n F.1 F.2.1 dX3_toneAt_12 rfl (lv_at hl 3 rfl) ?_
  refine k_iadd F rfl dX3_toneAt_13 ?_
  refine k_iald F hK hP 5 rfl (64 * i + 4 * c + v) (by omega) (by omega) (by decide) (tn_ix4 σ i c v (by omega)) dX3_toneAt_14 ?_
  exact k_ret F hr hlocks rfl dX3_toneAt_15

set_option maxHeartbeats 4000000 in
set_option maxRecDepth 100000 in
theorem mX3_floorOf (l : Launch) (G : gT) (A : Nat → Nat) (r0 : Int) (σ : Sg) (i c v : Nat) (hi : i ≤ 6) (hc : c < 16) (hv : v < 4) : Met l yX3_floorOf wsX3_floorOf { frames := 1, cells := 0, slots := 0, locals := 23 } (va_Pc [.ref (A 0), .int (iI (i : Int)), .int (iI (c : Int)), .int (iI (v : Int))] (rB G (MW G A r0 σ))) (oI (flr (σ 7 i) c v)) 0 0 (fun _ => False) := by
  refine rd_start (own := RX3) (cc := cX3_floorOf) (mL := 4) (ret := (some .int)) (by decide) rfl rfl (Nat.le_of_ble_eq_true rfl) ?_
  intro pP eE sS mM args bB meth cC ls F hr hlocks hP hK hl
  have hl : lv_has ls 4 [(0, .ref (A 0)), (1, .int (iI (i : Int))), (2, .int (iI (c : Int))), (3, .int (iI (v : Int)))] := hl
  refine lv_iload_n F.1 F.2.1 dX3_floorOf_0 rfl (lv_at hl 3 rfl) ?_
  refine k_iconst F dX3_floorOf_1 ?_
  refine k_icmp_ne F (tgt := 9) dX3_floorOf_2 (by decide) (by omega) (by decide) (fun c_1 => ?_) (fun c_1 => ?_)
  · skip
    refine lv_aload_n F.1 F.2.1 dX3_floorOf_9 rfl (lv_at hl 0 rfl) ?_
    refine lv_iload_n F.1 F.2.1 dX3_floorOf_10 rfl (lv_at hl 1 rfl) ?_
    refine lv_iload_n F.1 F.2.1 dX3_floorOf_11 rfl (lv_at hl 2 rfl) ?_
    refine lv_iload_n F.1 F.2.1 dX3_floorOf_12 rfl (lv_at hl 3 rfl) ?_
    refine k_iconst F dX3_floorOf_13 ?_
    refine k_iadd F (z := ((v + 1 : Nat) : Int)) rfl dX3_floorOf_14 ?_
    refine rd_V F (n := 3) (w0 := []) (mX3_toneAt l G A r0 σ i c (v + 1) (by omega) (by omega) (by omega)) gX3_floorOf_X3_toneAt rfl rfl rfl (by decide +kernel) ⟨Nat.le_of_ble_eq_true rfl, Nat.le_of_ble_eq_true rfl⟩ hK hP (ci := 3) (q0 := 0) rfl rfl rfl rfl hl.1 (Nat.le_of_ble_eq_true rfl) dX3_floorOf_15 ⟨Nat.zero_le _, Nat.zero_le _⟩ ?_
    exact k_ret F hr hlocks (by unfold flr; first | rw [if_pos (by omega)] | rw [if_neg (by omega)]) dX3_floorOf_18
  · skip
    refine k_iconst F dX3_floorOf_5 ?_
    refine lv_goto (tgt := 18) F.1 F.2.1 dX3_floorOf_6 (by decide) ?_
    exact k_ret F hr hlocks (by unfold flr; first | rw [if_pos (by omega)] | rw [if_neg (by omega)]) dX3_floorOf_18

set_option maxHeartbeats 4000000 in
set_option maxRecDepth 100000 in
theorem mX3_roofOf (l : Launch) (G : gT) (A : Nat → Nat) (r0 : Int) (σ : Sg) (i c v : Nat) (hi : i ≤ 6) (hc : c < 16) (hv : v < 4) : Met l yX3_roofOf wsX3_roofOf { frames := 1, cells := 0, slots := 0, locals := 23 } (va_Pc [.ref (A 0), .int (iI (i : Int)), .int (iI (c : Int)), .int (iI (v : Int))] (rB G (MW G A r0 σ))) (oI (clg (σ 7 i) c v)) 0 0 (fun _ => False) := by
  refine rd_start (own := RX3) (cc := cX3_roofOf) (mL := 4) (ret := (some .int)) (by decide) rfl rfl (Nat.le_of_ble_eq_true rfl) ?_
  intro pP eE sS mM args bB meth cC ls F hr hlocks hP hK hl
  have hl : lv_has ls 4 [(0, .ref (A 0)), (1, .int (iI (i : Int))), (2, .int (iI (c : Int))), (3, .int (iI (v : Int)))] := hl
  refine lv_iload_n F.1 F.2.1 dX3_roofOf_0 rfl (lv_at hl 3 rfl) ?_
  refine k_if_ne F (tgt := 9) dX3_roofOf_1 (by decide) (by omega) (fun c_1 => ?_) (fun c_1 => ?_)
  · skip
    refine lv_aload_n F.1 F.2.1 dX3_roofOf_9 rfl (lv_at hl 0 rfl) ?_
    refine lv_iload_n F.1 F.2.1 dX3_roofOf_10 rfl (lv_at hl 1 rfl) ?_
    refine lv_iload_n F.1 F.2.1 dX3_roofOf_11 rfl (lv_at hl 2 rfl) ?_
    refine lv_iload_n F.1 F.2.1 dX3_roofOf_12 rfl (lv_at hl 3 rfl) ?_
    refine k_iconst F dX3_roofOf_13 ?_
    refine k_isub F (z := ((v - 1 : Nat) : Int)) (by omega) dX3_roofOf_14 ?_
    refine rd_V F (n := 3) (w0 := []) (mX3_toneAt l G A r0 σ i c (v - 1) (by omega) (by omega) (by omega)) gX3_roofOf_X3_toneAt rfl rfl rfl (by decide +kernel) ⟨Nat.le_of_ble_eq_true rfl, Nat.le_of_ble_eq_true rfl⟩ hK hP (ci := 3) (q0 := 0) rfl rfl rfl rfl hl.1 (Nat.le_of_ble_eq_true rfl) dX3_roofOf_15 ⟨Nat.zero_le _, Nat.zero_le _⟩ ?_
    exact k_ret F hr hlocks (by unfold clg; first | rw [if_pos (by omega)] | rw [if_neg (by omega)]) dX3_roofOf_18
  · skip
    refine k_bipush F dX3_roofOf_4 (by decide +kernel) ?_
    refine lv_goto (tgt := 18) F.1 F.2.1 dX3_roofOf_6 (by decide) ?_
    exact k_ret F hr hlocks (by unfold clg; first | rw [if_pos (by omega)] | rw [if_neg (by omega)]) dX3_roofOf_18

set_option maxHeartbeats 4000000 in
set_option maxRecDepth 100000 in
theorem mX3_isParallel (l : Launch) (G : gT) (A : Nat → Nat) (r0 : Int) (σ : Sg) (i c a b : Nat) (hi : i ≤ 6) (hc : c + 1 < 16) (hab : a < b) (hb4 : b < 4) {n k N : Nat} (hI : Iv σ n k N) : Met l yX3_isParallel wsX3_isParallel { frames := 1, cells := 0, slots := 0, locals := 23 } (va_Pc [.ref (A 0), .int (iI (i : Int)), .int (iI ((c + 1 : Nat) : Int)), .int (iI (a : Int)), .int (iI (b : Int))] (rB G (MW G A r0 σ))) (oI (bI (prl (σ 7 i) c a b))) 0 0 (fun _ => False) := by
  refine rd_start (own := RX3) (cc := cX3_isParallel) (mL := 8) (ret := (some .boolean)) (by decide) rfl rfl (Nat.le_of_ble_eq_true rfl) ?_
  intro pP eE sS mM args bB meth cC ls F hr hlocks hP hK hl
  obtain ⟨hn, hn12, hk, hk6, hsg, haw, hch, hch1, hch0, htn, hto, htz, hpr, hN, hpz, hle, hlz⟩ := id hI
  have b1 := htn i (4 * (c + 1) + a)
  have b2 := htn i (4 * (c + 1) + b)
  have b3 := htn i (4 * c + a)
  have b4 := htn i (4 * c + b)
  have b5 := t_ord (hto i) (c := c + 1) (a := a) (b := b) (by omega) hb4
  have hl : lv_has ls 8 [(0, .ref (A 0)), (1, .int (iI (i : Int))), (2, .int (iI ((c + 1 : Nat) : Int))), (3, .int (iI (a : Int))), (4, .int (iI (b : Int)))] := hl
  refine lv_aload_n F.1 F.2.1 dX3_isParallel_0 rfl (lv_at hl 0 rfl) ?_
  refine lv_iload_n F.1 F.2.1 dX3_isParallel_1 rfl (lv_at hl 1 rfl) ?_
  refine lv_iload_n F.1 F.2.1 dX3_isParallel_2 rfl (lv_at hl 2 rfl) ?_
  refine lv_iload_n F.1 F.2.1 dX3_isParallel_3 rfl (lv_at hl 3 rfl) ?_
  refine rd_V F (n := 3) (w0 := []) (mX3_toneAt l G A r0 σ i (c + 1) a (by omega) (by omega) (by omega)) gX3_isParallel_X3_toneAt rfl rfl rfl (by decide +kernel) ⟨Nat.le_of_ble_eq_true rfl, Nat.le_of_ble_eq_true rfl⟩ hK hP (ci := 3) (q0 := 0) rfl rfl rfl rfl hl.1 (Nat.le_of_ble_eq_true rfl) dX3_isParallel_4 ⟨Nat.zero_le _, Nat.zero_le _⟩ ?_
  refine lv_aload_n F.1 F.2.1 dX3_isParallel_7 rfl (lv_at hl 0 rfl) ?_
  refine lv_iload_n F.1 F.2.1 dX3_isParallel_8 rfl (lv_at hl 1 rfl) ?_
  refine lv_iload_n F.1 F.2.1 dX3_isParallel_9 rfl (lv_at hl 2 rfl) ?_
  refine k_iconst F dX3_isParallel_10 ?_
  refine k_isub F (z := (c : Int)) (by omega) dX3_isParallel_11 ?_
  refine lv_iload_n F.1 F.2.1 dX3_isParallel_12 rfl (lv_at hl 3 rfl) ?_
  refine rd_V F (n := 3) (w0 := []) (mX3_toneAt l G A r0 σ i c a (by omega) (by omega) (by omega)) gX3_isParallel_X3_toneAt rfl rfl rfl (by decide +kernel) ⟨Nat.le_of_ble_eq_true rfl, Nat.le_of_ble_eq_true rfl⟩ hK hP (ci := 3) (q0 := 0) rfl rfl rfl rfl hl.1 (Nat.le_of_ble_eq_true rfl) dX3_isParallel_13 ⟨Nat.zero_le _, Nat.zero_le _⟩ ?_
  refine k_isub F rfl dX3_isParallel_16 ?_
  refine lv_istore (lv' := [(5, .int (iI ((σ 7 i (4 * (c + 1) + a)) - (σ 7 i (4 * c + a))))), (0, .ref (A 0)), (1, .int (iI (i : Int))), (2, .int (iI ((c + 1 : Nat) : Int))), (3, .int (iI (a : Int))), (4, .int (iI (b : Int)))]) F.1 F.2.1 dX3_isParallel_17 hl (by decide) rfl (fun ls hl => ?_)
  refine lv_aload_n F.1 F.2.1 dX3_isParallel_19 rfl (lv_at hl 1 rfl) ?_
  refine lv_iload_n F.1 F.2.1 dX3_isParallel_20 rfl (lv_at hl 2 rfl) ?_
  refine lv_iload_n F.1 F.2.1 dX3_isParallel_21 rfl (lv_at hl 3 rfl) ?_
  refine lv_iload F.1 F.2.1 dX3_isParallel_22 (lv_at hl 5 rfl) ?_
  refine rd_V F (n := 3) (w0 := []) (mX3_toneAt l G A r0 σ i (c + 1) b (by omega) (by omega) (by omega)) gX3_isParallel_X3_toneAt rfl rfl rfl (by decide +kernel) ⟨Nat.le_of_ble_eq_true rfl, Nat.le_of_ble_eq_true rfl⟩ hK hP (ci := 3) (q0 := 0) rfl rfl rfl rfl hl.1 (Nat.le_of_ble_eq_true rfl) dX3_isParallel_24 ⟨Nat.zero_le _, Nat.zero_le _⟩ ?_
  refine lv_aload_n F.1 F.2.1 dX3_isParallel_27 rfl (lv_at hl 1 rfl) ?_
  refine lv_iload_n F.1 F.2.1 dX3_isParallel_28 rfl (lv_at hl 2 rfl) ?_
  refine lv_iload_n F.1 F.2.1 dX3_isParallel_29 rfl (lv_at hl 3 rfl) ?_
  refine k_iconst F dX3_isParallel_30 ?_
  refine k_isub F (z := (c : Int)) (by omega) dX3_isParallel_31 ?_
  refine lv_iload F.1 F.2.1 dX3_isParallel_32 (lv_at hl 5 rfl) ?_
  refine rd_V F (n := 3) (w0 := []) (mX3_toneAt l G A r0 σ i c b (by omega) (by omega) (by omega)) gX3_isParallel_X3_toneAt rfl rfl rfl (by decide +kernel) ⟨Nat.le_of_ble_eq_true rfl, Nat.le_of_ble_eq_true rfl⟩ hK hP (ci := 3) (q0 := 0) rfl rfl rfl rfl hl.1 (Nat.le_of_ble_eq_true rfl) dX3_isParallel_34 ⟨Nat.zero_le _, Nat.zero_le _⟩ ?_
  refine k_isub F rfl dX3_isParallel_37 ?_
  refine lv_istore (lv' := [(6, .int (iI ((σ 7 i (4 * (c + 1) + b)) - (σ 7 i (4 * c + b))))), (5, .int (iI ((σ 7 i (4 * (c + 1) + a)) - (σ 7 i (4 * c + a))))), (0, .ref (A 0)), (1, .int (iI (i : Int))), (2, .int (iI ((c + 1 : Nat) : Int))), (3, .int (iI (a : Int))), (4, .int (iI (b : Int)))]) F.1 F.2.1 dX3_isParallel_38 hl (by decide) rfl (fun ls hl => ?_)
  refine lv_aload_n F.1 F.2.1 dX3_isParallel_40 rfl (lv_at hl 2 rfl) ?_
  refine lv_iload_n F.1 F.2.1 dX3_isParallel_41 rfl (lv_at hl 3 rfl) ?_
  refine lv_iload_n F.1 F.2.1 dX3_isParallel_42 rfl (lv_at hl 4 rfl) ?_
  refine lv_iload_n F.1 F.2.1 dX3_isParallel_43 rfl (lv_at hl 5 rfl) ?_
  refine rd_V F (n := 3) (w0 := []) (mX3_toneAt l G A r0 σ i (c + 1) a (by omega) (by omega) (by omega)) gX3_isParallel_X3_toneAt rfl rfl rfl (by decide +kernel) ⟨Nat.le_of_ble_eq_true rfl, Nat.le_of_ble_eq_true rfl⟩ hK hP (ci := 3) (q0 := 0) rfl rfl rfl rfl hl.1 (Nat.le_of_ble_eq_true rfl) dX3_isParallel_44 ⟨Nat.zero_le _, Nat.zero_le _⟩ ?_
  refine lv_aload_n F.1 F.2.1 dX3_isParallel_47 rfl (lv_at hl 2 rfl) ?_
  refine lv_iload_n F.1 F.2.1 dX3_isParallel_48 rfl (lv_at hl 3 rfl) ?_
  refine lv_iload_n F.1 F.2.1 dX3_isParallel_49 rfl (lv_at hl 4 rfl) ?_
  refine lv_iload F.1 F.2.1 dX3_isParallel_50 (lv_at hl 6 rfl) ?_
  refine rd_V F (n := 3) (w0 := []) (mX3_toneAt l G A r0 σ i (c + 1) b (by omega) (by omega) (by omega)) gX3_isParallel_X3_toneAt rfl rfl rfl (by decide +kernel) ⟨Nat.le_of_ble_eq_true rfl, Nat.le_of_ble_eq_true rfl⟩ hK hP (ci := 3) (q0 := 0) rfl rfl rfl rfl hl.1 (Nat.le_of_ble_eq_true rfl) dX3_isParallel_52 ⟨Nat.zero_le _, Nat.zero_le _⟩ ?_
  refine k_isub F rfl dX3_isParallel_55 ?_
  refine lv_istore (lv' := [(7, .int (iI ((σ 7 i (4 * (c + 1) + a)) - (σ 7 i (4 * (c + 1) + b))))), (6, .int (iI ((σ 7 i (4 * (c + 1) + b)) - (σ 7 i (4 * c + b))))), (5, .int (iI ((σ 7 i (4 * (c + 1) + a)) - (σ 7 i (4 * c + a))))), (0, .ref (A 0)), (1, .int (iI (i : Int))), (2, .int (iI ((c + 1 : Nat) : Int))), (3, .int (iI (a : Int))), (4, .int (iI (b : Int)))]) F.1 F.2.1 dX3_isParallel_56 hl (by decide) rfl (fun ls hl => ?_)
  have J_1 : ∀ q : Nat, q ≤ (((σ 7 i (4 * (c + 1) + a) - σ 7 i (4 * (c + 1) + b)) + 11) / 12 - 1).toNat → ∀ ls : Array Slot, lv_has ls 8 [(7, .int (iI ((σ 7 i (4 * (c + 1) + a) - σ 7 i (4 * (c + 1) + b)) - 12 * (q : Int)))), (6, .int (iI ((σ 7 i (4 * (c + 1) + b)) - (σ 7 i (4 * c + b))))), (5, .int (iI ((σ 7 i (4 * (c + 1) + a)) - (σ 7 i (4 * c + a))))), (0, .ref (A 0)), (1, .int (iI (i : Int))), (2, .int (iI ((c + 1 : Nat) : Int))), (3, .int (iI (a : Int))), (4, .int (iI (b : Int)))] → W pP l eE ({ frames := 1, cells := 0, slots := 0, locals := 23 }) sS mM args bB meth cC sS.heap [] 0 0 (MQ bB (oI (bI (prl (σ 7 i) c a b))) args sS 0 0 (fun _ => False)) (F0 mM 58 ls []) := by
    refine lp_up ((((σ 7 i (4 * (c + 1) + a) - σ 7 i (4 * (c + 1) + b)) + 11) / 12 - 1).toNat) ?_ ?_
    · intro ls hl
      refine lv_iload F.1 F.2.1 dX3_isParallel_58 (lv_at hl 0 rfl) ?_
      refine k_bipush F dX3_isParallel_60 (by decide +kernel) ?_
      refine k_icmp_le F (tgt := 71) dX3_isParallel_62 (by decide) (by omega) (by decide) (fun c_3 => ?_) (fun c_3 => absurd c_3 (by omega))
      refine lv_iload F.1 F.2.1 dX3_isParallel_71 (lv_at hl 2 rfl) ?_
      refine k_if_eq F (tgt := 106) dX3_isParallel_73 (by decide) (by omega) (fun c_4 => ?_) (fun c_4 => ?_)
      · skip
        refine k_iconst F dX3_isParallel_106 ?_
        exact k_zret F hr hlocks (bI_f (by unfold prl stp; omega)).symm (Or.inl rfl) dX3_isParallel_107
      · skip
        refine lv_iload F.1 F.2.1 dX3_isParallel_76 (lv_at hl 2 rfl) ?_
        refine lv_iload F.1 F.2.1 dX3_isParallel_78 (lv_at hl 1 rfl) ?_
        refine k_icmp_ne F (tgt := 106) dX3_isParallel_80 (by decide) (by omega) (by omega) (fun c_5 => ?_) (fun c_5 => ?_)
        · skip
          refine k_iconst F dX3_isParallel_106 ?_
          exact k_zret F hr hlocks (bI_f (by unfold prl stp; omega)).symm (Or.inl rfl) dX3_isParallel_107
        · skip
          refine lv_iload F.1 F.2.1 dX3_isParallel_83 (lv_at hl 0 rfl) ?_
          refine k_if_eq F (tgt := 102) dX3_isParallel_85 (by decide) (by omega) (fun c_6 => ?_) (fun c_6 => ?_)
          · skip
            refine k_iconst F dX3_isParallel_102 ?_
            refine lv_goto (tgt := 107) F.1 F.2.1 dX3_isParallel_103 (by decide) ?_
            exact k_zret F hr hlocks (bI_t (by unfold prl stp; omega)).symm (Or.inr rfl) dX3_isParallel_107
          · skip
            refine lv_iload F.1 F.2.1 dX3_isParallel_88 (lv_at hl 0 rfl) ?_
            refine k_bipush F dX3_isParallel_90 (by decide +kernel) ?_
            refine k_icmp_eq F (tgt := 102) dX3_isParallel_92 (by decide) (by omega) (by decide) (fun c_7 => ?_) (fun c_7 => ?_)
            · skip
              refine k_iconst F dX3_isParallel_102 ?_
              refine lv_goto (tgt := 107) F.1 F.2.1 dX3_isParallel_103 (by decide) ?_
              exact k_zret F hr hlocks (bI_t (by unfold prl stp; omega)).symm (Or.inr rfl) dX3_isParallel_107
            · skip
              refine lv_iload F.1 F.2.1 dX3_isParallel_95 (lv_at hl 0 rfl) ?_
              refine k_bipush F dX3_isParallel_97 (by decide +kernel) ?_
              refine k_icmp_ne F (tgt := 106) dX3_isParallel_99 (by decide) (by omega) (by decide) (fun c_8 => ?_) (fun c_8 => ?_)
              · skip
                refine k_iconst F dX3_isParallel_106 ?_
                exact k_zret F hr hlocks (bI_f (by unfold prl stp; omega)).symm (Or.inl rfl) dX3_isParallel_107
              · skip
                refine k_iconst F dX3_isParallel_102 ?_
                refine lv_goto (tgt := 107) F.1 F.2.1 dX3_isParallel_103 (by decide) ?_
                exact k_zret F hr hlocks (bI_t (by unfold prl stp; omega)).symm (Or.inr rfl) dX3_isParallel_107
    · intro q hk9 ih ls hl
      refine lv_iload F.1 F.2.1 dX3_isParallel_58 (lv_at hl 0 rfl) ?_
      refine k_bipush F dX3_isParallel_60 (by decide +kernel) ?_
      refine k_icmp_le F (tgt := 71) dX3_isParallel_62 (by decide) (by omega) (by decide) (fun c_9 => absurd c_9 (by omega)) (fun c_9 => ?_)
      refine lv_iinc (v := iI (((σ 7 i (4 * (c + 1) + a) - σ 7 i (4 * (c + 1) + b)) - 12 * (q : Int)) + (-12))) (lv' := [(7, .int (iI (((σ 7 i (4 * (c + 1) + a) - σ 7 i (4 * (c + 1) + b)) - 12 * (q : Int)) + (-12)))), (6, .int (iI ((σ 7 i (4 * (c + 1) + b)) - (σ 7 i (4 * c + b))))), (5, .int (iI ((σ 7 i (4 * (c + 1) + a)) - (σ 7 i (4 * c + a))))), (0, .ref (A 0)), (1, .int (iI (i : Int))), (2, .int (iI ((c + 1 : Nat) : Int))), (3, .int (iI (a : Int))), (4, .int (iI (b : Int)))]) F.1 F.2.1 dX3_isParallel_65 hl (k := 0) rfl (iI_add _ _) (by decide) rfl (fun ls hl => ?_)
      refine lv_goto (tgt := 58) F.1 F.2.1 dX3_isParallel_68 (by decide) ?_
      have e_10 : ((((σ 7 i (4 * (c + 1) + a) - σ 7 i (4 * (c + 1) + b)) - 12 * (q : Int)) + (-12)) : Int) = ((σ 7 i (4 * (c + 1) + a) - σ 7 i (4 * (c + 1) + b)) - 12 * ((q + 1 : Nat) : Int)) := by omega
      exact ih _ (lv_to (lv_sub hl [0, 1, 2, 3, 4, 5, 6, 7] rfl) (congrArg (fun x9 : Int => ([(7, .int (iI x9)), (6, .int (iI ((σ 7 i (4 * (c + 1) + b)) - (σ 7 i (4 * c + b))))), (5, .int (iI ((σ 7 i (4 * (c + 1) + a)) - (σ 7 i (4 * c + a))))), (0, .ref (A 0)), (1, .int (iI (i : Int))), (2, .int (iI ((c + 1 : Nat) : Int))), (3, .int (iI (a : Int))), (4, .int (iI (b : Int)))] : List (Nat × Value))) e_10))
  have e_11 : (((σ 7 i (4 * (c + 1) + a)) - (σ 7 i (4 * (c + 1) + b))) : Int) = ((σ 7 i (4 * (c + 1) + a) - σ 7 i (4 * (c + 1) + b)) - 12 * ((0 : Nat) : Int)) := by omega
  exact J_1 0 (by omega) _ (lv_to (lv_sub hl [0, 1, 2, 3, 4, 5, 6, 7] rfl) (congrArg (fun x9 : Int => ([(7, .int (iI x9)), (6, .int (iI ((σ 7 i (4 * (c + 1) + b)) - (σ 7 i (4 * c + b))))), (5, .int (iI ((σ 7 i (4 * (c + 1) + a)) - (σ 7 i (4 * c + a))))), (0, .ref (A 0)), (1, .int (iI (i : Int))), (2, .int (iI ((c + 1 : Nat) : Int))), (3, .int (iI (a : Int))), (4, .int (iI (b : Int)))] : List (Nat × Value))) e_11))

set_option maxHeartbeats 4000000 in
set_option maxRecDepth 100000 in
theorem mX3_faultsOf_s (l : Launch) (G : gT) (A : Nat → Nat) (r0 : Int) (σ : Sg) (i c : Nat) (hi : i ≤ 6) (hc : c + 1 < 16) {n k N : Nat} (hI : Iv σ n k N) : Met l yX3_faultsOf wsX3_faultsOf { frames := 2, cells := 0, slots := 0, locals := 50 } (va_Pc [.ref (A 0), .int (iI (i : Int)), .int (iI ((c + 1 : Nat) : Int))] (rB G (MW G A r0 σ))) (oI (mvf (σ 7 i) (c + 1))) 0 0 (fun _ => False) := by
  refine rd_start (own := RX3) (cc := cX3_faultsOf) (mL := 7) (ret := (some .int)) (by decide) rfl rfl (Nat.le_of_ble_eq_true rfl) ?_
  intro pP eE sS mM args bB meth cC ls F hr hlocks hP hK hl
  obtain ⟨hn, hn12, hk, hk6, hsg, haw, hch, hch1, hch0, htn, hto, htz, hpr, hN, hpz, hle, hlz⟩ := id hI
  have hl : lv_has ls 7 [(0, .ref (A 0)), (1, .int (iI (i : Int))), (2, .int (iI ((c + 1 : Nat) : Int)))] := hl
  refine k_iconst F dX3_faultsOf_0 ?_
  refine lv_istore_n (lv' := [(3, .int (iI 0)), (0, .ref (A 0)), (1, .int (iI (i : Int))), (2, .int (iI ((c + 1 : Nat) : Int)))]) F.1 F.2.1 dX3_faultsOf_1 rfl hl (by decide) rfl (fun ls hl => ?_)
  refine k_iconst F dX3_faultsOf_2 ?_
  refine lv_istore (lv' := [(4, .int (iI 0)), (3, .int (iI 0)), (0, .ref (A 0)), (1, .int (iI (i : Int))), (2, .int (iI ((c + 1 : Nat) : Int)))]) F.1 F.2.1 dX3_faultsOf_3 hl (by decide) rfl (fun ls hl => ?_)
  have J_1 : ∀ a : Nat, a ≤ 4 → ∀ ls : Array Slot, lv_has ls 7 [(3, .int (iI (fou (σ 7 i) c a))), (4, .int (iI (a : Int))), (0, .ref (A 0)), (1, .int (iI (i : Int))), (2, .int (iI ((c + 1 : Nat) : Int)))] → W pP l eE ({ frames := 2, cells := 0, slots := 0, locals := 50 }) sS mM args bB meth cC sS.heap [] 0 0 (MQ bB (oI (mvf (σ 7 i) (c + 1))) args sS 0 0 (fun _ => False)) (F0 mM 5 ls []) := by
    refine lp_up (4) ?_ ?_
    · intro ls hl
      refine lv_iload F.1 F.2.1 dX3_faultsOf_5 (lv_at hl 1 rfl) ?_
      refine k_iconst F dX3_faultsOf_7 ?_
      refine k_icmp_ge F (tgt := 101) dX3_faultsOf_8 (by decide) (by omega) (by decide) (fun c_3 => ?_) (fun c_3 => absurd c_3 (by omega))
      refine lv_iload_n F.1 F.2.1 dX3_faultsOf_101 rfl (lv_at hl 0 rfl) ?_
      exact k_ret F hr hlocks rfl dX3_faultsOf_102
    · intro a hk9 ih ls hl
      have b1 := htn i (4 * (c + 1) + a)
      have b3 := htn i (4 * c + a)
      refine lv_iload F.1 F.2.1 dX3_faultsOf_5 (lv_at hl 1 rfl) ?_
      refine k_iconst F dX3_faultsOf_7 ?_
      refine k_icmp_ge F (tgt := 101) dX3_faultsOf_8 (by decide) (by omega) (by decide) (fun c_4 => absurd c_4 (by omega)) (fun c_4 => ?_)
      refine lv_iload_n F.1 F.2.1 dX3_faultsOf_11 rfl (lv_at hl 4 rfl) ?_
      refine k_if_le F (tgt := 101) dX3_faultsOf_12 (by decide) (by omega) (fun c_5 => absurd c_5 (by omega)) (fun c_5 => ?_)
      refine lv_aload_n F.1 F.2.1 dX3_faultsOf_15 rfl (lv_at hl 2 rfl) ?_
      refine lv_iload_n F.1 F.2.1 dX3_faultsOf_16 rfl (lv_at hl 3 rfl) ?_
      refine lv_iload_n F.1 F.2.1 dX3_faultsOf_17 rfl (lv_at hl 4 rfl) ?_
      refine lv_iload F.1 F.2.1 dX3_faultsOf_18 (lv_at hl 1 rfl) ?_
      refine rd_V F (n := 3) (w0 := []) (mX3_toneAt l G A r0 σ i (c + 1) a (by omega) (by omega) (by omega)) gX3_faultsOf_X3_toneAt rfl rfl rfl (by decide +kernel) ⟨Nat.le_of_ble_eq_true rfl, Nat.le_of_ble_eq_true rfl⟩ hK hP (ci := 3) (q0 := 0) rfl rfl rfl rfl hl.1 (Nat.le_of_ble_eq_true rfl) dX3_faultsOf_20 ⟨Nat.zero_le _, Nat.zero_le _⟩ ?_
      refine lv_aload_n F.1 F.2.1 dX3_faultsOf_23 rfl (lv_at hl 2 rfl) ?_
      refine lv_iload_n F.1 F.2.1 dX3_faultsOf_24 rfl (lv_at hl 3 rfl) ?_
      refine lv_iload_n F.1 F.2.1 dX3_faultsOf_25 rfl (lv_at hl 4 rfl) ?_
      refine k_iconst F dX3_faultsOf_26 ?_
      refine k_isub F (z := (c : Int)) (by omega) dX3_faultsOf_27 ?_
      refine lv_iload F.1 F.2.1 dX3_faultsOf_28 (lv_at hl 1 rfl) ?_
      refine rd_V F (n := 3) (w0 := []) (mX3_toneAt l G A r0 σ i c a (by omega) (by omega) (by omega)) gX3_faultsOf_X3_toneAt rfl rfl rfl (by decide +kernel) ⟨Nat.le_of_ble_eq_true rfl, Nat.le_of_ble_eq_true rfl⟩ hK hP (ci := 3) (q0 := 0) rfl rfl rfl rfl hl.1 (Nat.le_of_ble_eq_true rfl) dX3_faultsOf_30 ⟨Nat.zero_le _, Nat.zero_le _⟩ ?_
      refine k_isub F rfl dX3_faultsOf_33 ?_
      refine lv_istore (lv' := [(5, .int (iI ((σ 7 i (4 * (c + 1) + a)) - (σ 7 i (4 * c + a))))), (3, .int (iI (fou (σ 7 i) c a))), (4, .int (iI (a : Int))), (0, .ref (A 0)), (1, .int (iI (i : Int))), (2, .int (iI ((c + 1 : Nat) : Int)))]) F.1 F.2.1 dX3_faultsOf_34 hl (by decide) rfl (fun ls hl => ?_)
      refine lv_iload_n F.1 F.2.1 dX3_faultsOf_36 rfl (lv_at hl 1 rfl) ?_
      refine lv_iload F.1 F.2.1 dX3_faultsOf_37 (lv_at hl 0 rfl) ?_
      refine k_bipush F dX3_faultsOf_39 (by decide +kernel) ?_
      refine k_bipush F dX3_faultsOf_41 (by decide +kernel) ?_
      refine rd_S F (n := 3) (w0 := []) (mX3_in l G (MW G A r0 σ) ((σ 7 i (4 * (c + 1) + a)) - (σ 7 i (4 * c + a))) (-7) 7 (by omega) (by decide) (by decide)) gX3_faultsOf_X3_in rfl rfl rfl (by decide +kernel) ⟨Nat.le_of_ble_eq_true rfl, Nat.le_of_ble_eq_true rfl⟩ hK hP rfl rfl hl.1 (Nat.le_of_ble_eq_true rfl) dX3_faultsOf_43 ⟨Nat.zero_le _, Nat.zero_le _⟩ ?_
      refine k_ifb_eq F (tgt := 53) dX3_faultsOf_46 (by decide) (fun c_6 => ?_) (fun c_6 => ?_)
      · skip
        refine k_iconst F dX3_faultsOf_53 ?_
        refine k_iadd F rfl dX3_faultsOf_54 ?_
        refine lv_istore_n (lv' := [(3, .int (iI (fou (σ 7 i) c a + 1))), (5, .int (iI ((σ 7 i (4 * (c + 1) + a)) - (σ 7 i (4 * c + a))))), (4, .int (iI (a : Int))), (0, .ref (A 0)), (1, .int (iI (i : Int))), (2, .int (iI ((c + 1 : Nat) : Int)))]) F.1 F.2.1 dX3_faultsOf_55 rfl hl (by decide) rfl (fun ls hl => ?_)
        refine lv_iload F.1 F.2.1 dX3_faultsOf_56 (lv_at hl 2 rfl) ?_
        refine k_iconst F dX3_faultsOf_58 ?_
        refine k_iadd F rfl dX3_faultsOf_59 ?_
        refine lv_istore (lv' := [(6, .int (iI ((a : Int) + 1))), (3, .int (iI (fou (σ 7 i) c a + 1))), (5, .int (iI ((σ 7 i (4 * (c + 1) + a)) - (σ 7 i (4 * c + a))))), (4, .int (iI (a : Int))), (0, .ref (A 0)), (1, .int (iI (i : Int))), (2, .int (iI ((c + 1 : Nat) : Int)))]) F.1 F.2.1 dX3_faultsOf_60 hl (by decide) rfl (fun ls hl => ?_)
        have J_7 : ∀ q : Nat, q ≤ (3 - a) → ∀ ls : Array Slot, lv_has ls 7 [(6, .int (iI ((a + 1 + q : Nat) : Int))), (3, .int (iI ((fou (σ 7 i) c a + 1) + fin (σ 7 i) c a q))), (5, .int (iI ((σ 7 i (4 * (c + 1) + a)) - (σ 7 i (4 * c + a))))), (4, .int (iI (a : Int))), (0, .ref (A 0)), (1, .int (iI (i : Int))), (2, .int (iI ((c + 1 : Nat) : Int)))] → W pP l eE ({ frames := 2, cells := 0, slots := 0, locals := 50 }) sS mM args bB meth cC sS.heap [] 0 0 (MQ bB (oI (mvf (σ 7 i) (c + 1))) args sS 0 0 (fun _ => False)) (F0 mM 62 ls []) := by
          refine lp_up ((3 - a)) ?_ ?_
          · intro ls hl
            refine lv_iload F.1 F.2.1 dX3_faultsOf_62 (lv_at hl 0 rfl) ?_
            refine k_iconst F dX3_faultsOf_64 ?_
            refine k_icmp_ge F (tgt := 95) dX3_faultsOf_65 (by decide) (by omega) (by decide) (fun c_9 => ?_) (fun c_9 => absurd c_9 (by omega))
            refine lv_iinc (v := iI ((a : Int) + 1)) (lv' := [(4, .int (iI ((a : Int) + 1))), (6, .int (iI ((a + 1 + (3 - a) : Nat) : Int))), (3, .int (iI ((fou (σ 7 i) c a + 1) + fin (σ 7 i) c a (3 - a)))), (5, .int (iI ((σ 7 i (4 * (c + 1) + a)) - (σ 7 i (4 * c + a))))), (0, .ref (A 0)), (1, .int (iI (i : Int))), (2, .int (iI ((c + 1 : Nat) : Int)))]) F.1 F.2.1 dX3_faultsOf_95 hl (k := 3) rfl (iI_add _ _) (by decide) rfl (fun ls hl => ?_)
            refine lv_goto (tgt := 5) F.1 F.2.1 dX3_faultsOf_98 (by decide) ?_
            have e_10 : (((fou (σ 7 i) c a + 1) + fin (σ 7 i) c a (3 - a)) : Int) = fou (σ 7 i) c (a + 1) := by rw [fou_s, lpf]; first | (rw [if_pos (by assumption)] <;> omega) | (rw [if_neg (by assumption)] <;> omega)
            have e_11 : (((a : Int) + 1) : Int) = ((a + 1 : Nat) : Int) := rfl
            exact ih _ (lv_to (lv_to (lv_sub hl [2, 0, 4, 5, 6] rfl) (congrArg (fun x9 : Int => ([(3, .int (iI x9)), (4, .int (iI ((a : Int) + 1))), (0, .ref (A 0)), (1, .int (iI (i : Int))), (2, .int (iI ((c + 1 : Nat) : Int)))] : List (Nat × Value))) e_10)) (congrArg (fun x9 : Int => ([(3, .int (iI (fou (σ 7 i) c (a + 1)))), (4, .int (iI x9)), (0, .ref (A 0)), (1, .int (iI (i : Int))), (2, .int (iI ((c + 1 : Nat) : Int)))] : List (Nat × Value))) e_11))
          · intro q hk9 ih ls hl
            refine lv_iload F.1 F.2.1 dX3_faultsOf_62 (lv_at hl 0 rfl) ?_
            refine k_iconst F dX3_faultsOf_64 ?_
            refine k_icmp_ge F (tgt := 95) dX3_faultsOf_65 (by decide) (by omega) (by decide) (fun c_12 => absurd c_12 (by omega)) (fun c_12 => ?_)
            refine lv_iload_n F.1 F.2.1 dX3_faultsOf_68 rfl (lv_at hl 1 rfl) ?_
            refine lv_aload_n F.1 F.2.1 dX3_faultsOf_69 rfl (lv_at hl 4 rfl) ?_
            refine lv_iload_n F.1 F.2.1 dX3_faultsOf_70 rfl (lv_at hl 5 rfl) ?_
            refine lv_iload_n F.1 F.2.1 dX3_faultsOf_71 rfl (lv_at hl 6 rfl) ?_
            refine lv_iload F.1 F.2.1 dX3_faultsOf_72 (lv_at hl 3 rfl) ?_
            refine lv_iload F.1 F.2.1 dX3_faultsOf_74 (lv_at hl 0 rfl) ?_
            refine rd_V F (n := 4) (w0 := []) (mX3_isParallel l G A r0 σ i c a (a + 1 + q) (by omega) (by omega) (by omega) (by omega) hI) gX3_faultsOf_X3_isParallel rfl rfl rfl (by decide +kernel) ⟨Nat.le_of_ble_eq_true rfl, Nat.le_of_ble_eq_true rfl⟩ hK hP (ci := 3) (q0 := 0) rfl rfl rfl rfl hl.1 (Nat.le_of_ble_eq_true rfl) dX3_faultsOf_76 ⟨Nat.zero_le _, Nat.zero_le _⟩ ?_
            refine k_ifb_eq F (tgt := 86) dX3_faultsOf_79 (by decide) (fun c_13 => ?_) (fun c_13 => ?_)
            · skip
              refine k_iconst F dX3_faultsOf_86 ?_
              refine k_iadd F rfl dX3_faultsOf_87 ?_
              refine lv_istore_n (lv' := [(3, .int (iI (((fou (σ 7 i) c a + 1) + fin (σ 7 i) c a q) + 0))), (6, .int (iI ((a + 1 + q : Nat) : Int))), (5, .int (iI ((σ 7 i (4 * (c + 1) + a)) - (σ 7 i (4 * c + a))))), (4, .int (iI (a : Int))), (0, .ref (A 0)), (1, .int (iI (i : Int))), (2, .int (iI ((c + 1 : Nat) : Int)))]) F.1 F.2.1 dX3_faultsOf_88 rfl hl (by decide) rfl (fun ls hl => ?_)
              refine lv_iinc (v := iI (((a + 1 + q : Nat) : Int) + 1)) (lv' := [(6, .int (iI (((a + 1 + q : Nat) : Int) + 1))), (3, .int (iI (((fou (σ 7 i) c a + 1) + fin (σ 7 i) c a q) + 0))), (5, .int (iI ((σ 7 i (4 * (c + 1) + a)) - (σ 7 i (4 * c + a))))), (4, .int (iI (a : Int))), (0, .ref (A 0)), (1, .int (iI (i : Int))), (2, .int (iI ((c + 1 : Nat) : Int)))]) F.1 F.2.1 dX3_faultsOf_89 hl (k := 1) rfl (iI_add _ _) (by decide) rfl (fun ls hl => ?_)
              refine lv_goto (tgt := 62) F.1 F.2.1 dX3_faultsOf_92 (by decide) ?_
              have e_14 : ((((a + 1 + q : Nat) : Int) + 1) : Int) = ((a + 1 + (q + 1) : Nat) : Int) := rfl
              have e_15 : ((((fou (σ 7 i) c a + 1) + fin (σ 7 i) c a q) + 0) : Int) = ((fou (σ 7 i) c a + 1) + fin (σ 7 i) c a (q + 1)) := by rw [fin_s]; first | (rw [if_pos (by assumption)] <;> omega) | (rw [if_neg (by assumption)] <;> omega)
              exact ih _ (lv_to (lv_to (lv_sub hl [0, 1, 2, 3, 4, 5, 6] rfl) (congrArg (fun x9 : Int => ([(6, .int (iI x9)), (3, .int (iI (((fou (σ 7 i) c a + 1) + fin (σ 7 i) c a q) + 0))), (5, .int (iI ((σ 7 i (4 * (c + 1) + a)) - (σ 7 i (4 * c + a))))), (4, .int (iI (a : Int))), (0, .ref (A 0)), (1, .int (iI (i : Int))), (2, .int (iI ((c + 1 : Nat) : Int)))] : List (Nat × Value))) e_14)) (congrArg (fun x9 : Int => ([(6, .int (iI ((a + 1 + (q + 1) : Nat) : Int))), (3, .int (iI x9)), (5, .int (iI ((σ 7 i (4 * (c + 1) + a)) - (σ 7 i (4 * c + a))))), (4, .int (iI (a : Int))), (0, .ref (A 0)), (1, .int (iI (i : Int))), (2, .int (iI ((c + 1 : Nat) : Int)))] : List (Nat × Value))) e_15))
            · skip
              refine k_iconst F dX3_faultsOf_82 ?_
              refine lv_goto (tgt := 87) F.1 F.2.1 dX3_faultsOf_83 (by decide) ?_
              refine k_iadd F rfl dX3_faultsOf_87 ?_
              refine lv_istore_n (lv' := [(3, .int (iI (((fou (σ 7 i) c a + 1) + fin (σ 7 i) c a q) + 3))), (6, .int (iI ((a + 1 + q : Nat) : Int))), (5, .int (iI ((σ 7 i (4 * (c + 1) + a)) - (σ 7 i (4 * c + a))))), (4, .int (iI (a : Int))), (0, .ref (A 0)), (1, .int (iI (i : Int))), (2, .int (iI ((c + 1 : Nat) : Int)))]) F.1 F.2.1 dX3_faultsOf_88 rfl hl (by decide) rfl (fun ls hl => ?_)
              refine lv_iinc (v := iI (((a + 1 + q : Nat) : Int) + 1)) (lv' := [(6, .int (iI (((a + 1 + q : Nat) : Int) + 1))), (3, .int (iI (((fou (σ 7 i) c a + 1) + fin (σ 7 i) c a q) + 3))), (5, .int (iI ((σ 7 i (4 * (c + 1) + a)) - (σ 7 i (4 * c + a))))), (4, .int (iI (a : Int))), (0, .ref (A 0)), (1, .int (iI (i : Int))), (2, .int (iI ((c + 1 : Nat) : Int)))]) F.1 F.2.1 dX3_faultsOf_89 hl (k := 1) rfl (iI_add _ _) (by decide) rfl (fun ls hl => ?_)
              refine lv_goto (tgt := 62) F.1 F.2.1 dX3_faultsOf_92 (by decide) ?_
              have e_16 : ((((a + 1 + q : Nat) : Int) + 1) : Int) = ((a + 1 + (q + 1) : Nat) : Int) := rfl
              have e_17 : ((((fou (σ 7 i) c a + 1) + fin (σ 7 i) c a q) + 3) : Int) = ((fou (σ 7 i) c a + 1) + fin (σ 7 i) c a (q + 1)) := by rw [fin_s]; first | (rw [if_pos (by assumption)] <;> omega) | (rw [if_neg (by assumption)] <;> omega)
              exact ih _ (lv_to (lv_to (lv_sub hl [0, 1, 2, 3, 4, 5, 6] rfl) (congrArg (fun x9 : Int => ([(6, .int (iI x9)), (3, .int (iI (((fou (σ 7 i) c a + 1) + fin (σ 7 i) c a q) + 3))), (5, .int (iI ((σ 7 i (4 * (c + 1) + a)) - (σ 7 i (4 * c + a))))), (4, .int (iI (a : Int))), (0, .ref (A 0)), (1, .int (iI (i : Int))), (2, .int (iI ((c + 1 : Nat) : Int)))] : List (Nat × Value))) e_16)) (congrArg (fun x9 : Int => ([(6, .int (iI ((a + 1 + (q + 1) : Nat) : Int))), (3, .int (iI x9)), (5, .int (iI ((σ 7 i (4 * (c + 1) + a)) - (σ 7 i (4 * c + a))))), (4, .int (iI (a : Int))), (0, .ref (A 0)), (1, .int (iI (i : Int))), (2, .int (iI ((c + 1 : Nat) : Int)))] : List (Nat × Value))) e_17))
        have e_18 : (((a : Int) + 1) : Int) = ((a + 1 + 0 : Nat) : Int) := rfl
        have e_19 : ((fou (σ 7 i) c a + 1) : Int) = ((fou (σ 7 i) c a + 1) + fin (σ 7 i) c a 0) := by simp [fin]
        exact J_7 0 (by omega) _ (lv_to (lv_to (lv_sub hl [0, 1, 2, 3, 4, 5, 6] rfl) (congrArg (fun x9 : Int => ([(6, .int (iI x9)), (3, .int (iI (fou (σ 7 i) c a + 1))), (5, .int (iI ((σ 7 i (4 * (c + 1) + a)) - (σ 7 i (4 * c + a))))), (4, .int (iI (a : Int))), (0, .ref (A 0)), (1, .int (iI (i : Int))), (2, .int (iI ((c + 1 : Nat) : Int)))] : List (Nat × Value))) e_18)) (congrArg (fun x9 : Int => ([(6, .int (iI ((a + 1 + 0 : Nat) : Int))), (3, .int (iI x9)), (5, .int (iI ((σ 7 i (4 * (c + 1) + a)) - (σ 7 i (4 * c + a))))), (4, .int (iI (a : Int))), (0, .ref (A 0)), (1, .int (iI (i : Int))), (2, .int (iI ((c + 1 : Nat) : Int)))] : List (Nat × Value))) e_19))
      · skip
        refine k_iconst F dX3_faultsOf_49 ?_
        refine lv_goto (tgt := 54) F.1 F.2.1 dX3_faultsOf_50 (by decide) ?_
        refine k_iadd F rfl dX3_faultsOf_54 ?_
        refine lv_istore_n (lv' := [(3, .int (iI (fou (σ 7 i) c a + 0))), (5, .int (iI ((σ 7 i (4 * (c + 1) + a)) - (σ 7 i (4 * c + a))))), (4, .int (iI (a : Int))), (0, .ref (A 0)), (1, .int (iI (i : Int))), (2, .int (iI ((c + 1 : Nat) : Int)))]) F.1 F.2.1 dX3_faultsOf_55 rfl hl (by decide) rfl (fun ls hl => ?_)
        refine lv_iload F.1 F.2.1 dX3_faultsOf_56 (lv_at hl 2 rfl) ?_
        refine k_iconst F dX3_faultsOf_58 ?_
        refine k_iadd F rfl dX3_faultsOf_59 ?_
        refine lv_istore (lv' := [(6, .int (iI ((a : Int) + 1))), (3, .int (iI (fou (σ 7 i) c a + 0))), (5, .int (iI ((σ 7 i (4 * (c + 1) + a)) - (σ 7 i (4 * c + a))))), (4, .int (iI (a : Int))), (0, .ref (A 0)), (1, .int (iI (i : Int))), (2, .int (iI ((c + 1 : Nat) : Int)))]) F.1 F.2.1 dX3_faultsOf_60 hl (by decide) rfl (fun ls hl => ?_)
        have J_20 : ∀ q : Nat, q ≤ (3 - a) → ∀ ls : Array Slot, lv_has ls 7 [(6, .int (iI ((a + 1 + q : Nat) : Int))), (3, .int (iI ((fou (σ 7 i) c a + 0) + fin (σ 7 i) c a q))), (5, .int (iI ((σ 7 i (4 * (c + 1) + a)) - (σ 7 i (4 * c + a))))), (4, .int (iI (a : Int))), (0, .ref (A 0)), (1, .int (iI (i : Int))), (2, .int (iI ((c + 1 : Nat) : Int)))] → W pP l eE ({ frames := 2, cells := 0, slots := 0, locals := 50 }) sS mM args bB meth cC sS.heap [] 0 0 (MQ bB (oI (mvf (σ 7 i) (c + 1))) args sS 0 0 (fun _ => False)) (F0 mM 62 ls []) := by
          refine lp_up ((3 - a)) ?_ ?_
          · intro ls hl
            refine lv_iload F.1 F.2.1 dX3_faultsOf_62 (lv_at hl 0 rfl) ?_
            refine k_iconst F dX3_faultsOf_64 ?_
            refine k_icmp_ge F (tgt := 95) dX3_faultsOf_65 (by decide) (by omega) (by decide) (fun c_22 => ?_) (fun c_22 => absurd c_22 (by omega))
            refine lv_iinc (v := iI ((a : Int) + 1)) (lv' := [(4, .int (iI ((a : Int) + 1))), (6, .int (iI ((a + 1 + (3 - a) : Nat) : Int))), (3, .int (iI ((fou (σ 7 i) c a + 0) + fin (σ 7 i) c a (3 - a)))), (5, .int (iI ((σ 7 i (4 * (c + 1) + a)) - (σ 7 i (4 * c + a))))), (0, .ref (A 0)), (1, .int (iI (i : Int))), (2, .int (iI ((c + 1 : Nat) : Int)))]) F.1 F.2.1 dX3_faultsOf_95 hl (k := 3) rfl (iI_add _ _) (by decide) rfl (fun ls hl => ?_)
            refine lv_goto (tgt := 5) F.1 F.2.1 dX3_faultsOf_98 (by decide) ?_
            have e_23 : (((fou (σ 7 i) c a + 0) + fin (σ 7 i) c a (3 - a)) : Int) = fou (σ 7 i) c (a + 1) := by rw [fou_s, lpf]; first | (rw [if_pos (by assumption)] <;> omega) | (rw [if_neg (by assumption)] <;> omega)
            have e_24 : (((a : Int) + 1) : Int) = ((a + 1 : Nat) : Int) := rfl
            exact ih _ (lv_to (lv_to (lv_sub hl [2, 0, 4, 5, 6] rfl) (congrArg (fun x9 : Int => ([(3, .int (iI x9)), (4, .int (iI ((a : Int) + 1))), (0, .ref (A 0)), (1, .int (iI (i : Int))), (2, .int (iI ((c + 1 : Nat) : Int)))] : List (Nat × Value))) e_23)) (congrArg (fun x9 : Int => ([(3, .int (iI (fou (σ 7 i) c (a + 1)))), (4, .int (iI x9)), (0, .ref (A 0)), (1, .int (iI (i : Int))), (2, .int (iI ((c + 1 : Nat) : Int)))] : List (Nat × Value))) e_24))
          · intro q hk9 ih ls hl
            refine lv_iload F.1 F.2.1 dX3_faultsOf_62 (lv_at hl 0 rfl) ?_
            refine k_iconst F dX3_faultsOf_64 ?_
            refine k_icmp_ge F (tgt := 95) dX3_faultsOf_65 (by decide) (by omega) (by decide) (fun c_25 => absurd c_25 (by omega)) (fun c_25 => ?_)
            refine lv_iload_n F.1 F.2.1 dX3_faultsOf_68 rfl (lv_at hl 1 rfl) ?_
            refine lv_aload_n F.1 F.2.1 dX3_faultsOf_69 rfl (lv_at hl 4 rfl) ?_
            refine lv_iload_n F.1 F.2.1 dX3_faultsOf_70 rfl (lv_at hl 5 rfl) ?_
            refine lv_iload_n F.1 F.2.1 dX3_faultsOf_71 rfl (lv_at hl 6 rfl) ?_
            refine lv_iload F.1 F.2.1 dX3_faultsOf_72 (lv_at hl 3 rfl) ?_
            refine lv_iload F.1 F.2.1 dX3_faultsOf_74 (lv_at hl 0 rfl) ?_
            refine rd_V F (n := 4) (w0 := []) (mX3_isParallel l G A r0 σ i c a (a + 1 + q) (by omega) (by omega) (by omega) (by omega) hI) gX3_faultsOf_X3_isParallel rfl rfl rfl (by decide +kernel) ⟨Nat.le_of_ble_eq_true rfl, Nat.le_of_ble_eq_true rfl⟩ hK hP (ci := 3) (q0 := 0) rfl rfl rfl rfl hl.1 (Nat.le_of_ble_eq_true rfl) dX3_faultsOf_76 ⟨Nat.zero_le _, Nat.zero_le _⟩ ?_
            refine k_ifb_eq F (tgt := 86) dX3_faultsOf_79 (by decide) (fun c_26 => ?_) (fun c_26 => ?_)
            · skip
              refine k_iconst F dX3_faultsOf_86 ?_
              refine k_iadd F rfl dX3_faultsOf_87 ?_
              refine lv_istore_n (lv' := [(3, .int (iI (((fou (σ 7 i) c a + 0) + fin (σ 7 i) c a q) + 0))), (6, .int (iI ((a + 1 + q : Nat) : Int))), (5, .int (iI ((σ 7 i (4 * (c + 1) + a)) - (σ 7 i (4 * c + a))))), (4, .int (iI (a : Int))), (0, .ref (A 0)), (1, .int (iI (i : Int))), (2, .int (iI ((c + 1 : Nat) : Int)))]) F.1 F.2.1 dX3_faultsOf_88 rfl hl (by decide) rfl (fun ls hl => ?_)
              refine lv_iinc (v := iI (((a + 1 + q : Nat) : Int) + 1)) (lv' := [(6, .int (iI (((a + 1 + q : Nat) : Int) + 1))), (3, .int (iI (((fou (σ 7 i) c a + 0) + fin (σ 7 i) c a q) + 0))), (5, .int (iI ((σ 7 i (4 * (c + 1) + a)) - (σ 7 i (4 * c + a))))), (4, .int (iI (a : Int))), (0, .ref (A 0)), (1, .int (iI (i : Int))), (2, .int (iI ((c + 1 : Nat) : Int)))]) F.1 F.2.1 dX3_faultsOf_89 hl (k := 1) rfl (iI_add _ _) (by decide) rfl (fun ls hl => ?_)
              refine lv_goto (tgt := 62) F.1 F.2.1 dX3_faultsOf_92 (by decide) ?_
              have e_27 : ((((a + 1 + q : Nat) : Int) + 1) : Int) = ((a + 1 + (q + 1) : Nat) : Int) := rfl
              have e_28 : ((((fou (σ 7 i) c a + 0) + fin (σ 7 i) c a q) + 0) : Int) = ((fou (σ 7 i) c a + 0) + fin (σ 7 i) c a (q + 1)) := by rw [fin_s]; first | (rw [if_pos (by assumption)] <;> omega) | (rw [if_neg (by assumption)] <;> omega)
              exact ih _ (lv_to (lv_to (lv_sub hl [0, 1, 2, 3, 4, 5, 6] rfl) (congrArg (fun x9 : Int => ([(6, .int (iI x9)), (3, .int (iI (((fou (σ 7 i) c a + 0) + fin (σ 7 i) c a q) + 0))), (5, .int (iI ((σ 7 i (4 * (c + 1) + a)) - (σ 7 i (4 * c + a))))), (4, .int (iI (a : Int))), (0, .ref (A 0)), (1, .int (iI (i : Int))), (2, .int (iI ((c + 1 : Nat) : Int)))] : List (Nat × Value))) e_27)) (congrArg (fun x9 : Int => ([(6, .int (iI ((a + 1 + (q + 1) : Nat) : Int))), (3, .int (iI x9)), (5, .int (iI ((σ 7 i (4 * (c + 1) + a)) - (σ 7 i (4 * c + a))))), (4, .int (iI (a : Int))), (0, .ref (A 0)), (1, .int (iI (i : Int))), (2, .int (iI ((c + 1 : Nat) : Int)))] : List (Nat × Value))) e_28))
            · skip
              refine k_iconst F dX3_faultsOf_82 ?_
              refine lv_goto (tgt := 87) F.1 F.2.1 dX3_faultsOf_83 (by decide) ?_
              refine k_iadd F rfl dX3_faultsOf_87 ?_
              refine lv_istore_n (lv' := [(3, .int (iI (((fou (σ 7 i) c a + 0) + fin (σ 7 i) c a q) + 3))), (6, .int (iI ((a + 1 + q : Nat) : Int))), (5, .int (iI ((σ 7 i (4 * (c + 1) + a)) - (σ 7 i (4 * c + a))))), (4, .int (iI (a : Int))), (0, .ref (A 0)), (1, .int (iI (i : Int))), (2, .int (iI ((c + 1 : Nat) : Int)))]) F.1 F.2.1 dX3_faultsOf_88 rfl hl (by decide) rfl (fun ls hl => ?_)
              refine lv_iinc (v := iI (((a + 1 + q : Nat) : Int) + 1)) (lv' := [(6, .int (iI (((a + 1 + q : Nat) : Int) + 1))), (3, .int (iI (((fou (σ 7 i) c a + 0) + fin (σ 7 i) c a q) + 3))), (5, .int (iI ((σ 7 i (4 * (c + 1) + a)) - (σ 7 i (4 * c + a))))), (4, .int (iI (a : Int))), (0, .ref (A 0)), (1, .int (iI (i : Int))), (2, .int (iI ((c + 1 : Nat) : Int)))]) F.1 F.2.1 dX3_faultsOf_89 hl (k := 1) rfl (iI_add _ _) (by decide) rfl (fun ls hl => ?_)
              refine lv_goto (tgt := 62) F.1 F.2.1 dX3_faultsOf_92 (by decide) ?_
              have e_29 : ((((a + 1 + q : Nat) : Int) + 1) : Int) = ((a + 1 + (q + 1) : Nat) : Int) := rfl
              have e_30 : ((((fou (σ 7 i) c a + 0) + fin (σ 7 i) c a q) + 3) : Int) = ((fou (σ 7 i) c a + 0) + fin (σ 7 i) c a (q + 1)) := by rw [fin_s]; first | (rw [if_pos (by assumption)] <;> omega) | (rw [if_neg (by assumption)] <;> omega)
              exact ih _ (lv_to (lv_to (lv_sub hl [0, 1, 2, 3, 4, 5, 6] rfl) (congrArg (fun x9 : Int => ([(6, .int (iI x9)), (3, .int (iI (((fou (σ 7 i) c a + 0) + fin (σ 7 i) c a q) + 3))), (5, .int (iI ((σ 7 i (4 * (c + 1) + a)) - (σ 7 i (4 * c + a))))), (4, .int (iI (a : Int))), (0, .ref (A 0)), (1, .int (iI (i : Int))), (2, .int (iI ((c + 1 : Nat) : Int)))] : List (Nat × Value))) e_29)) (congrArg (fun x9 : Int => ([(6, .int (iI ((a + 1 + (q + 1) : Nat) : Int))), (3, .int (iI x9)), (5, .int (iI ((σ 7 i (4 * (c + 1) + a)) - (σ 7 i (4 * c + a))))), (4, .int (iI (a : Int))), (0, .ref (A 0)), (1, .int (iI (i : Int))), (2, .int (iI ((c + 1 : Nat) : Int)))] : List (Nat × Value))) e_30))
        have e_31 : (((a : Int) + 1) : Int) = ((a + 1 + 0 : Nat) : Int) := rfl
        have e_32 : ((fou (σ 7 i) c a + 0) : Int) = ((fou (σ 7 i) c a + 0) + fin (σ 7 i) c a 0) := by simp [fin]
        exact J_20 0 (by omega) _ (lv_to (lv_to (lv_sub hl [0, 1, 2, 3, 4, 5, 6] rfl) (congrArg (fun x9 : Int => ([(6, .int (iI x9)), (3, .int (iI (fou (σ 7 i) c a + 0))), (5, .int (iI ((σ 7 i (4 * (c + 1) + a)) - (σ 7 i (4 * c + a))))), (4, .int (iI (a : Int))), (0, .ref (A 0)), (1, .int (iI (i : Int))), (2, .int (iI ((c + 1 : Nat) : Int)))] : List (Nat × Value))) e_31)) (congrArg (fun x9 : Int => ([(6, .int (iI ((a + 1 + 0 : Nat) : Int))), (3, .int (iI x9)), (5, .int (iI ((σ 7 i (4 * (c + 1) + a)) - (σ 7 i (4 * c + a))))), (4, .int (iI (a : Int))), (0, .ref (A 0)), (1, .int (iI (i : Int))), (2, .int (iI ((c + 1 : Nat) : Int)))] : List (Nat × Value))) e_32))
  have e_33 : (0 : Int) = fou (σ 7 i) c 0 := rfl
  have e_34 : (0 : Int) = ((0 : Nat) : Int) := rfl
  exact J_1 0 (by omega) _ (lv_to (lv_to (lv_sub hl [1, 0, 2, 3, 4] rfl) (congrArg (fun x9 : Int => ([(3, .int (iI x9)), (4, .int (iI 0)), (0, .ref (A 0)), (1, .int (iI (i : Int))), (2, .int (iI ((c + 1 : Nat) : Int)))] : List (Nat × Value))) e_33)) (congrArg (fun x9 : Int => ([(3, .int (iI (fou (σ 7 i) c 0))), (4, .int (iI x9)), (0, .ref (A 0)), (1, .int (iI (i : Int))), (2, .int (iI ((c + 1 : Nat) : Int)))] : List (Nat × Value))) e_34))

set_option maxHeartbeats 4000000 in
set_option maxRecDepth 100000 in
theorem mX3_faultsOf_0 (l : Launch) (G : gT) (A : Nat → Nat) (r0 : Int) (σ : Sg) (i : Nat) (hi : i ≤ 6) {n k N : Nat} (hI : Iv σ n k N) : Met l yX3_faultsOf wsX3_faultsOf { frames := 2, cells := 0, slots := 0, locals := 50 } (va_Pc [.ref (A 0), .int (iI (i : Int)), .int (iI ((0 : Nat) : Int))] (rB G (MW G A r0 σ))) (oI (mvf (σ 7 i) 0)) 0 0 (fun _ => False) := by
  refine rd_start (own := RX3) (cc := cX3_faultsOf) (mL := 7) (ret := (some .int)) (by decide) rfl rfl (Nat.le_of_ble_eq_true rfl) ?_
  intro pP eE sS mM args bB meth cC ls F hr hlocks hP hK hl
  have hl : lv_has ls 7 [(0, .ref (A 0)), (1, .int (iI (i : Int))), (2, .int (iI ((0 : Nat) : Int)))] := hl
  refine k_iconst F dX3_faultsOf_0 ?_
  refine lv_istore_n (lv' := [(3, .int (iI 0)), (0, .ref (A 0)), (1, .int (iI (i : Int))), (2, .int (iI ((0 : Nat) : Int)))]) F.1 F.2.1 dX3_faultsOf_1 rfl hl (by decide) rfl (fun ls hl => ?_)
  refine k_iconst F dX3_faultsOf_2 ?_
  refine lv_istore (lv' := [(4, .int (iI 0)), (3, .int (iI 0)), (0, .ref (A 0)), (1, .int (iI (i : Int))), (2, .int (iI ((0 : Nat) : Int)))]) F.1 F.2.1 dX3_faultsOf_3 hl (by decide) rfl (fun ls hl => ?_)
  refine lv_iload F.1 F.2.1 dX3_faultsOf_5 (lv_at hl 0 rfl) ?_
  refine k_iconst F dX3_faultsOf_7 ?_
  refine k_icmp_ge F (tgt := 101) dX3_faultsOf_8 (by decide) (by decide) (by decide) (fun c_1 => absurd c_1 (by omega)) (fun c_1 => ?_)
  refine lv_iload_n F.1 F.2.1 dX3_faultsOf_11 rfl (lv_at hl 4 rfl) ?_
  refine k_if_le F (tgt := 101) dX3_faultsOf_12 (by decide) (by omega) (fun c_2 => ?_) (fun c_2 => absurd c_2 (by omega))
  refine lv_iload_n F.1 F.2.1 dX3_faultsOf_101 rfl (lv_at hl 1 rfl) ?_
  exact k_ret F hr hlocks rfl dX3_faultsOf_102

theorem mX3_faultsOf (l : Launch) (G : gT) (A : Nat → Nat) (r0 : Int) (σ : Sg) (i c : Nat) (hi : i ≤ 6) (hc : c < 16) {n k N : Nat} (hI : Iv σ n k N) : Met l yX3_faultsOf wsX3_faultsOf { frames := 2, cells := 0, slots := 0, locals := 50 } (va_Pc [.ref (A 0), .int (iI (i : Int)), .int (iI (c : Int))] (rB G (MW G A r0 σ))) (oI (mvf (σ 7 i) c)) 0 0 (fun _ => False) := by
  cases c with
  | zero => exact mX3_faultsOf_0 l G A r0 σ i hi hI
  | succ c => exact mX3_faultsOf_s l G A r0 σ i c hi hc hI

set_option maxHeartbeats 4000000 in
set_option maxRecDepth 100000 in
theorem mX3_allFaults (l : Launch) (G : gT) (A : Nat → Nat) (r0 : Int) (σ : Sg) (i : Nat) (hi : i ≤ 6) {n k N : Nat} (hI : Iv σ n k N) : Met l yX3_allFaults wsX3_allFaults { frames := 3, cells := 0, slots := 0, locals := 76 } (va_Pc [.ref (A 0), .int (iI (i : Int))] (rB G (MW G A r0 σ))) (oI (alf (σ 7 i) (σ 8 i 0))) 0 0 (fun _ => False) := by
  refine rd_start (own := RX3) (cc := cX3_allFaults) (mL := 4) (ret := (some .int)) (by decide) rfl rfl (Nat.le_of_ble_eq_true rfl) ?_
  intro pP eE sS mM args bB meth cC ls F hr hlocks hP hK hl
  obtain ⟨hn, hn12, hk, hk6, hsg, haw, hch, hch1, hch0, htn, hto, htz, hpr, hN, hpz, hle, hlz⟩ := id hI
  have hci := hch i
  have iX3 : ∀ x ∈ wsX30, x ∈ wsX3_allFaults := by decide +kernel
  have f25 := k_cond F (w := .fieldLink RX3 25 "ChoirPlannerModel" "chords" "[I") (by decide +kernel)
  have hl : lv_has ls 4 [(0, .ref (A 0)), (1, .int (iI (i : Int)))] := hl
  refine k_iconst F dX3_allFaults_0 ?_
  refine lv_istore_n (lv' := [(2, .int (iI 0)), (0, .ref (A 0)), (1, .int (iI (i : Int)))]) F.1 F.2.1 dX3_allFaults_1 rfl hl (by decide) rfl (fun ls hl => ?_)
  refine k_iconst F dX3_allFaults_2 ?_
  refine lv_istore_n (lv' := [(3, .int (iI 1)), (2, .int (iI 0)), (0, .ref (A 0)), (1, .int (iI (i : Int)))]) F.1 F.2.1 dX3_allFaults_3 rfl hl (by decide) rfl (fun ls hl => ?_)
  have J_1 : ∀ c : Nat, c ≤ ((σ 8 i 0).toNat - 1) → ∀ ls : Array Slot, lv_has ls 4 [(2, .int (iI (afs (σ 7 i) c))), (3, .int (iI ((c + 1 : Nat) : Int))), (0, .ref (A 0)), (1, .int (iI (i : Int)))] → W pP l eE ({ frames := 3, cells := 0, slots := 0, locals := 76 }) sS mM args bB meth cC sS.heap [] 0 0 (MQ bB (oI (alf (σ 7 i) (σ 8 i 0))) args sS 0 0 (fun _ => False)) (F0 mM 4 ls []) := by
    refine lp_up (((σ 8 i 0).toNat - 1)) ?_ ?_
    · intro ls hl
      refine lv_iload_n F.1 F.2.1 dX3_allFaults_4 rfl (lv_at hl 1 rfl) ?_
      refine lv_aload_n F.1 F.2.1 dX3_allFaults_5 rfl (lv_at hl 2 rfl) ?_
      refine k_get F hK hP iX3 0 rfl rfl 8 (by decide) f25 rfl rfl dX3_allFaults_6 ?_
      refine lv_iload_n F.1 F.2.1 dX3_allFaults_9 rfl (lv_at hl 3 rfl) ?_
      refine k_iald F hK hP 6 rfl i (by omega) (by omega) (by decide) rfl dX3_allFaults_10 ?_
      refine k_icmp_ge F (tgt := 29) dX3_allFaults_11 (by decide) (by omega) (by omega) (fun c_3 => ?_) (fun c_3 => absurd c_3 (by omega))
      refine lv_iload_n F.1 F.2.1 dX3_allFaults_29 rfl (lv_at hl 0 rfl) ?_
      exact k_ret F hr hlocks rfl dX3_allFaults_30
    · intro c hk9 ih ls hl
      refine lv_iload_n F.1 F.2.1 dX3_allFaults_4 rfl (lv_at hl 1 rfl) ?_
      refine lv_aload_n F.1 F.2.1 dX3_allFaults_5 rfl (lv_at hl 2 rfl) ?_
      refine k_get F hK hP iX3 0 rfl rfl 8 (by decide) f25 rfl rfl dX3_allFaults_6 ?_
      refine lv_iload_n F.1 F.2.1 dX3_allFaults_9 rfl (lv_at hl 3 rfl) ?_
      refine k_iald F hK hP 6 rfl i (by omega) (by omega) (by decide) rfl dX3_allFaults_10 ?_
      refine k_icmp_ge F (tgt := 29) dX3_allFaults_11 (by decide) (by omega) (by omega) (fun c_4 => absurd c_4 (by omega)) (fun c_4 => ?_)
      refine lv_iload_n F.1 F.2.1 dX3_allFaults_14 rfl (lv_at hl 0 rfl) ?_
      refine lv_aload_n F.1 F.2.1 dX3_allFaults_15 rfl (lv_at hl 2 rfl) ?_
      refine lv_iload_n F.1 F.2.1 dX3_allFaults_16 rfl (lv_at hl 3 rfl) ?_
      refine lv_iload_n F.1 F.2.1 dX3_allFaults_17 rfl (lv_at hl 1 rfl) ?_
      refine rd_V F (n := 2) (w0 := []) (mX3_faultsOf l G A r0 σ i (c + 1) (by omega) (by omega) hI) gX3_allFaults_X3_faultsOf rfl rfl rfl (by decide +kernel) ⟨Nat.le_of_ble_eq_true rfl, Nat.le_of_ble_eq_true rfl⟩ hK hP (ci := 3) (q0 := 0) rfl rfl rfl rfl hl.1 (Nat.le_of_ble_eq_true rfl) dX3_allFaults_18 ⟨Nat.zero_le _, Nat.zero_le _⟩ ?_
      refine k_iadd F rfl dX3_allFaults_21 ?_
      refine lv_istore_n (lv' := [(2, .int (iI (afs (σ 7 i) c + (mvf (σ 7 i) (c + 1))))), (3, .int (iI ((c + 1 : Nat) : Int))), (0, .ref (A 0)), (1, .int (iI (i : Int)))]) F.1 F.2.1 dX3_allFaults_22 rfl hl (by decide) rfl (fun ls hl => ?_)
      refine lv_iinc (v := iI (((c + 1 : Nat) : Int) + 1)) (lv' := [(3, .int (iI (((c + 1 : Nat) : Int) + 1))), (2, .int (iI (afs (σ 7 i) c + (mvf (σ 7 i) (c + 1))))), (0, .ref (A 0)), (1, .int (iI (i : Int)))]) F.1 F.2.1 dX3_allFaults_23 hl (k := 1) rfl (iI_add _ _) (by decide) rfl (fun ls hl => ?_)
      refine lv_goto (tgt := 4) F.1 F.2.1 dX3_allFaults_26 (by decide) ?_
      have e_5 : ((afs (σ 7 i) c + (mvf (σ 7 i) (c + 1))) : Int) = afs (σ 7 i) (c + 1) := (afs_s _ _).symm
      have e_6 : ((((c + 1 : Nat) : Int) + 1) : Int) = ((c + 1 + 1 : Nat) : Int) := rfl
      exact ih _ (lv_to (lv_to (lv_sub hl [1, 0, 2, 3] rfl) (congrArg (fun x9 : Int => ([(2, .int (iI x9)), (3, .int (iI (((c + 1 : Nat) : Int) + 1))), (0, .ref (A 0)), (1, .int (iI (i : Int)))] : List (Nat × Value))) e_5)) (congrArg (fun x9 : Int => ([(2, .int (iI (afs (σ 7 i) (c + 1)))), (3, .int (iI x9)), (0, .ref (A 0)), (1, .int (iI (i : Int)))] : List (Nat × Value))) e_6))
  have e_7 : (0 : Int) = afs (σ 7 i) 0 := rfl
  have e_8 : (1 : Int) = ((0 + 1 : Nat) : Int) := rfl
  exact J_1 0 (by omega) _ (lv_to (lv_to (lv_sub hl [1, 0, 2, 3] rfl) (congrArg (fun x9 : Int => ([(2, .int (iI x9)), (3, .int (iI 1)), (0, .ref (A 0)), (1, .int (iI (i : Int)))] : List (Nat × Value))) e_7)) (congrArg (fun x9 : Int => ([(2, .int (iI (afs (σ 7 i) 0))), (3, .int (iI x9)), (0, .ref (A 0)), (1, .int (iI (i : Int)))] : List (Nat × Value))) e_8))
