set_option maxHeartbeats 4000000 in
set_option maxRecDepth 100000 in
theorem mX0_isEmpty (l : Launch) (G : gT) (a : Nat → Nat) (tn pr mf : Nat → Int) (sz sc : Int) (hz : 0 ≤ sz ∧ sz ≤ 16) : Met l yX0_isEmpty wsX0_isEmpty { frames := 0, cells := 0, slots := 0, locals := 0 } (va_Pc [.ref (a 0)] (rB G (PW G a tn pr mf sz sc))) (oI (bI (sz = 0))) 0 0 (fun _ => False) := by
  refine rd_start (own := RX0) (cc := cX0_isEmpty) (mL := 1) (ret := (some .boolean)) (by decide) rfl rfl (Nat.le_of_ble_eq_true rfl) ?_
  intro pP eE sS mM args bB meth cC ls F hr hlocks hP hK hl
  have iX0 : ∀ x ∈ wsX00, x ∈ wsX0_isEmpty := by decide +kernel
  have f21 := k_cond F (w := .fieldLink RX0 21 "ChoirPlanner$Piece" "size" "I") (by decide +kernel)
  have hl : lv_has ls 1 [(0, .ref (a 0))] := hl
  refine lv_aload_n F.1 F.2.1 dX0_isEmpty_0 rfl (lv_at hl 0 rfl) ?_
  refine k_get F hK hP iX0 0 rfl rfl 3 (by decide) f21 rfl rfl dX0_isEmpty_1 ?_
  refine k_if_ne F (tgt := 11) dX0_isEmpty_4 (by decide) (by omega) (fun c_1 => ?_) (fun c_1 => ?_)
  · skip
    refine k_iconst F dX0_isEmpty_11 ?_
    exact k_zret F hr hlocks (bI_f (by omega)).symm (Or.inl rfl) dX0_isEmpty_12
  · skip
    refine k_iconst F dX0_isEmpty_7 ?_
    refine lv_goto (tgt := 12) F.1 F.2.1 dX0_isEmpty_8 (by decide) ?_
    exact k_zret F hr hlocks (bI_t (by omega)).symm (Or.inr rfl) dX0_isEmpty_12

set_option maxHeartbeats 4000000 in
set_option maxRecDepth 100000 in
theorem mX0_isFull (l : Launch) (G : gT) (a : Nat → Nat) (tn pr mf : Nat → Int) (sz sc : Int) (hz : 0 ≤ sz ∧ sz ≤ 16) : Met l yX0_isFull wsX0_isFull { frames := 0, cells := 0, slots := 0, locals := 0 } (va_Pc [.ref (a 0)] (rB G (PW G a tn pr mf sz sc))) (oI (bI (16 ≤ sz))) 0 0 (fun _ => False) := by
  refine rd_start (own := RX0) (cc := cX0_isFull) (mL := 1) (ret := (some .boolean)) (by decide) rfl rfl (Nat.le_of_ble_eq_true rfl) ?_
  intro pP eE sS mM args bB meth cC ls F hr hlocks hP hK hl
  have iX0 : ∀ x ∈ wsX00, x ∈ wsX0_isFull := by decide +kernel
  have f21 := k_cond F (w := .fieldLink RX0 21 "ChoirPlanner$Piece" "size" "I") (by decide +kernel)
  have hl : lv_has ls 1 [(0, .ref (a 0))] := hl
  refine lv_aload_n F.1 F.2.1 dX0_isFull_0 rfl (lv_at hl 0 rfl) ?_
  refine k_get F hK hP iX0 0 rfl rfl 3 (by decide) f21 rfl rfl dX0_isFull_1 ?_
  refine k_bipush F dX0_isFull_4 (by decide +kernel) ?_
  refine k_icmp_lt F (tgt := 13) dX0_isFull_6 (by decide) (by omega) (by decide) (fun c_1 => ?_) (fun c_1 => ?_)
  · skip
    refine k_iconst F dX0_isFull_13 ?_
    exact k_zret F hr hlocks (bI_f (by omega)).symm (Or.inl rfl) dX0_isFull_14
  · skip
    refine k_iconst F dX0_isFull_9 ?_
    refine lv_goto (tgt := 14) F.1 F.2.1 dX0_isFull_10 (by decide) ?_
    exact k_zret F hr hlocks (bI_t (by omega)).symm (Or.inr rfl) dX0_isFull_14

set_option maxHeartbeats 4000000 in
set_option maxRecDepth 100000 in
theorem mX0_has (l : Launch) (G : gT) (a : Nat → Nat) (tn pr mf : Nat → Int) (sz sc : Int) (x : Int) (hz : 0 ≤ sz ∧ sz ≤ 16) (hx : -2147483648 ≤ x ∧ x < 2147483648) : Met l yX0_has wsX0_has { frames := 0, cells := 0, slots := 0, locals := 0 } (va_Pc [.ref (a 0), .int (iI x)] (rB G (PW G a tn pr mf sz sc))) (oI (bI (0 ≤ x ∧ x < sz))) 0 0 (fun _ => False) := by
  refine rd_start (own := RX0) (cc := cX0_has) (mL := 2) (ret := (some .boolean)) (by decide) rfl rfl (Nat.le_of_ble_eq_true rfl) ?_
  intro pP eE sS mM args bB meth cC ls F hr hlocks hP hK hl
  have iX0 : ∀ x ∈ wsX00, x ∈ wsX0_has := by decide +kernel
  have f21 := k_cond F (w := .fieldLink RX0 21 "ChoirPlanner$Piece" "size" "I") (by decide +kernel)
  have hl : lv_has ls 2 [(0, .ref (a 0)), (1, .int (iI x))] := hl
  refine lv_iload_n F.1 F.2.1 dX0_has_0 rfl (lv_at hl 1 rfl) ?_
  refine k_if_lt F (tgt := 16) dX0_has_1 (by decide) (by omega) (fun c_1 => ?_) (fun c_1 => ?_)
  · skip
    refine k_iconst F dX0_has_16 ?_
    exact k_zret F hr hlocks (bI_f (by omega)).symm (Or.inl rfl) dX0_has_17
  · skip
    refine lv_iload_n F.1 F.2.1 dX0_has_4 rfl (lv_at hl 1 rfl) ?_
    refine lv_aload_n F.1 F.2.1 dX0_has_5 rfl (lv_at hl 0 rfl) ?_
    refine k_get F hK hP iX0 0 rfl rfl 3 (by decide) f21 rfl rfl dX0_has_6 ?_
    refine k_icmp_ge F (tgt := 16) dX0_has_9 (by decide) (by omega) (by omega) (fun c_2 => ?_) (fun c_2 => ?_)
    · skip
      refine k_iconst F dX0_has_16 ?_
      exact k_zret F hr hlocks (bI_f (by omega)).symm (Or.inl rfl) dX0_has_17
    · skip
      refine k_iconst F dX0_has_12 ?_
      refine lv_goto (tgt := 17) F.1 F.2.1 dX0_has_13 (by decide) ?_
      exact k_zret F hr hlocks (bI_t (by omega)).symm (Or.inr rfl) dX0_has_17

set_option maxHeartbeats 4000000 in
set_option maxRecDepth 100000 in
theorem mX0_isLast (l : Launch) (G : gT) (a : Nat → Nat) (tn pr mf : Nat → Int) (sz sc : Int) (x : Int) (hz : 0 ≤ sz ∧ sz ≤ 16) (hx : -2147483648 ≤ x ∧ x < 2147483648) : Met l yX0_isLast wsX0_isLast { frames := 0, cells := 0, slots := 0, locals := 0 } (va_Pc [.ref (a 0), .int (iI x)] (rB G (PW G a tn pr mf sz sc))) (oI (bI (x = sz - 1))) 0 0 (fun _ => False) := by
  refine rd_start (own := RX0) (cc := cX0_isLast) (mL := 2) (ret := (some .boolean)) (by decide) rfl rfl (Nat.le_of_ble_eq_true rfl) ?_
  intro pP eE sS mM args bB meth cC ls F hr hlocks hP hK hl
  have iX0 : ∀ x ∈ wsX00, x ∈ wsX0_isLast := by decide +kernel
  have f21 := k_cond F (w := .fieldLink RX0 21 "ChoirPlanner$Piece" "size" "I") (by decide +kernel)
  have hl : lv_has ls 2 [(0, .ref (a 0)), (1, .int (iI x))] := hl
  refine lv_iload_n F.1 F.2.1 dX0_isLast_0 rfl (lv_at hl 1 rfl) ?_
  refine lv_aload_n F.1 F.2.1 dX0_isLast_1 rfl (lv_at hl 0 rfl) ?_
  refine k_get F hK hP iX0 0 rfl rfl 3 (by decide) f21 rfl rfl dX0_isLast_2 ?_
  refine k_iconst F dX0_isLast_5 ?_
  refine k_isub F rfl dX0_isLast_6 ?_
  refine k_icmp_ne F (tgt := 14) dX0_isLast_7 (by decide) (by omega) (by omega) (fun c_1 => ?_) (fun c_1 => ?_)
  · skip
    refine k_iconst F dX0_isLast_14 ?_
    exact k_zret F hr hlocks (bI_f (by omega)).symm (Or.inl rfl) dX0_isLast_15
  · skip
    refine k_iconst F dX0_isLast_10 ?_
    refine lv_goto (tgt := 15) F.1 F.2.1 dX0_isLast_11 (by decide) ?_
    exact k_zret F hr hlocks (bI_t (by omega)).symm (Or.inr rfl) dX0_isLast_15

set_option maxHeartbeats 4000000 in
set_option maxRecDepth 100000 in
theorem mX0_length (l : Launch) (G : gT) (a : Nat → Nat) (tn pr mf : Nat → Int) (sz sc : Int)  : Met l yX0_length wsX0_length { frames := 0, cells := 0, slots := 0, locals := 0 } (va_Pc [.ref (a 0)] (rB G (PW G a tn pr mf sz sc))) (oI (sc)) 0 0 (fun _ => False) := by
  refine rd_start (own := RX0) (cc := cX0_length) (mL := 1) (ret := (some .int)) (by decide) rfl rfl (Nat.le_of_ble_eq_true rfl) ?_
  intro pP eE sS mM args bB meth cC ls F hr hlocks hP hK hl
  have iX0 : ∀ x ∈ wsX00, x ∈ wsX0_length := by decide +kernel
  have f25 := k_cond F (w := .fieldLink RX0 25 "ChoirPlanner$Piece" "seconds" "I") (by decide +kernel)
  have hl : lv_has ls 1 [(0, .ref (a 0))] := hl
  refine lv_aload_n F.1 F.2.1 dX0_length_0 rfl (lv_at hl 0 rfl) ?_
  refine k_get F hK hP iX0 0 rfl rfl 4 (by decide) f25 rfl rfl dX0_length_1 ?_
  exact k_ret F hr hlocks rfl dX0_length_4

set_option maxHeartbeats 4000000 in
set_option maxRecDepth 100000 in
theorem mX0_toneAt (l : Launch) (G : gT) (a : Nat → Nat) (tn pr mf : Nat → Int) (sz sc : Int) (c v : Nat) (hc : c < 16) (hv : v < 4) : Met l yX0_toneAt wsX0_toneAt { frames := 0, cells := 0, slots := 0, locals := 0 } (va_Pc [.ref (a 0), .int (iI (c : Int)), .int (iI (v : Int))] (rB G (PW G a tn pr mf sz sc))) (oI (tn (4 * c + v))) 0 0 (fun _ => False) := by
  refine rd_start (own := RX0) (cc := cX0_toneAt) (mL := 3) (ret := (some .int)) (by decide) rfl rfl (Nat.le_of_ble_eq_true rfl) ?_
  intro pP eE sS mM args bB meth cC ls F hr hlocks hP hK hl
  have iX0 : ∀ x ∈ wsX00, x ∈ wsX0_toneAt := by decide +kernel
  have f9 := k_cond F (w := .fieldLink RX0 9 "ChoirPlanner$Piece" "tones" "[I") (by decide +kernel)
  have hl : lv_has ls 3 [(0, .ref (a 0)), (1, .int (iI (c : Int))), (2, .int (iI (v : Int)))] := hl
  refine lv_aload_n F.1 F.2.1 dX0_toneAt_0 rfl (lv_at hl 0 rfl) ?_
  refine k_get F hK hP iX0 0 rfl rfl 0 (by decide) f9 rfl rfl dX0_toneAt_1 ?_
  refine k_iconst F dX0_toneAt_4 ?_
  refine lv_iload_n F.1 F.2.1 dX0_toneAt_5 rfl (lv_at hl 1 rfl) ?_
  refine k_imul F rfl dX0_toneAt_6 ?_
  refine lv_iload_n F.1 F.2.1 dX0_toneAt_7 rfl (lv_at hl 2 rfl) ?_
  refine k_iadd F rfl dX0_toneAt_8 ?_
  refine k_iald F hK hP 1 rfl (4 * c + v) (by omega) (by omega) (by decide) rfl dX0_toneAt_9 ?_
  exact k_ret F hr hlocks rfl dX0_toneAt_10

set_option maxHeartbeats 4000000 in
set_option maxRecDepth 100000 in
theorem mX0_ceiling (l : Launch) (G : gT) (a : Nat → Nat) (tn pr mf : Nat → Int) (sz sc : Int) (c v : Nat) (hc : c < 16) (hv : v < 4) : Met l yX0_ceiling wsX0_ceiling { frames := 1, cells := 0, slots := 0, locals := 22 } (va_Pc [.ref (a 0), .int (iI (c : Int)), .int (iI (v : Int))] (rB G (PW G a tn pr mf sz sc))) (oI (clg tn c v)) 0 0 (fun _ => False) := by
  refine rd_start (own := RX0) (cc := cX0_ceiling) (mL := 3) (ret := (some .int)) (by decide) rfl rfl (Nat.le_of_ble_eq_true rfl) ?_
  intro pP eE sS mM args bB meth cC ls F hr hlocks hP hK hl
  have hl : lv_has ls 3 [(0, .ref (a 0)), (1, .int (iI (c : Int))), (2, .int (iI (v : Int)))] := hl
  refine lv_iload_n F.1 F.2.1 dX0_ceiling_0 rfl (lv_at hl 2 rfl) ?_
  refine k_if_le F (tgt := 15) dX0_ceiling_1 (by decide) (by omega) (fun c_1 => ?_) (fun c_1 => ?_)
  · skip
    refine k_bipush F dX0_ceiling_15 (by decide +kernel) ?_
    exact k_ret F hr hlocks (by unfold clg; first | rw [if_pos (by omega)] | rw [if_neg (by omega)]) dX0_ceiling_17
  · skip
    refine lv_aload_n F.1 F.2.1 dX0_ceiling_4 rfl (lv_at hl 0 rfl) ?_
    refine lv_iload_n F.1 F.2.1 dX0_ceiling_5 rfl (lv_at hl 1 rfl) ?_
    refine lv_iload_n F.1 F.2.1 dX0_ceiling_6 rfl (lv_at hl 2 rfl) ?_
    refine k_iconst F dX0_ceiling_7 ?_
    refine k_isub F (z := ((v - 1 : Nat) : Int)) (by omega) dX0_ceiling_8 ?_
    refine rd_V F (n := 2) (w0 := []) (mX0_toneAt l G a tn pr mf sz sc c (v - 1) (by omega) (by omega)) gX0_ceiling_X0_toneAt rfl rfl rfl (by decide +kernel) ⟨Nat.le_of_ble_eq_true rfl, Nat.le_of_ble_eq_true rfl⟩ hK hP (ci := 0) (q0 := 0) rfl rfl rfl rfl hl.1 (Nat.le_of_ble_eq_true rfl) dX0_ceiling_9 ⟨Nat.zero_le _, Nat.zero_le _⟩ ?_
    refine lv_goto (tgt := 17) F.1 F.2.1 dX0_ceiling_12 (by decide) ?_
    exact k_ret F hr hlocks (by unfold clg; first | rw [if_pos (by omega)] | rw [if_neg (by omega)]) dX0_ceiling_17

set_option maxHeartbeats 4000000 in
set_option maxRecDepth 100000 in
theorem mX0_floor (l : Launch) (G : gT) (a : Nat → Nat) (tn pr mf : Nat → Int) (sz sc : Int) (c v : Nat) (hc : c < 16) (hv : v < 4) : Met l yX0_floor wsX0_floor { frames := 1, cells := 0, slots := 0, locals := 22 } (va_Pc [.ref (a 0), .int (iI (c : Int)), .int (iI (v : Int))] (rB G (PW G a tn pr mf sz sc))) (oI (flr tn c v)) 0 0 (fun _ => False) := by
  refine rd_start (own := RX0) (cc := cX0_floor) (mL := 3) (ret := (some .int)) (by decide) rfl rfl (Nat.le_of_ble_eq_true rfl) ?_
  intro pP eE sS mM args bB meth cC ls F hr hlocks hP hK hl
  have hl : lv_has ls 3 [(0, .ref (a 0)), (1, .int (iI (c : Int))), (2, .int (iI (v : Int)))] := hl
  refine lv_iload_n F.1 F.2.1 dX0_floor_0 rfl (lv_at hl 2 rfl) ?_
  refine k_iconst F dX0_floor_1 ?_
  refine k_icmp_ge F (tgt := 16) dX0_floor_2 (by decide) (by omega) (by decide) (fun c_1 => ?_) (fun c_1 => ?_)
  · skip
    refine k_iconst F dX0_floor_16 ?_
    exact k_ret F hr hlocks (by unfold flr; first | rw [if_pos (by omega)] | rw [if_neg (by omega)]) dX0_floor_17
  · skip
    refine lv_aload_n F.1 F.2.1 dX0_floor_5 rfl (lv_at hl 0 rfl) ?_
    refine lv_iload_n F.1 F.2.1 dX0_floor_6 rfl (lv_at hl 1 rfl) ?_
    refine lv_iload_n F.1 F.2.1 dX0_floor_7 rfl (lv_at hl 2 rfl) ?_
    refine k_iconst F dX0_floor_8 ?_
    refine k_iadd F (z := ((v + 1 : Nat) : Int)) rfl dX0_floor_9 ?_
    refine rd_V F (n := 2) (w0 := []) (mX0_toneAt l G a tn pr mf sz sc c (v + 1) (by omega) (by omega)) gX0_floor_X0_toneAt rfl rfl rfl (by decide +kernel) ⟨Nat.le_of_ble_eq_true rfl, Nat.le_of_ble_eq_true rfl⟩ hK hP (ci := 0) (q0 := 0) rfl rfl rfl rfl hl.1 (Nat.le_of_ble_eq_true rfl) dX0_floor_10 ⟨Nat.zero_le _, Nat.zero_le _⟩ ?_
    refine lv_goto (tgt := 17) F.1 F.2.1 dX0_floor_13 (by decide) ?_
    exact k_ret F hr hlocks (by unfold flr; first | rw [if_pos (by omega)] | rw [if_neg (by omega)]) dX0_floor_17

set_option maxHeartbeats 4000000 in
set_option maxRecDepth 100000 in
theorem mX0_lowestTone (l : Launch) (G : gT) (a : Nat → Nat) (tn pr mf : Nat → Int) (sz sc : Int) (v : Nat) (hv : v < 4) (hz : 0 ≤ sz ∧ sz ≤ 16) (ht : ∀ j, 0 ≤ tn j ∧ tn j ≤ 60) : Met l yX0_lowestTone wsX0_lowestTone { frames := 1, cells := 0, slots := 0, locals := 40 } (va_Pc [.ref (a 0), .int (iI (v : Int))] (rB G (PW G a tn pr mf sz sc))) (oI (lwC tn v sz.toNat)) 0 0 (fun _ => False) := by
  refine rd_start (own := RX0) (cc := cX0_lowestTone) (mL := 4) (ret := (some .int)) (by decide) rfl rfl (Nat.le_of_ble_eq_true rfl) ?_
  intro pP eE sS mM args bB meth cC ls F hr hlocks hP hK hl
  have iX0 : ∀ x ∈ wsX00, x ∈ wsX0_lowestTone := by decide +kernel
  have f21 := k_cond F (w := .fieldLink RX0 21 "ChoirPlanner$Piece" "size" "I") (by decide +kernel)
  have hl : lv_has ls 4 [(0, .ref (a 0)), (1, .int (iI (v : Int)))] := hl
  refine k_bipush F dX0_lowestTone_0 (by decide +kernel) ?_
  refine lv_istore_n (lv' := [(2, .int (iI 60)), (0, .ref (a 0)), (1, .int (iI (v : Int)))]) F.1 F.2.1 dX0_lowestTone_2 rfl hl (by decide) rfl (fun ls hl => ?_)
  refine k_iconst F dX0_lowestTone_3 ?_
  refine lv_istore_n (lv' := [(3, .int (iI 0)), (2, .int (iI 60)), (0, .ref (a 0)), (1, .int (iI (v : Int)))]) F.1 F.2.1 dX0_lowestTone_4 rfl hl (by decide) rfl (fun ls hl => ?_)
  have J_1 : ∀ c : Nat, c ≤ sz.toNat → ∀ ls : Array Slot, lv_has ls 4 [(2, .int (iI (lwC tn v c))), (3, .int (iI (c : Int))), (0, .ref (a 0)), (1, .int (iI (v : Int)))] → W pP l eE ({ frames := 1, cells := 0, slots := 0, locals := 40 }) sS mM args bB meth cC sS.heap [] 0 0 (MQ bB (oI (lwC tn v sz.toNat)) args sS 0 0 (fun _ => False)) (F0 mM 5 ls []) := by
    refine lp_up (sz.toNat) ?_ ?_
    · intro ls hl
      refine lv_iload_n F.1 F.2.1 dX0_lowestTone_5 rfl (lv_at hl 1 rfl) ?_
      refine lv_aload_n F.1 F.2.1 dX0_lowestTone_6 rfl (lv_at hl 2 rfl) ?_
      refine k_get F hK hP iX0 0 rfl rfl 3 (by decide) f21 rfl rfl dX0_lowestTone_7 ?_
      refine k_icmp_ge F (tgt := 30) dX0_lowestTone_10 (by decide) (by omega) (by omega) (fun c_3 => ?_) (fun c_3 => absurd c_3 (by omega))
      refine lv_iload_n F.1 F.2.1 dX0_lowestTone_30 rfl (lv_at hl 0 rfl) ?_
      exact k_ret F hr hlocks rfl dX0_lowestTone_31
    · intro c hk9 ih ls hl
      have b1 := ht (4 * c + v)
      have b2 := lwC_rg ht v c
      refine lv_iload_n F.1 F.2.1 dX0_lowestTone_5 rfl (lv_at hl 1 rfl) ?_
      refine lv_aload_n F.1 F.2.1 dX0_lowestTone_6 rfl (lv_at hl 2 rfl) ?_
      refine k_get F hK hP iX0 0 rfl rfl 3 (by decide) f21 rfl rfl dX0_lowestTone_7 ?_
      refine k_icmp_ge F (tgt := 30) dX0_lowestTone_10 (by decide) (by omega) (by omega) (fun c_4 => absurd c_4 (by omega)) (fun c_4 => ?_)
      refine lv_iload_n F.1 F.2.1 dX0_lowestTone_13 rfl (lv_at hl 0 rfl) ?_
      refine lv_aload_n F.1 F.2.1 dX0_lowestTone_14 rfl (lv_at hl 2 rfl) ?_
      refine lv_iload_n F.1 F.2.1 dX0_lowestTone_15 rfl (lv_at hl 1 rfl) ?_
      refine lv_iload_n F.1 F.2.1 dX0_lowestTone_16 rfl (lv_at hl 3 rfl) ?_
      refine rd_V F (n := 2) (w0 := []) (mX0_toneAt l G a tn pr mf sz sc c v (by omega) (by omega)) gX0_lowestTone_X0_toneAt rfl rfl rfl (by decide +kernel) ⟨Nat.le_of_ble_eq_true rfl, Nat.le_of_ble_eq_true rfl⟩ hK hP (ci := 0) (q0 := 0) rfl rfl rfl rfl hl.1 (Nat.le_of_ble_eq_true rfl) dX0_lowestTone_17 ⟨Nat.zero_le _, Nat.zero_le _⟩ ?_
      refine k_mmin F hl.1 (k_cond F (w := .methodLink RX0 36 Lib.Math.min.name) (by decide +kernel)) (k_cond F (w := .static Lib.Math.min.name) (by decide +kernel)) (k_cond F (w := .initialized "java/lang/Math") (by decide +kernel)) (k_cond F (w := .code Lib.Math.min.name Lib.Math.min.code 2 (some .int)) (by decide +kernel)) (Nat.le_of_ble_eq_true rfl) (Nat.le_of_ble_eq_true rfl) (Nat.zero_le _) (Nat.zero_le _) (by omega) (by omega) dX0_lowestTone_20 ?_
      refine lv_istore_n (lv' := [(2, .int (iI (min (lwC tn v c) (tn (4 * c + v))))), (3, .int (iI (c : Int))), (0, .ref (a 0)), (1, .int (iI (v : Int)))]) F.1 F.2.1 dX0_lowestTone_23 rfl hl (by decide) rfl (fun ls hl => ?_)
      refine lv_iinc (v := iI ((c : Int) + 1)) (lv' := [(3, .int (iI ((c : Int) + 1))), (2, .int (iI (min (lwC tn v c) (tn (4 * c + v))))), (0, .ref (a 0)), (1, .int (iI (v : Int)))]) F.1 F.2.1 dX0_lowestTone_24 hl (k := 1) rfl (iI_add _ _) (by decide) rfl (fun ls hl => ?_)
      refine lv_goto (tgt := 5) F.1 F.2.1 dX0_lowestTone_27 (by decide) ?_
      have e_5 : ((min (lwC tn v c) (tn (4 * c + v))) : Int) = lwC tn v (c + 1) := rfl
      have e_6 : (((c : Int) + 1) : Int) = ((c + 1 : Nat) : Int) := rfl
      exact ih _ (lv_to (lv_to (lv_sub hl [1, 0, 2, 3] rfl) (congrArg (fun x9 : Int => ([(2, .int (iI x9)), (3, .int (iI ((c : Int) + 1))), (0, .ref (a 0)), (1, .int (iI (v : Int)))] : List (Nat × Value))) e_5)) (congrArg (fun x9 : Int => ([(2, .int (iI (lwC tn v (c + 1)))), (3, .int (iI x9)), (0, .ref (a 0)), (1, .int (iI (v : Int)))] : List (Nat × Value))) e_6))
  have e_7 : (60 : Int) = lwC tn v 0 := rfl
  have e_8 : (0 : Int) = ((0 : Nat) : Int) := rfl
  exact J_1 0 (by omega) _ (lv_to (lv_to (lv_sub hl [1, 0, 2, 3] rfl) (congrArg (fun x9 : Int => ([(2, .int (iI x9)), (3, .int (iI 0)), (0, .ref (a 0)), (1, .int (iI (v : Int)))] : List (Nat × Value))) e_7)) (congrArg (fun x9 : Int => ([(2, .int (iI (lwC tn v 0))), (3, .int (iI x9)), (0, .ref (a 0)), (1, .int (iI (v : Int)))] : List (Nat × Value))) e_8))

set_option maxHeartbeats 4000000 in
set_option maxRecDepth 100000 in
theorem mX0_highestTone (l : Launch) (G : gT) (a : Nat → Nat) (tn pr mf : Nat → Int) (sz sc : Int) (v : Nat) (hv : v < 4) (hz : 0 ≤ sz ∧ sz ≤ 16) (ht : ∀ j, 0 ≤ tn j ∧ tn j ≤ 60) : Met l yX0_highestTone wsX0_highestTone { frames := 1, cells := 0, slots := 0, locals := 40 } (va_Pc [.ref (a 0), .int (iI (v : Int))] (rB G (PW G a tn pr mf sz sc))) (oI (hgC tn v sz.toNat)) 0 0 (fun _ => False) := by
  refine rd_start (own := RX0) (cc := cX0_highestTone) (mL := 4) (ret := (some .int)) (by decide) rfl rfl (Nat.le_of_ble_eq_true rfl) ?_
  intro pP eE sS mM args bB meth cC ls F hr hlocks hP hK hl
  have iX0 : ∀ x ∈ wsX00, x ∈ wsX0_highestTone := by decide +kernel
  have f21 := k_cond F (w := .fieldLink RX0 21 "ChoirPlanner$Piece" "size" "I") (by decide +kernel)
  have hl : lv_has ls 4 [(0, .ref (a 0)), (1, .int (iI (v : Int)))] := hl
  refine k_iconst F dX0_highestTone_0 ?_
  refine lv_istore_n (lv' := [(2, .int (iI 0)), (0, .ref (a 0)), (1, .int (iI (v : Int)))]) F.1 F.2.1 dX0_highestTone_1 rfl hl (by decide) rfl (fun ls hl => ?_)
  refine k_iconst F dX0_highestTone_2 ?_
  refine lv_istore_n (lv' := [(3, .int (iI 0)), (2, .int (iI 0)), (0, .ref (a 0)), (1, .int (iI (v : Int)))]) F.1 F.2.1 dX0_highestTone_3 rfl hl (by decide) rfl (fun ls hl => ?_)
  have J_1 : ∀ c : Nat, c ≤ sz.toNat → ∀ ls : Array Slot, lv_has ls 4 [(2, .int (iI (hgC tn v c))), (3, .int (iI (c : Int))), (0, .ref (a 0)), (1, .int (iI (v : Int)))] → W pP l eE ({ frames := 1, cells := 0, slots := 0, locals := 40 }) sS mM args bB meth cC sS.heap [] 0 0 (MQ bB (oI (hgC tn v sz.toNat)) args sS 0 0 (fun _ => False)) (F0 mM 4 ls []) := by
    refine lp_up (sz.toNat) ?_ ?_
    · intro ls hl
      refine lv_iload_n F.1 F.2.1 dX0_highestTone_4 rfl (lv_at hl 1 rfl) ?_
      refine lv_aload_n F.1 F.2.1 dX0_highestTone_5 rfl (lv_at hl 2 rfl) ?_
      refine k_get F hK hP iX0 0 rfl rfl 3 (by decide) f21 rfl rfl dX0_highestTone_6 ?_
      refine k_icmp_ge F (tgt := 29) dX0_highestTone_9 (by decide) (by omega) (by omega) (fun c_3 => ?_) (fun c_3 => absurd c_3 (by omega))
      refine lv_iload_n F.1 F.2.1 dX0_highestTone_29 rfl (lv_at hl 0 rfl) ?_
      exact k_ret F hr hlocks rfl dX0_highestTone_30
    · intro c hk9 ih ls hl
      have b1 := ht (4 * c + v)
      have b2 := hgC_rg ht v c
      refine lv_iload_n F.1 F.2.1 dX0_highestTone_4 rfl (lv_at hl 1 rfl) ?_
      refine lv_aload_n F.1 F.2.1 dX0_highestTone_5 rfl (lv_at hl 2 rfl) ?_
      refine k_get F hK hP iX0 0 rfl rfl 3 (by decide) f21 rfl rfl dX0_highestTone_6 ?_
      refine k_icmp_ge F (tgt := 29) dX0_highestTone_9 (by decide) (by omega) (by omega) (fun c_4 => absurd c_4 (by omega)) (fun c_4 => ?_)
      refine lv_iload_n F.1 F.2.1 dX0_highestTone_12 rfl (lv_at hl 0 rfl) ?_
      refine lv_aload_n F.1 F.2.1 dX0_highestTone_13 rfl (lv_at hl 2 rfl) ?_
      refine lv_iload_n F.1 F.2.1 dX0_highestTone_14 rfl (lv_at hl 1 rfl) ?_
      refine lv_iload_n F.1 F.2.1 dX0_highestTone_15 rfl (lv_at hl 3 rfl) ?_
      refine rd_V F (n := 2) (w0 := []) (mX0_toneAt l G a tn pr mf sz sc c v (by omega) (by omega)) gX0_highestTone_X0_toneAt rfl rfl rfl (by decide +kernel) ⟨Nat.le_of_ble_eq_true rfl, Nat.le_of_ble_eq_true rfl⟩ hK hP (ci := 0) (q0 := 0) rfl rfl rfl rfl hl.1 (Nat.le_of_ble_eq_true rfl) dX0_highestTone_16 ⟨Nat.zero_le _, Nat.zero_le _⟩ ?_
      refine k_mmax F hl.1 (k_cond F (w := .methodLink RX0 41 Lib.Math.max.name) (by decide +kernel)) (k_cond F (w := .static Lib.Math.max.name) (by decide +kernel)) (k_cond F (w := .initialized "java/lang/Math") (by decide +kernel)) (k_cond F (w := .code Lib.Math.max.name Lib.Math.max.code 2 (some .int)) (by decide +kernel)) (Nat.le_of_ble_eq_true rfl) (Nat.le_of_ble_eq_true rfl) (Nat.zero_le _) (Nat.zero_le _) (by omega) (by omega) dX0_highestTone_19 ?_
      refine lv_istore_n (lv' := [(2, .int (iI (max (hgC tn v c) (tn (4 * c + v))))), (3, .int (iI (c : Int))), (0, .ref (a 0)), (1, .int (iI (v : Int)))]) F.1 F.2.1 dX0_highestTone_22 rfl hl (by decide) rfl (fun ls hl => ?_)
      refine lv_iinc (v := iI ((c : Int) + 1)) (lv' := [(3, .int (iI ((c : Int) + 1))), (2, .int (iI (max (hgC tn v c) (tn (4 * c + v))))), (0, .ref (a 0)), (1, .int (iI (v : Int)))]) F.1 F.2.1 dX0_highestTone_23 hl (k := 1) rfl (iI_add _ _) (by decide) rfl (fun ls hl => ?_)
      refine lv_goto (tgt := 4) F.1 F.2.1 dX0_highestTone_26 (by decide) ?_
      have e_5 : ((max (hgC tn v c) (tn (4 * c + v))) : Int) = hgC tn v (c + 1) := rfl
      have e_6 : (((c : Int) + 1) : Int) = ((c + 1 : Nat) : Int) := rfl
      exact ih _ (lv_to (lv_to (lv_sub hl [1, 0, 2, 3] rfl) (congrArg (fun x9 : Int => ([(2, .int (iI x9)), (3, .int (iI ((c : Int) + 1))), (0, .ref (a 0)), (1, .int (iI (v : Int)))] : List (Nat × Value))) e_5)) (congrArg (fun x9 : Int => ([(2, .int (iI (hgC tn v (c + 1)))), (3, .int (iI x9)), (0, .ref (a 0)), (1, .int (iI (v : Int)))] : List (Nat × Value))) e_6))
  have e_7 : (0 : Int) = hgC tn v 0 := rfl
  have e_8 : (0 : Int) = ((0 : Nat) : Int) := rfl
  exact J_1 0 (by omega) _ (lv_to (lv_to (lv_sub hl [1, 0, 2, 3] rfl) (congrArg (fun x9 : Int => ([(2, .int (iI x9)), (3, .int (iI 0)), (0, .ref (a 0)), (1, .int (iI (v : Int)))] : List (Nat × Value))) e_7)) (congrArg (fun x9 : Int => ([(2, .int (iI (hgC tn v 0))), (3, .int (iI x9)), (0, .ref (a 0)), (1, .int (iI (v : Int)))] : List (Nat × Value))) e_8))

set_option maxHeartbeats 4000000 in
set_option maxRecDepth 100000 in
theorem mX0_faultsInto (l : Launch) (G : gT) (a : Nat → Nat) (tn pr mf : Nat → Int) (sz sc : Int) (c : Nat) (hc : c < 16) : Met l yX0_faultsInto wsX0_faultsInto { frames := 0, cells := 0, slots := 0, locals := 0 } (va_Pc [.ref (a 0), .int (iI (c : Int))] (rB G (PW G a tn pr mf sz sc))) (oI (mf c)) 0 0 (fun _ => False) := by
  refine rd_start (own := RX0) (cc := cX0_faultsInto) (mL := 2) (ret := (some .int)) (by decide) rfl rfl (Nat.le_of_ble_eq_true rfl) ?_
  intro pP eE sS mM args bB meth cC ls F hr hlocks hP hK hl
  have iX0 : ∀ x ∈ wsX00, x ∈ wsX0_faultsInto := by decide +kernel
  have f18 := k_cond F (w := .fieldLink RX0 18 "ChoirPlanner$Piece" "moveFaults" "[I") (by decide +kernel)
  have hl : lv_has ls 2 [(0, .ref (a 0)), (1, .int (iI (c : Int)))] := hl
  refine lv_aload_n F.1 F.2.1 dX0_faultsInto_0 rfl (lv_at hl 0 rfl) ?_
  refine k_get F hK hP iX0 0 rfl rfl 2 (by decide) f18 rfl rfl dX0_faultsInto_1 ?_
  refine lv_iload_n F.1 F.2.1 dX0_faultsInto_4 rfl (lv_at hl 1 rfl) ?_
  refine k_iald F hK hP 3 rfl c (by omega) (by omega) (by decide) rfl dX0_faultsInto_5 ?_
  exact k_ret F hr hlocks rfl dX0_faultsInto_6

set_option maxHeartbeats 4000000 in
set_option maxRecDepth 100000 in
theorem mX0_faultSum (l : Launch) (G : gT) (a : Nat → Nat) (tn pr mf : Nat → Int) (sz sc : Int) (hz : 0 ≤ sz ∧ sz ≤ 16) : Met l yX0_faultSum wsX0_faultSum { frames := 0, cells := 0, slots := 0, locals := 0 } (va_Pc [.ref (a 0)] (rB G (PW G a tn pr mf sz sc))) (oI (fsC mf (sz.toNat - 1))) 0 0 (fun _ => False) := by
  refine rd_start (own := RX0) (cc := cX0_faultSum) (mL := 3) (ret := (some .int)) (by decide) rfl rfl (Nat.le_of_ble_eq_true rfl) ?_
  intro pP eE sS mM args bB meth cC ls F hr hlocks hP hK hl
  have iX0 : ∀ x ∈ wsX00, x ∈ wsX0_faultSum := by decide +kernel
  have f18 := k_cond F (w := .fieldLink RX0 18 "ChoirPlanner$Piece" "moveFaults" "[I") (by decide +kernel)
  have f21 := k_cond F (w := .fieldLink RX0 21 "ChoirPlanner$Piece" "size" "I") (by decide +kernel)
  have hl : lv_has ls 3 [(0, .ref (a 0))] := hl
  refine k_iconst F dX0_faultSum_0 ?_
  refine lv_istore_n (lv' := [(1, .int (iI 0)), (0, .ref (a 0))]) F.1 F.2.1 dX0_faultSum_1 rfl hl (by decide) rfl (fun ls hl => ?_)
  refine k_iconst F dX0_faultSum_2 ?_
  refine lv_istore_n (lv' := [(2, .int (iI 1)), (1, .int (iI 0)), (0, .ref (a 0))]) F.1 F.2.1 dX0_faultSum_3 rfl hl (by decide) rfl (fun ls hl => ?_)
  have J_1 : ∀ c : Nat, c ≤ (sz.toNat - 1) → ∀ ls : Array Slot, lv_has ls 3 [(1, .int (iI (fsC mf c))), (2, .int (iI ((c + 1 : Nat) : Int))), (0, .ref (a 0))] → W pP l eE ({ frames := 0, cells := 0, slots := 0, locals := 0 }) sS mM args bB meth cC sS.heap [] 0 0 (MQ bB (oI (fsC mf (sz.toNat - 1))) args sS 0 0 (fun _ => False)) (F0 mM 4 ls []) := by
    refine lp_up ((sz.toNat - 1)) ?_ ?_
    · intro ls hl
      refine lv_iload_n F.1 F.2.1 dX0_faultSum_4 rfl (lv_at hl 1 rfl) ?_
      refine lv_aload_n F.1 F.2.1 dX0_faultSum_5 rfl (lv_at hl 2 rfl) ?_
      refine k_get F hK hP iX0 0 rfl rfl 3 (by decide) f21 rfl rfl dX0_faultSum_6 ?_
      refine k_icmp_ge F (tgt := 27) dX0_faultSum_9 (by decide) (by omega) (by omega) (fun c_3 => ?_) (fun c_3 => absurd c_3 (by omega))
      refine lv_iload_n F.1 F.2.1 dX0_faultSum_27 rfl (lv_at hl 0 rfl) ?_
      exact k_ret F hr hlocks rfl dX0_faultSum_28
    · intro c hk9 ih ls hl
      refine lv_iload_n F.1 F.2.1 dX0_faultSum_4 rfl (lv_at hl 1 rfl) ?_
      refine lv_aload_n F.1 F.2.1 dX0_faultSum_5 rfl (lv_at hl 2 rfl) ?_
      refine k_get F hK hP iX0 0 rfl rfl 3 (by decide) f21 rfl rfl dX0_faultSum_6 ?_
      refine k_icmp_ge F (tgt := 27) dX0_faultSum_9 (by decide) (by omega) (by omega) (fun c_4 => absurd c_4 (by omega)) (fun c_4 => ?_)
      refine lv_iload_n F.1 F.2.1 dX0_faultSum_12 rfl (lv_at hl 0 rfl) ?_
      refine lv_aload_n F.1 F.2.1 dX0_faultSum_13 rfl (lv_at hl 2 rfl) ?_
      refine k_get F hK hP iX0 0 rfl rfl 2 (by decide) f18 rfl rfl dX0_faultSum_14 ?_
      refine lv_iload_n F.1 F.2.1 dX0_faultSum_17 rfl (lv_at hl 1 rfl) ?_
      refine k_iald F hK hP 3 rfl (c + 1) (by omega) (by omega) (by decide) rfl dX0_faultSum_18 ?_
      refine k_iadd F rfl dX0_faultSum_19 ?_
      refine lv_istore_n (lv' := [(1, .int (iI (fsC mf c + (mf (c + 1))))), (2, .int (iI ((c + 1 : Nat) : Int))), (0, .ref (a 0))]) F.1 F.2.1 dX0_faultSum_20 rfl hl (by decide) rfl (fun ls hl => ?_)
      refine lv_iinc (v := iI (((c + 1 : Nat) : Int) + 1)) (lv' := [(2, .int (iI (((c + 1 : Nat) : Int) + 1))), (1, .int (iI (fsC mf c + (mf (c + 1))))), (0, .ref (a 0))]) F.1 F.2.1 dX0_faultSum_21 hl (k := 1) rfl (iI_add _ _) (by decide) rfl (fun ls hl => ?_)
      refine lv_goto (tgt := 4) F.1 F.2.1 dX0_faultSum_24 (by decide) ?_
      have e_5 : ((fsC mf c + (mf (c + 1))) : Int) = fsC mf (c + 1) := rfl
      have e_6 : ((((c + 1 : Nat) : Int) + 1) : Int) = ((c + 1 + 1 : Nat) : Int) := rfl
      exact ih _ (lv_to (lv_to (lv_sub hl [1, 0, 2] rfl) (congrArg (fun x9 : Int => ([(1, .int (iI x9)), (2, .int (iI (((c + 1 : Nat) : Int) + 1))), (0, .ref (a 0))] : List (Nat × Value))) e_5)) (congrArg (fun x9 : Int => ([(1, .int (iI (fsC mf (c + 1)))), (2, .int (iI x9)), (0, .ref (a 0))] : List (Nat × Value))) e_6))
  have e_7 : (0 : Int) = fsC mf 0 := rfl
  have e_8 : (1 : Int) = ((0 + 1 : Nat) : Int) := rfl
  exact J_1 0 (by omega) _ (lv_to (lv_to (lv_sub hl [1, 0, 2] rfl) (congrArg (fun x9 : Int => ([(1, .int (iI x9)), (2, .int (iI 1)), (0, .ref (a 0))] : List (Nat × Value))) e_7)) (congrArg (fun x9 : Int => ([(1, .int (iI (fsC mf 0))), (2, .int (iI x9)), (0, .ref (a 0))] : List (Nat × Value))) e_8))

set_option maxHeartbeats 4000000 in
set_option maxRecDepth 100000 in
theorem mX0_weaknessOf (l : Launch) (G : gT) (a : Nat → Nat) (tn pr mf : Nat → Int) (sz sc : Int) (c : Nat) (hc : c < 16) (hm : ∀ c, 0 ≤ mf c ∧ mf c ≤ 40) (hp : ∀ c, 0 ≤ pr c ∧ pr c ≤ 70000) : Met l yX0_weaknessOf wsX0_weaknessOf { frames := 1, cells := 0, slots := 0, locals := 40 } (va_Pc [.ref (a 0), .int (iI (c : Int))] (rB G (PW G a tn pr mf sz sc))) (oI (wkC mf pr c)) 0 0 (fun _ => False) := by
  refine rd_start (own := RX0) (cc := cX0_weaknessOf) (mL := 2) (ret := (some .int)) (by decide) rfl rfl (Nat.le_of_ble_eq_true rfl) ?_
  intro pP eE sS mM args bB meth cC ls F hr hlocks hP hK hl
  have b1 := hm c
  have b2 := hp c
  have iX0 : ∀ x ∈ wsX00, x ∈ wsX0_weaknessOf := by decide +kernel
  have f15 := k_cond F (w := .fieldLink RX0 15 "ChoirPlanner$Piece" "practice" "[I") (by decide +kernel)
  have f18 := k_cond F (w := .fieldLink RX0 18 "ChoirPlanner$Piece" "moveFaults" "[I") (by decide +kernel)
  have hl : lv_has ls 2 [(0, .ref (a 0)), (1, .int (iI (c : Int)))] := hl
  refine k_iconst F dX0_weaknessOf_0 ?_
  refine k_bipush F dX0_weaknessOf_1 (by decide +kernel) ?_
  refine k_iconst F dX0_weaknessOf_3 ?_
  refine lv_aload_n F.1 F.2.1 dX0_weaknessOf_4 rfl (lv_at hl 0 rfl) ?_
  refine k_get F hK hP iX0 0 rfl rfl 2 (by decide) f18 rfl rfl dX0_weaknessOf_5 ?_
  refine lv_iload_n F.1 F.2.1 dX0_weaknessOf_8 rfl (lv_at hl 1 rfl) ?_
  refine k_iald F hK hP 3 rfl c (by omega) (by omega) (by decide) rfl dX0_weaknessOf_9 ?_
  refine k_imul F rfl dX0_weaknessOf_10 ?_
  refine k_iadd F rfl dX0_weaknessOf_11 ?_
  refine lv_aload_n F.1 F.2.1 dX0_weaknessOf_12 rfl (lv_at hl 0 rfl) ?_
  refine k_get F hK hP iX0 0 rfl rfl 1 (by decide) f15 rfl rfl dX0_weaknessOf_13 ?_
  refine lv_iload_n F.1 F.2.1 dX0_weaknessOf_16 rfl (lv_at hl 1 rfl) ?_
  refine k_iald F hK hP 2 rfl c (by omega) (by omega) (by decide) rfl dX0_weaknessOf_17 ?_
  refine k_isub F rfl dX0_weaknessOf_18 ?_
  refine k_mmax F hl.1 (k_cond F (w := .methodLink RX0 41 Lib.Math.max.name) (by decide +kernel)) (k_cond F (w := .static Lib.Math.max.name) (by decide +kernel)) (k_cond F (w := .initialized "java/lang/Math") (by decide +kernel)) (k_cond F (w := .code Lib.Math.max.name Lib.Math.max.code 2 (some .int)) (by decide +kernel)) (Nat.le_of_ble_eq_true rfl) (Nat.le_of_ble_eq_true rfl) (Nat.zero_le _) (Nat.zero_le _) (by decide) (by omega) dX0_weaknessOf_19 ?_
  exact k_ret F hr hlocks rfl dX0_weaknessOf_22

set_option maxHeartbeats 4000000 in
set_option maxRecDepth 100000 in
theorem mX0_weaknessSum (l : Launch) (G : gT) (a : Nat → Nat) (tn pr mf : Nat → Int) (sz sc : Int) (hz : 0 ≤ sz ∧ sz ≤ 16) (hm : ∀ c, 0 ≤ mf c ∧ mf c ≤ 40) (hp : ∀ c, 0 ≤ pr c ∧ pr c ≤ 70000) : Met l yX0_weaknessSum wsX0_weaknessSum { frames := 2, cells := 0, slots := 0, locals := 61 } (va_Pc [.ref (a 0)] (rB G (PW G a tn pr mf sz sc))) (oI (wsC mf pr sz.toNat)) 0 0 (fun _ => False) := by
  refine rd_start (own := RX0) (cc := cX0_weaknessSum) (mL := 3) (ret := (some .int)) (by decide) rfl rfl (Nat.le_of_ble_eq_true rfl) ?_
  intro pP eE sS mM args bB meth cC ls F hr hlocks hP hK hl
  have iX0 : ∀ x ∈ wsX00, x ∈ wsX0_weaknessSum := by decide +kernel
  have f21 := k_cond F (w := .fieldLink RX0 21 "ChoirPlanner$Piece" "size" "I") (by decide +kernel)
  have hl : lv_has ls 3 [(0, .ref (a 0))] := hl
  refine k_iconst F dX0_weaknessSum_0 ?_
  refine lv_istore_n (lv' := [(1, .int (iI 0)), (0, .ref (a 0))]) F.1 F.2.1 dX0_weaknessSum_1 rfl hl (by decide) rfl (fun ls hl => ?_)
  refine k_iconst F dX0_weaknessSum_2 ?_
  refine lv_istore_n (lv' := [(2, .int (iI 0)), (1, .int (iI 0)), (0, .ref (a 0))]) F.1 F.2.1 dX0_weaknessSum_3 rfl hl (by decide) rfl (fun ls hl => ?_)
  have J_1 : ∀ c : Nat, c ≤ sz.toNat → ∀ ls : Array Slot, lv_has ls 3 [(1, .int (iI (wsC mf pr c))), (2, .int (iI (c : Int))), (0, .ref (a 0))] → W pP l eE ({ frames := 2, cells := 0, slots := 0, locals := 61 }) sS mM args bB meth cC sS.heap [] 0 0 (MQ bB (oI (wsC mf pr sz.toNat)) args sS 0 0 (fun _ => False)) (F0 mM 4 ls []) := by
    refine lp_up (sz.toNat) ?_ ?_
    · intro ls hl
      refine lv_iload_n F.1 F.2.1 dX0_weaknessSum_4 rfl (lv_at hl 1 rfl) ?_
      refine lv_aload_n F.1 F.2.1 dX0_weaknessSum_5 rfl (lv_at hl 2 rfl) ?_
      refine k_get F hK hP iX0 0 rfl rfl 3 (by decide) f21 rfl rfl dX0_weaknessSum_6 ?_
      refine k_icmp_ge F (tgt := 26) dX0_weaknessSum_9 (by decide) (by omega) (by omega) (fun c_3 => ?_) (fun c_3 => absurd c_3 (by omega))
      refine lv_iload_n F.1 F.2.1 dX0_weaknessSum_26 rfl (lv_at hl 0 rfl) ?_
      exact k_ret F hr hlocks rfl dX0_weaknessSum_27
    · intro c hk9 ih ls hl
      refine lv_iload_n F.1 F.2.1 dX0_weaknessSum_4 rfl (lv_at hl 1 rfl) ?_
      refine lv_aload_n F.1 F.2.1 dX0_weaknessSum_5 rfl (lv_at hl 2 rfl) ?_
      refine k_get F hK hP iX0 0 rfl rfl 3 (by decide) f21 rfl rfl dX0_weaknessSum_6 ?_
      refine k_icmp_ge F (tgt := 26) dX0_weaknessSum_9 (by decide) (by omega) (by omega) (fun c_4 => absurd c_4 (by omega)) (fun c_4 => ?_)
      refine lv_iload_n F.1 F.2.1 dX0_weaknessSum_12 rfl (lv_at hl 0 rfl) ?_
      refine lv_aload_n F.1 F.2.1 dX0_weaknessSum_13 rfl (lv_at hl 2 rfl) ?_
      refine lv_iload_n F.1 F.2.1 dX0_weaknessSum_14 rfl (lv_at hl 1 rfl) ?_
      refine rd_V F (n := 1) (w0 := []) (mX0_weaknessOf l G a tn pr mf sz sc c (by omega) hm hp) gX0_weaknessSum_X0_weaknessOf rfl rfl rfl (by decide +kernel) ⟨Nat.le_of_ble_eq_true rfl, Nat.le_of_ble_eq_true rfl⟩ hK hP (ci := 0) (q0 := 0) rfl rfl rfl rfl hl.1 (Nat.le_of_ble_eq_true rfl) dX0_weaknessSum_15 ⟨Nat.zero_le _, Nat.zero_le _⟩ ?_
      refine k_iadd F rfl dX0_weaknessSum_18 ?_
      refine lv_istore_n (lv' := [(1, .int (iI (wsC mf pr c + (wkC mf pr c)))), (2, .int (iI (c : Int))), (0, .ref (a 0))]) F.1 F.2.1 dX0_weaknessSum_19 rfl hl (by decide) rfl (fun ls hl => ?_)
      refine lv_iinc (v := iI ((c : Int) + 1)) (lv' := [(2, .int (iI ((c : Int) + 1))), (1, .int (iI (wsC mf pr c + (wkC mf pr c)))), (0, .ref (a 0))]) F.1 F.2.1 dX0_weaknessSum_20 hl (k := 1) rfl (iI_add _ _) (by decide) rfl (fun ls hl => ?_)
      refine lv_goto (tgt := 4) F.1 F.2.1 dX0_weaknessSum_23 (by decide) ?_
      have e_5 : ((wsC mf pr c + (wkC mf pr c)) : Int) = wsC mf pr (c + 1) := rfl
      have e_6 : (((c : Int) + 1) : Int) = ((c + 1 : Nat) : Int) := rfl
      exact ih _ (lv_to (lv_to (lv_sub hl [1, 0, 2] rfl) (congrArg (fun x9 : Int => ([(1, .int (iI x9)), (2, .int (iI ((c : Int) + 1))), (0, .ref (a 0))] : List (Nat × Value))) e_5)) (congrArg (fun x9 : Int => ([(1, .int (iI (wsC mf pr (c + 1)))), (2, .int (iI x9)), (0, .ref (a 0))] : List (Nat × Value))) e_6))
  have e_7 : (0 : Int) = wsC mf pr 0 := rfl
  have e_8 : (0 : Int) = ((0 : Nat) : Int) := rfl
  exact J_1 0 (by omega) _ (lv_to (lv_to (lv_sub hl [1, 0, 2] rfl) (congrArg (fun x9 : Int => ([(1, .int (iI x9)), (2, .int (iI 0)), (0, .ref (a 0))] : List (Nat × Value))) e_7)) (congrArg (fun x9 : Int => ([(1, .int (iI (wsC mf pr 0))), (2, .int (iI x9)), (0, .ref (a 0))] : List (Nat × Value))) e_8))

set_option maxHeartbeats 4000000 in
set_option maxRecDepth 100000 in
theorem mX0_weakestChord (l : Launch) (G : gT) (a : Nat → Nat) (tn pr mf : Nat → Int) (sz sc : Int) (hz : 0 ≤ sz ∧ sz ≤ 16) (hm : ∀ c, 0 ≤ mf c ∧ mf c ≤ 40) (hp : ∀ c, 0 ≤ pr c ∧ pr c ≤ 70000) : Met l yX0_weakestChord wsX0_weakestChord { frames := 2, cells := 0, slots := 0, locals := 61 } (va_Pc [.ref (a 0)] (rB G (PW G a tn pr mf sz sc))) (oI (((wcC mf pr (sz.toNat - 1) : Nat) : Int))) 0 0 (fun _ => False) := by
  refine rd_start (own := RX0) (cc := cX0_weakestChord) (mL := 3) (ret := (some .int)) (by decide) rfl rfl (Nat.le_of_ble_eq_true rfl) ?_
  intro pP eE sS mM args bB meth cC ls F hr hlocks hP hK hl
  have iX0 : ∀ x ∈ wsX00, x ∈ wsX0_weakestChord := by decide +kernel
  have f21 := k_cond F (w := .fieldLink RX0 21 "ChoirPlanner$Piece" "size" "I") (by decide +kernel)
  have hl : lv_has ls 3 [(0, .ref (a 0))] := hl
  refine k_iconst F dX0_weakestChord_0 ?_
  refine lv_istore_n (lv' := [(1, .int (iI 0)), (0, .ref (a 0))]) F.1 F.2.1 dX0_weakestChord_1 rfl hl (by decide) rfl (fun ls hl => ?_)
  refine k_iconst F dX0_weakestChord_2 ?_
  refine lv_istore_n (lv' := [(2, .int (iI 1)), (1, .int (iI 0)), (0, .ref (a 0))]) F.1 F.2.1 dX0_weakestChord_3 rfl hl (by decide) rfl (fun ls hl => ?_)
  have J_1 : ∀ c : Nat, c ≤ (sz.toNat - 1) → ∀ ls : Array Slot, lv_has ls 3 [(1, .int (iI ((wcC mf pr c : Nat) : Int))), (2, .int (iI ((c + 1 : Nat) : Int))), (0, .ref (a 0))] → W pP l eE ({ frames := 2, cells := 0, slots := 0, locals := 61 }) sS mM args bB meth cC sS.heap [] 0 0 (MQ bB (oI (((wcC mf pr (sz.toNat - 1) : Nat) : Int))) args sS 0 0 (fun _ => False)) (F0 mM 4 ls []) := by
    refine lp_up ((sz.toNat - 1)) ?_ ?_
    · intro ls hl
      refine lv_iload_n F.1 F.2.1 dX0_weakestChord_4 rfl (lv_at hl 1 rfl) ?_
      refine lv_aload_n F.1 F.2.1 dX0_weakestChord_5 rfl (lv_at hl 2 rfl) ?_
      refine k_get F hK hP iX0 0 rfl rfl 3 (by decide) f21 rfl rfl dX0_weakestChord_6 ?_
      refine k_icmp_ge F (tgt := 33) dX0_weakestChord_9 (by decide) (by omega) (by omega) (fun c_3 => ?_) (fun c_3 => absurd c_3 (by omega))
      refine lv_iload_n F.1 F.2.1 dX0_weakestChord_33 rfl (lv_at hl 0 rfl) ?_
      exact k_ret F hr hlocks rfl dX0_weakestChord_34
    · intro c hk9 ih ls hl
      have b0 := wcC_le mf pr c
      have b1 := wkC_rg (hm (c + 1)) (hp (c + 1))
      have b3 := wkC_rg (hm (wcC mf pr c)) (hp (wcC mf pr c))
      refine lv_iload_n F.1 F.2.1 dX0_weakestChord_4 rfl (lv_at hl 1 rfl) ?_
      refine lv_aload_n F.1 F.2.1 dX0_weakestChord_5 rfl (lv_at hl 2 rfl) ?_
      refine k_get F hK hP iX0 0 rfl rfl 3 (by decide) f21 rfl rfl dX0_weakestChord_6 ?_
      refine k_icmp_ge F (tgt := 33) dX0_weakestChord_9 (by decide) (by omega) (by omega) (fun c_4 => absurd c_4 (by omega)) (fun c_4 => ?_)
      refine lv_aload_n F.1 F.2.1 dX0_weakestChord_12 rfl (lv_at hl 2 rfl) ?_
      refine lv_iload_n F.1 F.2.1 dX0_weakestChord_13 rfl (lv_at hl 1 rfl) ?_
      refine rd_V F (n := 1) (w0 := []) (mX0_weaknessOf l G a tn pr mf sz sc (c + 1) (by omega) hm hp) gX0_weakestChord_X0_weaknessOf rfl rfl rfl (by decide +kernel) ⟨Nat.le_of_ble_eq_true rfl, Nat.le_of_ble_eq_true rfl⟩ hK hP (ci := 0) (q0 := 0) rfl rfl rfl rfl hl.1 (Nat.le_of_ble_eq_true rfl) dX0_weakestChord_14 ⟨Nat.zero_le _, Nat.zero_le _⟩ ?_
      refine lv_aload_n F.1 F.2.1 dX0_weakestChord_17 rfl (lv_at hl 2 rfl) ?_
      refine lv_iload_n F.1 F.2.1 dX0_weakestChord_18 rfl (lv_at hl 0 rfl) ?_
      refine rd_V F (n := 1) (w0 := []) (mX0_weaknessOf l G a tn pr mf sz sc (wcC mf pr c) (by omega) hm hp) gX0_weakestChord_X0_weaknessOf rfl rfl rfl (by decide +kernel) ⟨Nat.le_of_ble_eq_true rfl, Nat.le_of_ble_eq_true rfl⟩ hK hP (ci := 0) (q0 := 0) rfl rfl rfl rfl hl.1 (Nat.le_of_ble_eq_true rfl) dX0_weakestChord_19 ⟨Nat.zero_le _, Nat.zero_le _⟩ ?_
      refine k_icmp_le F (tgt := 27) dX0_weakestChord_22 (by decide) (by omega) (by omega) (fun c_5 => ?_) (fun c_5 => ?_)
      · skip
        refine lv_iinc (v := iI (((c + 1 : Nat) : Int) + 1)) (lv' := [(2, .int (iI (((c + 1 : Nat) : Int) + 1))), (1, .int (iI ((wcC mf pr c : Nat) : Int))), (0, .ref (a 0))]) F.1 F.2.1 dX0_weakestChord_27 hl (k := 1) rfl (iI_add _ _) (by decide) rfl (fun ls hl => ?_)
        refine lv_goto (tgt := 4) F.1 F.2.1 dX0_weakestChord_30 (by decide) ?_
        have e_6 : (((wcC mf pr c : Nat) : Int) : Int) = ((wcC mf pr (c + 1) : Nat) : Int) := by rw [wcC_s]; first | rw [if_pos (by assumption)] | rw [if_neg (by omega)]
        have e_7 : ((((c + 1 : Nat) : Int) + 1) : Int) = ((c + 1 + 1 : Nat) : Int) := rfl
        exact ih _ (lv_to (lv_to (lv_sub hl [1, 0, 2] rfl) (congrArg (fun x9 : Int => ([(1, .int (iI x9)), (2, .int (iI (((c + 1 : Nat) : Int) + 1))), (0, .ref (a 0))] : List (Nat × Value))) e_6)) (congrArg (fun x9 : Int => ([(1, .int (iI ((wcC mf pr (c + 1) : Nat) : Int))), (2, .int (iI x9)), (0, .ref (a 0))] : List (Nat × Value))) e_7))
      · skip
        refine lv_iload_n F.1 F.2.1 dX0_weakestChord_25 rfl (lv_at hl 1 rfl) ?_
        refine lv_istore_n (lv' := [(1, .int (iI ((c + 1 : Nat) : Int))), (2, .int (iI ((c + 1 : Nat) : Int))), (0, .ref (a 0))]) F.1 F.2.1 dX0_weakestChord_26 rfl hl (by decide) rfl (fun ls hl => ?_)
        refine lv_iinc (v := iI (((c + 1 : Nat) : Int) + 1)) (lv' := [(2, .int (iI (((c + 1 : Nat) : Int) + 1))), (1, .int (iI ((c + 1 : Nat) : Int))), (0, .ref (a 0))]) F.1 F.2.1 dX0_weakestChord_27 hl (k := 1) rfl (iI_add _ _) (by decide) rfl (fun ls hl => ?_)
        refine lv_goto (tgt := 4) F.1 F.2.1 dX0_weakestChord_30 (by decide) ?_
        have e_8 : (((c + 1 : Nat) : Int) : Int) = ((wcC mf pr (c + 1) : Nat) : Int) := by rw [wcC_s]; first | rw [if_pos (by assumption)] | rw [if_neg (by omega)]
        have e_9 : ((((c + 1 : Nat) : Int) + 1) : Int) = ((c + 1 + 1 : Nat) : Int) := rfl
        exact ih _ (lv_to (lv_to (lv_sub hl [1, 0, 2] rfl) (congrArg (fun x9 : Int => ([(1, .int (iI x9)), (2, .int (iI (((c + 1 : Nat) : Int) + 1))), (0, .ref (a 0))] : List (Nat × Value))) e_8)) (congrArg (fun x9 : Int => ([(1, .int (iI ((wcC mf pr (c + 1) : Nat) : Int))), (2, .int (iI x9)), (0, .ref (a 0))] : List (Nat × Value))) e_9))
  have e_10 : (0 : Int) = ((wcC mf pr 0 : Nat) : Int) := rfl
  have e_11 : (1 : Int) = ((0 + 1 : Nat) : Int) := rfl
  exact J_1 0 (by omega) _ (lv_to (lv_to (lv_sub hl [1, 0, 2] rfl) (congrArg (fun x9 : Int => ([(1, .int (iI x9)), (2, .int (iI 1)), (0, .ref (a 0))] : List (Nat × Value))) e_10)) (congrArg (fun x9 : Int => ([(1, .int (iI ((wcC mf pr 0 : Nat) : Int))), (2, .int (iI x9)), (0, .ref (a 0))] : List (Nat × Value))) e_11))

set_option maxHeartbeats 4000000 in
set_option maxRecDepth 100000 in
theorem mX0_stepInto (l : Launch) (G : gT) (a : Nat → Nat) (tn pr mf : Nat → Int) (sz sc : Int) (c v : Nat) (hc : c + 1 < 16) (hv : v < 4) : Met l yX0_stepInto wsX0_stepInto { frames := 1, cells := 0, slots := 0, locals := 22 } (va_Pc [.ref (a 0), .int (iI ((c + 1 : Nat) : Int)), .int (iI (v : Int))] (rB G (PW G a tn pr mf sz sc))) (oI (stp tn c v)) 0 0 (fun _ => False) := by
  refine rd_start (own := RX0) (cc := cX0_stepInto) (mL := 3) (ret := (some .int)) (by decide) rfl rfl (Nat.le_of_ble_eq_true rfl) ?_
  intro pP eE sS mM args bB meth cC ls F hr hlocks hP hK hl
  have hl : lv_has ls 3 [(0, .ref (a 0)), (1, .int (iI ((c + 1 : Nat) : Int))), (2, .int (iI (v : Int)))] := hl
  refine lv_aload_n F.1 F.2.1 dX0_stepInto_0 rfl (lv_at hl 0 rfl) ?_
  refine lv_iload_n F.1 F.2.1 dX0_stepInto_1 rfl (lv_at hl 1 rfl) ?_
  refine lv_iload_n F.1 F.2.1 dX0_stepInto_2 rfl (lv_at hl 2 rfl) ?_
  refine rd_V F (n := 2) (w0 := []) (mX0_toneAt l G a tn pr mf sz sc (c + 1) v (by omega) (by omega)) gX0_stepInto_X0_toneAt rfl rfl rfl (by decide +kernel) ⟨Nat.le_of_ble_eq_true rfl, Nat.le_of_ble_eq_true rfl⟩ hK hP (ci := 0) (q0 := 0) rfl rfl rfl rfl hl.1 (Nat.le_of_ble_eq_true rfl) dX0_stepInto_3 ⟨Nat.zero_le _, Nat.zero_le _⟩ ?_
  refine lv_aload_n F.1 F.2.1 dX0_stepInto_6 rfl (lv_at hl 0 rfl) ?_
  refine lv_iload_n F.1 F.2.1 dX0_stepInto_7 rfl (lv_at hl 1 rfl) ?_
  refine k_iconst F dX0_stepInto_8 ?_
  refine k_isub F (z := (c : Int)) (by omega) dX0_stepInto_9 ?_
  refine lv_iload_n F.1 F.2.1 dX0_stepInto_10 rfl (lv_at hl 2 rfl) ?_
  refine rd_V F (n := 2) (w0 := []) (mX0_toneAt l G a tn pr mf sz sc c v (by omega) (by omega)) gX0_stepInto_X0_toneAt rfl rfl rfl (by decide +kernel) ⟨Nat.le_of_ble_eq_true rfl, Nat.le_of_ble_eq_true rfl⟩ hK hP (ci := 0) (q0 := 0) rfl rfl rfl rfl hl.1 (Nat.le_of_ble_eq_true rfl) dX0_stepInto_11 ⟨Nat.zero_le _, Nat.zero_le _⟩ ?_
  refine k_isub F rfl dX0_stepInto_14 ?_
  exact k_ret F hr hlocks rfl dX0_stepInto_15

set_option maxHeartbeats 4000000 in
set_option maxRecDepth 100000 in
theorem mX0_isTold (l : Launch) (G : gT) (w : va_W) (z : Int) (hz : 0 ≤ z ∧ z ≤ 60) : Met l yX0_isTold wsX0_isTold { frames := 0, cells := 0, slots := 0, locals := 0 } (va_Pc [.int (iI z)] (rB G (w))) (oI (bI (z % 12 = 0 ∨ z % 12 = 7))) 0 0 (fun _ => False) := by
  refine rd_start (own := RX0) (cc := cX0_isTold) (mL := 2) (ret := (some .boolean)) (by decide) rfl rfl (Nat.le_of_ble_eq_true rfl) ?_
  intro pP eE sS mM args bB meth cC ls F hr hlocks hP hK hl
  have hl : lv_has ls 2 [(0, .int (iI z))] := hl
  refine lv_iload_n F.1 F.2.1 dX0_isTold_0 rfl (lv_at hl 0 rfl) ?_
  refine k_bipush F dX0_isTold_1 (by decide +kernel) ?_
  refine k_irem F (z := (z % 12)) (by decide +kernel) (irem12 (by omega)) dX0_isTold_3 ?_
  refine lv_istore_n (lv' := [(1, .int (iI (z % 12))), (0, .int (iI z))]) F.1 F.2.1 dX0_isTold_4 rfl hl (by decide) rfl (fun ls hl => ?_)
  refine lv_iload_n F.1 F.2.1 dX0_isTold_5 rfl (lv_at hl 0 rfl) ?_
  refine k_if_eq F (tgt := 15) dX0_isTold_6 (by decide) (by omega) (fun c_1 => ?_) (fun c_1 => ?_)
  · skip
    refine k_iconst F dX0_isTold_15 ?_
    refine lv_goto (tgt := 20) F.1 F.2.1 dX0_isTold_16 (by decide) ?_
    exact k_zret F hr hlocks (bI_t (by omega)).symm (Or.inr rfl) dX0_isTold_20
  · skip
    refine lv_iload_n F.1 F.2.1 dX0_isTold_9 rfl (lv_at hl 0 rfl) ?_
    refine k_bipush F dX0_isTold_10 (by decide +kernel) ?_
    refine k_icmp_ne F (tgt := 19) dX0_isTold_12 (by decide) (by omega) (by decide) (fun c_2 => ?_) (fun c_2 => ?_)
    · skip
      refine k_iconst F dX0_isTold_19 ?_
      exact k_zret F hr hlocks (bI_f (by omega)).symm (Or.inl rfl) dX0_isTold_20
    · skip
      refine k_iconst F dX0_isTold_15 ?_
      refine lv_goto (tgt := 20) F.1 F.2.1 dX0_isTold_16 (by decide) ?_
      exact k_zret F hr hlocks (bI_t (by omega)).symm (Or.inr rfl) dX0_isTold_20

set_option maxHeartbeats 4000000 in
set_option maxRecDepth 100000 in
theorem mX0_isParallel (l : Launch) (G : gT) (a : Nat → Nat) (tn pr mf : Nat → Int) (sz sc : Int) (c x y : Nat) (hc : c + 1 < 16) (hxy : x < y) (hy : y < 4) (ht : ∀ j, 0 ≤ tn j ∧ tn j ≤ 60) (ho : ∀ c, tn (4 * c + 3) ≤ tn (4 * c + 2) ∧ tn (4 * c + 2) ≤ tn (4 * c + 1) ∧ tn (4 * c + 1) ≤ tn (4 * c)) : Met l yX0_isParallel wsX0_isParallel { frames := 2, cells := 0, slots := 0, locals := 44 } (va_Pc [.ref (a 0), .int (iI ((c + 1 : Nat) : Int)), .int (iI (x : Int)), .int (iI (y : Int))] (rB G (PW G a tn pr mf sz sc))) (oI (bI (prl tn c x y))) 0 0 (fun _ => False) := by
  refine rd_start (own := RX0) (cc := cX0_isParallel) (mL := 5) (ret := (some .boolean)) (by decide) rfl rfl (Nat.le_of_ble_eq_true rfl) ?_
  intro pP eE sS mM args bB meth cC ls F hr hlocks hP hK hl
  have b1 := ht (4 * (c + 1) + x)
  have b2 := ht (4 * (c + 1) + y)
  have b3 := ht (4 * c + x)
  have b4 := ht (4 * c + y)
  have b5 := t_ord ho (c := c + 1) (a := x) (b := y) (by omega) hy
  have b6 := stp_rg ht c x
  have b7 := stp_rg ht c y
  have hl : lv_has ls 5 [(0, .ref (a 0)), (1, .int (iI ((c + 1 : Nat) : Int))), (2, .int (iI (x : Int))), (3, .int (iI (y : Int)))] := hl
  refine lv_aload_n F.1 F.2.1 dX0_isParallel_0 rfl (lv_at hl 0 rfl) ?_
  refine lv_iload_n F.1 F.2.1 dX0_isParallel_1 rfl (lv_at hl 1 rfl) ?_
  refine lv_iload_n F.1 F.2.1 dX0_isParallel_2 rfl (lv_at hl 2 rfl) ?_
  refine rd_V F (n := 2) (w0 := []) (mX0_stepInto l G a tn pr mf sz sc c x (by omega) (by omega)) gX0_isParallel_X0_stepInto rfl rfl rfl (by decide +kernel) ⟨Nat.le_of_ble_eq_true rfl, Nat.le_of_ble_eq_true rfl⟩ hK hP (ci := 0) (q0 := 0) rfl rfl rfl rfl hl.1 (Nat.le_of_ble_eq_true rfl) dX0_isParallel_3 ⟨Nat.zero_le _, Nat.zero_le _⟩ ?_
  refine lv_istore (lv' := [(4, .int (iI (stp tn c x))), (0, .ref (a 0)), (1, .int (iI ((c + 1 : Nat) : Int))), (2, .int (iI (x : Int))), (3, .int (iI (y : Int)))]) F.1 F.2.1 dX0_isParallel_6 hl (by decide) rfl (fun ls hl => ?_)
  refine lv_iload F.1 F.2.1 dX0_isParallel_8 (lv_at hl 0 rfl) ?_
  refine k_if_eq F (tgt := 47) dX0_isParallel_10 (by decide) (by omega) (fun c_1 => ?_) (fun c_1 => ?_)
  · skip
    refine k_iconst F dX0_isParallel_47 ?_
    exact k_zret F hr hlocks (bI_f (by omega)).symm (Or.inl rfl) dX0_isParallel_48
  · skip
    refine lv_iload F.1 F.2.1 dX0_isParallel_13 (lv_at hl 0 rfl) ?_
    refine lv_aload_n F.1 F.2.1 dX0_isParallel_15 rfl (lv_at hl 1 rfl) ?_
    refine lv_iload_n F.1 F.2.1 dX0_isParallel_16 rfl (lv_at hl 2 rfl) ?_
    refine lv_iload_n F.1 F.2.1 dX0_isParallel_17 rfl (lv_at hl 4 rfl) ?_
    refine rd_V F (n := 2) (w0 := []) (mX0_stepInto l G a tn pr mf sz sc c y (by omega) (by omega)) gX0_isParallel_X0_stepInto rfl rfl rfl (by decide +kernel) ⟨Nat.le_of_ble_eq_true rfl, Nat.le_of_ble_eq_true rfl⟩ hK hP (ci := 0) (q0 := 0) rfl rfl rfl rfl hl.1 (Nat.le_of_ble_eq_true rfl) dX0_isParallel_18 ⟨Nat.zero_le _, Nat.zero_le _⟩ ?_
    refine k_icmp_ne F (tgt := 47) dX0_isParallel_21 (by decide) (by omega) (by omega) (fun c_2 => ?_) (fun c_2 => ?_)
    · skip
      refine k_iconst F dX0_isParallel_47 ?_
      exact k_zret F hr hlocks (bI_f (by omega)).symm (Or.inl rfl) dX0_isParallel_48
    · skip
      refine lv_aload_n F.1 F.2.1 dX0_isParallel_24 rfl (lv_at hl 1 rfl) ?_
      refine lv_iload_n F.1 F.2.1 dX0_isParallel_25 rfl (lv_at hl 2 rfl) ?_
      refine lv_iload_n F.1 F.2.1 dX0_isParallel_26 rfl (lv_at hl 3 rfl) ?_
      refine rd_V F (n := 2) (w0 := []) (mX0_toneAt l G a tn pr mf sz sc (c + 1) x (by omega) (by omega)) gX0_isParallel_X0_toneAt rfl rfl rfl (by decide +kernel) ⟨Nat.le_of_ble_eq_true rfl, Nat.le_of_ble_eq_true rfl⟩ hK hP (ci := 0) (q0 := 0) rfl rfl rfl rfl hl.1 (Nat.le_of_ble_eq_true rfl) dX0_isParallel_27 ⟨Nat.zero_le _, Nat.zero_le _⟩ ?_
      refine lv_aload_n F.1 F.2.1 dX0_isParallel_30 rfl (lv_at hl 1 rfl) ?_
      refine lv_iload_n F.1 F.2.1 dX0_isParallel_31 rfl (lv_at hl 2 rfl) ?_
      refine lv_iload_n F.1 F.2.1 dX0_isParallel_32 rfl (lv_at hl 4 rfl) ?_
      refine rd_V F (n := 2) (w0 := []) (mX0_toneAt l G a tn pr mf sz sc (c + 1) y (by omega) (by omega)) gX0_isParallel_X0_toneAt rfl rfl rfl (by decide +kernel) ⟨Nat.le_of_ble_eq_true rfl, Nat.le_of_ble_eq_true rfl⟩ hK hP (ci := 0) (q0 := 0) rfl rfl rfl rfl hl.1 (Nat.le_of_ble_eq_true rfl) dX0_isParallel_33 ⟨Nat.zero_le _, Nat.zero_le _⟩ ?_
      refine k_isub F rfl dX0_isParallel_36 ?_
      refine rd_S F (n := 1) (w0 := []) (mX0_isTold l G (PW G a tn pr mf sz sc) ((tn (4 * (c + 1) + x)) - (tn (4 * (c + 1) + y))) (by omega)) gX0_isParallel_X0_isTold rfl rfl rfl (by decide +kernel) ⟨Nat.le_of_ble_eq_true rfl, Nat.le_of_ble_eq_true rfl⟩ hK hP rfl rfl hl.1 (Nat.le_of_ble_eq_true rfl) dX0_isParallel_37 ⟨Nat.zero_le _, Nat.zero_le _⟩ ?_
      refine k_ifb_eq F (tgt := 47) dX0_isParallel_40 (by decide) (fun c_3 => ?_) (fun c_3 => ?_)
      · skip
        refine k_iconst F dX0_isParallel_47 ?_
        exact k_zret F hr hlocks (bI_f (by omega)).symm (Or.inl rfl) dX0_isParallel_48
      · skip
        refine k_iconst F dX0_isParallel_43 ?_
        refine lv_goto (tgt := 48) F.1 F.2.1 dX0_isParallel_44 (by decide) ?_
        exact k_zret F hr hlocks (bI_t (by omega)).symm (Or.inr rfl) dX0_isParallel_48
