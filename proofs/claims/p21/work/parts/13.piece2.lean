set_option maxHeartbeats 4000000 in
set_option maxRecDepth 100000 in
theorem mX0_putLength (l : Launch) (G : gT) (sz0 : Nat) (a : Nat → Nat) (tn pr mf : Nat → Int) (sz sc : Int) (x : Int)  : Met l yX0_putLength wsX0_putLength { frames := 0, cells := 0, slots := 0, locals := 0 } (va_Pc [.ref (a 0), .int (iI x)] (wB G (PW G a tn pr mf sz sc) sz0)) (wV G (PW G a tn pr mf sz x) (va_A (PW G a tn pr mf sz sc) sz0)) 0 0 (va_A (PW G a tn pr mf sz sc) sz0) := by
  refine wr_start (own := RX0) (cc := cX0_putLength) (mL := 2) (ret := none) (Qc := fun AA => wV G (PW G a tn pr mf sz x) AA) (by decide) rfl rfl (Nat.le_of_ble_eq_true rfl) ?_
  intro pP eE sS mM args bB meth cC ls AA F hr hlocks hin hK hsz0 hP hD hS hA hl
  have iX0 : ∀ x ∈ wsX00, x ∈ wsX0_putLength := by decide +kernel
  have f25 := k_cond F (w := .fieldLink RX0 25 "ChoirPlanner$Piece" "seconds" "I") (by decide +kernel)
  have hl : lv_has ls 2 [(0, .ref (a 0)), (1, .int (iI x))] := hl
  refine lv_aload_n F.1 F.2.1 dX0_putLength_0 rfl (lv_at hl 0 rfl) ?_
  refine lv_iload_n F.1 F.2.1 dX0_putLength_1 rfl (lv_at hl 1 rfl) ?_
  refine va_put (D := G.1) (ci := 0) (v := .int (iI x)) (ty := .int) (C := RX0) (T := TX0) (N := 5) F.1 F.2.1 F.2.2.2.2 iX0 tyX0 tyX0_ok nmX0 F.2.2.2.1 hK hP hD hS 0 rfl rfl 4 (by decide) f25 (fun _ h9 => h9) rfl (by decide +kernel) rfl rfl (Nat.le_of_ble_eq_true rfl) dX0_putLength_2 (fun H locs hP hD hS => ?_)
  have hP : gP G (PW G a tn pr mf sz x) H := hP
  have hD : va_D AA (PW G a tn pr mf sz x) := hD
  exact wr_vret F hr hlocks hP hS dX0_putLength_5

set_option maxHeartbeats 4000000 in
set_option maxRecDepth 100000 in
theorem mX0_countMoveFaults_n (l : Launch) (G : gT) (sz0 : Nat) (a : Nat → Nat) (tn pr mf : Nat → Int) (sz sc : Int) (c : Nat) (hz : 0 ≤ sz ∧ sz ≤ 16) (hc16 : c ≤ 16) (hc : ¬ (1 ≤ c ∧ (c : Int) < sz)) : Met l yX0_countMoveFaults wsX0_countMoveFaults { frames := 3, cells := 0, slots := 0, locals := 68 } (va_Pc [.ref (a 0), .int (iI (c : Int))] (wB G (PW G a tn pr mf sz sc) sz0)) (wV G (PW G a tn pr mf sz sc) (va_A (PW G a tn pr mf sz sc) sz0)) 0 0 (va_A (PW G a tn pr mf sz sc) sz0) := by
  refine wr_start (own := RX0) (cc := cX0_countMoveFaults) (mL := 5) (ret := none) (Qc := fun AA => wV G (PW G a tn pr mf sz sc) AA) (by decide) rfl rfl (Nat.le_of_ble_eq_true rfl) ?_
  intro pP eE sS mM args bB meth cC ls AA F hr hlocks hin hK hsz0 hP hD hS hA hl
  have iX0 : ∀ x ∈ wsX00, x ∈ wsX0_countMoveFaults := by decide +kernel
  have f21 := k_cond F (w := .fieldLink RX0 21 "ChoirPlanner$Piece" "size" "I") (by decide +kernel)
  have hl : lv_has ls 5 [(0, .ref (a 0)), (1, .int (iI (c : Int)))] := hl
  refine lv_iload_n F.1 F.2.1 dX0_countMoveFaults_0 rfl (lv_at hl 1 rfl) ?_
  refine k_iconst F dX0_countMoveFaults_1 ?_
  refine k_icmp_lt F (tgt := 13) dX0_countMoveFaults_2 (by decide) (by omega) (by decide) (fun c_1 => ?_) (fun c_1 => ?_)
  · skip
    exact wr_vret F hr hlocks hP hS dX0_countMoveFaults_13
  · skip
    refine lv_iload_n F.1 F.2.1 dX0_countMoveFaults_5 rfl (lv_at hl 1 rfl) ?_
    refine lv_aload_n F.1 F.2.1 dX0_countMoveFaults_6 rfl (lv_at hl 0 rfl) ?_
    refine k_get F hK hP iX0 0 rfl rfl 3 (by decide) f21 rfl rfl dX0_countMoveFaults_7 ?_
    refine k_icmp_lt F (tgt := 14) dX0_countMoveFaults_10 (by decide) (by omega) (by omega) (fun c_2 => absurd c_2 (by omega)) (fun c_2 => ?_)
    exact wr_vret F hr hlocks hP hS dX0_countMoveFaults_13

set_option maxHeartbeats 4000000 in
set_option maxRecDepth 100000 in
theorem mX0_countMoveFaults_y (l : Launch) (G : gT) (sz0 : Nat) (a : Nat → Nat) (tn pr mf : Nat → Int) (sz sc : Int) (c : Nat) (hz : 0 ≤ sz ∧ sz ≤ 16) (hc : ((c + 1 : Nat) : Int) < sz) (ht : ∀ j, 0 ≤ tn j ∧ tn j ≤ 60) (ho : ∀ c, tn (4 * c + 3) ≤ tn (4 * c + 2) ∧ tn (4 * c + 2) ≤ tn (4 * c + 1) ∧ tn (4 * c + 1) ≤ tn (4 * c)) : Met l yX0_countMoveFaults wsX0_countMoveFaults { frames := 3, cells := 0, slots := 0, locals := 68 } (va_Pc [.ref (a 0), .int (iI ((c + 1 : Nat) : Int))] (wB G (PW G a tn pr mf sz sc) sz0)) (wV G (PW G a tn pr (uI mf (c + 1) (mvf tn (c + 1))) sz sc) (va_A (PW G a tn pr mf sz sc) sz0)) 0 0 (va_A (PW G a tn pr mf sz sc) sz0) := by
  refine wr_start (own := RX0) (cc := cX0_countMoveFaults) (mL := 5) (ret := none) (Qc := fun AA => wV G (PW G a tn pr (uI mf (c + 1) (mvf tn (c + 1))) sz sc) AA) (by decide) rfl rfl (Nat.le_of_ble_eq_true rfl) ?_
  intro pP eE sS mM args bB meth cC ls AA F hr hlocks hin hK hsz0 hP hD hS hA hl
  have iX0 : ∀ x ∈ wsX00, x ∈ wsX0_countMoveFaults := by decide +kernel
  have f18 := k_cond F (w := .fieldLink RX0 18 "ChoirPlanner$Piece" "moveFaults" "[I") (by decide +kernel)
  have f21 := k_cond F (w := .fieldLink RX0 21 "ChoirPlanner$Piece" "size" "I") (by decide +kernel)
  have hl : lv_has ls 5 [(0, .ref (a 0)), (1, .int (iI ((c + 1 : Nat) : Int)))] := hl
  refine lv_iload_n F.1 F.2.1 dX0_countMoveFaults_0 rfl (lv_at hl 1 rfl) ?_
  refine k_iconst F dX0_countMoveFaults_1 ?_
  refine k_icmp_lt F (tgt := 13) dX0_countMoveFaults_2 (by decide) (by omega) (by decide) (fun c_1 => absurd c_1 (by omega)) (fun c_1 => ?_)
  refine lv_iload_n F.1 F.2.1 dX0_countMoveFaults_5 rfl (lv_at hl 1 rfl) ?_
  refine lv_aload_n F.1 F.2.1 dX0_countMoveFaults_6 rfl (lv_at hl 0 rfl) ?_
  refine k_get F hK hP iX0 0 rfl rfl 3 (by decide) f21 rfl rfl dX0_countMoveFaults_7 ?_
  refine k_icmp_lt F (tgt := 14) dX0_countMoveFaults_10 (by decide) (by omega) (by omega) (fun c_2 => ?_) (fun c_2 => absurd c_2 (by omega))
  refine k_iconst F dX0_countMoveFaults_14 ?_
  refine lv_istore_n (lv' := [(2, .int (iI 0)), (0, .ref (a 0)), (1, .int (iI ((c + 1 : Nat) : Int)))]) F.1 F.2.1 dX0_countMoveFaults_15 rfl hl (by decide) rfl (fun ls hl => ?_)
  refine k_iconst F dX0_countMoveFaults_16 ?_
  refine lv_istore_n (lv' := [(3, .int (iI 0)), (2, .int (iI 0)), (0, .ref (a 0)), (1, .int (iI ((c + 1 : Nat) : Int)))]) F.1 F.2.1 dX0_countMoveFaults_17 rfl hl (by decide) rfl (fun ls hl => ?_)
  have J_3 : ∀ a0 : Nat, a0 ≤ 4 → ∀ ls : Array Slot, lv_has ls 5 [(2, .int (iI (fou tn c a0))), (3, .int (iI (a0 : Int))), (0, .ref (a 0)), (1, .int (iI ((c + 1 : Nat) : Int)))] → W pP l eE ({ frames := 3, cells := 0, slots := 0, locals := 68 }) sS mM args bB meth cC sS.heap [] 0 0 (MQ bB (wV G (PW G a tn pr (uI mf (c + 1) (mvf tn (c + 1))) sz sc) AA) args sS 0 0 AA) (F0 mM 18 ls []) := by
    refine lp_up (4) ?_ ?_
    · intro ls hl
      refine lv_iload_n F.1 F.2.1 dX0_countMoveFaults_18 rfl (lv_at hl 1 rfl) ?_
      refine k_iconst F dX0_countMoveFaults_19 ?_
      refine k_icmp_ge F (tgt := 77) dX0_countMoveFaults_20 (by decide) (by omega) (by decide) (fun c_5 => ?_) (fun c_5 => absurd c_5 (by omega))
      refine lv_aload_n F.1 F.2.1 dX0_countMoveFaults_77 rfl (lv_at hl 2 rfl) ?_
      refine k_get F hK hP iX0 0 rfl rfl 2 (by decide) f18 rfl rfl dX0_countMoveFaults_78 ?_
      refine lv_iload_n F.1 F.2.1 dX0_countMoveFaults_81 rfl (lv_at hl 3 rfl) ?_
      refine lv_iload_n F.1 F.2.1 dX0_countMoveFaults_82 rfl (lv_at hl 0 rfl) ?_
      refine k_iast F hK hP hD hS 3 rfl (c + 1) (by omega) (by omega) (by decide) dX0_countMoveFaults_83 (fun H locs hP hD hS => ?_)
      have hP : gP G (PW G a tn pr (uI mf (c + 1) (fou tn c 4)) sz sc) H := hP
      have hD : va_D AA (PW G a tn pr (uI mf (c + 1) (fou tn c 4)) sz sc) := hD
      exact wr_vret F hr hlocks hP hS dX0_countMoveFaults_84
    · intro a0 hk9 ih ls hl
      have b5 := stp_rg ht c a0
      refine lv_iload_n F.1 F.2.1 dX0_countMoveFaults_18 rfl (lv_at hl 1 rfl) ?_
      refine k_iconst F dX0_countMoveFaults_19 ?_
      refine k_icmp_ge F (tgt := 77) dX0_countMoveFaults_20 (by decide) (by omega) (by decide) (fun c_6 => absurd c_6 (by omega)) (fun c_6 => ?_)
      refine lv_aload_n F.1 F.2.1 dX0_countMoveFaults_23 rfl (lv_at hl 2 rfl) ?_
      refine lv_iload_n F.1 F.2.1 dX0_countMoveFaults_24 rfl (lv_at hl 3 rfl) ?_
      refine lv_iload_n F.1 F.2.1 dX0_countMoveFaults_25 rfl (lv_at hl 1 rfl) ?_
      refine rd_V F (n := 2) (w0 := []) (mX0_stepInto l G a tn pr mf sz sc c a0 (by omega) (by omega)) gX0_countMoveFaults_X0_stepInto rfl rfl rfl (by decide +kernel) ⟨Nat.le_of_ble_eq_true rfl, Nat.le_of_ble_eq_true rfl⟩ hK hP (ci := 0) (q0 := 0) rfl rfl rfl rfl hl.1 (Nat.le_of_ble_eq_true rfl) dX0_countMoveFaults_26 ⟨Nat.zero_le _, Nat.zero_le _⟩ ?_
      refine k_mabs F hl.1 (k_cond F (w := .methodLink RX0 68 Lib.Math.abs.name) (by decide +kernel)) (k_cond F (w := .static Lib.Math.abs.name) (by decide +kernel)) (k_cond F (w := .initialized "java/lang/Math") (by decide +kernel)) (k_cond F (w := .code Lib.Math.abs.name Lib.Math.abs.code 1 (some .int)) (by decide +kernel)) (Nat.le_of_ble_eq_true rfl) (Nat.le_of_ble_eq_true rfl) (Nat.zero_le _) (Nat.zero_le _) (by omega) dX0_countMoveFaults_29 ?_
      refine k_bipush F dX0_countMoveFaults_32 (by decide +kernel) ?_
      refine k_icmp_le F (tgt := 40) dX0_countMoveFaults_34 (by decide) (absI_rg (by omega)) (by decide) (fun c_7 => ?_) (fun c_7 => ?_)
      · skip
        refine lv_iload_n F.1 F.2.1 dX0_countMoveFaults_40 rfl (lv_at hl 1 rfl) ?_
        refine k_iconst F dX0_countMoveFaults_41 ?_
        refine k_iadd F rfl dX0_countMoveFaults_42 ?_
        refine lv_istore (lv' := [(4, .int (iI ((a0 : Int) + 1))), (2, .int (iI (fou tn c a0))), (3, .int (iI (a0 : Int))), (0, .ref (a 0)), (1, .int (iI ((c + 1 : Nat) : Int)))]) F.1 F.2.1 dX0_countMoveFaults_43 hl (by decide) rfl (fun ls hl => ?_)
        have J_8 : ∀ q : Nat, q ≤ (3 - a0) → ∀ ls : Array Slot, lv_has ls 5 [(4, .int (iI ((a0 + 1 + q : Nat) : Int))), (2, .int (iI (fou tn c a0 + fin tn c a0 q))), (3, .int (iI (a0 : Int))), (0, .ref (a 0)), (1, .int (iI ((c + 1 : Nat) : Int)))] → W pP l eE ({ frames := 3, cells := 0, slots := 0, locals := 68 }) sS mM args bB meth cC sS.heap [] 0 0 (MQ bB (wV G (PW G a tn pr (uI mf (c + 1) (mvf tn (c + 1))) sz sc) AA) args sS 0 0 AA) (F0 mM 45 ls []) := by
          refine lp_up ((3 - a0)) ?_ ?_
          · intro ls hl
            refine lv_iload F.1 F.2.1 dX0_countMoveFaults_45 (lv_at hl 0 rfl) ?_
            refine k_iconst F dX0_countMoveFaults_47 ?_
            refine k_icmp_ge F (tgt := 71) dX0_countMoveFaults_48 (by decide) (by omega) (by decide) (fun c_10 => ?_) (fun c_10 => absurd c_10 (by omega))
            refine lv_iinc (v := iI ((a0 : Int) + 1)) (lv' := [(3, .int (iI ((a0 : Int) + 1))), (4, .int (iI ((a0 + 1 + (3 - a0) : Nat) : Int))), (2, .int (iI (fou tn c a0 + fin tn c a0 (3 - a0)))), (0, .ref (a 0)), (1, .int (iI ((c + 1 : Nat) : Int)))]) F.1 F.2.1 dX0_countMoveFaults_71 hl (k := 2) rfl (iI_add _ _) (by decide) rfl (fun ls hl => ?_)
            refine lv_goto (tgt := 18) F.1 F.2.1 dX0_countMoveFaults_74 (by decide) ?_
            have e_11 : ((fou tn c a0 + fin tn c a0 (3 - a0)) : Int) = fou tn c (a0 + 1) := by rw [fou_s, lpf]; first | (rw [if_pos (absI_le.mp (by assumption))] <;> omega) | (rw [if_neg (fun q => by have := absI_le.mpr q; omega)] <;> omega)
            have e_12 : (((a0 : Int) + 1) : Int) = ((a0 + 1 : Nat) : Int) := rfl
            exact ih _ (lv_to (lv_to (lv_sub hl [2, 0, 3, 4] rfl) (congrArg (fun x9 : Int => ([(2, .int (iI x9)), (3, .int (iI ((a0 : Int) + 1))), (0, .ref (a 0)), (1, .int (iI ((c + 1 : Nat) : Int)))] : List (Nat × Value))) e_11)) (congrArg (fun x9 : Int => ([(2, .int (iI (fou tn c (a0 + 1)))), (3, .int (iI x9)), (0, .ref (a 0)), (1, .int (iI ((c + 1 : Nat) : Int)))] : List (Nat × Value))) e_12))
          · intro q hk9 ih ls hl
            refine lv_iload F.1 F.2.1 dX0_countMoveFaults_45 (lv_at hl 0 rfl) ?_
            refine k_iconst F dX0_countMoveFaults_47 ?_
            refine k_icmp_ge F (tgt := 71) dX0_countMoveFaults_48 (by decide) (by omega) (by decide) (fun c_13 => absurd c_13 (by omega)) (fun c_13 => ?_)
            refine lv_aload_n F.1 F.2.1 dX0_countMoveFaults_51 rfl (lv_at hl 3 rfl) ?_
            refine lv_iload_n F.1 F.2.1 dX0_countMoveFaults_52 rfl (lv_at hl 4 rfl) ?_
            refine lv_iload_n F.1 F.2.1 dX0_countMoveFaults_53 rfl (lv_at hl 2 rfl) ?_
            refine lv_iload F.1 F.2.1 dX0_countMoveFaults_54 (lv_at hl 0 rfl) ?_
            refine rd_V F (n := 3) (w0 := []) (mX0_isParallel l G a tn pr mf sz sc c a0 (a0 + 1 + q) (by omega) (by omega) (by omega) ht ho) gX0_countMoveFaults_X0_isParallel rfl rfl rfl (by decide +kernel) ⟨Nat.le_of_ble_eq_true rfl, Nat.le_of_ble_eq_true rfl⟩ hK hP (ci := 0) (q0 := 0) rfl rfl rfl rfl hl.1 (Nat.le_of_ble_eq_true rfl) dX0_countMoveFaults_56 ⟨Nat.zero_le _, Nat.zero_le _⟩ ?_
            refine k_ifb_eq F (tgt := 65) dX0_countMoveFaults_59 (by decide) (fun c_14 => ?_) (fun c_14 => ?_)
            · skip
              refine lv_iinc (v := iI (((a0 + 1 + q : Nat) : Int) + 1)) (lv' := [(4, .int (iI (((a0 + 1 + q : Nat) : Int) + 1))), (2, .int (iI (fou tn c a0 + fin tn c a0 q))), (3, .int (iI (a0 : Int))), (0, .ref (a 0)), (1, .int (iI ((c + 1 : Nat) : Int)))]) F.1 F.2.1 dX0_countMoveFaults_65 hl (k := 0) rfl (iI_add _ _) (by decide) rfl (fun ls hl => ?_)
              refine lv_goto (tgt := 45) F.1 F.2.1 dX0_countMoveFaults_68 (by decide) ?_
              have e_15 : ((((a0 + 1 + q : Nat) : Int) + 1) : Int) = ((a0 + 1 + (q + 1) : Nat) : Int) := rfl
              have e_16 : ((fou tn c a0 + fin tn c a0 q) : Int) = (fou tn c a0 + fin tn c a0 (q + 1)) := by rw [fin_s]; first | (rw [if_pos (by assumption)] <;> omega) | (rw [if_neg (by assumption)] <;> omega)
              exact ih _ (lv_to (lv_to (lv_sub hl [0, 1, 2, 3, 4] rfl) (congrArg (fun x9 : Int => ([(4, .int (iI x9)), (2, .int (iI (fou tn c a0 + fin tn c a0 q))), (3, .int (iI (a0 : Int))), (0, .ref (a 0)), (1, .int (iI ((c + 1 : Nat) : Int)))] : List (Nat × Value))) e_15)) (congrArg (fun x9 : Int => ([(4, .int (iI ((a0 + 1 + (q + 1) : Nat) : Int))), (2, .int (iI x9)), (3, .int (iI (a0 : Int))), (0, .ref (a 0)), (1, .int (iI ((c + 1 : Nat) : Int)))] : List (Nat × Value))) e_16))
            · skip
              refine lv_iinc (v := iI ((fou tn c a0 + fin tn c a0 q) + 3)) (lv' := [(2, .int (iI ((fou tn c a0 + fin tn c a0 q) + 3))), (4, .int (iI ((a0 + 1 + q : Nat) : Int))), (3, .int (iI (a0 : Int))), (0, .ref (a 0)), (1, .int (iI ((c + 1 : Nat) : Int)))]) F.1 F.2.1 dX0_countMoveFaults_62 hl (k := 1) rfl (iI_add _ _) (by decide) rfl (fun ls hl => ?_)
              refine lv_iinc (v := iI (((a0 + 1 + q : Nat) : Int) + 1)) (lv' := [(4, .int (iI (((a0 + 1 + q : Nat) : Int) + 1))), (2, .int (iI ((fou tn c a0 + fin tn c a0 q) + 3))), (3, .int (iI (a0 : Int))), (0, .ref (a 0)), (1, .int (iI ((c + 1 : Nat) : Int)))]) F.1 F.2.1 dX0_countMoveFaults_65 hl (k := 1) rfl (iI_add _ _) (by decide) rfl (fun ls hl => ?_)
              refine lv_goto (tgt := 45) F.1 F.2.1 dX0_countMoveFaults_68 (by decide) ?_
              have e_17 : ((((a0 + 1 + q : Nat) : Int) + 1) : Int) = ((a0 + 1 + (q + 1) : Nat) : Int) := rfl
              have e_18 : (((fou tn c a0 + fin tn c a0 q) + 3) : Int) = (fou tn c a0 + fin tn c a0 (q + 1)) := by rw [fin_s]; first | (rw [if_pos (by assumption)] <;> omega) | (rw [if_neg (by assumption)] <;> omega)
              exact ih _ (lv_to (lv_to (lv_sub hl [0, 1, 2, 3, 4] rfl) (congrArg (fun x9 : Int => ([(4, .int (iI x9)), (2, .int (iI ((fou tn c a0 + fin tn c a0 q) + 3))), (3, .int (iI (a0 : Int))), (0, .ref (a 0)), (1, .int (iI ((c + 1 : Nat) : Int)))] : List (Nat × Value))) e_17)) (congrArg (fun x9 : Int => ([(4, .int (iI ((a0 + 1 + (q + 1) : Nat) : Int))), (2, .int (iI x9)), (3, .int (iI (a0 : Int))), (0, .ref (a 0)), (1, .int (iI ((c + 1 : Nat) : Int)))] : List (Nat × Value))) e_18))
        have e_19 : (((a0 : Int) + 1) : Int) = ((a0 + 1 + 0 : Nat) : Int) := rfl
        have e_20 : (fou tn c a0 : Int) = (fou tn c a0 + fin tn c a0 0) := by simp [fin]
        exact J_8 0 (by omega) _ (lv_to (lv_to (lv_sub hl [0, 1, 2, 3, 4] rfl) (congrArg (fun x9 : Int => ([(4, .int (iI x9)), (2, .int (iI (fou tn c a0))), (3, .int (iI (a0 : Int))), (0, .ref (a 0)), (1, .int (iI ((c + 1 : Nat) : Int)))] : List (Nat × Value))) e_19)) (congrArg (fun x9 : Int => ([(4, .int (iI ((a0 + 1 + 0 : Nat) : Int))), (2, .int (iI x9)), (3, .int (iI (a0 : Int))), (0, .ref (a 0)), (1, .int (iI ((c + 1 : Nat) : Int)))] : List (Nat × Value))) e_20))
      · skip
        refine lv_iinc (v := iI (fou tn c a0 + 1)) (lv' := [(2, .int (iI (fou tn c a0 + 1))), (3, .int (iI (a0 : Int))), (0, .ref (a 0)), (1, .int (iI ((c + 1 : Nat) : Int)))]) F.1 F.2.1 dX0_countMoveFaults_37 hl (k := 0) rfl (iI_add _ _) (by decide) rfl (fun ls hl => ?_)
        refine lv_iload_n F.1 F.2.1 dX0_countMoveFaults_40 rfl (lv_at hl 1 rfl) ?_
        refine k_iconst F dX0_countMoveFaults_41 ?_
        refine k_iadd F rfl dX0_countMoveFaults_42 ?_
        refine lv_istore (lv' := [(4, .int (iI ((a0 : Int) + 1))), (2, .int (iI (fou tn c a0 + 1))), (3, .int (iI (a0 : Int))), (0, .ref (a 0)), (1, .int (iI ((c + 1 : Nat) : Int)))]) F.1 F.2.1 dX0_countMoveFaults_43 hl (by decide) rfl (fun ls hl => ?_)
        have J_21 : ∀ q : Nat, q ≤ (3 - a0) → ∀ ls : Array Slot, lv_has ls 5 [(4, .int (iI ((a0 + 1 + q : Nat) : Int))), (2, .int (iI ((fou tn c a0 + 1) + fin tn c a0 q))), (3, .int (iI (a0 : Int))), (0, .ref (a 0)), (1, .int (iI ((c + 1 : Nat) : Int)))] → W pP l eE ({ frames := 3, cells := 0, slots := 0, locals := 68 }) sS mM args bB meth cC sS.heap [] 0 0 (MQ bB (wV G (PW G a tn pr (uI mf (c + 1) (mvf tn (c + 1))) sz sc) AA) args sS 0 0 AA) (F0 mM 45 ls []) := by
          refine lp_up ((3 - a0)) ?_ ?_
          · intro ls hl
            refine lv_iload F.1 F.2.1 dX0_countMoveFaults_45 (lv_at hl 0 rfl) ?_
            refine k_iconst F dX0_countMoveFaults_47 ?_
            refine k_icmp_ge F (tgt := 71) dX0_countMoveFaults_48 (by decide) (by omega) (by decide) (fun c_23 => ?_) (fun c_23 => absurd c_23 (by omega))
            refine lv_iinc (v := iI ((a0 : Int) + 1)) (lv' := [(3, .int (iI ((a0 : Int) + 1))), (4, .int (iI ((a0 + 1 + (3 - a0) : Nat) : Int))), (2, .int (iI ((fou tn c a0 + 1) + fin tn c a0 (3 - a0)))), (0, .ref (a 0)), (1, .int (iI ((c + 1 : Nat) : Int)))]) F.1 F.2.1 dX0_countMoveFaults_71 hl (k := 2) rfl (iI_add _ _) (by decide) rfl (fun ls hl => ?_)
            refine lv_goto (tgt := 18) F.1 F.2.1 dX0_countMoveFaults_74 (by decide) ?_
            have e_24 : (((fou tn c a0 + 1) + fin tn c a0 (3 - a0)) : Int) = fou tn c (a0 + 1) := by rw [fou_s, lpf]; first | (rw [if_pos (absI_le.mp (by assumption))] <;> omega) | (rw [if_neg (fun q => by have := absI_le.mpr q; omega)] <;> omega)
            have e_25 : (((a0 : Int) + 1) : Int) = ((a0 + 1 : Nat) : Int) := rfl
            exact ih _ (lv_to (lv_to (lv_sub hl [2, 0, 3, 4] rfl) (congrArg (fun x9 : Int => ([(2, .int (iI x9)), (3, .int (iI ((a0 : Int) + 1))), (0, .ref (a 0)), (1, .int (iI ((c + 1 : Nat) : Int)))] : List (Nat × Value))) e_24)) (congrArg (fun x9 : Int => ([(2, .int (iI (fou tn c (a0 + 1)))), (3, .int (iI x9)), (0, .ref (a 0)), (1, .int (iI ((c + 1 : Nat) : Int)))] : List (Nat × Value))) e_25))
          · intro q hk9 ih ls hl
            refine lv_iload F.1 F.2.1 dX0_countMoveFaults_45 (lv_at hl 0 rfl) ?_
            refine k_iconst F dX0_countMoveFaults_47 ?_
            refine k_icmp_ge F (tgt := 71) dX0_countMoveFaults_48 (by decide) (by omega) (by decide) (fun c_26 => absurd c_26 (by omega)) (fun c_26 => ?_)
            refine lv_aload_n F.1 F.2.1 dX0_countMoveFaults_51 rfl (lv_at hl 3 rfl) ?_
            refine lv_iload_n F.1 F.2.1 dX0_countMoveFaults_52 rfl (lv_at hl 4 rfl) ?_
            refine lv_iload_n F.1 F.2.1 dX0_countMoveFaults_53 rfl (lv_at hl 2 rfl) ?_
            refine lv_iload F.1 F.2.1 dX0_countMoveFaults_54 (lv_at hl 0 rfl) ?_
            refine rd_V F (n := 3) (w0 := []) (mX0_isParallel l G a tn pr mf sz sc c a0 (a0 + 1 + q) (by omega) (by omega) (by omega) ht ho) gX0_countMoveFaults_X0_isParallel rfl rfl rfl (by decide +kernel) ⟨Nat.le_of_ble_eq_true rfl, Nat.le_of_ble_eq_true rfl⟩ hK hP (ci := 0) (q0 := 0) rfl rfl rfl rfl hl.1 (Nat.le_of_ble_eq_true rfl) dX0_countMoveFaults_56 ⟨Nat.zero_le _, Nat.zero_le _⟩ ?_
            refine k_ifb_eq F (tgt := 65) dX0_countMoveFaults_59 (by decide) (fun c_27 => ?_) (fun c_27 => ?_)
            · skip
              refine lv_iinc (v := iI (((a0 + 1 + q : Nat) : Int) + 1)) (lv' := [(4, .int (iI (((a0 + 1 + q : Nat) : Int) + 1))), (2, .int (iI ((fou tn c a0 + 1) + fin tn c a0 q))), (3, .int (iI (a0 : Int))), (0, .ref (a 0)), (1, .int (iI ((c + 1 : Nat) : Int)))]) F.1 F.2.1 dX0_countMoveFaults_65 hl (k := 0) rfl (iI_add _ _) (by decide) rfl (fun ls hl => ?_)
              refine lv_goto (tgt := 45) F.1 F.2.1 dX0_countMoveFaults_68 (by decide) ?_
              have e_28 : ((((a0 + 1 + q : Nat) : Int) + 1) : Int) = ((a0 + 1 + (q + 1) : Nat) : Int) := rfl
              have e_29 : (((fou tn c a0 + 1) + fin tn c a0 q) : Int) = ((fou tn c a0 + 1) + fin tn c a0 (q + 1)) := by rw [fin_s]; first | (rw [if_pos (by assumption)] <;> omega) | (rw [if_neg (by assumption)] <;> omega)
              exact ih _ (lv_to (lv_to (lv_sub hl [0, 1, 2, 3, 4] rfl) (congrArg (fun x9 : Int => ([(4, .int (iI x9)), (2, .int (iI ((fou tn c a0 + 1) + fin tn c a0 q))), (3, .int (iI (a0 : Int))), (0, .ref (a 0)), (1, .int (iI ((c + 1 : Nat) : Int)))] : List (Nat × Value))) e_28)) (congrArg (fun x9 : Int => ([(4, .int (iI ((a0 + 1 + (q + 1) : Nat) : Int))), (2, .int (iI x9)), (3, .int (iI (a0 : Int))), (0, .ref (a 0)), (1, .int (iI ((c + 1 : Nat) : Int)))] : List (Nat × Value))) e_29))
            · skip
              refine lv_iinc (v := iI (((fou tn c a0 + 1) + fin tn c a0 q) + 3)) (lv' := [(2, .int (iI (((fou tn c a0 + 1) + fin tn c a0 q) + 3))), (4, .int (iI ((a0 + 1 + q : Nat) : Int))), (3, .int (iI (a0 : Int))), (0, .ref (a 0)), (1, .int (iI ((c + 1 : Nat) : Int)))]) F.1 F.2.1 dX0_countMoveFaults_62 hl (k := 1) rfl (iI_add _ _) (by decide) rfl (fun ls hl => ?_)
              refine lv_iinc (v := iI (((a0 + 1 + q : Nat) : Int) + 1)) (lv' := [(4, .int (iI (((a0 + 1 + q : Nat) : Int) + 1))), (2, .int (iI (((fou tn c a0 + 1) + fin tn c a0 q) + 3))), (3, .int (iI (a0 : Int))), (0, .ref (a 0)), (1, .int (iI ((c + 1 : Nat) : Int)))]) F.1 F.2.1 dX0_countMoveFaults_65 hl (k := 1) rfl (iI_add _ _) (by decide) rfl (fun ls hl => ?_)
              refine lv_goto (tgt := 45) F.1 F.2.1 dX0_countMoveFaults_68 (by decide) ?_
              have e_30 : ((((a0 + 1 + q : Nat) : Int) + 1) : Int) = ((a0 + 1 + (q + 1) : Nat) : Int) := rfl
              have e_31 : ((((fou tn c a0 + 1) + fin tn c a0 q) + 3) : Int) = ((fou tn c a0 + 1) + fin tn c a0 (q + 1)) := by rw [fin_s]; first | (rw [if_pos (by assumption)] <;> omega) | (rw [if_neg (by assumption)] <;> omega)
              exact ih _ (lv_to (lv_to (lv_sub hl [0, 1, 2, 3, 4] rfl) (congrArg (fun x9 : Int => ([(4, .int (iI x9)), (2, .int (iI (((fou tn c a0 + 1) + fin tn c a0 q) + 3))), (3, .int (iI (a0 : Int))), (0, .ref (a 0)), (1, .int (iI ((c + 1 : Nat) : Int)))] : List (Nat × Value))) e_30)) (congrArg (fun x9 : Int => ([(4, .int (iI ((a0 + 1 + (q + 1) : Nat) : Int))), (2, .int (iI x9)), (3, .int (iI (a0 : Int))), (0, .ref (a 0)), (1, .int (iI ((c + 1 : Nat) : Int)))] : List (Nat × Value))) e_31))
        have e_32 : (((a0 : Int) + 1) : Int) = ((a0 + 1 + 0 : Nat) : Int) := rfl
        have e_33 : ((fou tn c a0 + 1) : Int) = ((fou tn c a0 + 1) + fin tn c a0 0) := by simp [fin]
        exact J_21 0 (by omega) _ (lv_to (lv_to (lv_sub hl [0, 1, 2, 3, 4] rfl) (congrArg (fun x9 : Int => ([(4, .int (iI x9)), (2, .int (iI (fou tn c a0 + 1))), (3, .int (iI (a0 : Int))), (0, .ref (a 0)), (1, .int (iI ((c + 1 : Nat) : Int)))] : List (Nat × Value))) e_32)) (congrArg (fun x9 : Int => ([(4, .int (iI ((a0 + 1 + 0 : Nat) : Int))), (2, .int (iI x9)), (3, .int (iI (a0 : Int))), (0, .ref (a 0)), (1, .int (iI ((c + 1 : Nat) : Int)))] : List (Nat × Value))) e_33))
  have e_34 : (0 : Int) = fou tn c 0 := rfl
  have e_35 : (0 : Int) = ((0 : Nat) : Int) := rfl
  exact J_3 0 (by omega) _ (lv_to (lv_to (lv_sub hl [1, 0, 2, 3] rfl) (congrArg (fun x9 : Int => ([(2, .int (iI x9)), (3, .int (iI 0)), (0, .ref (a 0)), (1, .int (iI ((c + 1 : Nat) : Int)))] : List (Nat × Value))) e_34)) (congrArg (fun x9 : Int => ([(2, .int (iI (fou tn c 0))), (3, .int (iI x9)), (0, .ref (a 0)), (1, .int (iI ((c + 1 : Nat) : Int)))] : List (Nat × Value))) e_35))

theorem mX0_countMoveFaults (l : Launch) (G : gT) (sz0 : Nat) (a : Nat → Nat) (tn pr mf : Nat → Int) (sz sc : Int) (c : Nat) (hz : 0 ≤ sz ∧ sz ≤ 16) (hc16 : c ≤ 16) (ht : ∀ j, 0 ≤ tn j ∧ tn j ≤ 60) (ho : ∀ c, tn (4 * c + 3) ≤ tn (4 * c + 2) ∧ tn (4 * c + 2) ≤ tn (4 * c + 1) ∧ tn (4 * c + 1) ≤ tn (4 * c)) : Met l yX0_countMoveFaults wsX0_countMoveFaults { frames := 3, cells := 0, slots := 0, locals := 68 } (va_Pc [.ref (a 0), .int (iI (c : Int))] (wB G (PW G a tn pr mf sz sc) sz0)) (wV G (PW G a tn pr (cmf tn sz mf c) sz sc) (va_A (PW G a tn pr mf sz sc) sz0)) 0 0 (va_A (PW G a tn pr mf sz sc) sz0) := by
  by_cases h : 1 ≤ c ∧ (c : Int) < sz
  · obtain ⟨c', rfl⟩ : ∃ c', c = c' + 1 := ⟨c - 1, by omega⟩
    rw [show cmf tn sz mf (c' + 1) = uI mf (c' + 1) (mvf tn (c' + 1)) from if_pos h]
    exact mX0_countMoveFaults_y l G sz0 a tn pr mf sz sc c' hz h.2 ht ho
  · rw [show cmf tn sz mf c = mf from if_neg h]
    exact mX0_countMoveFaults_n l G sz0 a tn pr mf sz sc c hz hc16 h

set_option maxHeartbeats 4000000 in
set_option maxRecDepth 100000 in
theorem mX0_putTone (l : Launch) (G : gT) (sz0 : Nat) (a : Nat → Nat) (tn pr mf : Nat → Int) (sz sc : Int) (c v : Nat) (x : Int) (hc : c < 16) (hv : v < 4) (hz : 0 ≤ sz ∧ sz ≤ 16) (ht : ∀ j, 0 ≤ (uI tn (4 * c + v) x) j ∧ (uI tn (4 * c + v) x) j ≤ 60) (ho : ∀ d, (uI tn (4 * c + v) x) (4 * d + 3) ≤ (uI tn (4 * c + v) x) (4 * d + 2) ∧ (uI tn (4 * c + v) x) (4 * d + 2) ≤ (uI tn (4 * c + v) x) (4 * d + 1) ∧ (uI tn (4 * c + v) x) (4 * d + 1) ≤ (uI tn (4 * c + v) x) (4 * d)) : Met l yX0_putTone wsX0_putTone { frames := 4, cells := 0, slots := 0, locals := 92 } (va_Pc [.ref (a 0), .int (iI (c : Int)), .int (iI (v : Int)), .int (iI x)] (wB G (PW G a tn pr mf sz sc) sz0)) (wV G (PW G a (uI tn (4 * c + v) x) pr (cmf (uI tn (4 * c + v) x) sz (cmf (uI tn (4 * c + v) x) sz mf c) (c + 1)) sz sc) (va_A (PW G a tn pr mf sz sc) sz0)) 0 0 (va_A (PW G a tn pr mf sz sc) sz0) := by
  refine wr_start (own := RX0) (cc := cX0_putTone) (mL := 4) (ret := none) (Qc := fun AA => wV G (PW G a (uI tn (4 * c + v) x) pr (cmf (uI tn (4 * c + v) x) sz (cmf (uI tn (4 * c + v) x) sz mf c) (c + 1)) sz sc) AA) (by decide) rfl rfl (Nat.le_of_ble_eq_true rfl) ?_
  intro pP eE sS mM args bB meth cC ls AA F hr hlocks hin hK hsz0 hP hD hS hA hl
  have iX0 : ∀ x ∈ wsX00, x ∈ wsX0_putTone := by decide +kernel
  have f9 := k_cond F (w := .fieldLink RX0 9 "ChoirPlanner$Piece" "tones" "[I") (by decide +kernel)
  have hl : lv_has ls 4 [(0, .ref (a 0)), (1, .int (iI (c : Int))), (2, .int (iI (v : Int))), (3, .int (iI x))] := hl
  refine lv_aload_n F.1 F.2.1 dX0_putTone_0 rfl (lv_at hl 0 rfl) ?_
  refine k_get F hK hP iX0 0 rfl rfl 0 (by decide) f9 rfl rfl dX0_putTone_1 ?_
  refine k_iconst F dX0_putTone_4 ?_
  refine lv_iload_n F.1 F.2.1 dX0_putTone_5 rfl (lv_at hl 1 rfl) ?_
  refine k_imul F rfl dX0_putTone_6 ?_
  refine lv_iload_n F.1 F.2.1 dX0_putTone_7 rfl (lv_at hl 2 rfl) ?_
  refine k_iadd F rfl dX0_putTone_8 ?_
  refine lv_iload_n F.1 F.2.1 dX0_putTone_9 rfl (lv_at hl 3 rfl) ?_
  refine k_iast F hK hP hD hS 1 rfl (4 * c + v) (by omega) (by omega) (by decide) dX0_putTone_10 (fun H locs hP hD hS => ?_)
  have hP : gP G (PW G a (uI tn (4 * c + v) x) pr mf sz sc) H := hP
  have hD : va_D AA (PW G a (uI tn (4 * c + v) x) pr mf sz sc) := hD
  refine lv_aload_n F.1 F.2.1 dX0_putTone_11 rfl (lv_at hl 0 rfl) ?_
  refine lv_iload_n F.1 F.2.1 dX0_putTone_12 rfl (lv_at hl 1 rfl) ?_
  refine wv_V F (n := 1) (w := PW G a (uI tn (4 * c + v) x) pr mf sz sc) (w' := PW G a (uI tn (4 * c + v) x) pr (cmf (uI tn (4 * c + v) x) sz mf c) sz sc) (wr := []) (ws2 := PW G a (uI tn (4 * c + v) x) pr (cmf (uI tn (4 * c + v) x) sz mf c) sz sc) (mX0_countMoveFaults l G H.size a (uI tn (4 * c + v) x) pr mf sz sc c hz (by omega) ht ho) gX0_putTone_X0_countMoveFaults rfl rfl rfl (by decide +kernel) ⟨Nat.le_of_ble_eq_true rfl, Nat.le_of_ble_eq_true rfl⟩ hK hP hD hS hA (pm_nil _) (pm_nil' _) rfl (ci := 0) (q0 := 0) rfl rfl rfl rfl hl.1 (Nat.le_of_ble_eq_true rfl) dX0_putTone_13 ⟨Nat.zero_le _, Nat.zero_le _⟩ (fun H locs hP hD hS => ?_)
  refine lv_aload_n F.1 F.2.1 dX0_putTone_16 rfl (lv_at hl 0 rfl) ?_
  refine lv_iload_n F.1 F.2.1 dX0_putTone_17 rfl (lv_at hl 1 rfl) ?_
  refine k_iconst F dX0_putTone_18 ?_
  refine k_iadd F rfl dX0_putTone_19 ?_
  refine wv_V F (n := 1) (w := PW G a (uI tn (4 * c + v) x) pr (cmf (uI tn (4 * c + v) x) sz mf c) sz sc) (w' := PW G a (uI tn (4 * c + v) x) pr (cmf (uI tn (4 * c + v) x) sz (cmf (uI tn (4 * c + v) x) sz mf c) (c + 1)) sz sc) (wr := []) (ws2 := PW G a (uI tn (4 * c + v) x) pr (cmf (uI tn (4 * c + v) x) sz (cmf (uI tn (4 * c + v) x) sz mf c) (c + 1)) sz sc) (mX0_countMoveFaults l G H.size a (uI tn (4 * c + v) x) pr (cmf (uI tn (4 * c + v) x) sz mf c) sz sc (c + 1) hz (by omega) ht ho) gX0_putTone_X0_countMoveFaults rfl rfl rfl (by decide +kernel) ⟨Nat.le_of_ble_eq_true rfl, Nat.le_of_ble_eq_true rfl⟩ hK hP hD hS hA (pm_nil _) (pm_nil' _) rfl (ci := 0) (q0 := 0) rfl rfl rfl rfl hl.1 (Nat.le_of_ble_eq_true rfl) dX0_putTone_20 ⟨Nat.zero_le _, Nat.zero_le _⟩ (fun H locs hP hD hS => ?_)
  exact wr_vret F hr hlocks hP hS dX0_putTone_23

set_option maxHeartbeats 4000000 in
set_option maxRecDepth 100000 in
theorem mX0_append (l : Launch) (G : gT) (sz0 : Nat) (a : Nat → Nat) (tn pr mf : Nat → Int) (z : Nat) (sc : Int) (x0 x1 x2 x3 : Int) (hz : z < 16) (ht : ∀ j, 0 ≤ (uI (uI (uI (uI tn (4 * z) x0) (4 * z + 1) x1) (4 * z + 2) x2) (4 * z + 3) x3) j ∧ (uI (uI (uI (uI tn (4 * z) x0) (4 * z + 1) x1) (4 * z + 2) x2) (4 * z + 3) x3) j ≤ 60) (ho : ∀ d, (uI (uI (uI (uI tn (4 * z) x0) (4 * z + 1) x1) (4 * z + 2) x2) (4 * z + 3) x3) (4 * d + 3) ≤ (uI (uI (uI (uI tn (4 * z) x0) (4 * z + 1) x1) (4 * z + 2) x2) (4 * z + 3) x3) (4 * d + 2) ∧ (uI (uI (uI (uI tn (4 * z) x0) (4 * z + 1) x1) (4 * z + 2) x2) (4 * z + 3) x3) (4 * d + 2) ≤ (uI (uI (uI (uI tn (4 * z) x0) (4 * z + 1) x1) (4 * z + 2) x2) (4 * z + 3) x3) (4 * d + 1) ∧ (uI (uI (uI (uI tn (4 * z) x0) (4 * z + 1) x1) (4 * z + 2) x2) (4 * z + 3) x3) (4 * d + 1) ≤ (uI (uI (uI (uI tn (4 * z) x0) (4 * z + 1) x1) (4 * z + 2) x2) (4 * z + 3) x3) (4 * d)) : Met l yX0_append wsX0_append { frames := 4, cells := 0, slots := 0, locals := 92 } (va_Pc [.ref (a 0), .int (iI x0), .int (iI x1), .int (iI x2), .int (iI x3)] (wB G (PW G a tn pr mf (z : Int) sc) sz0)) (wI ((z : Int) + 1) G (PW G a (uI (uI (uI (uI tn (4 * z) x0) (4 * z + 1) x1) (4 * z + 2) x2) (4 * z + 3) x3) pr (cmf (uI (uI (uI (uI tn (4 * z) x0) (4 * z + 1) x1) (4 * z + 2) x2) (4 * z + 3) x3) ((z : Int) + 1) mf z) ((z : Int) + 1) sc) (va_A (PW G a tn pr mf (z : Int) sc) sz0)) 0 0 (va_A (PW G a tn pr mf (z : Int) sc) sz0) := by
  refine wr_start (own := RX0) (cc := cX0_append) (mL := 6) (ret := (some .int)) (Qc := fun AA => wI ((z : Int) + 1) G (PW G a (uI (uI (uI (uI tn (4 * z) x0) (4 * z + 1) x1) (4 * z + 2) x2) (4 * z + 3) x3) pr (cmf (uI (uI (uI (uI tn (4 * z) x0) (4 * z + 1) x1) (4 * z + 2) x2) (4 * z + 3) x3) ((z : Int) + 1) mf z) ((z : Int) + 1) sc) AA) (by decide) rfl rfl (Nat.le_of_ble_eq_true rfl) ?_
  intro pP eE sS mM args bB meth cC ls AA F hr hlocks hin hK hsz0 hP hD hS hA hl
  have iX0 : ∀ x ∈ wsX00, x ∈ wsX0_append := by decide +kernel
  have f9 := k_cond F (w := .fieldLink RX0 9 "ChoirPlanner$Piece" "tones" "[I") (by decide +kernel)
  have f21 := k_cond F (w := .fieldLink RX0 21 "ChoirPlanner$Piece" "size" "I") (by decide +kernel)
  have hl : lv_has ls 6 [(0, .ref (a 0)), (1, .int (iI x0)), (2, .int (iI x1)), (3, .int (iI x2)), (4, .int (iI x3))] := hl
  refine k_iconst F dX0_append_0 ?_
  refine lv_aload_n F.1 F.2.1 dX0_append_1 rfl (lv_at hl 0 rfl) ?_
  refine k_get F hK hP iX0 0 rfl rfl 3 (by decide) f21 rfl rfl dX0_append_2 ?_
  refine k_imul F rfl dX0_append_5 ?_
  refine lv_istore (lv' := [(5, .int (iI (4 * (z : Int)))), (0, .ref (a 0)), (1, .int (iI x0)), (2, .int (iI x1)), (3, .int (iI x2)), (4, .int (iI x3))]) F.1 F.2.1 dX0_append_6 hl (by decide) rfl (fun ls hl => ?_)
  refine lv_aload_n F.1 F.2.1 dX0_append_8 rfl (lv_at hl 1 rfl) ?_
  refine k_get F hK hP iX0 0 rfl rfl 0 (by decide) f9 rfl rfl dX0_append_9 ?_
  refine lv_iload F.1 F.2.1 dX0_append_12 (lv_at hl 0 rfl) ?_
  refine lv_iload_n F.1 F.2.1 dX0_append_14 rfl (lv_at hl 2 rfl) ?_
  refine k_iast F hK hP hD hS 1 rfl (4 * z) (by omega) (by omega) (by decide) dX0_append_15 (fun H locs hP hD hS => ?_)
  have hP : gP G (PW G a (uI tn (4 * z) x0) pr mf (z : Int) sc) H := hP
  have hD : va_D AA (PW G a (uI tn (4 * z) x0) pr mf (z : Int) sc) := hD
  refine lv_aload_n F.1 F.2.1 dX0_append_16 rfl (lv_at hl 1 rfl) ?_
  refine k_get F hK hP iX0 0 rfl rfl 0 (by decide) f9 rfl rfl dX0_append_17 ?_
  refine lv_iload F.1 F.2.1 dX0_append_20 (lv_at hl 0 rfl) ?_
  refine k_iconst F dX0_append_22 ?_
  refine k_iadd F rfl dX0_append_23 ?_
  refine lv_iload_n F.1 F.2.1 dX0_append_24 rfl (lv_at hl 3 rfl) ?_
  refine k_iast F hK hP hD hS 1 rfl (4 * z + 1) (by omega) (by omega) (by decide) dX0_append_25 (fun H locs hP hD hS => ?_)
  have hP : gP G (PW G a (uI (uI tn (4 * z) x0) (4 * z + 1) x1) pr mf (z : Int) sc) H := hP
  have hD : va_D AA (PW G a (uI (uI tn (4 * z) x0) (4 * z + 1) x1) pr mf (z : Int) sc) := hD
  refine lv_aload_n F.1 F.2.1 dX0_append_26 rfl (lv_at hl 1 rfl) ?_
  refine k_get F hK hP iX0 0 rfl rfl 0 (by decide) f9 rfl rfl dX0_append_27 ?_
  refine lv_iload F.1 F.2.1 dX0_append_30 (lv_at hl 0 rfl) ?_
  refine k_iconst F dX0_append_32 ?_
  refine k_iadd F rfl dX0_append_33 ?_
  refine lv_iload_n F.1 F.2.1 dX0_append_34 rfl (lv_at hl 4 rfl) ?_
  refine k_iast F hK hP hD hS 1 rfl (4 * z + 2) (by omega) (by omega) (by decide) dX0_append_35 (fun H locs hP hD hS => ?_)
  have hP : gP G (PW G a (uI (uI (uI tn (4 * z) x0) (4 * z + 1) x1) (4 * z + 2) x2) pr mf (z : Int) sc) H := hP
  have hD : va_D AA (PW G a (uI (uI (uI tn (4 * z) x0) (4 * z + 1) x1) (4 * z + 2) x2) pr mf (z : Int) sc) := hD
  refine lv_aload_n F.1 F.2.1 dX0_append_36 rfl (lv_at hl 1 rfl) ?_
  refine k_get F hK hP iX0 0 rfl rfl 0 (by decide) f9 rfl rfl dX0_append_37 ?_
  refine lv_iload F.1 F.2.1 dX0_append_40 (lv_at hl 0 rfl) ?_
  refine k_iconst F dX0_append_42 ?_
  refine k_iadd F rfl dX0_append_43 ?_
  refine lv_iload F.1 F.2.1 dX0_append_44 (lv_at hl 5 rfl) ?_
  refine k_iast F hK hP hD hS 1 rfl (4 * z + 3) (by omega) (by omega) (by decide) dX0_append_46 (fun H locs hP hD hS => ?_)
  have hP : gP G (PW G a (uI (uI (uI (uI tn (4 * z) x0) (4 * z + 1) x1) (4 * z + 2) x2) (4 * z + 3) x3) pr mf (z : Int) sc) H := hP
  have hD : va_D AA (PW G a (uI (uI (uI (uI tn (4 * z) x0) (4 * z + 1) x1) (4 * z + 2) x2) (4 * z + 3) x3) pr mf (z : Int) sc) := hD
  refine lv_aload_n F.1 F.2.1 dX0_append_47 rfl (lv_at hl 1 rfl) ?_
  refine lv_dup F.1 F.2.1 dX0_append_48 rfl ?_
  refine k_get F hK hP iX0 0 rfl rfl 3 (by decide) f21 rfl rfl dX0_append_49 ?_
  refine k_iconst F dX0_append_52 ?_
  refine k_iadd F rfl dX0_append_53 ?_
  refine va_put (D := G.1) (ci := 0) (v := .int (iI ((z : Int) + 1))) (ty := .int) (C := RX0) (T := TX0) (N := 5) F.1 F.2.1 F.2.2.2.2 iX0 tyX0 tyX0_ok nmX0 F.2.2.2.1 hK hP hD hS 0 rfl rfl 3 (by decide) f21 (fun _ h9 => h9) rfl (by decide +kernel) rfl rfl (Nat.le_of_ble_eq_true rfl) dX0_append_54 (fun H locs hP hD hS => ?_)
  have hP : gP G (PW G a (uI (uI (uI (uI tn (4 * z) x0) (4 * z + 1) x1) (4 * z + 2) x2) (4 * z + 3) x3) pr mf ((z : Int) + 1) sc) H := hP
  have hD : va_D AA (PW G a (uI (uI (uI (uI tn (4 * z) x0) (4 * z + 1) x1) (4 * z + 2) x2) (4 * z + 3) x3) pr mf ((z : Int) + 1) sc) := hD
  refine lv_aload_n F.1 F.2.1 dX0_append_57 rfl (lv_at hl 1 rfl) ?_
  refine lv_aload_n F.1 F.2.1 dX0_append_58 rfl (lv_at hl 1 rfl) ?_
  refine k_get F hK hP iX0 0 rfl rfl 3 (by decide) f21 rfl rfl dX0_append_59 ?_
  refine k_iconst F dX0_append_62 ?_
  refine k_isub F (z := (z : Int)) (by omega) dX0_append_63 ?_
  refine wv_V F (n := 1) (w := PW G a (uI (uI (uI (uI tn (4 * z) x0) (4 * z + 1) x1) (4 * z + 2) x2) (4 * z + 3) x3) pr mf ((z : Int) + 1) sc) (w' := PW G a (uI (uI (uI (uI tn (4 * z) x0) (4 * z + 1) x1) (4 * z + 2) x2) (4 * z + 3) x3) pr (cmf (uI (uI (uI (uI tn (4 * z) x0) (4 * z + 1) x1) (4 * z + 2) x2) (4 * z + 3) x3) ((z : Int) + 1) mf z) ((z : Int) + 1) sc) (wr := []) (ws2 := PW G a (uI (uI (uI (uI tn (4 * z) x0) (4 * z + 1) x1) (4 * z + 2) x2) (4 * z + 3) x3) pr (cmf (uI (uI (uI (uI tn (4 * z) x0) (4 * z + 1) x1) (4 * z + 2) x2) (4 * z + 3) x3) ((z : Int) + 1) mf z) ((z : Int) + 1) sc) (mX0_countMoveFaults l G H.size a (uI (uI (uI (uI tn (4 * z) x0) (4 * z + 1) x1) (4 * z + 2) x2) (4 * z + 3) x3) pr mf ((z : Int) + 1) sc z (by omega) (by omega) ht ho) gX0_append_X0_countMoveFaults rfl rfl rfl (by decide +kernel) ⟨Nat.le_of_ble_eq_true rfl, Nat.le_of_ble_eq_true rfl⟩ hK hP hD hS hA (pm_nil _) (pm_nil' _) rfl (ci := 0) (q0 := 0) rfl rfl rfl rfl hl.1 (Nat.le_of_ble_eq_true rfl) dX0_append_64 ⟨Nat.zero_le _, Nat.zero_le _⟩ (fun H locs hP hD hS => ?_)
  refine lv_aload_n F.1 F.2.1 dX0_append_67 rfl (lv_at hl 1 rfl) ?_
  refine k_get F hK hP iX0 0 rfl rfl 3 (by decide) f21 rfl rfl dX0_append_68 ?_
  exact wr_ret F hr hlocks rfl hP hS dX0_append_71

theorem mX0_faultSum_c (l : Launch) (G : gT) (a : Nat → Nat) (tn pr : Nat → Int) (sz sc : Int) (hz : 0 ≤ sz ∧ sz ≤ 16) : Met l yX0_faultSum wsX0_faultSum { frames := 0, cells := 0, slots := 0, locals := 0 } (va_Pc [.ref (a 0)] (rB G (PW G a tn pr (mff tn sz) sz sc))) (oI (alf tn sz)) 0 0 (fun _ => False) := by
  have h := mX0_faultSum l G a tn pr (mff tn sz) sz sc hz
  rw [fsC_mff tn sz hz.1 _ (by omega)] at h
  exact h
theorem mX0_putTone_c (l : Launch) (G : gT) (sz0 : Nat) (a : Nat → Nat) (tn pr : Nat → Int) (sz sc : Int) (c v : Nat) (x : Int) (hc : c < 16) (hv : v < 4) (hz : 0 ≤ sz ∧ sz ≤ 16) (ht : ∀ j, 0 ≤ (uI tn (4 * c + v) x) j ∧ (uI tn (4 * c + v) x) j ≤ 60) (ho : ∀ d, (uI tn (4 * c + v) x) (4 * d + 3) ≤ (uI tn (4 * c + v) x) (4 * d + 2) ∧ (uI tn (4 * c + v) x) (4 * d + 2) ≤ (uI tn (4 * c + v) x) (4 * d + 1) ∧ (uI tn (4 * c + v) x) (4 * d + 1) ≤ (uI tn (4 * c + v) x) (4 * d)) : Met l yX0_putTone wsX0_putTone { frames := 4, cells := 0, slots := 0, locals := 92 } (va_Pc [.ref (a 0), .int (iI (c : Int)), .int (iI (v : Int)), .int (iI x)] (wB G (PW G a tn pr (mff tn sz) sz sc) sz0)) (wV G (PW G a (uI tn (4 * c + v) x) pr (mff (uI tn (4 * c + v) x) sz) sz sc) (va_A (PW G a tn pr (mff tn sz) sz sc) sz0)) 0 0 (va_A (PW G a tn pr (mff tn sz) sz sc) sz0) := by
  have h := mX0_putTone l G sz0 a tn pr (mff tn sz) sz sc c v x hc hv hz ht ho
  rw [cmf_put tn sz c v x hv] at h
  exact h

set_option maxHeartbeats 4000000 in
set_option maxRecDepth 100000 in
theorem mX0_leastFaultSum (l : Launch) (G : gT) (sz0 : Nat) (a : Nat → Nat) (tn pr : Nat → Int) (sz sc : Int) (c v : Nat) (hc : c < 16) (hv : v < 4) (hz : 0 ≤ sz ∧ sz ≤ 16) (ht : ∀ j, 0 ≤ tn j ∧ tn j ≤ 60) (ho : ∀ c, tn (4 * c + 3) ≤ tn (4 * c + 2) ∧ tn (4 * c + 2) ≤ tn (4 * c + 1) ∧ tn (4 * c + 1) ≤ tn (4 * c)) : Met l yX0_leastFaultSum wsX0_leastFaultSum { frames := 5, cells := 0, slots := 0, locals := 115 } (va_Pc [.ref (a 0), .int (iI (c : Int)), .int (iI (v : Int))] (wB G (PW G a tn pr (mff tn sz) sz sc) sz0)) (wI (lft tn c v sz) G (PW G a tn pr (mff tn sz) sz sc) (va_A (PW G a tn pr (mff tn sz) sz sc) sz0)) 0 0 (va_A (PW G a tn pr (mff tn sz) sz sc) sz0) := by
  refine wr_start (own := RX0) (cc := cX0_leastFaultSum) (mL := 7) (ret := (some .int)) (Qc := fun AA => wI (lft tn c v sz) G (PW G a tn pr (mff tn sz) sz sc) AA) (by decide) rfl rfl (Nat.le_of_ble_eq_true rfl) ?_
  intro pP eE sS mM args bB meth cC ls AA F hr hlocks hin hK hsz0 hP hD hS hA hl
  obtain ⟨lo, hlo⟩ : ∃ lo : Int, lo = flr tn c v := ⟨_, rfl⟩
  obtain ⟨hi, hhi⟩ : ∃ hi : Int, hi = clg tn c v := ⟨_, rfl⟩
  have hfl := mX0_floor l G a tn pr (mff tn sz) sz sc c v hc hv
  have hcl := mX0_ceiling l G a tn pr (mff tn sz) sz sc c v hc hv
  have b1 := flr_rg ht c v
  have b2 := clg_rg ht c v
  rw [← hlo] at hfl b1
  rw [← hhi] at hcl b2
  have hlo2 : flr tn c v ≤ lo := by omega
  have hhi2 : hi ≤ clg tn c v := by omega
  have hl : lv_has ls 7 [(0, .ref (a 0)), (1, .int (iI (c : Int))), (2, .int (iI (v : Int)))] := hl
  refine lv_aload_n F.1 F.2.1 dX0_leastFaultSum_0 rfl (lv_at hl 0 rfl) ?_
  refine lv_iload_n F.1 F.2.1 dX0_leastFaultSum_1 rfl (lv_at hl 1 rfl) ?_
  refine lv_iload_n F.1 F.2.1 dX0_leastFaultSum_2 rfl (lv_at hl 2 rfl) ?_
  refine rd_V F (n := 2) (w0 := []) (mX0_toneAt l G a tn pr (mff tn sz) sz sc c v (by omega) (by omega)) gX0_leastFaultSum_X0_toneAt rfl rfl rfl (by decide +kernel) ⟨Nat.le_of_ble_eq_true rfl, Nat.le_of_ble_eq_true rfl⟩ hK hP (ci := 0) (q0 := 0) rfl rfl rfl rfl hl.1 (Nat.le_of_ble_eq_true rfl) dX0_leastFaultSum_3 ⟨Nat.zero_le _, Nat.zero_le _⟩ ?_
  refine lv_istore_n (lv' := [(3, .int (iI (tn (4 * c + v)))), (0, .ref (a 0)), (1, .int (iI (c : Int))), (2, .int (iI (v : Int)))]) F.1 F.2.1 dX0_leastFaultSum_6 rfl hl (by decide) rfl (fun ls hl => ?_)
  refine lv_aload_n F.1 F.2.1 dX0_leastFaultSum_7 rfl (lv_at hl 1 rfl) ?_
  refine lv_iload_n F.1 F.2.1 dX0_leastFaultSum_8 rfl (lv_at hl 2 rfl) ?_
  refine lv_iload_n F.1 F.2.1 dX0_leastFaultSum_9 rfl (lv_at hl 3 rfl) ?_
  refine rd_V F (n := 2) (w0 := []) (hcl) gX0_leastFaultSum_X0_ceiling rfl rfl rfl (by decide +kernel) ⟨Nat.le_of_ble_eq_true rfl, Nat.le_of_ble_eq_true rfl⟩ hK hP (ci := 0) (q0 := 0) rfl rfl rfl rfl hl.1 (Nat.le_of_ble_eq_true rfl) dX0_leastFaultSum_10 ⟨Nat.zero_le _, Nat.zero_le _⟩ ?_
  refine lv_istore (lv' := [(4, .int (iI hi)), (3, .int (iI (tn (4 * c + v)))), (0, .ref (a 0)), (1, .int (iI (c : Int))), (2, .int (iI (v : Int)))]) F.1 F.2.1 dX0_leastFaultSum_13 hl (by decide) rfl (fun ls hl => ?_)
  refine lv_aload_n F.1 F.2.1 dX0_leastFaultSum_15 rfl (lv_at hl 2 rfl) ?_
  refine rd_V F (n := 0) (w0 := []) (mX0_faultSum_c l G a tn pr sz sc hz) gX0_leastFaultSum_X0_faultSum rfl rfl rfl (by decide +kernel) ⟨Nat.le_of_ble_eq_true rfl, Nat.le_of_ble_eq_true rfl⟩ hK hP (ci := 0) (q0 := 0) rfl rfl rfl rfl hl.1 (Nat.le_of_ble_eq_true rfl) dX0_leastFaultSum_16 ⟨Nat.zero_le _, Nat.zero_le _⟩ ?_
  refine lv_istore (lv' := [(5, .int (iI (lfS tn (4 * c + v) lo sz 0))), (4, .int (iI hi)), (3, .int (iI (tn (4 * c + v)))), (0, .ref (a 0)), (1, .int (iI (c : Int))), (2, .int (iI (v : Int)))]) F.1 F.2.1 dX0_leastFaultSum_19 hl (by decide) rfl (fun ls hl => ?_)
  refine lv_aload_n F.1 F.2.1 dX0_leastFaultSum_21 rfl (lv_at hl 3 rfl) ?_
  refine lv_iload_n F.1 F.2.1 dX0_leastFaultSum_22 rfl (lv_at hl 4 rfl) ?_
  refine lv_iload_n F.1 F.2.1 dX0_leastFaultSum_23 rfl (lv_at hl 5 rfl) ?_
  refine rd_V F (n := 2) (w0 := []) (hfl) gX0_leastFaultSum_X0_floor rfl rfl rfl (by decide +kernel) ⟨Nat.le_of_ble_eq_true rfl, Nat.le_of_ble_eq_true rfl⟩ hK hP (ci := 0) (q0 := 0) rfl rfl rfl rfl hl.1 (Nat.le_of_ble_eq_true rfl) dX0_leastFaultSum_24 ⟨Nat.zero_le _, Nat.zero_le _⟩ ?_
  refine lv_istore (lv' := [(6, .int (iI lo)), (5, .int (iI (lfS tn (4 * c + v) lo sz 0))), (4, .int (iI hi)), (3, .int (iI (tn (4 * c + v)))), (0, .ref (a 0)), (1, .int (iI (c : Int))), (2, .int (iI (v : Int)))]) F.1 F.2.1 dX0_leastFaultSum_27 hl (by decide) rfl (fun ls hl => ?_)
  have J_1 : ∀ q : Nat, q ≤ (hi - lo + 1).toNat → ∀ (H : Heap) (locs : List Loc), gP G (PW G a (tqs tn (4 * c + v) lo q) pr (mff (tqs tn (4 * c + v) lo q) sz) sz sc) H → va_D AA (PW G a (tqs tn (4 * c + v) lo q) pr (mff (tqs tn (4 * c + v) lo q) sz) sz sc) → va_S AA sS.heap H locs → ∀ ls : Array Slot, lv_has ls 7 [(6, .int (iI (lo + (q : Int)))), (5, .int (iI (lfS tn (4 * c + v) lo sz q))), (4, .int (iI hi)), (3, .int (iI (tn (4 * c + v)))), (0, .ref (a 0)), (1, .int (iI (c : Int))), (2, .int (iI (v : Int)))] → W pP l eE ({ frames := 5, cells := 0, slots := 0, locals := 115 }) sS mM args bB meth cC H locs 0 0 (MQ bB (wI (lft tn c v sz) G (PW G a tn pr (mff tn sz) sz sc) AA) args sS 0 0 AA) (F0 mM 29 ls []) := by
    refine lp_up ((hi - lo + 1).toNat) ?_ ?_
    · intro H locs hP hD hS ls hl
      refine lv_iload F.1 F.2.1 dX0_leastFaultSum_29 (lv_at hl 0 rfl) ?_
      refine lv_iload F.1 F.2.1 dX0_leastFaultSum_31 (lv_at hl 2 rfl) ?_
      refine k_icmp_gt F (tgt := 61) dX0_leastFaultSum_33 (by decide) (by omega) (by omega) (fun c_3 => ?_) (fun c_3 => absurd c_3 (by omega))
      refine lv_aload_n F.1 F.2.1 dX0_leastFaultSum_61 rfl (lv_at hl 4 rfl) ?_
      refine lv_iload_n F.1 F.2.1 dX0_leastFaultSum_62 rfl (lv_at hl 5 rfl) ?_
      refine lv_iload_n F.1 F.2.1 dX0_leastFaultSum_63 rfl (lv_at hl 6 rfl) ?_
      refine lv_iload_n F.1 F.2.1 dX0_leastFaultSum_64 rfl (lv_at hl 3 rfl) ?_
      refine wv_V F (n := 3) (w := PW G a (tqs tn (4 * c + v) lo ((hi - lo + 1).toNat)) pr (mff (tqs tn (4 * c + v) lo ((hi - lo + 1).toNat)) sz) sz sc) (w' := PW G a (uI (tqs tn (4 * c + v) lo ((hi - lo + 1).toNat)) (4 * c + v) (tn (4 * c + v))) pr (mff (uI (tqs tn (4 * c + v) lo ((hi - lo + 1).toNat)) (4 * c + v) (tn (4 * c + v))) sz) sz sc) (wr := []) (ws2 := PW G a (uI (tqs tn (4 * c + v) lo ((hi - lo + 1).toNat)) (4 * c + v) (tn (4 * c + v))) pr (mff (uI (tqs tn (4 * c + v) lo ((hi - lo + 1).toNat)) (4 * c + v) (tn (4 * c + v))) sz) sz sc) (mX0_putTone_c l G H.size a (tqs tn (4 * c + v) lo ((hi - lo + 1).toNat)) pr sz sc c v (tn (4 * c + v)) (by omega) (by omega) hz (by rw [tqs_back]; exact ht) (by rw [tqs_back]; exact ho)) gX0_leastFaultSum_X0_putTone rfl rfl rfl (by decide +kernel) ⟨Nat.le_of_ble_eq_true rfl, Nat.le_of_ble_eq_true rfl⟩ hK hP hD hS hA (pm_nil _) (pm_nil' _) rfl (ci := 0) (q0 := 0) rfl rfl rfl rfl hl.1 (Nat.le_of_ble_eq_true rfl) dX0_leastFaultSum_65 ⟨Nat.zero_le _, Nat.zero_le _⟩ (fun H locs hP hD hS => ?_)
      rw [tqs_back] at hP hD
      refine lv_iload F.1 F.2.1 dX0_leastFaultSum_68 (lv_at hl 1 rfl) ?_
      exact wr_ret F hr hlocks (by rw [hlo, hhi]) hP hS dX0_leastFaultSum_70
    · intro q hk9 ih H locs hP hD hS ls hl
      have b3 := lfS_rg tn (4 * c + v) lo hz q
      have b4 := alf_rg (tqs tn (4 * c + v) lo (q + 1)) hz
      refine lv_iload F.1 F.2.1 dX0_leastFaultSum_29 (lv_at hl 0 rfl) ?_
      refine lv_iload F.1 F.2.1 dX0_leastFaultSum_31 (lv_at hl 2 rfl) ?_
      refine k_icmp_gt F (tgt := 61) dX0_leastFaultSum_33 (by decide) (by omega) (by omega) (fun c_4 => absurd c_4 (by omega)) (fun c_4 => ?_)
      refine lv_aload_n F.1 F.2.1 dX0_leastFaultSum_36 rfl (lv_at hl 4 rfl) ?_
      refine lv_iload_n F.1 F.2.1 dX0_leastFaultSum_37 rfl (lv_at hl 5 rfl) ?_
      refine lv_iload_n F.1 F.2.1 dX0_leastFaultSum_38 rfl (lv_at hl 6 rfl) ?_
      refine lv_iload F.1 F.2.1 dX0_leastFaultSum_39 (lv_at hl 0 rfl) ?_
      refine wv_V F (n := 3) (w := PW G a (tqs tn (4 * c + v) lo q) pr (mff (tqs tn (4 * c + v) lo q) sz) sz sc) (w' := PW G a (uI (tqs tn (4 * c + v) lo q) (4 * c + v) (lo + (q : Int))) pr (mff (uI (tqs tn (4 * c + v) lo q) (4 * c + v) (lo + (q : Int))) sz) sz sc) (wr := []) (ws2 := PW G a (uI (tqs tn (4 * c + v) lo q) (4 * c + v) (lo + (q : Int))) pr (mff (uI (tqs tn (4 * c + v) lo q) (4 * c + v) (lo + (q : Int))) sz) sz sc) (mX0_putTone_c l G H.size a (tqs tn (4 * c + v) lo q) pr sz sc c v (lo + (q : Int)) (by omega) (by omega) hz (by rw [tqs_put]; exact ht_put ht _ (by omega)) (by rw [tqs_put]; exact ho_put' ho hv (by omega) (by omega))) gX0_leastFaultSum_X0_putTone rfl rfl rfl (by decide +kernel) ⟨Nat.le_of_ble_eq_true rfl, Nat.le_of_ble_eq_true rfl⟩ hK hP hD hS hA (pm_nil _) (pm_nil' _) rfl (ci := 0) (q0 := 0) rfl rfl rfl rfl hl.1 (Nat.le_of_ble_eq_true rfl) dX0_leastFaultSum_41 ⟨Nat.zero_le _, Nat.zero_le _⟩ (fun H locs hP hD hS => ?_)
      rw [tqs_put] at hP hD
      refine lv_iload F.1 F.2.1 dX0_leastFaultSum_44 (lv_at hl 1 rfl) ?_
      refine lv_aload_n F.1 F.2.1 dX0_leastFaultSum_46 rfl (lv_at hl 4 rfl) ?_
      refine rd_V F (n := 0) (w0 := []) (mX0_faultSum_c l G a (tqs tn (4 * c + v) lo (q + 1)) pr sz sc hz) gX0_leastFaultSum_X0_faultSum rfl rfl rfl (by decide +kernel) ⟨Nat.le_of_ble_eq_true rfl, Nat.le_of_ble_eq_true rfl⟩ hK hP (ci := 0) (q0 := 0) rfl rfl rfl rfl hl.1 (Nat.le_of_ble_eq_true rfl) dX0_leastFaultSum_47 ⟨Nat.zero_le _, Nat.zero_le _⟩ ?_
      refine k_mmin F hl.1 (k_cond F (w := .methodLink RX0 36 Lib.Math.min.name) (by decide +kernel)) (k_cond F (w := .static Lib.Math.min.name) (by decide +kernel)) (k_cond F (w := .initialized "java/lang/Math") (by decide +kernel)) (k_cond F (w := .code Lib.Math.min.name Lib.Math.min.code 2 (some .int)) (by decide +kernel)) (Nat.le_of_ble_eq_true rfl) (Nat.le_of_ble_eq_true rfl) (Nat.zero_le _) (Nat.zero_le _) (by omega) (by omega) dX0_leastFaultSum_50 ?_
      refine lv_istore (lv' := [(5, .int (iI (min (lfS tn (4 * c + v) lo sz q) (alf (tqs tn (4 * c + v) lo (q + 1)) sz)))), (6, .int (iI (lo + (q : Int)))), (4, .int (iI hi)), (3, .int (iI (tn (4 * c + v)))), (0, .ref (a 0)), (1, .int (iI (c : Int))), (2, .int (iI (v : Int)))]) F.1 F.2.1 dX0_leastFaultSum_53 hl (by decide) rfl (fun ls hl => ?_)
      refine lv_iinc (v := iI ((lo + (q : Int)) + 1)) (lv' := [(6, .int (iI ((lo + (q : Int)) + 1))), (5, .int (iI (min (lfS tn (4 * c + v) lo sz q) (alf (tqs tn (4 * c + v) lo (q + 1)) sz)))), (4, .int (iI hi)), (3, .int (iI (tn (4 * c + v)))), (0, .ref (a 0)), (1, .int (iI (c : Int))), (2, .int (iI (v : Int)))]) F.1 F.2.1 dX0_leastFaultSum_55 hl (k := 1) rfl (iI_add _ _) (by decide) rfl (fun ls hl => ?_)
      refine lv_goto (tgt := 29) F.1 F.2.1 dX0_leastFaultSum_58 (by decide) ?_
      have e_5 : (((lo + (q : Int)) + 1) : Int) = (lo + ((q + 1 : Nat) : Int)) := by omega
      have e_6 : ((min (lfS tn (4 * c + v) lo sz q) (alf (tqs tn (4 * c + v) lo (q + 1)) sz)) : Int) = (lfS tn (4 * c + v) lo sz (q + 1)) := rfl
      exact ih _ _ hP (D_too (w' := PW G a (tqs tn (4 * c + v) lo (q + 1)) pr (mff (tqs tn (4 * c + v) lo (q + 1)) sz) sz sc) hD rfl) hS _ (lv_to (lv_to (lv_sub hl [0, 1, 2, 3, 4, 5, 6] rfl) (congrArg (fun x9 : Int => ([(6, .int (iI x9)), (5, .int (iI (min (lfS tn (4 * c + v) lo sz q) (alf (tqs tn (4 * c + v) lo (q + 1)) sz)))), (4, .int (iI hi)), (3, .int (iI (tn (4 * c + v)))), (0, .ref (a 0)), (1, .int (iI (c : Int))), (2, .int (iI (v : Int)))] : List (Nat × Value))) e_5)) (congrArg (fun x9 : Int => ([(6, .int (iI (lo + ((q + 1 : Nat) : Int)))), (5, .int (iI x9)), (4, .int (iI hi)), (3, .int (iI (tn (4 * c + v)))), (0, .ref (a 0)), (1, .int (iI (c : Int))), (2, .int (iI (v : Int)))] : List (Nat × Value))) e_6))
  have e_7 : (lo : Int) = (lo + ((0 : Nat) : Int)) := by omega
  exact J_1 0 (by omega) _ _ hP (D_too (w' := PW G a (tqs tn (4 * c + v) lo 0) pr (mff (tqs tn (4 * c + v) lo 0) sz) sz sc) hD rfl) hS _ (lv_to (lv_sub hl [0, 1, 2, 3, 4, 5, 6] rfl) (congrArg (fun x9 : Int => ([(6, .int (iI x9)), (5, .int (iI (lfS tn (4 * c + v) lo sz 0))), (4, .int (iI hi)), (3, .int (iI (tn (4 * c + v)))), (0, .ref (a 0)), (1, .int (iI (c : Int))), (2, .int (iI (v : Int)))] : List (Nat × Value))) e_7))

set_option maxHeartbeats 4000000 in
set_option maxRecDepth 100000 in
theorem mX0_practiseWeakest (l : Launch) (G : gT) (sz0 : Nat) (a : Nat → Nat) (tn pr mf : Nat → Int) (sz sc : Int) (hz : 0 ≤ sz ∧ sz ≤ 16) (hm : ∀ c, 0 ≤ mf c ∧ mf c ≤ 40) (hp : ∀ c, 0 ≤ pr c ∧ pr c ≤ 70000) : Met l yX0_practiseWeakest wsX0_practiseWeakest { frames := 3, cells := 0, slots := 0, locals := 83 } (va_Pc [.ref (a 0)] (wB G (PW G a tn pr mf sz sc) sz0)) (wV G (PW G a tn (uI pr (wcC mf pr (sz.toNat - 1)) (pr (wcC mf pr (sz.toNat - 1)) + 4)) mf sz sc) (va_A (PW G a tn pr mf sz sc) sz0)) 0 0 (va_A (PW G a tn pr mf sz sc) sz0) := by
  refine wr_start (own := RX0) (cc := cX0_practiseWeakest) (mL := 1) (ret := none) (Qc := fun AA => wV G (PW G a tn (uI pr (wcC mf pr (sz.toNat - 1)) (pr (wcC mf pr (sz.toNat - 1)) + 4)) mf sz sc) AA) (by decide) rfl rfl (Nat.le_of_ble_eq_true rfl) ?_
  intro pP eE sS mM args bB meth cC ls AA F hr hlocks hin hK hsz0 hP hD hS hA hl
  have b1 := wcC_le mf pr (sz.toNat - 1)
  have iX0 : ∀ x ∈ wsX00, x ∈ wsX0_practiseWeakest := by decide +kernel
  have f15 := k_cond F (w := .fieldLink RX0 15 "ChoirPlanner$Piece" "practice" "[I") (by decide +kernel)
  have hl : lv_has ls 1 [(0, .ref (a 0))] := hl
  refine lv_aload_n F.1 F.2.1 dX0_practiseWeakest_0 rfl (lv_at hl 0 rfl) ?_
  refine k_get F hK hP iX0 0 rfl rfl 1 (by decide) f15 rfl rfl dX0_practiseWeakest_1 ?_
  refine lv_aload_n F.1 F.2.1 dX0_practiseWeakest_4 rfl (lv_at hl 0 rfl) ?_
  refine rd_V F (n := 0) (w0 := []) (mX0_weakestChord l G a tn pr mf sz sc hz hm hp) gX0_practiseWeakest_X0_weakestChord rfl rfl rfl (by decide +kernel) ⟨Nat.le_of_ble_eq_true rfl, Nat.le_of_ble_eq_true rfl⟩ hK hP (ci := 0) (q0 := 0) rfl rfl rfl rfl hl.1 (Nat.le_of_ble_eq_true rfl) dX0_practiseWeakest_5 ⟨Nat.zero_le _, Nat.zero_le _⟩ ?_
  refine lv_dup2_11 F.1 F.2.1 dX0_practiseWeakest_8 rfl rfl ?_
  refine k_iald F hK hP 2 rfl (wcC mf pr (sz.toNat - 1)) (by omega) (by omega) (by decide) rfl dX0_practiseWeakest_9 ?_
  refine k_iconst F dX0_practiseWeakest_10 ?_
  refine k_iadd F rfl dX0_practiseWeakest_11 ?_
  refine k_iast F hK hP hD hS 2 rfl (wcC mf pr (sz.toNat - 1)) (by omega) (by omega) (by decide) dX0_practiseWeakest_12 (fun H locs hP hD hS => ?_)
  have hP : gP G (PW G a tn (uI pr (wcC mf pr (sz.toNat - 1)) ((pr (wcC mf pr (sz.toNat - 1))) + 4)) mf sz sc) H := hP
  have hD : va_D AA (PW G a tn (uI pr (wcC mf pr (sz.toNat - 1)) ((pr (wcC mf pr (sz.toNat - 1))) + 4)) mf sz sc) := hD
  exact wr_vret F hr hlocks hP hS dX0_practiseWeakest_13
