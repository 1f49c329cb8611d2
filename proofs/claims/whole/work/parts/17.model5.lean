set_option maxHeartbeats 4000000 in
set_option maxRecDepth 100000 in
theorem mX3_chord (l : Launch) (G : gT) (sz0 : Nat) (A : Nat → Nat) (r0 : Int) (σ : Sg) (a b c d : Int) (ha : -2147483648 ≤ a ∧ a < 2147483648) (hb : -2147483648 ≤ b ∧ b < 2147483648) (hc : -2147483648 ≤ c ∧ c < 2147483648) (hd : -2147483648 ≤ d ∧ d < 2147483648) {n k N : Nat} (hI : Iv σ n k N) : Met l yX3_chord wsX3_chord { frames := 2, cells := 0, slots := 0, locals := 42 } (va_Pc [.ref (A 0), .int (iI a), .int (iI b), .int (iI c), .int (iI d)] (wB G (MW G A r0 σ) sz0)) (wI (if kChd σ a b c d = 0 then (σ 8 (σ 2 0 0).toNat 0) + 1 else 0) G (MW G A (kChd σ a b c d) (if kChd σ a b c d = 0 then sChd σ a b c d else σ)) (va_A (MW G A r0 σ) sz0)) 0 0 (va_A (MW G A r0 σ) sz0) := by
  refine wr_start (own := RX3) (cc := cX3_chord) (mL := 7) (ret := (some .int)) (Qc := fun AA => wI (if kChd σ a b c d = 0 then (σ 8 (σ 2 0 0).toNat 0) + 1 else 0) G (MW G A (kChd σ a b c d) (if kChd σ a b c d = 0 then sChd σ a b c d else σ)) AA) (by decide) rfl rfl (Nat.le_of_ble_eq_true rfl) ?_
  intro pP eE sS mM args bB meth cC ls AA F hr hlocks hin hK hsz0 hP hD hS hA hl
  obtain ⟨hn, hn12, hk, hk6, hsg, haw, hch, hch1, hch0, htn, hto, htz, hpr, hN, hpz, hle, hlz⟩ := id hI
  have hcx := hch (σ 2 0 0).toNat
  have iX3 : ∀ x ∈ wsX30, x ∈ wsX3_chord := by decide +kernel
  have f22 := k_cond F (w := .fieldLink RX3 22 "ChoirPlannerModel" "tones" "[I") (by decide +kernel)
  have f25 := k_cond F (w := .fieldLink RX3 25 "ChoirPlannerModel" "chords" "[I") (by decide +kernel)
  have f45 := k_cond F (w := .fieldLink RX3 45 "ChoirPlannerModel" "pieces" "I") (by decide +kernel)
  have hl : lv_has ls 7 [(0, .ref (A 0)), (1, .int (iI a)), (2, .int (iI b)), (3, .int (iI c)), (4, .int (iI d))] := hl
  refine lv_iload_n F.1 F.2.1 dX3_chord_0 rfl (lv_at hl 1 rfl) ?_
  refine rd_S F (n := 1) (w0 := []) (mX3_isTone l G (MW G A r0 σ) a (by omega)) gX3_chord_X3_isTone rfl rfl rfl (by decide +kernel) ⟨Nat.le_of_ble_eq_true rfl, Nat.le_of_ble_eq_true rfl⟩ hK hP rfl rfl hl.1 (Nat.le_of_ble_eq_true rfl) dX3_chord_1 ⟨Nat.zero_le _, Nat.zero_le _⟩ ?_
  refine k_ifb_eq F (tgt := 39) dX3_chord_4 (by decide) (fun c_1 => ?_) (fun c_1 => ?_)
  · skip
    refine k_iconst F dX3_chord_39 ?_
    refine lv_istore (lv' := [(5, .int (iI 0)), (0, .ref (A 0)), (1, .int (iI a)), (2, .int (iI b)), (3, .int (iI c)), (4, .int (iI d))]) F.1 F.2.1 dX3_chord_40 hl (by decide) rfl (fun ls hl => ?_)
    refine lv_aload_n F.1 F.2.1 dX3_chord_42 rfl (lv_at hl 1 rfl) ?_
    refine lv_iload F.1 F.2.1 dX3_chord_43 (lv_at hl 0 rfl) ?_
    refine k_if_ne F (tgt := 52) dX3_chord_45 (by decide) (by decide) (fun c_2 => absurd c_2 (by omega)) (fun c_2 => ?_)
    refine k_iconst F dX3_chord_48 ?_
    refine lv_goto (tgt := 71) F.1 F.2.1 dX3_chord_49 (by decide) ?_
    refine wr_V F (n := 1) (w := MW G A r0 σ) (w' := MW G A 1 σ) (wr := []) (ws2 := MW G A 1 σ) (mX3_refused l G sS.heap.size A r0 σ 1 1 (by decide) (by decide +kernel)) gX3_chord_X3_refused rfl rfl rfl (by decide +kernel) ⟨Nat.le_of_ble_eq_true rfl, Nat.le_of_ble_eq_true rfl⟩ hK hP hD hS hA (pm_nil _) (pm_nil' _) rfl (ci := 3) (q0 := 0) rfl rfl rfl rfl hl.1 (Nat.le_of_ble_eq_true rfl) dX3_chord_71 ⟨Nat.zero_le _, Nat.zero_le _⟩ (fun H locs hP hD hS => ?_)
    refine k_if_eq F (tgt := 79) dX3_chord_74 (by decide) (by decide) (fun c_3 => absurd c_3 (by omega)) (fun c_3 => ?_)
    refine k_iconst F dX3_chord_77 ?_
    exact wr_ret F hr hlocks (by rw [show kChd σ a b c d = 1 from (by unfold kChd; (repeat' split) <;> omega), if_neg (by decide)]) (by rw [show kChd σ a b c d = 1 from (by unfold kChd; (repeat' split) <;> omega), if_neg (by decide)]; exact hP) hS dX3_chord_78
  · skip
    refine lv_iload_n F.1 F.2.1 dX3_chord_7 rfl (lv_at hl 2 rfl) ?_
    refine k_iconst F dX3_chord_8 ?_
    refine lv_iload_n F.1 F.2.1 dX3_chord_9 rfl (lv_at hl 1 rfl) ?_
    refine rd_S F (n := 3) (w0 := []) (mX3_in l G (MW G A r0 σ) b 0 a (by omega) (by decide) (by omega)) gX3_chord_X3_in rfl rfl rfl (by decide +kernel) ⟨Nat.le_of_ble_eq_true rfl, Nat.le_of_ble_eq_true rfl⟩ hK hP rfl rfl hl.1 (Nat.le_of_ble_eq_true rfl) dX3_chord_10 ⟨Nat.zero_le _, Nat.zero_le _⟩ ?_
    refine k_ifb_eq F (tgt := 39) dX3_chord_13 (by decide) (fun c_4 => ?_) (fun c_4 => ?_)
    · skip
      refine k_iconst F dX3_chord_39 ?_
      refine lv_istore (lv' := [(5, .int (iI 0)), (0, .ref (A 0)), (1, .int (iI a)), (2, .int (iI b)), (3, .int (iI c)), (4, .int (iI d))]) F.1 F.2.1 dX3_chord_40 hl (by decide) rfl (fun ls hl => ?_)
      refine lv_aload_n F.1 F.2.1 dX3_chord_42 rfl (lv_at hl 1 rfl) ?_
      refine lv_iload F.1 F.2.1 dX3_chord_43 (lv_at hl 0 rfl) ?_
      refine k_if_ne F (tgt := 52) dX3_chord_45 (by decide) (by decide) (fun c_5 => absurd c_5 (by omega)) (fun c_5 => ?_)
      refine k_iconst F dX3_chord_48 ?_
      refine lv_goto (tgt := 71) F.1 F.2.1 dX3_chord_49 (by decide) ?_
      refine wr_V F (n := 1) (w := MW G A r0 σ) (w' := MW G A 1 σ) (wr := []) (ws2 := MW G A 1 σ) (mX3_refused l G sS.heap.size A r0 σ 1 1 (by decide) (by decide +kernel)) gX3_chord_X3_refused rfl rfl rfl (by decide +kernel) ⟨Nat.le_of_ble_eq_true rfl, Nat.le_of_ble_eq_true rfl⟩ hK hP hD hS hA (pm_nil _) (pm_nil' _) rfl (ci := 3) (q0 := 0) rfl rfl rfl rfl hl.1 (Nat.le_of_ble_eq_true rfl) dX3_chord_71 ⟨Nat.zero_le _, Nat.zero_le _⟩ (fun H locs hP hD hS => ?_)
      refine k_if_eq F (tgt := 79) dX3_chord_74 (by decide) (by decide) (fun c_6 => absurd c_6 (by omega)) (fun c_6 => ?_)
      refine k_iconst F dX3_chord_77 ?_
      exact wr_ret F hr hlocks (by rw [show kChd σ a b c d = 1 from (by unfold kChd; (repeat' split) <;> omega), if_neg (by decide)]) (by rw [show kChd σ a b c d = 1 from (by unfold kChd; (repeat' split) <;> omega), if_neg (by decide)]; exact hP) hS dX3_chord_78
    · skip
      refine lv_iload_n F.1 F.2.1 dX3_chord_16 rfl (lv_at hl 3 rfl) ?_
      refine k_iconst F dX3_chord_17 ?_
      refine lv_iload_n F.1 F.2.1 dX3_chord_18 rfl (lv_at hl 2 rfl) ?_
      refine rd_S F (n := 3) (w0 := []) (mX3_in l G (MW G A r0 σ) c 0 b (by omega) (by decide) (by omega)) gX3_chord_X3_in rfl rfl rfl (by decide +kernel) ⟨Nat.le_of_ble_eq_true rfl, Nat.le_of_ble_eq_true rfl⟩ hK hP rfl rfl hl.1 (Nat.le_of_ble_eq_true rfl) dX3_chord_19 ⟨Nat.zero_le _, Nat.zero_le _⟩ ?_
      refine k_ifb_eq F (tgt := 39) dX3_chord_22 (by decide) (fun c_7 => ?_) (fun c_7 => ?_)
      · skip
        refine k_iconst F dX3_chord_39 ?_
        refine lv_istore (lv' := [(5, .int (iI 0)), (0, .ref (A 0)), (1, .int (iI a)), (2, .int (iI b)), (3, .int (iI c)), (4, .int (iI d))]) F.1 F.2.1 dX3_chord_40 hl (by decide) rfl (fun ls hl => ?_)
        refine lv_aload_n F.1 F.2.1 dX3_chord_42 rfl (lv_at hl 1 rfl) ?_
        refine lv_iload F.1 F.2.1 dX3_chord_43 (lv_at hl 0 rfl) ?_
        refine k_if_ne F (tgt := 52) dX3_chord_45 (by decide) (by decide) (fun c_8 => absurd c_8 (by omega)) (fun c_8 => ?_)
        refine k_iconst F dX3_chord_48 ?_
        refine lv_goto (tgt := 71) F.1 F.2.1 dX3_chord_49 (by decide) ?_
        refine wr_V F (n := 1) (w := MW G A r0 σ) (w' := MW G A 1 σ) (wr := []) (ws2 := MW G A 1 σ) (mX3_refused l G sS.heap.size A r0 σ 1 1 (by decide) (by decide +kernel)) gX3_chord_X3_refused rfl rfl rfl (by decide +kernel) ⟨Nat.le_of_ble_eq_true rfl, Nat.le_of_ble_eq_true rfl⟩ hK hP hD hS hA (pm_nil _) (pm_nil' _) rfl (ci := 3) (q0 := 0) rfl rfl rfl rfl hl.1 (Nat.le_of_ble_eq_true rfl) dX3_chord_71 ⟨Nat.zero_le _, Nat.zero_le _⟩ (fun H locs hP hD hS => ?_)
        refine k_if_eq F (tgt := 79) dX3_chord_74 (by decide) (by decide) (fun c_9 => absurd c_9 (by omega)) (fun c_9 => ?_)
        refine k_iconst F dX3_chord_77 ?_
        exact wr_ret F hr hlocks (by rw [show kChd σ a b c d = 1 from (by unfold kChd; (repeat' split) <;> omega), if_neg (by decide)]) (by rw [show kChd σ a b c d = 1 from (by unfold kChd; (repeat' split) <;> omega), if_neg (by decide)]; exact hP) hS dX3_chord_78
      · skip
        refine lv_iload F.1 F.2.1 dX3_chord_25 (lv_at hl 4 rfl) ?_
        refine k_iconst F dX3_chord_27 ?_
        refine lv_iload_n F.1 F.2.1 dX3_chord_28 rfl (lv_at hl 3 rfl) ?_
        refine rd_S F (n := 3) (w0 := []) (mX3_in l G (MW G A r0 σ) d 0 c (by omega) (by decide) (by omega)) gX3_chord_X3_in rfl rfl rfl (by decide +kernel) ⟨Nat.le_of_ble_eq_true rfl, Nat.le_of_ble_eq_true rfl⟩ hK hP rfl rfl hl.1 (Nat.le_of_ble_eq_true rfl) dX3_chord_29 ⟨Nat.zero_le _, Nat.zero_le _⟩ ?_
        refine k_ifb_eq F (tgt := 39) dX3_chord_32 (by decide) (fun c_10 => ?_) (fun c_10 => ?_)
        · skip
          refine k_iconst F dX3_chord_39 ?_
          refine lv_istore (lv' := [(5, .int (iI 0)), (0, .ref (A 0)), (1, .int (iI a)), (2, .int (iI b)), (3, .int (iI c)), (4, .int (iI d))]) F.1 F.2.1 dX3_chord_40 hl (by decide) rfl (fun ls hl => ?_)
          refine lv_aload_n F.1 F.2.1 dX3_chord_42 rfl (lv_at hl 1 rfl) ?_
          refine lv_iload F.1 F.2.1 dX3_chord_43 (lv_at hl 0 rfl) ?_
          refine k_if_ne F (tgt := 52) dX3_chord_45 (by decide) (by decide) (fun c_11 => absurd c_11 (by omega)) (fun c_11 => ?_)
          refine k_iconst F dX3_chord_48 ?_
          refine lv_goto (tgt := 71) F.1 F.2.1 dX3_chord_49 (by decide) ?_
          refine wr_V F (n := 1) (w := MW G A r0 σ) (w' := MW G A 1 σ) (wr := []) (ws2 := MW G A 1 σ) (mX3_refused l G sS.heap.size A r0 σ 1 1 (by decide) (by decide +kernel)) gX3_chord_X3_refused rfl rfl rfl (by decide +kernel) ⟨Nat.le_of_ble_eq_true rfl, Nat.le_of_ble_eq_true rfl⟩ hK hP hD hS hA (pm_nil _) (pm_nil' _) rfl (ci := 3) (q0 := 0) rfl rfl rfl rfl hl.1 (Nat.le_of_ble_eq_true rfl) dX3_chord_71 ⟨Nat.zero_le _, Nat.zero_le _⟩ (fun H locs hP hD hS => ?_)
          refine k_if_eq F (tgt := 79) dX3_chord_74 (by decide) (by decide) (fun c_12 => absurd c_12 (by omega)) (fun c_12 => ?_)
          refine k_iconst F dX3_chord_77 ?_
          exact wr_ret F hr hlocks (by rw [show kChd σ a b c d = 1 from (by unfold kChd; (repeat' split) <;> omega), if_neg (by decide)]) (by rw [show kChd σ a b c d = 1 from (by unfold kChd; (repeat' split) <;> omega), if_neg (by decide)]; exact hP) hS dX3_chord_78
        · skip
          refine k_iconst F dX3_chord_35 ?_
          refine lv_goto (tgt := 40) F.1 F.2.1 dX3_chord_36 (by decide) ?_
          refine lv_istore (lv' := [(5, .int (iI 1)), (0, .ref (A 0)), (1, .int (iI a)), (2, .int (iI b)), (3, .int (iI c)), (4, .int (iI d))]) F.1 F.2.1 dX3_chord_40 hl (by decide) rfl (fun ls hl => ?_)
          refine lv_aload_n F.1 F.2.1 dX3_chord_42 rfl (lv_at hl 1 rfl) ?_
          refine lv_iload F.1 F.2.1 dX3_chord_43 (lv_at hl 0 rfl) ?_
          refine k_if_ne F (tgt := 52) dX3_chord_45 (by decide) (by decide) (fun c_13 => ?_) (fun c_13 => absurd c_13 (by omega))
          refine lv_aload_n F.1 F.2.1 dX3_chord_52 rfl (lv_at hl 1 rfl) ?_
          refine k_get F hK hP iX3 0 rfl rfl 8 (by decide) f25 rfl rfl dX3_chord_53 ?_
          refine lv_aload_n F.1 F.2.1 dX3_chord_56 rfl (lv_at hl 1 rfl) ?_
          refine k_get F hK hP iX3 0 rfl rfl 6 (by decide) f45 rfl rfl dX3_chord_57 ?_
          refine k_iald F hK hP 6 rfl ((σ 2 0 0).toNat) (by omega) (by omega) (by decide) rfl dX3_chord_60 ?_
          refine k_bipush F dX3_chord_61 (by decide +kernel) ?_
          refine k_icmp_ne F (tgt := 70) dX3_chord_63 (by decide) (by omega) (by decide) (fun c_14 => ?_) (fun c_14 => ?_)
          · skip
            refine k_iconst F dX3_chord_70 ?_
            refine wr_V F (n := 1) (w := MW G A r0 σ) (w' := MW G A 0 σ) (wr := []) (ws2 := MW G A 0 σ) (mX3_refused l G sS.heap.size A r0 σ 0 0 (by decide) (by decide +kernel)) gX3_chord_X3_refused rfl rfl rfl (by decide +kernel) ⟨Nat.le_of_ble_eq_true rfl, Nat.le_of_ble_eq_true rfl⟩ hK hP hD hS hA (pm_nil _) (pm_nil' _) rfl (ci := 3) (q0 := 0) rfl rfl rfl rfl hl.1 (Nat.le_of_ble_eq_true rfl) dX3_chord_71 ⟨Nat.zero_le _, Nat.zero_le _⟩ (fun H locs hP hD hS => ?_)
            refine k_if_eq F (tgt := 79) dX3_chord_74 (by decide) (by decide) (fun c_15 => ?_) (fun c_15 => absurd c_15 (by omega))
            refine k_bipush F dX3_chord_79 (by decide +kernel) ?_
            refine lv_aload_n F.1 F.2.1 dX3_chord_81 rfl (lv_at hl 1 rfl) ?_
            refine k_get F hK hP iX3 0 rfl rfl 6 (by decide) f45 rfl rfl dX3_chord_82 ?_
            refine k_imul F rfl dX3_chord_85 ?_
            refine k_iconst F dX3_chord_86 ?_
            refine lv_aload_n F.1 F.2.1 dX3_chord_87 rfl (lv_at hl 1 rfl) ?_
            refine k_get F hK hP iX3 0 rfl rfl 8 (by decide) f25 rfl rfl dX3_chord_88 ?_
            refine lv_aload_n F.1 F.2.1 dX3_chord_91 rfl (lv_at hl 1 rfl) ?_
            refine k_get F hK hP iX3 0 rfl rfl 6 (by decide) f45 rfl rfl dX3_chord_92 ?_
            refine k_iald F hK hP 6 rfl ((σ 2 0 0).toNat) (by omega) (by omega) (by decide) rfl dX3_chord_95 ?_
            refine k_imul F rfl dX3_chord_96 ?_
            refine k_iadd F rfl dX3_chord_97 ?_
            refine lv_istore (lv' := [(6, .int (iI ((64 * σ 2 0 0) + (4 * (σ 8 (σ 2 0 0).toNat 0))))), (5, .int (iI 1)), (0, .ref (A 0)), (1, .int (iI a)), (2, .int (iI b)), (3, .int (iI c)), (4, .int (iI d))]) F.1 F.2.1 dX3_chord_98 hl (by decide) rfl (fun ls hl => ?_)
            refine lv_aload_n F.1 F.2.1 dX3_chord_100 rfl (lv_at hl 2 rfl) ?_
            refine k_get F hK hP iX3 0 rfl rfl 7 (by decide) f22 rfl rfl dX3_chord_101 ?_
            refine lv_iload F.1 F.2.1 dX3_chord_104 (lv_at hl 0 rfl) ?_
            refine lv_iload_n F.1 F.2.1 dX3_chord_106 rfl (lv_at hl 3 rfl) ?_
            refine k_iast F hK hP hD hS 5 rfl ((64 * (σ 2 0 0).toNat) + (4 * (σ 8 (σ 2 0 0).toNat 0).toNat)) (by omega) (by omega) (by decide) dX3_chord_107 (fun H locs hP hD hS => ?_)
            have hP : gP G ([(A 0, .inr (3, [.int (iI 0), .int (iI (σ 1 0 0)), .ref (A 1), .ref (A 2), .ref (A 3), .ref (A 4), .int (iI (σ 2 0 0)), .ref (A 5), .ref (A 6), .ref (A 7), .ref (A 8)])), (A 1, .inl (G.2.1, 12, .inl (ia (σ 3 0)))), (A 2, .inl (G.2.1, 12, .inl (ia (σ 4 0)))), (A 3, .inl (G.2.1, 12, .inl (ia (σ 5 0)))), (A 4, .inl (G.2.1, 12, .inl (ia (σ 6 0)))), (A 5, .inl (G.2.1, 448, .inl (ia (uI (fun q => σ 7 (q / 64) (q % 64)) ((64 * (σ 2 0 0).toNat) + (4 * (σ 8 (σ 2 0 0).toNat 0).toNat)) a)))), (A 6, .inl (G.2.1, 7, .inl (ia (fun q => σ 8 q 0)))), (A 7, .inl (G.2.1, 6, .inl (ia (fun q => σ 9 q 0)))), (A 8, .inl (G.2.1, 96, .inl (ia (fun q => σ 10 (q / 16) (q % 16)))))]) H := hP
            have hD : va_D AA ([(A 0, .inr (3, [.int (iI 0), .int (iI (σ 1 0 0)), .ref (A 1), .ref (A 2), .ref (A 3), .ref (A 4), .int (iI (σ 2 0 0)), .ref (A 5), .ref (A 6), .ref (A 7), .ref (A 8)])), (A 1, .inl (G.2.1, 12, .inl (ia (σ 3 0)))), (A 2, .inl (G.2.1, 12, .inl (ia (σ 4 0)))), (A 3, .inl (G.2.1, 12, .inl (ia (σ 5 0)))), (A 4, .inl (G.2.1, 12, .inl (ia (σ 6 0)))), (A 5, .inl (G.2.1, 448, .inl (ia (uI (fun q => σ 7 (q / 64) (q % 64)) ((64 * (σ 2 0 0).toNat) + (4 * (σ 8 (σ 2 0 0).toNat 0).toNat)) a)))), (A 6, .inl (G.2.1, 7, .inl (ia (fun q => σ 8 q 0)))), (A 7, .inl (G.2.1, 6, .inl (ia (fun q => σ 9 q 0)))), (A 8, .inl (G.2.1, 96, .inl (ia (fun q => σ 10 (q / 16) (q % 16)))))]) := hD
            refine lv_aload_n F.1 F.2.1 dX3_chord_108 rfl (lv_at hl 2 rfl) ?_
            refine k_get F hK hP iX3 0 rfl rfl 7 (by decide) f22 rfl rfl dX3_chord_109 ?_
            refine lv_iload F.1 F.2.1 dX3_chord_112 (lv_at hl 0 rfl) ?_
            refine k_iconst F dX3_chord_114 ?_
            refine k_iadd F rfl dX3_chord_115 ?_
            refine lv_iload_n F.1 F.2.1 dX3_chord_116 rfl (lv_at hl 4 rfl) ?_
            refine k_iast F hK hP hD hS 5 rfl (((64 * (σ 2 0 0).toNat) + (4 * (σ 8 (σ 2 0 0).toNat 0).toNat)) + 1) (by omega) (by omega) (by decide) dX3_chord_117 (fun H locs hP hD hS => ?_)
            have hP : gP G ([(A 0, .inr (3, [.int (iI 0), .int (iI (σ 1 0 0)), .ref (A 1), .ref (A 2), .ref (A 3), .ref (A 4), .int (iI (σ 2 0 0)), .ref (A 5), .ref (A 6), .ref (A 7), .ref (A 8)])), (A 1, .inl (G.2.1, 12, .inl (ia (σ 3 0)))), (A 2, .inl (G.2.1, 12, .inl (ia (σ 4 0)))), (A 3, .inl (G.2.1, 12, .inl (ia (σ 5 0)))), (A 4, .inl (G.2.1, 12, .inl (ia (σ 6 0)))), (A 5, .inl (G.2.1, 448, .inl (ia (uI (uI (fun q => σ 7 (q / 64) (q % 64)) ((64 * (σ 2 0 0).toNat) + (4 * (σ 8 (σ 2 0 0).toNat 0).toNat)) a) (((64 * (σ 2 0 0).toNat) + (4 * (σ 8 (σ 2 0 0).toNat 0).toNat)) + 1) b)))), (A 6, .inl (G.2.1, 7, .inl (ia (fun q => σ 8 q 0)))), (A 7, .inl (G.2.1, 6, .inl (ia (fun q => σ 9 q 0)))), (A 8, .inl (G.2.1, 96, .inl (ia (fun q => σ 10 (q / 16) (q % 16)))))]) H := hP
            have hD : va_D AA ([(A 0, .inr (3, [.int (iI 0), .int (iI (σ 1 0 0)), .ref (A 1), .ref (A 2), .ref (A 3), .ref (A 4), .int (iI (σ 2 0 0)), .ref (A 5), .ref (A 6), .ref (A 7), .ref (A 8)])), (A 1, .inl (G.2.1, 12, .inl (ia (σ 3 0)))), (A 2, .inl (G.2.1, 12, .inl (ia (σ 4 0)))), (A 3, .inl (G.2.1, 12, .inl (ia (σ 5 0)))), (A 4, .inl (G.2.1, 12, .inl (ia (σ 6 0)))), (A 5, .inl (G.2.1, 448, .inl (ia (uI (uI (fun q => σ 7 (q / 64) (q % 64)) ((64 * (σ 2 0 0).toNat) + (4 * (σ 8 (σ 2 0 0).toNat 0).toNat)) a) (((64 * (σ 2 0 0).toNat) + (4 * (σ 8 (σ 2 0 0).toNat 0).toNat)) + 1) b)))), (A 6, .inl (G.2.1, 7, .inl (ia (fun q => σ 8 q 0)))), (A 7, .inl (G.2.1, 6, .inl (ia (fun q => σ 9 q 0)))), (A 8, .inl (G.2.1, 96, .inl (ia (fun q => σ 10 (q / 16) (q % 16)))))]) := hD
            refine lv_aload_n F.1 F.2.1 dX3_chord_118 rfl (lv_at hl 2 rfl) ?_
            refine k_get F hK hP iX3 0 rfl rfl 7 (by decide) f22 rfl rfl dX3_chord_119 ?_
            refine lv_iload F.1 F.2.1 dX3_chord_122 (lv_at hl 0 rfl) ?_
            refine k_iconst F dX3_chord_124 ?_
            refine k_iadd F rfl dX3_chord_125 ?_
            refine lv_iload_n F.1 F.2.1 dX3_chord_126 rfl (lv_at hl 5 rfl) ?_
            refine k_iast F hK hP hD hS 5 rfl (((64 * (σ 2 0 0).toNat) + (4 * (σ 8 (σ 2 0 0).toNat 0).toNat)) + 2) (by omega) (by omega) (by decide) dX3_chord_127 (fun H locs hP hD hS => ?_)
            have hP : gP G ([(A 0, .inr (3, [.int (iI 0), .int (iI (σ 1 0 0)), .ref (A 1), .ref (A 2), .ref (A 3), .ref (A 4), .int (iI (σ 2 0 0)), .ref (A 5), .ref (A 6), .ref (A 7), .ref (A 8)])), (A 1, .inl (G.2.1, 12, .inl (ia (σ 3 0)))), (A 2, .inl (G.2.1, 12, .inl (ia (σ 4 0)))), (A 3, .inl (G.2.1, 12, .inl (ia (σ 5 0)))), (A 4, .inl (G.2.1, 12, .inl (ia (σ 6 0)))), (A 5, .inl (G.2.1, 448, .inl (ia (uI (uI (uI (fun q => σ 7 (q / 64) (q % 64)) ((64 * (σ 2 0 0).toNat) + (4 * (σ 8 (σ 2 0 0).toNat 0).toNat)) a) (((64 * (σ 2 0 0).toNat) + (4 * (σ 8 (σ 2 0 0).toNat 0).toNat)) + 1) b) (((64 * (σ 2 0 0).toNat) + (4 * (σ 8 (σ 2 0 0).toNat 0).toNat)) + 2) c)))), (A 6, .inl (G.2.1, 7, .inl (ia (fun q => σ 8 q 0)))), (A 7, .inl (G.2.1, 6, .inl (ia (fun q => σ 9 q 0)))), (A 8, .inl (G.2.1, 96, .inl (ia (fun q => σ 10 (q / 16) (q % 16)))))]) H := hP
            have hD : va_D AA ([(A 0, .inr (3, [.int (iI 0), .int (iI (σ 1 0 0)), .ref (A 1), .ref (A 2), .ref (A 3), .ref (A 4), .int (iI (σ 2 0 0)), .ref (A 5), .ref (A 6), .ref (A 7), .ref (A 8)])), (A 1, .inl (G.2.1, 12, .inl (ia (σ 3 0)))), (A 2, .inl (G.2.1, 12, .inl (ia (σ 4 0)))), (A 3, .inl (G.2.1, 12, .inl (ia (σ 5 0)))), (A 4, .inl (G.2.1, 12, .inl (ia (σ 6 0)))), (A 5, .inl (G.2.1, 448, .inl (ia (uI (uI (uI (fun q => σ 7 (q / 64) (q % 64)) ((64 * (σ 2 0 0).toNat) + (4 * (σ 8 (σ 2 0 0).toNat 0).toNat)) a) (((64 * (σ 2 0 0).toNat) + (4 * (σ 8 (σ 2 0 0).toNat 0).toNat)) + 1) b) (((64 * (σ 2 0 0).toNat) + (4 * (σ 8 (σ 2 0 0).toNat 0).toNat)) + 2) c)))), (A 6, .inl (G.2.1, 7, .inl (ia (fun q => σ 8 q 0)))), (A 7, .inl (G.2.1, 6, .inl (ia (fun q => σ 9 q 0)))), (A 8, .inl (G.2.1, 96, .inl (ia (fun q => σ 10 (q / 16) (q % 16)))))]) := hD
            refine lv_aload_n F.1 F.2.1 dX3_chord_128 rfl (lv_at hl 2 rfl) ?_
            refine k_get F hK hP iX3 0 rfl rfl 7 (by decide) f22 rfl rfl dX3_chord_129 ?_
            refine lv_iload F.1 F.2.1 dX3_chord_132 (lv_at hl 0 rfl) ?_
            refine k_iconst F dX3_chord_134 ?_
            refine k_iadd F rfl dX3_chord_135 ?_
            refine lv_iload F.1 F.2.1 dX3_chord_136 (lv_at hl 6 rfl) ?_
            refine k_iast F hK hP hD hS 5 rfl (((64 * (σ 2 0 0).toNat) + (4 * (σ 8 (σ 2 0 0).toNat 0).toNat)) + 3) (by omega) (by omega) (by decide) dX3_chord_138 (fun H locs hP hD hS => ?_)
            have hP : gP G ([(A 0, .inr (3, [.int (iI 0), .int (iI (σ 1 0 0)), .ref (A 1), .ref (A 2), .ref (A 3), .ref (A 4), .int (iI (σ 2 0 0)), .ref (A 5), .ref (A 6), .ref (A 7), .ref (A 8)])), (A 1, .inl (G.2.1, 12, .inl (ia (σ 3 0)))), (A 2, .inl (G.2.1, 12, .inl (ia (σ 4 0)))), (A 3, .inl (G.2.1, 12, .inl (ia (σ 5 0)))), (A 4, .inl (G.2.1, 12, .inl (ia (σ 6 0)))), (A 5, .inl (G.2.1, 448, .inl (ia (uI (uI (uI (uI (fun q => σ 7 (q / 64) (q % 64)) ((64 * (σ 2 0 0).toNat) + (4 * (σ 8 (σ 2 0 0).toNat 0).toNat)) a) (((64 * (σ 2 0 0).toNat) + (4 * (σ 8 (σ 2 0 0).toNat 0).toNat)) + 1) b) (((64 * (σ 2 0 0).toNat) + (4 * (σ 8 (σ 2 0 0).toNat 0).toNat)) + 2) c) (((64 * (σ 2 0 0).toNat) + (4 * (σ 8 (σ 2 0 0).toNat 0).toNat)) + 3) d)))), (A 6, .inl (G.2.1, 7, .inl (ia (fun q => σ 8 q 0)))), (A 7, .inl (G.2.1, 6, .inl (ia (fun q => σ 9 q 0)))), (A 8, .inl (G.2.1, 96, .inl (ia (fun q => σ 10 (q / 16) (q % 16)))))]) H := hP
            have hD : va_D AA ([(A 0, .inr (3, [.int (iI 0), .int (iI (σ 1 0 0)), .ref (A 1), .ref (A 2), .ref (A 3), .ref (A 4), .int (iI (σ 2 0 0)), .ref (A 5), .ref (A 6), .ref (A 7), .ref (A 8)])), (A 1, .inl (G.2.1, 12, .inl (ia (σ 3 0)))), (A 2, .inl (G.2.1, 12, .inl (ia (σ 4 0)))), (A 3, .inl (G.2.1, 12, .inl (ia (σ 5 0)))), (A 4, .inl (G.2.1, 12, .inl (ia (σ 6 0)))), (A 5, .inl (G.2.1, 448, .inl (ia (uI (uI (uI (uI (fun q => σ 7 (q / 64) (q % 64)) ((64 * (σ 2 0 0).toNat) + (4 * (σ 8 (σ 2 0 0).toNat 0).toNat)) a) (((64 * (σ 2 0 0).toNat) + (4 * (σ 8 (σ 2 0 0).toNat 0).toNat)) + 1) b) (((64 * (σ 2 0 0).toNat) + (4 * (σ 8 (σ 2 0 0).toNat 0).toNat)) + 2) c) (((64 * (σ 2 0 0).toNat) + (4 * (σ 8 (σ 2 0 0).toNat 0).toNat)) + 3) d)))), (A 6, .inl (G.2.1, 7, .inl (ia (fun q => σ 8 q 0)))), (A 7, .inl (G.2.1, 6, .inl (ia (fun q => σ 9 q 0)))), (A 8, .inl (G.2.1, 96, .inl (ia (fun q => σ 10 (q / 16) (q % 16)))))]) := hD
            refine lv_aload_n F.1 F.2.1 dX3_chord_139 rfl (lv_at hl 2 rfl) ?_
            refine k_get F hK hP iX3 0 rfl rfl 8 (by decide) f25 rfl rfl dX3_chord_140 ?_
            refine lv_aload_n F.1 F.2.1 dX3_chord_143 rfl (lv_at hl 2 rfl) ?_
            refine k_get F hK hP iX3 0 rfl rfl 6 (by decide) f45 rfl rfl dX3_chord_144 ?_
            refine lv_dup2_11 F.1 F.2.1 dX3_chord_147 rfl rfl ?_
            refine k_iald F hK hP 6 rfl ((σ 2 0 0).toNat) (by omega) (by omega) (by decide) rfl dX3_chord_148 ?_
            refine k_iconst F dX3_chord_149 ?_
            refine k_iadd F rfl dX3_chord_150 ?_
            refine k_iast F hK hP hD hS 6 rfl ((σ 2 0 0).toNat) (by omega) (by omega) (by decide) dX3_chord_151 (fun H locs hP hD hS => ?_)
            have hP : gP G ([(A 0, .inr (3, [.int (iI 0), .int (iI (σ 1 0 0)), .ref (A 1), .ref (A 2), .ref (A 3), .ref (A 4), .int (iI (σ 2 0 0)), .ref (A 5), .ref (A 6), .ref (A 7), .ref (A 8)])), (A 1, .inl (G.2.1, 12, .inl (ia (σ 3 0)))), (A 2, .inl (G.2.1, 12, .inl (ia (σ 4 0)))), (A 3, .inl (G.2.1, 12, .inl (ia (σ 5 0)))), (A 4, .inl (G.2.1, 12, .inl (ia (σ 6 0)))), (A 5, .inl (G.2.1, 448, .inl (ia (uI (uI (uI (uI (fun q => σ 7 (q / 64) (q % 64)) ((64 * (σ 2 0 0).toNat) + (4 * (σ 8 (σ 2 0 0).toNat 0).toNat)) a) (((64 * (σ 2 0 0).toNat) + (4 * (σ 8 (σ 2 0 0).toNat 0).toNat)) + 1) b) (((64 * (σ 2 0 0).toNat) + (4 * (σ 8 (σ 2 0 0).toNat 0).toNat)) + 2) c) (((64 * (σ 2 0 0).toNat) + (4 * (σ 8 (σ 2 0 0).toNat 0).toNat)) + 3) d)))), (A 6, .inl (G.2.1, 7, .inl (ia (uI (fun q => σ 8 q 0) ((σ 2 0 0).toNat) ((σ 8 (σ 2 0 0).toNat 0) + 1))))), (A 7, .inl (G.2.1, 6, .inl (ia (fun q => σ 9 q 0)))), (A 8, .inl (G.2.1, 96, .inl (ia (fun q => σ 10 (q / 16) (q % 16)))))]) H := hP
            have hD : va_D AA ([(A 0, .inr (3, [.int (iI 0), .int (iI (σ 1 0 0)), .ref (A 1), .ref (A 2), .ref (A 3), .ref (A 4), .int (iI (σ 2 0 0)), .ref (A 5), .ref (A 6), .ref (A 7), .ref (A 8)])), (A 1, .inl (G.2.1, 12, .inl (ia (σ 3 0)))), (A 2, .inl (G.2.1, 12, .inl (ia (σ 4 0)))), (A 3, .inl (G.2.1, 12, .inl (ia (σ 5 0)))), (A 4, .inl (G.2.1, 12, .inl (ia (σ 6 0)))), (A 5, .inl (G.2.1, 448, .inl (ia (uI (uI (uI (uI (fun q => σ 7 (q / 64) (q % 64)) ((64 * (σ 2 0 0).toNat) + (4 * (σ 8 (σ 2 0 0).toNat 0).toNat)) a) (((64 * (σ 2 0 0).toNat) + (4 * (σ 8 (σ 2 0 0).toNat 0).toNat)) + 1) b) (((64 * (σ 2 0 0).toNat) + (4 * (σ 8 (σ 2 0 0).toNat 0).toNat)) + 2) c) (((64 * (σ 2 0 0).toNat) + (4 * (σ 8 (σ 2 0 0).toNat 0).toNat)) + 3) d)))), (A 6, .inl (G.2.1, 7, .inl (ia (uI (fun q => σ 8 q 0) ((σ 2 0 0).toNat) ((σ 8 (σ 2 0 0).toNat 0) + 1))))), (A 7, .inl (G.2.1, 6, .inl (ia (fun q => σ 9 q 0)))), (A 8, .inl (G.2.1, 96, .inl (ia (fun q => σ 10 (q / 16) (q % 16)))))]) := hD
            refine lv_aload_n F.1 F.2.1 dX3_chord_152 rfl (lv_at hl 2 rfl) ?_
            refine k_get F hK hP iX3 0 rfl rfl 8 (by decide) f25 rfl rfl dX3_chord_153 ?_
            refine lv_aload_n F.1 F.2.1 dX3_chord_156 rfl (lv_at hl 2 rfl) ?_
            refine k_get F hK hP iX3 0 rfl rfl 6 (by decide) f45 rfl rfl dX3_chord_157 ?_
            refine k_iald F hK hP 6 rfl ((σ 2 0 0).toNat) (by omega) (by omega) (by decide) (uI_s _ _ _) dX3_chord_160 ?_
            exact wr_ret F hr hlocks (by rw [show kChd σ a b c d = 0 from (by unfold kChd; (repeat' split) <;> omega), if_pos rfl] <;> rfl) (by rw [show kChd σ a b c d = 0 from (by unfold kChd; (repeat' split) <;> omega), if_pos rfl]; exact MW_of rfl rfl rfl rfl rfl rfl ((fl7e _ _ _ _ (by omega) (by omega)).trans (congrArg (fun f9 => uI f9 _ _) ((fl7e _ _ _ _ (by omega) (by omega)).trans (congrArg (fun f9 => uI f9 _ _) ((fl7e _ _ _ _ (by omega) (by omega)).trans (congrArg (fun f9 => uI f9 _ _) (fl7e _ _ _ _ (by omega) (by omega)))))))) (fl8 _ 8 _ _) rfl rfl hP) hS dX3_chord_161
          · skip
            refine k_iconst F dX3_chord_66 ?_
            refine lv_goto (tgt := 71) F.1 F.2.1 dX3_chord_67 (by decide) ?_
            refine wr_V F (n := 1) (w := MW G A r0 σ) (w' := MW G A 2 σ) (wr := []) (ws2 := MW G A 2 σ) (mX3_refused l G sS.heap.size A r0 σ 2 1 (by decide) (by decide +kernel)) gX3_chord_X3_refused rfl rfl rfl (by decide +kernel) ⟨Nat.le_of_ble_eq_true rfl, Nat.le_of_ble_eq_true rfl⟩ hK hP hD hS hA (pm_nil _) (pm_nil' _) rfl (ci := 3) (q0 := 0) rfl rfl rfl rfl hl.1 (Nat.le_of_ble_eq_true rfl) dX3_chord_71 ⟨Nat.zero_le _, Nat.zero_le _⟩ (fun H locs hP hD hS => ?_)
            refine k_if_eq F (tgt := 79) dX3_chord_74 (by decide) (by decide) (fun c_16 => absurd c_16 (by omega)) (fun c_16 => ?_)
            refine k_iconst F dX3_chord_77 ?_
            exact wr_ret F hr hlocks (by rw [show kChd σ a b c d = 2 from (by unfold kChd; (repeat' split) <;> omega), if_neg (by decide)]) (by rw [show kChd σ a b c d = 2 from (by unfold kChd; (repeat' split) <;> omega), if_neg (by decide)]; exact hP) hS dX3_chord_78

set_option maxHeartbeats 4000000 in
set_option maxRecDepth 100000 in
theorem mX3_addPiece (l : Launch) (G : gT) (sz0 : Nat) (A : Nat → Nat) (r0 : Int) (σ : Sg) (x : Int) (hx : -2147483648 ≤ x ∧ x < 2147483648) {n k N : Nat} (hI : Iv σ n k N) : Met l yX3_addPiece wsX3_addPiece { frames := 1, cells := 0, slots := 0, locals := 22 } (va_Pc [.ref (A 0), .int (iI x)] (wB G (MW G A r0 σ) sz0)) (wI (if kPce σ x = 0 then σ 2 0 0 else 0) G (MW G A (kPce σ x) (if kPce σ x = 0 then sPce σ x else σ)) (va_A (MW G A r0 σ) sz0)) 0 0 (va_A (MW G A r0 σ) sz0) := by
  refine wr_start (own := RX3) (cc := cX3_addPiece) (mL := 3) (ret := (some .int)) (Qc := fun AA => wI (if kPce σ x = 0 then σ 2 0 0 else 0) G (MW G A (kPce σ x) (if kPce σ x = 0 then sPce σ x else σ)) AA) (by decide) rfl rfl (Nat.le_of_ble_eq_true rfl) ?_
  intro pP eE sS mM args bB meth cC ls AA F hr hlocks hin hK hsz0 hP hD hS hA hl
  obtain ⟨hn, hn12, hk, hk6, hsg, haw, hch, hch1, hch0, htn, hto, htz, hpr, hN, hpz, hle, hlz⟩ := id hI
  have hcx := hch (σ 2 0 0).toNat
  have iX3 : ∀ x ∈ wsX30, x ∈ wsX3_addPiece := by decide +kernel
  have f25 := k_cond F (w := .fieldLink RX3 25 "ChoirPlannerModel" "chords" "[I") (by decide +kernel)
  have f28 := k_cond F (w := .fieldLink RX3 28 "ChoirPlannerModel" "lengths" "[I") (by decide +kernel)
  have f45 := k_cond F (w := .fieldLink RX3 45 "ChoirPlannerModel" "pieces" "I") (by decide +kernel)
  have hl : lv_has ls 3 [(0, .ref (A 0)), (1, .int (iI x))] := hl
  refine lv_aload_n F.1 F.2.1 dX3_addPiece_0 rfl (lv_at hl 0 rfl) ?_
  refine k_get F hK hP iX3 0 rfl rfl 8 (by decide) f25 rfl rfl dX3_addPiece_1 ?_
  refine lv_aload_n F.1 F.2.1 dX3_addPiece_4 rfl (lv_at hl 0 rfl) ?_
  refine k_get F hK hP iX3 0 rfl rfl 6 (by decide) f45 rfl rfl dX3_addPiece_5 ?_
  refine k_iald F hK hP 6 rfl ((σ 2 0 0).toNat) (by omega) (by omega) (by decide) rfl dX3_addPiece_8 ?_
  refine k_if_le F (tgt := 25) dX3_addPiece_9 (by decide) (by omega) (fun c_1 => ?_) (fun c_1 => ?_)
  · skip
    refine k_iconst F dX3_addPiece_25 ?_
    refine lv_istore_n (lv' := [(2, .int (iI 0)), (0, .ref (A 0)), (1, .int (iI x))]) F.1 F.2.1 dX3_addPiece_26 rfl hl (by decide) rfl (fun ls hl => ?_)
    refine lv_aload_n F.1 F.2.1 dX3_addPiece_27 rfl (lv_at hl 1 rfl) ?_
    refine lv_iload_n F.1 F.2.1 dX3_addPiece_28 rfl (lv_at hl 2 rfl) ?_
    refine k_iconst F dX3_addPiece_29 ?_
    refine k_sipush F dX3_addPiece_30 (by decide +kernel) ?_
    refine rd_S F (n := 3) (w0 := []) (mX3_in l G (MW G A r0 σ) x 1 3600 (by omega) (by decide) (by decide)) gX3_addPiece_X3_in rfl rfl rfl (by decide +kernel) ⟨Nat.le_of_ble_eq_true rfl, Nat.le_of_ble_eq_true rfl⟩ hK hP rfl rfl hl.1 (Nat.le_of_ble_eq_true rfl) dX3_addPiece_33 ⟨Nat.zero_le _, Nat.zero_le _⟩ ?_
    refine k_ifb_ne F (tgt := 43) dX3_addPiece_36 (by decide) (fun c_2 => ?_) (fun c_2 => ?_)
    · skip
      refine lv_iload_n F.1 F.2.1 dX3_addPiece_43 rfl (lv_at hl 0 rfl) ?_
      refine k_if_eq F (tgt := 51) dX3_addPiece_44 (by decide) (by decide) (fun c_3 => ?_) (fun c_3 => absurd c_3 (by omega))
      refine k_iconst F dX3_addPiece_51 ?_
      refine wr_V F (n := 1) (w := MW G A r0 σ) (w' := MW G A 2 σ) (wr := []) (ws2 := MW G A 2 σ) (mX3_refused l G sS.heap.size A r0 σ 2 1 (by decide) (by decide +kernel)) gX3_addPiece_X3_refused rfl rfl rfl (by decide +kernel) ⟨Nat.le_of_ble_eq_true rfl, Nat.le_of_ble_eq_true rfl⟩ hK hP hD hS hA (pm_nil _) (pm_nil' _) rfl (ci := 3) (q0 := 0) rfl rfl rfl rfl hl.1 (Nat.le_of_ble_eq_true rfl) dX3_addPiece_52 ⟨Nat.zero_le _, Nat.zero_le _⟩ (fun H locs hP hD hS => ?_)
      refine k_if_eq F (tgt := 60) dX3_addPiece_55 (by decide) (by decide) (fun c_4 => absurd c_4 (by omega)) (fun c_4 => ?_)
      refine k_iconst F dX3_addPiece_58 ?_
      exact wr_ret F hr hlocks (by rw [show kPce σ x = 2 from (by unfold kPce; (repeat' split) <;> omega), if_neg (by decide)]) (by rw [show kPce σ x = 2 from (by unfold kPce; (repeat' split) <;> omega), if_neg (by decide)]; exact hP) hS dX3_addPiece_59
    · skip
      refine k_iconst F dX3_addPiece_39 ?_
      refine lv_goto (tgt := 52) F.1 F.2.1 dX3_addPiece_40 (by decide) ?_
      refine wr_V F (n := 1) (w := MW G A r0 σ) (w' := MW G A 1 σ) (wr := []) (ws2 := MW G A 1 σ) (mX3_refused l G sS.heap.size A r0 σ 1 1 (by decide) (by decide +kernel)) gX3_addPiece_X3_refused rfl rfl rfl (by decide +kernel) ⟨Nat.le_of_ble_eq_true rfl, Nat.le_of_ble_eq_true rfl⟩ hK hP hD hS hA (pm_nil _) (pm_nil' _) rfl (ci := 3) (q0 := 0) rfl rfl rfl rfl hl.1 (Nat.le_of_ble_eq_true rfl) dX3_addPiece_52 ⟨Nat.zero_le _, Nat.zero_le _⟩ (fun H locs hP hD hS => ?_)
      refine k_if_eq F (tgt := 60) dX3_addPiece_55 (by decide) (by decide) (fun c_5 => absurd c_5 (by omega)) (fun c_5 => ?_)
      refine k_iconst F dX3_addPiece_58 ?_
      exact wr_ret F hr hlocks (by rw [show kPce σ x = 1 from (by unfold kPce; (repeat' split) <;> omega), if_neg (by decide)]) (by rw [show kPce σ x = 1 from (by unfold kPce; (repeat' split) <;> omega), if_neg (by decide)]; exact hP) hS dX3_addPiece_59
  · skip
    refine lv_aload_n F.1 F.2.1 dX3_addPiece_12 rfl (lv_at hl 0 rfl) ?_
    refine k_get F hK hP iX3 0 rfl rfl 6 (by decide) f45 rfl rfl dX3_addPiece_13 ?_
    refine k_bipush F dX3_addPiece_16 (by decide +kernel) ?_
    refine k_icmp_ge F (tgt := 25) dX3_addPiece_18 (by decide) (by omega) (by decide) (fun c_6 => ?_) (fun c_6 => ?_)
    · skip
      refine k_iconst F dX3_addPiece_25 ?_
      refine lv_istore_n (lv' := [(2, .int (iI 0)), (0, .ref (A 0)), (1, .int (iI x))]) F.1 F.2.1 dX3_addPiece_26 rfl hl (by decide) rfl (fun ls hl => ?_)
      refine lv_aload_n F.1 F.2.1 dX3_addPiece_27 rfl (lv_at hl 1 rfl) ?_
      refine lv_iload_n F.1 F.2.1 dX3_addPiece_28 rfl (lv_at hl 2 rfl) ?_
      refine k_iconst F dX3_addPiece_29 ?_
      refine k_sipush F dX3_addPiece_30 (by decide +kernel) ?_
      refine rd_S F (n := 3) (w0 := []) (mX3_in l G (MW G A r0 σ) x 1 3600 (by omega) (by decide) (by decide)) gX3_addPiece_X3_in rfl rfl rfl (by decide +kernel) ⟨Nat.le_of_ble_eq_true rfl, Nat.le_of_ble_eq_true rfl⟩ hK hP rfl rfl hl.1 (Nat.le_of_ble_eq_true rfl) dX3_addPiece_33 ⟨Nat.zero_le _, Nat.zero_le _⟩ ?_
      refine k_ifb_ne F (tgt := 43) dX3_addPiece_36 (by decide) (fun c_7 => ?_) (fun c_7 => ?_)
      · skip
        refine lv_iload_n F.1 F.2.1 dX3_addPiece_43 rfl (lv_at hl 0 rfl) ?_
        refine k_if_eq F (tgt := 51) dX3_addPiece_44 (by decide) (by decide) (fun c_8 => ?_) (fun c_8 => absurd c_8 (by omega))
        refine k_iconst F dX3_addPiece_51 ?_
        refine wr_V F (n := 1) (w := MW G A r0 σ) (w' := MW G A 2 σ) (wr := []) (ws2 := MW G A 2 σ) (mX3_refused l G sS.heap.size A r0 σ 2 1 (by decide) (by decide +kernel)) gX3_addPiece_X3_refused rfl rfl rfl (by decide +kernel) ⟨Nat.le_of_ble_eq_true rfl, Nat.le_of_ble_eq_true rfl⟩ hK hP hD hS hA (pm_nil _) (pm_nil' _) rfl (ci := 3) (q0 := 0) rfl rfl rfl rfl hl.1 (Nat.le_of_ble_eq_true rfl) dX3_addPiece_52 ⟨Nat.zero_le _, Nat.zero_le _⟩ (fun H locs hP hD hS => ?_)
        refine k_if_eq F (tgt := 60) dX3_addPiece_55 (by decide) (by decide) (fun c_9 => absurd c_9 (by omega)) (fun c_9 => ?_)
        refine k_iconst F dX3_addPiece_58 ?_
        exact wr_ret F hr hlocks (by rw [show kPce σ x = 2 from (by unfold kPce; (repeat' split) <;> omega), if_neg (by decide)]) (by rw [show kPce σ x = 2 from (by unfold kPce; (repeat' split) <;> omega), if_neg (by decide)]; exact hP) hS dX3_addPiece_59
      · skip
        refine k_iconst F dX3_addPiece_39 ?_
        refine lv_goto (tgt := 52) F.1 F.2.1 dX3_addPiece_40 (by decide) ?_
        refine wr_V F (n := 1) (w := MW G A r0 σ) (w' := MW G A 1 σ) (wr := []) (ws2 := MW G A 1 σ) (mX3_refused l G sS.heap.size A r0 σ 1 1 (by decide) (by decide +kernel)) gX3_addPiece_X3_refused rfl rfl rfl (by decide +kernel) ⟨Nat.le_of_ble_eq_true rfl, Nat.le_of_ble_eq_true rfl⟩ hK hP hD hS hA (pm_nil _) (pm_nil' _) rfl (ci := 3) (q0 := 0) rfl rfl rfl rfl hl.1 (Nat.le_of_ble_eq_true rfl) dX3_addPiece_52 ⟨Nat.zero_le _, Nat.zero_le _⟩ (fun H locs hP hD hS => ?_)
        refine k_if_eq F (tgt := 60) dX3_addPiece_55 (by decide) (by decide) (fun c_10 => absurd c_10 (by omega)) (fun c_10 => ?_)
        refine k_iconst F dX3_addPiece_58 ?_
        exact wr_ret F hr hlocks (by rw [show kPce σ x = 1 from (by unfold kPce; (repeat' split) <;> omega), if_neg (by decide)]) (by rw [show kPce σ x = 1 from (by unfold kPce; (repeat' split) <;> omega), if_neg (by decide)]; exact hP) hS dX3_addPiece_59
    · skip
      refine k_iconst F dX3_addPiece_21 ?_
      refine lv_goto (tgt := 26) F.1 F.2.1 dX3_addPiece_22 (by decide) ?_
      refine lv_istore_n (lv' := [(2, .int (iI 1)), (0, .ref (A 0)), (1, .int (iI x))]) F.1 F.2.1 dX3_addPiece_26 rfl hl (by decide) rfl (fun ls hl => ?_)
      refine lv_aload_n F.1 F.2.1 dX3_addPiece_27 rfl (lv_at hl 1 rfl) ?_
      refine lv_iload_n F.1 F.2.1 dX3_addPiece_28 rfl (lv_at hl 2 rfl) ?_
      refine k_iconst F dX3_addPiece_29 ?_
      refine k_sipush F dX3_addPiece_30 (by decide +kernel) ?_
      refine rd_S F (n := 3) (w0 := []) (mX3_in l G (MW G A r0 σ) x 1 3600 (by omega) (by decide) (by decide)) gX3_addPiece_X3_in rfl rfl rfl (by decide +kernel) ⟨Nat.le_of_ble_eq_true rfl, Nat.le_of_ble_eq_true rfl⟩ hK hP rfl rfl hl.1 (Nat.le_of_ble_eq_true rfl) dX3_addPiece_33 ⟨Nat.zero_le _, Nat.zero_le _⟩ ?_
      refine k_ifb_ne F (tgt := 43) dX3_addPiece_36 (by decide) (fun c_11 => ?_) (fun c_11 => ?_)
      · skip
        refine lv_iload_n F.1 F.2.1 dX3_addPiece_43 rfl (lv_at hl 0 rfl) ?_
        refine k_if_eq F (tgt := 51) dX3_addPiece_44 (by decide) (by decide) (fun c_12 => absurd c_12 (by omega)) (fun c_12 => ?_)
        refine k_iconst F dX3_addPiece_47 ?_
        refine lv_goto (tgt := 52) F.1 F.2.1 dX3_addPiece_48 (by decide) ?_
        refine wr_V F (n := 1) (w := MW G A r0 σ) (w' := MW G A 0 σ) (wr := []) (ws2 := MW G A 0 σ) (mX3_refused l G sS.heap.size A r0 σ 0 0 (by decide) (by decide +kernel)) gX3_addPiece_X3_refused rfl rfl rfl (by decide +kernel) ⟨Nat.le_of_ble_eq_true rfl, Nat.le_of_ble_eq_true rfl⟩ hK hP hD hS hA (pm_nil _) (pm_nil' _) rfl (ci := 3) (q0 := 0) rfl rfl rfl rfl hl.1 (Nat.le_of_ble_eq_true rfl) dX3_addPiece_52 ⟨Nat.zero_le _, Nat.zero_le _⟩ (fun H locs hP hD hS => ?_)
        refine k_if_eq F (tgt := 60) dX3_addPiece_55 (by decide) (by decide) (fun c_13 => ?_) (fun c_13 => absurd c_13 (by omega))
        refine lv_aload_n F.1 F.2.1 dX3_addPiece_60 rfl (lv_at hl 1 rfl) ?_
        refine k_get F hK hP iX3 0 rfl rfl 9 (by decide) f28 rfl rfl dX3_addPiece_61 ?_
        refine lv_aload_n F.1 F.2.1 dX3_addPiece_64 rfl (lv_at hl 1 rfl) ?_
        refine k_get F hK hP iX3 0 rfl rfl 6 (by decide) f45 rfl rfl dX3_addPiece_65 ?_
        refine lv_iload_n F.1 F.2.1 dX3_addPiece_68 rfl (lv_at hl 2 rfl) ?_
        refine k_iast F hK hP hD hS 7 rfl ((σ 2 0 0).toNat) (by omega) (by omega) (by decide) dX3_addPiece_69 (fun H locs hP hD hS => ?_)
        have hP : gP G ([(A 0, .inr (3, [.int (iI 0), .int (iI (σ 1 0 0)), .ref (A 1), .ref (A 2), .ref (A 3), .ref (A 4), .int (iI (σ 2 0 0)), .ref (A 5), .ref (A 6), .ref (A 7), .ref (A 8)])), (A 1, .inl (G.2.1, 12, .inl (ia (σ 3 0)))), (A 2, .inl (G.2.1, 12, .inl (ia (σ 4 0)))), (A 3, .inl (G.2.1, 12, .inl (ia (σ 5 0)))), (A 4, .inl (G.2.1, 12, .inl (ia (σ 6 0)))), (A 5, .inl (G.2.1, 448, .inl (ia (fun q => σ 7 (q / 64) (q % 64))))), (A 6, .inl (G.2.1, 7, .inl (ia (fun q => σ 8 q 0)))), (A 7, .inl (G.2.1, 6, .inl (ia (uI (fun q => σ 9 q 0) ((σ 2 0 0).toNat) x)))), (A 8, .inl (G.2.1, 96, .inl (ia (fun q => σ 10 (q / 16) (q % 16)))))]) H := hP
        have hD : va_D AA ([(A 0, .inr (3, [.int (iI 0), .int (iI (σ 1 0 0)), .ref (A 1), .ref (A 2), .ref (A 3), .ref (A 4), .int (iI (σ 2 0 0)), .ref (A 5), .ref (A 6), .ref (A 7), .ref (A 8)])), (A 1, .inl (G.2.1, 12, .inl (ia (σ 3 0)))), (A 2, .inl (G.2.1, 12, .inl (ia (σ 4 0)))), (A 3, .inl (G.2.1, 12, .inl (ia (σ 5 0)))), (A 4, .inl (G.2.1, 12, .inl (ia (σ 6 0)))), (A 5, .inl (G.2.1, 448, .inl (ia (fun q => σ 7 (q / 64) (q % 64))))), (A 6, .inl (G.2.1, 7, .inl (ia (fun q => σ 8 q 0)))), (A 7, .inl (G.2.1, 6, .inl (ia (uI (fun q => σ 9 q 0) ((σ 2 0 0).toNat) x)))), (A 8, .inl (G.2.1, 96, .inl (ia (fun q => σ 10 (q / 16) (q % 16)))))]) := hD
        refine lv_aload_n F.1 F.2.1 dX3_addPiece_70 rfl (lv_at hl 1 rfl) ?_
        refine lv_dup F.1 F.2.1 dX3_addPiece_71 rfl ?_
        refine k_get F hK hP iX3 0 rfl rfl 6 (by decide) f45 rfl rfl dX3_addPiece_72 ?_
        refine k_iconst F dX3_addPiece_75 ?_
        refine k_iadd F rfl dX3_addPiece_76 ?_
        refine va_put (D := G.1) (ci := 3) (v := .int (iI (σ 2 0 0 + 1))) (ty := .int) (C := RX3) (T := TX3) (N := 11) F.1 F.2.1 F.2.2.2.2 iX3 tyX3 tyX3_ok nmX3 F.2.2.2.1 hK hP hD hS 0 rfl rfl 6 (by decide) f45 (fun _ h9 => h9) rfl (by decide +kernel) rfl rfl (Nat.le_of_ble_eq_true rfl) dX3_addPiece_77 (fun H locs hP hD hS => ?_)
        have hP : gP G ([(A 0, .inr (3, [.int (iI 0), .int (iI (σ 1 0 0)), .ref (A 1), .ref (A 2), .ref (A 3), .ref (A 4), .int (iI (σ 2 0 0 + 1)), .ref (A 5), .ref (A 6), .ref (A 7), .ref (A 8)])), (A 1, .inl (G.2.1, 12, .inl (ia (σ 3 0)))), (A 2, .inl (G.2.1, 12, .inl (ia (σ 4 0)))), (A 3, .inl (G.2.1, 12, .inl (ia (σ 5 0)))), (A 4, .inl (G.2.1, 12, .inl (ia (σ 6 0)))), (A 5, .inl (G.2.1, 448, .inl (ia (fun q => σ 7 (q / 64) (q % 64))))), (A 6, .inl (G.2.1, 7, .inl (ia (fun q => σ 8 q 0)))), (A 7, .inl (G.2.1, 6, .inl (ia (uI (fun q => σ 9 q 0) ((σ 2 0 0).toNat) x)))), (A 8, .inl (G.2.1, 96, .inl (ia (fun q => σ 10 (q / 16) (q % 16)))))]) H := hP
        have hD : va_D AA ([(A 0, .inr (3, [.int (iI 0), .int (iI (σ 1 0 0)), .ref (A 1), .ref (A 2), .ref (A 3), .ref (A 4), .int (iI (σ 2 0 0 + 1)), .ref (A 5), .ref (A 6), .ref (A 7), .ref (A 8)])), (A 1, .inl (G.2.1, 12, .inl (ia (σ 3 0)))), (A 2, .inl (G.2.1, 12, .inl (ia (σ 4 0)))), (A 3, .inl (G.2.1, 12, .inl (ia (σ 5 0)))), (A 4, .inl (G.2.1, 12, .inl (ia (σ 6 0)))), (A 5, .inl (G.2.1, 448, .inl (ia (fun q => σ 7 (q / 64) (q % 64))))), (A 6, .inl (G.2.1, 7, .inl (ia (fun q => σ 8 q 0)))), (A 7, .inl (G.2.1, 6, .inl (ia (uI (fun q => σ 9 q 0) ((σ 2 0 0).toNat) x)))), (A 8, .inl (G.2.1, 96, .inl (ia (fun q => σ 10 (q / 16) (q % 16)))))]) := hD
        refine lv_aload_n F.1 F.2.1 dX3_addPiece_80 rfl (lv_at hl 1 rfl) ?_
        refine k_get F hK hP iX3 0 rfl rfl 6 (by decide) f45 rfl rfl dX3_addPiece_81 ?_
        refine k_iconst F dX3_addPiece_84 ?_
        refine k_isub F (z := σ 2 0 0) (by omega) dX3_addPiece_85 ?_
        exact wr_ret F hr hlocks (by rw [show kPce σ x = 0 from (by unfold kPce; (repeat' split) <;> omega), if_pos rfl] <;> rfl) (by rw [show kPce σ x = 0 from (by unfold kPce; (repeat' split) <;> omega), if_pos rfl]; exact MW_of rfl rfl rfl rfl rfl rfl rfl rfl (fl8 _ 9 _ _) rfl hP) hS dX3_addPiece_86
      · skip
        refine k_iconst F dX3_addPiece_39 ?_
        refine lv_goto (tgt := 52) F.1 F.2.1 dX3_addPiece_40 (by decide) ?_
        refine wr_V F (n := 1) (w := MW G A r0 σ) (w' := MW G A 1 σ) (wr := []) (ws2 := MW G A 1 σ) (mX3_refused l G sS.heap.size A r0 σ 1 1 (by decide) (by decide +kernel)) gX3_addPiece_X3_refused rfl rfl rfl (by decide +kernel) ⟨Nat.le_of_ble_eq_true rfl, Nat.le_of_ble_eq_true rfl⟩ hK hP hD hS hA (pm_nil _) (pm_nil' _) rfl (ci := 3) (q0 := 0) rfl rfl rfl rfl hl.1 (Nat.le_of_ble_eq_true rfl) dX3_addPiece_52 ⟨Nat.zero_le _, Nat.zero_le _⟩ (fun H locs hP hD hS => ?_)
        refine k_if_eq F (tgt := 60) dX3_addPiece_55 (by decide) (by decide) (fun c_14 => absurd c_14 (by omega)) (fun c_14 => ?_)
        refine k_iconst F dX3_addPiece_58 ?_
        exact wr_ret F hr hlocks (by rw [show kPce σ x = 1 from (by unfold kPce; (repeat' split) <;> omega), if_neg (by decide)]) (by rw [show kPce σ x = 1 from (by unfold kPce; (repeat' split) <;> omega), if_neg (by decide)]; exact hP) hS dX3_addPiece_59

set_option maxHeartbeats 4000000 in
set_option maxRecDepth 100000 in
theorem mX3_setTone (l : Launch) (G : gT) (sz0 : Nat) (A : Nat → Nat) (r0 : Int) (σ : Sg) (x y v t : Int) (hx : -2147483648 ≤ x ∧ x < 2147483648) (hy : -2147483648 ≤ y ∧ y < 2147483648) (hv : -2147483648 ≤ v ∧ v < 2147483648) (ht : -2147483648 ≤ t ∧ t < 2147483648) {n k N : Nat} (hI : Iv σ n k N) : Met l yX3_setTone wsX3_setTone { frames := 3, cells := 0, slots := 0, locals := 65 } (va_Pc [.ref (A 0), .int (iI x), .int (iI y), .int (iI v), .int (iI t)] (wB G (MW G A r0 σ) sz0)) (wI (if kSet σ x y v t = 0 then σ 7 x.toNat (4 * y.toNat + v.toNat) else 0) G (MW G A (kSet σ x y v t) (if kSet σ x y v t = 0 then sSet σ x y v t else σ)) (va_A (MW G A r0 σ) sz0)) 0 0 (va_A (MW G A r0 σ) sz0) := by
  refine wr_start (own := RX3) (cc := cX3_setTone) (mL := 8) (ret := (some .int)) (Qc := fun AA => wI (if kSet σ x y v t = 0 then σ 7 x.toNat (4 * y.toNat + v.toNat) else 0) G (MW G A (kSet σ x y v t) (if kSet σ x y v t = 0 then sSet σ x y v t else σ)) AA) (by decide) rfl rfl (Nat.le_of_ble_eq_true rfl) ?_
  intro pP eE sS mM args bB meth cC ls AA F hr hlocks hin hK hsz0 hP hD hS hA hl
  obtain ⟨hn, hn12, hk, hk6, hsg, haw, hch, hch1, hch0, htn, hto, htz, hpr, hN, hpz, hle, hlz⟩ := id hI
  have hcx := hch x.toNat
  have iX3 : ∀ x ∈ wsX30, x ∈ wsX3_setTone := by decide +kernel
  have f22 := k_cond F (w := .fieldLink RX3 22 "ChoirPlannerModel" "tones" "[I") (by decide +kernel)
  have hl : lv_has ls 8 [(0, .ref (A 0)), (1, .int (iI x)), (2, .int (iI y)), (3, .int (iI v)), (4, .int (iI t))] := hl
  refine lv_iload_n F.1 F.2.1 dX3_setTone_0 rfl (lv_at hl 3 rfl) ?_
  refine rd_S F (n := 1) (w0 := []) (mX3_isVoice l G (MW G A r0 σ) v (by omega)) gX3_setTone_X3_isVoice rfl rfl rfl (by decide +kernel) ⟨Nat.le_of_ble_eq_true rfl, Nat.le_of_ble_eq_true rfl⟩ hK hP rfl rfl hl.1 (Nat.le_of_ble_eq_true rfl) dX3_setTone_1 ⟨Nat.zero_le _, Nat.zero_le _⟩ ?_
  refine k_ifb_eq F (tgt := 19) dX3_setTone_4 (by decide) (fun c_1 => ?_) (fun c_1 => ?_)
  · skip
    refine k_iconst F dX3_setTone_19 ?_
    refine lv_istore (lv' := [(5, .int (iI 0)), (0, .ref (A 0)), (1, .int (iI x)), (2, .int (iI y)), (3, .int (iI v)), (4, .int (iI t))]) F.1 F.2.1 dX3_setTone_20 hl (by decide) rfl (fun ls hl => ?_)
    refine lv_aload_n F.1 F.2.1 dX3_setTone_22 rfl (lv_at hl 1 rfl) ?_
    refine lv_iload_n F.1 F.2.1 dX3_setTone_23 rfl (lv_at hl 2 rfl) ?_
    refine lv_iload_n F.1 F.2.1 dX3_setTone_24 rfl (lv_at hl 3 rfl) ?_
    refine rd_V F (n := 2) (w0 := []) (mX3_isChord l G A r0 σ x y (by omega) (by omega) hI) gX3_setTone_X3_isChord rfl rfl rfl (by decide +kernel) ⟨Nat.le_of_ble_eq_true rfl, Nat.le_of_ble_eq_true rfl⟩ hK hP (ci := 3) (q0 := 0) rfl rfl rfl rfl hl.1 (Nat.le_of_ble_eq_true rfl) dX3_setTone_25 ⟨Nat.zero_le _, Nat.zero_le _⟩ ?_
    refine k_ifb_eq F (tgt := 62) dX3_setTone_28 (by decide) (fun c_2 => ?_) (fun c_2 => ?_)
    · skip
      refine k_iconst F dX3_setTone_62 ?_
      refine lv_istore (lv' := [(6, .int (iI 0)), (5, .int (iI 0)), (0, .ref (A 0)), (1, .int (iI x)), (2, .int (iI y)), (3, .int (iI v)), (4, .int (iI t))]) F.1 F.2.1 dX3_setTone_63 hl (by decide) rfl (fun ls hl => ?_)
      refine lv_aload_n F.1 F.2.1 dX3_setTone_65 rfl (lv_at hl 2 rfl) ?_
      refine lv_aload_n F.1 F.2.1 dX3_setTone_66 rfl (lv_at hl 2 rfl) ?_
      refine lv_iload_n F.1 F.2.1 dX3_setTone_67 rfl (lv_at hl 3 rfl) ?_
      refine lv_iload_n F.1 F.2.1 dX3_setTone_68 rfl (lv_at hl 4 rfl) ?_
      refine rd_V F (n := 2) (w0 := []) (mX3_isChord l G A r0 σ x y (by omega) (by omega) hI) gX3_setTone_X3_isChord rfl rfl rfl (by decide +kernel) ⟨Nat.le_of_ble_eq_true rfl, Nat.le_of_ble_eq_true rfl⟩ hK hP (ci := 3) (q0 := 0) rfl rfl rfl rfl hl.1 (Nat.le_of_ble_eq_true rfl) dX3_setTone_69 ⟨Nat.zero_le _, Nat.zero_le _⟩ ?_
      refine k_ifb_ne F (tgt := 79) dX3_setTone_72 (by decide) (fun c_3 => ?_) (fun c_3 => ?_)
      · skip
        refine lv_iload F.1 F.2.1 dX3_setTone_79 (lv_at hl 1 rfl) ?_
        refine k_if_ne F (tgt := 88) dX3_setTone_81 (by decide) (by decide) (fun c_4 => absurd c_4 (by omega)) (fun c_4 => ?_)
        refine k_iconst F dX3_setTone_84 ?_
        refine lv_goto (tgt := 98) F.1 F.2.1 dX3_setTone_85 (by decide) ?_
        refine wr_V F (n := 1) (w := MW G A r0 σ) (w' := MW G A 2 σ) (wr := []) (ws2 := MW G A 2 σ) (mX3_refused l G sS.heap.size A r0 σ 2 1 (by decide) (by decide +kernel)) gX3_setTone_X3_refused rfl rfl rfl (by decide +kernel) ⟨Nat.le_of_ble_eq_true rfl, Nat.le_of_ble_eq_true rfl⟩ hK hP hD hS hA (pm_nil _) (pm_nil' _) rfl (ci := 3) (q0 := 0) rfl rfl rfl rfl hl.1 (Nat.le_of_ble_eq_true rfl) dX3_setTone_98 ⟨Nat.zero_le _, Nat.zero_le _⟩ (fun H locs hP hD hS => ?_)
        refine k_if_eq F (tgt := 106) dX3_setTone_101 (by decide) (by decide) (fun c_5 => absurd c_5 (by omega)) (fun c_5 => ?_)
        refine k_iconst F dX3_setTone_104 ?_
        exact wr_ret F hr hlocks (by rw [show kSet σ x y v t = 2 from (by unfold kSet; (repeat' split) <;> omega), if_neg (by decide)]) (by rw [show kSet σ x y v t = 2 from (by unfold kSet; (repeat' split) <;> omega), if_neg (by decide)]; exact hP) hS dX3_setTone_105
      · skip
        refine k_iconst F dX3_setTone_75 ?_
        refine lv_goto (tgt := 98) F.1 F.2.1 dX3_setTone_76 (by decide) ?_
        refine wr_V F (n := 1) (w := MW G A r0 σ) (w' := MW G A 1 σ) (wr := []) (ws2 := MW G A 1 σ) (mX3_refused l G sS.heap.size A r0 σ 1 1 (by decide) (by decide +kernel)) gX3_setTone_X3_refused rfl rfl rfl (by decide +kernel) ⟨Nat.le_of_ble_eq_true rfl, Nat.le_of_ble_eq_true rfl⟩ hK hP hD hS hA (pm_nil _) (pm_nil' _) rfl (ci := 3) (q0 := 0) rfl rfl rfl rfl hl.1 (Nat.le_of_ble_eq_true rfl) dX3_setTone_98 ⟨Nat.zero_le _, Nat.zero_le _⟩ (fun H locs hP hD hS => ?_)
        refine k_if_eq F (tgt := 106) dX3_setTone_101 (by decide) (by decide) (fun c_6 => absurd c_6 (by omega)) (fun c_6 => ?_)
        refine k_iconst F dX3_setTone_104 ?_
        exact wr_ret F hr hlocks (by rw [show kSet σ x y v t = 1 from (by unfold kSet; (repeat' split) <;> omega), if_neg (by decide)]) (by rw [show kSet σ x y v t = 1 from (by unfold kSet; (repeat' split) <;> omega), if_neg (by decide)]; exact hP) hS dX3_setTone_105
    · skip
      refine lv_iload F.1 F.2.1 dX3_setTone_31 (lv_at hl 0 rfl) ?_
      refine k_if_eq F (tgt := 62) dX3_setTone_33 (by decide) (by decide) (fun c_7 => ?_) (fun c_7 => absurd c_7 (by omega))
      refine k_iconst F dX3_setTone_62 ?_
      refine lv_istore (lv' := [(6, .int (iI 0)), (5, .int (iI 0)), (0, .ref (A 0)), (1, .int (iI x)), (2, .int (iI y)), (3, .int (iI v)), (4, .int (iI t))]) F.1 F.2.1 dX3_setTone_63 hl (by decide) rfl (fun ls hl => ?_)
      refine lv_aload_n F.1 F.2.1 dX3_setTone_65 rfl (lv_at hl 2 rfl) ?_
      refine lv_aload_n F.1 F.2.1 dX3_setTone_66 rfl (lv_at hl 2 rfl) ?_
      refine lv_iload_n F.1 F.2.1 dX3_setTone_67 rfl (lv_at hl 3 rfl) ?_
      refine lv_iload_n F.1 F.2.1 dX3_setTone_68 rfl (lv_at hl 4 rfl) ?_
      refine rd_V F (n := 2) (w0 := []) (mX3_isChord l G A r0 σ x y (by omega) (by omega) hI) gX3_setTone_X3_isChord rfl rfl rfl (by decide +kernel) ⟨Nat.le_of_ble_eq_true rfl, Nat.le_of_ble_eq_true rfl⟩ hK hP (ci := 3) (q0 := 0) rfl rfl rfl rfl hl.1 (Nat.le_of_ble_eq_true rfl) dX3_setTone_69 ⟨Nat.zero_le _, Nat.zero_le _⟩ ?_
      refine k_ifb_ne F (tgt := 79) dX3_setTone_72 (by decide) (fun c_8 => ?_) (fun c_8 => ?_)
      · skip
        refine lv_iload F.1 F.2.1 dX3_setTone_79 (lv_at hl 1 rfl) ?_
        refine k_if_ne F (tgt := 88) dX3_setTone_81 (by decide) (by decide) (fun c_9 => absurd c_9 (by omega)) (fun c_9 => ?_)
        refine k_iconst F dX3_setTone_84 ?_
        refine lv_goto (tgt := 98) F.1 F.2.1 dX3_setTone_85 (by decide) ?_
        refine wr_V F (n := 1) (w := MW G A r0 σ) (w' := MW G A 2 σ) (wr := []) (ws2 := MW G A 2 σ) (mX3_refused l G sS.heap.size A r0 σ 2 1 (by decide) (by decide +kernel)) gX3_setTone_X3_refused rfl rfl rfl (by decide +kernel) ⟨Nat.le_of_ble_eq_true rfl, Nat.le_of_ble_eq_true rfl⟩ hK hP hD hS hA (pm_nil _) (pm_nil' _) rfl (ci := 3) (q0 := 0) rfl rfl rfl rfl hl.1 (Nat.le_of_ble_eq_true rfl) dX3_setTone_98 ⟨Nat.zero_le _, Nat.zero_le _⟩ (fun H locs hP hD hS => ?_)
        refine k_if_eq F (tgt := 106) dX3_setTone_101 (by decide) (by decide) (fun c_10 => absurd c_10 (by omega)) (fun c_10 => ?_)
        refine k_iconst F dX3_setTone_104 ?_
        exact wr_ret F hr hlocks (by rw [show kSet σ x y v t = 2 from (by unfold kSet; (repeat' split) <;> omega), if_neg (by decide)]) (by rw [show kSet σ x y v t = 2 from (by unfold kSet; (repeat' split) <;> omega), if_neg (by decide)]; exact hP) hS dX3_setTone_105
      · skip
        refine k_iconst F dX3_setTone_75 ?_
        refine lv_goto (tgt := 98) F.1 F.2.1 dX3_setTone_76 (by decide) ?_
        refine wr_V F (n := 1) (w := MW G A r0 σ) (w' := MW G A 1 σ) (wr := []) (ws2 := MW G A 1 σ) (mX3_refused l G sS.heap.size A r0 σ 1 1 (by decide) (by decide +kernel)) gX3_setTone_X3_refused rfl rfl rfl (by decide +kernel) ⟨Nat.le_of_ble_eq_true rfl, Nat.le_of_ble_eq_true rfl⟩ hK hP hD hS hA (pm_nil _) (pm_nil' _) rfl (ci := 3) (q0 := 0) rfl rfl rfl rfl hl.1 (Nat.le_of_ble_eq_true rfl) dX3_setTone_98 ⟨Nat.zero_le _, Nat.zero_le _⟩ (fun H locs hP hD hS => ?_)
        refine k_if_eq F (tgt := 106) dX3_setTone_101 (by decide) (by decide) (fun c_11 => absurd c_11 (by omega)) (fun c_11 => ?_)
        refine k_iconst F dX3_setTone_104 ?_
        exact wr_ret F hr hlocks (by rw [show kSet σ x y v t = 1 from (by unfold kSet; (repeat' split) <;> omega), if_neg (by decide)]) (by rw [show kSet σ x y v t = 1 from (by unfold kSet; (repeat' split) <;> omega), if_neg (by decide)]; exact hP) hS dX3_setTone_105
  · skip
    refine lv_iload F.1 F.2.1 dX3_setTone_7 (lv_at hl 4 rfl) ?_
    refine rd_S F (n := 1) (w0 := []) (mX3_isTone l G (MW G A r0 σ) t (by omega)) gX3_setTone_X3_isTone rfl rfl rfl (by decide +kernel) ⟨Nat.le_of_ble_eq_true rfl, Nat.le_of_ble_eq_true rfl⟩ hK hP rfl rfl hl.1 (Nat.le_of_ble_eq_true rfl) dX3_setTone_9 ⟨Nat.zero_le _, Nat.zero_le _⟩ ?_
    refine k_ifb_eq F (tgt := 19) dX3_setTone_12 (by decide) (fun c_12 => ?_) (fun c_12 => ?_)
    · skip
      refine k_iconst F dX3_setTone_19 ?_
      refine lv_istore (lv' := [(5, .int (iI 0)), (0, .ref (A 0)), (1, .int (iI x)), (2, .int (iI y)), (3, .int (iI v)), (4, .int (iI t))]) F.1 F.2.1 dX3_setTone_20 hl (by decide) rfl (fun ls hl => ?_)
      refine lv_aload_n F.1 F.2.1 dX3_setTone_22 rfl (lv_at hl 1 rfl) ?_
      refine lv_iload_n F.1 F.2.1 dX3_setTone_23 rfl (lv_at hl 2 rfl) ?_
      refine lv_iload_n F.1 F.2.1 dX3_setTone_24 rfl (lv_at hl 3 rfl) ?_
      refine rd_V F (n := 2) (w0 := []) (mX3_isChord l G A r0 σ x y (by omega) (by omega) hI) gX3_setTone_X3_isChord rfl rfl rfl (by decide +kernel) ⟨Nat.le_of_ble_eq_true rfl, Nat.le_of_ble_eq_true rfl⟩ hK hP (ci := 3) (q0 := 0) rfl rfl rfl rfl hl.1 (Nat.le_of_ble_eq_true rfl) dX3_setTone_25 ⟨Nat.zero_le _, Nat.zero_le _⟩ ?_
      refine k_ifb_eq F (tgt := 62) dX3_setTone_28 (by decide) (fun c_13 => ?_) (fun c_13 => ?_)
      · skip
        refine k_iconst F dX3_setTone_62 ?_
        refine lv_istore (lv' := [(6, .int (iI 0)), (5, .int (iI 0)), (0, .ref (A 0)), (1, .int (iI x)), (2, .int (iI y)), (3, .int (iI v)), (4, .int (iI t))]) F.1 F.2.1 dX3_setTone_63 hl (by decide) rfl (fun ls hl => ?_)
        refine lv_aload_n F.1 F.2.1 dX3_setTone_65 rfl (lv_at hl 2 rfl) ?_
        refine lv_aload_n F.1 F.2.1 dX3_setTone_66 rfl (lv_at hl 2 rfl) ?_
        refine lv_iload_n F.1 F.2.1 dX3_setTone_67 rfl (lv_at hl 3 rfl) ?_
        refine lv_iload_n F.1 F.2.1 dX3_setTone_68 rfl (lv_at hl 4 rfl) ?_
        refine rd_V F (n := 2) (w0 := []) (mX3_isChord l G A r0 σ x y (by omega) (by omega) hI) gX3_setTone_X3_isChord rfl rfl rfl (by decide +kernel) ⟨Nat.le_of_ble_eq_true rfl, Nat.le_of_ble_eq_true rfl⟩ hK hP (ci := 3) (q0 := 0) rfl rfl rfl rfl hl.1 (Nat.le_of_ble_eq_true rfl) dX3_setTone_69 ⟨Nat.zero_le _, Nat.zero_le _⟩ ?_
        refine k_ifb_ne F (tgt := 79) dX3_setTone_72 (by decide) (fun c_14 => ?_) (fun c_14 => ?_)
        · skip
          refine lv_iload F.1 F.2.1 dX3_setTone_79 (lv_at hl 1 rfl) ?_
          refine k_if_ne F (tgt := 88) dX3_setTone_81 (by decide) (by decide) (fun c_15 => absurd c_15 (by omega)) (fun c_15 => ?_)
          refine k_iconst F dX3_setTone_84 ?_
          refine lv_goto (tgt := 98) F.1 F.2.1 dX3_setTone_85 (by decide) ?_
          refine wr_V F (n := 1) (w := MW G A r0 σ) (w' := MW G A 2 σ) (wr := []) (ws2 := MW G A 2 σ) (mX3_refused l G sS.heap.size A r0 σ 2 1 (by decide) (by decide +kernel)) gX3_setTone_X3_refused rfl rfl rfl (by decide +kernel) ⟨Nat.le_of_ble_eq_true rfl, Nat.le_of_ble_eq_true rfl⟩ hK hP hD hS hA (pm_nil _) (pm_nil' _) rfl (ci := 3) (q0 := 0) rfl rfl rfl rfl hl.1 (Nat.le_of_ble_eq_true rfl) dX3_setTone_98 ⟨Nat.zero_le _, Nat.zero_le _⟩ (fun H locs hP hD hS => ?_)
          refine k_if_eq F (tgt := 106) dX3_setTone_101 (by decide) (by decide) (fun c_16 => absurd c_16 (by omega)) (fun c_16 => ?_)
          refine k_iconst F dX3_setTone_104 ?_
          exact wr_ret F hr hlocks (by rw [show kSet σ x y v t = 2 from (by unfold kSet; (repeat' split) <;> omega), if_neg (by decide)]) (by rw [show kSet σ x y v t = 2 from (by unfold kSet; (repeat' split) <;> omega), if_neg (by decide)]; exact hP) hS dX3_setTone_105
        · skip
          refine k_iconst F dX3_setTone_75 ?_
          refine lv_goto (tgt := 98) F.1 F.2.1 dX3_setTone_76 (by decide) ?_
          refine wr_V F (n := 1) (w := MW G A r0 σ) (w' := MW G A 1 σ) (wr := []) (ws2 := MW G A 1 σ) (mX3_refused l G sS.heap.size A r0 σ 1 1 (by decide) (by decide +kernel)) gX3_setTone_X3_refused rfl rfl rfl (by decide +kernel) ⟨Nat.le_of_ble_eq_true rfl, Nat.le_of_ble_eq_true rfl⟩ hK hP hD hS hA (pm_nil _) (pm_nil' _) rfl (ci := 3) (q0 := 0) rfl rfl rfl rfl hl.1 (Nat.le_of_ble_eq_true rfl) dX3_setTone_98 ⟨Nat.zero_le _, Nat.zero_le _⟩ (fun H locs hP hD hS => ?_)
          refine k_if_eq F (tgt := 106) dX3_setTone_101 (by decide) (by decide) (fun c_17 => absurd c_17 (by omega)) (fun c_17 => ?_)
          refine k_iconst F dX3_setTone_104 ?_
          exact wr_ret F hr hlocks (by rw [show kSet σ x y v t = 1 from (by unfold kSet; (repeat' split) <;> omega), if_neg (by decide)]) (by rw [show kSet σ x y v t = 1 from (by unfold kSet; (repeat' split) <;> omega), if_neg (by decide)]; exact hP) hS dX3_setTone_105
      · skip
        refine lv_iload F.1 F.2.1 dX3_setTone_31 (lv_at hl 0 rfl) ?_
        refine k_if_eq F (tgt := 62) dX3_setTone_33 (by decide) (by decide) (fun c_18 => ?_) (fun c_18 => absurd c_18 (by omega))
        refine k_iconst F dX3_setTone_62 ?_
        refine lv_istore (lv' := [(6, .int (iI 0)), (5, .int (iI 0)), (0, .ref (A 0)), (1, .int (iI x)), (2, .int (iI y)), (3, .int (iI v)), (4, .int (iI t))]) F.1 F.2.1 dX3_setTone_63 hl (by decide) rfl (fun ls hl => ?_)
        refine lv_aload_n F.1 F.2.1 dX3_setTone_65 rfl (lv_at hl 2 rfl) ?_
        refine lv_aload_n F.1 F.2.1 dX3_setTone_66 rfl (lv_at hl 2 rfl) ?_
        refine lv_iload_n F.1 F.2.1 dX3_setTone_67 rfl (lv_at hl 3 rfl) ?_
        refine lv_iload_n F.1 F.2.1 dX3_setTone_68 rfl (lv_at hl 4 rfl) ?_
        refine rd_V F (n := 2) (w0 := []) (mX3_isChord l G A r0 σ x y (by omega) (by omega) hI) gX3_setTone_X3_isChord rfl rfl rfl (by decide +kernel) ⟨Nat.le_of_ble_eq_true rfl, Nat.le_of_ble_eq_true rfl⟩ hK hP (ci := 3) (q0 := 0) rfl rfl rfl rfl hl.1 (Nat.le_of_ble_eq_true rfl) dX3_setTone_69 ⟨Nat.zero_le _, Nat.zero_le _⟩ ?_
        refine k_ifb_ne F (tgt := 79) dX3_setTone_72 (by decide) (fun c_19 => ?_) (fun c_19 => ?_)
        · skip
          refine lv_iload F.1 F.2.1 dX3_setTone_79 (lv_at hl 1 rfl) ?_
          refine k_if_ne F (tgt := 88) dX3_setTone_81 (by decide) (by decide) (fun c_20 => absurd c_20 (by omega)) (fun c_20 => ?_)
          refine k_iconst F dX3_setTone_84 ?_
          refine lv_goto (tgt := 98) F.1 F.2.1 dX3_setTone_85 (by decide) ?_
          refine wr_V F (n := 1) (w := MW G A r0 σ) (w' := MW G A 2 σ) (wr := []) (ws2 := MW G A 2 σ) (mX3_refused l G sS.heap.size A r0 σ 2 1 (by decide) (by decide +kernel)) gX3_setTone_X3_refused rfl rfl rfl (by decide +kernel) ⟨Nat.le_of_ble_eq_true rfl, Nat.le_of_ble_eq_true rfl⟩ hK hP hD hS hA (pm_nil _) (pm_nil' _) rfl (ci := 3) (q0 := 0) rfl rfl rfl rfl hl.1 (Nat.le_of_ble_eq_true rfl) dX3_setTone_98 ⟨Nat.zero_le _, Nat.zero_le _⟩ (fun H locs hP hD hS => ?_)
          refine k_if_eq F (tgt := 106) dX3_setTone_101 (by decide) (by decide) (fun c_21 => absurd c_21 (by omega)) (fun c_21 => ?_)
          refine k_iconst F dX3_setTone_104 ?_
          exact wr_ret F hr hlocks (by rw [show kSet σ x y v t = 2 from (by unfold kSet; (repeat' split) <;> omega), if_neg (by decide)]) (by rw [show kSet σ x y v t = 2 from (by unfold kSet; (repeat' split) <;> omega), if_neg (by decide)]; exact hP) hS dX3_setTone_105
        · skip
          refine k_iconst F dX3_setTone_75 ?_
          refine lv_goto (tgt := 98) F.1 F.2.1 dX3_setTone_76 (by decide) ?_
          refine wr_V F (n := 1) (w := MW G A r0 σ) (w' := MW G A 1 σ) (wr := []) (ws2 := MW G A 1 σ) (mX3_refused l G sS.heap.size A r0 σ 1 1 (by decide) (by decide +kernel)) gX3_setTone_X3_refused rfl rfl rfl (by decide +kernel) ⟨Nat.le_of_ble_eq_true rfl, Nat.le_of_ble_eq_true rfl⟩ hK hP hD hS hA (pm_nil _) (pm_nil' _) rfl (ci := 3) (q0 := 0) rfl rfl rfl rfl hl.1 (Nat.le_of_ble_eq_true rfl) dX3_setTone_98 ⟨Nat.zero_le _, Nat.zero_le _⟩ (fun H locs hP hD hS => ?_)
          refine k_if_eq F (tgt := 106) dX3_setTone_101 (by decide) (by decide) (fun c_22 => absurd c_22 (by omega)) (fun c_22 => ?_)
          refine k_iconst F dX3_setTone_104 ?_
          exact wr_ret F hr hlocks (by rw [show kSet σ x y v t = 1 from (by unfold kSet; (repeat' split) <;> omega), if_neg (by decide)]) (by rw [show kSet σ x y v t = 1 from (by unfold kSet; (repeat' split) <;> omega), if_neg (by decide)]; exact hP) hS dX3_setTone_105
    · skip
      refine k_iconst F dX3_setTone_15 ?_
      refine lv_goto (tgt := 20) F.1 F.2.1 dX3_setTone_16 (by decide) ?_
      refine lv_istore (lv' := [(5, .int (iI 1)), (0, .ref (A 0)), (1, .int (iI x)), (2, .int (iI y)), (3, .int (iI v)), (4, .int (iI t))]) F.1 F.2.1 dX3_setTone_20 hl (by decide) rfl (fun ls hl => ?_)
      refine lv_aload_n F.1 F.2.1 dX3_setTone_22 rfl (lv_at hl 1 rfl) ?_
      refine lv_iload_n F.1 F.2.1 dX3_setTone_23 rfl (lv_at hl 2 rfl) ?_
      refine lv_iload_n F.1 F.2.1 dX3_setTone_24 rfl (lv_at hl 3 rfl) ?_
      refine rd_V F (n := 2) (w0 := []) (mX3_isChord l G A r0 σ x y (by omega) (by omega) hI) gX3_setTone_X3_isChord rfl rfl rfl (by decide +kernel) ⟨Nat.le_of_ble_eq_true rfl, Nat.le_of_ble_eq_true rfl⟩ hK hP (ci := 3) (q0 := 0) rfl rfl rfl rfl hl.1 (Nat.le_of_ble_eq_true rfl) dX3_setTone_25 ⟨Nat.zero_le _, Nat.zero_le _⟩ ?_
      refine k_ifb_eq F (tgt := 62) dX3_setTone_28 (by decide) (fun c_23 => ?_) (fun c_23 => ?_)
      · skip
        refine k_iconst F dX3_setTone_62 ?_
        refine lv_istore (lv' := [(6, .int (iI 0)), (5, .int (iI 1)), (0, .ref (A 0)), (1, .int (iI x)), (2, .int (iI y)), (3, .int (iI v)), (4, .int (iI t))]) F.1 F.2.1 dX3_setTone_63 hl (by decide) rfl (fun ls hl => ?_)
        refine lv_aload_n F.1 F.2.1 dX3_setTone_65 rfl (lv_at hl 2 rfl) ?_
        refine lv_aload_n F.1 F.2.1 dX3_setTone_66 rfl (lv_at hl 2 rfl) ?_
        refine lv_iload_n F.1 F.2.1 dX3_setTone_67 rfl (lv_at hl 3 rfl) ?_
        refine lv_iload_n F.1 F.2.1 dX3_setTone_68 rfl (lv_at hl 4 rfl) ?_
        refine rd_V F (n := 2) (w0 := []) (mX3_isChord l G A r0 σ x y (by omega) (by omega) hI) gX3_setTone_X3_isChord rfl rfl rfl (by decide +kernel) ⟨Nat.le_of_ble_eq_true rfl, Nat.le_of_ble_eq_true rfl⟩ hK hP (ci := 3) (q0 := 0) rfl rfl rfl rfl hl.1 (Nat.le_of_ble_eq_true rfl) dX3_setTone_69 ⟨Nat.zero_le _, Nat.zero_le _⟩ ?_
        refine k_ifb_ne F (tgt := 79) dX3_setTone_72 (by decide) (fun c_24 => ?_) (fun c_24 => ?_)
        · skip
          refine lv_iload F.1 F.2.1 dX3_setTone_79 (lv_at hl 1 rfl) ?_
          refine k_if_ne F (tgt := 88) dX3_setTone_81 (by decide) (by decide) (fun c_25 => ?_) (fun c_25 => absurd c_25 (by omega))
          refine lv_iload F.1 F.2.1 dX3_setTone_88 (lv_at hl 0 rfl) ?_
          refine k_if_eq F (tgt := 97) dX3_setTone_90 (by decide) (by decide) (fun c_26 => ?_) (fun c_26 => absurd c_26 (by omega))
          refine k_iconst F dX3_setTone_97 ?_
          refine wr_V F (n := 1) (w := MW G A r0 σ) (w' := MW G A 3 σ) (wr := []) (ws2 := MW G A 3 σ) (mX3_refused l G sS.heap.size A r0 σ 3 1 (by decide) (by decide +kernel)) gX3_setTone_X3_refused rfl rfl rfl (by decide +kernel) ⟨Nat.le_of_ble_eq_true rfl, Nat.le_of_ble_eq_true rfl⟩ hK hP hD hS hA (pm_nil _) (pm_nil' _) rfl (ci := 3) (q0 := 0) rfl rfl rfl rfl hl.1 (Nat.le_of_ble_eq_true rfl) dX3_setTone_98 ⟨Nat.zero_le _, Nat.zero_le _⟩ (fun H locs hP hD hS => ?_)
          refine k_if_eq F (tgt := 106) dX3_setTone_101 (by decide) (by decide) (fun c_27 => absurd c_27 (by omega)) (fun c_27 => ?_)
          refine k_iconst F dX3_setTone_104 ?_
          exact wr_ret F hr hlocks (by rw [show kSet σ x y v t = 3 from (by unfold kSet; (repeat' split) <;> omega), if_neg (by decide)]) (by rw [show kSet σ x y v t = 3 from (by unfold kSet; (repeat' split) <;> omega), if_neg (by decide)]; exact hP) hS dX3_setTone_105
        · skip
          refine k_iconst F dX3_setTone_75 ?_
          refine lv_goto (tgt := 98) F.1 F.2.1 dX3_setTone_76 (by decide) ?_
          refine wr_V F (n := 1) (w := MW G A r0 σ) (w' := MW G A 1 σ) (wr := []) (ws2 := MW G A 1 σ) (mX3_refused l G sS.heap.size A r0 σ 1 1 (by decide) (by decide +kernel)) gX3_setTone_X3_refused rfl rfl rfl (by decide +kernel) ⟨Nat.le_of_ble_eq_true rfl, Nat.le_of_ble_eq_true rfl⟩ hK hP hD hS hA (pm_nil _) (pm_nil' _) rfl (ci := 3) (q0 := 0) rfl rfl rfl rfl hl.1 (Nat.le_of_ble_eq_true rfl) dX3_setTone_98 ⟨Nat.zero_le _, Nat.zero_le _⟩ (fun H locs hP hD hS => ?_)
          refine k_if_eq F (tgt := 106) dX3_setTone_101 (by decide) (by decide) (fun c_28 => absurd c_28 (by omega)) (fun c_28 => ?_)
          refine k_iconst F dX3_setTone_104 ?_
          exact wr_ret F hr hlocks (by rw [show kSet σ x y v t = 1 from (by unfold kSet; (repeat' split) <;> omega), if_neg (by decide)]) (by rw [show kSet σ x y v t = 1 from (by unfold kSet; (repeat' split) <;> omega), if_neg (by decide)]; exact hP) hS dX3_setTone_105
      · skip
        refine lv_iload F.1 F.2.1 dX3_setTone_31 (lv_at hl 0 rfl) ?_
        refine k_if_eq F (tgt := 62) dX3_setTone_33 (by decide) (by decide) (fun c_29 => absurd c_29 (by omega)) (fun c_29 => ?_)
        obtain ⟨i, rfl⟩ : ∃ i : Nat, x = (i : Int) := ⟨x.toNat, by omega⟩
        obtain ⟨c, rfl⟩ : ∃ c : Nat, y = (c : Int) := ⟨y.toNat, by omega⟩
        obtain ⟨u, rfl⟩ : ∃ u : Nat, v = (u : Int) := ⟨v.toNat, by omega⟩
        simp only [Int.toNat_natCast] at c_23 hcx
        have b1 := flr_rg (fun j => htn i j) c u
        have b2 := clg_rg (fun j => htn i j) c u
        refine lv_iload F.1 F.2.1 dX3_setTone_36 (lv_at hl 5 rfl) ?_
        refine lv_aload_n F.1 F.2.1 dX3_setTone_38 rfl (lv_at hl 1 rfl) ?_
        refine lv_iload_n F.1 F.2.1 dX3_setTone_39 rfl (lv_at hl 2 rfl) ?_
        refine lv_iload_n F.1 F.2.1 dX3_setTone_40 rfl (lv_at hl 3 rfl) ?_
        refine lv_iload_n F.1 F.2.1 dX3_setTone_41 rfl (lv_at hl 4 rfl) ?_
        refine rd_V F (n := 3) (w0 := []) (mX3_floorOf l G A r0 σ i c u (by omega) (by omega) (by omega)) gX3_setTone_X3_floorOf rfl rfl rfl (by decide +kernel) ⟨Nat.le_of_ble_eq_true rfl, Nat.le_of_ble_eq_true rfl⟩ hK hP (ci := 3) (q0 := 0) rfl rfl rfl rfl hl.1 (Nat.le_of_ble_eq_true rfl) dX3_setTone_42 ⟨Nat.zero_le _, Nat.zero_le _⟩ ?_
        refine lv_aload_n F.1 F.2.1 dX3_setTone_45 rfl (lv_at hl 1 rfl) ?_
        refine lv_iload_n F.1 F.2.1 dX3_setTone_46 rfl (lv_at hl 2 rfl) ?_
        refine lv_iload_n F.1 F.2.1 dX3_setTone_47 rfl (lv_at hl 3 rfl) ?_
        refine lv_iload_n F.1 F.2.1 dX3_setTone_48 rfl (lv_at hl 4 rfl) ?_
        refine rd_V F (n := 3) (w0 := []) (mX3_roofOf l G A r0 σ i c u (by omega) (by omega) (by omega)) gX3_setTone_X3_roofOf rfl rfl rfl (by decide +kernel) ⟨Nat.le_of_ble_eq_true rfl, Nat.le_of_ble_eq_true rfl⟩ hK hP (ci := 3) (q0 := 0) rfl rfl rfl rfl hl.1 (Nat.le_of_ble_eq_true rfl) dX3_setTone_49 ⟨Nat.zero_le _, Nat.zero_le _⟩ ?_
        refine rd_S F (n := 3) (w0 := []) (mX3_in l G (MW G A r0 σ) t (flr (σ 7 i) c u) (clg (σ 7 i) c u) (by omega) (by omega) (by omega)) gX3_setTone_X3_in rfl rfl rfl (by decide +kernel) ⟨Nat.le_of_ble_eq_true rfl, Nat.le_of_ble_eq_true rfl⟩ hK hP rfl rfl hl.1 (Nat.le_of_ble_eq_true rfl) dX3_setTone_52 ⟨Nat.zero_le _, Nat.zero_le _⟩ ?_
        refine k_ifb_eq F (tgt := 62) dX3_setTone_55 (by decide) (fun c_30 => ?_) (fun c_30 => ?_)
        · skip
          refine k_iconst F dX3_setTone_62 ?_
          refine lv_istore (lv' := [(6, .int (iI 0)), (5, .int (iI 1)), (0, .ref (A 0)), (1, .int (iI (i : Int))), (2, .int (iI (c : Int))), (3, .int (iI (u : Int))), (4, .int (iI t))]) F.1 F.2.1 dX3_setTone_63 hl (by decide) rfl (fun ls hl => ?_)
          refine lv_aload_n F.1 F.2.1 dX3_setTone_65 rfl (lv_at hl 2 rfl) ?_
          refine lv_aload_n F.1 F.2.1 dX3_setTone_66 rfl (lv_at hl 2 rfl) ?_
          refine lv_iload_n F.1 F.2.1 dX3_setTone_67 rfl (lv_at hl 3 rfl) ?_
          refine lv_iload_n F.1 F.2.1 dX3_setTone_68 rfl (lv_at hl 4 rfl) ?_
          refine rd_V F (n := 2) (w0 := []) (mX3_isChord l G A r0 σ (i : Int) (c : Int) (by omega) (by omega) hI) gX3_setTone_X3_isChord rfl rfl rfl (by decide +kernel) ⟨Nat.le_of_ble_eq_true rfl, Nat.le_of_ble_eq_true rfl⟩ hK hP (ci := 3) (q0 := 0) rfl rfl rfl rfl hl.1 (Nat.le_of_ble_eq_true rfl) dX3_setTone_69 ⟨Nat.zero_le _, Nat.zero_le _⟩ ?_
          refine k_ifb_ne F (tgt := 79) dX3_setTone_72 (by decide) (fun c_31 => ?_) (fun c_31 => (absurd (by simp only [Int.toNat_natCast]; omega) c_31))
          refine lv_iload F.1 F.2.1 dX3_setTone_79 (lv_at hl 1 rfl) ?_
          refine k_if_ne F (tgt := 88) dX3_setTone_81 (by decide) (by decide) (fun c_32 => ?_) (fun c_32 => absurd c_32 (by omega))
          refine lv_iload F.1 F.2.1 dX3_setTone_88 (lv_at hl 0 rfl) ?_
          refine k_if_eq F (tgt := 97) dX3_setTone_90 (by decide) (by decide) (fun c_33 => ?_) (fun c_33 => absurd c_33 (by omega))
          refine k_iconst F dX3_setTone_97 ?_
          refine wr_V F (n := 1) (w := MW G A r0 σ) (w' := MW G A 3 σ) (wr := []) (ws2 := MW G A 3 σ) (mX3_refused l G sS.heap.size A r0 σ 3 1 (by decide) (by decide +kernel)) gX3_setTone_X3_refused rfl rfl rfl (by decide +kernel) ⟨Nat.le_of_ble_eq_true rfl, Nat.le_of_ble_eq_true rfl⟩ hK hP hD hS hA (pm_nil _) (pm_nil' _) rfl (ci := 3) (q0 := 0) rfl rfl rfl rfl hl.1 (Nat.le_of_ble_eq_true rfl) dX3_setTone_98 ⟨Nat.zero_le _, Nat.zero_le _⟩ (fun H locs hP hD hS => ?_)
          refine k_if_eq F (tgt := 106) dX3_setTone_101 (by decide) (by decide) (fun c_34 => absurd c_34 (by omega)) (fun c_34 => ?_)
          refine k_iconst F dX3_setTone_104 ?_
          exact wr_ret F hr hlocks (by rw [show kSet σ (i : Int) (c : Int) (u : Int) t = 3 from (by unfold kSet; simp only [isC, Int.toNat_natCast]; (repeat' split) <;> omega), if_neg (by decide)]) (by rw [show kSet σ (i : Int) (c : Int) (u : Int) t = 3 from (by unfold kSet; simp only [isC, Int.toNat_natCast]; (repeat' split) <;> omega), if_neg (by decide)]; exact hP) hS dX3_setTone_105
        · skip
          refine k_iconst F dX3_setTone_58 ?_
          refine lv_goto (tgt := 63) F.1 F.2.1 dX3_setTone_59 (by decide) ?_
          refine lv_istore (lv' := [(6, .int (iI 1)), (5, .int (iI 1)), (0, .ref (A 0)), (1, .int (iI (i : Int))), (2, .int (iI (c : Int))), (3, .int (iI (u : Int))), (4, .int (iI t))]) F.1 F.2.1 dX3_setTone_63 hl (by decide) rfl (fun ls hl => ?_)
          refine lv_aload_n F.1 F.2.1 dX3_setTone_65 rfl (lv_at hl 2 rfl) ?_
          refine lv_aload_n F.1 F.2.1 dX3_setTone_66 rfl (lv_at hl 2 rfl) ?_
          refine lv_iload_n F.1 F.2.1 dX3_setTone_67 rfl (lv_at hl 3 rfl) ?_
          refine lv_iload_n F.1 F.2.1 dX3_setTone_68 rfl (lv_at hl 4 rfl) ?_
          refine rd_V F (n := 2) (w0 := []) (mX3_isChord l G A r0 σ (i : Int) (c : Int) (by omega) (by omega) hI) gX3_setTone_X3_isChord rfl rfl rfl (by decide +kernel) ⟨Nat.le_of_ble_eq_true rfl, Nat.le_of_ble_eq_true rfl⟩ hK hP (ci := 3) (q0 := 0) rfl rfl rfl rfl hl.1 (Nat.le_of_ble_eq_true rfl) dX3_setTone_69 ⟨Nat.zero_le _, Nat.zero_le _⟩ ?_
          refine k_ifb_ne F (tgt := 79) dX3_setTone_72 (by decide) (fun c_35 => ?_) (fun c_35 => (absurd (by simp only [Int.toNat_natCast]; omega) c_35))
          refine lv_iload F.1 F.2.1 dX3_setTone_79 (lv_at hl 1 rfl) ?_
          refine k_if_ne F (tgt := 88) dX3_setTone_81 (by decide) (by decide) (fun c_36 => ?_) (fun c_36 => absurd c_36 (by omega))
          refine lv_iload F.1 F.2.1 dX3_setTone_88 (lv_at hl 0 rfl) ?_
          refine k_if_eq F (tgt := 97) dX3_setTone_90 (by decide) (by decide) (fun c_37 => absurd c_37 (by omega)) (fun c_37 => ?_)
          refine k_iconst F dX3_setTone_93 ?_
          refine lv_goto (tgt := 98) F.1 F.2.1 dX3_setTone_94 (by decide) ?_
          refine wr_V F (n := 1) (w := MW G A r0 σ) (w' := MW G A 0 σ) (wr := []) (ws2 := MW G A 0 σ) (mX3_refused l G sS.heap.size A r0 σ 0 0 (by decide) (by decide +kernel)) gX3_setTone_X3_refused rfl rfl rfl (by decide +kernel) ⟨Nat.le_of_ble_eq_true rfl, Nat.le_of_ble_eq_true rfl⟩ hK hP hD hS hA (pm_nil _) (pm_nil' _) rfl (ci := 3) (q0 := 0) rfl rfl rfl rfl hl.1 (Nat.le_of_ble_eq_true rfl) dX3_setTone_98 ⟨Nat.zero_le _, Nat.zero_le _⟩ (fun H locs hP hD hS => ?_)
          refine k_if_eq F (tgt := 106) dX3_setTone_101 (by decide) (by decide) (fun c_38 => ?_) (fun c_38 => absurd c_38 (by omega))
          refine lv_aload_n F.1 F.2.1 dX3_setTone_106 rfl (lv_at hl 2 rfl) ?_
          refine lv_iload_n F.1 F.2.1 dX3_setTone_107 rfl (lv_at hl 3 rfl) ?_
          refine lv_iload_n F.1 F.2.1 dX3_setTone_108 rfl (lv_at hl 4 rfl) ?_
          refine lv_iload_n F.1 F.2.1 dX3_setTone_109 rfl (lv_at hl 5 rfl) ?_
          refine rd_V F (n := 3) (w0 := []) (mX3_toneAt l G A 0 σ i c u (by omega) (by omega) (by omega)) gX3_setTone_X3_toneAt rfl rfl rfl (by decide +kernel) ⟨Nat.le_of_ble_eq_true rfl, Nat.le_of_ble_eq_true rfl⟩ hK hP (ci := 3) (q0 := 0) rfl rfl rfl rfl hl.1 (Nat.le_of_ble_eq_true rfl) dX3_setTone_110 ⟨Nat.zero_le _, Nat.zero_le _⟩ ?_
          refine lv_istore (lv' := [(7, .int (iI (σ 7 i (4 * c + u)))), (6, .int (iI 1)), (5, .int (iI 1)), (0, .ref (A 0)), (1, .int (iI (i : Int))), (2, .int (iI (c : Int))), (3, .int (iI (u : Int))), (4, .int (iI t))]) F.1 F.2.1 dX3_setTone_113 hl (by decide) rfl (fun ls hl => ?_)
          refine lv_aload_n F.1 F.2.1 dX3_setTone_115 rfl (lv_at hl 3 rfl) ?_
          refine k_get F hK hP iX3 0 rfl rfl 7 (by decide) f22 rfl rfl dX3_setTone_116 ?_
          refine k_bipush F dX3_setTone_119 (by decide +kernel) ?_
          refine lv_iload_n F.1 F.2.1 dX3_setTone_121 rfl (lv_at hl 4 rfl) ?_
          refine k_imul F rfl dX3_setTone_122 ?_
          refine k_iconst F dX3_setTone_123 ?_
          refine lv_iload_n F.1 F.2.1 dX3_setTone_124 rfl (lv_at hl 5 rfl) ?_
          refine k_imul F rfl dX3_setTone_125 ?_
          refine k_iadd F rfl dX3_setTone_126 ?_
          refine lv_iload_n F.1 F.2.1 dX3_setTone_127 rfl (lv_at hl 6 rfl) ?_
          refine k_iadd F rfl dX3_setTone_128 ?_
          refine lv_iload F.1 F.2.1 dX3_setTone_129 (lv_at hl 7 rfl) ?_
          refine k_iast F hK hP hD hS 5 rfl (((64 * i) + (4 * c)) + u) (by omega) (by omega) (by decide) dX3_setTone_131 (fun H locs hP hD hS => ?_)
          have hP : gP G ([(A 0, .inr (3, [.int (iI 0), .int (iI (σ 1 0 0)), .ref (A 1), .ref (A 2), .ref (A 3), .ref (A 4), .int (iI (σ 2 0 0)), .ref (A 5), .ref (A 6), .ref (A 7), .ref (A 8)])), (A 1, .inl (G.2.1, 12, .inl (ia (σ 3 0)))), (A 2, .inl (G.2.1, 12, .inl (ia (σ 4 0)))), (A 3, .inl (G.2.1, 12, .inl (ia (σ 5 0)))), (A 4, .inl (G.2.1, 12, .inl (ia (σ 6 0)))), (A 5, .inl (G.2.1, 448, .inl (ia (uI (fun q => σ 7 (q / 64) (q % 64)) (((64 * i) + (4 * c)) + u) t)))), (A 6, .inl (G.2.1, 7, .inl (ia (fun q => σ 8 q 0)))), (A 7, .inl (G.2.1, 6, .inl (ia (fun q => σ 9 q 0)))), (A 8, .inl (G.2.1, 96, .inl (ia (fun q => σ 10 (q / 16) (q % 16)))))]) H := hP
          have hD : va_D AA ([(A 0, .inr (3, [.int (iI 0), .int (iI (σ 1 0 0)), .ref (A 1), .ref (A 2), .ref (A 3), .ref (A 4), .int (iI (σ 2 0 0)), .ref (A 5), .ref (A 6), .ref (A 7), .ref (A 8)])), (A 1, .inl (G.2.1, 12, .inl (ia (σ 3 0)))), (A 2, .inl (G.2.1, 12, .inl (ia (σ 4 0)))), (A 3, .inl (G.2.1, 12, .inl (ia (σ 5 0)))), (A 4, .inl (G.2.1, 12, .inl (ia (σ 6 0)))), (A 5, .inl (G.2.1, 448, .inl (ia (uI (fun q => σ 7 (q / 64) (q % 64)) (((64 * i) + (4 * c)) + u) t)))), (A 6, .inl (G.2.1, 7, .inl (ia (fun q => σ 8 q 0)))), (A 7, .inl (G.2.1, 6, .inl (ia (fun q => σ 9 q 0)))), (A 8, .inl (G.2.1, 96, .inl (ia (fun q => σ 10 (q / 16) (q % 16)))))]) := hD
          refine lv_iload F.1 F.2.1 dX3_setTone_132 (lv_at hl 0 rfl) ?_
          exact wr_ret F hr hlocks (by rw [show kSet σ (i : Int) (c : Int) (u : Int) t = 0 from (by unfold kSet; simp only [isC, Int.toNat_natCast]; (repeat' split) <;> omega), if_pos rfl] <;> rfl) (by rw [show kSet σ (i : Int) (c : Int) (u : Int) t = 0 from (by unfold kSet; simp only [isC, Int.toNat_natCast]; (repeat' split) <;> omega), if_pos rfl]; exact MW_of rfl rfl rfl rfl rfl rfl (fl7e _ _ _ _ (by omega) (by omega)) rfl rfl rfl hP) hS dX3_setTone_134

theorem mX3_allFaults_sr (l : Launch) (G : gT) (A : Nat → Nat) (r0 : Int) (σ : Sg) (i : Nat) (t : Nat → Int) {n k N : Nat} (hI : Iv σ n k N) (hi : i < k) (ht : ∀ j, 0 ≤ t j ∧ t j ≤ 60) (ho : ∀ c, t (4 * c + 3) ≤ t (4 * c + 2) ∧ t (4 * c + 2) ≤ t (4 * c + 1) ∧ t (4 * c + 1) ≤ t (4 * c)) : Met l yX3_allFaults wsX3_allFaults { frames := 3, cells := 0, slots := 0, locals := 76 } (va_Pc [.ref (A 0), .int (iI (i : Int))] (rB G (MW G A r0 (sr σ 7 i t)))) (oI (alf t (σ 8 i 0))) 0 0 (fun _ => False) := by
  have h := mX3_allFaults l G A r0 (sr σ 7 i t) i (by have := hI.2.2.2.1; omega) (Iv_sr hI hi ht ho)
  rw [sr_at] at h
  exact h

set_option maxHeartbeats 4000000 in
set_option maxRecDepth 100000 in
theorem mX3_leastFaults (l : Launch) (G : gT) (sz0 : Nat) (A : Nat → Nat) (r0 : Int) (σ : Sg) (x y v : Int) (hx : -2147483648 ≤ x ∧ x < 2147483648) (hy : -2147483648 ≤ y ∧ y < 2147483648) (hv : -2147483648 ≤ v ∧ v < 2147483648) {n k N : Nat} (hI : Iv σ n k N) : Met l yX3_leastFaults wsX3_leastFaults { frames := 4, cells := 0, slots := 0, locals := 99 } (va_Pc [.ref (A 0), .int (iI x), .int (iI y), .int (iI v)] (wB G (MW G A r0 σ) sz0)) (wI (if kLst σ x y v = 0 then lft (σ 7 x.toNat) y.toNat v.toNat (σ 8 x.toNat 0) else 0) G (MW G A (kLst σ x y v) σ) (va_A (MW G A r0 σ) sz0)) 0 0 (va_A (MW G A r0 σ) sz0) := by
  refine wr_start (own := RX3) (cc := cX3_leastFaults) (mL := 10) (ret := (some .int)) (Qc := fun AA => wI (if kLst σ x y v = 0 then lft (σ 7 x.toNat) y.toNat v.toNat (σ 8 x.toNat 0) else 0) G (MW G A (kLst σ x y v) σ) AA) (by decide) rfl rfl (Nat.le_of_ble_eq_true rfl) ?_
  intro pP eE sS mM args bB meth cC ls AA F hr hlocks hin hK hsz0 hP hD hS hA hl
  obtain ⟨hn, hn12, hk, hk6, hsg, haw, hch, hch1, hch0, htn, hto, htz, hpr, hN, hpz, hle, hlz⟩ := id hI
  have hcx := hch x.toNat
  have iX3 : ∀ x ∈ wsX30, x ∈ wsX3_leastFaults := by decide +kernel
  have f22 := k_cond F (w := .fieldLink RX3 22 "ChoirPlannerModel" "tones" "[I") (by decide +kernel)
  have f25 := k_cond F (w := .fieldLink RX3 25 "ChoirPlannerModel" "chords" "[I") (by decide +kernel)
  have hl : lv_has ls 10 [(0, .ref (A 0)), (1, .int (iI x)), (2, .int (iI y)), (3, .int (iI v))] := hl
  refine lv_aload_n F.1 F.2.1 dX3_leastFaults_0 rfl (lv_at hl 0 rfl) ?_
  refine lv_iload_n F.1 F.2.1 dX3_leastFaults_1 rfl (lv_at hl 1 rfl) ?_
  refine lv_iload_n F.1 F.2.1 dX3_leastFaults_2 rfl (lv_at hl 2 rfl) ?_
  refine rd_V F (n := 2) (w0 := []) (mX3_isChord l G A r0 σ x y (by omega) (by omega) hI) gX3_leastFaults_X3_isChord rfl rfl rfl (by decide +kernel) ⟨Nat.le_of_ble_eq_true rfl, Nat.le_of_ble_eq_true rfl⟩ hK hP (ci := 3) (q0 := 0) rfl rfl rfl rfl hl.1 (Nat.le_of_ble_eq_true rfl) dX3_leastFaults_3 ⟨Nat.zero_le _, Nat.zero_le _⟩ ?_
  refine k_ifb_eq F (tgt := 29) dX3_leastFaults_6 (by decide) (fun c_1 => ?_) (fun c_1 => ?_)
  · skip
    refine k_iconst F dX3_leastFaults_29 ?_
    refine lv_istore (lv' := [(4, .int (iI 0)), (0, .ref (A 0)), (1, .int (iI x)), (2, .int (iI y)), (3, .int (iI v))]) F.1 F.2.1 dX3_leastFaults_30 hl (by decide) rfl (fun ls hl => ?_)
    refine lv_aload_n F.1 F.2.1 dX3_leastFaults_32 rfl (lv_at hl 1 rfl) ?_
    refine lv_iload F.1 F.2.1 dX3_leastFaults_33 (lv_at hl 0 rfl) ?_
    refine k_if_ne F (tgt := 42) dX3_leastFaults_35 (by decide) (by decide) (fun c_2 => absurd c_2 (by omega)) (fun c_2 => ?_)
    refine k_iconst F dX3_leastFaults_38 ?_
    refine lv_goto (tgt := 54) F.1 F.2.1 dX3_leastFaults_39 (by decide) ?_
    refine wr_V F (n := 1) (w := MW G A r0 σ) (w' := MW G A 1 σ) (wr := []) (ws2 := MW G A 1 σ) (mX3_refused l G sS.heap.size A r0 σ 1 1 (by decide) (by decide +kernel)) gX3_leastFaults_X3_refused rfl rfl rfl (by decide +kernel) ⟨Nat.le_of_ble_eq_true rfl, Nat.le_of_ble_eq_true rfl⟩ hK hP hD hS hA (pm_nil _) (pm_nil' _) rfl (ci := 3) (q0 := 0) rfl rfl rfl rfl hl.1 (Nat.le_of_ble_eq_true rfl) dX3_leastFaults_54 ⟨Nat.zero_le _, Nat.zero_le _⟩ (fun H locs hP hD hS => ?_)
    refine k_if_eq F (tgt := 62) dX3_leastFaults_57 (by decide) (by decide) (fun c_3 => absurd c_3 (by omega)) (fun c_3 => ?_)
    refine k_iconst F dX3_leastFaults_60 ?_
    exact wr_ret F hr hlocks (by rw [show kLst σ x y v = 1 from (by unfold kLst; (repeat' split) <;> omega), if_neg (by decide)]) (by rw [show kLst σ x y v = 1 from (by unfold kLst; (repeat' split) <;> omega)]; exact hP) hS dX3_leastFaults_61
  · skip
    refine lv_iload_n F.1 F.2.1 dX3_leastFaults_9 rfl (lv_at hl 2 rfl) ?_
    refine k_if_le F (tgt := 29) dX3_leastFaults_10 (by decide) (by omega) (fun c_4 => ?_) (fun c_4 => ?_)
    · skip
      refine k_iconst F dX3_leastFaults_29 ?_
      refine lv_istore (lv' := [(4, .int (iI 0)), (0, .ref (A 0)), (1, .int (iI x)), (2, .int (iI y)), (3, .int (iI v))]) F.1 F.2.1 dX3_leastFaults_30 hl (by decide) rfl (fun ls hl => ?_)
      refine lv_aload_n F.1 F.2.1 dX3_leastFaults_32 rfl (lv_at hl 1 rfl) ?_
      refine lv_iload F.1 F.2.1 dX3_leastFaults_33 (lv_at hl 0 rfl) ?_
      refine k_if_ne F (tgt := 42) dX3_leastFaults_35 (by decide) (by decide) (fun c_5 => absurd c_5 (by omega)) (fun c_5 => ?_)
      refine k_iconst F dX3_leastFaults_38 ?_
      refine lv_goto (tgt := 54) F.1 F.2.1 dX3_leastFaults_39 (by decide) ?_
      refine wr_V F (n := 1) (w := MW G A r0 σ) (w' := MW G A 1 σ) (wr := []) (ws2 := MW G A 1 σ) (mX3_refused l G sS.heap.size A r0 σ 1 1 (by decide) (by decide +kernel)) gX3_leastFaults_X3_refused rfl rfl rfl (by decide +kernel) ⟨Nat.le_of_ble_eq_true rfl, Nat.le_of_ble_eq_true rfl⟩ hK hP hD hS hA (pm_nil _) (pm_nil' _) rfl (ci := 3) (q0 := 0) rfl rfl rfl rfl hl.1 (Nat.le_of_ble_eq_true rfl) dX3_leastFaults_54 ⟨Nat.zero_le _, Nat.zero_le _⟩ (fun H locs hP hD hS => ?_)
      refine k_if_eq F (tgt := 62) dX3_leastFaults_57 (by decide) (by decide) (fun c_6 => absurd c_6 (by omega)) (fun c_6 => ?_)
      refine k_iconst F dX3_leastFaults_60 ?_
      exact wr_ret F hr hlocks (by rw [show kLst σ x y v = 1 from (by unfold kLst; (repeat' split) <;> omega), if_neg (by decide)]) (by rw [show kLst σ x y v = 1 from (by unfold kLst; (repeat' split) <;> omega)]; exact hP) hS dX3_leastFaults_61
    · skip
      refine lv_iload_n F.1 F.2.1 dX3_leastFaults_13 rfl (lv_at hl 2 rfl) ?_
      refine lv_aload_n F.1 F.2.1 dX3_leastFaults_14 rfl (lv_at hl 0 rfl) ?_
      refine k_get F hK hP iX3 0 rfl rfl 8 (by decide) f25 rfl rfl dX3_leastFaults_15 ?_
      refine lv_iload_n F.1 F.2.1 dX3_leastFaults_18 rfl (lv_at hl 1 rfl) ?_
      refine k_iald F hK hP 6 rfl x.toNat (by omega) (by omega) (by decide) rfl dX3_leastFaults_19 ?_
      refine k_iconst F dX3_leastFaults_20 ?_
      refine k_isub F rfl dX3_leastFaults_21 ?_
      refine k_icmp_ge F (tgt := 29) dX3_leastFaults_22 (by decide) (by omega) (by omega) (fun c_7 => ?_) (fun c_7 => ?_)
      · skip
        refine k_iconst F dX3_leastFaults_29 ?_
        refine lv_istore (lv' := [(4, .int (iI 0)), (0, .ref (A 0)), (1, .int (iI x)), (2, .int (iI y)), (3, .int (iI v))]) F.1 F.2.1 dX3_leastFaults_30 hl (by decide) rfl (fun ls hl => ?_)
        refine lv_aload_n F.1 F.2.1 dX3_leastFaults_32 rfl (lv_at hl 1 rfl) ?_
        refine lv_iload F.1 F.2.1 dX3_leastFaults_33 (lv_at hl 0 rfl) ?_
        refine k_if_ne F (tgt := 42) dX3_leastFaults_35 (by decide) (by decide) (fun c_8 => absurd c_8 (by omega)) (fun c_8 => ?_)
        refine k_iconst F dX3_leastFaults_38 ?_
        refine lv_goto (tgt := 54) F.1 F.2.1 dX3_leastFaults_39 (by decide) ?_
        refine wr_V F (n := 1) (w := MW G A r0 σ) (w' := MW G A 1 σ) (wr := []) (ws2 := MW G A 1 σ) (mX3_refused l G sS.heap.size A r0 σ 1 1 (by decide) (by decide +kernel)) gX3_leastFaults_X3_refused rfl rfl rfl (by decide +kernel) ⟨Nat.le_of_ble_eq_true rfl, Nat.le_of_ble_eq_true rfl⟩ hK hP hD hS hA (pm_nil _) (pm_nil' _) rfl (ci := 3) (q0 := 0) rfl rfl rfl rfl hl.1 (Nat.le_of_ble_eq_true rfl) dX3_leastFaults_54 ⟨Nat.zero_le _, Nat.zero_le _⟩ (fun H locs hP hD hS => ?_)
        refine k_if_eq F (tgt := 62) dX3_leastFaults_57 (by decide) (by decide) (fun c_9 => absurd c_9 (by omega)) (fun c_9 => ?_)
        refine k_iconst F dX3_leastFaults_60 ?_
        exact wr_ret F hr hlocks (by rw [show kLst σ x y v = 1 from (by unfold kLst; (repeat' split) <;> omega), if_neg (by decide)]) (by rw [show kLst σ x y v = 1 from (by unfold kLst; (repeat' split) <;> omega)]; exact hP) hS dX3_leastFaults_61
      · skip
        refine k_iconst F dX3_leastFaults_25 ?_
        refine lv_goto (tgt := 30) F.1 F.2.1 dX3_leastFaults_26 (by decide) ?_
        refine lv_istore (lv' := [(4, .int (iI 1)), (0, .ref (A 0)), (1, .int (iI x)), (2, .int (iI y)), (3, .int (iI v))]) F.1 F.2.1 dX3_leastFaults_30 hl (by decide) rfl (fun ls hl => ?_)
        refine lv_aload_n F.1 F.2.1 dX3_leastFaults_32 rfl (lv_at hl 1 rfl) ?_
        refine lv_iload F.1 F.2.1 dX3_leastFaults_33 (lv_at hl 0 rfl) ?_
        refine k_if_ne F (tgt := 42) dX3_leastFaults_35 (by decide) (by decide) (fun c_10 => ?_) (fun c_10 => absurd c_10 (by omega))
        refine lv_iload_n F.1 F.2.1 dX3_leastFaults_42 rfl (lv_at hl 4 rfl) ?_
        refine rd_S F (n := 1) (w0 := []) (mX3_isVoice l G (MW G A r0 σ) v (by omega)) gX3_leastFaults_X3_isVoice rfl rfl rfl (by decide +kernel) ⟨Nat.le_of_ble_eq_true rfl, Nat.le_of_ble_eq_true rfl⟩ hK hP rfl rfl hl.1 (Nat.le_of_ble_eq_true rfl) dX3_leastFaults_43 ⟨Nat.zero_le _, Nat.zero_le _⟩ ?_
        refine k_ifb_eq F (tgt := 53) dX3_leastFaults_46 (by decide) (fun c_11 => ?_) (fun c_11 => ?_)
        · skip
          refine k_iconst F dX3_leastFaults_53 ?_
          refine wr_V F (n := 1) (w := MW G A r0 σ) (w' := MW G A 2 σ) (wr := []) (ws2 := MW G A 2 σ) (mX3_refused l G sS.heap.size A r0 σ 2 1 (by decide) (by decide +kernel)) gX3_leastFaults_X3_refused rfl rfl rfl (by decide +kernel) ⟨Nat.le_of_ble_eq_true rfl, Nat.le_of_ble_eq_true rfl⟩ hK hP hD hS hA (pm_nil _) (pm_nil' _) rfl (ci := 3) (q0 := 0) rfl rfl rfl rfl hl.1 (Nat.le_of_ble_eq_true rfl) dX3_leastFaults_54 ⟨Nat.zero_le _, Nat.zero_le _⟩ (fun H locs hP hD hS => ?_)
          refine k_if_eq F (tgt := 62) dX3_leastFaults_57 (by decide) (by decide) (fun c_12 => absurd c_12 (by omega)) (fun c_12 => ?_)
          refine k_iconst F dX3_leastFaults_60 ?_
          exact wr_ret F hr hlocks (by rw [show kLst σ x y v = 2 from (by unfold kLst; (repeat' split) <;> omega), if_neg (by decide)]) (by rw [show kLst σ x y v = 2 from (by unfold kLst; (repeat' split) <;> omega)]; exact hP) hS dX3_leastFaults_61
        · skip
          refine k_iconst F dX3_leastFaults_49 ?_
          refine lv_goto (tgt := 54) F.1 F.2.1 dX3_leastFaults_50 (by decide) ?_
          refine wr_V F (n := 1) (w := MW G A r0 σ) (w' := MW G A 0 σ) (wr := []) (ws2 := MW G A 0 σ) (mX3_refused l G sS.heap.size A r0 σ 0 0 (by decide) (by decide +kernel)) gX3_leastFaults_X3_refused rfl rfl rfl (by decide +kernel) ⟨Nat.le_of_ble_eq_true rfl, Nat.le_of_ble_eq_true rfl⟩ hK hP hD hS hA (pm_nil _) (pm_nil' _) rfl (ci := 3) (q0 := 0) rfl rfl rfl rfl hl.1 (Nat.le_of_ble_eq_true rfl) dX3_leastFaults_54 ⟨Nat.zero_le _, Nat.zero_le _⟩ (fun H locs hP hD hS => ?_)
          refine k_if_eq F (tgt := 62) dX3_leastFaults_57 (by decide) (by decide) (fun c_13 => ?_) (fun c_13 => absurd c_13 (by omega))
          have hK0 : kLst σ x y v = 0 := (by unfold kLst; (repeat' split) <;> omega)
          obtain ⟨i, rfl⟩ : ∃ i : Nat, x = (i : Int) := ⟨x.toNat, by omega⟩
          obtain ⟨c, rfl⟩ : ∃ c : Nat, y = (c : Int) := ⟨y.toNat, by omega⟩
          obtain ⟨u, rfl⟩ : ∃ u : Nat, v = (u : Int) := ⟨v.toNat, by omega⟩
          simp only [Int.toNat_natCast] at c_1 c_7 hcx
          have hz := hch i
          obtain ⟨lo, hlo⟩ : ∃ lo : Int, lo = flr (σ 7 i) c u := ⟨_, rfl⟩
          obtain ⟨hi, hhi⟩ : ∃ hi : Int, hi = clg (σ 7 i) c u := ⟨_, rfl⟩
          have hfl := mX3_floorOf l G A 0 σ i c u (by omega) (by omega) (by omega)
          have hcl := mX3_roofOf l G A 0 σ i c u (by omega) (by omega) (by omega)
          have b1 := flr_rg (fun j => htn i j) c u
          have b2 := clg_rg (fun j => htn i j) c u
          rw [← hlo] at hfl b1
          rw [← hhi] at hcl b2
          refine lv_aload_n F.1 F.2.1 dX3_leastFaults_62 rfl (lv_at hl 1 rfl) ?_
          refine lv_iload_n F.1 F.2.1 dX3_leastFaults_63 rfl (lv_at hl 2 rfl) ?_
          refine lv_iload_n F.1 F.2.1 dX3_leastFaults_64 rfl (lv_at hl 3 rfl) ?_
          refine lv_iload_n F.1 F.2.1 dX3_leastFaults_65 rfl (lv_at hl 4 rfl) ?_
          refine rd_V F (n := 3) (w0 := []) (mX3_toneAt l G A 0 σ i c u (by omega) (by omega) (by omega)) gX3_leastFaults_X3_toneAt rfl rfl rfl (by decide +kernel) ⟨Nat.le_of_ble_eq_true rfl, Nat.le_of_ble_eq_true rfl⟩ hK hP (ci := 3) (q0 := 0) rfl rfl rfl rfl hl.1 (Nat.le_of_ble_eq_true rfl) dX3_leastFaults_66 ⟨Nat.zero_le _, Nat.zero_le _⟩ ?_
          refine lv_istore (lv' := [(5, .int (iI (σ 7 i (4 * c + u)))), (4, .int (iI 1)), (0, .ref (A 0)), (1, .int (iI (i : Int))), (2, .int (iI (c : Int))), (3, .int (iI (u : Int)))]) F.1 F.2.1 dX3_leastFaults_69 hl (by decide) rfl (fun ls hl => ?_)
          refine lv_aload_n F.1 F.2.1 dX3_leastFaults_71 rfl (lv_at hl 2 rfl) ?_
          refine lv_iload_n F.1 F.2.1 dX3_leastFaults_72 rfl (lv_at hl 3 rfl) ?_
          refine rd_V F (n := 1) (w0 := []) (mX3_allFaults l G A 0 σ i (by omega) hI) gX3_leastFaults_X3_allFaults rfl rfl rfl (by decide +kernel) ⟨Nat.le_of_ble_eq_true rfl, Nat.le_of_ble_eq_true rfl⟩ hK hP (ci := 3) (q0 := 0) rfl rfl rfl rfl hl.1 (Nat.le_of_ble_eq_true rfl) dX3_leastFaults_73 ⟨Nat.zero_le _, Nat.zero_le _⟩ ?_
          refine lv_istore (lv' := [(6, .int (iI (alf (σ 7 i) (σ 8 i 0)))), (5, .int (iI (σ 7 i (4 * c + u)))), (4, .int (iI 1)), (0, .ref (A 0)), (1, .int (iI (i : Int))), (2, .int (iI (c : Int))), (3, .int (iI (u : Int)))]) F.1 F.2.1 dX3_leastFaults_76 hl (by decide) rfl (fun ls hl => ?_)
          refine lv_aload_n F.1 F.2.1 dX3_leastFaults_78 rfl (lv_at hl 3 rfl) ?_
          refine lv_iload_n F.1 F.2.1 dX3_leastFaults_79 rfl (lv_at hl 4 rfl) ?_
          refine lv_iload_n F.1 F.2.1 dX3_leastFaults_80 rfl (lv_at hl 5 rfl) ?_
          refine lv_iload_n F.1 F.2.1 dX3_leastFaults_81 rfl (lv_at hl 6 rfl) ?_
          refine rd_V F (n := 3) (w0 := []) (hcl) gX3_leastFaults_X3_roofOf rfl rfl rfl (by decide +kernel) ⟨Nat.le_of_ble_eq_true rfl, Nat.le_of_ble_eq_true rfl⟩ hK hP (ci := 3) (q0 := 0) rfl rfl rfl rfl hl.1 (Nat.le_of_ble_eq_true rfl) dX3_leastFaults_82 ⟨Nat.zero_le _, Nat.zero_le _⟩ ?_
          refine lv_istore (lv' := [(7, .int (iI hi)), (6, .int (iI (alf (σ 7 i) (σ 8 i 0)))), (5, .int (iI (σ 7 i (4 * c + u)))), (4, .int (iI 1)), (0, .ref (A 0)), (1, .int (iI (i : Int))), (2, .int (iI (c : Int))), (3, .int (iI (u : Int)))]) F.1 F.2.1 dX3_leastFaults_85 hl (by decide) rfl (fun ls hl => ?_)
          refine lv_aload_n F.1 F.2.1 dX3_leastFaults_87 rfl (lv_at hl 4 rfl) ?_
          refine lv_iload_n F.1 F.2.1 dX3_leastFaults_88 rfl (lv_at hl 5 rfl) ?_
          refine lv_iload_n F.1 F.2.1 dX3_leastFaults_89 rfl (lv_at hl 6 rfl) ?_
          refine lv_iload_n F.1 F.2.1 dX3_leastFaults_90 rfl (lv_at hl 7 rfl) ?_
          refine rd_V F (n := 3) (w0 := []) (hfl) gX3_leastFaults_X3_floorOf rfl rfl rfl (by decide +kernel) ⟨Nat.le_of_ble_eq_true rfl, Nat.le_of_ble_eq_true rfl⟩ hK hP (ci := 3) (q0 := 0) rfl rfl rfl rfl hl.1 (Nat.le_of_ble_eq_true rfl) dX3_leastFaults_91 ⟨Nat.zero_le _, Nat.zero_le _⟩ ?_
          refine lv_istore (lv' := [(8, .int (iI lo)), (7, .int (iI hi)), (6, .int (iI (alf (σ 7 i) (σ 8 i 0)))), (5, .int (iI (σ 7 i (4 * c + u)))), (4, .int (iI 1)), (0, .ref (A 0)), (1, .int (iI (i : Int))), (2, .int (iI (c : Int))), (3, .int (iI (u : Int)))]) F.1 F.2.1 dX3_leastFaults_94 hl (by decide) rfl (fun ls hl => ?_)
          have J_14 : ∀ q : Nat, q ≤ (hi - lo + 1).toNat → ∀ (H : Heap) (locs : List Loc), gP G (MW G A (0) (sr σ 7 i (tqs (σ 7 i) (4 * c + u) lo q))) H → va_D AA (MW G A (0) (sr σ 7 i (tqs (σ 7 i) (4 * c + u) lo q))) → va_S AA sS.heap H locs → ∀ ls : Array Slot, lv_has ls 10 [(8, .int (iI (lo + (q : Int)))), (6, .int (iI (lfS (σ 7 i) (4 * c + u) lo (σ 8 i 0) q))), (7, .int (iI hi)), (5, .int (iI (σ 7 i (4 * c + u)))), (4, .int (iI 1)), (0, .ref (A 0)), (1, .int (iI (i : Int))), (2, .int (iI (c : Int))), (3, .int (iI (u : Int)))] → W pP l eE ({ frames := 4, cells := 0, slots := 0, locals := 99 }) sS mM args bB meth cC H locs 0 0 (MQ bB (wI (if kLst σ (i : Int) (c : Int) (u : Int) = 0 then lft (σ 7 (i : Int).toNat) (c : Int).toNat (u : Int).toNat (σ 8 (i : Int).toNat 0) else 0) G (MW G A (kLst σ (i : Int) (c : Int) (u : Int)) σ) AA) args sS 0 0 AA) (F0 mM 96 ls []) := by
            refine lp_up ((hi - lo + 1).toNat) ?_ ?_
            · intro H locs hP hD hS ls hl
              refine lv_iload F.1 F.2.1 dX3_leastFaults_96 (lv_at hl 0 rfl) ?_
              refine lv_iload F.1 F.2.1 dX3_leastFaults_98 (lv_at hl 2 rfl) ?_
              refine k_icmp_gt F (tgt := 149) dX3_leastFaults_100 (by decide) (by omega) (by omega) (fun c_16 => ?_) (fun c_16 => absurd c_16 (by omega))
              refine lv_aload_n F.1 F.2.1 dX3_leastFaults_149 rfl (lv_at hl 5 rfl) ?_
              refine k_get F hK hP iX3 0 rfl rfl 7 (by decide) f22 rfl rfl dX3_leastFaults_150 ?_
              refine k_bipush F dX3_leastFaults_153 (by decide +kernel) ?_
              refine lv_iload_n F.1 F.2.1 dX3_leastFaults_155 rfl (lv_at hl 6 rfl) ?_
              refine k_imul F rfl dX3_leastFaults_156 ?_
              refine k_iconst F dX3_leastFaults_157 ?_
              refine lv_iload_n F.1 F.2.1 dX3_leastFaults_158 rfl (lv_at hl 7 rfl) ?_
              refine k_imul F rfl dX3_leastFaults_159 ?_
              refine k_iadd F rfl dX3_leastFaults_160 ?_
              refine lv_iload_n F.1 F.2.1 dX3_leastFaults_161 rfl (lv_at hl 8 rfl) ?_
              refine k_iadd F rfl dX3_leastFaults_162 ?_
              refine lv_iload F.1 F.2.1 dX3_leastFaults_163 (lv_at hl 3 rfl) ?_
              refine k_iast F hK hP hD hS 5 rfl (((64 * i) + (4 * c)) + u) (by omega) (by omega) (by decide) dX3_leastFaults_165 (fun H locs hP hD hS => ?_)
              have hP : gP G ([(A 0, .inr (3, [.int (iI 0), .int (iI (σ 1 0 0)), .ref (A 1), .ref (A 2), .ref (A 3), .ref (A 4), .int (iI (σ 2 0 0)), .ref (A 5), .ref (A 6), .ref (A 7), .ref (A 8)])), (A 1, .inl (G.2.1, 12, .inl (ia (σ 3 0)))), (A 2, .inl (G.2.1, 12, .inl (ia (σ 4 0)))), (A 3, .inl (G.2.1, 12, .inl (ia (σ 5 0)))), (A 4, .inl (G.2.1, 12, .inl (ia (σ 6 0)))), (A 5, .inl (G.2.1, 448, .inl (ia (uI (fun q9 => sr σ 7 i (tqs (σ 7 i) (4 * c + u) lo ((hi - lo + 1).toNat)) 7 (q9 / 64) (q9 % 64)) (((64 * i) + (4 * c)) + u) (σ 7 i (4 * c + u)))))), (A 6, .inl (G.2.1, 7, .inl (ia (fun q => σ 8 q 0)))), (A 7, .inl (G.2.1, 6, .inl (ia (fun q => σ 9 q 0)))), (A 8, .inl (G.2.1, 96, .inl (ia (fun q => σ 10 (q / 16) (q % 16)))))]) H := hP
              have hD : va_D AA ([(A 0, .inr (3, [.int (iI 0), .int (iI (σ 1 0 0)), .ref (A 1), .ref (A 2), .ref (A 3), .ref (A 4), .int (iI (σ 2 0 0)), .ref (A 5), .ref (A 6), .ref (A 7), .ref (A 8)])), (A 1, .inl (G.2.1, 12, .inl (ia (σ 3 0)))), (A 2, .inl (G.2.1, 12, .inl (ia (σ 4 0)))), (A 3, .inl (G.2.1, 12, .inl (ia (σ 5 0)))), (A 4, .inl (G.2.1, 12, .inl (ia (σ 6 0)))), (A 5, .inl (G.2.1, 448, .inl (ia (uI (fun q9 => sr σ 7 i (tqs (σ 7 i) (4 * c + u) lo ((hi - lo + 1).toNat)) 7 (q9 / 64) (q9 % 64)) (((64 * i) + (4 * c)) + u) (σ 7 i (4 * c + u)))))), (A 6, .inl (G.2.1, 7, .inl (ia (fun q => σ 8 q 0)))), (A 7, .inl (G.2.1, 6, .inl (ia (fun q => σ 9 q 0)))), (A 8, .inl (G.2.1, 96, .inl (ia (fun q => σ 10 (q / 16) (q % 16)))))]) := hD
              refine lv_iload F.1 F.2.1 dX3_leastFaults_166 (lv_at hl 1 rfl) ?_
              exact wr_ret F hr hlocks (by rw [hK0, if_pos rfl, hlo, hhi]; rfl) (by rw [hK0]; exact MW_of rfl rfl rfl rfl rfl rfl (by have h9 := sr_fl7e σ i (4 * c + u) (tqs (σ 7 i) (4 * c + u) lo (hi - lo + 1).toNat) (σ 7 i (4 * c + u)) (q0 := 64 * i + 4 * c + u) (by omega) (by omega); rw [tqs_back, sr_self] at h9; exact h9) rfl rfl rfl hP) hS dX3_leastFaults_168
            · intro q hk9 ih H locs hP hD hS ls hl
              have b3 := lfS_rg (σ 7 i) (4 * c + u) lo hz q
              have b4 := alf_rg (tqs (σ 7 i) (4 * c + u) lo (q + 1)) hz
              refine lv_iload F.1 F.2.1 dX3_leastFaults_96 (lv_at hl 0 rfl) ?_
              refine lv_iload F.1 F.2.1 dX3_leastFaults_98 (lv_at hl 2 rfl) ?_
              refine k_icmp_gt F (tgt := 149) dX3_leastFaults_100 (by decide) (by omega) (by omega) (fun c_17 => absurd c_17 (by omega)) (fun c_17 => ?_)
              refine lv_aload_n F.1 F.2.1 dX3_leastFaults_103 rfl (lv_at hl 5 rfl) ?_
              refine k_get F hK hP iX3 0 rfl rfl 7 (by decide) f22 rfl rfl dX3_leastFaults_104 ?_
              refine k_bipush F dX3_leastFaults_107 (by decide +kernel) ?_
              refine lv_iload_n F.1 F.2.1 dX3_leastFaults_109 rfl (lv_at hl 6 rfl) ?_
              refine k_imul F rfl dX3_leastFaults_110 ?_
              refine k_iconst F dX3_leastFaults_111 ?_
              refine lv_iload_n F.1 F.2.1 dX3_leastFaults_112 rfl (lv_at hl 7 rfl) ?_
              refine k_imul F rfl dX3_leastFaults_113 ?_
              refine k_iadd F rfl dX3_leastFaults_114 ?_
              refine lv_iload_n F.1 F.2.1 dX3_leastFaults_115 rfl (lv_at hl 8 rfl) ?_
              refine k_iadd F rfl dX3_leastFaults_116 ?_
              refine lv_iload F.1 F.2.1 dX3_leastFaults_117 (lv_at hl 0 rfl) ?_
              refine k_iast F hK hP hD hS 5 rfl (((64 * i) + (4 * c)) + u) (by omega) (by omega) (by decide) dX3_leastFaults_119 (fun H locs hP hD hS => ?_)
              have hP : gP G ([(A 0, .inr (3, [.int (iI 0), .int (iI (σ 1 0 0)), .ref (A 1), .ref (A 2), .ref (A 3), .ref (A 4), .int (iI (σ 2 0 0)), .ref (A 5), .ref (A 6), .ref (A 7), .ref (A 8)])), (A 1, .inl (G.2.1, 12, .inl (ia (σ 3 0)))), (A 2, .inl (G.2.1, 12, .inl (ia (σ 4 0)))), (A 3, .inl (G.2.1, 12, .inl (ia (σ 5 0)))), (A 4, .inl (G.2.1, 12, .inl (ia (σ 6 0)))), (A 5, .inl (G.2.1, 448, .inl (ia (uI (fun q9 => sr σ 7 i (tqs (σ 7 i) (4 * c + u) lo q) 7 (q9 / 64) (q9 % 64)) (((64 * i) + (4 * c)) + u) (lo + (q : Int)))))), (A 6, .inl (G.2.1, 7, .inl (ia (fun q => σ 8 q 0)))), (A 7, .inl (G.2.1, 6, .inl (ia (fun q => σ 9 q 0)))), (A 8, .inl (G.2.1, 96, .inl (ia (fun q => σ 10 (q / 16) (q % 16)))))]) H := hP
              have hD : va_D AA ([(A 0, .inr (3, [.int (iI 0), .int (iI (σ 1 0 0)), .ref (A 1), .ref (A 2), .ref (A 3), .ref (A 4), .int (iI (σ 2 0 0)), .ref (A 5), .ref (A 6), .ref (A 7), .ref (A 8)])), (A 1, .inl (G.2.1, 12, .inl (ia (σ 3 0)))), (A 2, .inl (G.2.1, 12, .inl (ia (σ 4 0)))), (A 3, .inl (G.2.1, 12, .inl (ia (σ 5 0)))), (A 4, .inl (G.2.1, 12, .inl (ia (σ 6 0)))), (A 5, .inl (G.2.1, 448, .inl (ia (uI (fun q9 => sr σ 7 i (tqs (σ 7 i) (4 * c + u) lo q) 7 (q9 / 64) (q9 % 64)) (((64 * i) + (4 * c)) + u) (lo + (q : Int)))))), (A 6, .inl (G.2.1, 7, .inl (ia (fun q => σ 8 q 0)))), (A 7, .inl (G.2.1, 6, .inl (ia (fun q => σ 9 q 0)))), (A 8, .inl (G.2.1, 96, .inl (ia (fun q => σ 10 (q / 16) (q % 16)))))]) := hD
              have hP : gP G (MW G A (0) (sr σ 7 i (tqs (σ 7 i) (4 * c + u) lo (q + 1)))) H := MW_of rfl rfl rfl rfl rfl rfl (by rw [← tqs_put]; exact sr_fl7e _ _ _ _ _ (by omega) (by omega)) rfl rfl rfl hP
              have hD : va_D AA (MW G A (0) (sr σ 7 i (tqs (σ 7 i) (4 * c + u) lo (q + 1)))) := D_too hD rfl
              refine lv_aload_n F.1 F.2.1 dX3_leastFaults_120 rfl (lv_at hl 5 rfl) ?_
              refine lv_iload_n F.1 F.2.1 dX3_leastFaults_121 rfl (lv_at hl 6 rfl) ?_
              refine rd_V F (n := 1) (w0 := []) (mX3_allFaults_sr l G A 0 σ i (tqs (σ 7 i) (4 * c + u) lo (q + 1)) hI (by omega) (ht_put (fun j => htn i j) _ (by omega)) (ho_put' (fun d => hto i d) (by omega) (by omega) (by omega))) gX3_leastFaults_X3_allFaults rfl rfl rfl (by decide +kernel) ⟨Nat.le_of_ble_eq_true rfl, Nat.le_of_ble_eq_true rfl⟩ hK hP (ci := 3) (q0 := 0) rfl rfl rfl rfl hl.1 (Nat.le_of_ble_eq_true rfl) dX3_leastFaults_122 ⟨Nat.zero_le _, Nat.zero_le _⟩ ?_
              refine lv_istore (lv' := [(9, .int (iI (alf (tqs (σ 7 i) (4 * c + u) lo (q + 1)) (σ 8 i 0)))), (8, .int (iI (lo + (q : Int)))), (6, .int (iI (lfS (σ 7 i) (4 * c + u) lo (σ 8 i 0) q))), (7, .int (iI hi)), (5, .int (iI (σ 7 i (4 * c + u)))), (4, .int (iI 1)), (0, .ref (A 0)), (1, .int (iI (i : Int))), (2, .int (iI (c : Int))), (3, .int (iI (u : Int)))]) F.1 F.2.1 dX3_leastFaults_125 hl (by decide) rfl (fun ls hl => ?_)
              refine lv_iload F.1 F.2.1 dX3_leastFaults_127 (lv_at hl 0 rfl) ?_
              refine lv_iload F.1 F.2.1 dX3_leastFaults_129 (lv_at hl 2 rfl) ?_
              refine k_icmp_ge F (tgt := 139) dX3_leastFaults_131 (by decide) (by omega) (by omega) (fun c_18 => ?_) (fun c_18 => ?_)
              · skip
                refine lv_iload F.1 F.2.1 dX3_leastFaults_139 (lv_at hl 2 rfl) ?_
                refine lv_istore (lv' := [(6, .int (iI (lfS (σ 7 i) (4 * c + u) lo (σ 8 i 0) q))), (9, .int (iI (alf (tqs (σ 7 i) (4 * c + u) lo (q + 1)) (σ 8 i 0)))), (8, .int (iI (lo + (q : Int)))), (7, .int (iI hi)), (5, .int (iI (σ 7 i (4 * c + u)))), (4, .int (iI 1)), (0, .ref (A 0)), (1, .int (iI (i : Int))), (2, .int (iI (c : Int))), (3, .int (iI (u : Int)))]) F.1 F.2.1 dX3_leastFaults_141 hl (by decide) rfl (fun ls hl => ?_)
                refine lv_iinc (v := iI ((lo + (q : Int)) + 1)) (lv' := [(8, .int (iI ((lo + (q : Int)) + 1))), (6, .int (iI (lfS (σ 7 i) (4 * c + u) lo (σ 8 i 0) q))), (9, .int (iI (alf (tqs (σ 7 i) (4 * c + u) lo (q + 1)) (σ 8 i 0)))), (7, .int (iI hi)), (5, .int (iI (σ 7 i (4 * c + u)))), (4, .int (iI 1)), (0, .ref (A 0)), (1, .int (iI (i : Int))), (2, .int (iI (c : Int))), (3, .int (iI (u : Int)))]) F.1 F.2.1 dX3_leastFaults_143 hl (k := 2) rfl (iI_add _ _) (by decide) rfl (fun ls hl => ?_)
                refine lv_goto (tgt := 96) F.1 F.2.1 dX3_leastFaults_146 (by decide) ?_
                have e_19 : (((lo + (q : Int)) + 1) : Int) = (lo + ((q + 1 : Nat) : Int)) := by omega
                have e_20 : ((lfS (σ 7 i) (4 * c + u) lo (σ 8 i 0) q) : Int) = (lfS (σ 7 i) (4 * c + u) lo (σ 8 i 0) (q + 1)) := by show _ = min _ _; omega
                exact ih _ _ hP (D_too (w' := MW G A (0) (sr σ 7 i (tqs (σ 7 i) (4 * c + u) lo (q + 1)))) hD rfl) hS _ (lv_to (lv_to (lv_sub hl [0, 1, 3, 4, 5, 6, 7, 8, 9] rfl) (congrArg (fun x9 : Int => ([(8, .int (iI x9)), (6, .int (iI (lfS (σ 7 i) (4 * c + u) lo (σ 8 i 0) q))), (7, .int (iI hi)), (5, .int (iI (σ 7 i (4 * c + u)))), (4, .int (iI 1)), (0, .ref (A 0)), (1, .int (iI (i : Int))), (2, .int (iI (c : Int))), (3, .int (iI (u : Int)))] : List (Nat × Value))) e_19)) (congrArg (fun x9 : Int => ([(8, .int (iI (lo + ((q + 1 : Nat) : Int)))), (6, .int (iI x9)), (7, .int (iI hi)), (5, .int (iI (σ 7 i (4 * c + u)))), (4, .int (iI 1)), (0, .ref (A 0)), (1, .int (iI (i : Int))), (2, .int (iI (c : Int))), (3, .int (iI (u : Int)))] : List (Nat × Value))) e_20))
              · skip
                refine lv_iload F.1 F.2.1 dX3_leastFaults_134 (lv_at hl 0 rfl) ?_
                refine lv_goto (tgt := 141) F.1 F.2.1 dX3_leastFaults_136 (by decide) ?_
                refine lv_istore (lv' := [(6, .int (iI (alf (tqs (σ 7 i) (4 * c + u) lo (q + 1)) (σ 8 i 0)))), (9, .int (iI (alf (tqs (σ 7 i) (4 * c + u) lo (q + 1)) (σ 8 i 0)))), (8, .int (iI (lo + (q : Int)))), (7, .int (iI hi)), (5, .int (iI (σ 7 i (4 * c + u)))), (4, .int (iI 1)), (0, .ref (A 0)), (1, .int (iI (i : Int))), (2, .int (iI (c : Int))), (3, .int (iI (u : Int)))]) F.1 F.2.1 dX3_leastFaults_141 hl (by decide) rfl (fun ls hl => ?_)
                refine lv_iinc (v := iI ((lo + (q : Int)) + 1)) (lv' := [(8, .int (iI ((lo + (q : Int)) + 1))), (6, .int (iI (alf (tqs (σ 7 i) (4 * c + u) lo (q + 1)) (σ 8 i 0)))), (9, .int (iI (alf (tqs (σ 7 i) (4 * c + u) lo (q + 1)) (σ 8 i 0)))), (7, .int (iI hi)), (5, .int (iI (σ 7 i (4 * c + u)))), (4, .int (iI 1)), (0, .ref (A 0)), (1, .int (iI (i : Int))), (2, .int (iI (c : Int))), (3, .int (iI (u : Int)))]) F.1 F.2.1 dX3_leastFaults_143 hl (k := 2) rfl (iI_add _ _) (by decide) rfl (fun ls hl => ?_)
                refine lv_goto (tgt := 96) F.1 F.2.1 dX3_leastFaults_146 (by decide) ?_
                have e_21 : (((lo + (q : Int)) + 1) : Int) = (lo + ((q + 1 : Nat) : Int)) := by omega
                have e_22 : ((alf (tqs (σ 7 i) (4 * c + u) lo (q + 1)) (σ 8 i 0)) : Int) = (lfS (σ 7 i) (4 * c + u) lo (σ 8 i 0) (q + 1)) := by show _ = min _ _; omega
                exact ih _ _ hP (D_too (w' := MW G A (0) (sr σ 7 i (tqs (σ 7 i) (4 * c + u) lo (q + 1)))) hD rfl) hS _ (lv_to (lv_to (lv_sub hl [0, 1, 3, 4, 5, 6, 7, 8, 9] rfl) (congrArg (fun x9 : Int => ([(8, .int (iI x9)), (6, .int (iI (alf (tqs (σ 7 i) (4 * c + u) lo (q + 1)) (σ 8 i 0)))), (7, .int (iI hi)), (5, .int (iI (σ 7 i (4 * c + u)))), (4, .int (iI 1)), (0, .ref (A 0)), (1, .int (iI (i : Int))), (2, .int (iI (c : Int))), (3, .int (iI (u : Int)))] : List (Nat × Value))) e_21)) (congrArg (fun x9 : Int => ([(8, .int (iI (lo + ((q + 1 : Nat) : Int)))), (6, .int (iI x9)), (7, .int (iI hi)), (5, .int (iI (σ 7 i (4 * c + u)))), (4, .int (iI 1)), (0, .ref (A 0)), (1, .int (iI (i : Int))), (2, .int (iI (c : Int))), (3, .int (iI (u : Int)))] : List (Nat × Value))) e_22))
          have e_23 : (lo : Int) = (lo + ((0 : Nat) : Int)) := by omega
          have e_24 : ((alf (σ 7 i) (σ 8 i 0)) : Int) = (lfS (σ 7 i) (4 * c + u) lo (σ 8 i 0) 0) := rfl
          exact J_14 0 (by omega) _ _ (by rw [show tqs (σ 7 i) (4 * c + u) lo 0 = σ 7 i from rfl, sr_self]; exact hP) (D_too (w' := MW G A (0) (sr σ 7 i (tqs (σ 7 i) (4 * c + u) lo 0))) hD rfl) hS _ (lv_to (lv_to (lv_sub hl [0, 2, 1, 3, 4, 5, 6, 7, 8] rfl) (congrArg (fun x9 : Int => ([(8, .int (iI x9)), (6, .int (iI (alf (σ 7 i) (σ 8 i 0)))), (7, .int (iI hi)), (5, .int (iI (σ 7 i (4 * c + u)))), (4, .int (iI 1)), (0, .ref (A 0)), (1, .int (iI (i : Int))), (2, .int (iI (c : Int))), (3, .int (iI (u : Int)))] : List (Nat × Value))) e_23)) (congrArg (fun x9 : Int => ([(8, .int (iI (lo + ((0 : Nat) : Int)))), (6, .int (iI x9)), (7, .int (iI hi)), (5, .int (iI (σ 7 i (4 * c + u)))), (4, .int (iI 1)), (0, .ref (A 0)), (1, .int (iI (i : Int))), (2, .int (iI (c : Int))), (3, .int (iI (u : Int)))] : List (Nat × Value))) e_24))

set_option maxHeartbeats 4000000 in
set_option maxRecDepth 100000 in
theorem mX3_noDate (l : Launch) (G : gT) (sz0 : Nat) (A : Nat → Nat) (r0 : Int) (σ : Sg) (d x : Int) (hd : -2147483648 ≤ d ∧ d < 2147483648) (hx : -2147483648 ≤ x ∧ x < 2147483648) {n k N : Nat} (hI : Iv σ n k N) : Met l yX3_noDate wsX3_noDate { frames := 2, cells := 0, slots := 0, locals := 42 } (va_Pc [.ref (A 0), .int (iI d), .int (iI x)] (wB G (MW G A r0 σ) sz0)) (wI (kPrg d x) G (MW G A (kPrg d x) σ) (va_A (MW G A r0 σ) sz0)) 0 0 (va_A (MW G A r0 σ) sz0) := by
  refine wr_start (own := RX3) (cc := cX3_noDate) (mL := 3) (ret := (some .boolean)) (Qc := fun AA => wI (kPrg d x) G (MW G A (kPrg d x) σ) AA) (by decide) rfl rfl (Nat.le_of_ble_eq_true rfl) ?_
  intro pP eE sS mM args bB meth cC ls AA F hr hlocks hin hK hsz0 hP hD hS hA hl
  obtain ⟨hn, hn12, hk, hk6, hsg, haw, hch, hch1, hch0, htn, hto, htz, hpr, hN, hpz, hle, hlz⟩ := id hI
  have hl : lv_has ls 3 [(0, .ref (A 0)), (1, .int (iI d)), (2, .int (iI x))] := hl
  refine lv_aload_n F.1 F.2.1 dX3_noDate_0 rfl (lv_at hl 0 rfl) ?_
  refine lv_iload_n F.1 F.2.1 dX3_noDate_1 rfl (lv_at hl 1 rfl) ?_
  refine rd_S F (n := 1) (w0 := []) (mX3_isDate l G (MW G A r0 σ) d (by omega)) gX3_noDate_X3_isDate rfl rfl rfl (by decide +kernel) ⟨Nat.le_of_ble_eq_true rfl, Nat.le_of_ble_eq_true rfl⟩ hK hP rfl rfl hl.1 (Nat.le_of_ble_eq_true rfl) dX3_noDate_2 ⟨Nat.zero_le _, Nat.zero_le _⟩ ?_
  refine k_ifb_eq F (tgt := 23) dX3_noDate_5 (by decide) (fun c_1 => ?_) (fun c_1 => ?_)
  · skip
    refine k_iconst F dX3_noDate_23 ?_
    refine wr_V F (n := 1) (w := MW G A r0 σ) (w' := MW G A 1 σ) (wr := []) (ws2 := MW G A 1 σ) (mX3_refused l G sS.heap.size A r0 σ 1 1 (by decide) (by decide +kernel)) gX3_noDate_X3_refused rfl rfl rfl (by decide +kernel) ⟨Nat.le_of_ble_eq_true rfl, Nat.le_of_ble_eq_true rfl⟩ hK hP hD hS hA (pm_nil _) (pm_nil' _) rfl (ci := 3) (q0 := 0) rfl rfl rfl rfl hl.1 (Nat.le_of_ble_eq_true rfl) dX3_noDate_24 ⟨Nat.zero_le _, Nat.zero_le _⟩ (fun H locs hP hD hS => ?_)
    exact wr_zret F hr hlocks (by rw [show kPrg d x = 1 from (by unfold kPrg; (repeat' split) <;> omega)]) (Or.inr rfl) (by rw [show kPrg d x = 1 from (by unfold kPrg; (repeat' split) <;> omega)]; exact hP) hS dX3_noDate_27
  · skip
    refine lv_iload_n F.1 F.2.1 dX3_noDate_8 rfl (lv_at hl 2 rfl) ?_
    refine k_iconst F dX3_noDate_9 ?_
    refine k_sipush F dX3_noDate_10 (by decide +kernel) ?_
    refine rd_S F (n := 3) (w0 := []) (mX3_in l G (MW G A r0 σ) x 0 20000 (by omega) (by decide) (by decide)) gX3_noDate_X3_in rfl rfl rfl (by decide +kernel) ⟨Nat.le_of_ble_eq_true rfl, Nat.le_of_ble_eq_true rfl⟩ hK hP rfl rfl hl.1 (Nat.le_of_ble_eq_true rfl) dX3_noDate_13 ⟨Nat.zero_le _, Nat.zero_le _⟩ ?_
    refine k_ifb_eq F (tgt := 23) dX3_noDate_16 (by decide) (fun c_2 => ?_) (fun c_2 => ?_)
    · skip
      refine k_iconst F dX3_noDate_23 ?_
      refine wr_V F (n := 1) (w := MW G A r0 σ) (w' := MW G A 1 σ) (wr := []) (ws2 := MW G A 1 σ) (mX3_refused l G sS.heap.size A r0 σ 1 1 (by decide) (by decide +kernel)) gX3_noDate_X3_refused rfl rfl rfl (by decide +kernel) ⟨Nat.le_of_ble_eq_true rfl, Nat.le_of_ble_eq_true rfl⟩ hK hP hD hS hA (pm_nil _) (pm_nil' _) rfl (ci := 3) (q0 := 0) rfl rfl rfl rfl hl.1 (Nat.le_of_ble_eq_true rfl) dX3_noDate_24 ⟨Nat.zero_le _, Nat.zero_le _⟩ (fun H locs hP hD hS => ?_)
      exact wr_zret F hr hlocks (by rw [show kPrg d x = 1 from (by unfold kPrg; (repeat' split) <;> omega)]) (Or.inr rfl) (by rw [show kPrg d x = 1 from (by unfold kPrg; (repeat' split) <;> omega)]; exact hP) hS dX3_noDate_27
    · skip
      refine k_iconst F dX3_noDate_19 ?_
      refine lv_goto (tgt := 24) F.1 F.2.1 dX3_noDate_20 (by decide) ?_
      refine wr_V F (n := 1) (w := MW G A r0 σ) (w' := MW G A 0 σ) (wr := []) (ws2 := MW G A 0 σ) (mX3_refused l G sS.heap.size A r0 σ 0 0 (by decide) (by decide +kernel)) gX3_noDate_X3_refused rfl rfl rfl (by decide +kernel) ⟨Nat.le_of_ble_eq_true rfl, Nat.le_of_ble_eq_true rfl⟩ hK hP hD hS hA (pm_nil _) (pm_nil' _) rfl (ci := 3) (q0 := 0) rfl rfl rfl rfl hl.1 (Nat.le_of_ble_eq_true rfl) dX3_noDate_24 ⟨Nat.zero_le _, Nat.zero_le _⟩ (fun H locs hP hD hS => ?_)
      exact wr_zret F hr hlocks (by rw [show kPrg d x = 0 from (by unfold kPrg; (repeat' split) <;> omega)]) (Or.inl rfl) (by rw [show kPrg d x = 0 from (by unfold kPrg; (repeat' split) <;> omega)]; exact hP) hS dX3_noDate_27

set_option maxHeartbeats 4000000 in
set_option maxRecDepth 100000 in
theorem mX3_programme (l : Launch) (G : gT) (sz0 : Nat) (A : Nat → Nat) (r0 : Int) (σ : Sg) (d x : Int) (hd : -2147483648 ≤ d ∧ d < 2147483648) (hx : -2147483648 ≤ x ∧ x < 2147483648) {n k N : Nat} (hI : Iv σ n k N) : Met l yX3_programme wsX3_programme { frames := 5, cells := 0, slots := 0, locals := 124 } (va_Pc [.ref (A 0), .int (iI d), .int (iI x)] (wB G (MW G A r0 σ) sz0)) (wI (if kPrg d x = 0 then ((prg σ n k d x : Nat) : Int) else 0) G (MW G A (kPrg d x) σ) (va_A (MW G A r0 σ) sz0)) 0 0 (va_A (MW G A r0 σ) sz0) := by
  refine wr_start (own := RX3) (cc := cX3_programme) (mL := 3) (ret := (some .int)) (Qc := fun AA => wI (if kPrg d x = 0 then ((prg σ n k d x : Nat) : Int) else 0) G (MW G A (kPrg d x) σ) AA) (by decide) rfl rfl (Nat.le_of_ble_eq_true rfl) ?_
  intro pP eE sS mM args bB meth cC ls AA F hr hlocks hin hK hsz0 hP hD hS hA hl
  obtain ⟨hn, hn12, hk, hk6, hsg, haw, hch, hch1, hch0, htn, hto, htz, hpr, hN, hpz, hle, hlz⟩ := id hI
  have hl : lv_has ls 3 [(0, .ref (A 0)), (1, .int (iI d)), (2, .int (iI x))] := hl
  refine lv_aload_n F.1 F.2.1 dX3_programme_0 rfl (lv_at hl 0 rfl) ?_
  refine lv_iload_n F.1 F.2.1 dX3_programme_1 rfl (lv_at hl 1 rfl) ?_
  refine lv_iload_n F.1 F.2.1 dX3_programme_2 rfl (lv_at hl 2 rfl) ?_
  refine wr_V F (n := 2) (w := MW G A r0 σ) (w' := MW G A (kPrg d x) σ) (wr := []) (ws2 := MW G A (kPrg d x) σ) (mX3_noDate l G sS.heap.size A r0 σ d x (by omega) (by omega) hI) gX3_programme_X3_noDate rfl rfl rfl (by decide +kernel) ⟨Nat.le_of_ble_eq_true rfl, Nat.le_of_ble_eq_true rfl⟩ hK hP hD hS hA (pm_nil _) (pm_nil' _) rfl (ci := 3) (q0 := 0) rfl rfl rfl rfl hl.1 (Nat.le_of_ble_eq_true rfl) dX3_programme_3 ⟨Nat.zero_le _, Nat.zero_le _⟩ (fun H locs hP hD hS => ?_)
  have hk01 := kPrg_01 d x
  refine k_if_eq F (tgt := 13) dX3_programme_6 (by decide) (by omega) (fun c_1 => ?_) (fun c_1 => ?_)
  · skip
    have hk9 := kPrg0 (d := d) (x := x) (by assumption)
    refine lv_aload_n F.1 F.2.1 dX3_programme_13 rfl (lv_at hl 0 rfl) ?_
    refine lv_iload_n F.1 F.2.1 dX3_programme_14 rfl (lv_at hl 1 rfl) ?_
    refine lv_iload_n F.1 F.2.1 dX3_programme_15 rfl (lv_at hl 2 rfl) ?_
    refine rd_V F (n := 2) (w0 := []) (mX3_planned l G A (kPrg d x) σ d x (by omega) hI) gX3_programme_X3_planned rfl rfl rfl (by decide +kernel) ⟨Nat.le_of_ble_eq_true rfl, Nat.le_of_ble_eq_true rfl⟩ hK hP (ci := 3) (q0 := 0) rfl rfl rfl rfl hl.1 (Nat.le_of_ble_eq_true rfl) dX3_programme_16 ⟨Nat.zero_le _, Nat.zero_le _⟩ ?_
    exact wr_ret F hr hlocks (by first | rw [if_pos (by assumption)] | rw [if_neg (by assumption)]) hP hS dX3_programme_19
  · skip
    refine k_iconst F dX3_programme_9 ?_
    refine lv_goto (tgt := 19) F.1 F.2.1 dX3_programme_10 (by decide) ?_
    exact wr_ret F hr hlocks (by first | rw [if_pos (by assumption)] | rw [if_neg (by assumption)]) hP hS dX3_programme_19

set_option maxHeartbeats 4000000 in
set_option maxRecDepth 100000 in
theorem mX3_duration (l : Launch) (G : gT) (sz0 : Nat) (A : Nat → Nat) (r0 : Int) (σ : Sg) (d x : Int) (hd : -2147483648 ≤ d ∧ d < 2147483648) (hx : -2147483648 ≤ x ∧ x < 2147483648) {n k N : Nat} (hI : Iv σ n k N) : Met l yX3_duration wsX3_duration { frames := 5, cells := 0, slots := 0, locals := 124 } (va_Pc [.ref (A 0), .int (iI d), .int (iI x)] (wB G (MW G A r0 σ) sz0)) (wI (if kPrg d x = 0 then lnS σ ((prg σ n k d x : Nat) : Int) k else 0) G (MW G A (kPrg d x) σ) (va_A (MW G A r0 σ) sz0)) 0 0 (va_A (MW G A r0 σ) sz0) := by
  refine wr_start (own := RX3) (cc := cX3_duration) (mL := 3) (ret := (some .int)) (Qc := fun AA => wI (if kPrg d x = 0 then lnS σ ((prg σ n k d x : Nat) : Int) k else 0) G (MW G A (kPrg d x) σ) AA) (by decide) rfl rfl (Nat.le_of_ble_eq_true rfl) ?_
  intro pP eE sS mM args bB meth cC ls AA F hr hlocks hin hK hsz0 hP hD hS hA hl
  obtain ⟨hn, hn12, hk, hk6, hsg, haw, hch, hch1, hch0, htn, hto, htz, hpr, hN, hpz, hle, hlz⟩ := id hI
  have hl : lv_has ls 3 [(0, .ref (A 0)), (1, .int (iI d)), (2, .int (iI x))] := hl
  refine lv_aload_n F.1 F.2.1 dX3_duration_0 rfl (lv_at hl 0 rfl) ?_
  refine lv_iload_n F.1 F.2.1 dX3_duration_1 rfl (lv_at hl 1 rfl) ?_
  refine lv_iload_n F.1 F.2.1 dX3_duration_2 rfl (lv_at hl 2 rfl) ?_
  refine wr_V F (n := 2) (w := MW G A r0 σ) (w' := MW G A (kPrg d x) σ) (wr := []) (ws2 := MW G A (kPrg d x) σ) (mX3_noDate l G sS.heap.size A r0 σ d x (by omega) (by omega) hI) gX3_duration_X3_noDate rfl rfl rfl (by decide +kernel) ⟨Nat.le_of_ble_eq_true rfl, Nat.le_of_ble_eq_true rfl⟩ hK hP hD hS hA (pm_nil _) (pm_nil' _) rfl (ci := 3) (q0 := 0) rfl rfl rfl rfl hl.1 (Nat.le_of_ble_eq_true rfl) dX3_duration_3 ⟨Nat.zero_le _, Nat.zero_le _⟩ (fun H locs hP hD hS => ?_)
  have hk01 := kPrg_01 d x
  refine k_if_eq F (tgt := 13) dX3_duration_6 (by decide) (by omega) (fun c_1 => ?_) (fun c_1 => ?_)
  · skip
    have hk9 := kPrg0 (d := d) (x := x) (by assumption)
    refine lv_aload_n F.1 F.2.1 dX3_duration_13 rfl (lv_at hl 0 rfl) ?_
    refine lv_aload_n F.1 F.2.1 dX3_duration_14 rfl (lv_at hl 0 rfl) ?_
    refine lv_iload_n F.1 F.2.1 dX3_duration_15 rfl (lv_at hl 1 rfl) ?_
    refine lv_iload_n F.1 F.2.1 dX3_duration_16 rfl (lv_at hl 2 rfl) ?_
    refine rd_V F (n := 2) (w0 := []) (mX3_planned l G A (kPrg d x) σ d x (by omega) hI) gX3_duration_X3_planned rfl rfl rfl (by decide +kernel) ⟨Nat.le_of_ble_eq_true rfl, Nat.le_of_ble_eq_true rfl⟩ hK hP (ci := 3) (q0 := 0) rfl rfl rfl rfl hl.1 (Nat.le_of_ble_eq_true rfl) dX3_duration_17 ⟨Nat.zero_le _, Nat.zero_le _⟩ ?_
    refine rd_V F (n := 1) (w0 := []) (mX3_lengthOf l G A (kPrg d x) σ ((bsS σ k (cnS σ n d k) x (2 ^ k - 1) : Nat) : Int) hI) gX3_duration_X3_lengthOf rfl rfl rfl (by decide +kernel) ⟨Nat.le_of_ble_eq_true rfl, Nat.le_of_ble_eq_true rfl⟩ hK hP (ci := 3) (q0 := 0) rfl rfl rfl rfl hl.1 (Nat.le_of_ble_eq_true rfl) dX3_duration_20 ⟨Nat.zero_le _, Nat.zero_le _⟩ ?_
    exact wr_ret F hr hlocks (by first | rw [if_pos (by assumption)] | rw [if_neg (by assumption)]) hP hS dX3_duration_23
  · skip
    refine k_iconst F dX3_duration_9 ?_
    refine lv_goto (tgt := 23) F.1 F.2.1 dX3_duration_10 (by decide) ?_
    exact wr_ret F hr hlocks (by first | rw [if_pos (by assumption)] | rw [if_neg (by assumption)]) hP hS dX3_duration_23

set_option maxHeartbeats 4000000 in
set_option maxRecDepth 100000 in
theorem mX3_rehearse (l : Launch) (G : gT) (sz0 : Nat) (A : Nat → Nat) (r0 : Int) (σ : Sg) (x t : Int) (hx : -2147483648 ≤ x ∧ x < 2147483648) (ht : -2147483648 ≤ t ∧ t < 2147483648) {n k N : Nat} (hI : Iv σ n k N) (hN5 : N ≤ 512) : Met l yX3_rehearse wsX3_rehearse { frames := 5, cells := 0, slots := 0, locals := 122 } (va_Pc [.ref (A 0), .int (iI x), .int (iI t)] (wB G (MW G A r0 σ) sz0)) (wI (if kReh σ x t = 0 then wsm (rhS σ x.toNat t.toNat) x.toNat ((rhS σ x.toNat t.toNat) 8 x.toNat 0).toNat else 0) G (MW G A (kReh σ x t) (if kReh σ x t = 0 then (rhS σ x.toNat t.toNat) else σ)) (va_A (MW G A r0 σ) sz0)) 0 0 (va_A (MW G A r0 σ) sz0) := by
  refine wr_start (own := RX3) (cc := cX3_rehearse) (mL := 5) (ret := (some .int)) (Qc := fun AA => wI (if kReh σ x t = 0 then wsm (rhS σ x.toNat t.toNat) x.toNat ((rhS σ x.toNat t.toNat) 8 x.toNat 0).toNat else 0) G (MW G A (kReh σ x t) (if kReh σ x t = 0 then (rhS σ x.toNat t.toNat) else σ)) AA) (by decide) rfl rfl (Nat.le_of_ble_eq_true rfl) ?_
  intro pP eE sS mM args bB meth cC ls AA F hr hlocks hin hK hsz0 hP hD hS hA hl
  obtain ⟨hn, hn12, hk, hk6, hsg, haw, hch, hch1, hch0, htn, hto, htz, hpr, hN, hpz, hle, hlz⟩ := id hI
  have iX3 : ∀ x ∈ wsX30, x ∈ wsX3_rehearse := by decide +kernel
  have f25 := k_cond F (w := .fieldLink RX3 25 "ChoirPlannerModel" "chords" "[I") (by decide +kernel)
  have f31 := k_cond F (w := .fieldLink RX3 31 "ChoirPlannerModel" "practice" "[I") (by decide +kernel)
  have hl : lv_has ls 5 [(0, .ref (A 0)), (1, .int (iI x)), (2, .int (iI t))] := hl
  refine lv_aload_n F.1 F.2.1 dX3_rehearse_0 rfl (lv_at hl 0 rfl) ?_
  refine lv_aload_n F.1 F.2.1 dX3_rehearse_1 rfl (lv_at hl 0 rfl) ?_
  refine lv_iload_n F.1 F.2.1 dX3_rehearse_2 rfl (lv_at hl 1 rfl) ?_
  refine rd_V F (n := 1) (w0 := []) (mX3_isPiece l G A r0 σ x (by omega) hI) gX3_rehearse_X3_isPiece rfl rfl rfl (by decide +kernel) ⟨Nat.le_of_ble_eq_true rfl, Nat.le_of_ble_eq_true rfl⟩ hK hP (ci := 3) (q0 := 0) rfl rfl rfl rfl hl.1 (Nat.le_of_ble_eq_true rfl) dX3_rehearse_3 ⟨Nat.zero_le _, Nat.zero_le _⟩ ?_
  refine k_ifb_ne F (tgt := 13) dX3_rehearse_6 (by decide) (fun c_1 => ?_) (fun c_1 => ?_)
  · skip
    refine lv_iload_n F.1 F.2.1 dX3_rehearse_13 rfl (lv_at hl 2 rfl) ?_
    refine k_iconst F dX3_rehearse_14 ?_
    refine k_bipush F dX3_rehearse_15 (by decide +kernel) ?_
    refine rd_S F (n := 3) (w0 := []) (mX3_in l G (MW G A r0 σ) t 1 30 (by omega) (by decide) (by decide)) gX3_rehearse_X3_in rfl rfl rfl (by decide +kernel) ⟨Nat.le_of_ble_eq_true rfl, Nat.le_of_ble_eq_true rfl⟩ hK hP rfl rfl hl.1 (Nat.le_of_ble_eq_true rfl) dX3_rehearse_17 ⟨Nat.zero_le _, Nat.zero_le _⟩ ?_
    refine k_ifb_eq F (tgt := 27) dX3_rehearse_20 (by decide) (fun c_2 => ?_) (fun c_2 => ?_)
    · skip
      refine k_iconst F dX3_rehearse_27 ?_
      refine wr_V F (n := 1) (w := MW G A r0 σ) (w' := MW G A 2 σ) (wr := []) (ws2 := MW G A 2 σ) (mX3_refused l G sS.heap.size A r0 σ 2 1 (by decide) (by decide +kernel)) gX3_rehearse_X3_refused rfl rfl rfl (by decide +kernel) ⟨Nat.le_of_ble_eq_true rfl, Nat.le_of_ble_eq_true rfl⟩ hK hP hD hS hA (pm_nil _) (pm_nil' _) rfl (ci := 3) (q0 := 0) rfl rfl rfl rfl hl.1 (Nat.le_of_ble_eq_true rfl) dX3_rehearse_28 ⟨Nat.zero_le _, Nat.zero_le _⟩ (fun H locs hP hD hS => ?_)
      refine k_if_eq F (tgt := 36) dX3_rehearse_31 (by decide) (by decide) (fun c_3 => absurd c_3 (by omega)) (fun c_3 => ?_)
      refine k_iconst F dX3_rehearse_34 ?_
      exact wr_ret F hr hlocks (by rw [show kReh σ x t = 2 from (by unfold kReh; (repeat' split) <;> omega), if_neg (by decide)]) (by rw [show kReh σ x t = 2 from (by unfold kReh; (repeat' split) <;> omega), if_neg (by decide)]; exact hP) hS dX3_rehearse_35
    · skip
      refine k_iconst F dX3_rehearse_23 ?_
      refine lv_goto (tgt := 28) F.1 F.2.1 dX3_rehearse_24 (by decide) ?_
      refine wr_V F (n := 1) (w := MW G A r0 σ) (w' := MW G A 0 σ) (wr := []) (ws2 := MW G A 0 σ) (mX3_refused l G sS.heap.size A r0 σ 0 0 (by decide) (by decide +kernel)) gX3_rehearse_X3_refused rfl rfl rfl (by decide +kernel) ⟨Nat.le_of_ble_eq_true rfl, Nat.le_of_ble_eq_true rfl⟩ hK hP hD hS hA (pm_nil _) (pm_nil' _) rfl (ci := 3) (q0 := 0) rfl rfl rfl rfl hl.1 (Nat.le_of_ble_eq_true rfl) dX3_rehearse_28 ⟨Nat.zero_le _, Nat.zero_le _⟩ (fun H locs hP hD hS => ?_)
      refine k_if_eq F (tgt := 36) dX3_rehearse_31 (by decide) (by decide) (fun c_4 => ?_) (fun c_4 => absurd c_4 (by omega))
      have hK0 : kReh σ x t = 0 := (by unfold kReh; (repeat' split) <;> omega)
      obtain ⟨i, rfl⟩ : ∃ i : Nat, x = (i : Int) := ⟨x.toNat, by omega⟩
      obtain ⟨T, rfl⟩ : ∃ T : Nat, t = (T : Int) := ⟨t.toNat, by omega⟩
      have hIR := fun (q : Nat) (hq : q ≤ 30) => Iv_rhS hI hN5 (i := i) (by omega) q hq
      refine k_iconst F dX3_rehearse_36 ?_
      refine lv_istore_n (lv' := [(3, .int (iI 0)), (0, .ref (A 0)), (1, .int (iI (i : Int))), (2, .int (iI (T : Int)))]) F.1 F.2.1 dX3_rehearse_37 rfl hl (by decide) rfl (fun ls hl => ?_)
      have J_5 : ∀ q : Nat, q ≤ T → ∀ (H : Heap) (locs : List Loc), gP G (MW G A (0) (rhS σ i q)) H → va_D AA (MW G A (0) (rhS σ i q)) → va_S AA sS.heap H locs → ∀ ls : Array Slot, lv_has ls 5 [(3, .int (iI (q : Int))), (0, .ref (A 0)), (1, .int (iI (i : Int))), (2, .int (iI (T : Int)))] → W pP l eE ({ frames := 5, cells := 0, slots := 0, locals := 122 }) sS mM args bB meth cC H locs 0 0 (MQ bB (wI (if kReh σ (i : Int) (T : Int) = 0 then wsm (rhS σ (i : Int).toNat (T : Int).toNat) (i : Int).toNat ((rhS σ (i : Int).toNat (T : Int).toNat) 8 (i : Int).toNat 0).toNat else 0) G (MW G A (kReh σ (i : Int) (T : Int)) (if kReh σ (i : Int) (T : Int) = 0 then (rhS σ (i : Int).toNat (T : Int).toNat) else σ)) AA) args sS 0 0 AA) (F0 mM 38 ls []) := by
        refine lp_up (T) ?_ ?_
        · intro H locs hP hD hS ls hl
          refine lv_iload_n F.1 F.2.1 dX3_rehearse_38 rfl (lv_at hl 0 rfl) ?_
          refine lv_iload_n F.1 F.2.1 dX3_rehearse_39 rfl (lv_at hl 3 rfl) ?_
          refine k_icmp_ge F (tgt := 68) dX3_rehearse_40 (by decide) (by omega) (by omega) (fun c_7 => ?_) (fun c_7 => absurd c_7 (by omega))
          refine k_iconst F dX3_rehearse_68 ?_
          refine lv_istore_n (lv' := [(3, .int (iI 0)), (0, .ref (A 0)), (1, .int (iI (i : Int))), (2, .int (iI (T : Int)))]) F.1 F.2.1 dX3_rehearse_69 rfl hl (by decide) rfl (fun ls hl => ?_)
          refine k_iconst F dX3_rehearse_70 ?_
          refine lv_istore (lv' := [(4, .int (iI 0)), (3, .int (iI 0)), (0, .ref (A 0)), (1, .int (iI (i : Int))), (2, .int (iI (T : Int)))]) F.1 F.2.1 dX3_rehearse_71 hl (by decide) rfl (fun ls hl => ?_)
          have bz := Iv_ch (hIR T (by omega)).1 i
          have J_8 : ∀ c : Nat, c ≤ ((rhS σ i T) 8 i 0).toNat → ∀ (H : Heap) (locs : List Loc), gP G (MW G A (0) (rhS σ i T)) H → va_D AA (MW G A (0) (rhS σ i T)) → va_S AA sS.heap H locs → ∀ ls : Array Slot, lv_has ls 5 [(3, .int (iI (wsm (rhS σ i T) i c))), (4, .int (iI (c : Int))), (0, .ref (A 0)), (1, .int (iI (i : Int))), (2, .int (iI (T : Int)))] → W pP l eE ({ frames := 5, cells := 0, slots := 0, locals := 122 }) sS mM args bB meth cC H locs 0 0 (MQ bB (wI (if kReh σ (i : Int) (T : Int) = 0 then wsm (rhS σ (i : Int).toNat (T : Int).toNat) (i : Int).toNat ((rhS σ (i : Int).toNat (T : Int).toNat) 8 (i : Int).toNat 0).toNat else 0) G (MW G A (kReh σ (i : Int) (T : Int)) (if kReh σ (i : Int) (T : Int) = 0 then (rhS σ (i : Int).toNat (T : Int).toNat) else σ)) AA) args sS 0 0 AA) (F0 mM 73 ls []) := by
            refine lp_up (((rhS σ i T) 8 i 0).toNat) ?_ ?_
            · intro H locs hP hD hS ls hl
              refine lv_iload F.1 F.2.1 dX3_rehearse_73 (lv_at hl 1 rfl) ?_
              refine lv_aload_n F.1 F.2.1 dX3_rehearse_75 rfl (lv_at hl 2 rfl) ?_
              refine k_get F hK hP iX3 0 rfl rfl 8 (by decide) f25 rfl rfl dX3_rehearse_76 ?_
              refine lv_iload_n F.1 F.2.1 dX3_rehearse_79 rfl (lv_at hl 3 rfl) ?_
              refine k_iald F hK hP 6 rfl i (by omega) (by omega) (by decide) rfl dX3_rehearse_80 ?_
              refine k_icmp_ge F (tgt := 100) dX3_rehearse_81 (by decide) (by omega) (by omega) (fun c_10 => ?_) (fun c_10 => absurd c_10 (by omega))
              refine lv_iload_n F.1 F.2.1 dX3_rehearse_100 rfl (lv_at hl 0 rfl) ?_
              exact wr_ret F hr hlocks (by rw [hK0, if_pos rfl]; rfl) (by rw [hK0, if_pos rfl]; exact hP) hS dX3_rehearse_101
            · intro c hk9 ih H locs hP hD hS ls hl
              refine lv_iload F.1 F.2.1 dX3_rehearse_73 (lv_at hl 1 rfl) ?_
              refine lv_aload_n F.1 F.2.1 dX3_rehearse_75 rfl (lv_at hl 2 rfl) ?_
              refine k_get F hK hP iX3 0 rfl rfl 8 (by decide) f25 rfl rfl dX3_rehearse_76 ?_
              refine lv_iload_n F.1 F.2.1 dX3_rehearse_79 rfl (lv_at hl 3 rfl) ?_
              refine k_iald F hK hP 6 rfl i (by omega) (by omega) (by decide) rfl dX3_rehearse_80 ?_
              refine k_icmp_ge F (tgt := 100) dX3_rehearse_81 (by decide) (by omega) (by omega) (fun c_11 => absurd c_11 (by omega)) (fun c_11 => ?_)
              refine lv_iload_n F.1 F.2.1 dX3_rehearse_84 rfl (lv_at hl 0 rfl) ?_
              refine lv_aload_n F.1 F.2.1 dX3_rehearse_85 rfl (lv_at hl 2 rfl) ?_
              refine lv_iload_n F.1 F.2.1 dX3_rehearse_86 rfl (lv_at hl 3 rfl) ?_
              refine lv_iload F.1 F.2.1 dX3_rehearse_87 (lv_at hl 1 rfl) ?_
              refine rd_V F (n := 2) (w0 := []) (mX3_weaknessOf l G A 0 (rhS σ i T) i c (by omega) (by omega) (hIR T (by omega)).1) gX3_rehearse_X3_weaknessOf rfl rfl rfl (by decide +kernel) ⟨Nat.le_of_ble_eq_true rfl, Nat.le_of_ble_eq_true rfl⟩ hK hP (ci := 3) (q0 := 0) rfl rfl rfl rfl hl.1 (Nat.le_of_ble_eq_true rfl) dX3_rehearse_89 ⟨Nat.zero_le _, Nat.zero_le _⟩ ?_
              refine k_iadd F rfl dX3_rehearse_92 ?_
              refine lv_istore_n (lv' := [(3, .int (iI ((wsm (rhS σ i T) i c) + (wkS (rhS σ i T) i c)))), (4, .int (iI (c : Int))), (0, .ref (A 0)), (1, .int (iI (i : Int))), (2, .int (iI (T : Int)))]) F.1 F.2.1 dX3_rehearse_93 rfl hl (by decide) rfl (fun ls hl => ?_)
              refine lv_iinc (v := iI ((c : Int) + 1)) (lv' := [(4, .int (iI ((c : Int) + 1))), (3, .int (iI ((wsm (rhS σ i T) i c) + (wkS (rhS σ i T) i c)))), (0, .ref (A 0)), (1, .int (iI (i : Int))), (2, .int (iI (T : Int)))]) F.1 F.2.1 dX3_rehearse_94 hl (k := 1) rfl (iI_add _ _) (by decide) rfl (fun ls hl => ?_)
              refine lv_goto (tgt := 73) F.1 F.2.1 dX3_rehearse_97 (by decide) ?_
              have e_12 : (((wsm (rhS σ i T) i c) + (wkS (rhS σ i T) i c)) : Int) = (wsm (rhS σ i T) i (c + 1)) := rfl
              have e_13 : (((c : Int) + 1) : Int) = ((c + 1 : Nat) : Int) := rfl
              exact ih _ _ hP (D_too (w' := MW G A (0) (rhS σ i T)) hD rfl) hS _ (lv_to (lv_to (lv_sub hl [1, 0, 2, 3, 4] rfl) (congrArg (fun x9 : Int => ([(3, .int (iI x9)), (4, .int (iI ((c : Int) + 1))), (0, .ref (A 0)), (1, .int (iI (i : Int))), (2, .int (iI (T : Int)))] : List (Nat × Value))) e_12)) (congrArg (fun x9 : Int => ([(3, .int (iI (wsm (rhS σ i T) i (c + 1)))), (4, .int (iI x9)), (0, .ref (A 0)), (1, .int (iI (i : Int))), (2, .int (iI (T : Int)))] : List (Nat × Value))) e_13))
          have e_14 : (0 : Int) = (wsm (rhS σ i T) i 0) := rfl
          have e_15 : (0 : Int) = ((0 : Nat) : Int) := rfl
          exact J_8 0 (by omega) _ _ hP (D_too (w' := MW G A (0) (rhS σ i T)) hD rfl) hS _ (lv_to (lv_to (lv_sub hl [1, 0, 2, 3, 4] rfl) (congrArg (fun x9 : Int => ([(3, .int (iI x9)), (4, .int (iI 0)), (0, .ref (A 0)), (1, .int (iI (i : Int))), (2, .int (iI (T : Int)))] : List (Nat × Value))) e_14)) (congrArg (fun x9 : Int => ([(3, .int (iI (wsm (rhS σ i T) i 0))), (4, .int (iI x9)), (0, .ref (A 0)), (1, .int (iI (i : Int))), (2, .int (iI (T : Int)))] : List (Nat × Value))) e_15))
        · intro q hk9 ih H locs hP hD hS ls hl
          have bz := Iv_ch (hIR q (by omega)).1 i
          have bw : wkq (rhS σ i q) i ≤ ((rhS σ i q) 8 i 0).toNat - 1 := wkt_le (rhS σ i q) i (((rhS σ i q) 8 i 0).toNat - 1)
          refine lv_iload_n F.1 F.2.1 dX3_rehearse_38 rfl (lv_at hl 0 rfl) ?_
          refine lv_iload_n F.1 F.2.1 dX3_rehearse_39 rfl (lv_at hl 3 rfl) ?_
          refine k_icmp_ge F (tgt := 68) dX3_rehearse_40 (by decide) (by omega) (by omega) (fun c_16 => absurd c_16 (by omega)) (fun c_16 => ?_)
          refine lv_aload_n F.1 F.2.1 dX3_rehearse_43 rfl (lv_at hl 1 rfl) ?_
          refine k_get F hK hP iX3 0 rfl rfl 10 (by decide) f31 rfl rfl dX3_rehearse_44 ?_
          refine k_bipush F dX3_rehearse_47 (by decide +kernel) ?_
          refine lv_iload_n F.1 F.2.1 dX3_rehearse_49 rfl (lv_at hl 2 rfl) ?_
          refine k_imul F rfl dX3_rehearse_50 ?_
          refine lv_aload_n F.1 F.2.1 dX3_rehearse_51 rfl (lv_at hl 1 rfl) ?_
          refine lv_iload_n F.1 F.2.1 dX3_rehearse_52 rfl (lv_at hl 2 rfl) ?_
          refine rd_V F (n := 1) (w0 := []) (mX3_weakestOf l G A 0 (rhS σ i q) i (by omega) (hIR q (by omega)).1) gX3_rehearse_X3_weakestOf rfl rfl rfl (by decide +kernel) ⟨Nat.le_of_ble_eq_true rfl, Nat.le_of_ble_eq_true rfl⟩ hK hP (ci := 3) (q0 := 0) rfl rfl rfl rfl hl.1 (Nat.le_of_ble_eq_true rfl) dX3_rehearse_53 ⟨Nat.zero_le _, Nat.zero_le _⟩ ?_
          refine k_iadd F rfl dX3_rehearse_56 ?_
          refine lv_dup2_11 F.1 F.2.1 dX3_rehearse_57 rfl rfl ?_
          refine k_iald F hK hP 8 rfl (16 * i + wkq (rhS σ i q) i) (by omega) (by omega) (by decide) (pr_ix (rhS σ i q) i _ (by omega)) dX3_rehearse_58 ?_
          refine k_iconst F dX3_rehearse_59 ?_
          refine k_iadd F rfl dX3_rehearse_60 ?_
          refine k_iast F hK hP hD hS 8 rfl (16 * i + wkq (rhS σ i q) i) (by omega) (by omega) (by decide) dX3_rehearse_61 (fun H locs hP hD hS => ?_)
          have hP : gP G ([(A 0, .inr (3, [.int (iI 0), .int (iI ((rhS σ i q) 1 0 0)), .ref (A 1), .ref (A 2), .ref (A 3), .ref (A 4), .int (iI ((rhS σ i q) 2 0 0)), .ref (A 5), .ref (A 6), .ref (A 7), .ref (A 8)])), (A 1, .inl (G.2.1, 12, .inl (ia ((rhS σ i q) 3 0)))), (A 2, .inl (G.2.1, 12, .inl (ia ((rhS σ i q) 4 0)))), (A 3, .inl (G.2.1, 12, .inl (ia ((rhS σ i q) 5 0)))), (A 4, .inl (G.2.1, 12, .inl (ia ((rhS σ i q) 6 0)))), (A 5, .inl (G.2.1, 448, .inl (ia (fun q9 => (rhS σ i q) 7 (q9 / 64) (q9 % 64))))), (A 6, .inl (G.2.1, 7, .inl (ia (fun q9 => (rhS σ i q) 8 q9 0)))), (A 7, .inl (G.2.1, 6, .inl (ia (fun q9 => (rhS σ i q) 9 q9 0)))), (A 8, .inl (G.2.1, 96, .inl (ia (uI (fun q9 => (rhS σ i q) 10 (q9 / 16) (q9 % 16)) (16 * i + wkq (rhS σ i q) i) (((rhS σ i q) 10 i (wkq (rhS σ i q) i)) + 4)))))]) H := hP
          have hD : va_D AA ([(A 0, .inr (3, [.int (iI 0), .int (iI ((rhS σ i q) 1 0 0)), .ref (A 1), .ref (A 2), .ref (A 3), .ref (A 4), .int (iI ((rhS σ i q) 2 0 0)), .ref (A 5), .ref (A 6), .ref (A 7), .ref (A 8)])), (A 1, .inl (G.2.1, 12, .inl (ia ((rhS σ i q) 3 0)))), (A 2, .inl (G.2.1, 12, .inl (ia ((rhS σ i q) 4 0)))), (A 3, .inl (G.2.1, 12, .inl (ia ((rhS σ i q) 5 0)))), (A 4, .inl (G.2.1, 12, .inl (ia ((rhS σ i q) 6 0)))), (A 5, .inl (G.2.1, 448, .inl (ia (fun q9 => (rhS σ i q) 7 (q9 / 64) (q9 % 64))))), (A 6, .inl (G.2.1, 7, .inl (ia (fun q9 => (rhS σ i q) 8 q9 0)))), (A 7, .inl (G.2.1, 6, .inl (ia (fun q9 => (rhS σ i q) 9 q9 0)))), (A 8, .inl (G.2.1, 96, .inl (ia (uI (fun q9 => (rhS σ i q) 10 (q9 / 16) (q9 % 16)) (16 * i + wkq (rhS σ i q) i) (((rhS σ i q) 10 i (wkq (rhS σ i q) i)) + 4)))))]) := hD
          refine lv_iinc (v := iI ((q : Int) + 1)) (lv' := [(3, .int (iI ((q : Int) + 1))), (0, .ref (A 0)), (1, .int (iI (i : Int))), (2, .int (iI (T : Int)))]) F.1 F.2.1 dX3_rehearse_62 hl (k := 0) rfl (iI_add _ _) (by decide) rfl (fun ls hl => ?_)
          refine lv_goto (tgt := 38) F.1 F.2.1 dX3_rehearse_65 (by decide) ?_
          have e_17 : (((q : Int) + 1) : Int) = ((q + 1 : Nat) : Int) := rfl
          exact ih _ _ (MW_of rfl rfl rfl rfl rfl rfl rfl rfl rfl (fl10e _ _ _ _ (by omega) (by omega)) hP) (D_too (w' := MW G A (0) (rhS σ i (q + 1))) hD rfl) hS _ (lv_to (lv_sub hl [0, 1, 2, 3] rfl) (congrArg (fun x9 : Int => ([(3, .int (iI x9)), (0, .ref (A 0)), (1, .int (iI (i : Int))), (2, .int (iI (T : Int)))] : List (Nat × Value))) e_17))
      have e_18 : (0 : Int) = ((0 : Nat) : Int) := rfl
      exact J_5 0 (by omega) _ _ hP (D_too (w' := MW G A (0) (rhS σ i 0)) hD rfl) hS _ (lv_to (lv_sub hl [0, 1, 2, 3] rfl) (congrArg (fun x9 : Int => ([(3, .int (iI x9)), (0, .ref (A 0)), (1, .int (iI (i : Int))), (2, .int (iI (T : Int)))] : List (Nat × Value))) e_18))
  · skip
    refine k_iconst F dX3_rehearse_9 ?_
    refine lv_goto (tgt := 28) F.1 F.2.1 dX3_rehearse_10 (by decide) ?_
    refine wr_V F (n := 1) (w := MW G A r0 σ) (w' := MW G A 1 σ) (wr := []) (ws2 := MW G A 1 σ) (mX3_refused l G sS.heap.size A r0 σ 1 1 (by decide) (by decide +kernel)) gX3_rehearse_X3_refused rfl rfl rfl (by decide +kernel) ⟨Nat.le_of_ble_eq_true rfl, Nat.le_of_ble_eq_true rfl⟩ hK hP hD hS hA (pm_nil _) (pm_nil' _) rfl (ci := 3) (q0 := 0) rfl rfl rfl rfl hl.1 (Nat.le_of_ble_eq_true rfl) dX3_rehearse_28 ⟨Nat.zero_le _, Nat.zero_le _⟩ (fun H locs hP hD hS => ?_)
    refine k_if_eq F (tgt := 36) dX3_rehearse_31 (by decide) (by decide) (fun c_19 => absurd c_19 (by omega)) (fun c_19 => ?_)
    refine k_iconst F dX3_rehearse_34 ?_
    exact wr_ret F hr hlocks (by rw [show kReh σ x t = 1 from (by unfold kReh; (repeat' split) <;> omega), if_neg (by decide)]) (by rw [show kReh σ x t = 1 from (by unfold kReh; (repeat' split) <;> omega), if_neg (by decide)]; exact hP) hS dX3_rehearse_35
