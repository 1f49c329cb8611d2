set_option maxHeartbeats 4000000 in
set_option maxRecDepth 100000 in
theorem mX3_fits (l : Launch) (G : gT) (A : Nat → Nat) (r0 : Int) (σ : Sg) (i : Nat) (d x : Int) (hi : i ≤ 6) (hx : -12 ≤ x ∧ x ≤ 12) {n k N : Nat} (hI : Iv σ n k N) : Met l yX3_fits wsX3_fits { frames := 2, cells := 0, slots := 0, locals := 47 } (va_Pc [.ref (A 0), .int (iI (i : Int)), .int (iI d), .int (iI x)] (rB G (MW G A r0 σ))) (oI (bI (ftv σ i n d x 4 = true))) 0 0 (fun _ => False) := by
  refine rd_start (own := RX3) (cc := cX3_fits) (mL := 9) (ret := (some .boolean)) (by decide) rfl rfl (Nat.le_of_ble_eq_true rfl) ?_
  intro pP eE sS mM args bB meth cC ls F hr hlocks hP hK hl
  obtain ⟨hn, hn12, hk, hk6, hsg, haw, hch, hch1, hch0, htn, hto, htz, hpr, hN, hpz, hle, hlz⟩ := id hI
  have hci := hch i
  have iX3 : ∀ x ∈ wsX30, x ∈ wsX3_fits := by decide +kernel
  have f25 := k_cond F (w := .fieldLink RX3 25 "ChoirPlannerModel" "chords" "[I") (by decide +kernel)
  have hl : lv_has ls 9 [(0, .ref (A 0)), (1, .int (iI (i : Int))), (2, .int (iI d)), (3, .int (iI x))] := hl
  refine k_iconst F dX3_fits_0 ?_
  refine lv_istore (lv' := [(4, .int (iI 1)), (0, .ref (A 0)), (1, .int (iI (i : Int))), (2, .int (iI d)), (3, .int (iI x))]) F.1 F.2.1 dX3_fits_1 hl (by decide) rfl (fun ls hl => ?_)
  refine k_iconst F dX3_fits_3 ?_
  refine lv_istore (lv' := [(5, .int (iI 0)), (4, .int (iI 1)), (0, .ref (A 0)), (1, .int (iI (i : Int))), (2, .int (iI d)), (3, .int (iI x))]) F.1 F.2.1 dX3_fits_4 hl (by decide) rfl (fun ls hl => ?_)
  have J_1 : ∀ v : Nat, v ≤ 4 → ∀ ls : Array Slot, lv_has ls 9 [(4, .int (iI (bI (ftv σ i n d x v = true)))), (5, .int (iI (v : Int))), (0, .ref (A 0)), (1, .int (iI (i : Int))), (2, .int (iI d)), (3, .int (iI x))] → W pP l eE ({ frames := 2, cells := 0, slots := 0, locals := 47 }) sS mM args bB meth cC sS.heap [] 0 0 (MQ bB (oI (bI (ftv σ i n d x 4 = true))) args sS 0 0 (fun _ => False)) (F0 mM 6 ls []) := by
    refine lp_up (4) ?_ ?_
    · intro ls hl
      refine lv_iload F.1 F.2.1 dX3_fits_6 (lv_at hl 1 rfl) ?_
      refine k_iconst F dX3_fits_8 ?_
      refine k_icmp_ge F (tgt := 89) dX3_fits_9 (by decide) (by omega) (by decide) (fun c_3 => ?_) (fun c_3 => absurd c_3 (by omega))
      refine lv_iload F.1 F.2.1 dX3_fits_89 (lv_at hl 0 rfl) ?_
      exact k_zret F hr hlocks rfl (bI_01 _) dX3_fits_91
    · intro v hk9 ih ls hl
      have bf := foM_rg (σ := σ) (v := v) (d := d) (n := n) (fun j hj => by have := hsg j hj; omega)
      have bl := laA_rg (σ := σ) (v := v) (d := d) (n := n) (fun j hj => by have := hsg j hj; omega) n (Nat.le_refl n)
      refine lv_iload F.1 F.2.1 dX3_fits_6 (lv_at hl 1 rfl) ?_
      refine k_iconst F dX3_fits_8 ?_
      refine k_icmp_ge F (tgt := 89) dX3_fits_9 (by decide) (by omega) (by decide) (fun c_4 => absurd c_4 (by omega)) (fun c_4 => ?_)
      refine lv_aload_n F.1 F.2.1 dX3_fits_12 rfl (lv_at hl 2 rfl) ?_
      refine lv_iload F.1 F.2.1 dX3_fits_13 (lv_at hl 1 rfl) ?_
      refine lv_iload_n F.1 F.2.1 dX3_fits_15 rfl (lv_at hl 4 rfl) ?_
      refine rd_V F (n := 2) (w0 := []) (mX3_firstOf l G A r0 σ (v : Int) d (by omega) hI) gX3_fits_X3_firstOf rfl rfl rfl (by decide +kernel) ⟨Nat.le_of_ble_eq_true rfl, Nat.le_of_ble_eq_true rfl⟩ hK hP (ci := 3) (q0 := 0) rfl rfl rfl rfl hl.1 (Nat.le_of_ble_eq_true rfl) dX3_fits_16 ⟨Nat.zero_le _, Nat.zero_le _⟩ ?_
      refine lv_istore (lv' := [(6, .int (iI (foM σ (v : Int) d n))), (4, .int (iI (bI (ftv σ i n d x v = true)))), (5, .int (iI (v : Int))), (0, .ref (A 0)), (1, .int (iI (i : Int))), (2, .int (iI d)), (3, .int (iI x))]) F.1 F.2.1 dX3_fits_19 hl (by decide) rfl (fun ls hl => ?_)
      refine lv_aload_n F.1 F.2.1 dX3_fits_21 rfl (lv_at hl 3 rfl) ?_
      refine lv_iload F.1 F.2.1 dX3_fits_22 (lv_at hl 2 rfl) ?_
      refine lv_iload_n F.1 F.2.1 dX3_fits_24 rfl (lv_at hl 5 rfl) ?_
      refine rd_V F (n := 2) (w0 := []) (mX3_lastOf l G A r0 σ (v : Int) d (by omega) hI) gX3_fits_X3_lastOf rfl rfl rfl (by decide +kernel) ⟨Nat.le_of_ble_eq_true rfl, Nat.le_of_ble_eq_true rfl⟩ hK hP (ci := 3) (q0 := 0) rfl rfl rfl rfl hl.1 (Nat.le_of_ble_eq_true rfl) dX3_fits_25 ⟨Nat.zero_le _, Nat.zero_le _⟩ ?_
      refine lv_istore (lv' := [(7, .int (iI (laA σ (v : Int) d n))), (6, .int (iI (foM σ (v : Int) d n))), (4, .int (iI (bI (ftv σ i n d x v = true)))), (5, .int (iI (v : Int))), (0, .ref (A 0)), (1, .int (iI (i : Int))), (2, .int (iI d)), (3, .int (iI x))]) F.1 F.2.1 dX3_fits_28 hl (by decide) rfl (fun ls hl => ?_)
      refine k_iconst F dX3_fits_30 ?_
      refine lv_istore (lv' := [(8, .int (iI 0)), (7, .int (iI (laA σ (v : Int) d n))), (6, .int (iI (foM σ (v : Int) d n))), (4, .int (iI (bI (ftv σ i n d x v = true)))), (5, .int (iI (v : Int))), (0, .ref (A 0)), (1, .int (iI (i : Int))), (2, .int (iI d)), (3, .int (iI x))]) F.1 F.2.1 dX3_fits_31 hl (by decide) rfl (fun ls hl => ?_)
      have J_5 : ∀ c : Nat, c ≤ (σ 8 i 0).toNat → ∀ ls : Array Slot, lv_has ls 9 [(8, .int (iI (c : Int))), (4, .int (iI (bI (ftc σ i v x (foM σ v d n) (laA σ v d n) (ftv σ i n d x v) c = true)))), (7, .int (iI (laA σ (v : Int) d n))), (6, .int (iI (foM σ (v : Int) d n))), (5, .int (iI (v : Int))), (0, .ref (A 0)), (1, .int (iI (i : Int))), (2, .int (iI d)), (3, .int (iI x))] → W pP l eE ({ frames := 2, cells := 0, slots := 0, locals := 47 }) sS mM args bB meth cC sS.heap [] 0 0 (MQ bB (oI (bI (ftv σ i n d x 4 = true))) args sS 0 0 (fun _ => False)) (F0 mM 33 ls []) := by
        refine lp_up ((σ 8 i 0).toNat) ?_ ?_
        · intro ls hl
          refine lv_iload F.1 F.2.1 dX3_fits_33 (lv_at hl 0 rfl) ?_
          refine lv_aload_n F.1 F.2.1 dX3_fits_35 rfl (lv_at hl 5 rfl) ?_
          refine k_get F hK hP iX3 0 rfl rfl 8 (by decide) f25 rfl rfl dX3_fits_36 ?_
          refine lv_iload_n F.1 F.2.1 dX3_fits_39 rfl (lv_at hl 6 rfl) ?_
          refine k_iald F hK hP 6 rfl i (by omega) (by omega) (by decide) rfl dX3_fits_40 ?_
          refine k_icmp_ge F (tgt := 83) dX3_fits_41 (by decide) (by omega) (by omega) (fun c_7 => ?_) (fun c_7 => absurd c_7 (by omega))
          refine lv_iinc (v := iI ((v : Int) + 1)) (lv' := [(5, .int (iI ((v : Int) + 1))), (8, .int (iI (((σ 8 i 0).toNat : Nat) : Int))), (4, .int (iI (bI (ftc σ i v x (foM σ v d n) (laA σ v d n) (ftv σ i n d x v) ((σ 8 i 0).toNat) = true)))), (7, .int (iI (laA σ (v : Int) d n))), (6, .int (iI (foM σ (v : Int) d n))), (0, .ref (A 0)), (1, .int (iI (i : Int))), (2, .int (iI d)), (3, .int (iI x))]) F.1 F.2.1 dX3_fits_83 hl (k := 4) rfl (iI_add _ _) (by decide) rfl (fun ls hl => ?_)
          refine lv_goto (tgt := 6) F.1 F.2.1 dX3_fits_86 (by decide) ?_
          have e_8 : (bI (ftc σ i v x (foM σ v d n) (laA σ v d n) (ftv σ i n d x v) ((σ 8 i 0).toNat) = true) : Int) = bI (ftv σ i n d x (v + 1) = true) := rfl
          have e_9 : (((v : Int) + 1) : Int) = ((v + 1 : Nat) : Int) := rfl
          exact ih _ (lv_to (lv_to (lv_sub hl [2, 0, 5, 6, 7, 8] rfl) (congrArg (fun x9 : Int => ([(4, .int (iI x9)), (5, .int (iI ((v : Int) + 1))), (0, .ref (A 0)), (1, .int (iI (i : Int))), (2, .int (iI d)), (3, .int (iI x))] : List (Nat × Value))) e_8)) (congrArg (fun x9 : Int => ([(4, .int (iI (bI (ftv σ i n d x (v + 1) = true)))), (5, .int (iI x9)), (0, .ref (A 0)), (1, .int (iI (i : Int))), (2, .int (iI d)), (3, .int (iI x))] : List (Nat × Value))) e_9))
        · intro c hk9 ih ls hl
          have b1 := htn i (4 * c + v)
          refine lv_iload F.1 F.2.1 dX3_fits_33 (lv_at hl 0 rfl) ?_
          refine lv_aload_n F.1 F.2.1 dX3_fits_35 rfl (lv_at hl 5 rfl) ?_
          refine k_get F hK hP iX3 0 rfl rfl 8 (by decide) f25 rfl rfl dX3_fits_36 ?_
          refine lv_iload_n F.1 F.2.1 dX3_fits_39 rfl (lv_at hl 6 rfl) ?_
          refine k_iald F hK hP 6 rfl i (by omega) (by omega) (by decide) rfl dX3_fits_40 ?_
          refine k_icmp_ge F (tgt := 83) dX3_fits_41 (by decide) (by omega) (by omega) (fun c_10 => absurd c_10 (by omega)) (fun c_10 => ?_)
          refine lv_iload F.1 F.2.1 dX3_fits_44 (lv_at hl 1 rfl) ?_
          refine k_ifb_eq F (tgt := 74) dX3_fits_46 (by decide) (fun c_11 => ?_) (fun c_11 => ?_)
          · skip
            refine k_iconst F dX3_fits_74 ?_
            refine lv_istore (lv' := [(4, .int (iI 0)), (8, .int (iI (c : Int))), (7, .int (iI (laA σ (v : Int) d n))), (6, .int (iI (foM σ (v : Int) d n))), (5, .int (iI (v : Int))), (0, .ref (A 0)), (1, .int (iI (i : Int))), (2, .int (iI d)), (3, .int (iI x))]) F.1 F.2.1 dX3_fits_75 hl (by decide) rfl (fun ls hl => ?_)
            refine lv_iinc (v := iI ((c : Int) + 1)) (lv' := [(8, .int (iI ((c : Int) + 1))), (4, .int (iI 0)), (7, .int (iI (laA σ (v : Int) d n))), (6, .int (iI (foM σ (v : Int) d n))), (5, .int (iI (v : Int))), (0, .ref (A 0)), (1, .int (iI (i : Int))), (2, .int (iI d)), (3, .int (iI x))]) F.1 F.2.1 dX3_fits_77 hl (k := 1) rfl (iI_add _ _) (by decide) rfl (fun ls hl => ?_)
            refine lv_goto (tgt := 33) F.1 F.2.1 dX3_fits_80 (by decide) ?_
            have e_12 : (((c : Int) + 1) : Int) = ((c + 1 : Nat) : Int) := rfl
            have e_13 : (0 : Int) = bI (ftc σ i v x (foM σ v d n) (laA σ v d n) (ftv σ i n d x v) (c + 1) = true) := (bI_f (by rw [ftc_s, Bool.and_eq_true, decide_eq_true_eq]; intro q; first | exact absurd q.1 (by assumption) | exact absurd q.2 (by assumption))).symm
            exact ih _ (lv_to (lv_to (lv_sub hl [0, 1, 2, 3, 4, 5, 6, 7, 8] rfl) (congrArg (fun x9 : Int => ([(8, .int (iI x9)), (4, .int (iI 0)), (7, .int (iI (laA σ (v : Int) d n))), (6, .int (iI (foM σ (v : Int) d n))), (5, .int (iI (v : Int))), (0, .ref (A 0)), (1, .int (iI (i : Int))), (2, .int (iI d)), (3, .int (iI x))] : List (Nat × Value))) e_12)) (congrArg (fun x9 : Int => ([(8, .int (iI ((c + 1 : Nat) : Int))), (4, .int (iI x9)), (7, .int (iI (laA σ (v : Int) d n))), (6, .int (iI (foM σ (v : Int) d n))), (5, .int (iI (v : Int))), (0, .ref (A 0)), (1, .int (iI (i : Int))), (2, .int (iI d)), (3, .int (iI x))] : List (Nat × Value))) e_13))
          · skip
            refine lv_aload_n F.1 F.2.1 dX3_fits_49 rfl (lv_at hl 5 rfl) ?_
            refine lv_iload_n F.1 F.2.1 dX3_fits_50 rfl (lv_at hl 6 rfl) ?_
            refine lv_iload F.1 F.2.1 dX3_fits_51 (lv_at hl 0 rfl) ?_
            refine lv_iload F.1 F.2.1 dX3_fits_53 (lv_at hl 4 rfl) ?_
            refine rd_V F (n := 3) (w0 := []) (mX3_toneAt l G A r0 σ i c v (by omega) (by omega) (by omega)) gX3_fits_X3_toneAt rfl rfl rfl (by decide +kernel) ⟨Nat.le_of_ble_eq_true rfl, Nat.le_of_ble_eq_true rfl⟩ hK hP (ci := 3) (q0 := 0) rfl rfl rfl rfl hl.1 (Nat.le_of_ble_eq_true rfl) dX3_fits_55 ⟨Nat.zero_le _, Nat.zero_le _⟩ ?_
            refine lv_iload_n F.1 F.2.1 dX3_fits_58 rfl (lv_at hl 8 rfl) ?_
            refine k_iadd F rfl dX3_fits_59 ?_
            refine lv_iload F.1 F.2.1 dX3_fits_60 (lv_at hl 3 rfl) ?_
            refine lv_iload F.1 F.2.1 dX3_fits_62 (lv_at hl 2 rfl) ?_
            refine rd_S F (n := 3) (w0 := []) (mX3_in l G (MW G A r0 σ) ((σ 7 i (4 * c + v)) + x) (foM σ (v : Int) d n) (laA σ (v : Int) d n) (by omega) (by omega) (by omega)) gX3_fits_X3_in rfl rfl rfl (by decide +kernel) ⟨Nat.le_of_ble_eq_true rfl, Nat.le_of_ble_eq_true rfl⟩ hK hP rfl rfl hl.1 (Nat.le_of_ble_eq_true rfl) dX3_fits_64 ⟨Nat.zero_le _, Nat.zero_le _⟩ ?_
            refine k_ifb_eq F (tgt := 74) dX3_fits_67 (by decide) (fun c_14 => ?_) (fun c_14 => ?_)
            · skip
              refine k_iconst F dX3_fits_74 ?_
              refine lv_istore (lv' := [(4, .int (iI 0)), (8, .int (iI (c : Int))), (7, .int (iI (laA σ (v : Int) d n))), (6, .int (iI (foM σ (v : Int) d n))), (5, .int (iI (v : Int))), (0, .ref (A 0)), (1, .int (iI (i : Int))), (2, .int (iI d)), (3, .int (iI x))]) F.1 F.2.1 dX3_fits_75 hl (by decide) rfl (fun ls hl => ?_)
              refine lv_iinc (v := iI ((c : Int) + 1)) (lv' := [(8, .int (iI ((c : Int) + 1))), (4, .int (iI 0)), (7, .int (iI (laA σ (v : Int) d n))), (6, .int (iI (foM σ (v : Int) d n))), (5, .int (iI (v : Int))), (0, .ref (A 0)), (1, .int (iI (i : Int))), (2, .int (iI d)), (3, .int (iI x))]) F.1 F.2.1 dX3_fits_77 hl (k := 1) rfl (iI_add _ _) (by decide) rfl (fun ls hl => ?_)
              refine lv_goto (tgt := 33) F.1 F.2.1 dX3_fits_80 (by decide) ?_
              have e_15 : (((c : Int) + 1) : Int) = ((c + 1 : Nat) : Int) := rfl
              have e_16 : (0 : Int) = bI (ftc σ i v x (foM σ v d n) (laA σ v d n) (ftv σ i n d x v) (c + 1) = true) := (bI_f (by rw [ftc_s, Bool.and_eq_true, decide_eq_true_eq]; intro q; first | exact absurd q.1 (by assumption) | exact absurd q.2 (by assumption))).symm
              exact ih _ (lv_to (lv_to (lv_sub hl [0, 1, 2, 3, 4, 5, 6, 7, 8] rfl) (congrArg (fun x9 : Int => ([(8, .int (iI x9)), (4, .int (iI 0)), (7, .int (iI (laA σ (v : Int) d n))), (6, .int (iI (foM σ (v : Int) d n))), (5, .int (iI (v : Int))), (0, .ref (A 0)), (1, .int (iI (i : Int))), (2, .int (iI d)), (3, .int (iI x))] : List (Nat × Value))) e_15)) (congrArg (fun x9 : Int => ([(8, .int (iI ((c + 1 : Nat) : Int))), (4, .int (iI x9)), (7, .int (iI (laA σ (v : Int) d n))), (6, .int (iI (foM σ (v : Int) d n))), (5, .int (iI (v : Int))), (0, .ref (A 0)), (1, .int (iI (i : Int))), (2, .int (iI d)), (3, .int (iI x))] : List (Nat × Value))) e_16))
            · skip
              refine k_iconst F dX3_fits_70 ?_
              refine lv_goto (tgt := 75) F.1 F.2.1 dX3_fits_71 (by decide) ?_
              refine lv_istore (lv' := [(4, .int (iI 1)), (8, .int (iI (c : Int))), (7, .int (iI (laA σ (v : Int) d n))), (6, .int (iI (foM σ (v : Int) d n))), (5, .int (iI (v : Int))), (0, .ref (A 0)), (1, .int (iI (i : Int))), (2, .int (iI d)), (3, .int (iI x))]) F.1 F.2.1 dX3_fits_75 hl (by decide) rfl (fun ls hl => ?_)
              refine lv_iinc (v := iI ((c : Int) + 1)) (lv' := [(8, .int (iI ((c : Int) + 1))), (4, .int (iI 1)), (7, .int (iI (laA σ (v : Int) d n))), (6, .int (iI (foM σ (v : Int) d n))), (5, .int (iI (v : Int))), (0, .ref (A 0)), (1, .int (iI (i : Int))), (2, .int (iI d)), (3, .int (iI x))]) F.1 F.2.1 dX3_fits_77 hl (k := 1) rfl (iI_add _ _) (by decide) rfl (fun ls hl => ?_)
              refine lv_goto (tgt := 33) F.1 F.2.1 dX3_fits_80 (by decide) ?_
              have e_17 : (((c : Int) + 1) : Int) = ((c + 1 : Nat) : Int) := rfl
              have e_18 : (1 : Int) = bI (ftc σ i v x (foM σ v d n) (laA σ v d n) (ftv σ i n d x v) (c + 1) = true) := (bI_t (by rw [ftc_s, Bool.and_eq_true, decide_eq_true_eq]; exact ⟨by assumption, by assumption⟩)).symm
              exact ih _ (lv_to (lv_to (lv_sub hl [0, 1, 2, 3, 4, 5, 6, 7, 8] rfl) (congrArg (fun x9 : Int => ([(8, .int (iI x9)), (4, .int (iI 1)), (7, .int (iI (laA σ (v : Int) d n))), (6, .int (iI (foM σ (v : Int) d n))), (5, .int (iI (v : Int))), (0, .ref (A 0)), (1, .int (iI (i : Int))), (2, .int (iI d)), (3, .int (iI x))] : List (Nat × Value))) e_17)) (congrArg (fun x9 : Int => ([(8, .int (iI ((c + 1 : Nat) : Int))), (4, .int (iI x9)), (7, .int (iI (laA σ (v : Int) d n))), (6, .int (iI (foM σ (v : Int) d n))), (5, .int (iI (v : Int))), (0, .ref (A 0)), (1, .int (iI (i : Int))), (2, .int (iI d)), (3, .int (iI x))] : List (Nat × Value))) e_18))
      have e_19 : (0 : Int) = ((0 : Nat) : Int) := rfl
      have e_20 : (bI (ftv σ i n d x v = true) : Int) = bI (ftc σ i v x (foM σ v d n) (laA σ v d n) (ftv σ i n d x v) 0 = true) := rfl
      exact J_5 0 (by omega) _ (lv_to (lv_to (lv_sub hl [0, 3, 1, 2, 4, 5, 6, 7, 8] rfl) (congrArg (fun x9 : Int => ([(8, .int (iI x9)), (4, .int (iI (bI (ftv σ i n d x v = true)))), (7, .int (iI (laA σ (v : Int) d n))), (6, .int (iI (foM σ (v : Int) d n))), (5, .int (iI (v : Int))), (0, .ref (A 0)), (1, .int (iI (i : Int))), (2, .int (iI d)), (3, .int (iI x))] : List (Nat × Value))) e_19)) (congrArg (fun x9 : Int => ([(8, .int (iI ((0 : Nat) : Int))), (4, .int (iI x9)), (7, .int (iI (laA σ (v : Int) d n))), (6, .int (iI (foM σ (v : Int) d n))), (5, .int (iI (v : Int))), (0, .ref (A 0)), (1, .int (iI (i : Int))), (2, .int (iI d)), (3, .int (iI x))] : List (Nat × Value))) e_20))
  have e_21 : (1 : Int) = bI (ftv σ i n d x 0 = true) := rfl
  have e_22 : (0 : Int) = ((0 : Nat) : Int) := rfl
  exact J_1 0 (by omega) _ (lv_to (lv_to (lv_sub hl [1, 0, 2, 3, 4, 5] rfl) (congrArg (fun x9 : Int => ([(4, .int (iI x9)), (5, .int (iI 0)), (0, .ref (A 0)), (1, .int (iI (i : Int))), (2, .int (iI d)), (3, .int (iI x))] : List (Nat × Value))) e_21)) (congrArg (fun x9 : Int => ([(4, .int (iI (bI (ftv σ i n d x 0 = true)))), (5, .int (iI x9)), (0, .ref (A 0)), (1, .int (iI (i : Int))), (2, .int (iI d)), (3, .int (iI x))] : List (Nat × Value))) e_22))

set_option maxHeartbeats 4000000 in
set_option maxRecDepth 100000 in
theorem mX3_shiftOf (l : Launch) (G : gT) (A : Nat → Nat) (r0 : Int) (σ : Sg) (i : Nat) (d : Int) (hi : i ≤ 6) {n k N : Nat} (hI : Iv σ n k N) : Met l yX3_shiftOf wsX3_shiftOf { frames := 3, cells := 0, slots := 0, locals := 75 } (va_Pc [.ref (A 0), .int (iI (i : Int)), .int (iI d)] (rB G (MW G A r0 σ))) (oI (shS σ i n d 13)) 0 0 (fun _ => False) := by
  refine rd_start (own := RX3) (cc := cX3_shiftOf) (mL := 4) (ret := (some .int)) (by decide) rfl rfl (Nat.le_of_ble_eq_true rfl) ?_
  intro pP eE sS mM args bB meth cC ls F hr hlocks hP hK hl
  obtain ⟨hn, hn12, hk, hk6, hsg, haw, hch, hch1, hch0, htn, hto, htz, hpr, hN, hpz, hle, hlz⟩ := id hI
  have hl : lv_has ls 4 [(0, .ref (A 0)), (1, .int (iI (i : Int))), (2, .int (iI d))] := hl
  refine k_iconst F dX3_shiftOf_0 ?_
  refine lv_istore_n (lv' := [(3, .int (iI 0)), (0, .ref (A 0)), (1, .int (iI (i : Int))), (2, .int (iI d))]) F.1 F.2.1 dX3_shiftOf_1 rfl hl (by decide) rfl (fun ls hl => ?_)
  have J_1 : ∀ q : Nat, q ≤ 13 → (shS σ i n d 13 = shS σ i n d (13 - q)) → ∀ ls : Array Slot, lv_has ls 4 [(3, .int (iI (q : Int))), (0, .ref (A 0)), (1, .int (iI (i : Int))), (2, .int (iI d))] → W pP l eE ({ frames := 3, cells := 0, slots := 0, locals := 75 }) sS mM args bB meth cC sS.heap [] 0 0 (MQ bB (oI (shS σ i n d 13)) args sS 0 0 (fun _ => False)) (F0 mM 2 ls []) := by
    refine lp_up (13) ?_ ?_
    · intro h_2 ls hl
      refine lv_iload_n F.1 F.2.1 dX3_shiftOf_2 rfl (lv_at hl 0 rfl) ?_
      refine k_bipush F dX3_shiftOf_3 (by decide +kernel) ?_
      refine k_icmp_gt F (tgt := 40) dX3_shiftOf_5 (by decide) (by omega) (by decide) (fun c_3 => ?_) (fun c_3 => absurd c_3 (by omega))
      refine k_bipush F dX3_shiftOf_40 (by decide +kernel) ?_
      exact k_ret F hr hlocks (by rw [h_2]; rfl) dX3_shiftOf_42
    · intro q hk9 ih h_2 ls hl
      refine lv_iload_n F.1 F.2.1 dX3_shiftOf_2 rfl (lv_at hl 0 rfl) ?_
      refine k_bipush F dX3_shiftOf_3 (by decide +kernel) ?_
      refine k_icmp_gt F (tgt := 40) dX3_shiftOf_5 (by decide) (by omega) (by decide) (fun c_4 => absurd c_4 (by omega)) (fun c_4 => ?_)
      refine lv_aload_n F.1 F.2.1 dX3_shiftOf_8 rfl (lv_at hl 1 rfl) ?_
      refine lv_iload_n F.1 F.2.1 dX3_shiftOf_9 rfl (lv_at hl 2 rfl) ?_
      refine lv_iload_n F.1 F.2.1 dX3_shiftOf_10 rfl (lv_at hl 3 rfl) ?_
      refine lv_iload_n F.1 F.2.1 dX3_shiftOf_11 rfl (lv_at hl 0 rfl) ?_
      refine k_ineg F rfl dX3_shiftOf_12 ?_
      refine rd_V F (n := 3) (w0 := []) (mX3_fits l G A r0 σ i d (-(q : Int)) (by omega) (by omega) hI) gX3_shiftOf_X3_fits rfl rfl rfl (by decide +kernel) ⟨Nat.le_of_ble_eq_true rfl, Nat.le_of_ble_eq_true rfl⟩ hK hP (ci := 3) (q0 := 0) rfl rfl rfl rfl hl.1 (Nat.le_of_ble_eq_true rfl) dX3_shiftOf_13 ⟨Nat.zero_le _, Nat.zero_le _⟩ ?_
      refine k_ifb_eq F (tgt := 22) dX3_shiftOf_16 (by decide) (fun c_5 => ?_) (fun c_5 => ?_)
      · skip
        refine lv_aload_n F.1 F.2.1 dX3_shiftOf_22 rfl (lv_at hl 1 rfl) ?_
        refine lv_iload_n F.1 F.2.1 dX3_shiftOf_23 rfl (lv_at hl 2 rfl) ?_
        refine lv_iload_n F.1 F.2.1 dX3_shiftOf_24 rfl (lv_at hl 3 rfl) ?_
        refine lv_iload_n F.1 F.2.1 dX3_shiftOf_25 rfl (lv_at hl 0 rfl) ?_
        refine rd_V F (n := 3) (w0 := []) (mX3_fits l G A r0 σ i d (q : Int) (by omega) (by omega) hI) gX3_shiftOf_X3_fits rfl rfl rfl (by decide +kernel) ⟨Nat.le_of_ble_eq_true rfl, Nat.le_of_ble_eq_true rfl⟩ hK hP (ci := 3) (q0 := 0) rfl rfl rfl rfl hl.1 (Nat.le_of_ble_eq_true rfl) dX3_shiftOf_26 ⟨Nat.zero_le _, Nat.zero_le _⟩ ?_
        refine k_ifb_eq F (tgt := 34) dX3_shiftOf_29 (by decide) (fun c_6 => ?_) (fun c_6 => ?_)
        · skip
          refine lv_iinc (v := iI ((q : Int) + 1)) (lv' := [(3, .int (iI ((q : Int) + 1))), (0, .ref (A 0)), (1, .int (iI (i : Int))), (2, .int (iI d))]) F.1 F.2.1 dX3_shiftOf_34 hl (k := 0) rfl (iI_add _ _) (by decide) rfl (fun ls hl => ?_)
          refine lv_goto (tgt := 2) F.1 F.2.1 dX3_shiftOf_37 (by decide) ?_
          have e_7 : (((q : Int) + 1) : Int) = ((q + 1 : Nat) : Int) := by omega
          exact ih (by rw [h_2, shS_q σ i n d (by omega), if_neg (by assumption), if_neg (by assumption)]) _ (lv_to (lv_sub hl [0, 1, 2, 3] rfl) (congrArg (fun x9 : Int => ([(3, .int (iI x9)), (0, .ref (A 0)), (1, .int (iI (i : Int))), (2, .int (iI d))] : List (Nat × Value))) e_7))
        · skip
          refine lv_iload_n F.1 F.2.1 dX3_shiftOf_32 rfl (lv_at hl 0 rfl) ?_
          exact k_ret F hr hlocks (by rw [h_2, shS_q σ i n d (by omega)]; first | rw [if_pos (by assumption)] | rw [if_neg (by assumption), if_pos (by assumption)]) dX3_shiftOf_33
      · skip
        refine lv_iload_n F.1 F.2.1 dX3_shiftOf_19 rfl (lv_at hl 0 rfl) ?_
        refine k_ineg F rfl dX3_shiftOf_20 ?_
        exact k_ret F hr hlocks (by rw [h_2, shS_q σ i n d (by omega)]; first | rw [if_pos (by assumption)] | rw [if_neg (by assumption), if_pos (by assumption)]) dX3_shiftOf_21
  have e_8 : (0 : Int) = ((0 : Nat) : Int) := rfl
  exact J_1 0 (by omega) (rfl) _ (lv_to (lv_sub hl [0, 1, 2, 3] rfl) (congrArg (fun x9 : Int => ([(3, .int (iI x9)), (0, .ref (A 0)), (1, .int (iI (i : Int))), (2, .int (iI d))] : List (Nat × Value))) e_8))

set_option maxHeartbeats 4000000 in
set_option maxRecDepth 100000 in
theorem mX3_lengthOf (l : Launch) (G : gT) (A : Nat → Nat) (r0 : Int) (σ : Sg) (set : Int) {n k N : Nat} (hI : Iv σ n k N) : Met l yX3_lengthOf wsX3_lengthOf { frames := 0, cells := 0, slots := 0, locals := 0 } (va_Pc [.ref (A 0), .int (iI set)] (rB G (MW G A r0 σ))) (oI (lnS σ set k)) 0 0 (fun _ => False) := by
  refine rd_start (own := RX3) (cc := cX3_lengthOf) (mL := 4) (ret := (some .int)) (by decide) rfl rfl (Nat.le_of_ble_eq_true rfl) ?_
  intro pP eE sS mM args bB meth cC ls F hr hlocks hP hK hl
  obtain ⟨hn, hn12, hk, hk6, hsg, haw, hch, hch1, hch0, htn, hto, htz, hpr, hN, hpz, hle, hlz⟩ := id hI
  have iX3 : ∀ x ∈ wsX30, x ∈ wsX3_lengthOf := by decide +kernel
  have f28 := k_cond F (w := .fieldLink RX3 28 "ChoirPlannerModel" "lengths" "[I") (by decide +kernel)
  have f45 := k_cond F (w := .fieldLink RX3 45 "ChoirPlannerModel" "pieces" "I") (by decide +kernel)
  have hl : lv_has ls 4 [(0, .ref (A 0)), (1, .int (iI set))] := hl
  refine k_iconst F dX3_lengthOf_0 ?_
  refine lv_istore_n (lv' := [(2, .int (iI 0)), (0, .ref (A 0)), (1, .int (iI set))]) F.1 F.2.1 dX3_lengthOf_1 rfl hl (by decide) rfl (fun ls hl => ?_)
  refine k_iconst F dX3_lengthOf_2 ?_
  refine lv_istore_n (lv' := [(3, .int (iI 0)), (2, .int (iI 0)), (0, .ref (A 0)), (1, .int (iI set))]) F.1 F.2.1 dX3_lengthOf_3 rfl hl (by decide) rfl (fun ls hl => ?_)
  have J_1 : ∀ p : Nat, p ≤ k → ∀ ls : Array Slot, lv_has ls 4 [(2, .int (iI (lnS σ set p))), (3, .int (iI (p : Int))), (0, .ref (A 0)), (1, .int (iI set))] → W pP l eE ({ frames := 0, cells := 0, slots := 0, locals := 0 }) sS mM args bB meth cC sS.heap [] 0 0 (MQ bB (oI (lnS σ set k)) args sS 0 0 (fun _ => False)) (F0 mM 4 ls []) := by
    refine lp_up (k) ?_ ?_
    · intro ls hl
      refine lv_iload_n F.1 F.2.1 dX3_lengthOf_4 rfl (lv_at hl 1 rfl) ?_
      refine lv_aload_n F.1 F.2.1 dX3_lengthOf_5 rfl (lv_at hl 2 rfl) ?_
      refine k_get F hK hP iX3 0 rfl rfl 6 (by decide) f45 rfl rfl dX3_lengthOf_6 ?_
      refine k_icmp_ge F (tgt := 33) dX3_lengthOf_9 (by decide) (by omega) (by omega) (fun c_3 => ?_) (fun c_3 => absurd c_3 (by omega))
      refine lv_iload_n F.1 F.2.1 dX3_lengthOf_33 rfl (lv_at hl 0 rfl) ?_
      exact k_ret F hr hlocks rfl dX3_lengthOf_34
    · intro p hk9 ih ls hl
      refine lv_iload_n F.1 F.2.1 dX3_lengthOf_4 rfl (lv_at hl 1 rfl) ?_
      refine lv_aload_n F.1 F.2.1 dX3_lengthOf_5 rfl (lv_at hl 2 rfl) ?_
      refine k_get F hK hP iX3 0 rfl rfl 6 (by decide) f45 rfl rfl dX3_lengthOf_6 ?_
      refine k_icmp_ge F (tgt := 33) dX3_lengthOf_9 (by decide) (by omega) (by omega) (fun c_4 => absurd c_4 (by omega)) (fun c_4 => ?_)
      refine lv_iload_n F.1 F.2.1 dX3_lengthOf_12 rfl (lv_at hl 0 rfl) ?_
      refine lv_iload_n F.1 F.2.1 dX3_lengthOf_13 rfl (lv_at hl 3 rfl) ?_
      refine lv_iload_n F.1 F.2.1 dX3_lengthOf_14 rfl (lv_at hl 1 rfl) ?_
      refine k_ishr F dX3_lengthOf_15 ?_
      refine k_iconst F dX3_lengthOf_16 ?_
      refine k_iand F dX3_lengthOf_17 ?_
      refine lv_aload_n F.1 F.2.1 dX3_lengthOf_18 rfl (lv_at hl 2 rfl) ?_
      refine k_get F hK hP iX3 0 rfl rfl 9 (by decide) f28 rfl rfl dX3_lengthOf_19 ?_
      refine lv_iload_n F.1 F.2.1 dX3_lengthOf_22 rfl (lv_at hl 1 rfl) ?_
      refine k_iald F hK hP 7 rfl p (by omega) (by omega) (by decide) rfl dX3_lengthOf_23 ?_
      refine k_imul F rfl dX3_lengthOf_24 ?_
      refine k_iadd F rfl dX3_lengthOf_25 ?_
      refine lv_istore_n (lv' := [(2, .int (iI (lnS σ set p + ((andI (shrI set (p : Int)) 1) * (σ 9 p 0))))), (3, .int (iI (p : Int))), (0, .ref (A 0)), (1, .int (iI set))]) F.1 F.2.1 dX3_lengthOf_26 rfl hl (by decide) rfl (fun ls hl => ?_)
      refine lv_iinc (v := iI ((p : Int) + 1)) (lv' := [(3, .int (iI ((p : Int) + 1))), (2, .int (iI (lnS σ set p + ((andI (shrI set (p : Int)) 1) * (σ 9 p 0))))), (0, .ref (A 0)), (1, .int (iI set))]) F.1 F.2.1 dX3_lengthOf_27 hl (k := 1) rfl (iI_add _ _) (by decide) rfl (fun ls hl => ?_)
      refine lv_goto (tgt := 4) F.1 F.2.1 dX3_lengthOf_30 (by decide) ?_
      have e_5 : ((lnS σ set p + ((andI (shrI set (p : Int)) 1) * (σ 9 p 0))) : Int) = lnS σ set (p + 1) := (lnS_s _ _ _).symm
      have e_6 : (((p : Int) + 1) : Int) = ((p + 1 : Nat) : Int) := rfl
      exact ih _ (lv_to (lv_to (lv_sub hl [1, 0, 2, 3] rfl) (congrArg (fun x9 : Int => ([(2, .int (iI x9)), (3, .int (iI ((p : Int) + 1))), (0, .ref (A 0)), (1, .int (iI set))] : List (Nat × Value))) e_5)) (congrArg (fun x9 : Int => ([(2, .int (iI (lnS σ set (p + 1)))), (3, .int (iI x9)), (0, .ref (A 0)), (1, .int (iI set))] : List (Nat × Value))) e_6))
  have e_7 : (0 : Int) = lnS σ set 0 := rfl
  have e_8 : (0 : Int) = ((0 : Nat) : Int) := rfl
  exact J_1 0 (by omega) _ (lv_to (lv_to (lv_sub hl [1, 0, 2, 3] rfl) (congrArg (fun x9 : Int => ([(2, .int (iI x9)), (3, .int (iI 0)), (0, .ref (A 0)), (1, .int (iI set))] : List (Nat × Value))) e_7)) (congrArg (fun x9 : Int => ([(2, .int (iI (lnS σ set 0))), (3, .int (iI x9)), (0, .ref (A 0)), (1, .int (iI set))] : List (Nat × Value))) e_8))

set_option maxHeartbeats 4000000 in
set_option maxRecDepth 100000 in
theorem mX3_bits (l : Launch) (G : gT) (w : va_W) (s0 : Nat) (hs : s0 < 64) : Met l yX3_bits wsX3_bits { frames := 0, cells := 0, slots := 0, locals := 0 } (va_Pc [.int (iI (s0 : Int))] (rB G (w))) (oI ((bct s0 : Int))) 0 0 (fun _ => False) := by
  refine rd_start (own := RX3) (cc := cX3_bits) (mL := 3) (ret := (some .int)) (by decide) rfl rfl (Nat.le_of_ble_eq_true rfl) ?_
  intro pP eE sS mM args bB meth cC ls F hr hlocks hP hK hl
  have hl : lv_has ls 3 [(0, .int (iI (s0 : Int)))] := hl
  refine k_iconst F dX3_bits_0 ?_
  refine lv_istore_n (lv' := [(1, .int (iI 0)), (0, .int (iI (s0 : Int)))]) F.1 F.2.1 dX3_bits_1 rfl hl (by decide) rfl (fun ls hl => ?_)
  refine lv_iload_n F.1 F.2.1 dX3_bits_2 rfl (lv_at hl 1 rfl) ?_
  refine lv_istore_n (lv' := [(2, .int (iI (s0 : Int))), (1, .int (iI 0)), (0, .int (iI (s0 : Int)))]) F.1 F.2.1 dX3_bits_3 rfl hl (by decide) rfl (fun ls hl => ?_)
  have J_1 : ∀ r : Nat, r ≤ (bct s0) → ∀ ls : Array Slot, lv_has ls 3 [(1, .int (iI (r : Int))), (2, .int (iI (rst s0 r))), (0, .int (iI (s0 : Int)))] → W pP l eE ({ frames := 0, cells := 0, slots := 0, locals := 0 }) sS mM args bB meth cC sS.heap [] 0 0 (MQ bB (oI ((bct s0 : Int))) args sS 0 0 (fun _ => False)) (F0 mM 4 ls []) := by
    refine lp_up ((bct s0)) ?_ ?_
    · intro ls hl
      have hb := (rst_ok s0 hs).1
      refine lv_iload_n F.1 F.2.1 dX3_bits_4 rfl (lv_at hl 1 rfl) ?_
      refine k_if_eq F (tgt := 20) dX3_bits_5 (by decide) (rst_rg s0 hs _) (fun c_3 => ?_) (fun c_3 => absurd c_3 (by omega))
      refine lv_iload_n F.1 F.2.1 dX3_bits_20 rfl (lv_at hl 0 rfl) ?_
      exact k_ret F hr hlocks rfl dX3_bits_21
    · intro r hk9 ih ls hl
      have hb := (rst_ok s0 hs).2 r (by have := bct_6 s0; omega) hk9
      refine lv_iload_n F.1 F.2.1 dX3_bits_4 rfl (lv_at hl 1 rfl) ?_
      refine k_if_eq F (tgt := 20) dX3_bits_5 (by decide) (rst_rg s0 hs _) (fun c_4 => absurd c_4 (by omega)) (fun c_4 => ?_)
      refine lv_iinc (v := iI ((r : Int) + 1)) (lv' := [(1, .int (iI ((r : Int) + 1))), (2, .int (iI (rst s0 r))), (0, .int (iI (s0 : Int)))]) F.1 F.2.1 dX3_bits_8 hl (k := 0) rfl (iI_add _ _) (by decide) rfl (fun ls hl => ?_)
      refine lv_iload_n F.1 F.2.1 dX3_bits_11 rfl (lv_at hl 1 rfl) ?_
      refine lv_iload_n F.1 F.2.1 dX3_bits_12 rfl (lv_at hl 1 rfl) ?_
      refine k_iconst F dX3_bits_13 ?_
      refine k_isub F rfl dX3_bits_14 ?_
      refine k_iand F dX3_bits_15 ?_
      refine lv_istore_n (lv' := [(2, .int (iI (andI (rst s0 r) (rst s0 r - 1)))), (1, .int (iI ((r : Int) + 1))), (0, .int (iI (s0 : Int)))]) F.1 F.2.1 dX3_bits_16 rfl hl (by decide) rfl (fun ls hl => ?_)
      refine lv_goto (tgt := 4) F.1 F.2.1 dX3_bits_17 (by decide) ?_
      have e_5 : (((r : Int) + 1) : Int) = ((r + 1 : Nat) : Int) := rfl
      have e_6 : ((andI (rst s0 r) (rst s0 r - 1)) : Int) = rst s0 (r + 1) := rfl
      exact ih _ (lv_to (lv_to (lv_sub hl [1, 0, 2] rfl) (congrArg (fun x9 : Int => ([(1, .int (iI x9)), (2, .int (iI (andI (rst s0 r) (rst s0 r - 1)))), (0, .int (iI (s0 : Int)))] : List (Nat × Value))) e_5)) (congrArg (fun x9 : Int => ([(1, .int (iI ((r + 1 : Nat) : Int))), (2, .int (iI x9)), (0, .int (iI (s0 : Int)))] : List (Nat × Value))) e_6))
  have e_7 : (0 : Int) = ((0 : Nat) : Int) := rfl
  have e_8 : ((s0 : Int) : Int) = rst s0 0 := rfl
  exact J_1 0 (by omega) _ (lv_to (lv_to (lv_sub hl [1, 0, 2] rfl) (congrArg (fun x9 : Int => ([(1, .int (iI x9)), (2, .int (iI (s0 : Int))), (0, .int (iI (s0 : Int)))] : List (Nat × Value))) e_7)) (congrArg (fun x9 : Int => ([(1, .int (iI ((0 : Nat) : Int))), (2, .int (iI x9)), (0, .int (iI (s0 : Int)))] : List (Nat × Value))) e_8))

set_option maxHeartbeats 4000000 in
set_option maxRecDepth 100000 in
theorem mX3_isBetter (l : Launch) (G : gT) (A : Nat → Nat) (r0 : Int) (σ : Sg) (s0 o0 : Nat) (hs : s0 < 64) (ho : o0 < 64) {n k N : Nat} (hI : Iv σ n k N) : Met l yX3_isBetter wsX3_isBetter { frames := 1, cells := 0, slots := 0, locals := 23 } (va_Pc [.ref (A 0), .int (iI (s0 : Int)), .int (iI (o0 : Int))] (rB G (MW G A r0 σ))) (oI (bI (btr σ k s0 o0))) 0 0 (fun _ => False) := by
  refine rd_start (own := RX3) (cc := cX3_isBetter) (mL := 7) (ret := (some .boolean)) (by decide) rfl rfl (Nat.le_of_ble_eq_true rfl) ?_
  intro pP eE sS mM args bB meth cC ls F hr hlocks hP hK hl
  obtain ⟨hn, hn12, hk, hk6, hsg, haw, hch, hch1, hch0, htn, hto, htz, hpr, hN, hpz, hle, hlz⟩ := id hI
  have b1 := lnS_rg hle (s0 : Int) k
  have b2 := lnS_rg hle (o0 : Int) k
  have b3 := bct_6 s0
  have b4 := bct_6 o0
  have hl : lv_has ls 7 [(0, .ref (A 0)), (1, .int (iI (s0 : Int))), (2, .int (iI (o0 : Int)))] := hl
  refine lv_aload_n F.1 F.2.1 dX3_isBetter_0 rfl (lv_at hl 0 rfl) ?_
  refine lv_iload_n F.1 F.2.1 dX3_isBetter_1 rfl (lv_at hl 1 rfl) ?_
  refine rd_V F (n := 1) (w0 := []) (mX3_lengthOf l G A r0 σ (s0 : Int) hI) gX3_isBetter_X3_lengthOf rfl rfl rfl (by decide +kernel) ⟨Nat.le_of_ble_eq_true rfl, Nat.le_of_ble_eq_true rfl⟩ hK hP (ci := 3) (q0 := 0) rfl rfl rfl rfl hl.1 (Nat.le_of_ble_eq_true rfl) dX3_isBetter_2 ⟨Nat.zero_le _, Nat.zero_le _⟩ ?_
  refine lv_aload_n F.1 F.2.1 dX3_isBetter_5 rfl (lv_at hl 0 rfl) ?_
  refine lv_iload_n F.1 F.2.1 dX3_isBetter_6 rfl (lv_at hl 2 rfl) ?_
  refine rd_V F (n := 1) (w0 := []) (mX3_lengthOf l G A r0 σ (o0 : Int) hI) gX3_isBetter_X3_lengthOf rfl rfl rfl (by decide +kernel) ⟨Nat.le_of_ble_eq_true rfl, Nat.le_of_ble_eq_true rfl⟩ hK hP (ci := 3) (q0 := 0) rfl rfl rfl rfl hl.1 (Nat.le_of_ble_eq_true rfl) dX3_isBetter_7 ⟨Nat.zero_le _, Nat.zero_le _⟩ ?_
  refine k_isub F rfl dX3_isBetter_10 ?_
  refine lv_istore_n (lv' := [(3, .int (iI ((lnS σ (s0 : Int) k) - (lnS σ (o0 : Int) k)))), (0, .ref (A 0)), (1, .int (iI (s0 : Int))), (2, .int (iI (o0 : Int)))]) F.1 F.2.1 dX3_isBetter_11 rfl hl (by decide) rfl (fun ls hl => ?_)
  refine lv_iload_n F.1 F.2.1 dX3_isBetter_12 rfl (lv_at hl 3 rfl) ?_
  refine rd_S F (n := 1) (w0 := []) (mX3_bits l G (MW G A r0 σ) o0 (by omega)) gX3_isBetter_X3_bits rfl rfl rfl (by decide +kernel) ⟨Nat.le_of_ble_eq_true rfl, Nat.le_of_ble_eq_true rfl⟩ hK hP rfl rfl hl.1 (Nat.le_of_ble_eq_true rfl) dX3_isBetter_13 ⟨Nat.zero_le _, Nat.zero_le _⟩ ?_
  refine lv_iload_n F.1 F.2.1 dX3_isBetter_16 rfl (lv_at hl 2 rfl) ?_
  refine rd_S F (n := 1) (w0 := []) (mX3_bits l G (MW G A r0 σ) s0 (by omega)) gX3_isBetter_X3_bits rfl rfl rfl (by decide +kernel) ⟨Nat.le_of_ble_eq_true rfl, Nat.le_of_ble_eq_true rfl⟩ hK hP rfl rfl hl.1 (Nat.le_of_ble_eq_true rfl) dX3_isBetter_17 ⟨Nat.zero_le _, Nat.zero_le _⟩ ?_
  refine k_isub F rfl dX3_isBetter_20 ?_
  refine lv_istore (lv' := [(4, .int (iI (((bct o0 : Nat) : Int) - ((bct s0 : Nat) : Int)))), (3, .int (iI ((lnS σ (s0 : Int) k) - (lnS σ (o0 : Int) k)))), (0, .ref (A 0)), (1, .int (iI (s0 : Int))), (2, .int (iI (o0 : Int)))]) F.1 F.2.1 dX3_isBetter_21 hl (by decide) rfl (fun ls hl => ?_)
  refine lv_iload_n F.1 F.2.1 dX3_isBetter_23 rfl (lv_at hl 3 rfl) ?_
  refine lv_iload_n F.1 F.2.1 dX3_isBetter_24 rfl (lv_at hl 4 rfl) ?_
  refine k_ixor F dX3_isBetter_25 ?_
  refine lv_istore (lv' := [(5, .int (iI (xorI (s0 : Int) (o0 : Int)))), (4, .int (iI (((bct o0 : Nat) : Int) - ((bct s0 : Nat) : Int)))), (3, .int (iI ((lnS σ (s0 : Int) k) - (lnS σ (o0 : Int) k)))), (0, .ref (A 0)), (1, .int (iI (s0 : Int))), (2, .int (iI (o0 : Int)))]) F.1 F.2.1 dX3_isBetter_26 hl (by decide) rfl (fun ls hl => ?_)
  refine lv_iload F.1 F.2.1 dX3_isBetter_28 (lv_at hl 0 rfl) ?_
  refine lv_iload F.1 F.2.1 dX3_isBetter_30 (lv_at hl 0 rfl) ?_
  refine k_ineg F rfl dX3_isBetter_32 ?_
  refine k_iand F dX3_isBetter_33 ?_
  refine lv_iload_n F.1 F.2.1 dX3_isBetter_34 rfl (lv_at hl 4 rfl) ?_
  refine k_iand F dX3_isBetter_35 ?_
  refine k_if_eq F (tgt := 43) dX3_isBetter_36 (by decide) (iI_rg _) (fun c_1 => ?_) (fun c_1 => ?_)
  · skip
    refine k_iconst F dX3_isBetter_43 ?_
    refine lv_istore (lv' := [(6, .int (iI 0)), (5, .int (iI (xorI (s0 : Int) (o0 : Int)))), (4, .int (iI (((bct o0 : Nat) : Int) - ((bct s0 : Nat) : Int)))), (3, .int (iI ((lnS σ (s0 : Int) k) - (lnS σ (o0 : Int) k)))), (0, .ref (A 0)), (1, .int (iI (s0 : Int))), (2, .int (iI (o0 : Int)))]) F.1 F.2.1 dX3_isBetter_44 hl (by decide) rfl (fun ls hl => ?_)
    refine lv_iload_n F.1 F.2.1 dX3_isBetter_46 rfl (lv_at hl 3 rfl) ?_
    refine k_if_gt F (tgt := 69) dX3_isBetter_47 (by decide) (by omega) (fun c_2 => ?_) (fun c_2 => ?_)
    · skip
      refine k_iconst F dX3_isBetter_69 ?_
      refine lv_goto (tgt := 74) F.1 F.2.1 dX3_isBetter_70 (by decide) ?_
      exact k_zret F hr hlocks (bI_t (by omega)).symm (Or.inr rfl) dX3_isBetter_74
    · skip
      refine lv_iload_n F.1 F.2.1 dX3_isBetter_50 rfl (lv_at hl 3 rfl) ?_
      refine k_if_ne F (tgt := 73) dX3_isBetter_51 (by decide) (by omega) (fun c_3 => ?_) (fun c_3 => ?_)
      · skip
        refine k_iconst F dX3_isBetter_73 ?_
        exact k_zret F hr hlocks (bI_f (by omega)).symm (Or.inl rfl) dX3_isBetter_74
      · skip
        refine lv_iload F.1 F.2.1 dX3_isBetter_54 (lv_at hl 2 rfl) ?_
        refine k_if_gt F (tgt := 69) dX3_isBetter_56 (by decide) (by omega) (fun c_4 => ?_) (fun c_4 => ?_)
        · skip
          refine k_iconst F dX3_isBetter_69 ?_
          refine lv_goto (tgt := 74) F.1 F.2.1 dX3_isBetter_70 (by decide) ?_
          exact k_zret F hr hlocks (bI_t (by omega)).symm (Or.inr rfl) dX3_isBetter_74
        · skip
          refine lv_iload F.1 F.2.1 dX3_isBetter_59 (lv_at hl 2 rfl) ?_
          refine k_if_ne F (tgt := 73) dX3_isBetter_61 (by decide) (by omega) (fun c_5 => ?_) (fun c_5 => ?_)
          · skip
            refine k_iconst F dX3_isBetter_73 ?_
            exact k_zret F hr hlocks (bI_f (by omega)).symm (Or.inl rfl) dX3_isBetter_74
          · skip
            refine lv_iload F.1 F.2.1 dX3_isBetter_64 (lv_at hl 0 rfl) ?_
            refine k_if_eq F (tgt := 73) dX3_isBetter_66 (by decide) (by decide) (fun c_6 => ?_) (fun c_6 => absurd c_6 (by omega))
            refine k_iconst F dX3_isBetter_73 ?_
            exact k_zret F hr hlocks (bI_f (by omega)).symm (Or.inl rfl) dX3_isBetter_74
  · skip
    refine k_iconst F dX3_isBetter_39 ?_
    refine lv_goto (tgt := 44) F.1 F.2.1 dX3_isBetter_40 (by decide) ?_
    refine lv_istore (lv' := [(6, .int (iI 1)), (5, .int (iI (xorI (s0 : Int) (o0 : Int)))), (4, .int (iI (((bct o0 : Nat) : Int) - ((bct s0 : Nat) : Int)))), (3, .int (iI ((lnS σ (s0 : Int) k) - (lnS σ (o0 : Int) k)))), (0, .ref (A 0)), (1, .int (iI (s0 : Int))), (2, .int (iI (o0 : Int)))]) F.1 F.2.1 dX3_isBetter_44 hl (by decide) rfl (fun ls hl => ?_)
    refine lv_iload_n F.1 F.2.1 dX3_isBetter_46 rfl (lv_at hl 3 rfl) ?_
    refine k_if_gt F (tgt := 69) dX3_isBetter_47 (by decide) (by omega) (fun c_7 => ?_) (fun c_7 => ?_)
    · skip
      refine k_iconst F dX3_isBetter_69 ?_
      refine lv_goto (tgt := 74) F.1 F.2.1 dX3_isBetter_70 (by decide) ?_
      exact k_zret F hr hlocks (bI_t (by omega)).symm (Or.inr rfl) dX3_isBetter_74
    · skip
      refine lv_iload_n F.1 F.2.1 dX3_isBetter_50 rfl (lv_at hl 3 rfl) ?_
      refine k_if_ne F (tgt := 73) dX3_isBetter_51 (by decide) (by omega) (fun c_8 => ?_) (fun c_8 => ?_)
      · skip
        refine k_iconst F dX3_isBetter_73 ?_
        exact k_zret F hr hlocks (bI_f (by omega)).symm (Or.inl rfl) dX3_isBetter_74
      · skip
        refine lv_iload F.1 F.2.1 dX3_isBetter_54 (lv_at hl 2 rfl) ?_
        refine k_if_gt F (tgt := 69) dX3_isBetter_56 (by decide) (by omega) (fun c_9 => ?_) (fun c_9 => ?_)
        · skip
          refine k_iconst F dX3_isBetter_69 ?_
          refine lv_goto (tgt := 74) F.1 F.2.1 dX3_isBetter_70 (by decide) ?_
          exact k_zret F hr hlocks (bI_t (by omega)).symm (Or.inr rfl) dX3_isBetter_74
        · skip
          refine lv_iload F.1 F.2.1 dX3_isBetter_59 (lv_at hl 2 rfl) ?_
          refine k_if_ne F (tgt := 73) dX3_isBetter_61 (by decide) (by omega) (fun c_10 => ?_) (fun c_10 => ?_)
          · skip
            refine k_iconst F dX3_isBetter_73 ?_
            exact k_zret F hr hlocks (bI_f (by omega)).symm (Or.inl rfl) dX3_isBetter_74
          · skip
            refine lv_iload F.1 F.2.1 dX3_isBetter_64 (lv_at hl 0 rfl) ?_
            refine k_if_eq F (tgt := 73) dX3_isBetter_66 (by decide) (by decide) (fun c_11 => absurd c_11 (by omega)) (fun c_11 => ?_)
            refine k_iconst F dX3_isBetter_69 ?_
            refine lv_goto (tgt := 74) F.1 F.2.1 dX3_isBetter_70 (by decide) ?_
            exact k_zret F hr hlocks (bI_t (by omega)).symm (Or.inr rfl) dX3_isBetter_74

set_option maxHeartbeats 4000000 in
set_option maxRecDepth 100000 in
theorem mX3_planned (l : Launch) (G : gT) (A : Nat → Nat) (r0 : Int) (σ : Sg) (d sec : Int) (hsec : 0 ≤ sec ∧ sec ≤ 20000) {n k N : Nat} (hI : Iv σ n k N) : Met l yX3_planned wsX3_planned { frames := 4, cells := 0, slots := 0, locals := 98 } (va_Pc [.ref (A 0), .int (iI d), .int (iI sec)] (rB G (MW G A r0 σ))) (oI (((bsS σ k (cnS σ n d k) sec (2 ^ k - 1) : Nat) : Int))) 0 0 (fun _ => False) := by
  refine rd_start (own := RX3) (cc := cX3_planned) (mL := 7) (ret := (some .int)) (by decide) rfl rfl (Nat.le_of_ble_eq_true rfl) ?_
  intro pP eE sS mM args bB meth cC ls F hr hlocks hP hK hl
  obtain ⟨hn, hn12, hk, hk6, hsg, haw, hch, hch1, hch0, htn, hto, htz, hpr, hN, hpz, hle, hlz⟩ := id hI
  obtain ⟨B, hB⟩ : ∃ B : Nat, B = 2 ^ k := ⟨_, rfl⟩
  have hB1 : shlI 1 (σ 2 0 0) = (B : Int) := by rw [hk, hB]; exact shl_ok k hk6
  have hB2 := pw_rg k hk6
  rw [← hB] at hB2
  have iX3 : ∀ x ∈ wsX30, x ∈ wsX3_planned := by decide +kernel
  have f45 := k_cond F (w := .fieldLink RX3 45 "ChoirPlannerModel" "pieces" "I") (by decide +kernel)
  have hl : lv_has ls 7 [(0, .ref (A 0)), (1, .int (iI d)), (2, .int (iI sec))] := hl
  refine k_iconst F dX3_planned_0 ?_
  refine lv_istore_n (lv' := [(3, .int (iI 0)), (0, .ref (A 0)), (1, .int (iI d)), (2, .int (iI sec))]) F.1 F.2.1 dX3_planned_1 rfl hl (by decide) rfl (fun ls hl => ?_)
  refine k_iconst F dX3_planned_2 ?_
  refine lv_istore (lv' := [(4, .int (iI 0)), (3, .int (iI 0)), (0, .ref (A 0)), (1, .int (iI d)), (2, .int (iI sec))]) F.1 F.2.1 dX3_planned_3 hl (by decide) rfl (fun ls hl => ?_)
  have J_1 : ∀ p : Nat, p ≤ k → ∀ ls : Array Slot, lv_has ls 7 [(3, .int (iI (cnS σ n d p))), (4, .int (iI (p : Int))), (0, .ref (A 0)), (1, .int (iI d)), (2, .int (iI sec))] → W pP l eE ({ frames := 4, cells := 0, slots := 0, locals := 98 }) sS mM args bB meth cC sS.heap [] 0 0 (MQ bB (oI (((bsS σ k (cnS σ n d k) sec (2 ^ k - 1) : Nat) : Int))) args sS 0 0 (fun _ => False)) (F0 mM 5 ls []) := by
    refine lp_up (k) ?_ ?_
    · intro ls hl
      refine lv_iload F.1 F.2.1 dX3_planned_5 (lv_at hl 1 rfl) ?_
      refine lv_aload_n F.1 F.2.1 dX3_planned_7 rfl (lv_at hl 2 rfl) ?_
      refine k_get F hK hP iX3 0 rfl rfl 6 (by decide) f45 rfl rfl dX3_planned_8 ?_
      refine k_icmp_ge F (tgt := 43) dX3_planned_11 (by decide) (by omega) (by omega) (fun c_3 => ?_) (fun c_3 => absurd c_3 (by omega))
      refine k_iconst F dX3_planned_43 ?_
      refine lv_istore (lv' := [(4, .int (iI 0)), (3, .int (iI (cnS σ n d k))), (0, .ref (A 0)), (1, .int (iI d)), (2, .int (iI sec))]) F.1 F.2.1 dX3_planned_44 hl (by decide) rfl (fun ls hl => ?_)
      refine k_iconst F dX3_planned_46 ?_
      refine lv_istore (lv' := [(5, .int (iI 1)), (4, .int (iI 0)), (3, .int (iI (cnS σ n d k))), (0, .ref (A 0)), (1, .int (iI d)), (2, .int (iI sec))]) F.1 F.2.1 dX3_planned_47 hl (by decide) rfl (fun ls hl => ?_)
      have J_4 : ∀ t : Nat, t ≤ (B - 1) → ∀ ls : Array Slot, lv_has ls 7 [(5, .int (iI ((t + 1 : Nat) : Int))), (4, .int (iI ((bsS σ k (cnS σ n d k) sec t : Nat) : Int))), (3, .int (iI (cnS σ n d k))), (0, .ref (A 0)), (1, .int (iI d)), (2, .int (iI sec))] → W pP l eE ({ frames := 4, cells := 0, slots := 0, locals := 98 }) sS mM args bB meth cC sS.heap [] 0 0 (MQ bB (oI (((bsS σ k (cnS σ n d k) sec (2 ^ k - 1) : Nat) : Int))) args sS 0 0 (fun _ => False)) (F0 mM 49 ls []) := by
        refine lp_up ((B - 1)) ?_ ?_
        · intro ls hl
          refine lv_iload F.1 F.2.1 dX3_planned_49 (lv_at hl 0 rfl) ?_
          refine k_iconst F dX3_planned_51 ?_
          refine lv_aload_n F.1 F.2.1 dX3_planned_52 rfl (lv_at hl 3 rfl) ?_
          refine k_get F hK hP iX3 0 rfl rfl 6 (by decide) f45 rfl rfl dX3_planned_53 ?_
          refine k_ishl F dX3_planned_56 ?_
          refine k_icmp_ge F (tgt := 117) dX3_planned_57 (by decide) (by omega) (iI_rg _) (fun c_6 => ?_) (fun c_6 => absurd c_6 (by omega))
          refine lv_iload F.1 F.2.1 dX3_planned_117 (lv_at hl 1 rfl) ?_
          exact k_ret F hr hlocks (by rw [hB]) dX3_planned_119
        · intro t hk9 ih ls hl
          have b1 := lnS_rg hle ((t + 1 : Nat) : Int) k
          have b2 := bsS_le σ k (cnS σ n d k) sec t
          refine lv_iload F.1 F.2.1 dX3_planned_49 (lv_at hl 0 rfl) ?_
          refine k_iconst F dX3_planned_51 ?_
          refine lv_aload_n F.1 F.2.1 dX3_planned_52 rfl (lv_at hl 3 rfl) ?_
          refine k_get F hK hP iX3 0 rfl rfl 6 (by decide) f45 rfl rfl dX3_planned_53 ?_
          refine k_ishl F dX3_planned_56 ?_
          refine k_icmp_ge F (tgt := 117) dX3_planned_57 (by decide) (by omega) (iI_rg _) (fun c_7 => absurd c_7 (by omega)) (fun c_7 => ?_)
          refine lv_iload F.1 F.2.1 dX3_planned_60 (lv_at hl 0 rfl) ?_
          refine lv_iload_n F.1 F.2.1 dX3_planned_62 rfl (lv_at hl 2 rfl) ?_
          refine k_iconst F dX3_planned_63 ?_
          refine k_ixor F dX3_planned_64 ?_
          refine k_iand F dX3_planned_65 ?_
          refine k_if_ne F (tgt := 83) dX3_planned_66 (by decide) (iI_rg _) (fun c_8 => ?_) (fun c_8 => ?_)
          · skip
            refine k_iconst F dX3_planned_83 ?_
            refine lv_istore (lv' := [(6, .int (iI 0)), (5, .int (iI ((t + 1 : Nat) : Int))), (4, .int (iI ((bsS σ k (cnS σ n d k) sec t : Nat) : Int))), (3, .int (iI (cnS σ n d k))), (0, .ref (A 0)), (1, .int (iI d)), (2, .int (iI sec))]) F.1 F.2.1 dX3_planned_84 hl (by decide) rfl (fun ls hl => ?_)
            refine lv_iload F.1 F.2.1 dX3_planned_86 (lv_at hl 0 rfl) ?_
            refine k_if_eq F (tgt := 107) dX3_planned_88 (by decide) (by decide) (fun c_9 => ?_) (fun c_9 => absurd c_9 (by omega))
            refine lv_iload F.1 F.2.1 dX3_planned_107 (lv_at hl 2 rfl) ?_
            refine lv_istore (lv' := [(4, .int (iI ((bsS σ k (cnS σ n d k) sec t : Nat) : Int))), (6, .int (iI 0)), (5, .int (iI ((t + 1 : Nat) : Int))), (3, .int (iI (cnS σ n d k))), (0, .ref (A 0)), (1, .int (iI d)), (2, .int (iI sec))]) F.1 F.2.1 dX3_planned_109 hl (by decide) rfl (fun ls hl => ?_)
            refine lv_iinc (v := iI (((t + 1 : Nat) : Int) + 1)) (lv' := [(5, .int (iI (((t + 1 : Nat) : Int) + 1))), (4, .int (iI ((bsS σ k (cnS σ n d k) sec t : Nat) : Int))), (6, .int (iI 0)), (3, .int (iI (cnS σ n d k))), (0, .ref (A 0)), (1, .int (iI d)), (2, .int (iI sec))]) F.1 F.2.1 dX3_planned_111 hl (k := 2) rfl (iI_add _ _) (by decide) rfl (fun ls hl => ?_)
            refine lv_goto (tgt := 49) F.1 F.2.1 dX3_planned_114 (by decide) ?_
            have e_10 : ((((t + 1 : Nat) : Int) + 1) : Int) = ((t + 1 + 1 : Nat) : Int) := rfl
            have e_11 : (((bsS σ k (cnS σ n d k) sec t : Nat) : Int) : Int) = ((bsS σ k (cnS σ n d k) sec (t + 1) : Nat) : Int) := by rw [bsS_s]; first | rw [if_pos ⟨⟨by assumption, by assumption⟩, by assumption⟩] | rw [if_neg (fun q => by first | exact absurd q.1.1 (by assumption) | (have := q.1.2; omega) | exact absurd q.2 (by assumption))]
            exact ih _ (lv_to (lv_to (lv_sub hl [0, 1, 3, 4, 5, 6] rfl) (congrArg (fun x9 : Int => ([(5, .int (iI x9)), (4, .int (iI ((bsS σ k (cnS σ n d k) sec t : Nat) : Int))), (3, .int (iI (cnS σ n d k))), (0, .ref (A 0)), (1, .int (iI d)), (2, .int (iI sec))] : List (Nat × Value))) e_10)) (congrArg (fun x9 : Int => ([(5, .int (iI ((t + 1 + 1 : Nat) : Int))), (4, .int (iI x9)), (3, .int (iI (cnS σ n d k))), (0, .ref (A 0)), (1, .int (iI d)), (2, .int (iI sec))] : List (Nat × Value))) e_11))
          · skip
            refine lv_aload_n F.1 F.2.1 dX3_planned_69 rfl (lv_at hl 3 rfl) ?_
            refine lv_iload F.1 F.2.1 dX3_planned_70 (lv_at hl 0 rfl) ?_
            refine rd_V F (n := 1) (w0 := []) (mX3_lengthOf l G A r0 σ ((t + 1 : Nat) : Int) hI) gX3_planned_X3_lengthOf rfl rfl rfl (by decide +kernel) ⟨Nat.le_of_ble_eq_true rfl, Nat.le_of_ble_eq_true rfl⟩ hK hP (ci := 3) (q0 := 0) rfl rfl rfl rfl hl.1 (Nat.le_of_ble_eq_true rfl) dX3_planned_72 ⟨Nat.zero_le _, Nat.zero_le _⟩ ?_
            refine lv_iload_n F.1 F.2.1 dX3_planned_75 rfl (lv_at hl 5 rfl) ?_
            refine k_icmp_gt F (tgt := 83) dX3_planned_76 (by decide) (by omega) (by omega) (fun c_12 => ?_) (fun c_12 => ?_)
            · skip
              refine k_iconst F dX3_planned_83 ?_
              refine lv_istore (lv' := [(6, .int (iI 0)), (5, .int (iI ((t + 1 : Nat) : Int))), (4, .int (iI ((bsS σ k (cnS σ n d k) sec t : Nat) : Int))), (3, .int (iI (cnS σ n d k))), (0, .ref (A 0)), (1, .int (iI d)), (2, .int (iI sec))]) F.1 F.2.1 dX3_planned_84 hl (by decide) rfl (fun ls hl => ?_)
              refine lv_iload F.1 F.2.1 dX3_planned_86 (lv_at hl 0 rfl) ?_
              refine k_if_eq F (tgt := 107) dX3_planned_88 (by decide) (by decide) (fun c_13 => ?_) (fun c_13 => absurd c_13 (by omega))
              refine lv_iload F.1 F.2.1 dX3_planned_107 (lv_at hl 2 rfl) ?_
              refine lv_istore (lv' := [(4, .int (iI ((bsS σ k (cnS σ n d k) sec t : Nat) : Int))), (6, .int (iI 0)), (5, .int (iI ((t + 1 : Nat) : Int))), (3, .int (iI (cnS σ n d k))), (0, .ref (A 0)), (1, .int (iI d)), (2, .int (iI sec))]) F.1 F.2.1 dX3_planned_109 hl (by decide) rfl (fun ls hl => ?_)
              refine lv_iinc (v := iI (((t + 1 : Nat) : Int) + 1)) (lv' := [(5, .int (iI (((t + 1 : Nat) : Int) + 1))), (4, .int (iI ((bsS σ k (cnS σ n d k) sec t : Nat) : Int))), (6, .int (iI 0)), (3, .int (iI (cnS σ n d k))), (0, .ref (A 0)), (1, .int (iI d)), (2, .int (iI sec))]) F.1 F.2.1 dX3_planned_111 hl (k := 2) rfl (iI_add _ _) (by decide) rfl (fun ls hl => ?_)
              refine lv_goto (tgt := 49) F.1 F.2.1 dX3_planned_114 (by decide) ?_
              have e_14 : ((((t + 1 : Nat) : Int) + 1) : Int) = ((t + 1 + 1 : Nat) : Int) := rfl
              have e_15 : (((bsS σ k (cnS σ n d k) sec t : Nat) : Int) : Int) = ((bsS σ k (cnS σ n d k) sec (t + 1) : Nat) : Int) := by rw [bsS_s]; first | rw [if_pos ⟨⟨by assumption, by assumption⟩, by assumption⟩] | rw [if_neg (fun q => by first | exact absurd q.1.1 (by assumption) | (have := q.1.2; omega) | exact absurd q.2 (by assumption))]
              exact ih _ (lv_to (lv_to (lv_sub hl [0, 1, 3, 4, 5, 6] rfl) (congrArg (fun x9 : Int => ([(5, .int (iI x9)), (4, .int (iI ((bsS σ k (cnS σ n d k) sec t : Nat) : Int))), (3, .int (iI (cnS σ n d k))), (0, .ref (A 0)), (1, .int (iI d)), (2, .int (iI sec))] : List (Nat × Value))) e_14)) (congrArg (fun x9 : Int => ([(5, .int (iI ((t + 1 + 1 : Nat) : Int))), (4, .int (iI x9)), (3, .int (iI (cnS σ n d k))), (0, .ref (A 0)), (1, .int (iI d)), (2, .int (iI sec))] : List (Nat × Value))) e_15))
            · skip
              refine k_iconst F dX3_planned_79 ?_
              refine lv_goto (tgt := 84) F.1 F.2.1 dX3_planned_80 (by decide) ?_
              refine lv_istore (lv' := [(6, .int (iI 1)), (5, .int (iI ((t + 1 : Nat) : Int))), (4, .int (iI ((bsS σ k (cnS σ n d k) sec t : Nat) : Int))), (3, .int (iI (cnS σ n d k))), (0, .ref (A 0)), (1, .int (iI d)), (2, .int (iI sec))]) F.1 F.2.1 dX3_planned_84 hl (by decide) rfl (fun ls hl => ?_)
              refine lv_iload F.1 F.2.1 dX3_planned_86 (lv_at hl 0 rfl) ?_
              refine k_if_eq F (tgt := 107) dX3_planned_88 (by decide) (by decide) (fun c_16 => absurd c_16 (by omega)) (fun c_16 => ?_)
              refine lv_aload_n F.1 F.2.1 dX3_planned_91 rfl (lv_at hl 4 rfl) ?_
              refine lv_iload F.1 F.2.1 dX3_planned_92 (lv_at hl 1 rfl) ?_
              refine lv_iload F.1 F.2.1 dX3_planned_94 (lv_at hl 2 rfl) ?_
              refine rd_V F (n := 2) (w0 := []) (mX3_isBetter l G A r0 σ (t + 1) (bsS σ k (cnS σ n d k) sec t) (by omega) (by omega) hI) gX3_planned_X3_isBetter rfl rfl rfl (by decide +kernel) ⟨Nat.le_of_ble_eq_true rfl, Nat.le_of_ble_eq_true rfl⟩ hK hP (ci := 3) (q0 := 0) rfl rfl rfl rfl hl.1 (Nat.le_of_ble_eq_true rfl) dX3_planned_96 ⟨Nat.zero_le _, Nat.zero_le _⟩ ?_
              refine k_ifb_eq F (tgt := 107) dX3_planned_99 (by decide) (fun c_17 => ?_) (fun c_17 => ?_)
              · skip
                refine lv_iload F.1 F.2.1 dX3_planned_107 (lv_at hl 2 rfl) ?_
                refine lv_istore (lv' := [(4, .int (iI ((bsS σ k (cnS σ n d k) sec t : Nat) : Int))), (6, .int (iI 1)), (5, .int (iI ((t + 1 : Nat) : Int))), (3, .int (iI (cnS σ n d k))), (0, .ref (A 0)), (1, .int (iI d)), (2, .int (iI sec))]) F.1 F.2.1 dX3_planned_109 hl (by decide) rfl (fun ls hl => ?_)
                refine lv_iinc (v := iI (((t + 1 : Nat) : Int) + 1)) (lv' := [(5, .int (iI (((t + 1 : Nat) : Int) + 1))), (4, .int (iI ((bsS σ k (cnS σ n d k) sec t : Nat) : Int))), (6, .int (iI 1)), (3, .int (iI (cnS σ n d k))), (0, .ref (A 0)), (1, .int (iI d)), (2, .int (iI sec))]) F.1 F.2.1 dX3_planned_111 hl (k := 2) rfl (iI_add _ _) (by decide) rfl (fun ls hl => ?_)
                refine lv_goto (tgt := 49) F.1 F.2.1 dX3_planned_114 (by decide) ?_
                have e_18 : ((((t + 1 : Nat) : Int) + 1) : Int) = ((t + 1 + 1 : Nat) : Int) := rfl
                have e_19 : (((bsS σ k (cnS σ n d k) sec t : Nat) : Int) : Int) = ((bsS σ k (cnS σ n d k) sec (t + 1) : Nat) : Int) := by rw [bsS_s]; first | rw [if_pos ⟨⟨by assumption, by assumption⟩, by assumption⟩] | rw [if_neg (fun q => by first | exact absurd q.1.1 (by assumption) | (have := q.1.2; omega) | exact absurd q.2 (by assumption))]
                exact ih _ (lv_to (lv_to (lv_sub hl [0, 1, 3, 4, 5, 6] rfl) (congrArg (fun x9 : Int => ([(5, .int (iI x9)), (4, .int (iI ((bsS σ k (cnS σ n d k) sec t : Nat) : Int))), (3, .int (iI (cnS σ n d k))), (0, .ref (A 0)), (1, .int (iI d)), (2, .int (iI sec))] : List (Nat × Value))) e_18)) (congrArg (fun x9 : Int => ([(5, .int (iI ((t + 1 + 1 : Nat) : Int))), (4, .int (iI x9)), (3, .int (iI (cnS σ n d k))), (0, .ref (A 0)), (1, .int (iI d)), (2, .int (iI sec))] : List (Nat × Value))) e_19))
              · skip
                refine lv_iload F.1 F.2.1 dX3_planned_102 (lv_at hl 1 rfl) ?_
                refine lv_goto (tgt := 109) F.1 F.2.1 dX3_planned_104 (by decide) ?_
                refine lv_istore (lv' := [(4, .int (iI ((t + 1 : Nat) : Int))), (6, .int (iI 1)), (5, .int (iI ((t + 1 : Nat) : Int))), (3, .int (iI (cnS σ n d k))), (0, .ref (A 0)), (1, .int (iI d)), (2, .int (iI sec))]) F.1 F.2.1 dX3_planned_109 hl (by decide) rfl (fun ls hl => ?_)
                refine lv_iinc (v := iI (((t + 1 : Nat) : Int) + 1)) (lv' := [(5, .int (iI (((t + 1 : Nat) : Int) + 1))), (4, .int (iI ((t + 1 : Nat) : Int))), (6, .int (iI 1)), (3, .int (iI (cnS σ n d k))), (0, .ref (A 0)), (1, .int (iI d)), (2, .int (iI sec))]) F.1 F.2.1 dX3_planned_111 hl (k := 2) rfl (iI_add _ _) (by decide) rfl (fun ls hl => ?_)
                refine lv_goto (tgt := 49) F.1 F.2.1 dX3_planned_114 (by decide) ?_
                have e_20 : ((((t + 1 : Nat) : Int) + 1) : Int) = ((t + 1 + 1 : Nat) : Int) := rfl
                have e_21 : (((t + 1 : Nat) : Int) : Int) = ((bsS σ k (cnS σ n d k) sec (t + 1) : Nat) : Int) := by rw [bsS_s]; first | rw [if_pos ⟨⟨by assumption, by assumption⟩, by assumption⟩] | rw [if_neg (fun q => by first | exact absurd q.1.1 (by assumption) | (have := q.1.2; omega) | exact absurd q.2 (by assumption))]
                exact ih _ (lv_to (lv_to (lv_sub hl [0, 1, 3, 4, 5, 6] rfl) (congrArg (fun x9 : Int => ([(5, .int (iI x9)), (4, .int (iI ((t + 1 : Nat) : Int))), (3, .int (iI (cnS σ n d k))), (0, .ref (A 0)), (1, .int (iI d)), (2, .int (iI sec))] : List (Nat × Value))) e_20)) (congrArg (fun x9 : Int => ([(5, .int (iI ((t + 1 + 1 : Nat) : Int))), (4, .int (iI x9)), (3, .int (iI (cnS σ n d k))), (0, .ref (A 0)), (1, .int (iI d)), (2, .int (iI sec))] : List (Nat × Value))) e_21))
      have e_22 : (1 : Int) = ((0 + 1 : Nat) : Int) := rfl
      have e_23 : (0 : Int) = ((bsS σ k (cnS σ n d k) sec 0 : Nat) : Int) := rfl
      exact J_4 0 (by omega) _ (lv_to (lv_to (lv_sub hl [0, 1, 2, 3, 4, 5] rfl) (congrArg (fun x9 : Int => ([(5, .int (iI x9)), (4, .int (iI 0)), (3, .int (iI (cnS σ n d k))), (0, .ref (A 0)), (1, .int (iI d)), (2, .int (iI sec))] : List (Nat × Value))) e_22)) (congrArg (fun x9 : Int => ([(5, .int (iI ((0 + 1 : Nat) : Int))), (4, .int (iI x9)), (3, .int (iI (cnS σ n d k))), (0, .ref (A 0)), (1, .int (iI d)), (2, .int (iI sec))] : List (Nat × Value))) e_23))
    · intro p hk9 ih ls hl
      have b1 := shS_rg σ p n d 13 (Nat.le_refl 13)
      refine lv_iload F.1 F.2.1 dX3_planned_5 (lv_at hl 1 rfl) ?_
      refine lv_aload_n F.1 F.2.1 dX3_planned_7 rfl (lv_at hl 2 rfl) ?_
      refine k_get F hK hP iX3 0 rfl rfl 6 (by decide) f45 rfl rfl dX3_planned_8 ?_
      refine k_icmp_ge F (tgt := 43) dX3_planned_11 (by decide) (by omega) (by omega) (fun c_24 => absurd c_24 (by omega)) (fun c_24 => ?_)
      refine lv_iload_n F.1 F.2.1 dX3_planned_14 rfl (lv_at hl 0 rfl) ?_
      refine lv_aload_n F.1 F.2.1 dX3_planned_15 rfl (lv_at hl 2 rfl) ?_
      refine lv_iload F.1 F.2.1 dX3_planned_16 (lv_at hl 1 rfl) ?_
      refine lv_iload_n F.1 F.2.1 dX3_planned_18 rfl (lv_at hl 3 rfl) ?_
      refine rd_V F (n := 2) (w0 := []) (mX3_shiftOf l G A r0 σ p d (by omega) hI) gX3_planned_X3_shiftOf rfl rfl rfl (by decide +kernel) ⟨Nat.le_of_ble_eq_true rfl, Nat.le_of_ble_eq_true rfl⟩ hK hP (ci := 3) (q0 := 0) rfl rfl rfl rfl hl.1 (Nat.le_of_ble_eq_true rfl) dX3_planned_19 ⟨Nat.zero_le _, Nat.zero_le _⟩ ?_
      refine k_bipush F dX3_planned_22 (by decide +kernel) ?_
      refine k_icmp_ne F (tgt := 31) dX3_planned_24 (by decide) (by omega) (by decide) (fun c_25 => ?_) (fun c_25 => ?_)
      · skip
        refine k_iconst F dX3_planned_31 ?_
        refine lv_iload F.1 F.2.1 dX3_planned_32 (lv_at hl 1 rfl) ?_
        refine k_ishl F dX3_planned_34 ?_
        refine k_ior F dX3_planned_35 ?_
        refine lv_istore_n (lv' := [(3, .int (iI (orI (cnS σ n d p) (shlI 1 (p : Int))))), (4, .int (iI (p : Int))), (0, .ref (A 0)), (1, .int (iI d)), (2, .int (iI sec))]) F.1 F.2.1 dX3_planned_36 rfl hl (by decide) rfl (fun ls hl => ?_)
        refine lv_iinc (v := iI ((p : Int) + 1)) (lv' := [(4, .int (iI ((p : Int) + 1))), (3, .int (iI (orI (cnS σ n d p) (shlI 1 (p : Int))))), (0, .ref (A 0)), (1, .int (iI d)), (2, .int (iI sec))]) F.1 F.2.1 dX3_planned_37 hl (k := 1) rfl (iI_add _ _) (by decide) rfl (fun ls hl => ?_)
        refine lv_goto (tgt := 5) F.1 F.2.1 dX3_planned_40 (by decide) ?_
        have e_26 : ((orI (cnS σ n d p) (shlI 1 (p : Int))) : Int) = cnS σ n d (p + 1) := by rw [cnS_s]; first | rw [if_pos (by assumption)] | rw [if_neg (by assumption)]
        have e_27 : (((p : Int) + 1) : Int) = ((p + 1 : Nat) : Int) := rfl
        exact ih _ (lv_to (lv_to (lv_sub hl [1, 0, 2, 3, 4] rfl) (congrArg (fun x9 : Int => ([(3, .int (iI x9)), (4, .int (iI ((p : Int) + 1))), (0, .ref (A 0)), (1, .int (iI d)), (2, .int (iI sec))] : List (Nat × Value))) e_26)) (congrArg (fun x9 : Int => ([(3, .int (iI (cnS σ n d (p + 1)))), (4, .int (iI x9)), (0, .ref (A 0)), (1, .int (iI d)), (2, .int (iI sec))] : List (Nat × Value))) e_27))
      · skip
        refine k_iconst F dX3_planned_27 ?_
        refine lv_goto (tgt := 35) F.1 F.2.1 dX3_planned_28 (by decide) ?_
        refine k_ior F dX3_planned_35 ?_
        refine lv_istore_n (lv' := [(3, .int (iI (orI (cnS σ n d p) 0))), (4, .int (iI (p : Int))), (0, .ref (A 0)), (1, .int (iI d)), (2, .int (iI sec))]) F.1 F.2.1 dX3_planned_36 rfl hl (by decide) rfl (fun ls hl => ?_)
        refine lv_iinc (v := iI ((p : Int) + 1)) (lv' := [(4, .int (iI ((p : Int) + 1))), (3, .int (iI (orI (cnS σ n d p) 0))), (0, .ref (A 0)), (1, .int (iI d)), (2, .int (iI sec))]) F.1 F.2.1 dX3_planned_37 hl (k := 1) rfl (iI_add _ _) (by decide) rfl (fun ls hl => ?_)
        refine lv_goto (tgt := 5) F.1 F.2.1 dX3_planned_40 (by decide) ?_
        have e_28 : ((orI (cnS σ n d p) 0) : Int) = cnS σ n d (p + 1) := by rw [cnS_s]; first | rw [if_pos (by assumption)] | rw [if_neg (by assumption)]
        have e_29 : (((p : Int) + 1) : Int) = ((p + 1 : Nat) : Int) := rfl
        exact ih _ (lv_to (lv_to (lv_sub hl [1, 0, 2, 3, 4] rfl) (congrArg (fun x9 : Int => ([(3, .int (iI x9)), (4, .int (iI ((p : Int) + 1))), (0, .ref (A 0)), (1, .int (iI d)), (2, .int (iI sec))] : List (Nat × Value))) e_28)) (congrArg (fun x9 : Int => ([(3, .int (iI (cnS σ n d (p + 1)))), (4, .int (iI x9)), (0, .ref (A 0)), (1, .int (iI d)), (2, .int (iI sec))] : List (Nat × Value))) e_29))
  have e_30 : (0 : Int) = cnS σ n d 0 := rfl
  have e_31 : (0 : Int) = ((0 : Nat) : Int) := rfl
  exact J_1 0 (by omega) _ (lv_to (lv_to (lv_sub hl [1, 0, 2, 3, 4] rfl) (congrArg (fun x9 : Int => ([(3, .int (iI x9)), (4, .int (iI 0)), (0, .ref (A 0)), (1, .int (iI d)), (2, .int (iI sec))] : List (Nat × Value))) e_30)) (congrArg (fun x9 : Int => ([(3, .int (iI (cnS σ n d 0))), (4, .int (iI x9)), (0, .ref (A 0)), (1, .int (iI d)), (2, .int (iI sec))] : List (Nat × Value))) e_31))

set_option maxHeartbeats 4000000 in
set_option maxRecDepth 100000 in
theorem mX3_weaknessOf (l : Launch) (G : gT) (A : Nat → Nat) (r0 : Int) (σ : Sg) (i c : Nat) (hi : i ≤ 5) (hc : c < 16) {n k N : Nat} (hI : Iv σ n k N) : Met l yX3_weaknessOf wsX3_weaknessOf { frames := 3, cells := 0, slots := 0, locals := 76 } (va_Pc [.ref (A 0), .int (iI (i : Int)), .int (iI (c : Int))] (rB G (MW G A r0 σ))) (oI (wkS σ i c)) 0 0 (fun _ => False) := by
  refine rd_start (own := RX3) (cc := cX3_weaknessOf) (mL := 4) (ret := (some .int)) (by decide) rfl rfl (Nat.le_of_ble_eq_true rfl) ?_
  intro pP eE sS mM args bB meth cC ls F hr hlocks hP hK hl
  obtain ⟨hn, hn12, hk, hk6, hsg, haw, hch, hch1, hch0, htn, hto, htz, hpr, hN, hpz, hle, hlz⟩ := id hI
  have b1 := mvf_rg (σ 7 i) c
  have b2 := hpr i c
  have iX3 : ∀ x ∈ wsX30, x ∈ wsX3_weaknessOf := by decide +kernel
  have f31 := k_cond F (w := .fieldLink RX3 31 "ChoirPlannerModel" "practice" "[I") (by decide +kernel)
  have hl : lv_has ls 4 [(0, .ref (A 0)), (1, .int (iI (i : Int))), (2, .int (iI (c : Int)))] := hl
  refine k_bipush F dX3_weaknessOf_0 (by decide +kernel) ?_
  refine k_iconst F dX3_weaknessOf_2 ?_
  refine lv_aload_n F.1 F.2.1 dX3_weaknessOf_3 rfl (lv_at hl 0 rfl) ?_
  refine lv_iload_n F.1 F.2.1 dX3_weaknessOf_4 rfl (lv_at hl 1 rfl) ?_
  refine lv_iload_n F.1 F.2.1 dX3_weaknessOf_5 rfl (lv_at hl 2 rfl) ?_
  refine rd_V F (n := 2) (w0 := []) (mX3_faultsOf l G A r0 σ i c (by omega) (by omega) hI) gX3_weaknessOf_X3_faultsOf rfl rfl rfl (by decide +kernel) ⟨Nat.le_of_ble_eq_true rfl, Nat.le_of_ble_eq_true rfl⟩ hK hP (ci := 3) (q0 := 0) rfl rfl rfl rfl hl.1 (Nat.le_of_ble_eq_true rfl) dX3_weaknessOf_6 ⟨Nat.zero_le _, Nat.zero_le _⟩ ?_
  refine k_imul F rfl dX3_weaknessOf_9 ?_
  refine k_iadd F rfl dX3_weaknessOf_10 ?_
  refine lv_aload_n F.1 F.2.1 dX3_weaknessOf_11 rfl (lv_at hl 0 rfl) ?_
  refine k_get F hK hP iX3 0 rfl rfl 10 (by decide) f31 rfl rfl dX3_weaknessOf_12 ?_
  refine k_bipush F dX3_weaknessOf_15 (by decide +kernel) ?_
  refine lv_iload_n F.1 F.2.1 dX3_weaknessOf_17 rfl (lv_at hl 1 rfl) ?_
  refine k_imul F rfl dX3_weaknessOf_18 ?_
  refine lv_iload_n F.1 F.2.1 dX3_weaknessOf_19 rfl (lv_at hl 2 rfl) ?_
  refine k_iadd F rfl dX3_weaknessOf_20 ?_
  refine k_iald F hK hP 8 rfl (16 * i + c) (by omega) (by omega) (by decide) (pr_ix σ i c (by omega)) dX3_weaknessOf_21 ?_
  refine k_isub F rfl dX3_weaknessOf_22 ?_
  refine lv_istore_n (lv' := [(3, .int (iI ((10 + (5 * (mvf (σ 7 i) c))) - (σ 10 i c)))), (0, .ref (A 0)), (1, .int (iI (i : Int))), (2, .int (iI (c : Int)))]) F.1 F.2.1 dX3_weaknessOf_23 rfl hl (by decide) rfl (fun ls hl => ?_)
  refine lv_iload_n F.1 F.2.1 dX3_weaknessOf_24 rfl (lv_at hl 0 rfl) ?_
  refine k_if_le F (tgt := 32) dX3_weaknessOf_25 (by decide) (by omega) (fun c_1 => ?_) (fun c_1 => ?_)
  · skip
    refine k_iconst F dX3_weaknessOf_32 ?_
    exact k_ret F hr hlocks (by unfold wkS; first | rw [if_pos (by omega)] | rw [if_neg (by omega)]) dX3_weaknessOf_33
  · skip
    refine lv_iload_n F.1 F.2.1 dX3_weaknessOf_28 rfl (lv_at hl 0 rfl) ?_
    refine lv_goto (tgt := 33) F.1 F.2.1 dX3_weaknessOf_29 (by decide) ?_
    exact k_ret F hr hlocks (by unfold wkS; first | rw [if_pos (by omega)] | rw [if_neg (by omega)]) dX3_weaknessOf_33

set_option maxHeartbeats 4000000 in
set_option maxRecDepth 100000 in
theorem mX3_weakestOf (l : Launch) (G : gT) (A : Nat → Nat) (r0 : Int) (σ : Sg) (i : Nat) (hi : i ≤ 5) {n k N : Nat} (hI : Iv σ n k N) : Met l yX3_weakestOf wsX3_weakestOf { frames := 4, cells := 0, slots := 0, locals := 99 } (va_Pc [.ref (A 0), .int (iI (i : Int))] (rB G (MW G A r0 σ))) (oI (((wkq σ i : Nat) : Int))) 0 0 (fun _ => False) := by
  refine rd_start (own := RX3) (cc := cX3_weakestOf) (mL := 4) (ret := (some .int)) (by decide) rfl rfl (Nat.le_of_ble_eq_true rfl) ?_
  intro pP eE sS mM args bB meth cC ls F hr hlocks hP hK hl
  obtain ⟨hn, hn12, hk, hk6, hsg, haw, hch, hch1, hch0, htn, hto, htz, hpr, hN, hpz, hle, hlz⟩ := id hI
  have hci := hch i
  have iX3 : ∀ x ∈ wsX30, x ∈ wsX3_weakestOf := by decide +kernel
  have f25 := k_cond F (w := .fieldLink RX3 25 "ChoirPlannerModel" "chords" "[I") (by decide +kernel)
  have hl : lv_has ls 4 [(0, .ref (A 0)), (1, .int (iI (i : Int)))] := hl
  refine k_iconst F dX3_weakestOf_0 ?_
  refine lv_istore_n (lv' := [(2, .int (iI 0)), (0, .ref (A 0)), (1, .int (iI (i : Int)))]) F.1 F.2.1 dX3_weakestOf_1 rfl hl (by decide) rfl (fun ls hl => ?_)
  refine k_iconst F dX3_weakestOf_2 ?_
  refine lv_istore_n (lv' := [(3, .int (iI 1)), (2, .int (iI 0)), (0, .ref (A 0)), (1, .int (iI (i : Int)))]) F.1 F.2.1 dX3_weakestOf_3 rfl hl (by decide) rfl (fun ls hl => ?_)
  have J_1 : ∀ c : Nat, c ≤ ((σ 8 i 0).toNat - 1) → ∀ ls : Array Slot, lv_has ls 4 [(2, .int (iI ((wkt σ i c : Nat) : Int))), (3, .int (iI ((c + 1 : Nat) : Int))), (0, .ref (A 0)), (1, .int (iI (i : Int)))] → W pP l eE ({ frames := 4, cells := 0, slots := 0, locals := 99 }) sS mM args bB meth cC sS.heap [] 0 0 (MQ bB (oI (((wkq σ i : Nat) : Int))) args sS 0 0 (fun _ => False)) (F0 mM 4 ls []) := by
    refine lp_up (((σ 8 i 0).toNat - 1)) ?_ ?_
    · intro ls hl
      refine lv_iload_n F.1 F.2.1 dX3_weakestOf_4 rfl (lv_at hl 1 rfl) ?_
      refine lv_aload_n F.1 F.2.1 dX3_weakestOf_5 rfl (lv_at hl 2 rfl) ?_
      refine k_get F hK hP iX3 0 rfl rfl 8 (by decide) f25 rfl rfl dX3_weakestOf_6 ?_
      refine lv_iload_n F.1 F.2.1 dX3_weakestOf_9 rfl (lv_at hl 3 rfl) ?_
      refine k_iald F hK hP 6 rfl i (by omega) (by omega) (by decide) rfl dX3_weakestOf_10 ?_
      refine k_icmp_ge F (tgt := 41) dX3_weakestOf_11 (by decide) (by omega) (by omega) (fun c_3 => ?_) (fun c_3 => absurd c_3 (by omega))
      refine lv_iload_n F.1 F.2.1 dX3_weakestOf_41 rfl (lv_at hl 0 rfl) ?_
      exact k_ret F hr hlocks rfl dX3_weakestOf_42
    · intro c hk9 ih ls hl
      have b0 := wkt_le σ i c
      have b1 := wkS_rg (σ := σ) (i := i) (c := c + 1) (hpr i (c + 1)).1
      have b2 := wkS_rg (σ := σ) (i := i) (c := wkt σ i c) (hpr i _).1
      refine lv_iload_n F.1 F.2.1 dX3_weakestOf_4 rfl (lv_at hl 1 rfl) ?_
      refine lv_aload_n F.1 F.2.1 dX3_weakestOf_5 rfl (lv_at hl 2 rfl) ?_
      refine k_get F hK hP iX3 0 rfl rfl 8 (by decide) f25 rfl rfl dX3_weakestOf_6 ?_
      refine lv_iload_n F.1 F.2.1 dX3_weakestOf_9 rfl (lv_at hl 3 rfl) ?_
      refine k_iald F hK hP 6 rfl i (by omega) (by omega) (by decide) rfl dX3_weakestOf_10 ?_
      refine k_icmp_ge F (tgt := 41) dX3_weakestOf_11 (by decide) (by omega) (by omega) (fun c_4 => absurd c_4 (by omega)) (fun c_4 => ?_)
      refine lv_aload_n F.1 F.2.1 dX3_weakestOf_14 rfl (lv_at hl 2 rfl) ?_
      refine lv_iload_n F.1 F.2.1 dX3_weakestOf_15 rfl (lv_at hl 3 rfl) ?_
      refine lv_iload_n F.1 F.2.1 dX3_weakestOf_16 rfl (lv_at hl 1 rfl) ?_
      refine rd_V F (n := 2) (w0 := []) (mX3_weaknessOf l G A r0 σ i (c + 1) (by omega) (by omega) hI) gX3_weakestOf_X3_weaknessOf rfl rfl rfl (by decide +kernel) ⟨Nat.le_of_ble_eq_true rfl, Nat.le_of_ble_eq_true rfl⟩ hK hP (ci := 3) (q0 := 0) rfl rfl rfl rfl hl.1 (Nat.le_of_ble_eq_true rfl) dX3_weakestOf_17 ⟨Nat.zero_le _, Nat.zero_le _⟩ ?_
      refine lv_aload_n F.1 F.2.1 dX3_weakestOf_20 rfl (lv_at hl 2 rfl) ?_
      refine lv_iload_n F.1 F.2.1 dX3_weakestOf_21 rfl (lv_at hl 3 rfl) ?_
      refine lv_iload_n F.1 F.2.1 dX3_weakestOf_22 rfl (lv_at hl 0 rfl) ?_
      refine rd_V F (n := 2) (w0 := []) (mX3_weaknessOf l G A r0 σ i (wkt σ i c) (by omega) (by omega) hI) gX3_weakestOf_X3_weaknessOf rfl rfl rfl (by decide +kernel) ⟨Nat.le_of_ble_eq_true rfl, Nat.le_of_ble_eq_true rfl⟩ hK hP (ci := 3) (q0 := 0) rfl rfl rfl rfl hl.1 (Nat.le_of_ble_eq_true rfl) dX3_weakestOf_23 ⟨Nat.zero_le _, Nat.zero_le _⟩ ?_
      refine k_icmp_le F (tgt := 33) dX3_weakestOf_26 (by decide) (by omega) (by omega) (fun c_5 => ?_) (fun c_5 => ?_)
      · skip
        refine lv_iload_n F.1 F.2.1 dX3_weakestOf_33 rfl (lv_at hl 0 rfl) ?_
        refine lv_istore_n (lv' := [(2, .int (iI ((wkt σ i c : Nat) : Int))), (3, .int (iI ((c + 1 : Nat) : Int))), (0, .ref (A 0)), (1, .int (iI (i : Int)))]) F.1 F.2.1 dX3_weakestOf_34 rfl hl (by decide) rfl (fun ls hl => ?_)
        refine lv_iinc (v := iI (((c + 1 : Nat) : Int) + 1)) (lv' := [(3, .int (iI (((c + 1 : Nat) : Int) + 1))), (2, .int (iI ((wkt σ i c : Nat) : Int))), (0, .ref (A 0)), (1, .int (iI (i : Int)))]) F.1 F.2.1 dX3_weakestOf_35 hl (k := 1) rfl (iI_add _ _) (by decide) rfl (fun ls hl => ?_)
        refine lv_goto (tgt := 4) F.1 F.2.1 dX3_weakestOf_38 (by decide) ?_
        have e_6 : (((wkt σ i c : Nat) : Int) : Int) = ((wkt σ i (c + 1) : Nat) : Int) := by rw [wkt_s]; first | rw [if_pos (by omega)] | rw [if_neg (by omega)]
        have e_7 : ((((c + 1 : Nat) : Int) + 1) : Int) = ((c + 1 + 1 : Nat) : Int) := rfl
        exact ih _ (lv_to (lv_to (lv_sub hl [1, 0, 2, 3] rfl) (congrArg (fun x9 : Int => ([(2, .int (iI x9)), (3, .int (iI (((c + 1 : Nat) : Int) + 1))), (0, .ref (A 0)), (1, .int (iI (i : Int)))] : List (Nat × Value))) e_6)) (congrArg (fun x9 : Int => ([(2, .int (iI ((wkt σ i (c + 1) : Nat) : Int))), (3, .int (iI x9)), (0, .ref (A 0)), (1, .int (iI (i : Int)))] : List (Nat × Value))) e_7))
      · skip
        refine lv_iload_n F.1 F.2.1 dX3_weakestOf_29 rfl (lv_at hl 1 rfl) ?_
        refine lv_goto (tgt := 34) F.1 F.2.1 dX3_weakestOf_30 (by decide) ?_
        refine lv_istore_n (lv' := [(2, .int (iI ((c + 1 : Nat) : Int))), (3, .int (iI ((c + 1 : Nat) : Int))), (0, .ref (A 0)), (1, .int (iI (i : Int)))]) F.1 F.2.1 dX3_weakestOf_34 rfl hl (by decide) rfl (fun ls hl => ?_)
        refine lv_iinc (v := iI (((c + 1 : Nat) : Int) + 1)) (lv' := [(3, .int (iI (((c + 1 : Nat) : Int) + 1))), (2, .int (iI ((c + 1 : Nat) : Int))), (0, .ref (A 0)), (1, .int (iI (i : Int)))]) F.1 F.2.1 dX3_weakestOf_35 hl (k := 1) rfl (iI_add _ _) (by decide) rfl (fun ls hl => ?_)
        refine lv_goto (tgt := 4) F.1 F.2.1 dX3_weakestOf_38 (by decide) ?_
        have e_8 : (((c + 1 : Nat) : Int) : Int) = ((wkt σ i (c + 1) : Nat) : Int) := by rw [wkt_s]; first | rw [if_pos (by omega)] | rw [if_neg (by omega)]
        have e_9 : ((((c + 1 : Nat) : Int) + 1) : Int) = ((c + 1 + 1 : Nat) : Int) := rfl
        exact ih _ (lv_to (lv_to (lv_sub hl [1, 0, 2, 3] rfl) (congrArg (fun x9 : Int => ([(2, .int (iI x9)), (3, .int (iI (((c + 1 : Nat) : Int) + 1))), (0, .ref (A 0)), (1, .int (iI (i : Int)))] : List (Nat × Value))) e_8)) (congrArg (fun x9 : Int => ([(2, .int (iI ((wkt σ i (c + 1) : Nat) : Int))), (3, .int (iI x9)), (0, .ref (A 0)), (1, .int (iI (i : Int)))] : List (Nat × Value))) e_9))
  have e_10 : (0 : Int) = ((wkt σ i 0 : Nat) : Int) := rfl
  have e_11 : (1 : Int) = ((0 + 1 : Nat) : Int) := rfl
  exact J_1 0 (by omega) _ (lv_to (lv_to (lv_sub hl [1, 0, 2, 3] rfl) (congrArg (fun x9 : Int => ([(2, .int (iI x9)), (3, .int (iI 1)), (0, .ref (A 0)), (1, .int (iI (i : Int)))] : List (Nat × Value))) e_10)) (congrArg (fun x9 : Int => ([(2, .int (iI ((wkt σ i 0 : Nat) : Int))), (3, .int (iI x9)), (0, .ref (A 0)), (1, .int (iI (i : Int)))] : List (Nat × Value))) e_11))
