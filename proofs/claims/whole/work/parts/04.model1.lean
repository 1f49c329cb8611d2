set_option maxHeartbeats 4000000 in
set_option maxRecDepth 100000 in
theorem mX3_in (l : Launch) (G : gT) (w : va_W) (v lo hi : Int) (hv : -2147483648 ≤ v ∧ v < 2147483648) (hlo : -2147483648 ≤ lo ∧ lo < 2147483648) (hhi : -2147483648 ≤ hi ∧ hi < 2147483648) : Met l yX3_in wsX3_in { frames := 0, cells := 0, slots := 0, locals := 0 } (va_Pc [.int (iI v), .int (iI lo), .int (iI hi)] (rB G (w))) (oI (bI (lo ≤ v ∧ v ≤ hi))) 0 0 (fun _ => False) := by
  refine rd_start (own := RX3) (cc := cX3_in) (mL := 3) (ret := (some .boolean)) (by decide) rfl rfl (Nat.le_of_ble_eq_true rfl) ?_
  intro pP eE sS mM args bB meth cC ls F hr hlocks hP hK hl
  have hl : lv_has ls 3 [(0, .int (iI v)), (1, .int (iI lo)), (2, .int (iI hi))] := hl
  refine lv_iload_n F.1 F.2.1 dX3_in_0 rfl (lv_at hl 0 rfl) ?_
  refine lv_iload_n F.1 F.2.1 dX3_in_1 rfl (lv_at hl 1 rfl) ?_
  refine k_icmp_lt F (tgt := 14) dX3_in_2 (by decide) (by omega) (by omega) (fun c_1 => ?_) (fun c_1 => ?_)
  · skip
    refine k_iconst F dX3_in_14 ?_
    exact k_zret F hr hlocks (bI_f (by omega)).symm (Or.inl rfl) dX3_in_15
  · skip
    refine lv_iload_n F.1 F.2.1 dX3_in_5 rfl (lv_at hl 0 rfl) ?_
    refine lv_iload_n F.1 F.2.1 dX3_in_6 rfl (lv_at hl 2 rfl) ?_
    refine k_icmp_gt F (tgt := 14) dX3_in_7 (by decide) (by omega) (by omega) (fun c_2 => ?_) (fun c_2 => ?_)
    · skip
      refine k_iconst F dX3_in_14 ?_
      exact k_zret F hr hlocks (bI_f (by omega)).symm (Or.inl rfl) dX3_in_15
    · skip
      refine k_iconst F dX3_in_10 ?_
      refine lv_goto (tgt := 15) F.1 F.2.1 dX3_in_11 (by decide) ?_
      exact k_zret F hr hlocks (bI_t (by omega)).symm (Or.inr rfl) dX3_in_15

set_option maxHeartbeats 4000000 in
set_option maxRecDepth 100000 in
theorem mX3_isVoice (l : Launch) (G : gT) (w : va_W) (v : Int) (hv : -2147483648 ≤ v ∧ v < 2147483648) : Met l yX3_isVoice wsX3_isVoice { frames := 1, cells := 0, slots := 0, locals := 22 } (va_Pc [.int (iI v)] (rB G (w))) (oI (bI (0 ≤ v ∧ v ≤ 3))) 0 0 (fun _ => False) := by
  refine rd_start (own := RX3) (cc := cX3_isVoice) (mL := 1) (ret := (some .boolean)) (by decide) rfl rfl (Nat.le_of_ble_eq_true rfl) ?_
  intro pP eE sS mM args bB meth cC ls F hr hlocks hP hK hl
  have hl : lv_has ls 1 [(0, .int (iI v))] := hl
  refine lv_iload_n F.1 F.2.1 dX3_isVoice_0 rfl (lv_at hl 0 rfl) ?_
  refine k_iconst F dX3_isVoice_1 ?_
  refine k_iconst F dX3_isVoice_2 ?_
  refine rd_S F (n := 3) (w0 := []) (mX3_in l G w v 0 3 (by omega) (by decide) (by decide)) gX3_isVoice_X3_in rfl rfl rfl (by decide +kernel) ⟨Nat.le_of_ble_eq_true rfl, Nat.le_of_ble_eq_true rfl⟩ hK hP rfl rfl hl.1 (Nat.le_of_ble_eq_true rfl) dX3_isVoice_3 ⟨Nat.zero_le _, Nat.zero_le _⟩ ?_
  exact k_zret F hr hlocks rfl (bI_01 _) dX3_isVoice_6

set_option maxHeartbeats 4000000 in
set_option maxRecDepth 100000 in
theorem mX3_isDate (l : Launch) (G : gT) (w : va_W) (v : Int) (hv : -2147483648 ≤ v ∧ v < 2147483648) : Met l yX3_isDate wsX3_isDate { frames := 1, cells := 0, slots := 0, locals := 22 } (va_Pc [.int (iI v)] (rB G (w))) (oI (bI (0 ≤ v ∧ v ≤ 30))) 0 0 (fun _ => False) := by
  refine rd_start (own := RX3) (cc := cX3_isDate) (mL := 1) (ret := (some .boolean)) (by decide) rfl rfl (Nat.le_of_ble_eq_true rfl) ?_
  intro pP eE sS mM args bB meth cC ls F hr hlocks hP hK hl
  have hl : lv_has ls 1 [(0, .int (iI v))] := hl
  refine lv_iload_n F.1 F.2.1 dX3_isDate_0 rfl (lv_at hl 0 rfl) ?_
  refine k_iconst F dX3_isDate_1 ?_
  refine k_bipush F dX3_isDate_2 (by decide +kernel) ?_
  refine rd_S F (n := 3) (w0 := []) (mX3_in l G w v 0 30 (by omega) (by decide) (by decide)) gX3_isDate_X3_in rfl rfl rfl (by decide +kernel) ⟨Nat.le_of_ble_eq_true rfl, Nat.le_of_ble_eq_true rfl⟩ hK hP rfl rfl hl.1 (Nat.le_of_ble_eq_true rfl) dX3_isDate_4 ⟨Nat.zero_le _, Nat.zero_le _⟩ ?_
  exact k_zret F hr hlocks rfl (bI_01 _) dX3_isDate_7

set_option maxHeartbeats 4000000 in
set_option maxRecDepth 100000 in
theorem mX3_isTone (l : Launch) (G : gT) (w : va_W) (v : Int) (hv : -2147483648 ≤ v ∧ v < 2147483648) : Met l yX3_isTone wsX3_isTone { frames := 1, cells := 0, slots := 0, locals := 22 } (va_Pc [.int (iI v)] (rB G (w))) (oI (bI (0 ≤ v ∧ v ≤ 60))) 0 0 (fun _ => False) := by
  refine rd_start (own := RX3) (cc := cX3_isTone) (mL := 1) (ret := (some .boolean)) (by decide) rfl rfl (Nat.le_of_ble_eq_true rfl) ?_
  intro pP eE sS mM args bB meth cC ls F hr hlocks hP hK hl
  have hl : lv_has ls 1 [(0, .int (iI v))] := hl
  refine lv_iload_n F.1 F.2.1 dX3_isTone_0 rfl (lv_at hl 0 rfl) ?_
  refine k_iconst F dX3_isTone_1 ?_
  refine k_bipush F dX3_isTone_2 (by decide +kernel) ?_
  refine rd_S F (n := 3) (w0 := []) (mX3_in l G w v 0 60 (by omega) (by decide) (by decide)) gX3_isTone_X3_in rfl rfl rfl (by decide +kernel) ⟨Nat.le_of_ble_eq_true rfl, Nat.le_of_ble_eq_true rfl⟩ hK hP rfl rfl hl.1 (Nat.le_of_ble_eq_true rfl) dX3_isTone_4 ⟨Nat.zero_le _, Nat.zero_le _⟩ ?_
  exact k_zret F hr hlocks rfl (bI_01 _) dX3_isTone_7

set_option maxHeartbeats 4000000 in
set_option maxRecDepth 100000 in
theorem mX3_isSinger (l : Launch) (G : gT) (A : Nat → Nat) (r0 : Int) (σ : Sg) (x : Int) (hx : -2147483648 ≤ x ∧ x < 2147483648) {n k N : Nat} (hI : Iv σ n k N) : Met l yX3_isSinger wsX3_isSinger { frames := 1, cells := 0, slots := 0, locals := 22 } (va_Pc [.ref (A 0), .int (iI x)] (rB G (MW G A r0 σ))) (oI (bI (0 ≤ x ∧ x ≤ σ 1 0 0 - 1))) 0 0 (fun _ => False) := by
  refine rd_start (own := RX3) (cc := cX3_isSinger) (mL := 2) (ret := (some .boolean)) (by decide) rfl rfl (Nat.le_of_ble_eq_true rfl) ?_
  intro pP eE sS mM args bB meth cC ls F hr hlocks hP hK hl
  obtain ⟨hn, hn12, hk, hk6, hsg, haw, hch, hch1, hch0, htn, hto, htz, hpr, hN, hpz, hle, hlz⟩ := id hI
  have iX3 : ∀ x ∈ wsX30, x ∈ wsX3_isSinger := by decide +kernel
  have f42 := k_cond F (w := .fieldLink RX3 42 "ChoirPlannerModel" "singers" "I") (by decide +kernel)
  have hl : lv_has ls 2 [(0, .ref (A 0)), (1, .int (iI x))] := hl
  refine lv_iload_n F.1 F.2.1 dX3_isSinger_0 rfl (lv_at hl 1 rfl) ?_
  refine k_iconst F dX3_isSinger_1 ?_
  refine lv_aload_n F.1 F.2.1 dX3_isSinger_2 rfl (lv_at hl 0 rfl) ?_
  refine k_get F hK hP iX3 0 rfl rfl 1 (by decide) f42 rfl rfl dX3_isSinger_3 ?_
  refine k_iconst F dX3_isSinger_6 ?_
  refine k_isub F rfl dX3_isSinger_7 ?_
  refine rd_S F (n := 3) (w0 := []) (mX3_in l G (MW G A r0 σ) x 0 (σ 1 0 0 - 1) (by omega) (by decide) (by omega)) gX3_isSinger_X3_in rfl rfl rfl (by decide +kernel) ⟨Nat.le_of_ble_eq_true rfl, Nat.le_of_ble_eq_true rfl⟩ hK hP rfl rfl hl.1 (Nat.le_of_ble_eq_true rfl) dX3_isSinger_8 ⟨Nat.zero_le _, Nat.zero_le _⟩ ?_
  exact k_zret F hr hlocks rfl (bI_01 _) dX3_isSinger_11

set_option maxHeartbeats 4000000 in
set_option maxRecDepth 100000 in
theorem mX3_isPiece (l : Launch) (G : gT) (A : Nat → Nat) (r0 : Int) (σ : Sg) (x : Int) (hx : -2147483648 ≤ x ∧ x < 2147483648) {n k N : Nat} (hI : Iv σ n k N) : Met l yX3_isPiece wsX3_isPiece { frames := 1, cells := 0, slots := 0, locals := 22 } (va_Pc [.ref (A 0), .int (iI x)] (rB G (MW G A r0 σ))) (oI (bI (0 ≤ x ∧ x ≤ σ 2 0 0 - 1))) 0 0 (fun _ => False) := by
  refine rd_start (own := RX3) (cc := cX3_isPiece) (mL := 2) (ret := (some .boolean)) (by decide) rfl rfl (Nat.le_of_ble_eq_true rfl) ?_
  intro pP eE sS mM args bB meth cC ls F hr hlocks hP hK hl
  obtain ⟨hn, hn12, hk, hk6, hsg, haw, hch, hch1, hch0, htn, hto, htz, hpr, hN, hpz, hle, hlz⟩ := id hI
  have iX3 : ∀ x ∈ wsX30, x ∈ wsX3_isPiece := by decide +kernel
  have f45 := k_cond F (w := .fieldLink RX3 45 "ChoirPlannerModel" "pieces" "I") (by decide +kernel)
  have hl : lv_has ls 2 [(0, .ref (A 0)), (1, .int (iI x))] := hl
  refine lv_iload_n F.1 F.2.1 dX3_isPiece_0 rfl (lv_at hl 1 rfl) ?_
  refine k_iconst F dX3_isPiece_1 ?_
  refine lv_aload_n F.1 F.2.1 dX3_isPiece_2 rfl (lv_at hl 0 rfl) ?_
  refine k_get F hK hP iX3 0 rfl rfl 6 (by decide) f45 rfl rfl dX3_isPiece_3 ?_
  refine k_iconst F dX3_isPiece_6 ?_
  refine k_isub F rfl dX3_isPiece_7 ?_
  refine rd_S F (n := 3) (w0 := []) (mX3_in l G (MW G A r0 σ) x 0 (σ 2 0 0 - 1) (by omega) (by decide) (by omega)) gX3_isPiece_X3_in rfl rfl rfl (by decide +kernel) ⟨Nat.le_of_ble_eq_true rfl, Nat.le_of_ble_eq_true rfl⟩ hK hP rfl rfl hl.1 (Nat.le_of_ble_eq_true rfl) dX3_isPiece_8 ⟨Nat.zero_le _, Nat.zero_le _⟩ ?_
  exact k_zret F hr hlocks rfl (bI_01 _) dX3_isPiece_11

set_option maxHeartbeats 4000000 in
set_option maxRecDepth 100000 in
theorem mX3_isChord (l : Launch) (G : gT) (A : Nat → Nat) (r0 : Int) (σ : Sg) (x y : Int) (hx : -2147483648 ≤ x ∧ x < 2147483648) (hy : -2147483648 ≤ y ∧ y < 2147483648) {n k N : Nat} (hI : Iv σ n k N) : Met l yX3_isChord wsX3_isChord { frames := 2, cells := 0, slots := 0, locals := 43 } (va_Pc [.ref (A 0), .int (iI x), .int (iI y)] (rB G (MW G A r0 σ))) (oI (bI (0 ≤ x ∧ x ≤ σ 2 0 0 - 1 ∧ 0 ≤ y ∧ y ≤ σ 8 x.toNat 0 - 1))) 0 0 (fun _ => False) := by
  refine rd_start (own := RX3) (cc := cX3_isChord) (mL := 3) (ret := (some .boolean)) (by decide) rfl rfl (Nat.le_of_ble_eq_true rfl) ?_
  intro pP eE sS mM args bB meth cC ls F hr hlocks hP hK hl
  obtain ⟨hn, hn12, hk, hk6, hsg, haw, hch, hch1, hch0, htn, hto, htz, hpr, hN, hpz, hle, hlz⟩ := id hI
  have hcx := hch x.toNat
  have iX3 : ∀ x ∈ wsX30, x ∈ wsX3_isChord := by decide +kernel
  have f25 := k_cond F (w := .fieldLink RX3 25 "ChoirPlannerModel" "chords" "[I") (by decide +kernel)
  have hl : lv_has ls 3 [(0, .ref (A 0)), (1, .int (iI x)), (2, .int (iI y))] := hl
  refine lv_aload_n F.1 F.2.1 dX3_isChord_0 rfl (lv_at hl 0 rfl) ?_
  refine lv_iload_n F.1 F.2.1 dX3_isChord_1 rfl (lv_at hl 1 rfl) ?_
  refine rd_V F (n := 1) (w0 := []) (mX3_isPiece l G A r0 σ x (by omega) hI) gX3_isChord_X3_isPiece rfl rfl rfl (by decide +kernel) ⟨Nat.le_of_ble_eq_true rfl, Nat.le_of_ble_eq_true rfl⟩ hK hP (ci := 3) (q0 := 0) rfl rfl rfl rfl hl.1 (Nat.le_of_ble_eq_true rfl) dX3_isChord_2 ⟨Nat.zero_le _, Nat.zero_le _⟩ ?_
  refine k_ifb_eq F (tgt := 28) dX3_isChord_5 (by decide) (fun c_1 => ?_) (fun c_1 => ?_)
  · skip
    refine k_iconst F dX3_isChord_28 ?_
    exact k_zret F hr hlocks (bI_f (by omega)).symm (Or.inl rfl) dX3_isChord_29
  · skip
    refine lv_iload_n F.1 F.2.1 dX3_isChord_8 rfl (lv_at hl 2 rfl) ?_
    refine k_iconst F dX3_isChord_9 ?_
    refine lv_aload_n F.1 F.2.1 dX3_isChord_10 rfl (lv_at hl 0 rfl) ?_
    refine k_get F hK hP iX3 0 rfl rfl 8 (by decide) f25 rfl rfl dX3_isChord_11 ?_
    refine lv_iload_n F.1 F.2.1 dX3_isChord_14 rfl (lv_at hl 1 rfl) ?_
    refine k_iald F hK hP 6 rfl x.toNat (by omega) (by omega) (by decide) rfl dX3_isChord_15 ?_
    refine k_iconst F dX3_isChord_16 ?_
    refine k_isub F rfl dX3_isChord_17 ?_
    refine rd_S F (n := 3) (w0 := []) (mX3_in l G (MW G A r0 σ) y 0 ((σ 8 x.toNat 0) - 1) (by omega) (by decide) (by omega)) gX3_isChord_X3_in rfl rfl rfl (by decide +kernel) ⟨Nat.le_of_ble_eq_true rfl, Nat.le_of_ble_eq_true rfl⟩ hK hP rfl rfl hl.1 (Nat.le_of_ble_eq_true rfl) dX3_isChord_18 ⟨Nat.zero_le _, Nat.zero_le _⟩ ?_
    refine k_ifb_eq F (tgt := 28) dX3_isChord_21 (by decide) (fun c_2 => ?_) (fun c_2 => ?_)
    · skip
      refine k_iconst F dX3_isChord_28 ?_
      exact k_zret F hr hlocks (bI_f (by omega)).symm (Or.inl rfl) dX3_isChord_29
    · skip
      refine k_iconst F dX3_isChord_24 ?_
      refine lv_goto (tgt := 29) F.1 F.2.1 dX3_isChord_25 (by decide) ?_
      exact k_zret F hr hlocks (bI_t (by omega)).symm (Or.inr rfl) dX3_isChord_29

set_option maxHeartbeats 4000000 in
set_option maxRecDepth 100000 in
theorem mX3_isThere (l : Launch) (G : gT) (A : Nat → Nat) (r0 : Int) (σ : Sg) (j : Nat) (d : Int) (hj : j < 12) : Met l yX3_isThere wsX3_isThere { frames := 0, cells := 0, slots := 0, locals := 0 } (va_Pc [.ref (A 0), .int (iI (j : Int)), .int (iI d)] (rB G (MW G A r0 σ))) (oI (bI (thr (σ 6 0 j) d = true))) 0 0 (fun _ => False) := by
  refine rd_start (own := RX3) (cc := cX3_isThere) (mL := 3) (ret := (some .boolean)) (by decide) rfl rfl (Nat.le_of_ble_eq_true rfl) ?_
  intro pP eE sS mM args bB meth cC ls F hr hlocks hP hK hl
  have iX3 : ∀ x ∈ wsX30, x ∈ wsX3_isThere := by decide +kernel
  have f19 := k_cond F (w := .fieldLink RX3 19 "ChoirPlannerModel" "away" "[I") (by decide +kernel)
  have hl : lv_has ls 3 [(0, .ref (A 0)), (1, .int (iI (j : Int))), (2, .int (iI d))] := hl
  refine lv_aload_n F.1 F.2.1 dX3_isThere_0 rfl (lv_at hl 0 rfl) ?_
  refine k_get F hK hP iX3 0 rfl rfl 5 (by decide) f19 rfl rfl dX3_isThere_1 ?_
  refine lv_iload_n F.1 F.2.1 dX3_isThere_4 rfl (lv_at hl 1 rfl) ?_
  refine k_iald F hK hP 4 rfl j (by omega) (by omega) (by decide) rfl dX3_isThere_5 ?_
  refine lv_iload_n F.1 F.2.1 dX3_isThere_6 rfl (lv_at hl 2 rfl) ?_
  refine k_ishr F dX3_isThere_7 ?_
  refine k_iconst F dX3_isThere_8 ?_
  refine k_iand F dX3_isThere_9 ?_
  refine k_if_ne F (tgt := 17) dX3_isThere_10 (by decide) (iI_rg _) (fun c_1 => ?_) (fun c_1 => ?_)
  · skip
    refine k_iconst F dX3_isThere_17 ?_
    exact k_zret F hr hlocks (bI_f (by simpa [thr] using c_1)).symm (Or.inl rfl) dX3_isThere_18
  · skip
    refine k_iconst F dX3_isThere_13 ?_
    refine lv_goto (tgt := 18) F.1 F.2.1 dX3_isThere_14 (by decide) ?_
    exact k_zret F hr hlocks (bI_t (by simpa [thr] using c_1)).symm (Or.inr rfl) dX3_isThere_18

set_option maxHeartbeats 4000000 in
set_option maxRecDepth 100000 in
theorem mX3_firstOf (l : Launch) (G : gT) (A : Nat → Nat) (r0 : Int) (σ : Sg) (v d : Int) (hv : -2147483648 ≤ v ∧ v < 2147483648) {n k N : Nat} (hI : Iv σ n k N) : Met l yX3_firstOf wsX3_firstOf { frames := 1, cells := 0, slots := 0, locals := 22 } (va_Pc [.ref (A 0), .int (iI v), .int (iI d)] (rB G (MW G A r0 σ))) (oI (foM σ v d n)) 0 0 (fun _ => False) := by
  refine rd_start (own := RX3) (cc := cX3_firstOf) (mL := 6) (ret := (some .int)) (by decide) rfl rfl (Nat.le_of_ble_eq_true rfl) ?_
  intro pP eE sS mM args bB meth cC ls F hr hlocks hP hK hl
  obtain ⟨hn, hn12, hk, hk6, hsg, haw, hch, hch1, hch0, htn, hto, htz, hpr, hN, hpz, hle, hlz⟩ := id hI
  have hfr := foA_rg (σ := σ) (v := v) (d := d) (n := n) (fun j hj => ⟨(hsg j hj).2.2.1, by have := hsg j hj; omega⟩)
  have iX3 : ∀ x ∈ wsX30, x ∈ wsX3_firstOf := by decide +kernel
  have f7 := k_cond F (w := .fieldLink RX3 7 "ChoirPlannerModel" "voiceOf" "[I") (by decide +kernel)
  have f13 := k_cond F (w := .fieldLink RX3 13 "ChoirPlannerModel" "lows" "[I") (by decide +kernel)
  have f42 := k_cond F (w := .fieldLink RX3 42 "ChoirPlannerModel" "singers" "I") (by decide +kernel)
  have hl : lv_has ls 6 [(0, .ref (A 0)), (1, .int (iI v)), (2, .int (iI d))] := hl
  refine k_iconst F dX3_firstOf_0 ?_
  refine lv_istore_n (lv' := [(3, .int (iI (-1))), (0, .ref (A 0)), (1, .int (iI v)), (2, .int (iI d))]) F.1 F.2.1 dX3_firstOf_1 rfl hl (by decide) rfl (fun ls hl => ?_)
  refine k_iconst F dX3_firstOf_2 ?_
  refine lv_istore (lv' := [(4, .int (iI 0)), (3, .int (iI (-1))), (0, .ref (A 0)), (1, .int (iI v)), (2, .int (iI d))]) F.1 F.2.1 dX3_firstOf_3 hl (by decide) rfl (fun ls hl => ?_)
  have J_1 : ∀ k : Nat, k ≤ n → ∀ ls : Array Slot, lv_has ls 6 [(4, .int (iI (k : Int))), (3, .int (iI (foA σ v d k))), (0, .ref (A 0)), (1, .int (iI v)), (2, .int (iI d))] → W pP l eE ({ frames := 1, cells := 0, slots := 0, locals := 22 }) sS mM args bB meth cC sS.heap [] 0 0 (MQ bB (oI (foM σ v d n)) args sS 0 0 (fun _ => False)) (F0 mM 5 ls []) := by
    refine lp_up (n) ?_ ?_
    · intro ls hl
      have hf := hfr n (by omega)
      refine lv_iload F.1 F.2.1 dX3_firstOf_5 (lv_at hl 0 rfl) ?_
      refine lv_aload_n F.1 F.2.1 dX3_firstOf_7 rfl (lv_at hl 2 rfl) ?_
      refine k_get F hK hP iX3 0 rfl rfl 1 (by decide) f42 rfl rfl dX3_firstOf_8 ?_
      refine k_icmp_ge F (tgt := 76) dX3_firstOf_11 (by decide) (by omega) (by omega) (fun c_3 => ?_) (fun c_3 => absurd c_3 (by omega))
      refine lv_iload_n F.1 F.2.1 dX3_firstOf_76 rfl (lv_at hl 1 rfl) ?_
      refine k_if_ge F (tgt := 85) dX3_firstOf_77 (by decide) (by omega) (fun c_4 => ?_) (fun c_4 => ?_)
      · skip
        refine lv_iload_n F.1 F.2.1 dX3_firstOf_85 rfl (lv_at hl 1 rfl) ?_
        exact k_ret F hr hlocks (by unfold foM; first | rw [if_pos (by omega)] | rw [if_neg (by omega)]) dX3_firstOf_86
      · skip
        refine k_bipush F dX3_firstOf_80 (by decide +kernel) ?_
        refine lv_goto (tgt := 86) F.1 F.2.1 dX3_firstOf_82 (by decide) ?_
        exact k_ret F hr hlocks (by unfold foM; first | rw [if_pos (by omega)] | rw [if_neg (by omega)]) dX3_firstOf_86
    · intro k hk9 ih ls hl
      have hb := hsg k hk9
      have hf := hfr k (by omega)
      refine lv_iload F.1 F.2.1 dX3_firstOf_5 (lv_at hl 0 rfl) ?_
      refine lv_aload_n F.1 F.2.1 dX3_firstOf_7 rfl (lv_at hl 2 rfl) ?_
      refine k_get F hK hP iX3 0 rfl rfl 1 (by decide) f42 rfl rfl dX3_firstOf_8 ?_
      refine k_icmp_ge F (tgt := 76) dX3_firstOf_11 (by decide) (by omega) (by omega) (fun c_5 => absurd c_5 (by omega)) (fun c_5 => ?_)
      refine lv_aload_n F.1 F.2.1 dX3_firstOf_14 rfl (lv_at hl 2 rfl) ?_
      refine k_get F hK hP iX3 0 rfl rfl 2 (by decide) f7 rfl rfl dX3_firstOf_15 ?_
      refine lv_iload F.1 F.2.1 dX3_firstOf_18 (lv_at hl 0 rfl) ?_
      refine k_iald F hK hP 1 rfl k (by omega) (by omega) (by decide) rfl dX3_firstOf_20 ?_
      refine lv_iload_n F.1 F.2.1 dX3_firstOf_21 rfl (lv_at hl 3 rfl) ?_
      refine k_icmp_ne F (tgt := 39) dX3_firstOf_22 (by decide) (by omega) (by omega) (fun c_6 => ?_) (fun c_6 => ?_)
      · skip
        refine k_iconst F dX3_firstOf_39 ?_
        refine lv_istore (lv' := [(5, .int (iI 0)), (4, .int (iI (k : Int))), (3, .int (iI (foA σ v d k))), (0, .ref (A 0)), (1, .int (iI v)), (2, .int (iI d))]) F.1 F.2.1 dX3_firstOf_40 hl (by decide) rfl (fun ls hl => ?_)
        refine lv_iload F.1 F.2.1 dX3_firstOf_42 (lv_at hl 0 rfl) ?_
        refine k_if_eq F (tgt := 68) dX3_firstOf_44 (by decide) (by decide) (fun c_7 => ?_) (fun c_7 => absurd c_7 (by omega))
        refine lv_iload_n F.1 F.2.1 dX3_firstOf_68 rfl (lv_at hl 2 rfl) ?_
        refine lv_istore_n (lv' := [(3, .int (iI (foA σ v d k))), (5, .int (iI 0)), (4, .int (iI (k : Int))), (0, .ref (A 0)), (1, .int (iI v)), (2, .int (iI d))]) F.1 F.2.1 dX3_firstOf_69 rfl hl (by decide) rfl (fun ls hl => ?_)
        refine lv_iinc (v := iI ((k : Int) + 1)) (lv' := [(4, .int (iI ((k : Int) + 1))), (3, .int (iI (foA σ v d k))), (5, .int (iI 0)), (0, .ref (A 0)), (1, .int (iI v)), (2, .int (iI d))]) F.1 F.2.1 dX3_firstOf_70 hl (k := 2) rfl (iI_add _ _) (by decide) rfl (fun ls hl => ?_)
        refine lv_goto (tgt := 5) F.1 F.2.1 dX3_firstOf_73 (by decide) ?_
        have e_8 : (((k : Int) + 1) : Int) = ((k + 1 : Nat) : Int) := rfl
        have e_9 : (foA σ v d k : Int) = foA σ v d (k + 1) := by rw [foA_s]; first | exact (if_pos ⟨sgs_t (by assumption) (by assumption), by omega⟩).symm | exact (if_neg (fun q => by have := q.2; omega)).symm | exact (if_neg (fun q => by rw [sgs_f1 (by assumption)] at q; exact absurd q.1 (by decide))).symm | exact (if_neg (fun q => by rw [sgs_f2 (by assumption)] at q; exact absurd q.1 (by decide))).symm
        exact ih _ (lv_to (lv_to (lv_sub hl [0, 1, 3, 4, 5] rfl) (congrArg (fun x9 : Int => ([(4, .int (iI x9)), (3, .int (iI (foA σ v d k))), (0, .ref (A 0)), (1, .int (iI v)), (2, .int (iI d))] : List (Nat × Value))) e_8)) (congrArg (fun x9 : Int => ([(4, .int (iI ((k + 1 : Nat) : Int))), (3, .int (iI x9)), (0, .ref (A 0)), (1, .int (iI v)), (2, .int (iI d))] : List (Nat × Value))) e_9))
      · skip
        refine lv_aload_n F.1 F.2.1 dX3_firstOf_25 rfl (lv_at hl 2 rfl) ?_
        refine lv_iload F.1 F.2.1 dX3_firstOf_26 (lv_at hl 0 rfl) ?_
        refine lv_iload_n F.1 F.2.1 dX3_firstOf_28 rfl (lv_at hl 4 rfl) ?_
        refine rd_V F (n := 2) (w0 := []) (mX3_isThere l G A r0 σ k d (by omega)) gX3_firstOf_X3_isThere rfl rfl rfl (by decide +kernel) ⟨Nat.le_of_ble_eq_true rfl, Nat.le_of_ble_eq_true rfl⟩ hK hP (ci := 3) (q0 := 0) rfl rfl rfl rfl hl.1 (Nat.le_of_ble_eq_true rfl) dX3_firstOf_29 ⟨Nat.zero_le _, Nat.zero_le _⟩ ?_
        refine k_ifb_eq F (tgt := 39) dX3_firstOf_32 (by decide) (fun c_10 => ?_) (fun c_10 => ?_)
        · skip
          refine k_iconst F dX3_firstOf_39 ?_
          refine lv_istore (lv' := [(5, .int (iI 0)), (4, .int (iI (k : Int))), (3, .int (iI (foA σ v d k))), (0, .ref (A 0)), (1, .int (iI v)), (2, .int (iI d))]) F.1 F.2.1 dX3_firstOf_40 hl (by decide) rfl (fun ls hl => ?_)
          refine lv_iload F.1 F.2.1 dX3_firstOf_42 (lv_at hl 0 rfl) ?_
          refine k_if_eq F (tgt := 68) dX3_firstOf_44 (by decide) (by decide) (fun c_11 => ?_) (fun c_11 => absurd c_11 (by omega))
          refine lv_iload_n F.1 F.2.1 dX3_firstOf_68 rfl (lv_at hl 2 rfl) ?_
          refine lv_istore_n (lv' := [(3, .int (iI (foA σ v d k))), (5, .int (iI 0)), (4, .int (iI (k : Int))), (0, .ref (A 0)), (1, .int (iI v)), (2, .int (iI d))]) F.1 F.2.1 dX3_firstOf_69 rfl hl (by decide) rfl (fun ls hl => ?_)
          refine lv_iinc (v := iI ((k : Int) + 1)) (lv' := [(4, .int (iI ((k : Int) + 1))), (3, .int (iI (foA σ v d k))), (5, .int (iI 0)), (0, .ref (A 0)), (1, .int (iI v)), (2, .int (iI d))]) F.1 F.2.1 dX3_firstOf_70 hl (k := 2) rfl (iI_add _ _) (by decide) rfl (fun ls hl => ?_)
          refine lv_goto (tgt := 5) F.1 F.2.1 dX3_firstOf_73 (by decide) ?_
          have e_12 : (((k : Int) + 1) : Int) = ((k + 1 : Nat) : Int) := rfl
          have e_13 : (foA σ v d k : Int) = foA σ v d (k + 1) := by rw [foA_s]; first | exact (if_pos ⟨sgs_t (by assumption) (by assumption), by omega⟩).symm | exact (if_neg (fun q => by have := q.2; omega)).symm | exact (if_neg (fun q => by rw [sgs_f1 (by assumption)] at q; exact absurd q.1 (by decide))).symm | exact (if_neg (fun q => by rw [sgs_f2 (by assumption)] at q; exact absurd q.1 (by decide))).symm
          exact ih _ (lv_to (lv_to (lv_sub hl [0, 1, 3, 4, 5] rfl) (congrArg (fun x9 : Int => ([(4, .int (iI x9)), (3, .int (iI (foA σ v d k))), (0, .ref (A 0)), (1, .int (iI v)), (2, .int (iI d))] : List (Nat × Value))) e_12)) (congrArg (fun x9 : Int => ([(4, .int (iI ((k + 1 : Nat) : Int))), (3, .int (iI x9)), (0, .ref (A 0)), (1, .int (iI v)), (2, .int (iI d))] : List (Nat × Value))) e_13))
        · skip
          refine k_iconst F dX3_firstOf_35 ?_
          refine lv_goto (tgt := 40) F.1 F.2.1 dX3_firstOf_36 (by decide) ?_
          refine lv_istore (lv' := [(5, .int (iI 1)), (4, .int (iI (k : Int))), (3, .int (iI (foA σ v d k))), (0, .ref (A 0)), (1, .int (iI v)), (2, .int (iI d))]) F.1 F.2.1 dX3_firstOf_40 hl (by decide) rfl (fun ls hl => ?_)
          refine lv_iload F.1 F.2.1 dX3_firstOf_42 (lv_at hl 0 rfl) ?_
          refine k_if_eq F (tgt := 68) dX3_firstOf_44 (by decide) (by decide) (fun c_14 => absurd c_14 (by omega)) (fun c_14 => ?_)
          refine lv_aload_n F.1 F.2.1 dX3_firstOf_47 rfl (lv_at hl 3 rfl) ?_
          refine k_get F hK hP iX3 0 rfl rfl 3 (by decide) f13 rfl rfl dX3_firstOf_48 ?_
          refine lv_iload F.1 F.2.1 dX3_firstOf_51 (lv_at hl 1 rfl) ?_
          refine k_iald F hK hP 2 rfl k (by omega) (by omega) (by decide) rfl dX3_firstOf_53 ?_
          refine lv_iload_n F.1 F.2.1 dX3_firstOf_54 rfl (lv_at hl 2 rfl) ?_
          refine k_icmp_le F (tgt := 68) dX3_firstOf_55 (by decide) (by omega) (by omega) (fun c_15 => ?_) (fun c_15 => ?_)
          · skip
            refine lv_iload_n F.1 F.2.1 dX3_firstOf_68 rfl (lv_at hl 2 rfl) ?_
            refine lv_istore_n (lv' := [(3, .int (iI (foA σ v d k))), (5, .int (iI 1)), (4, .int (iI (k : Int))), (0, .ref (A 0)), (1, .int (iI v)), (2, .int (iI d))]) F.1 F.2.1 dX3_firstOf_69 rfl hl (by decide) rfl (fun ls hl => ?_)
            refine lv_iinc (v := iI ((k : Int) + 1)) (lv' := [(4, .int (iI ((k : Int) + 1))), (3, .int (iI (foA σ v d k))), (5, .int (iI 1)), (0, .ref (A 0)), (1, .int (iI v)), (2, .int (iI d))]) F.1 F.2.1 dX3_firstOf_70 hl (k := 2) rfl (iI_add _ _) (by decide) rfl (fun ls hl => ?_)
            refine lv_goto (tgt := 5) F.1 F.2.1 dX3_firstOf_73 (by decide) ?_
            have e_16 : (((k : Int) + 1) : Int) = ((k + 1 : Nat) : Int) := rfl
            have e_17 : (foA σ v d k : Int) = foA σ v d (k + 1) := by rw [foA_s]; first | exact (if_pos ⟨sgs_t (by assumption) (by assumption), by omega⟩).symm | exact (if_neg (fun q => by have := q.2; omega)).symm | exact (if_neg (fun q => by rw [sgs_f1 (by assumption)] at q; exact absurd q.1 (by decide))).symm | exact (if_neg (fun q => by rw [sgs_f2 (by assumption)] at q; exact absurd q.1 (by decide))).symm
            exact ih _ (lv_to (lv_to (lv_sub hl [0, 1, 3, 4, 5] rfl) (congrArg (fun x9 : Int => ([(4, .int (iI x9)), (3, .int (iI (foA σ v d k))), (0, .ref (A 0)), (1, .int (iI v)), (2, .int (iI d))] : List (Nat × Value))) e_16)) (congrArg (fun x9 : Int => ([(4, .int (iI ((k + 1 : Nat) : Int))), (3, .int (iI x9)), (0, .ref (A 0)), (1, .int (iI v)), (2, .int (iI d))] : List (Nat × Value))) e_17))
          · skip
            refine lv_aload_n F.1 F.2.1 dX3_firstOf_58 rfl (lv_at hl 3 rfl) ?_
            refine k_get F hK hP iX3 0 rfl rfl 3 (by decide) f13 rfl rfl dX3_firstOf_59 ?_
            refine lv_iload F.1 F.2.1 dX3_firstOf_62 (lv_at hl 1 rfl) ?_
            refine k_iald F hK hP 2 rfl k (by omega) (by omega) (by decide) rfl dX3_firstOf_64 ?_
            refine lv_goto (tgt := 69) F.1 F.2.1 dX3_firstOf_65 (by decide) ?_
            refine lv_istore_n (lv' := [(3, .int (iI (σ 4 0 k))), (5, .int (iI 1)), (4, .int (iI (k : Int))), (0, .ref (A 0)), (1, .int (iI v)), (2, .int (iI d))]) F.1 F.2.1 dX3_firstOf_69 rfl hl (by decide) rfl (fun ls hl => ?_)
            refine lv_iinc (v := iI ((k : Int) + 1)) (lv' := [(4, .int (iI ((k : Int) + 1))), (3, .int (iI (σ 4 0 k))), (5, .int (iI 1)), (0, .ref (A 0)), (1, .int (iI v)), (2, .int (iI d))]) F.1 F.2.1 dX3_firstOf_70 hl (k := 2) rfl (iI_add _ _) (by decide) rfl (fun ls hl => ?_)
            refine lv_goto (tgt := 5) F.1 F.2.1 dX3_firstOf_73 (by decide) ?_
            have e_18 : (((k : Int) + 1) : Int) = ((k + 1 : Nat) : Int) := rfl
            have e_19 : ((σ 4 0 k) : Int) = foA σ v d (k + 1) := by rw [foA_s]; first | exact (if_pos ⟨sgs_t (by assumption) (by assumption), by omega⟩).symm | exact (if_neg (fun q => by have := q.2; omega)).symm | exact (if_neg (fun q => by rw [sgs_f1 (by assumption)] at q; exact absurd q.1 (by decide))).symm | exact (if_neg (fun q => by rw [sgs_f2 (by assumption)] at q; exact absurd q.1 (by decide))).symm
            exact ih _ (lv_to (lv_to (lv_sub hl [0, 1, 3, 4, 5] rfl) (congrArg (fun x9 : Int => ([(4, .int (iI x9)), (3, .int (iI (σ 4 0 k))), (0, .ref (A 0)), (1, .int (iI v)), (2, .int (iI d))] : List (Nat × Value))) e_18)) (congrArg (fun x9 : Int => ([(4, .int (iI ((k + 1 : Nat) : Int))), (3, .int (iI x9)), (0, .ref (A 0)), (1, .int (iI v)), (2, .int (iI d))] : List (Nat × Value))) e_19))
  have e_20 : (0 : Int) = ((0 : Nat) : Int) := rfl
  have e_21 : ((-1) : Int) = foA σ v d 0 := rfl
  exact J_1 0 (by omega) _ (lv_to (lv_to (lv_sub hl [0, 1, 2, 3, 4] rfl) (congrArg (fun x9 : Int => ([(4, .int (iI x9)), (3, .int (iI (-1))), (0, .ref (A 0)), (1, .int (iI v)), (2, .int (iI d))] : List (Nat × Value))) e_20)) (congrArg (fun x9 : Int => ([(4, .int (iI ((0 : Nat) : Int))), (3, .int (iI x9)), (0, .ref (A 0)), (1, .int (iI v)), (2, .int (iI d))] : List (Nat × Value))) e_21))

set_option maxHeartbeats 4000000 in
set_option maxRecDepth 100000 in
theorem mX3_lastOf (l : Launch) (G : gT) (A : Nat → Nat) (r0 : Int) (σ : Sg) (v d : Int) (hv : -2147483648 ≤ v ∧ v < 2147483648) {n k N : Nat} (hI : Iv σ n k N) : Met l yX3_lastOf wsX3_lastOf { frames := 1, cells := 0, slots := 0, locals := 22 } (va_Pc [.ref (A 0), .int (iI v), .int (iI d)] (rB G (MW G A r0 σ))) (oI (laA σ v d n)) 0 0 (fun _ => False) := by
  refine rd_start (own := RX3) (cc := cX3_lastOf) (mL := 6) (ret := (some .int)) (by decide) rfl rfl (Nat.le_of_ble_eq_true rfl) ?_
  intro pP eE sS mM args bB meth cC ls F hr hlocks hP hK hl
  obtain ⟨hn, hn12, hk, hk6, hsg, haw, hch, hch1, hch0, htn, hto, htz, hpr, hN, hpz, hle, hlz⟩ := id hI
  have hfr := laA_rg (σ := σ) (v := v) (d := d) (n := n) (fun j hj => by have := hsg j hj; omega)
  have iX3 : ∀ x ∈ wsX30, x ∈ wsX3_lastOf := by decide +kernel
  have f7 := k_cond F (w := .fieldLink RX3 7 "ChoirPlannerModel" "voiceOf" "[I") (by decide +kernel)
  have f16 := k_cond F (w := .fieldLink RX3 16 "ChoirPlannerModel" "highs" "[I") (by decide +kernel)
  have f42 := k_cond F (w := .fieldLink RX3 42 "ChoirPlannerModel" "singers" "I") (by decide +kernel)
  have hl : lv_has ls 6 [(0, .ref (A 0)), (1, .int (iI v)), (2, .int (iI d))] := hl
  refine k_bipush F dX3_lastOf_0 (by decide +kernel) ?_
  refine lv_istore_n (lv' := [(3, .int (iI 60)), (0, .ref (A 0)), (1, .int (iI v)), (2, .int (iI d))]) F.1 F.2.1 dX3_lastOf_2 rfl hl (by decide) rfl (fun ls hl => ?_)
  refine k_iconst F dX3_lastOf_3 ?_
  refine lv_istore (lv' := [(4, .int (iI 0)), (3, .int (iI 60)), (0, .ref (A 0)), (1, .int (iI v)), (2, .int (iI d))]) F.1 F.2.1 dX3_lastOf_4 hl (by decide) rfl (fun ls hl => ?_)
  have J_1 : ∀ k : Nat, k ≤ n → ∀ ls : Array Slot, lv_has ls 6 [(4, .int (iI (k : Int))), (3, .int (iI (laA σ v d k))), (0, .ref (A 0)), (1, .int (iI v)), (2, .int (iI d))] → W pP l eE ({ frames := 1, cells := 0, slots := 0, locals := 22 }) sS mM args bB meth cC sS.heap [] 0 0 (MQ bB (oI (laA σ v d n)) args sS 0 0 (fun _ => False)) (F0 mM 6 ls []) := by
    refine lp_up (n) ?_ ?_
    · intro ls hl
      have hf := hfr n (by omega)
      refine lv_iload F.1 F.2.1 dX3_lastOf_6 (lv_at hl 0 rfl) ?_
      refine lv_aload_n F.1 F.2.1 dX3_lastOf_8 rfl (lv_at hl 2 rfl) ?_
      refine k_get F hK hP iX3 0 rfl rfl 1 (by decide) f42 rfl rfl dX3_lastOf_9 ?_
      refine k_icmp_ge F (tgt := 77) dX3_lastOf_12 (by decide) (by omega) (by omega) (fun c_3 => ?_) (fun c_3 => absurd c_3 (by omega))
      refine lv_iload_n F.1 F.2.1 dX3_lastOf_77 rfl (lv_at hl 1 rfl) ?_
      exact k_ret F hr hlocks rfl dX3_lastOf_78
    · intro k hk9 ih ls hl
      have hb := hsg k hk9
      have hf := hfr k (by omega)
      refine lv_iload F.1 F.2.1 dX3_lastOf_6 (lv_at hl 0 rfl) ?_
      refine lv_aload_n F.1 F.2.1 dX3_lastOf_8 rfl (lv_at hl 2 rfl) ?_
      refine k_get F hK hP iX3 0 rfl rfl 1 (by decide) f42 rfl rfl dX3_lastOf_9 ?_
      refine k_icmp_ge F (tgt := 77) dX3_lastOf_12 (by decide) (by omega) (by omega) (fun c_4 => absurd c_4 (by omega)) (fun c_4 => ?_)
      refine lv_aload_n F.1 F.2.1 dX3_lastOf_15 rfl (lv_at hl 2 rfl) ?_
      refine k_get F hK hP iX3 0 rfl rfl 2 (by decide) f7 rfl rfl dX3_lastOf_16 ?_
      refine lv_iload F.1 F.2.1 dX3_lastOf_19 (lv_at hl 0 rfl) ?_
      refine k_iald F hK hP 1 rfl k (by omega) (by omega) (by decide) rfl dX3_lastOf_21 ?_
      refine lv_iload_n F.1 F.2.1 dX3_lastOf_22 rfl (lv_at hl 3 rfl) ?_
      refine k_icmp_ne F (tgt := 40) dX3_lastOf_23 (by decide) (by omega) (by omega) (fun c_5 => ?_) (fun c_5 => ?_)
      · skip
        refine k_iconst F dX3_lastOf_40 ?_
        refine lv_istore (lv' := [(5, .int (iI 0)), (4, .int (iI (k : Int))), (3, .int (iI (laA σ v d k))), (0, .ref (A 0)), (1, .int (iI v)), (2, .int (iI d))]) F.1 F.2.1 dX3_lastOf_41 hl (by decide) rfl (fun ls hl => ?_)
        refine lv_iload F.1 F.2.1 dX3_lastOf_43 (lv_at hl 0 rfl) ?_
        refine k_if_eq F (tgt := 69) dX3_lastOf_45 (by decide) (by decide) (fun c_6 => ?_) (fun c_6 => absurd c_6 (by omega))
        refine lv_iload_n F.1 F.2.1 dX3_lastOf_69 rfl (lv_at hl 2 rfl) ?_
        refine lv_istore_n (lv' := [(3, .int (iI (laA σ v d k))), (5, .int (iI 0)), (4, .int (iI (k : Int))), (0, .ref (A 0)), (1, .int (iI v)), (2, .int (iI d))]) F.1 F.2.1 dX3_lastOf_70 rfl hl (by decide) rfl (fun ls hl => ?_)
        refine lv_iinc (v := iI ((k : Int) + 1)) (lv' := [(4, .int (iI ((k : Int) + 1))), (3, .int (iI (laA σ v d k))), (5, .int (iI 0)), (0, .ref (A 0)), (1, .int (iI v)), (2, .int (iI d))]) F.1 F.2.1 dX3_lastOf_71 hl (k := 2) rfl (iI_add _ _) (by decide) rfl (fun ls hl => ?_)
        refine lv_goto (tgt := 6) F.1 F.2.1 dX3_lastOf_74 (by decide) ?_
        have e_7 : (((k : Int) + 1) : Int) = ((k + 1 : Nat) : Int) := rfl
        have e_8 : (laA σ v d k : Int) = laA σ v d (k + 1) := by rw [laA_s]; first | exact (if_pos ⟨sgs_t (by assumption) (by assumption), by omega⟩).symm | exact (if_neg (fun q => by have := q.2; omega)).symm | exact (if_neg (fun q => by rw [sgs_f1 (by assumption)] at q; exact absurd q.1 (by decide))).symm | exact (if_neg (fun q => by rw [sgs_f2 (by assumption)] at q; exact absurd q.1 (by decide))).symm
        exact ih _ (lv_to (lv_to (lv_sub hl [0, 1, 3, 4, 5] rfl) (congrArg (fun x9 : Int => ([(4, .int (iI x9)), (3, .int (iI (laA σ v d k))), (0, .ref (A 0)), (1, .int (iI v)), (2, .int (iI d))] : List (Nat × Value))) e_7)) (congrArg (fun x9 : Int => ([(4, .int (iI ((k + 1 : Nat) : Int))), (3, .int (iI x9)), (0, .ref (A 0)), (1, .int (iI v)), (2, .int (iI d))] : List (Nat × Value))) e_8))
      · skip
        refine lv_aload_n F.1 F.2.1 dX3_lastOf_26 rfl (lv_at hl 2 rfl) ?_
        refine lv_iload F.1 F.2.1 dX3_lastOf_27 (lv_at hl 0 rfl) ?_
        refine lv_iload_n F.1 F.2.1 dX3_lastOf_29 rfl (lv_at hl 4 rfl) ?_
        refine rd_V F (n := 2) (w0 := []) (mX3_isThere l G A r0 σ k d (by omega)) gX3_lastOf_X3_isThere rfl rfl rfl (by decide +kernel) ⟨Nat.le_of_ble_eq_true rfl, Nat.le_of_ble_eq_true rfl⟩ hK hP (ci := 3) (q0 := 0) rfl rfl rfl rfl hl.1 (Nat.le_of_ble_eq_true rfl) dX3_lastOf_30 ⟨Nat.zero_le _, Nat.zero_le _⟩ ?_
        refine k_ifb_eq F (tgt := 40) dX3_lastOf_33 (by decide) (fun c_9 => ?_) (fun c_9 => ?_)
        · skip
          refine k_iconst F dX3_lastOf_40 ?_
          refine lv_istore (lv' := [(5, .int (iI 0)), (4, .int (iI (k : Int))), (3, .int (iI (laA σ v d k))), (0, .ref (A 0)), (1, .int (iI v)), (2, .int (iI d))]) F.1 F.2.1 dX3_lastOf_41 hl (by decide) rfl (fun ls hl => ?_)
          refine lv_iload F.1 F.2.1 dX3_lastOf_43 (lv_at hl 0 rfl) ?_
          refine k_if_eq F (tgt := 69) dX3_lastOf_45 (by decide) (by decide) (fun c_10 => ?_) (fun c_10 => absurd c_10 (by omega))
          refine lv_iload_n F.1 F.2.1 dX3_lastOf_69 rfl (lv_at hl 2 rfl) ?_
          refine lv_istore_n (lv' := [(3, .int (iI (laA σ v d k))), (5, .int (iI 0)), (4, .int (iI (k : Int))), (0, .ref (A 0)), (1, .int (iI v)), (2, .int (iI d))]) F.1 F.2.1 dX3_lastOf_70 rfl hl (by decide) rfl (fun ls hl => ?_)
          refine lv_iinc (v := iI ((k : Int) + 1)) (lv' := [(4, .int (iI ((k : Int) + 1))), (3, .int (iI (laA σ v d k))), (5, .int (iI 0)), (0, .ref (A 0)), (1, .int (iI v)), (2, .int (iI d))]) F.1 F.2.1 dX3_lastOf_71 hl (k := 2) rfl (iI_add _ _) (by decide) rfl (fun ls hl => ?_)
          refine lv_goto (tgt := 6) F.1 F.2.1 dX3_lastOf_74 (by decide) ?_
          have e_11 : (((k : Int) + 1) : Int) = ((k + 1 : Nat) : Int) := rfl
          have e_12 : (laA σ v d k : Int) = laA σ v d (k + 1) := by rw [laA_s]; first | exact (if_pos ⟨sgs_t (by assumption) (by assumption), by omega⟩).symm | exact (if_neg (fun q => by have := q.2; omega)).symm | exact (if_neg (fun q => by rw [sgs_f1 (by assumption)] at q; exact absurd q.1 (by decide))).symm | exact (if_neg (fun q => by rw [sgs_f2 (by assumption)] at q; exact absurd q.1 (by decide))).symm
          exact ih _ (lv_to (lv_to (lv_sub hl [0, 1, 3, 4, 5] rfl) (congrArg (fun x9 : Int => ([(4, .int (iI x9)), (3, .int (iI (laA σ v d k))), (0, .ref (A 0)), (1, .int (iI v)), (2, .int (iI d))] : List (Nat × Value))) e_11)) (congrArg (fun x9 : Int => ([(4, .int (iI ((k + 1 : Nat) : Int))), (3, .int (iI x9)), (0, .ref (A 0)), (1, .int (iI v)), (2, .int (iI d))] : List (Nat × Value))) e_12))
        · skip
          refine k_iconst F dX3_lastOf_36 ?_
          refine lv_goto (tgt := 41) F.1 F.2.1 dX3_lastOf_37 (by decide) ?_
          refine lv_istore (lv' := [(5, .int (iI 1)), (4, .int (iI (k : Int))), (3, .int (iI (laA σ v d k))), (0, .ref (A 0)), (1, .int (iI v)), (2, .int (iI d))]) F.1 F.2.1 dX3_lastOf_41 hl (by decide) rfl (fun ls hl => ?_)
          refine lv_iload F.1 F.2.1 dX3_lastOf_43 (lv_at hl 0 rfl) ?_
          refine k_if_eq F (tgt := 69) dX3_lastOf_45 (by decide) (by decide) (fun c_13 => absurd c_13 (by omega)) (fun c_13 => ?_)
          refine lv_aload_n F.1 F.2.1 dX3_lastOf_48 rfl (lv_at hl 3 rfl) ?_
          refine k_get F hK hP iX3 0 rfl rfl 4 (by decide) f16 rfl rfl dX3_lastOf_49 ?_
          refine lv_iload F.1 F.2.1 dX3_lastOf_52 (lv_at hl 1 rfl) ?_
          refine k_iald F hK hP 3 rfl k (by omega) (by omega) (by decide) rfl dX3_lastOf_54 ?_
          refine lv_iload_n F.1 F.2.1 dX3_lastOf_55 rfl (lv_at hl 2 rfl) ?_
          refine k_icmp_ge F (tgt := 69) dX3_lastOf_56 (by decide) (by omega) (by omega) (fun c_14 => ?_) (fun c_14 => ?_)
          · skip
            refine lv_iload_n F.1 F.2.1 dX3_lastOf_69 rfl (lv_at hl 2 rfl) ?_
            refine lv_istore_n (lv' := [(3, .int (iI (laA σ v d k))), (5, .int (iI 1)), (4, .int (iI (k : Int))), (0, .ref (A 0)), (1, .int (iI v)), (2, .int (iI d))]) F.1 F.2.1 dX3_lastOf_70 rfl hl (by decide) rfl (fun ls hl => ?_)
            refine lv_iinc (v := iI ((k : Int) + 1)) (lv' := [(4, .int (iI ((k : Int) + 1))), (3, .int (iI (laA σ v d k))), (5, .int (iI 1)), (0, .ref (A 0)), (1, .int (iI v)), (2, .int (iI d))]) F.1 F.2.1 dX3_lastOf_71 hl (k := 2) rfl (iI_add _ _) (by decide) rfl (fun ls hl => ?_)
            refine lv_goto (tgt := 6) F.1 F.2.1 dX3_lastOf_74 (by decide) ?_
            have e_15 : (((k : Int) + 1) : Int) = ((k + 1 : Nat) : Int) := rfl
            have e_16 : (laA σ v d k : Int) = laA σ v d (k + 1) := by rw [laA_s]; first | exact (if_pos ⟨sgs_t (by assumption) (by assumption), by omega⟩).symm | exact (if_neg (fun q => by have := q.2; omega)).symm | exact (if_neg (fun q => by rw [sgs_f1 (by assumption)] at q; exact absurd q.1 (by decide))).symm | exact (if_neg (fun q => by rw [sgs_f2 (by assumption)] at q; exact absurd q.1 (by decide))).symm
            exact ih _ (lv_to (lv_to (lv_sub hl [0, 1, 3, 4, 5] rfl) (congrArg (fun x9 : Int => ([(4, .int (iI x9)), (3, .int (iI (laA σ v d k))), (0, .ref (A 0)), (1, .int (iI v)), (2, .int (iI d))] : List (Nat × Value))) e_15)) (congrArg (fun x9 : Int => ([(4, .int (iI ((k + 1 : Nat) : Int))), (3, .int (iI x9)), (0, .ref (A 0)), (1, .int (iI v)), (2, .int (iI d))] : List (Nat × Value))) e_16))
          · skip
            refine lv_aload_n F.1 F.2.1 dX3_lastOf_59 rfl (lv_at hl 3 rfl) ?_
            refine k_get F hK hP iX3 0 rfl rfl 4 (by decide) f16 rfl rfl dX3_lastOf_60 ?_
            refine lv_iload F.1 F.2.1 dX3_lastOf_63 (lv_at hl 1 rfl) ?_
            refine k_iald F hK hP 3 rfl k (by omega) (by omega) (by decide) rfl dX3_lastOf_65 ?_
            refine lv_goto (tgt := 70) F.1 F.2.1 dX3_lastOf_66 (by decide) ?_
            refine lv_istore_n (lv' := [(3, .int (iI (σ 5 0 k))), (5, .int (iI 1)), (4, .int (iI (k : Int))), (0, .ref (A 0)), (1, .int (iI v)), (2, .int (iI d))]) F.1 F.2.1 dX3_lastOf_70 rfl hl (by decide) rfl (fun ls hl => ?_)
            refine lv_iinc (v := iI ((k : Int) + 1)) (lv' := [(4, .int (iI ((k : Int) + 1))), (3, .int (iI (σ 5 0 k))), (5, .int (iI 1)), (0, .ref (A 0)), (1, .int (iI v)), (2, .int (iI d))]) F.1 F.2.1 dX3_lastOf_71 hl (k := 2) rfl (iI_add _ _) (by decide) rfl (fun ls hl => ?_)
            refine lv_goto (tgt := 6) F.1 F.2.1 dX3_lastOf_74 (by decide) ?_
            have e_17 : (((k : Int) + 1) : Int) = ((k + 1 : Nat) : Int) := rfl
            have e_18 : ((σ 5 0 k) : Int) = laA σ v d (k + 1) := by rw [laA_s]; first | exact (if_pos ⟨sgs_t (by assumption) (by assumption), by omega⟩).symm | exact (if_neg (fun q => by have := q.2; omega)).symm | exact (if_neg (fun q => by rw [sgs_f1 (by assumption)] at q; exact absurd q.1 (by decide))).symm | exact (if_neg (fun q => by rw [sgs_f2 (by assumption)] at q; exact absurd q.1 (by decide))).symm
            exact ih _ (lv_to (lv_to (lv_sub hl [0, 1, 3, 4, 5] rfl) (congrArg (fun x9 : Int => ([(4, .int (iI x9)), (3, .int (iI (σ 5 0 k))), (0, .ref (A 0)), (1, .int (iI v)), (2, .int (iI d))] : List (Nat × Value))) e_17)) (congrArg (fun x9 : Int => ([(4, .int (iI ((k + 1 : Nat) : Int))), (3, .int (iI x9)), (0, .ref (A 0)), (1, .int (iI v)), (2, .int (iI d))] : List (Nat × Value))) e_18))
  have e_19 : (0 : Int) = ((0 : Nat) : Int) := rfl
  have e_20 : (60 : Int) = laA σ v d 0 := rfl
  exact J_1 0 (by omega) _ (lv_to (lv_to (lv_sub hl [0, 1, 2, 3, 4] rfl) (congrArg (fun x9 : Int => ([(4, .int (iI x9)), (3, .int (iI 60)), (0, .ref (A 0)), (1, .int (iI v)), (2, .int (iI d))] : List (Nat × Value))) e_19)) (congrArg (fun x9 : Int => ([(4, .int (iI ((0 : Nat) : Int))), (3, .int (iI x9)), (0, .ref (A 0)), (1, .int (iI v)), (2, .int (iI d))] : List (Nat × Value))) e_20))
