set_option maxHeartbeats 4000000 in
set_option maxRecDepth 100000 in
theorem mX1_isFull (l : Launch) (G : gT) (B : Nat → Nat) (σ : Sg) {n k N : Nat} (hI : Iv σ n k N) : Met l yX1_isFull wsX1_isFull { frames := 0, cells := 0, slots := 0, locals := 0 } (va_Pc [.ref (B 0)] (rB G (RW G B σ))) (oI (bI (12 ≤ σ 1 0 0))) 0 0 (fun _ => False) := by
  refine rd_start (own := RX1) (cc := cX1_isFull) (mL := 1) (ret := (some .boolean)) (by decide) rfl rfl (Nat.le_of_ble_eq_true rfl) ?_
  intro pP eE sS mM args bB meth cC ls F hr hlocks hP hK hl
  obtain ⟨hn, hn12, hk, hk6, hsg, haw, hch, hch1, hch0, htn, hto, htz, hpr, hN, hpz, hle, hlz⟩ := id hI
  have iX1 : ∀ x ∈ wsX10, x ∈ wsX1_isFull := by decide +kernel
  have f24 := k_cond F (w := .fieldLink RX1 24 "ChoirPlanner$Roster" "size" "I") (by decide +kernel)
  have hl : lv_has ls 1 [(0, .ref (B 0))] := hl
  refine lv_aload_n F.1 F.2.1 dX1_isFull_0 rfl (lv_at hl 0 rfl) ?_
  refine k_get F hK hP iX1 0 rfl rfl 4 (by decide) f24 rfl rfl dX1_isFull_1 ?_
  refine k_bipush F dX1_isFull_4 (by decide +kernel) ?_
  refine k_icmp_lt F (tgt := 13) dX1_isFull_6 (by decide) (by omega) (by decide) (fun c_1 => ?_) (fun c_1 => ?_)
  · skip
    refine k_iconst F dX1_isFull_13 ?_
    exact k_zret F hr hlocks (bI_f (by omega)).symm (Or.inl rfl) dX1_isFull_14
  · skip
    refine k_iconst F dX1_isFull_9 ?_
    refine lv_goto (tgt := 14) F.1 F.2.1 dX1_isFull_10 (by decide) ?_
    exact k_zret F hr hlocks (bI_t (by omega)).symm (Or.inr rfl) dX1_isFull_14

set_option maxHeartbeats 4000000 in
set_option maxRecDepth 100000 in
theorem mX1_has (l : Launch) (G : gT) (B : Nat → Nat) (σ : Sg) (x : Int) (hx : -2147483648 ≤ x ∧ x < 2147483648) {n k N : Nat} (hI : Iv σ n k N) : Met l yX1_has wsX1_has { frames := 0, cells := 0, slots := 0, locals := 0 } (va_Pc [.ref (B 0), .int (iI x)] (rB G (RW G B σ))) (oI (bI (0 ≤ x ∧ x < σ 1 0 0))) 0 0 (fun _ => False) := by
  refine rd_start (own := RX1) (cc := cX1_has) (mL := 2) (ret := (some .boolean)) (by decide) rfl rfl (Nat.le_of_ble_eq_true rfl) ?_
  intro pP eE sS mM args bB meth cC ls F hr hlocks hP hK hl
  obtain ⟨hn, hn12, hk, hk6, hsg, haw, hch, hch1, hch0, htn, hto, htz, hpr, hN, hpz, hle, hlz⟩ := id hI
  have iX1 : ∀ x ∈ wsX10, x ∈ wsX1_has := by decide +kernel
  have f24 := k_cond F (w := .fieldLink RX1 24 "ChoirPlanner$Roster" "size" "I") (by decide +kernel)
  have hl : lv_has ls 2 [(0, .ref (B 0)), (1, .int (iI x))] := hl
  refine lv_iload_n F.1 F.2.1 dX1_has_0 rfl (lv_at hl 1 rfl) ?_
  refine k_if_lt F (tgt := 16) dX1_has_1 (by decide) (by omega) (fun c_1 => ?_) (fun c_1 => ?_)
  · skip
    refine k_iconst F dX1_has_16 ?_
    exact k_zret F hr hlocks (bI_f (by omega)).symm (Or.inl rfl) dX1_has_17
  · skip
    refine lv_iload_n F.1 F.2.1 dX1_has_4 rfl (lv_at hl 1 rfl) ?_
    refine lv_aload_n F.1 F.2.1 dX1_has_5 rfl (lv_at hl 0 rfl) ?_
    refine k_get F hK hP iX1 0 rfl rfl 4 (by decide) f24 rfl rfl dX1_has_6 ?_
    refine k_icmp_ge F (tgt := 16) dX1_has_9 (by decide) (by omega) (by omega) (fun c_2 => ?_) (fun c_2 => ?_)
    · skip
      refine k_iconst F dX1_has_16 ?_
      exact k_zret F hr hlocks (bI_f (by omega)).symm (Or.inl rfl) dX1_has_17
    · skip
      refine k_iconst F dX1_has_12 ?_
      refine lv_goto (tgt := 17) F.1 F.2.1 dX1_has_13 (by decide) ?_
      exact k_zret F hr hlocks (bI_t (by omega)).symm (Or.inr rfl) dX1_has_17

set_option maxHeartbeats 4000000 in
set_option maxRecDepth 100000 in
theorem mX1_isThere (l : Launch) (G : gT) (B : Nat → Nat) (σ : Sg) (j : Nat) (d : Int) (hj : j < 12) : Met l yX1_isThere wsX1_isThere { frames := 0, cells := 0, slots := 0, locals := 0 } (va_Pc [.ref (B 0), .int (iI (j : Int)), .int (iI d)] (rB G (RW G B σ))) (oI (bI (thr (σ 6 0 j) d = true))) 0 0 (fun _ => False) := by
  refine rd_start (own := RX1) (cc := cX1_isThere) (mL := 3) (ret := (some .boolean)) (by decide) rfl rfl (Nat.le_of_ble_eq_true rfl) ?_
  intro pP eE sS mM args bB meth cC ls F hr hlocks hP hK hl
  have iX1 : ∀ x ∈ wsX10, x ∈ wsX1_isThere := by decide +kernel
  have f21 := k_cond F (w := .fieldLink RX1 21 "ChoirPlanner$Roster" "away" "[I") (by decide +kernel)
  have hl : lv_has ls 3 [(0, .ref (B 0)), (1, .int (iI (j : Int))), (2, .int (iI d))] := hl
  refine lv_aload_n F.1 F.2.1 dX1_isThere_0 rfl (lv_at hl 0 rfl) ?_
  refine k_get F hK hP iX1 0 rfl rfl 3 (by decide) f21 rfl rfl dX1_isThere_1 ?_
  refine lv_iload_n F.1 F.2.1 dX1_isThere_4 rfl (lv_at hl 1 rfl) ?_
  refine k_iald F hK hP 4 rfl j (by omega) (by omega) (by decide) rfl dX1_isThere_5 ?_
  refine lv_iload_n F.1 F.2.1 dX1_isThere_6 rfl (lv_at hl 2 rfl) ?_
  refine k_ishr F dX1_isThere_7 ?_
  refine k_iconst F dX1_isThere_8 ?_
  refine k_iand F dX1_isThere_9 ?_
  refine k_if_ne F (tgt := 17) dX1_isThere_10 (by decide) (iI_rg _) (fun c_1 => ?_) (fun c_1 => ?_)
  · skip
    refine k_iconst F dX1_isThere_17 ?_
    exact k_zret F hr hlocks (bI_f (by simpa [thr] using c_1)).symm (Or.inl rfl) dX1_isThere_18
  · skip
    refine k_iconst F dX1_isThere_13 ?_
    refine lv_goto (tgt := 18) F.1 F.2.1 dX1_isThere_14 (by decide) ?_
    exact k_zret F hr hlocks (bI_t (by simpa [thr] using c_1)).symm (Or.inr rfl) dX1_isThere_18

set_option maxHeartbeats 4000000 in
set_option maxRecDepth 100000 in
theorem mX1_sings (l : Launch) (G : gT) (B : Nat → Nat) (σ : Sg) (j : Nat) (v d : Int) (hv : -2147483648 ≤ v ∧ v < 2147483648) {n k N : Nat} (hI : Iv σ n k N) (hj : j < n) : Met l yX1_sings wsX1_sings { frames := 1, cells := 0, slots := 0, locals := 22 } (va_Pc [.ref (B 0), .int (iI (j : Int)), .int (iI v), .int (iI d)] (rB G (RW G B σ))) (oI (bI (sgs σ v d j = true))) 0 0 (fun _ => False) := by
  refine rd_start (own := RX1) (cc := cX1_sings) (mL := 4) (ret := (some .boolean)) (by decide) rfl rfl (Nat.le_of_ble_eq_true rfl) ?_
  intro pP eE sS mM args bB meth cC ls F hr hlocks hP hK hl
  obtain ⟨hn, hn12, hk, hk6, hsg, haw, hch, hch1, hch0, htn, hto, htz, hpr, hN, hpz, hle, hlz⟩ := id hI
  have hb := hsg j hj
  have iX1 : ∀ x ∈ wsX10, x ∈ wsX1_sings := by decide +kernel
  have f9 := k_cond F (w := .fieldLink RX1 9 "ChoirPlanner$Roster" "voices" "[I") (by decide +kernel)
  have hl : lv_has ls 4 [(0, .ref (B 0)), (1, .int (iI (j : Int))), (2, .int (iI v)), (3, .int (iI d))] := hl
  refine lv_aload_n F.1 F.2.1 dX1_sings_0 rfl (lv_at hl 0 rfl) ?_
  refine k_get F hK hP iX1 0 rfl rfl 0 (by decide) f9 rfl rfl dX1_sings_1 ?_
  refine lv_iload_n F.1 F.2.1 dX1_sings_4 rfl (lv_at hl 1 rfl) ?_
  refine k_iald F hK hP 1 rfl j (by omega) (by omega) (by decide) rfl dX1_sings_5 ?_
  refine lv_iload_n F.1 F.2.1 dX1_sings_6 rfl (lv_at hl 2 rfl) ?_
  refine k_icmp_ne F (tgt := 23) dX1_sings_7 (by decide) (by omega) (by omega) (fun c_1 => ?_) (fun c_1 => ?_)
  · skip
    refine k_iconst F dX1_sings_23 ?_
    exact k_zret F hr hlocks (by first | rw [bI_f (by rw [sgs_f1 (by assumption)]; decide)] | rw [bI_f (by rw [sgs_f2 (by assumption)]; decide)]) (Or.inl rfl) dX1_sings_24
  · skip
    refine lv_aload_n F.1 F.2.1 dX1_sings_10 rfl (lv_at hl 0 rfl) ?_
    refine lv_iload_n F.1 F.2.1 dX1_sings_11 rfl (lv_at hl 1 rfl) ?_
    refine lv_iload_n F.1 F.2.1 dX1_sings_12 rfl (lv_at hl 3 rfl) ?_
    refine rd_V F (n := 2) (w0 := []) (mX1_isThere l G B σ j d (by omega)) gX1_sings_X1_isThere rfl rfl rfl (by decide +kernel) ⟨Nat.le_of_ble_eq_true rfl, Nat.le_of_ble_eq_true rfl⟩ hK hP (ci := 1) (q0 := 0) rfl rfl rfl rfl hl.1 (Nat.le_of_ble_eq_true rfl) dX1_sings_13 ⟨Nat.zero_le _, Nat.zero_le _⟩ ?_
    refine k_ifb_eq F (tgt := 23) dX1_sings_16 (by decide) (fun c_2 => ?_) (fun c_2 => ?_)
    · skip
      refine k_iconst F dX1_sings_23 ?_
      exact k_zret F hr hlocks (by first | rw [bI_f (by rw [sgs_f1 (by assumption)]; decide)] | rw [bI_f (by rw [sgs_f2 (by assumption)]; decide)]) (Or.inl rfl) dX1_sings_24
    · skip
      refine k_iconst F dX1_sings_19 ?_
      refine lv_goto (tgt := 24) F.1 F.2.1 dX1_sings_20 (by decide) ?_
      exact k_zret F hr hlocks (bI_t (sgs_t (by assumption) (by assumption))).symm (Or.inr rfl) dX1_sings_24

set_option maxHeartbeats 4000000 in
set_option maxRecDepth 100000 in
theorem mX1_firstTone (l : Launch) (G : gT) (B : Nat → Nat) (σ : Sg) (v d : Int) (hv : -2147483648 ≤ v ∧ v < 2147483648) {n k N : Nat} (hI : Iv σ n k N) : Met l yX1_firstTone wsX1_firstTone { frames := 2, cells := 0, slots := 0, locals := 45 } (va_Pc [.ref (B 0), .int (iI v), .int (iI d)] (rB G (RW G B σ))) (oI (ftC σ v d n)) 0 0 (fun _ => False) := by
  refine rd_start (own := RX1) (cc := cX1_firstTone) (mL := 5) (ret := (some .int)) (by decide) rfl rfl (Nat.le_of_ble_eq_true rfl) ?_
  intro pP eE sS mM args bB meth cC ls F hr hlocks hP hK hl
  obtain ⟨hn, hn12, hk, hk6, hsg, haw, hch, hch1, hch0, htn, hto, htz, hpr, hN, hpz, hle, hlz⟩ := id hI
  have hfr := ftC_rg (σ := σ) (v := v) (d := d) (n := n) (fun j hj => by have := hsg j hj; omega)
  have iX1 : ∀ x ∈ wsX10, x ∈ wsX1_firstTone := by decide +kernel
  have f15 := k_cond F (w := .fieldLink RX1 15 "ChoirPlanner$Roster" "lowest" "[I") (by decide +kernel)
  have f24 := k_cond F (w := .fieldLink RX1 24 "ChoirPlanner$Roster" "size" "I") (by decide +kernel)
  have hl : lv_has ls 5 [(0, .ref (B 0)), (1, .int (iI v)), (2, .int (iI d))] := hl
  refine k_iconst F dX1_firstTone_0 ?_
  refine lv_istore_n (lv' := [(3, .int (iI 0)), (0, .ref (B 0)), (1, .int (iI v)), (2, .int (iI d))]) F.1 F.2.1 dX1_firstTone_1 rfl hl (by decide) rfl (fun ls hl => ?_)
  refine k_iconst F dX1_firstTone_2 ?_
  refine lv_istore (lv' := [(4, .int (iI 0)), (3, .int (iI 0)), (0, .ref (B 0)), (1, .int (iI v)), (2, .int (iI d))]) F.1 F.2.1 dX1_firstTone_3 hl (by decide) rfl (fun ls hl => ?_)
  have J_1 : ∀ k : Nat, k ≤ n → ∀ ls : Array Slot, lv_has ls 5 [(4, .int (iI (k : Int))), (3, .int (iI (ftC σ v d k))), (0, .ref (B 0)), (1, .int (iI v)), (2, .int (iI d))] → W pP l eE ({ frames := 2, cells := 0, slots := 0, locals := 45 }) sS mM args bB meth cC sS.heap [] 0 0 (MQ bB (oI (ftC σ v d n)) args sS 0 0 (fun _ => False)) (F0 mM 5 ls []) := by
    refine lp_up (n) ?_ ?_
    · intro ls hl
      refine lv_iload F.1 F.2.1 dX1_firstTone_5 (lv_at hl 0 rfl) ?_
      refine lv_aload_n F.1 F.2.1 dX1_firstTone_7 rfl (lv_at hl 2 rfl) ?_
      refine k_get F hK hP iX1 0 rfl rfl 4 (by decide) f24 rfl rfl dX1_firstTone_8 ?_
      refine k_icmp_ge F (tgt := 43) dX1_firstTone_11 (by decide) (by omega) (by omega) (fun c_3 => ?_) (fun c_3 => absurd c_3 (by omega))
      refine lv_iload_n F.1 F.2.1 dX1_firstTone_43 rfl (lv_at hl 1 rfl) ?_
      exact k_ret F hr hlocks rfl dX1_firstTone_44
    · intro k hk9 ih ls hl
      have hb := hsg k hk9
      have hf := hfr k (by omega)
      refine lv_iload F.1 F.2.1 dX1_firstTone_5 (lv_at hl 0 rfl) ?_
      refine lv_aload_n F.1 F.2.1 dX1_firstTone_7 rfl (lv_at hl 2 rfl) ?_
      refine k_get F hK hP iX1 0 rfl rfl 4 (by decide) f24 rfl rfl dX1_firstTone_8 ?_
      refine k_icmp_ge F (tgt := 43) dX1_firstTone_11 (by decide) (by omega) (by omega) (fun c_4 => absurd c_4 (by omega)) (fun c_4 => ?_)
      refine lv_aload_n F.1 F.2.1 dX1_firstTone_14 rfl (lv_at hl 2 rfl) ?_
      refine lv_iload F.1 F.2.1 dX1_firstTone_15 (lv_at hl 0 rfl) ?_
      refine lv_iload_n F.1 F.2.1 dX1_firstTone_17 rfl (lv_at hl 3 rfl) ?_
      refine lv_iload_n F.1 F.2.1 dX1_firstTone_18 rfl (lv_at hl 4 rfl) ?_
      refine rd_V F (n := 3) (w0 := []) (mX1_sings l G B σ k v d (by omega) hI (by omega)) gX1_firstTone_X1_sings rfl rfl rfl (by decide +kernel) ⟨Nat.le_of_ble_eq_true rfl, Nat.le_of_ble_eq_true rfl⟩ hK hP (ci := 1) (q0 := 0) rfl rfl rfl rfl hl.1 (Nat.le_of_ble_eq_true rfl) dX1_firstTone_19 ⟨Nat.zero_le _, Nat.zero_le _⟩ ?_
      refine k_ifb_eq F (tgt := 37) dX1_firstTone_22 (by decide) (fun c_5 => ?_) (fun c_5 => ?_)
      · skip
        refine lv_iinc (v := iI ((k : Int) + 1)) (lv' := [(4, .int (iI ((k : Int) + 1))), (3, .int (iI (ftC σ v d k))), (0, .ref (B 0)), (1, .int (iI v)), (2, .int (iI d))]) F.1 F.2.1 dX1_firstTone_37 hl (k := 0) rfl (iI_add _ _) (by decide) rfl (fun ls hl => ?_)
        refine lv_goto (tgt := 5) F.1 F.2.1 dX1_firstTone_40 (by decide) ?_
        have e_6 : (((k : Int) + 1) : Int) = ((k + 1 : Nat) : Int) := rfl
        have e_7 : (ftC σ v d k : Int) = ftC σ v d (k + 1) := by rw [ftC_s]; first | rw [if_pos (by assumption)] | rw [if_neg (by assumption)]
        exact ih _ (lv_to (lv_to (lv_sub hl [0, 1, 2, 3, 4] rfl) (congrArg (fun x9 : Int => ([(4, .int (iI x9)), (3, .int (iI (ftC σ v d k))), (0, .ref (B 0)), (1, .int (iI v)), (2, .int (iI d))] : List (Nat × Value))) e_6)) (congrArg (fun x9 : Int => ([(4, .int (iI ((k + 1 : Nat) : Int))), (3, .int (iI x9)), (0, .ref (B 0)), (1, .int (iI v)), (2, .int (iI d))] : List (Nat × Value))) e_7))
      · skip
        refine lv_iload_n F.1 F.2.1 dX1_firstTone_25 rfl (lv_at hl 1 rfl) ?_
        refine lv_aload_n F.1 F.2.1 dX1_firstTone_26 rfl (lv_at hl 2 rfl) ?_
        refine k_get F hK hP iX1 0 rfl rfl 1 (by decide) f15 rfl rfl dX1_firstTone_27 ?_
        refine lv_iload F.1 F.2.1 dX1_firstTone_30 (lv_at hl 0 rfl) ?_
        refine k_iald F hK hP 2 rfl k (by omega) (by omega) (by decide) rfl dX1_firstTone_32 ?_
        refine k_mmax F hl.1 (k_cond F (w := .methodLink RX1 32 Lib.Math.max.name) (by decide +kernel)) (k_cond F (w := .static Lib.Math.max.name) (by decide +kernel)) (k_cond F (w := .initialized "java/lang/Math") (by decide +kernel)) (k_cond F (w := .code Lib.Math.max.name Lib.Math.max.code 2 (some .int)) (by decide +kernel)) (Nat.le_of_ble_eq_true rfl) (Nat.le_of_ble_eq_true rfl) (Nat.zero_le _) (Nat.zero_le _) (by omega) (by omega) dX1_firstTone_33 ?_
        refine lv_istore_n (lv' := [(3, .int (iI (max (ftC σ v d k) (σ 4 0 k)))), (4, .int (iI (k : Int))), (0, .ref (B 0)), (1, .int (iI v)), (2, .int (iI d))]) F.1 F.2.1 dX1_firstTone_36 rfl hl (by decide) rfl (fun ls hl => ?_)
        refine lv_iinc (v := iI ((k : Int) + 1)) (lv' := [(4, .int (iI ((k : Int) + 1))), (3, .int (iI (max (ftC σ v d k) (σ 4 0 k)))), (0, .ref (B 0)), (1, .int (iI v)), (2, .int (iI d))]) F.1 F.2.1 dX1_firstTone_37 hl (k := 1) rfl (iI_add _ _) (by decide) rfl (fun ls hl => ?_)
        refine lv_goto (tgt := 5) F.1 F.2.1 dX1_firstTone_40 (by decide) ?_
        have e_8 : (((k : Int) + 1) : Int) = ((k + 1 : Nat) : Int) := rfl
        have e_9 : ((max (ftC σ v d k) (σ 4 0 k)) : Int) = ftC σ v d (k + 1) := by rw [ftC_s]; first | rw [if_pos (by assumption)] | rw [if_neg (by assumption)]
        exact ih _ (lv_to (lv_to (lv_sub hl [0, 1, 2, 3, 4] rfl) (congrArg (fun x9 : Int => ([(4, .int (iI x9)), (3, .int (iI (max (ftC σ v d k) (σ 4 0 k)))), (0, .ref (B 0)), (1, .int (iI v)), (2, .int (iI d))] : List (Nat × Value))) e_8)) (congrArg (fun x9 : Int => ([(4, .int (iI ((k + 1 : Nat) : Int))), (3, .int (iI x9)), (0, .ref (B 0)), (1, .int (iI v)), (2, .int (iI d))] : List (Nat × Value))) e_9))
  have e_10 : (0 : Int) = ((0 : Nat) : Int) := rfl
  have e_11 : (0 : Int) = ftC σ v d 0 := rfl
  exact J_1 0 (by omega) _ (lv_to (lv_to (lv_sub hl [0, 1, 2, 3, 4] rfl) (congrArg (fun x9 : Int => ([(4, .int (iI x9)), (3, .int (iI 0)), (0, .ref (B 0)), (1, .int (iI v)), (2, .int (iI d))] : List (Nat × Value))) e_10)) (congrArg (fun x9 : Int => ([(4, .int (iI ((0 : Nat) : Int))), (3, .int (iI x9)), (0, .ref (B 0)), (1, .int (iI v)), (2, .int (iI d))] : List (Nat × Value))) e_11))

set_option maxHeartbeats 4000000 in
set_option maxRecDepth 100000 in
theorem mX1_lastTone (l : Launch) (G : gT) (B : Nat → Nat) (σ : Sg) (v d : Int) (hv : -2147483648 ≤ v ∧ v < 2147483648) {n k N : Nat} (hI : Iv σ n k N) : Met l yX1_lastTone wsX1_lastTone { frames := 2, cells := 0, slots := 0, locals := 45 } (va_Pc [.ref (B 0), .int (iI v), .int (iI d)] (rB G (RW G B σ))) (oI (ltC σ v d n)) 0 0 (fun _ => False) := by
  refine rd_start (own := RX1) (cc := cX1_lastTone) (mL := 5) (ret := (some .int)) (by decide) rfl rfl (Nat.le_of_ble_eq_true rfl) ?_
  intro pP eE sS mM args bB meth cC ls F hr hlocks hP hK hl
  obtain ⟨hn, hn12, hk, hk6, hsg, haw, hch, hch1, hch0, htn, hto, htz, hpr, hN, hpz, hle, hlz⟩ := id hI
  have hfr := ltC_rg (σ := σ) (v := v) (d := d) (n := n) (fun j hj => by have := hsg j hj; omega)
  have iX1 : ∀ x ∈ wsX10, x ∈ wsX1_lastTone := by decide +kernel
  have f18 := k_cond F (w := .fieldLink RX1 18 "ChoirPlanner$Roster" "highest" "[I") (by decide +kernel)
  have f24 := k_cond F (w := .fieldLink RX1 24 "ChoirPlanner$Roster" "size" "I") (by decide +kernel)
  have hl : lv_has ls 5 [(0, .ref (B 0)), (1, .int (iI v)), (2, .int (iI d))] := hl
  refine k_iconst F dX1_lastTone_0 ?_
  refine lv_istore_n (lv' := [(3, .int (iI (-1))), (0, .ref (B 0)), (1, .int (iI v)), (2, .int (iI d))]) F.1 F.2.1 dX1_lastTone_1 rfl hl (by decide) rfl (fun ls hl => ?_)
  refine k_iconst F dX1_lastTone_2 ?_
  refine lv_istore (lv' := [(4, .int (iI 0)), (3, .int (iI (-1))), (0, .ref (B 0)), (1, .int (iI v)), (2, .int (iI d))]) F.1 F.2.1 dX1_lastTone_3 hl (by decide) rfl (fun ls hl => ?_)
  have J_1 : ∀ k : Nat, k ≤ n → ∀ ls : Array Slot, lv_has ls 5 [(4, .int (iI (k : Int))), (3, .int (iI (ltC σ v d k))), (0, .ref (B 0)), (1, .int (iI v)), (2, .int (iI d))] → W pP l eE ({ frames := 2, cells := 0, slots := 0, locals := 45 }) sS mM args bB meth cC sS.heap [] 0 0 (MQ bB (oI (ltC σ v d n)) args sS 0 0 (fun _ => False)) (F0 mM 5 ls []) := by
    refine lp_up (n) ?_ ?_
    · intro ls hl
      refine lv_iload F.1 F.2.1 dX1_lastTone_5 (lv_at hl 0 rfl) ?_
      refine lv_aload_n F.1 F.2.1 dX1_lastTone_7 rfl (lv_at hl 2 rfl) ?_
      refine k_get F hK hP iX1 0 rfl rfl 4 (by decide) f24 rfl rfl dX1_lastTone_8 ?_
      refine k_icmp_ge F (tgt := 57) dX1_lastTone_11 (by decide) (by omega) (by omega) (fun c_3 => ?_) (fun c_3 => absurd c_3 (by omega))
      refine lv_iload_n F.1 F.2.1 dX1_lastTone_57 rfl (lv_at hl 1 rfl) ?_
      exact k_ret F hr hlocks rfl dX1_lastTone_58
    · intro k hk9 ih ls hl
      have hb := hsg k hk9
      have hf := hfr k (by omega)
      refine lv_iload F.1 F.2.1 dX1_lastTone_5 (lv_at hl 0 rfl) ?_
      refine lv_aload_n F.1 F.2.1 dX1_lastTone_7 rfl (lv_at hl 2 rfl) ?_
      refine k_get F hK hP iX1 0 rfl rfl 4 (by decide) f24 rfl rfl dX1_lastTone_8 ?_
      refine k_icmp_ge F (tgt := 57) dX1_lastTone_11 (by decide) (by omega) (by omega) (fun c_4 => absurd c_4 (by omega)) (fun c_4 => ?_)
      refine lv_aload_n F.1 F.2.1 dX1_lastTone_14 rfl (lv_at hl 2 rfl) ?_
      refine lv_iload F.1 F.2.1 dX1_lastTone_15 (lv_at hl 0 rfl) ?_
      refine lv_iload_n F.1 F.2.1 dX1_lastTone_17 rfl (lv_at hl 3 rfl) ?_
      refine lv_iload_n F.1 F.2.1 dX1_lastTone_18 rfl (lv_at hl 4 rfl) ?_
      refine rd_V F (n := 3) (w0 := []) (mX1_sings l G B σ k v d (by omega) hI (by omega)) gX1_lastTone_X1_sings rfl rfl rfl (by decide +kernel) ⟨Nat.le_of_ble_eq_true rfl, Nat.le_of_ble_eq_true rfl⟩ hK hP (ci := 1) (q0 := 0) rfl rfl rfl rfl hl.1 (Nat.le_of_ble_eq_true rfl) dX1_lastTone_19 ⟨Nat.zero_le _, Nat.zero_le _⟩ ?_
      refine k_ifb_eq F (tgt := 51) dX1_lastTone_22 (by decide) (fun c_5 => ?_) (fun c_5 => ?_)
      · skip
        refine lv_iinc (v := iI ((k : Int) + 1)) (lv' := [(4, .int (iI ((k : Int) + 1))), (3, .int (iI (ltC σ v d k))), (0, .ref (B 0)), (1, .int (iI v)), (2, .int (iI d))]) F.1 F.2.1 dX1_lastTone_51 hl (k := 0) rfl (iI_add _ _) (by decide) rfl (fun ls hl => ?_)
        refine lv_goto (tgt := 5) F.1 F.2.1 dX1_lastTone_54 (by decide) ?_
        have e_6 : (((k : Int) + 1) : Int) = ((k + 1 : Nat) : Int) := rfl
        have e_7 : (ltC σ v d k : Int) = ltC σ v d (k + 1) := by rw [ltC_s]; first | rw [if_pos (by assumption), if_pos (by omega)] | rw [if_pos (by assumption), if_neg (by omega)] | rw [if_neg (by assumption)]
        exact ih _ (lv_to (lv_to (lv_sub hl [0, 1, 2, 3, 4] rfl) (congrArg (fun x9 : Int => ([(4, .int (iI x9)), (3, .int (iI (ltC σ v d k))), (0, .ref (B 0)), (1, .int (iI v)), (2, .int (iI d))] : List (Nat × Value))) e_6)) (congrArg (fun x9 : Int => ([(4, .int (iI ((k + 1 : Nat) : Int))), (3, .int (iI x9)), (0, .ref (B 0)), (1, .int (iI v)), (2, .int (iI d))] : List (Nat × Value))) e_7))
      · skip
        refine lv_iload_n F.1 F.2.1 dX1_lastTone_25 rfl (lv_at hl 1 rfl) ?_
        refine k_if_ge F (tgt := 39) dX1_lastTone_26 (by decide) (by omega) (fun c_8 => ?_) (fun c_8 => ?_)
        · skip
          refine lv_iload_n F.1 F.2.1 dX1_lastTone_39 rfl (lv_at hl 1 rfl) ?_
          refine lv_aload_n F.1 F.2.1 dX1_lastTone_40 rfl (lv_at hl 2 rfl) ?_
          refine k_get F hK hP iX1 0 rfl rfl 2 (by decide) f18 rfl rfl dX1_lastTone_41 ?_
          refine lv_iload F.1 F.2.1 dX1_lastTone_44 (lv_at hl 0 rfl) ?_
          refine k_iald F hK hP 3 rfl k (by omega) (by omega) (by decide) rfl dX1_lastTone_46 ?_
          refine k_mmin F hl.1 (k_cond F (w := .methodLink RX1 38 Lib.Math.min.name) (by decide +kernel)) (k_cond F (w := .static Lib.Math.min.name) (by decide +kernel)) (k_cond F (w := .initialized "java/lang/Math") (by decide +kernel)) (k_cond F (w := .code Lib.Math.min.name Lib.Math.min.code 2 (some .int)) (by decide +kernel)) (Nat.le_of_ble_eq_true rfl) (Nat.le_of_ble_eq_true rfl) (Nat.zero_le _) (Nat.zero_le _) (by omega) (by omega) dX1_lastTone_47 ?_
          refine lv_istore_n (lv' := [(3, .int (iI (min (ltC σ v d k) (σ 5 0 k)))), (4, .int (iI (k : Int))), (0, .ref (B 0)), (1, .int (iI v)), (2, .int (iI d))]) F.1 F.2.1 dX1_lastTone_50 rfl hl (by decide) rfl (fun ls hl => ?_)
          refine lv_iinc (v := iI ((k : Int) + 1)) (lv' := [(4, .int (iI ((k : Int) + 1))), (3, .int (iI (min (ltC σ v d k) (σ 5 0 k)))), (0, .ref (B 0)), (1, .int (iI v)), (2, .int (iI d))]) F.1 F.2.1 dX1_lastTone_51 hl (k := 1) rfl (iI_add _ _) (by decide) rfl (fun ls hl => ?_)
          refine lv_goto (tgt := 5) F.1 F.2.1 dX1_lastTone_54 (by decide) ?_
          have e_9 : (((k : Int) + 1) : Int) = ((k + 1 : Nat) : Int) := rfl
          have e_10 : ((min (ltC σ v d k) (σ 5 0 k)) : Int) = ltC σ v d (k + 1) := by rw [ltC_s]; first | rw [if_pos (by assumption), if_pos (by omega)] | rw [if_pos (by assumption), if_neg (by omega)] | rw [if_neg (by assumption)]
          exact ih _ (lv_to (lv_to (lv_sub hl [0, 1, 2, 3, 4] rfl) (congrArg (fun x9 : Int => ([(4, .int (iI x9)), (3, .int (iI (min (ltC σ v d k) (σ 5 0 k)))), (0, .ref (B 0)), (1, .int (iI v)), (2, .int (iI d))] : List (Nat × Value))) e_9)) (congrArg (fun x9 : Int => ([(4, .int (iI ((k + 1 : Nat) : Int))), (3, .int (iI x9)), (0, .ref (B 0)), (1, .int (iI v)), (2, .int (iI d))] : List (Nat × Value))) e_10))
        · skip
          refine lv_aload_n F.1 F.2.1 dX1_lastTone_29 rfl (lv_at hl 2 rfl) ?_
          refine k_get F hK hP iX1 0 rfl rfl 2 (by decide) f18 rfl rfl dX1_lastTone_30 ?_
          refine lv_iload F.1 F.2.1 dX1_lastTone_33 (lv_at hl 0 rfl) ?_
          refine k_iald F hK hP 3 rfl k (by omega) (by omega) (by decide) rfl dX1_lastTone_35 ?_
          refine lv_goto (tgt := 50) F.1 F.2.1 dX1_lastTone_36 (by decide) ?_
          refine lv_istore_n (lv' := [(3, .int (iI (σ 5 0 k))), (4, .int (iI (k : Int))), (0, .ref (B 0)), (1, .int (iI v)), (2, .int (iI d))]) F.1 F.2.1 dX1_lastTone_50 rfl hl (by decide) rfl (fun ls hl => ?_)
          refine lv_iinc (v := iI ((k : Int) + 1)) (lv' := [(4, .int (iI ((k : Int) + 1))), (3, .int (iI (σ 5 0 k))), (0, .ref (B 0)), (1, .int (iI v)), (2, .int (iI d))]) F.1 F.2.1 dX1_lastTone_51 hl (k := 1) rfl (iI_add _ _) (by decide) rfl (fun ls hl => ?_)
          refine lv_goto (tgt := 5) F.1 F.2.1 dX1_lastTone_54 (by decide) ?_
          have e_11 : (((k : Int) + 1) : Int) = ((k + 1 : Nat) : Int) := rfl
          have e_12 : ((σ 5 0 k) : Int) = ltC σ v d (k + 1) := by rw [ltC_s]; first | rw [if_pos (by assumption), if_pos (by omega)] | rw [if_pos (by assumption), if_neg (by omega)] | rw [if_neg (by assumption)]
          exact ih _ (lv_to (lv_to (lv_sub hl [0, 1, 2, 3, 4] rfl) (congrArg (fun x9 : Int => ([(4, .int (iI x9)), (3, .int (iI (σ 5 0 k))), (0, .ref (B 0)), (1, .int (iI v)), (2, .int (iI d))] : List (Nat × Value))) e_11)) (congrArg (fun x9 : Int => ([(4, .int (iI ((k + 1 : Nat) : Int))), (3, .int (iI x9)), (0, .ref (B 0)), (1, .int (iI v)), (2, .int (iI d))] : List (Nat × Value))) e_12))
  have e_13 : (0 : Int) = ((0 : Nat) : Int) := rfl
  have e_14 : ((-1) : Int) = ltC σ v d 0 := rfl
  exact J_1 0 (by omega) _ (lv_to (lv_to (lv_sub hl [0, 1, 2, 3, 4] rfl) (congrArg (fun x9 : Int => ([(4, .int (iI x9)), (3, .int (iI (-1))), (0, .ref (B 0)), (1, .int (iI v)), (2, .int (iI d))] : List (Nat × Value))) e_13)) (congrArg (fun x9 : Int => ([(4, .int (iI ((0 : Nat) : Int))), (3, .int (iI x9)), (0, .ref (B 0)), (1, .int (iI v)), (2, .int (iI d))] : List (Nat × Value))) e_14))

set_option maxHeartbeats 4000000 in
set_option maxRecDepth 100000 in
theorem mX1_countMissed (l : Launch) (G : gT) (B : Nat → Nat) (σ : Sg) (d : Int) {n k N : Nat} (hI : Iv σ n k N) : Met l yX1_countMissed wsX1_countMissed { frames := 3, cells := 0, slots := 0, locals := 69 } (va_Pc [.ref (B 0), .int (iI d)] (rB G (RW G B σ))) (oI (msC σ d n n)) 0 0 (fun _ => False) := by
  refine rd_start (own := RX1) (cc := cX1_countMissed) (mL := 4) (ret := (some .int)) (by decide) rfl rfl (Nat.le_of_ble_eq_true rfl) ?_
  intro pP eE sS mM args bB meth cC ls F hr hlocks hP hK hl
  obtain ⟨hn, hn12, hk, hk6, hsg, haw, hch, hch1, hch0, htn, hto, htz, hpr, hN, hpz, hle, hlz⟩ := id hI
  have iX1 : ∀ x ∈ wsX10, x ∈ wsX1_countMissed := by decide +kernel
  have f9 := k_cond F (w := .fieldLink RX1 9 "ChoirPlanner$Roster" "voices" "[I") (by decide +kernel)
  have f24 := k_cond F (w := .fieldLink RX1 24 "ChoirPlanner$Roster" "size" "I") (by decide +kernel)
  have hl : lv_has ls 4 [(0, .ref (B 0)), (1, .int (iI d))] := hl
  refine k_iconst F dX1_countMissed_0 ?_
  refine lv_istore_n (lv' := [(2, .int (iI 0)), (0, .ref (B 0)), (1, .int (iI d))]) F.1 F.2.1 dX1_countMissed_1 rfl hl (by decide) rfl (fun ls hl => ?_)
  refine k_iconst F dX1_countMissed_2 ?_
  refine lv_istore_n (lv' := [(3, .int (iI 0)), (2, .int (iI 0)), (0, .ref (B 0)), (1, .int (iI d))]) F.1 F.2.1 dX1_countMissed_3 rfl hl (by decide) rfl (fun ls hl => ?_)
  have J_1 : ∀ k : Nat, k ≤ n → ∀ ls : Array Slot, lv_has ls 4 [(2, .int (iI (msC σ d n k))), (3, .int (iI (k : Int))), (0, .ref (B 0)), (1, .int (iI d))] → W pP l eE ({ frames := 3, cells := 0, slots := 0, locals := 69 }) sS mM args bB meth cC sS.heap [] 0 0 (MQ bB (oI (msC σ d n n)) args sS 0 0 (fun _ => False)) (F0 mM 4 ls []) := by
    refine lp_up (n) ?_ ?_
    · intro ls hl
      refine lv_iload_n F.1 F.2.1 dX1_countMissed_4 rfl (lv_at hl 1 rfl) ?_
      refine lv_aload_n F.1 F.2.1 dX1_countMissed_5 rfl (lv_at hl 2 rfl) ?_
      refine k_get F hK hP iX1 0 rfl rfl 4 (by decide) f24 rfl rfl dX1_countMissed_6 ?_
      refine k_icmp_ge F (tgt := 44) dX1_countMissed_9 (by decide) (by omega) (by omega) (fun c_3 => ?_) (fun c_3 => absurd c_3 (by omega))
      refine lv_iload_n F.1 F.2.1 dX1_countMissed_44 rfl (lv_at hl 0 rfl) ?_
      exact k_ret F hr hlocks rfl dX1_countMissed_45
    · intro k hk9 ih ls hl
      have hb := hsg k hk9
      have hf := ltC_rg (σ := σ) (v := σ 3 0 k) (d := d) (n := n) (fun j hj => by have := hsg j hj; omega) n (Nat.le_refl n)
      refine lv_iload_n F.1 F.2.1 dX1_countMissed_4 rfl (lv_at hl 1 rfl) ?_
      refine lv_aload_n F.1 F.2.1 dX1_countMissed_5 rfl (lv_at hl 2 rfl) ?_
      refine k_get F hK hP iX1 0 rfl rfl 4 (by decide) f24 rfl rfl dX1_countMissed_6 ?_
      refine k_icmp_ge F (tgt := 44) dX1_countMissed_9 (by decide) (by omega) (by omega) (fun c_4 => absurd c_4 (by omega)) (fun c_4 => ?_)
      refine lv_aload_n F.1 F.2.1 dX1_countMissed_12 rfl (lv_at hl 2 rfl) ?_
      refine lv_iload_n F.1 F.2.1 dX1_countMissed_13 rfl (lv_at hl 1 rfl) ?_
      refine lv_iload_n F.1 F.2.1 dX1_countMissed_14 rfl (lv_at hl 3 rfl) ?_
      refine rd_V F (n := 2) (w0 := []) (mX1_isThere l G B σ k d (by omega)) gX1_countMissed_X1_isThere rfl rfl rfl (by decide +kernel) ⟨Nat.le_of_ble_eq_true rfl, Nat.le_of_ble_eq_true rfl⟩ hK hP (ci := 1) (q0 := 0) rfl rfl rfl rfl hl.1 (Nat.le_of_ble_eq_true rfl) dX1_countMissed_15 ⟨Nat.zero_le _, Nat.zero_le _⟩ ?_
      refine k_ifb_ne F (tgt := 38) dX1_countMissed_18 (by decide) (fun c_5 => ?_) (fun c_5 => ?_)
      · skip
        refine lv_iinc (v := iI ((k : Int) + 1)) (lv' := [(3, .int (iI ((k : Int) + 1))), (2, .int (iI (msC σ d n k))), (0, .ref (B 0)), (1, .int (iI d))]) F.1 F.2.1 dX1_countMissed_38 hl (k := 1) rfl (iI_add _ _) (by decide) rfl (fun ls hl => ?_)
        refine lv_goto (tgt := 4) F.1 F.2.1 dX1_countMissed_41 (by decide) ?_
        have e_6 : (msC σ d n k : Int) = msC σ d n (k + 1) := by rw [msC_s]; first | rw [if_pos ⟨by assumption, by omega⟩] | (rw [if_neg (fun q => by have := q.2; omega)] <;> omega) | (rw [if_neg (fun q => absurd (by assumption) q.1)] <;> omega)
        have e_7 : (((k : Int) + 1) : Int) = ((k + 1 : Nat) : Int) := rfl
        exact ih _ (lv_to (lv_to (lv_sub hl [1, 0, 2, 3] rfl) (congrArg (fun x9 : Int => ([(2, .int (iI x9)), (3, .int (iI ((k : Int) + 1))), (0, .ref (B 0)), (1, .int (iI d))] : List (Nat × Value))) e_6)) (congrArg (fun x9 : Int => ([(2, .int (iI (msC σ d n (k + 1)))), (3, .int (iI x9)), (0, .ref (B 0)), (1, .int (iI d))] : List (Nat × Value))) e_7))
      · skip
        refine lv_aload_n F.1 F.2.1 dX1_countMissed_21 rfl (lv_at hl 2 rfl) ?_
        refine lv_aload_n F.1 F.2.1 dX1_countMissed_22 rfl (lv_at hl 2 rfl) ?_
        refine k_get F hK hP iX1 0 rfl rfl 0 (by decide) f9 rfl rfl dX1_countMissed_23 ?_
        refine lv_iload_n F.1 F.2.1 dX1_countMissed_26 rfl (lv_at hl 1 rfl) ?_
        refine k_iald F hK hP 1 rfl k (by omega) (by omega) (by decide) rfl dX1_countMissed_27 ?_
        refine lv_iload_n F.1 F.2.1 dX1_countMissed_28 rfl (lv_at hl 3 rfl) ?_
        refine rd_V F (n := 2) (w0 := []) (mX1_lastTone l G B σ (σ 3 0 k) d (by omega) hI) gX1_countMissed_X1_lastTone rfl rfl rfl (by decide +kernel) ⟨Nat.le_of_ble_eq_true rfl, Nat.le_of_ble_eq_true rfl⟩ hK hP (ci := 1) (q0 := 0) rfl rfl rfl rfl hl.1 (Nat.le_of_ble_eq_true rfl) dX1_countMissed_29 ⟨Nat.zero_le _, Nat.zero_le _⟩ ?_
        refine k_if_ge F (tgt := 38) dX1_countMissed_32 (by decide) (by omega) (fun c_8 => ?_) (fun c_8 => ?_)
        · skip
          refine lv_iinc (v := iI ((k : Int) + 1)) (lv' := [(3, .int (iI ((k : Int) + 1))), (2, .int (iI (msC σ d n k))), (0, .ref (B 0)), (1, .int (iI d))]) F.1 F.2.1 dX1_countMissed_38 hl (k := 1) rfl (iI_add _ _) (by decide) rfl (fun ls hl => ?_)
          refine lv_goto (tgt := 4) F.1 F.2.1 dX1_countMissed_41 (by decide) ?_
          have e_9 : (msC σ d n k : Int) = msC σ d n (k + 1) := by rw [msC_s]; first | rw [if_pos ⟨by assumption, by omega⟩] | (rw [if_neg (fun q => by have := q.2; omega)] <;> omega) | (rw [if_neg (fun q => absurd (by assumption) q.1)] <;> omega)
          have e_10 : (((k : Int) + 1) : Int) = ((k + 1 : Nat) : Int) := rfl
          exact ih _ (lv_to (lv_to (lv_sub hl [1, 0, 2, 3] rfl) (congrArg (fun x9 : Int => ([(2, .int (iI x9)), (3, .int (iI ((k : Int) + 1))), (0, .ref (B 0)), (1, .int (iI d))] : List (Nat × Value))) e_9)) (congrArg (fun x9 : Int => ([(2, .int (iI (msC σ d n (k + 1)))), (3, .int (iI x9)), (0, .ref (B 0)), (1, .int (iI d))] : List (Nat × Value))) e_10))
        · skip
          refine lv_iinc (v := iI (msC σ d n k + 1)) (lv' := [(2, .int (iI (msC σ d n k + 1))), (3, .int (iI (k : Int))), (0, .ref (B 0)), (1, .int (iI d))]) F.1 F.2.1 dX1_countMissed_35 hl (k := 0) rfl (iI_add _ _) (by decide) rfl (fun ls hl => ?_)
          refine lv_iinc (v := iI ((k : Int) + 1)) (lv' := [(3, .int (iI ((k : Int) + 1))), (2, .int (iI (msC σ d n k + 1))), (0, .ref (B 0)), (1, .int (iI d))]) F.1 F.2.1 dX1_countMissed_38 hl (k := 1) rfl (iI_add _ _) (by decide) rfl (fun ls hl => ?_)
          refine lv_goto (tgt := 4) F.1 F.2.1 dX1_countMissed_41 (by decide) ?_
          have e_11 : ((msC σ d n k + 1) : Int) = msC σ d n (k + 1) := by rw [msC_s]; first | rw [if_pos ⟨by assumption, by omega⟩] | (rw [if_neg (fun q => by have := q.2; omega)] <;> omega) | (rw [if_neg (fun q => absurd (by assumption) q.1)] <;> omega)
          have e_12 : (((k : Int) + 1) : Int) = ((k + 1 : Nat) : Int) := rfl
          exact ih _ (lv_to (lv_to (lv_sub hl [1, 0, 2, 3] rfl) (congrArg (fun x9 : Int => ([(2, .int (iI x9)), (3, .int (iI ((k : Int) + 1))), (0, .ref (B 0)), (1, .int (iI d))] : List (Nat × Value))) e_11)) (congrArg (fun x9 : Int => ([(2, .int (iI (msC σ d n (k + 1)))), (3, .int (iI x9)), (0, .ref (B 0)), (1, .int (iI d))] : List (Nat × Value))) e_12))
  have e_13 : (0 : Int) = msC σ d n 0 := rfl
  have e_14 : (0 : Int) = ((0 : Nat) : Int) := rfl
  exact J_1 0 (by omega) _ (lv_to (lv_to (lv_sub hl [1, 0, 2, 3] rfl) (congrArg (fun x9 : Int => ([(2, .int (iI x9)), (3, .int (iI 0)), (0, .ref (B 0)), (1, .int (iI d))] : List (Nat × Value))) e_13)) (congrArg (fun x9 : Int => ([(2, .int (iI (msC σ d n 0))), (3, .int (iI x9)), (0, .ref (B 0)), (1, .int (iI d))] : List (Nat × Value))) e_14))
