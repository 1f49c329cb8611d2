theorem en_1 {a b c : String} {K : Int} (h : K = 1) : K ≠ 0 ∧ a = en a b c K := ⟨by omega, by rw [h]; rfl⟩
theorem en_2 {a b c : String} {K : Int} (h : K = 2) : K ≠ 0 ∧ b = en a b c K := ⟨by omega, by rw [h]; rfl⟩
theorem en_3 {a b c : String} {K : Int} (h : K = 3) : K ≠ 0 ∧ c = en a b c K := ⟨by omega, by rw [h]; rfl⟩

set_option maxHeartbeats 4000000 in
set_option maxRecDepth 100000 in
theorem mX2_range (l : Launch) (hfl : l.stackTraces = false) (G : gT) (z0 : Nat) (B : Nat → Nat) (P : Nat → Nat → Nat) (σ : Sg) (v d : Int) (hv : -2147483648 ≤ v ∧ v < 2147483648) (hd : -2147483648 ≤ d ∧ d < 2147483648) {n k N : Nat} (hI : Iv σ n k N) : vx_Met l yX2_range wsX2_range { frames := 7, cells := 6, slots := 36, locals := 130 } (va_Pc [.ref (B 5), .int (iI v), .int (iI d)] (xB G (CW G B P σ k) z0)) (xI (kRng v d = 0) (vRng σ v d n)) (xC (kRng v d ≠ 0) (en nmA nmA nmA (kRng v d))) 6 36 (fun _ => False) := by
  refine x_start (own := RX2) (cc := cX2_range) (mL := 5) (ret := (some .int)) (by decide) rfl rfl (Nat.le_of_ble_eq_true rfl) ?_
  intro pP eE sS mM args bB meth cC ls F hr hlocks hxt hP hK hz hl
  have hS : sF sS sS.heap [] := va_S.rf
  obtain ⟨hn, hn12, hk, hk6, hsg, haw, hch, hch1, hch0, htn, hto, htz, hpr, hN, hpz, hle, hlz⟩ := id hI
  have hs3 : ∀ j, j < n → 0 ≤ σ 4 0 j ∧ σ 4 0 j ≤ σ 5 0 j ∧ σ 5 0 j ≤ 60 := fun j hj => by have := hsg j hj; omega
  have b3 := ftC_rg (σ := σ) (v := v) (d := d) (n := n) (fun j hj => by have := hs3 j hj; omega) n (Nat.le_refl n)
  have b4 := ltC_rg (σ := σ) (v := v) (d := d) (n := n) (fun j hj => by have := hs3 j hj; omega) n (Nat.le_refl n)
  have iX2 : ∀ x ∈ wsX20, x ∈ wsX2_range := by decide +kernel
  have f12 := k_cond F (w := .fieldLink RX2 12 "ChoirPlanner" "roster" "LChoirPlanner$Roster;") (by decide +kernel)
  have hl : lv_has ls 5 [(0, .ref (B 5)), (1, .int (iI v)), (2, .int (iI d))] := hl
  refine lv_iload_n F.1 F.2.1 dX2_range_0 rfl (lv_at hl 1 rfl) ?_
  refine x_cS F hxt hlocks (n := 1) (mX2_checkVoice l hfl G z0 (CW G B P σ k) v (by omega)) gX2_range_X2_checkVoice rfl rfl rfl (by decide +kernel) ⟨Nat.le_of_ble_eq_true rfl, Nat.le_of_ble_eq_true rfl⟩ hK hP hz hS rfl rfl hl.1 (Nat.le_of_ble_eq_true rfl) dX2_range_1 ⟨Nat.le_of_ble_eq_true rfl, Nat.le_of_ble_eq_true rfl⟩ ⟨Nat.le_of_ble_eq_true rfl, Nat.le_of_ble_eq_true rfl⟩ (fun h9 => en_1 (by unfold kRng; (try simp only [isC, Int.toNat_natCast]); (repeat' split) <;> omega)) (fun x_1 H locs hq hS => ?_)
  have hP := gP_kq hq hP
  refine lv_iload_n F.1 F.2.1 dX2_range_4 rfl (lv_at hl 2 rfl) ?_
  refine x_cS F hxt hlocks (n := 1) (mX2_checkDate l hfl G z0 (CW G B P σ k) d (by omega)) gX2_range_X2_checkDate rfl rfl rfl (by decide +kernel) ⟨Nat.le_of_ble_eq_true rfl, Nat.le_of_ble_eq_true rfl⟩ hK hP hz hS rfl rfl hl.1 (Nat.le_of_ble_eq_true rfl) dX2_range_5 ⟨Nat.le_of_ble_eq_true rfl, Nat.le_of_ble_eq_true rfl⟩ ⟨Nat.le_of_ble_eq_true rfl, Nat.le_of_ble_eq_true rfl⟩ (fun h9 => en_1 (by unfold kRng; (try simp only [isC, Int.toNat_natCast]); (repeat' split) <;> omega)) (fun x_2 H locs hq hS => ?_)
  have hP := gP_kq hq hP
  refine lv_aload_n F.1 F.2.1 dX2_range_8 rfl (lv_at hl 0 rfl) ?_
  refine k_get F hK hP iX2 5 rfl rfl 0 (by decide) f12 rfl rfl dX2_range_9 ?_
  refine lv_iload_n F.1 F.2.1 dX2_range_12 rfl (lv_at hl 1 rfl) ?_
  refine lv_iload_n F.1 F.2.1 dX2_range_13 rfl (lv_at hl 2 rfl) ?_
  refine rd_V F (n := 2) (w0 := []) (mX1_firstTone l G B σ v d (by omega) hI) gX2_range_X1_firstTone rfl rfl rfl (by decide +kernel) ⟨Nat.le_of_ble_eq_true rfl, Nat.le_of_ble_eq_true rfl⟩ hK (CW_R hP) (ci := 1) (q0 := 0) rfl rfl rfl rfl hl.1 (Nat.le_of_ble_eq_true rfl) dX2_range_14 ⟨Nat.le_of_ble_eq_true rfl, Nat.le_of_ble_eq_true rfl⟩ ?_
  refine lv_istore_n (lv' := [(3, .int (iI (ftC σ v d n))), (0, .ref (B 5)), (1, .int (iI v)), (2, .int (iI d))]) F.1 F.2.1 dX2_range_17 rfl hl (by decide) rfl (fun ls hl => ?_)
  refine lv_aload_n F.1 F.2.1 dX2_range_18 rfl (lv_at hl 1 rfl) ?_
  refine k_get F hK hP iX2 5 rfl rfl 0 (by decide) f12 rfl rfl dX2_range_19 ?_
  refine lv_iload_n F.1 F.2.1 dX2_range_22 rfl (lv_at hl 2 rfl) ?_
  refine lv_iload_n F.1 F.2.1 dX2_range_23 rfl (lv_at hl 3 rfl) ?_
  refine rd_V F (n := 2) (w0 := []) (mX1_lastTone l G B σ v d (by omega) hI) gX2_range_X1_lastTone rfl rfl rfl (by decide +kernel) ⟨Nat.le_of_ble_eq_true rfl, Nat.le_of_ble_eq_true rfl⟩ hK (CW_R hP) (ci := 1) (q0 := 0) rfl rfl rfl rfl hl.1 (Nat.le_of_ble_eq_true rfl) dX2_range_24 ⟨Nat.le_of_ble_eq_true rfl, Nat.le_of_ble_eq_true rfl⟩ ?_
  refine lv_istore (lv' := [(4, .int (iI (ltC σ v d n))), (3, .int (iI (ftC σ v d n))), (0, .ref (B 5)), (1, .int (iI v)), (2, .int (iI d))]) F.1 F.2.1 dX2_range_27 hl (by decide) rfl (fun ls hl => ?_)
  refine lv_iload_n F.1 F.2.1 dX2_range_29 rfl (lv_at hl 1 rfl) ?_
  refine lv_iload F.1 F.2.1 dX2_range_30 (lv_at hl 0 rfl) ?_
  refine k_icmp_le F (tgt := 39) dX2_range_32 (by decide) (by omega) (by omega) (fun c_3 => ?_) (fun c_3 => ?_)
  · skip
    refine k_bipush F dX2_range_39 (by decide +kernel) ?_
    refine lv_iload_n F.1 F.2.1 dX2_range_41 rfl (lv_at hl 1 rfl) ?_
    refine k_imul F rfl dX2_range_42 ?_
    refine lv_iload F.1 F.2.1 dX2_range_43 (lv_at hl 0 rfl) ?_
    refine k_iadd F rfl dX2_range_45 ?_
    exact x_ret F hlocks hr (by unfold kRng; (try simp only [isC, Int.toNat_natCast]); (repeat' split) <;> omega) (by rw [← vRng_eq hs3]; first | rw [if_pos (by omega)] | rw [if_neg (by omega)]) hS ⟨Nat.le_of_ble_eq_true rfl, Nat.le_of_ble_eq_true rfl⟩ dX2_range_46
  · skip
    refine k_iconst F dX2_range_35 ?_
    refine lv_goto (tgt := 46) F.1 F.2.1 dX2_range_36 (by decide) ?_
    exact x_ret F hlocks hr (by unfold kRng; (try simp only [isC, Int.toNat_natCast]); (repeat' split) <;> omega) (by rw [← vRng_eq hs3]; first | rw [if_pos (by omega)] | rw [if_neg (by omega)]) hS ⟨Nat.le_of_ble_eq_true rfl, Nat.le_of_ble_eq_true rfl⟩ dX2_range_46

set_option maxHeartbeats 4000000 in
set_option maxRecDepth 100000 in
theorem mX2_faultsAt (l : Launch) (hfl : l.stackTraces = false) (G : gT) (z0 : Nat) (B : Nat → Nat) (P : Nat → Nat → Nat) (σ : Sg) (x y : Int) (hx : -2147483648 ≤ x ∧ x < 2147483648) (hy : -2147483648 ≤ y ∧ y < 2147483648) {n k N : Nat} (hI : Iv σ n k N) : vx_Met l yX2_faultsAt wsX2_faultsAt { frames := 7, cells := 6, slots := 36, locals := 132 } (va_Pc [.ref (B 5), .int (iI x), .int (iI y)] (xB G (CW G B P σ k) z0)) (xI (kFat σ x y = 0) (mvf (σ 7 x.toNat) y.toNat)) (xC (kFat σ x y ≠ 0) (en nmI nmI nmI (kFat σ x y))) 6 36 (fun _ => False) := by
  refine x_start (own := RX2) (cc := cX2_faultsAt) (mL := 4) (ret := (some .int)) (by decide) rfl rfl (Nat.le_of_ble_eq_true rfl) ?_
  intro pP eE sS mM args bB meth cC ls F hr hlocks hxt hP hK hz hl
  have hS : sF sS sS.heap [] := va_S.rf
  obtain ⟨hn, hn12, hk, hk6, hsg, haw, hch, hch1, hch0, htn, hto, htz, hpr, hN, hpz, hle, hlz⟩ := id hI
  have hs3 : ∀ j, j < n → 0 ≤ σ 4 0 j ∧ σ 4 0 j ≤ σ 5 0 j ∧ σ 5 0 j ≤ 60 := fun j hj => by have := hsg j hj; omega
  have hl : lv_has ls 4 [(0, .ref (B 5)), (1, .int (iI x)), (2, .int (iI y))] := hl
  refine lv_aload_n F.1 F.2.1 dX2_faultsAt_0 rfl (lv_at hl 0 rfl) ?_
  refine lv_iload_n F.1 F.2.1 dX2_faultsAt_1 rfl (lv_at hl 1 rfl) ?_
  refine x_cR F hxt hlocks (n := 1) (mX2_pieceAt l hfl G z0 B P σ x (by omega) hI) gX2_faultsAt_X2_pieceAt rfl rfl rfl (by decide +kernel) ⟨Nat.le_of_ble_eq_true rfl, Nat.le_of_ble_eq_true rfl⟩ hK hP hz hS (ci := 2) (q0 := 5) rfl rfl rfl rfl hl.1 (Nat.le_of_ble_eq_true rfl) dX2_faultsAt_2 ⟨Nat.le_of_ble_eq_true rfl, Nat.le_of_ble_eq_true rfl⟩ ⟨Nat.le_of_ble_eq_true rfl, Nat.le_of_ble_eq_true rfl⟩ (fun h9 => en_1 (by unfold kFat; (try simp only [isC, Int.toNat_natCast]); (repeat' split) <;> omega)) (fun x_1 H locs hq hS => ?_)
  have hP := gP_kq hq hP
  obtain ⟨i, rfl⟩ : ∃ i : Nat, x = (i : Int) := ⟨x.toNat, by omega⟩
  have hcx := hch i
  refine lv_astore_n (lv' := [(3, .ref (P i 0)), (0, .ref (B 5)), (1, .int (iI (i : Int))), (2, .int (iI y))]) F.1 F.2.1 dX2_faultsAt_5 rfl hl (by decide) rfl (fun ls hl => ?_)
  refine lv_aload_n F.1 F.2.1 dX2_faultsAt_6 rfl (lv_at hl 0 rfl) ?_
  refine lv_iload_n F.1 F.2.1 dX2_faultsAt_7 rfl (lv_at hl 3 rfl) ?_
  refine x_cS F hxt hlocks (n := 2) (mX2_checkChord l hfl G z0 (P i) (σ 7 i) (σ 10 i) (mff (σ 7 i) (σ 8 i 0)) (σ 8 i 0) (σ 9 i 0) y (hch i) (by omega)) gX2_faultsAt_X2_checkChord rfl rfl rfl (by decide +kernel) ⟨Nat.le_of_ble_eq_true rfl, Nat.le_of_ble_eq_true rfl⟩ hK (CW_P hP i (by omega)) hz hS rfl rfl hl.1 (Nat.le_of_ble_eq_true rfl) dX2_faultsAt_8 ⟨Nat.le_of_ble_eq_true rfl, Nat.le_of_ble_eq_true rfl⟩ ⟨Nat.le_of_ble_eq_true rfl, Nat.le_of_ble_eq_true rfl⟩ (fun h9 => en_1 (by unfold kFat; (try simp only [isC, Int.toNat_natCast]); (repeat' split) <;> omega)) (fun x_2 H locs hq hS => ?_)
  have hP := gP_kq hq hP
  have hK0 : kFat σ (i : Int) y = 0 := (by unfold kFat; (try simp only [isC, Int.toNat_natCast]); (repeat' split) <;> omega)
  obtain ⟨c, rfl⟩ : ∃ c : Nat, y = (c : Int) := ⟨y.toNat, by omega⟩
  refine lv_aload_n F.1 F.2.1 dX2_faultsAt_11 rfl (lv_at hl 0 rfl) ?_
  refine lv_iload_n F.1 F.2.1 dX2_faultsAt_12 rfl (lv_at hl 3 rfl) ?_
  refine rd_V F (n := 1) (w0 := []) (mX0_faultsInto l G (P i) (σ 7 i) (σ 10 i) (mff (σ 7 i) (σ 8 i 0)) (σ 8 i 0) (σ 9 i 0) c (by omega)) gX2_faultsAt_X0_faultsInto rfl rfl rfl (by decide +kernel) ⟨Nat.le_of_ble_eq_true rfl, Nat.le_of_ble_eq_true rfl⟩ hK (CW_P hP i (by omega)) (ci := 0) (q0 := 0) rfl rfl rfl rfl hl.1 (Nat.le_of_ble_eq_true rfl) dX2_faultsAt_13 ⟨Nat.le_of_ble_eq_true rfl, Nat.le_of_ble_eq_true rfl⟩ ?_
  exact x_ret F hlocks hr hK0 (by unfold mff; rw [if_pos (by omega)]; rfl) hS ⟨Nat.le_of_ble_eq_true rfl, Nat.le_of_ble_eq_true rfl⟩ dX2_faultsAt_16

set_option maxHeartbeats 4000000 in
set_option maxRecDepth 100000 in
theorem mX2_faults (l : Launch) (hfl : l.stackTraces = false) (G : gT) (z0 : Nat) (B : Nat → Nat) (P : Nat → Nat → Nat) (σ : Sg) (x : Int) (hx : -2147483648 ≤ x ∧ x < 2147483648) {n k N : Nat} (hI : Iv σ n k N) : vx_Met l yX2_faults wsX2_faults { frames := 7, cells := 6, slots := 36, locals := 132 } (va_Pc [.ref (B 5), .int (iI x)] (xB G (CW G B P σ k) z0)) (xI (kPic σ x = 0) (alf (σ 7 x.toNat) (σ 8 x.toNat 0))) (xC (kPic σ x ≠ 0) (en nmI nmI nmI (kPic σ x))) 6 36 (fun _ => False) := by
  refine x_start (own := RX2) (cc := cX2_faults) (mL := 2) (ret := (some .int)) (by decide) rfl rfl (Nat.le_of_ble_eq_true rfl) ?_
  intro pP eE sS mM args bB meth cC ls F hr hlocks hxt hP hK hz hl
  have hS : sF sS sS.heap [] := va_S.rf
  obtain ⟨hn, hn12, hk, hk6, hsg, haw, hch, hch1, hch0, htn, hto, htz, hpr, hN, hpz, hle, hlz⟩ := id hI
  have hs3 : ∀ j, j < n → 0 ≤ σ 4 0 j ∧ σ 4 0 j ≤ σ 5 0 j ∧ σ 5 0 j ≤ 60 := fun j hj => by have := hsg j hj; omega
  have hl : lv_has ls 2 [(0, .ref (B 5)), (1, .int (iI x))] := hl
  refine lv_aload_n F.1 F.2.1 dX2_faults_0 rfl (lv_at hl 0 rfl) ?_
  refine lv_iload_n F.1 F.2.1 dX2_faults_1 rfl (lv_at hl 1 rfl) ?_
  refine x_cR F hxt hlocks (n := 1) (mX2_pieceAt l hfl G z0 B P σ x (by omega) hI) gX2_faults_X2_pieceAt rfl rfl rfl (by decide +kernel) ⟨Nat.le_of_ble_eq_true rfl, Nat.le_of_ble_eq_true rfl⟩ hK hP hz hS (ci := 2) (q0 := 5) rfl rfl rfl rfl hl.1 (Nat.le_of_ble_eq_true rfl) dX2_faults_2 ⟨Nat.le_of_ble_eq_true rfl, Nat.le_of_ble_eq_true rfl⟩ ⟨Nat.le_of_ble_eq_true rfl, Nat.le_of_ble_eq_true rfl⟩ (fun h9 => en_1 (by unfold kPic; (try simp only [isC, Int.toNat_natCast]); (repeat' split) <;> omega)) (fun x_1 H locs hq hS => ?_)
  have hP := gP_kq hq hP
  have hK0 : kPic σ x = 0 := (by unfold kPic; (try simp only [isC, Int.toNat_natCast]); (repeat' split) <;> omega)
  obtain ⟨i, rfl⟩ : ∃ i : Nat, x = (i : Int) := ⟨x.toNat, by omega⟩
  refine rd_V F (n := 0) (w0 := []) (mX0_faultSum_c l G (P i) (σ 7 i) (σ 10 i) (σ 8 i 0) (σ 9 i 0) (hch i)) gX2_faults_X0_faultSum rfl rfl rfl (by decide +kernel) ⟨Nat.le_of_ble_eq_true rfl, Nat.le_of_ble_eq_true rfl⟩ hK (CW_P hP i (by omega)) (ci := 0) (q0 := 0) rfl rfl rfl rfl hl.1 (Nat.le_of_ble_eq_true rfl) dX2_faults_5 ⟨Nat.le_of_ble_eq_true rfl, Nat.le_of_ble_eq_true rfl⟩ ?_
  exact x_ret F hlocks hr hK0 rfl hS ⟨Nat.le_of_ble_eq_true rfl, Nat.le_of_ble_eq_true rfl⟩ dX2_faults_8

set_option maxHeartbeats 4000000 in
set_option maxRecDepth 100000 in
theorem mX2_shift (l : Launch) (hfl : l.stackTraces = false) (G : gT) (z0 : Nat) (B : Nat → Nat) (P : Nat → Nat → Nat) (σ : Sg) (x d : Int) (hx : -2147483648 ≤ x ∧ x < 2147483648) (hd : -2147483648 ≤ d ∧ d < 2147483648) {n k N : Nat} (hI : Iv σ n k N) : vx_Met l yX2_shift wsX2_shift { frames := 7, cells := 6, slots := 36, locals := 132 } (va_Pc [.ref (B 5), .int (iI x), .int (iI d)] (xB G (CW G B P σ k) z0)) (xI (kShf σ n x d = 0) (shS σ x.toNat n d 13)) (xC (kShf σ n x d ≠ 0) (en nmI nmA nmS (kShf σ n x d))) 6 36 (fun _ => False) := by
  refine x_start (own := RX2) (cc := cX2_shift) (mL := 5) (ret := (some .int)) (by decide) rfl rfl (Nat.le_of_ble_eq_true rfl) ?_
  intro pP eE sS mM args bB meth cC ls F hr hlocks hxt hP hK hz hl
  have hS : sF sS sS.heap [] := va_S.rf
  obtain ⟨hn, hn12, hk, hk6, hsg, haw, hch, hch1, hch0, htn, hto, htz, hpr, hN, hpz, hle, hlz⟩ := id hI
  have hs3 : ∀ j, j < n → 0 ≤ σ 4 0 j ∧ σ 4 0 j ≤ σ 5 0 j ∧ σ 5 0 j ≤ 60 := fun j hj => by have := hsg j hj; omega
  have hl : lv_has ls 5 [(0, .ref (B 5)), (1, .int (iI x)), (2, .int (iI d))] := hl
  refine lv_aload_n F.1 F.2.1 dX2_shift_0 rfl (lv_at hl 0 rfl) ?_
  refine lv_iload_n F.1 F.2.1 dX2_shift_1 rfl (lv_at hl 1 rfl) ?_
  refine x_cR F hxt hlocks (n := 1) (mX2_pieceAt l hfl G z0 B P σ x (by omega) hI) gX2_shift_X2_pieceAt rfl rfl rfl (by decide +kernel) ⟨Nat.le_of_ble_eq_true rfl, Nat.le_of_ble_eq_true rfl⟩ hK hP hz hS (ci := 2) (q0 := 5) rfl rfl rfl rfl hl.1 (Nat.le_of_ble_eq_true rfl) dX2_shift_2 ⟨Nat.le_of_ble_eq_true rfl, Nat.le_of_ble_eq_true rfl⟩ ⟨Nat.le_of_ble_eq_true rfl, Nat.le_of_ble_eq_true rfl⟩ (fun h9 => en_1 (by unfold kShf; (try simp only [isC, Int.toNat_natCast]); (repeat' split) <;> omega)) (fun x_1 H locs hq hS => ?_)
  have hP := gP_kq hq hP
  obtain ⟨i, rfl⟩ : ∃ i : Nat, x = (i : Int) := ⟨x.toNat, by omega⟩
  have b1 := nsC_eq (σ := σ) (i := i) (n := n) (d := d) hs3 (htn i) (by have := hch1 i (by omega); omega)
  refine lv_astore_n (lv' := [(3, .ref (P i 0)), (0, .ref (B 5)), (1, .int (iI (i : Int))), (2, .int (iI d))]) F.1 F.2.1 dX2_shift_5 rfl hl (by decide) rfl (fun ls hl => ?_)
  refine lv_iload_n F.1 F.2.1 dX2_shift_6 rfl (lv_at hl 3 rfl) ?_
  refine x_cS F hxt hlocks (n := 1) (mX2_checkDate l hfl G z0 (CW G B P σ k) d (by omega)) gX2_shift_X2_checkDate rfl rfl rfl (by decide +kernel) ⟨Nat.le_of_ble_eq_true rfl, Nat.le_of_ble_eq_true rfl⟩ hK hP hz hS rfl rfl hl.1 (Nat.le_of_ble_eq_true rfl) dX2_shift_7 ⟨Nat.le_of_ble_eq_true rfl, Nat.le_of_ble_eq_true rfl⟩ ⟨Nat.le_of_ble_eq_true rfl, Nat.le_of_ble_eq_true rfl⟩ (fun h9 => en_2 (by unfold kShf; (try simp only [isC, Int.toNat_natCast]); (repeat' split) <;> omega)) (fun x_2 H locs hq hS => ?_)
  have hP := gP_kq hq hP
  refine lv_aload_n F.1 F.2.1 dX2_shift_10 rfl (lv_at hl 1 rfl) ?_
  refine lv_aload_n F.1 F.2.1 dX2_shift_11 rfl (lv_at hl 0 rfl) ?_
  refine lv_iload_n F.1 F.2.1 dX2_shift_12 rfl (lv_at hl 3 rfl) ?_
  refine rd_V F (n := 2) (w0 := []) (mX2_nearestShift l G B P σ i d hI (by omega)) gX2_shift_X2_nearestShift rfl rfl rfl (by decide +kernel) ⟨Nat.le_of_ble_eq_true rfl, Nat.le_of_ble_eq_true rfl⟩ hK hP (ci := 2) (q0 := 5) rfl rfl rfl rfl hl.1 (Nat.le_of_ble_eq_true rfl) dX2_shift_13 ⟨Nat.le_of_ble_eq_true rfl, Nat.le_of_ble_eq_true rfl⟩ ?_
  refine lv_istore (lv' := [(4, .int (iI (nsC σ i n d))), (3, .ref (P i 0)), (0, .ref (B 5)), (1, .int (iI (i : Int))), (2, .int (iI d))]) F.1 F.2.1 dX2_shift_16 hl (by decide) rfl (fun ls hl => ?_)
  refine lv_iload F.1 F.2.1 dX2_shift_18 (lv_at hl 0 rfl) ?_
  refine k_bipush F dX2_shift_20 (by decide +kernel) ?_
  refine k_icmp_ne F (tgt := 35) dX2_shift_22 (by decide) (by omega) (by decide) (fun c_3 => ?_) (fun c_3 => ?_)
  · skip
    refine lv_iload F.1 F.2.1 dX2_shift_35 (lv_at hl 0 rfl) ?_
    exact x_ret F hlocks hr (by unfold kShf; (try simp only [isC, Int.toNat_natCast]); (repeat' split) <;> omega) (by show nsC σ i n d = shS σ i n d 13; omega) hS ⟨Nat.le_of_ble_eq_true rfl, Nat.le_of_ble_eq_true rfl⟩ dX2_shift_37
  · skip
    exact x_throw F hfl hxt hlocks hz hS (ik := 46) (ic := 50) (is := 149) (text := "the piece cannot be sung with any shift") (cls := nmS) (by decide +kernel) exS2 exS1 (fun w9 (h9 : w9 ∈ (vx_atS RX2 50 "java/lang/IllegalStateException" ["java/lang/RuntimeException", "java/lang/Exception"]).filter goodWord) => by simp only [wsX2_shift, List.mem_cons, List.mem_append, h9, or_true, true_or]) (by decide +kernel) (by decide +kernel) (by decide +kernel) hl.1 dX2_shift_25 dX2_shift_28 dX2_shift_29 dX2_shift_31 dX2_shift_34 ⟨Nat.le_of_ble_eq_true rfl, Nat.le_of_ble_eq_true rfl, Nat.le_of_ble_eq_true rfl, Nat.le_of_ble_eq_true rfl⟩ ⟨Nat.le_of_ble_eq_true rfl, Nat.le_of_ble_eq_true rfl⟩ (en_3 (by unfold kShf; (try simp only [isC, Int.toNat_natCast]); (repeat' split) <;> omega))

set_option maxHeartbeats 4000000 in
set_option maxRecDepth 100000 in
theorem mX2_dates (l : Launch) (hfl : l.stackTraces = false) (G : gT) (z0 : Nat) (B : Nat → Nat) (P : Nat → Nat → Nat) (σ : Sg) (x : Int) (hx : -2147483648 ≤ x ∧ x < 2147483648) {n k N : Nat} (hI : Iv σ n k N) : vx_Met l yX2_dates wsX2_dates { frames := 7, cells := 6, slots := 36, locals := 132 } (va_Pc [.ref (B 5), .int (iI x)] (xB G (CW G B P σ k) z0)) (xI (kPic σ x = 0) (dtS σ x.toNat n 31)) (xC (kPic σ x ≠ 0) (en nmI nmI nmI (kPic σ x))) 6 36 (fun _ => False) := by
  refine x_start (own := RX2) (cc := cX2_dates) (mL := 5) (ret := (some .int)) (by decide) rfl rfl (Nat.le_of_ble_eq_true rfl) ?_
  intro pP eE sS mM args bB meth cC ls F hr hlocks hxt hP hK hz hl
  have hS : sF sS sS.heap [] := va_S.rf
  obtain ⟨hn, hn12, hk, hk6, hsg, haw, hch, hch1, hch0, htn, hto, htz, hpr, hN, hpz, hle, hlz⟩ := id hI
  have hs3 : ∀ j, j < n → 0 ≤ σ 4 0 j ∧ σ 4 0 j ≤ σ 5 0 j ∧ σ 5 0 j ≤ 60 := fun j hj => by have := hsg j hj; omega
  have hl : lv_has ls 5 [(0, .ref (B 5)), (1, .int (iI x))] := hl
  refine lv_aload_n F.1 F.2.1 dX2_dates_0 rfl (lv_at hl 0 rfl) ?_
  refine lv_iload_n F.1 F.2.1 dX2_dates_1 rfl (lv_at hl 1 rfl) ?_
  refine x_cR F hxt hlocks (n := 1) (mX2_pieceAt l hfl G z0 B P σ x (by omega) hI) gX2_dates_X2_pieceAt rfl rfl rfl (by decide +kernel) ⟨Nat.le_of_ble_eq_true rfl, Nat.le_of_ble_eq_true rfl⟩ hK hP hz hS (ci := 2) (q0 := 5) rfl rfl rfl rfl hl.1 (Nat.le_of_ble_eq_true rfl) dX2_dates_2 ⟨Nat.le_of_ble_eq_true rfl, Nat.le_of_ble_eq_true rfl⟩ ⟨Nat.le_of_ble_eq_true rfl, Nat.le_of_ble_eq_true rfl⟩ (fun h9 => en_1 (by unfold kPic; (try simp only [isC, Int.toNat_natCast]); (repeat' split) <;> omega)) (fun x_1 H locs hq hS => ?_)
  have hP := gP_kq hq hP
  have hK0 : kPic σ x = 0 := (by unfold kPic; (try simp only [isC, Int.toNat_natCast]); (repeat' split) <;> omega)
  obtain ⟨i, rfl⟩ : ∃ i : Nat, x = (i : Int) := ⟨x.toNat, by omega⟩
  refine lv_astore_n (lv' := [(2, .ref (P i 0)), (0, .ref (B 5)), (1, .int (iI (i : Int)))]) F.1 F.2.1 dX2_dates_5 rfl hl (by decide) rfl (fun ls hl => ?_)
  refine k_iconst F dX2_dates_6 ?_
  refine lv_istore_n (lv' := [(3, .int (iI 0)), (2, .ref (P i 0)), (0, .ref (B 5)), (1, .int (iI (i : Int)))]) F.1 F.2.1 dX2_dates_7 rfl hl (by decide) rfl (fun ls hl => ?_)
  refine k_iconst F dX2_dates_8 ?_
  refine lv_istore (lv' := [(4, .int (iI 0)), (3, .int (iI 0)), (2, .ref (P i 0)), (0, .ref (B 5)), (1, .int (iI (i : Int)))]) F.1 F.2.1 dX2_dates_9 hl (by decide) rfl (fun ls hl => ?_)
  have J_2 : ∀ q : Nat, q ≤ 31 → ∀ ls : Array Slot, lv_has ls 5 [(3, .int (iI (dtS σ i n q))), (4, .int (iI (q : Int))), (2, .ref (P i 0)), (0, .ref (B 5)), (1, .int (iI (i : Int)))] → W pP l eE ({ frames := 7, cells := 6, slots := 36, locals := 132 }) sS mM args bB meth cC H locs 1 6 (vx_MQ bB (xI (kPic σ (i : Int) = 0) (dtS σ (i : Int).toNat n 31)) (xC (kPic σ (i : Int) ≠ 0) (en nmI nmI nmI (kPic σ (i : Int)))) args sS 6 36 (fun _ => False)) (F0 mM 11 ls []) := by
    refine lp_up (31) ?_ ?_
    · intro ls hl
      refine lv_iload F.1 F.2.1 dX2_dates_11 (lv_at hl 1 rfl) ?_
      refine k_bipush F dX2_dates_13 (by decide +kernel) ?_
      refine k_icmp_ge F (tgt := 39) dX2_dates_15 (by decide) (by omega) (by decide) (fun c_4 => ?_) (fun c_4 => absurd c_4 (by omega))
      refine lv_iload_n F.1 F.2.1 dX2_dates_39 rfl (lv_at hl 0 rfl) ?_
      exact x_ret F hlocks hr hK0 rfl hS ⟨Nat.le_of_ble_eq_true rfl, Nat.le_of_ble_eq_true rfl⟩ dX2_dates_40
    · intro q hk9 ih ls hl
      have b1 := nsC_eq (σ := σ) (i := i) (n := n) (d := (q : Int)) hs3 (htn i) (by have := hch1 i (by omega); omega)
      refine lv_iload F.1 F.2.1 dX2_dates_11 (lv_at hl 1 rfl) ?_
      refine k_bipush F dX2_dates_13 (by decide +kernel) ?_
      refine k_icmp_ge F (tgt := 39) dX2_dates_15 (by decide) (by omega) (by decide) (fun c_5 => absurd c_5 (by omega)) (fun c_5 => ?_)
      refine lv_aload_n F.1 F.2.1 dX2_dates_18 rfl (lv_at hl 3 rfl) ?_
      refine lv_aload_n F.1 F.2.1 dX2_dates_19 rfl (lv_at hl 2 rfl) ?_
      refine lv_iload F.1 F.2.1 dX2_dates_20 (lv_at hl 1 rfl) ?_
      refine rd_V F (n := 2) (w0 := []) (mX2_nearestShift l G B P σ i (q : Int) hI (by omega)) gX2_dates_X2_nearestShift rfl rfl rfl (by decide +kernel) ⟨Nat.le_of_ble_eq_true rfl, Nat.le_of_ble_eq_true rfl⟩ hK hP (ci := 2) (q0 := 5) rfl rfl rfl rfl hl.1 (Nat.le_of_ble_eq_true rfl) dX2_dates_22 ⟨Nat.le_of_ble_eq_true rfl, Nat.le_of_ble_eq_true rfl⟩ ?_
      refine k_bipush F dX2_dates_25 (by decide +kernel) ?_
      refine k_icmp_eq F (tgt := 33) dX2_dates_27 (by decide) (by omega) (by decide) (fun c_6 => ?_) (fun c_6 => ?_)
      · skip
        refine lv_iinc (v := iI ((q : Int) + 1)) (lv' := [(4, .int (iI ((q : Int) + 1))), (3, .int (iI (dtS σ i n q))), (2, .ref (P i 0)), (0, .ref (B 5)), (1, .int (iI (i : Int)))]) F.1 F.2.1 dX2_dates_33 hl (k := 1) rfl (iI_add _ _) (by decide) rfl (fun ls hl => ?_)
        refine lv_goto (tgt := 11) F.1 F.2.1 dX2_dates_36 (by decide) ?_
        have e_7 : (dtS σ i n q : Int) = dtS σ i n (q + 1) := by rw [dtS_s]; first | (rw [if_pos (by omega)] <;> omega) | (rw [if_neg (by omega)] <;> omega)
        have e_8 : (((q : Int) + 1) : Int) = ((q + 1 : Nat) : Int) := rfl
        exact ih _ (lv_to (lv_to (lv_sub hl [1, 0, 2, 3, 4] rfl) (congrArg (fun x9 : Int => ([(3, .int (iI x9)), (4, .int (iI ((q : Int) + 1))), (2, .ref (P i 0)), (0, .ref (B 5)), (1, .int (iI (i : Int)))] : List (Nat × Value))) e_7)) (congrArg (fun x9 : Int => ([(3, .int (iI (dtS σ i n (q + 1)))), (4, .int (iI x9)), (2, .ref (P i 0)), (0, .ref (B 5)), (1, .int (iI (i : Int)))] : List (Nat × Value))) e_8))
      · skip
        refine lv_iinc (v := iI (dtS σ i n q + 1)) (lv' := [(3, .int (iI (dtS σ i n q + 1))), (4, .int (iI (q : Int))), (2, .ref (P i 0)), (0, .ref (B 5)), (1, .int (iI (i : Int)))]) F.1 F.2.1 dX2_dates_30 hl (k := 0) rfl (iI_add _ _) (by decide) rfl (fun ls hl => ?_)
        refine lv_iinc (v := iI ((q : Int) + 1)) (lv' := [(4, .int (iI ((q : Int) + 1))), (3, .int (iI (dtS σ i n q + 1))), (2, .ref (P i 0)), (0, .ref (B 5)), (1, .int (iI (i : Int)))]) F.1 F.2.1 dX2_dates_33 hl (k := 1) rfl (iI_add _ _) (by decide) rfl (fun ls hl => ?_)
        refine lv_goto (tgt := 11) F.1 F.2.1 dX2_dates_36 (by decide) ?_
        have e_9 : ((dtS σ i n q + 1) : Int) = dtS σ i n (q + 1) := by rw [dtS_s]; first | (rw [if_pos (by omega)] <;> omega) | (rw [if_neg (by omega)] <;> omega)
        have e_10 : (((q : Int) + 1) : Int) = ((q + 1 : Nat) : Int) := rfl
        exact ih _ (lv_to (lv_to (lv_sub hl [1, 0, 2, 3, 4] rfl) (congrArg (fun x9 : Int => ([(3, .int (iI x9)), (4, .int (iI ((q : Int) + 1))), (2, .ref (P i 0)), (0, .ref (B 5)), (1, .int (iI (i : Int)))] : List (Nat × Value))) e_9)) (congrArg (fun x9 : Int => ([(3, .int (iI (dtS σ i n (q + 1)))), (4, .int (iI x9)), (2, .ref (P i 0)), (0, .ref (B 5)), (1, .int (iI (i : Int)))] : List (Nat × Value))) e_10))
  have e_11 : (0 : Int) = dtS σ i n 0 := rfl
  have e_12 : (0 : Int) = ((0 : Nat) : Int) := rfl
  exact J_2 0 (by omega) _ (lv_to (lv_to (lv_sub hl [1, 0, 2, 3, 4] rfl) (congrArg (fun x9 : Int => ([(3, .int (iI x9)), (4, .int (iI 0)), (2, .ref (P i 0)), (0, .ref (B 5)), (1, .int (iI (i : Int)))] : List (Nat × Value))) e_11)) (congrArg (fun x9 : Int => ([(3, .int (iI (dtS σ i n 0))), (4, .int (iI x9)), (2, .ref (P i 0)), (0, .ref (B 5)), (1, .int (iI (i : Int)))] : List (Nat × Value))) e_12))

set_option maxHeartbeats 4000000 in
set_option maxRecDepth 100000 in
theorem mX2_missed (l : Launch) (hfl : l.stackTraces = false) (G : gT) (z0 : Nat) (B : Nat → Nat) (P : Nat → Nat → Nat) (σ : Sg) (d : Int) (hd : -2147483648 ≤ d ∧ d < 2147483648) {n k N : Nat} (hI : Iv σ n k N) : vx_Met l yX2_missed wsX2_missed { frames := 7, cells := 6, slots := 36, locals := 130 } (va_Pc [.ref (B 5), .int (iI d)] (xB G (CW G B P σ k) z0)) (xI (kDat d = 0) (msM σ d n n)) (xC (kDat d ≠ 0) (en nmA nmA nmA (kDat d))) 6 36 (fun _ => False) := by
  refine x_start (own := RX2) (cc := cX2_missed) (mL := 2) (ret := (some .int)) (by decide) rfl rfl (Nat.le_of_ble_eq_true rfl) ?_
  intro pP eE sS mM args bB meth cC ls F hr hlocks hxt hP hK hz hl
  have hS : sF sS sS.heap [] := va_S.rf
  obtain ⟨hn, hn12, hk, hk6, hsg, haw, hch, hch1, hch0, htn, hto, htz, hpr, hN, hpz, hle, hlz⟩ := id hI
  have hs3 : ∀ j, j < n → 0 ≤ σ 4 0 j ∧ σ 4 0 j ≤ σ 5 0 j ∧ σ 5 0 j ≤ 60 := fun j hj => by have := hsg j hj; omega
  have iX2 : ∀ x ∈ wsX20, x ∈ wsX2_missed := by decide +kernel
  have f12 := k_cond F (w := .fieldLink RX2 12 "ChoirPlanner" "roster" "LChoirPlanner$Roster;") (by decide +kernel)
  have hl : lv_has ls 2 [(0, .ref (B 5)), (1, .int (iI d))] := hl
  refine lv_iload_n F.1 F.2.1 dX2_missed_0 rfl (lv_at hl 1 rfl) ?_
  refine x_cS F hxt hlocks (n := 1) (mX2_checkDate l hfl G z0 (CW G B P σ k) d (by omega)) gX2_missed_X2_checkDate rfl rfl rfl (by decide +kernel) ⟨Nat.le_of_ble_eq_true rfl, Nat.le_of_ble_eq_true rfl⟩ hK hP hz hS rfl rfl hl.1 (Nat.le_of_ble_eq_true rfl) dX2_missed_1 ⟨Nat.le_of_ble_eq_true rfl, Nat.le_of_ble_eq_true rfl⟩ ⟨Nat.le_of_ble_eq_true rfl, Nat.le_of_ble_eq_true rfl⟩ (fun h9 => en_1 (by unfold kDat; (try simp only [isC, Int.toNat_natCast]); (repeat' split) <;> omega)) (fun x_1 H locs hq hS => ?_)
  have hP := gP_kq hq hP
  refine lv_aload_n F.1 F.2.1 dX2_missed_4 rfl (lv_at hl 0 rfl) ?_
  refine k_get F hK hP iX2 5 rfl rfl 0 (by decide) f12 rfl rfl dX2_missed_5 ?_
  refine lv_iload_n F.1 F.2.1 dX2_missed_8 rfl (lv_at hl 1 rfl) ?_
  refine rd_V F (n := 1) (w0 := []) (mX1_countMissed l G B σ d hI) gX2_missed_X1_countMissed rfl rfl rfl (by decide +kernel) ⟨Nat.le_of_ble_eq_true rfl, Nat.le_of_ble_eq_true rfl⟩ hK (CW_R hP) (ci := 1) (q0 := 0) rfl rfl rfl rfl hl.1 (Nat.le_of_ble_eq_true rfl) dX2_missed_9 ⟨Nat.le_of_ble_eq_true rfl, Nat.le_of_ble_eq_true rfl⟩ ?_
  exact x_ret F hlocks hr (by unfold kDat; (try simp only [isC, Int.toNat_natCast]); (repeat' split) <;> omega) (msM_eq hs3 n).symm hS ⟨Nat.le_of_ble_eq_true rfl, Nat.le_of_ble_eq_true rfl⟩ dX2_missed_12

set_option maxHeartbeats 4000000 in
set_option maxRecDepth 100000 in
theorem mX2_programme (l : Launch) (hfl : l.stackTraces = false) (G : gT) (z0 : Nat) (B : Nat → Nat) (P : Nat → Nat → Nat) (σ : Sg) (d x : Int) (hd : -2147483648 ≤ d ∧ d < 2147483648) (hx : -2147483648 ≤ x ∧ x < 2147483648) {n k N : Nat} (hI : Iv σ n k N) : vx_Met l yX2_programme wsX2_programme { frames := 7, cells := 6, slots := 36, locals := 142 } (va_Pc [.ref (B 5), .int (iI d), .int (iI x)] (xB G (CW G B P σ k) z0)) (xI (kPrg d x = 0) (((prg σ n k d x : Nat) : Int))) (xC (kPrg d x ≠ 0) (en nmA nmA nmA (kPrg d x))) 6 36 (fun _ => False) := by
  refine x_start (own := RX2) (cc := cX2_programme) (mL := 3) (ret := (some .int)) (by decide) rfl rfl (Nat.le_of_ble_eq_true rfl) ?_
  intro pP eE sS mM args bB meth cC ls F hr hlocks hxt hP hK hz hl
  have hS : sF sS sS.heap [] := va_S.rf
  obtain ⟨hn, hn12, hk, hk6, hsg, haw, hch, hch1, hch0, htn, hto, htz, hpr, hN, hpz, hle, hlz⟩ := id hI
  have hs3 : ∀ j, j < n → 0 ≤ σ 4 0 j ∧ σ 4 0 j ≤ σ 5 0 j ∧ σ 5 0 j ≤ 60 := fun j hj => by have := hsg j hj; omega
  have hl : lv_has ls 3 [(0, .ref (B 5)), (1, .int (iI d)), (2, .int (iI x))] := hl
  refine lv_iload_n F.1 F.2.1 dX2_programme_0 rfl (lv_at hl 1 rfl) ?_
  refine x_cS F hxt hlocks (n := 1) (mX2_checkDate l hfl G z0 (CW G B P σ k) d (by omega)) gX2_programme_X2_checkDate rfl rfl rfl (by decide +kernel) ⟨Nat.le_of_ble_eq_true rfl, Nat.le_of_ble_eq_true rfl⟩ hK hP hz hS rfl rfl hl.1 (Nat.le_of_ble_eq_true rfl) dX2_programme_1 ⟨Nat.le_of_ble_eq_true rfl, Nat.le_of_ble_eq_true rfl⟩ ⟨Nat.le_of_ble_eq_true rfl, Nat.le_of_ble_eq_true rfl⟩ (fun h9 => en_1 (by unfold kPrg; (try simp only [isC, Int.toNat_natCast]); (repeat' split) <;> omega)) (fun x_1 H locs hq hS => ?_)
  have hP := gP_kq hq hP
  refine lv_iload_n F.1 F.2.1 dX2_programme_4 rfl (lv_at hl 2 rfl) ?_
  refine x_cS F hxt hlocks (n := 1) (mX2_checkTime l hfl G z0 (CW G B P σ k) x (by omega)) gX2_programme_X2_checkTime rfl rfl rfl (by decide +kernel) ⟨Nat.le_of_ble_eq_true rfl, Nat.le_of_ble_eq_true rfl⟩ hK hP hz hS rfl rfl hl.1 (Nat.le_of_ble_eq_true rfl) dX2_programme_5 ⟨Nat.le_of_ble_eq_true rfl, Nat.le_of_ble_eq_true rfl⟩ ⟨Nat.le_of_ble_eq_true rfl, Nat.le_of_ble_eq_true rfl⟩ (fun h9 => en_1 (by unfold kPrg; (try simp only [isC, Int.toNat_natCast]); (repeat' split) <;> omega)) (fun x_2 H locs hq hS => ?_)
  have hP := gP_kq hq hP
  refine lv_aload_n F.1 F.2.1 dX2_programme_8 rfl (lv_at hl 0 rfl) ?_
  refine lv_iload_n F.1 F.2.1 dX2_programme_9 rfl (lv_at hl 1 rfl) ?_
  refine lv_iload_n F.1 F.2.1 dX2_programme_10 rfl (lv_at hl 2 rfl) ?_
  refine rd_V F (n := 2) (w0 := []) (mX2_bestSet l G B P σ d x (by omega) hI) gX2_programme_X2_bestSet rfl rfl rfl (by decide +kernel) ⟨Nat.le_of_ble_eq_true rfl, Nat.le_of_ble_eq_true rfl⟩ hK hP (ci := 2) (q0 := 5) rfl rfl rfl rfl hl.1 (Nat.le_of_ble_eq_true rfl) dX2_programme_11 ⟨Nat.le_of_ble_eq_true rfl, Nat.le_of_ble_eq_true rfl⟩ ?_
  exact x_ret F hlocks hr (by unfold kPrg; (try simp only [isC, Int.toNat_natCast]); (repeat' split) <;> omega) rfl hS ⟨Nat.le_of_ble_eq_true rfl, Nat.le_of_ble_eq_true rfl⟩ dX2_programme_14

set_option maxHeartbeats 4000000 in
set_option maxRecDepth 100000 in
theorem mX2_duration (l : Launch) (hfl : l.stackTraces = false) (G : gT) (z0 : Nat) (B : Nat → Nat) (P : Nat → Nat → Nat) (σ : Sg) (d x : Int) (hd : -2147483648 ≤ d ∧ d < 2147483648) (hx : -2147483648 ≤ x ∧ x < 2147483648) {n k N : Nat} (hI : Iv σ n k N) : vx_Met l yX2_duration wsX2_duration { frames := 7, cells := 6, slots := 36, locals := 142 } (va_Pc [.ref (B 5), .int (iI d), .int (iI x)] (xB G (CW G B P σ k) z0)) (xI (kPrg d x = 0) (lnS σ ((prg σ n k d x : Nat) : Int) k)) (xC (kPrg d x ≠ 0) (en nmA nmA nmA (kPrg d x))) 6 36 (fun _ => False) := by
  refine x_start (own := RX2) (cc := cX2_duration) (mL := 3) (ret := (some .int)) (by decide) rfl rfl (Nat.le_of_ble_eq_true rfl) ?_
  intro pP eE sS mM args bB meth cC ls F hr hlocks hxt hP hK hz hl
  have hS : sF sS sS.heap [] := va_S.rf
  obtain ⟨hn, hn12, hk, hk6, hsg, haw, hch, hch1, hch0, htn, hto, htz, hpr, hN, hpz, hle, hlz⟩ := id hI
  have hs3 : ∀ j, j < n → 0 ≤ σ 4 0 j ∧ σ 4 0 j ≤ σ 5 0 j ∧ σ 5 0 j ≤ 60 := fun j hj => by have := hsg j hj; omega
  have hl : lv_has ls 3 [(0, .ref (B 5)), (1, .int (iI d)), (2, .int (iI x))] := hl
  refine lv_iload_n F.1 F.2.1 dX2_duration_0 rfl (lv_at hl 1 rfl) ?_
  refine x_cS F hxt hlocks (n := 1) (mX2_checkDate l hfl G z0 (CW G B P σ k) d (by omega)) gX2_duration_X2_checkDate rfl rfl rfl (by decide +kernel) ⟨Nat.le_of_ble_eq_true rfl, Nat.le_of_ble_eq_true rfl⟩ hK hP hz hS rfl rfl hl.1 (Nat.le_of_ble_eq_true rfl) dX2_duration_1 ⟨Nat.le_of_ble_eq_true rfl, Nat.le_of_ble_eq_true rfl⟩ ⟨Nat.le_of_ble_eq_true rfl, Nat.le_of_ble_eq_true rfl⟩ (fun h9 => en_1 (by unfold kPrg; (try simp only [isC, Int.toNat_natCast]); (repeat' split) <;> omega)) (fun x_1 H locs hq hS => ?_)
  have hP := gP_kq hq hP
  refine lv_iload_n F.1 F.2.1 dX2_duration_4 rfl (lv_at hl 2 rfl) ?_
  refine x_cS F hxt hlocks (n := 1) (mX2_checkTime l hfl G z0 (CW G B P σ k) x (by omega)) gX2_duration_X2_checkTime rfl rfl rfl (by decide +kernel) ⟨Nat.le_of_ble_eq_true rfl, Nat.le_of_ble_eq_true rfl⟩ hK hP hz hS rfl rfl hl.1 (Nat.le_of_ble_eq_true rfl) dX2_duration_5 ⟨Nat.le_of_ble_eq_true rfl, Nat.le_of_ble_eq_true rfl⟩ ⟨Nat.le_of_ble_eq_true rfl, Nat.le_of_ble_eq_true rfl⟩ (fun h9 => en_1 (by unfold kPrg; (try simp only [isC, Int.toNat_natCast]); (repeat' split) <;> omega)) (fun x_2 H locs hq hS => ?_)
  have hP := gP_kq hq hP
  refine lv_aload_n F.1 F.2.1 dX2_duration_8 rfl (lv_at hl 0 rfl) ?_
  refine lv_aload_n F.1 F.2.1 dX2_duration_9 rfl (lv_at hl 0 rfl) ?_
  refine lv_iload_n F.1 F.2.1 dX2_duration_10 rfl (lv_at hl 1 rfl) ?_
  refine lv_iload_n F.1 F.2.1 dX2_duration_11 rfl (lv_at hl 2 rfl) ?_
  refine rd_V F (n := 2) (w0 := []) (mX2_bestSet l G B P σ d x (by omega) hI) gX2_duration_X2_bestSet rfl rfl rfl (by decide +kernel) ⟨Nat.le_of_ble_eq_true rfl, Nat.le_of_ble_eq_true rfl⟩ hK hP (ci := 2) (q0 := 5) rfl rfl rfl rfl hl.1 (Nat.le_of_ble_eq_true rfl) dX2_duration_12 ⟨Nat.le_of_ble_eq_true rfl, Nat.le_of_ble_eq_true rfl⟩ ?_
  refine rd_V F (n := 1) (w0 := []) (mX2_lengthOf l G B P σ ((prg σ n k d x : Nat) : Int) hI) gX2_duration_X2_lengthOf rfl rfl rfl (by decide +kernel) ⟨Nat.le_of_ble_eq_true rfl, Nat.le_of_ble_eq_true rfl⟩ hK hP (ci := 2) (q0 := 5) rfl rfl rfl rfl hl.1 (Nat.le_of_ble_eq_true rfl) dX2_duration_15 ⟨Nat.le_of_ble_eq_true rfl, Nat.le_of_ble_eq_true rfl⟩ ?_
  exact x_ret F hlocks hr (by unfold kPrg; (try simp only [isC, Int.toNat_natCast]); (repeat' split) <;> omega) rfl hS ⟨Nat.le_of_ble_eq_true rfl, Nat.le_of_ble_eq_true rfl⟩ dX2_duration_18

set_option maxHeartbeats 4000000 in
set_option maxRecDepth 100000 in
theorem mX2_weakness (l : Launch) (hfl : l.stackTraces = false) (G : gT) (z0 : Nat) (B : Nat → Nat) (P : Nat → Nat → Nat) (σ : Sg) (x y : Int) (hx : -2147483648 ≤ x ∧ x < 2147483648) (hy : -2147483648 ≤ y ∧ y < 2147483648) {n k N : Nat} (hI : Iv σ n k N) (hN5 : N ≤ 560) : vx_Met l yX2_weakness wsX2_weakness { frames := 7, cells := 6, slots := 36, locals := 132 } (va_Pc [.ref (B 5), .int (iI x), .int (iI y)] (xB G (CW G B P σ k) z0)) (xI (kFat σ x y = 0) (wkS σ x.toNat y.toNat)) (xC (kFat σ x y ≠ 0) (en nmI nmI nmI (kFat σ x y))) 6 36 (fun _ => False) := by
  refine x_start (own := RX2) (cc := cX2_weakness) (mL := 4) (ret := (some .int)) (by decide) rfl rfl (Nat.le_of_ble_eq_true rfl) ?_
  intro pP eE sS mM args bB meth cC ls F hr hlocks hxt hP hK hz hl
  have hS : sF sS sS.heap [] := va_S.rf
  obtain ⟨hn, hn12, hk, hk6, hsg, haw, hch, hch1, hch0, htn, hto, htz, hpr, hN, hpz, hle, hlz⟩ := id hI
  have hs3 : ∀ j, j < n → 0 ≤ σ 4 0 j ∧ σ 4 0 j ≤ σ 5 0 j ∧ σ 5 0 j ≤ 60 := fun j hj => by have := hsg j hj; omega
  have hl : lv_has ls 4 [(0, .ref (B 5)), (1, .int (iI x)), (2, .int (iI y))] := hl
  refine lv_aload_n F.1 F.2.1 dX2_weakness_0 rfl (lv_at hl 0 rfl) ?_
  refine lv_iload_n F.1 F.2.1 dX2_weakness_1 rfl (lv_at hl 1 rfl) ?_
  refine x_cR F hxt hlocks (n := 1) (mX2_pieceAt l hfl G z0 B P σ x (by omega) hI) gX2_weakness_X2_pieceAt rfl rfl rfl (by decide +kernel) ⟨Nat.le_of_ble_eq_true rfl, Nat.le_of_ble_eq_true rfl⟩ hK hP hz hS (ci := 2) (q0 := 5) rfl rfl rfl rfl hl.1 (Nat.le_of_ble_eq_true rfl) dX2_weakness_2 ⟨Nat.le_of_ble_eq_true rfl, Nat.le_of_ble_eq_true rfl⟩ ⟨Nat.le_of_ble_eq_true rfl, Nat.le_of_ble_eq_true rfl⟩ (fun h9 => en_1 (by unfold kFat; (try simp only [isC, Int.toNat_natCast]); (repeat' split) <;> omega)) (fun x_1 H locs hq hS => ?_)
  have hP := gP_kq hq hP
  obtain ⟨i, rfl⟩ : ∃ i : Nat, x = (i : Int) := ⟨x.toNat, by omega⟩
  have hcx := hch i
  refine lv_astore_n (lv' := [(3, .ref (P i 0)), (0, .ref (B 5)), (1, .int (iI (i : Int))), (2, .int (iI y))]) F.1 F.2.1 dX2_weakness_5 rfl hl (by decide) rfl (fun ls hl => ?_)
  refine lv_aload_n F.1 F.2.1 dX2_weakness_6 rfl (lv_at hl 0 rfl) ?_
  refine lv_iload_n F.1 F.2.1 dX2_weakness_7 rfl (lv_at hl 3 rfl) ?_
  refine x_cS F hxt hlocks (n := 2) (mX2_checkChord l hfl G z0 (P i) (σ 7 i) (σ 10 i) (mff (σ 7 i) (σ 8 i 0)) (σ 8 i 0) (σ 9 i 0) y (hch i) (by omega)) gX2_weakness_X2_checkChord rfl rfl rfl (by decide +kernel) ⟨Nat.le_of_ble_eq_true rfl, Nat.le_of_ble_eq_true rfl⟩ hK (CW_P hP i (by omega)) hz hS rfl rfl hl.1 (Nat.le_of_ble_eq_true rfl) dX2_weakness_8 ⟨Nat.le_of_ble_eq_true rfl, Nat.le_of_ble_eq_true rfl⟩ ⟨Nat.le_of_ble_eq_true rfl, Nat.le_of_ble_eq_true rfl⟩ (fun h9 => en_1 (by unfold kFat; (try simp only [isC, Int.toNat_natCast]); (repeat' split) <;> omega)) (fun x_2 H locs hq hS => ?_)
  have hP := gP_kq hq hP
  have hK0 : kFat σ (i : Int) y = 0 := (by unfold kFat; (try simp only [isC, Int.toNat_natCast]); (repeat' split) <;> omega)
  obtain ⟨c, rfl⟩ : ∃ c : Nat, y = (c : Int) := ⟨y.toNat, by omega⟩
  refine lv_aload_n F.1 F.2.1 dX2_weakness_11 rfl (lv_at hl 0 rfl) ?_
  refine lv_iload_n F.1 F.2.1 dX2_weakness_12 rfl (lv_at hl 3 rfl) ?_
  refine rd_V F (n := 1) (w0 := []) (mX0_weaknessOf l G (P i) (σ 7 i) (σ 10 i) (mff (σ 7 i) (σ 8 i 0)) (σ 8 i 0) (σ 9 i 0) c (by omega) (fun c9 => mff_rg _ _ c9) (fun c9 => by have := hpr i c9; omega)) gX2_weakness_X0_weaknessOf rfl rfl rfl (by decide +kernel) ⟨Nat.le_of_ble_eq_true rfl, Nat.le_of_ble_eq_true rfl⟩ hK (CW_P hP i (by omega)) (ci := 0) (q0 := 0) rfl rfl rfl rfl hl.1 (Nat.le_of_ble_eq_true rfl) dX2_weakness_13 ⟨Nat.le_of_ble_eq_true rfl, Nat.le_of_ble_eq_true rfl⟩ ?_
  exact x_ret F hlocks hr hK0 (wk_eq (by omega)) hS ⟨Nat.le_of_ble_eq_true rfl, Nat.le_of_ble_eq_true rfl⟩ dX2_weakness_16

set_option maxHeartbeats 4000000 in
set_option maxRecDepth 100000 in
theorem mX2_weakest (l : Launch) (hfl : l.stackTraces = false) (G : gT) (z0 : Nat) (B : Nat → Nat) (P : Nat → Nat → Nat) (σ : Sg) (x : Int) (hx : -2147483648 ≤ x ∧ x < 2147483648) {n k N : Nat} (hI : Iv σ n k N) (hN5 : N ≤ 560) : vx_Met l yX2_weakest wsX2_weakest { frames := 7, cells := 6, slots := 36, locals := 132 } (va_Pc [.ref (B 5), .int (iI x)] (xB G (CW G B P σ k) z0)) (xI (kPic σ x = 0) (((wkq σ x.toNat : Nat) : Int))) (xC (kPic σ x ≠ 0) (en nmI nmI nmI (kPic σ x))) 6 36 (fun _ => False) := by
  refine x_start (own := RX2) (cc := cX2_weakest) (mL := 2) (ret := (some .int)) (by decide) rfl rfl (Nat.le_of_ble_eq_true rfl) ?_
  intro pP eE sS mM args bB meth cC ls F hr hlocks hxt hP hK hz hl
  have hS : sF sS sS.heap [] := va_S.rf
  obtain ⟨hn, hn12, hk, hk6, hsg, haw, hch, hch1, hch0, htn, hto, htz, hpr, hN, hpz, hle, hlz⟩ := id hI
  have hs3 : ∀ j, j < n → 0 ≤ σ 4 0 j ∧ σ 4 0 j ≤ σ 5 0 j ∧ σ 5 0 j ≤ 60 := fun j hj => by have := hsg j hj; omega
  have hl : lv_has ls 2 [(0, .ref (B 5)), (1, .int (iI x))] := hl
  refine lv_aload_n F.1 F.2.1 dX2_weakest_0 rfl (lv_at hl 0 rfl) ?_
  refine lv_iload_n F.1 F.2.1 dX2_weakest_1 rfl (lv_at hl 1 rfl) ?_
  refine x_cR F hxt hlocks (n := 1) (mX2_pieceAt l hfl G z0 B P σ x (by omega) hI) gX2_weakest_X2_pieceAt rfl rfl rfl (by decide +kernel) ⟨Nat.le_of_ble_eq_true rfl, Nat.le_of_ble_eq_true rfl⟩ hK hP hz hS (ci := 2) (q0 := 5) rfl rfl rfl rfl hl.1 (Nat.le_of_ble_eq_true rfl) dX2_weakest_2 ⟨Nat.le_of_ble_eq_true rfl, Nat.le_of_ble_eq_true rfl⟩ ⟨Nat.le_of_ble_eq_true rfl, Nat.le_of_ble_eq_true rfl⟩ (fun h9 => en_1 (by unfold kPic; (try simp only [isC, Int.toNat_natCast]); (repeat' split) <;> omega)) (fun x_1 H locs hq hS => ?_)
  have hP := gP_kq hq hP
  have hK0 : kPic σ x = 0 := (by unfold kPic; (try simp only [isC, Int.toNat_natCast]); (repeat' split) <;> omega)
  obtain ⟨i, rfl⟩ : ∃ i : Nat, x = (i : Int) := ⟨x.toNat, by omega⟩
  refine rd_V F (n := 0) (w0 := []) (mX0_weakestChord l G (P i) (σ 7 i) (σ 10 i) (mff (σ 7 i) (σ 8 i 0)) (σ 8 i 0) (σ 9 i 0) (hch i) (fun c9 => mff_rg _ _ c9) (fun c9 => by have := hpr i c9; omega)) gX2_weakest_X0_weakestChord rfl rfl rfl (by decide +kernel) ⟨Nat.le_of_ble_eq_true rfl, Nat.le_of_ble_eq_true rfl⟩ hK (CW_P hP i (by omega)) (ci := 0) (q0 := 0) rfl rfl rfl rfl hl.1 (Nat.le_of_ble_eq_true rfl) dX2_weakest_5 ⟨Nat.le_of_ble_eq_true rfl, Nat.le_of_ble_eq_true rfl⟩ ?_
  exact x_ret F hlocks hr hK0 (congrArg (fun q9 : Nat => (q9 : Int)) (wq_eq (by have := hch1 i (by omega); omega))) hS ⟨Nat.le_of_ble_eq_true rfl, Nat.le_of_ble_eq_true rfl⟩ dX2_weakest_8
