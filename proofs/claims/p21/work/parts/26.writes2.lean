theorem CX_permE {G : gT} {B : Nat → Nat} {P : Nat → Nat → Nat} {σ : Sg} {k i : Nat} (hi : i ≤ k) {tn pr mf : Nat → Int} {sz sc : Int} (h7 : σ 7 i = tn) (h10 : σ 10 i = pr) (h8 : σ 8 i 0 = sz) (h9 : σ 9 i 0 = sc) (hmf : mf = mff tn sz) : (CW G B P σ k).Perm (PW G (P i) tn pr mf sz sc ++ CX G B P σ k i) := by
  subst hmf; subst h7; subst h10; subst h8; subst h9
  exact CX_perm hi
theorem cmf_app (tn : Nat → Int) (z : Nat) (x0 x1 x2 x3 : Int) : cmf (uI (uI (uI (uI tn (4 * z) x0) (4 * z + 1) x1) (4 * z + 2) x2) (4 * z + 3) x3) ((z : Int) + 1) (mff tn (z : Int)) z = mff (uI (uI (uI (uI tn (4 * z) x0) (4 * z + 1) x1) (4 * z + 2) x2) (4 * z + 3) x3) ((z : Int) + 1) := by
  funext j
  by_cases hj : j = z
  · subst hj
    by_cases h1 : 1 ≤ j
    · rw [cmf, if_pos ⟨h1, by omega⟩, uI_s, mff, if_pos (by omega)]
    · have h0 : j = 0 := by omega
      subst h0
      rw [cmf, if_neg (by omega), mff, mff, if_neg (by omega), if_pos (by omega)]
      rfl
  · have h2 : cmf (uI (uI (uI (uI tn (4 * z) x0) (4 * z + 1) x1) (4 * z + 2) x2) (4 * z + 3) x3) ((z : Int) + 1) (mff tn (z : Int)) z j = mff tn (z : Int) j := by
      unfold cmf
      split
      · exact uI_n hj
      · rfl
    rw [h2, mff, mff]
    by_cases h3 : (j : Int) < z
    · rw [if_pos h3, if_pos (by omega), mvf_far (by omega) (by omega), mvf_far (by omega) (by omega), mvf_far (by omega) (by omega), mvf_far (by omega) (by omega)]
    · rw [if_neg h3, if_neg (by omega)]
theorem ho4 {tn : Nat → Int} (ho : ∀ c, tn (4 * c + 3) ≤ tn (4 * c + 2) ∧ tn (4 * c + 2) ≤ tn (4 * c + 1) ∧ tn (4 * c + 1) ≤ tn (4 * c)) (z : Nat) {x0 x1 x2 x3 : Int} (h : x3 ≤ x2 ∧ x2 ≤ x1 ∧ x1 ≤ x0) (d : Nat) : (uI (uI (uI (uI tn (4 * z) x0) (4 * z + 1) x1) (4 * z + 2) x2) (4 * z + 3) x3) (4 * d + 3) ≤ (uI (uI (uI (uI tn (4 * z) x0) (4 * z + 1) x1) (4 * z + 2) x2) (4 * z + 3) x3) (4 * d + 2) ∧ (uI (uI (uI (uI tn (4 * z) x0) (4 * z + 1) x1) (4 * z + 2) x2) (4 * z + 3) x3) (4 * d + 2) ≤ (uI (uI (uI (uI tn (4 * z) x0) (4 * z + 1) x1) (4 * z + 2) x2) (4 * z + 3) x3) (4 * d + 1) ∧ (uI (uI (uI (uI tn (4 * z) x0) (4 * z + 1) x1) (4 * z + 2) x2) (4 * z + 3) x3) (4 * d + 1) ≤ (uI (uI (uI (uI tn (4 * z) x0) (4 * z + 1) x1) (4 * z + 2) x2) (4 * z + 3) x3) (4 * d) := by
  have h1 := ho d
  refine ⟨?_, ?_, ?_⟩ <;> (simp only [uI]; (repeat' split) <;> omega)

set_option maxHeartbeats 4000000 in
set_option maxRecDepth 100000 in
theorem mX2_chord (l : Launch) (hfl : l.stackTraces = false) (G : gT) (z0 sz0 : Nat) (B : Nat → Nat) (P : Nat → Nat → Nat) (σ : Sg) (a b c d : Int) (ha : -2147483648 ≤ a ∧ a < 2147483648) (hb : -2147483648 ≤ b ∧ b < 2147483648) (hc : -2147483648 ≤ c ∧ c < 2147483648) (hd : -2147483648 ≤ d ∧ d < 2147483648) {n k N : Nat} (hI : Iv σ n k N) : vx_Met l yX2_chord wsX2_chord { frames := 7, cells := 6, slots := 36, locals := 131 } (va_Pc [.ref (B 5), .int (iI a), .int (iI b), .int (iI c), .int (iI d)] (xW G (CW G B P σ k) z0 sz0)) (yI (kChd σ a b c d = 0) (σ 8 (σ 2 0 0).toNat 0 + 1) G (CW G B P (sChd σ a b c d) k) (va_A (CW G B P σ k) sz0)) (xC (kChd σ a b c d ≠ 0) (en nmA nmS nmS (kChd σ a b c d))) 6 36 (va_A (CW G B P σ k) sz0) := by
  refine x_startW (own := RX2) (cc := cX2_chord) (mL := 5) (ret := (some .int)) (Qc := fun AA => yI (kChd σ a b c d = 0) (σ 8 (σ 2 0 0).toNat 0 + 1) G (CW G B P (sChd σ a b c d) k) AA) (by decide) rfl rfl (Nat.le_of_ble_eq_true rfl) ?_
  intro pP eE sS mM args bB meth cC ls AA F hr hlocks hxt hP hK hz hD hA hl
  have hS : sF sS sS.heap [] := va_S.rf
  obtain ⟨hn, hn12, hk, hk6, hsg, haw, hch, hch1, hch0, htn, hto, htz, hpr, hN, hpz, hle, hlz⟩ := id hI
  have hs3 : ∀ j, j < n → 0 ≤ σ 4 0 j ∧ σ 4 0 j ≤ σ 5 0 j ∧ σ 5 0 j ≤ 60 := fun j hj => by have := hsg j hj; omega
  have e9 : (σ 2 0 0).toNat = k := by omega
  have e7 : σ 8 (σ 2 0 0).toNat 0 = σ 8 k 0 := by rw [e9]
  have hck := hch k
  obtain ⟨z, hz8⟩ : ∃ z : Nat, σ 8 k 0 = (z : Int) := ⟨(σ 8 k 0).toNat, by omega⟩
  have iX2 : ∀ x ∈ wsX20, x ∈ wsX2_chord := by decide +kernel
  have f23 := k_cond F (w := .fieldLink RX2 23 "ChoirPlanner" "draft" "LChoirPlanner$Piece;") (by decide +kernel)
  have hl : lv_has ls 5 [(0, .ref (B 5)), (1, .int (iI a)), (2, .int (iI b)), (3, .int (iI c)), (4, .int (iI d))] := hl
  refine lv_iload_n F.1 F.2.1 dX2_chord_0 rfl (lv_at hl 1 rfl) ?_
  refine k_bipush F dX2_chord_1 (by decide +kernel) ?_
  refine x_cS F hxt hlocks (n := 2) (mX2_checkTone l hfl G z0 (CW G B P σ k) a 60 (by omega) (by decide)) gX2_chord_X2_checkTone rfl rfl rfl (by decide +kernel) ⟨Nat.le_of_ble_eq_true rfl, Nat.le_of_ble_eq_true rfl⟩ hK hP hz hS rfl rfl hl.1 (Nat.le_of_ble_eq_true rfl) dX2_chord_3 ⟨Nat.le_of_ble_eq_true rfl, Nat.le_of_ble_eq_true rfl⟩ ⟨Nat.le_of_ble_eq_true rfl, Nat.le_of_ble_eq_true rfl⟩ (fun h9 => en_1 (by unfold kChd; (try simp only [isC, Int.toNat_natCast]); (repeat' split) <;> omega)) (fun x_1 H locs hq hS => ?_)
  have hP := gP_kq hq hP
  refine lv_iload_n F.1 F.2.1 dX2_chord_6 rfl (lv_at hl 2 rfl) ?_
  refine lv_iload_n F.1 F.2.1 dX2_chord_7 rfl (lv_at hl 1 rfl) ?_
  refine x_cS F hxt hlocks (n := 2) (mX2_checkTone l hfl G z0 (CW G B P σ k) b a (by omega) (by omega)) gX2_chord_X2_checkTone rfl rfl rfl (by decide +kernel) ⟨Nat.le_of_ble_eq_true rfl, Nat.le_of_ble_eq_true rfl⟩ hK hP hz hS rfl rfl hl.1 (Nat.le_of_ble_eq_true rfl) dX2_chord_8 ⟨Nat.le_of_ble_eq_true rfl, Nat.le_of_ble_eq_true rfl⟩ ⟨Nat.le_of_ble_eq_true rfl, Nat.le_of_ble_eq_true rfl⟩ (fun h9 => en_1 (by unfold kChd; (try simp only [isC, Int.toNat_natCast]); (repeat' split) <;> omega)) (fun x_2 H locs hq hS => ?_)
  have hP := gP_kq hq hP
  refine lv_iload_n F.1 F.2.1 dX2_chord_11 rfl (lv_at hl 3 rfl) ?_
  refine lv_iload_n F.1 F.2.1 dX2_chord_12 rfl (lv_at hl 2 rfl) ?_
  refine x_cS F hxt hlocks (n := 2) (mX2_checkTone l hfl G z0 (CW G B P σ k) c b (by omega) (by omega)) gX2_chord_X2_checkTone rfl rfl rfl (by decide +kernel) ⟨Nat.le_of_ble_eq_true rfl, Nat.le_of_ble_eq_true rfl⟩ hK hP hz hS rfl rfl hl.1 (Nat.le_of_ble_eq_true rfl) dX2_chord_13 ⟨Nat.le_of_ble_eq_true rfl, Nat.le_of_ble_eq_true rfl⟩ ⟨Nat.le_of_ble_eq_true rfl, Nat.le_of_ble_eq_true rfl⟩ (fun h9 => en_1 (by unfold kChd; (try simp only [isC, Int.toNat_natCast]); (repeat' split) <;> omega)) (fun x_3 H locs hq hS => ?_)
  have hP := gP_kq hq hP
  refine lv_iload F.1 F.2.1 dX2_chord_16 (lv_at hl 4 rfl) ?_
  refine lv_iload_n F.1 F.2.1 dX2_chord_18 rfl (lv_at hl 3 rfl) ?_
  refine x_cS F hxt hlocks (n := 2) (mX2_checkTone l hfl G z0 (CW G B P σ k) d c (by omega) (by omega)) gX2_chord_X2_checkTone rfl rfl rfl (by decide +kernel) ⟨Nat.le_of_ble_eq_true rfl, Nat.le_of_ble_eq_true rfl⟩ hK hP hz hS rfl rfl hl.1 (Nat.le_of_ble_eq_true rfl) dX2_chord_19 ⟨Nat.le_of_ble_eq_true rfl, Nat.le_of_ble_eq_true rfl⟩ ⟨Nat.le_of_ble_eq_true rfl, Nat.le_of_ble_eq_true rfl⟩ (fun h9 => en_1 (by unfold kChd; (try simp only [isC, Int.toNat_natCast]); (repeat' split) <;> omega)) (fun x_4 H locs hq hS => ?_)
  have hP := gP_kq hq hP
  refine lv_aload_n F.1 F.2.1 dX2_chord_22 rfl (lv_at hl 0 rfl) ?_
  refine k_get F hK hP iX2 5 rfl rfl 3 (by decide) f23 rfl rfl dX2_chord_23 ?_
  refine rd_V F (n := 0) (w0 := []) (mX0_isFull l G (P k) (σ 7 k) (σ 10 k) (mff (σ 7 k) (σ 8 k 0)) (σ 8 k 0) (σ 9 k 0) (hch k)) gX2_chord_X0_isFull rfl rfl rfl (by decide +kernel) ⟨Nat.le_of_ble_eq_true rfl, Nat.le_of_ble_eq_true rfl⟩ hK (CW_P hP k (by omega)) (ci := 0) (q0 := 0) rfl rfl rfl rfl hl.1 (Nat.le_of_ble_eq_true rfl) dX2_chord_26 ⟨Nat.le_of_ble_eq_true rfl, Nat.le_of_ble_eq_true rfl⟩ ?_
  refine k_ifb_eq F (tgt := 42) dX2_chord_29 (by decide) (fun c_5 => ?_) (fun c_5 => ?_)
  · skip
    refine lv_aload_n F.1 F.2.1 dX2_chord_42 rfl (lv_at hl 0 rfl) ?_
    refine k_get F hK hP iX2 5 rfl rfl 3 (by decide) f23 rfl rfl dX2_chord_43 ?_
    refine lv_iload_n F.1 F.2.1 dX2_chord_46 rfl (lv_at hl 1 rfl) ?_
    refine lv_iload_n F.1 F.2.1 dX2_chord_47 rfl (lv_at hl 2 rfl) ?_
    refine lv_iload_n F.1 F.2.1 dX2_chord_48 rfl (lv_at hl 3 rfl) ?_
    refine lv_iload F.1 F.2.1 dX2_chord_49 (lv_at hl 4 rfl) ?_
    refine wr_V F (n := 4) (w := PW G (P k) (σ 7 k) (σ 10 k) (mff (σ 7 k) (σ 8 k 0)) (z : Int) (σ 9 k 0)) (w' := PW G (P k) (uI (uI (uI (uI (σ 7 k) (4 * z) a) (4 * z + 1) b) (4 * z + 2) c) (4 * z + 3) d) (σ 10 k) (cmf (uI (uI (uI (uI (σ 7 k) (4 * z) a) (4 * z + 1) b) (4 * z + 2) c) (4 * z + 3) d) ((z : Int) + 1) (mff (σ 7 k) (σ 8 k 0)) z) ((z : Int) + 1) (σ 9 k 0)) (wr := CX G B P σ k k) (ws2 := CW G B P (su (su (su (su (su σ 7 k (4 * z) a) 7 k (4 * z + 1) b) 7 k (4 * z + 2) c) 7 k (4 * z + 3) d) 8 k 0 (σ 8 k 0 + 1)) k) (mX0_append l G H.size (P k) (σ 7 k) (σ 10 k) (mff (σ 7 k) (σ 8 k 0)) z (σ 9 k 0) a b c d (by omega) (ht_put (ht_put (ht_put (ht_put (htn k) _ (by omega)) _ (by omega)) _ (by omega)) _ (by omega)) (ho4 (hto k) z (by omega))) gX2_chord_X0_append rfl rfl rfl (by decide +kernel) ⟨Nat.le_of_ble_eq_true rfl, Nat.le_of_ble_eq_true rfl⟩ hK hP hD (sF_mono hS) hA (CX_permE (Nat.le_refl k) rfl rfl hz8 rfl (by rw [hz8])) (CW_piece (τ := su (su (su (su (su σ 7 k (4 * z) a) 7 k (4 * z + 1) b) 7 k (4 * z + 2) c) 7 k (4 * z + 3) d) 8 k 0 (σ 8 k 0 + 1)) (Nat.le_refl k) (by simp [su]) rfl (by simp [su, uI, hz8]) rfl (by rw [hz8]; exact cmf_app _ _ _ _ _ _) (fun j hj => ⟨by simp [su, hj], rfl, by simp [su, hj], rfl⟩) rfl rfl rfl rfl rfl rfl) rfl (ci := 0) (q0 := 0) rfl rfl rfl rfl hl.1 (Nat.le_of_ble_eq_true rfl) dX2_chord_51 ⟨Nat.le_of_ble_eq_true rfl, Nat.le_of_ble_eq_true rfl⟩ (fun H locs hP hD hS => ?_)
    exact x_wret F hlocks hr (by unfold kChd; (try simp only [isC, Int.toNat_natCast]); (repeat' split) <;> omega) (by rw [e9, hz8]) (by have e8 : (σ 8 k 0).toNat = z := (by omega); simp only [sChd, e9, e8]; exact hP) hS ⟨Nat.le_of_ble_eq_true rfl, Nat.le_of_ble_eq_true rfl⟩ dX2_chord_54
  · skip
    exact x_throw F hfl hxt hlocks hz hS (ik := 46) (ic := 50) (is := 80) (text := "the draft has 16 chords") (cls := nmS) (by decide +kernel) exS2 exS1 (fun w9 (h9 : w9 ∈ (vx_atS RX2 50 "java/lang/IllegalStateException" ["java/lang/RuntimeException", "java/lang/Exception"]).filter goodWord) => by simp only [wsX2_chord, List.mem_cons, List.mem_append, h9, or_true, true_or]) (by decide +kernel) (by decide +kernel) (by decide +kernel) hl.1 dX2_chord_32 dX2_chord_35 dX2_chord_36 dX2_chord_38 dX2_chord_41 ⟨Nat.le_of_ble_eq_true rfl, Nat.le_of_ble_eq_true rfl, Nat.le_of_ble_eq_true rfl, Nat.le_of_ble_eq_true rfl⟩ ⟨Nat.le_of_ble_eq_true rfl, Nat.le_of_ble_eq_true rfl⟩ (en_2 (by unfold kChd; (try simp only [isC, Int.toNat_natCast]); (repeat' split) <;> omega))

set_option maxHeartbeats 4000000 in
set_option maxRecDepth 100000 in
theorem mX2_setTone (l : Launch) (hfl : l.stackTraces = false) (G : gT) (z0 sz0 : Nat) (B : Nat → Nat) (P : Nat → Nat → Nat) (σ : Sg) (x y v t : Int) (hx : -2147483648 ≤ x ∧ x < 2147483648) (hy : -2147483648 ≤ y ∧ y < 2147483648) (hv : -2147483648 ≤ v ∧ v < 2147483648) (ht : -2147483648 ≤ t ∧ t < 2147483648) {n k N : Nat} (hI : Iv σ n k N) : vx_Met l yX2_setTone wsX2_setTone { frames := 7, cells := 6, slots := 36, locals := 132 } (va_Pc [.ref (B 5), .int (iI x), .int (iI y), .int (iI v), .int (iI t)] (xW G (CW G B P σ k) z0 sz0)) (yI (kSet σ x y v t = 0) (σ 7 x.toNat (4 * y.toNat + v.toNat)) G (CW G B P (sSet σ x y v t) k) (va_A (CW G B P σ k) sz0)) (xC (kSet σ x y v t ≠ 0) (en nmI nmA nmS (kSet σ x y v t))) 6 36 (va_A (CW G B P σ k) sz0) := by
  refine x_startW (own := RX2) (cc := cX2_setTone) (mL := 7) (ret := (some .int)) (Qc := fun AA => yI (kSet σ x y v t = 0) (σ 7 x.toNat (4 * y.toNat + v.toNat)) G (CW G B P (sSet σ x y v t) k) AA) (by decide) rfl rfl (Nat.le_of_ble_eq_true rfl) ?_
  intro pP eE sS mM args bB meth cC ls AA F hr hlocks hxt hP hK hz hD hA hl
  have hS : sF sS sS.heap [] := va_S.rf
  obtain ⟨hn, hn12, hk, hk6, hsg, haw, hch, hch1, hch0, htn, hto, htz, hpr, hN, hpz, hle, hlz⟩ := id hI
  have hs3 : ∀ j, j < n → 0 ≤ σ 4 0 j ∧ σ 4 0 j ≤ σ 5 0 j ∧ σ 5 0 j ≤ 60 := fun j hj => by have := hsg j hj; omega
  have hl : lv_has ls 7 [(0, .ref (B 5)), (1, .int (iI x)), (2, .int (iI y)), (3, .int (iI v)), (4, .int (iI t))] := hl
  refine lv_aload_n F.1 F.2.1 dX2_setTone_0 rfl (lv_at hl 0 rfl) ?_
  refine lv_iload_n F.1 F.2.1 dX2_setTone_1 rfl (lv_at hl 1 rfl) ?_
  refine x_cR F hxt hlocks (n := 1) (mX2_pieceAt l hfl G z0 B P σ x (by omega) hI) gX2_setTone_X2_pieceAt rfl rfl rfl (by decide +kernel) ⟨Nat.le_of_ble_eq_true rfl, Nat.le_of_ble_eq_true rfl⟩ hK hP hz hS (ci := 2) (q0 := 5) rfl rfl rfl rfl hl.1 (Nat.le_of_ble_eq_true rfl) dX2_setTone_2 ⟨Nat.le_of_ble_eq_true rfl, Nat.le_of_ble_eq_true rfl⟩ ⟨Nat.le_of_ble_eq_true rfl, Nat.le_of_ble_eq_true rfl⟩ (fun h9 => en_1 (by unfold kSet; (try simp only [isC, Int.toNat_natCast]); (repeat' split) <;> omega)) (fun x_1 H locs hq hS => ?_)
  have hP := gP_kq hq hP
  obtain ⟨i, rfl⟩ : ∃ i : Nat, x = (i : Int) := ⟨x.toNat, by omega⟩
  have hcx := hch i
  refine lv_astore (lv' := [(5, .ref (P i 0)), (0, .ref (B 5)), (1, .int (iI (i : Int))), (2, .int (iI y)), (3, .int (iI v)), (4, .int (iI t))]) F.1 F.2.1 dX2_setTone_5 hl (by decide) rfl (fun ls hl => ?_)
  refine lv_aload F.1 F.2.1 dX2_setTone_7 (lv_at hl 0 rfl) ?_
  refine lv_iload_n F.1 F.2.1 dX2_setTone_9 rfl (lv_at hl 3 rfl) ?_
  refine x_cS F hxt hlocks (n := 2) (mX2_checkChord l hfl G z0 (P i) (σ 7 i) (σ 10 i) (mff (σ 7 i) (σ 8 i 0)) (σ 8 i 0) (σ 9 i 0) y (hch i) (by omega)) gX2_setTone_X2_checkChord rfl rfl rfl (by decide +kernel) ⟨Nat.le_of_ble_eq_true rfl, Nat.le_of_ble_eq_true rfl⟩ hK (CW_P hP i (by omega)) hz hS rfl rfl hl.1 (Nat.le_of_ble_eq_true rfl) dX2_setTone_10 ⟨Nat.le_of_ble_eq_true rfl, Nat.le_of_ble_eq_true rfl⟩ ⟨Nat.le_of_ble_eq_true rfl, Nat.le_of_ble_eq_true rfl⟩ (fun h9 => en_1 (by unfold kSet; (try simp only [isC, Int.toNat_natCast]); (repeat' split) <;> omega)) (fun x_2 H locs hq hS => ?_)
  have hP := gP_kq hq hP
  obtain ⟨c, rfl⟩ : ∃ c : Nat, y = (c : Int) := ⟨y.toNat, by omega⟩
  refine lv_iload_n F.1 F.2.1 dX2_setTone_13 rfl (lv_at hl 4 rfl) ?_
  refine x_cS F hxt hlocks (n := 1) (mX2_checkVoice l hfl G z0 (CW G B P σ k) v (by omega)) gX2_setTone_X2_checkVoice rfl rfl rfl (by decide +kernel) ⟨Nat.le_of_ble_eq_true rfl, Nat.le_of_ble_eq_true rfl⟩ hK hP hz hS rfl rfl hl.1 (Nat.le_of_ble_eq_true rfl) dX2_setTone_14 ⟨Nat.le_of_ble_eq_true rfl, Nat.le_of_ble_eq_true rfl⟩ ⟨Nat.le_of_ble_eq_true rfl, Nat.le_of_ble_eq_true rfl⟩ (fun h9 => en_2 (by unfold kSet; (try simp only [isC, Int.toNat_natCast]); (repeat' split) <;> omega)) (fun x_3 H locs hq hS => ?_)
  have hP := gP_kq hq hP
  obtain ⟨u, rfl⟩ : ∃ u : Nat, v = (u : Int) := ⟨v.toNat, by omega⟩
  have b1 := flr_rg (fun j => htn i j) c u
  have b2 := clg_rg (fun j => htn i j) c u
  refine lv_iload F.1 F.2.1 dX2_setTone_17 (lv_at hl 5 rfl) ?_
  refine k_bipush F dX2_setTone_19 (by decide +kernel) ?_
  refine x_cS F hxt hlocks (n := 2) (mX2_checkTone l hfl G z0 (CW G B P σ k) t 60 (by omega) (by decide)) gX2_setTone_X2_checkTone rfl rfl rfl (by decide +kernel) ⟨Nat.le_of_ble_eq_true rfl, Nat.le_of_ble_eq_true rfl⟩ hK hP hz hS rfl rfl hl.1 (Nat.le_of_ble_eq_true rfl) dX2_setTone_21 ⟨Nat.le_of_ble_eq_true rfl, Nat.le_of_ble_eq_true rfl⟩ ⟨Nat.le_of_ble_eq_true rfl, Nat.le_of_ble_eq_true rfl⟩ (fun h9 => en_2 (by unfold kSet; (try simp only [isC, Int.toNat_natCast]); (repeat' split) <;> omega)) (fun x_4 H locs hq hS => ?_)
  have hP := gP_kq hq hP
  refine lv_iload F.1 F.2.1 dX2_setTone_24 (lv_at hl 5 rfl) ?_
  refine lv_aload F.1 F.2.1 dX2_setTone_26 (lv_at hl 0 rfl) ?_
  refine lv_iload_n F.1 F.2.1 dX2_setTone_28 rfl (lv_at hl 3 rfl) ?_
  refine lv_iload_n F.1 F.2.1 dX2_setTone_29 rfl (lv_at hl 4 rfl) ?_
  refine rd_V F (n := 2) (w0 := []) (mX0_ceiling l G (P i) (σ 7 i) (σ 10 i) (mff (σ 7 i) (σ 8 i 0)) (σ 8 i 0) (σ 9 i 0) c u (by omega) (by omega)) gX2_setTone_X0_ceiling rfl rfl rfl (by decide +kernel) ⟨Nat.le_of_ble_eq_true rfl, Nat.le_of_ble_eq_true rfl⟩ hK (CW_P hP i (by omega)) (ci := 0) (q0 := 0) rfl rfl rfl rfl hl.1 (Nat.le_of_ble_eq_true rfl) dX2_setTone_30 ⟨Nat.le_of_ble_eq_true rfl, Nat.le_of_ble_eq_true rfl⟩ ?_
  refine k_icmp_gt F (tgt := 48) dX2_setTone_33 (by decide) (by omega) (by omega) (fun c_5 => ?_) (fun c_5 => ?_)
  · skip
    exact x_throw F hfl hxt hlocks hz hS (ik := 46) (ic := 50) (is := 116) (text := "the voices would cross") (cls := nmS) (by decide +kernel) exS2 exS1 (fun w9 (h9 : w9 ∈ (vx_atS RX2 50 "java/lang/IllegalStateException" ["java/lang/RuntimeException", "java/lang/Exception"]).filter goodWord) => by simp only [wsX2_setTone, List.mem_cons, List.mem_append, h9, or_true, true_or]) (by decide +kernel) (by decide +kernel) (by decide +kernel) hl.1 dX2_setTone_48 dX2_setTone_51 dX2_setTone_52 dX2_setTone_54 dX2_setTone_57 ⟨Nat.le_of_ble_eq_true rfl, Nat.le_of_ble_eq_true rfl, Nat.le_of_ble_eq_true rfl, Nat.le_of_ble_eq_true rfl⟩ ⟨Nat.le_of_ble_eq_true rfl, Nat.le_of_ble_eq_true rfl⟩ (en_3 (by unfold kSet; (try simp only [isC, Int.toNat_natCast]); (repeat' split) <;> omega))
  · skip
    refine lv_iload F.1 F.2.1 dX2_setTone_36 (lv_at hl 5 rfl) ?_
    refine lv_aload F.1 F.2.1 dX2_setTone_38 (lv_at hl 0 rfl) ?_
    refine lv_iload_n F.1 F.2.1 dX2_setTone_40 rfl (lv_at hl 3 rfl) ?_
    refine lv_iload_n F.1 F.2.1 dX2_setTone_41 rfl (lv_at hl 4 rfl) ?_
    refine rd_V F (n := 2) (w0 := []) (mX0_floor l G (P i) (σ 7 i) (σ 10 i) (mff (σ 7 i) (σ 8 i 0)) (σ 8 i 0) (σ 9 i 0) c u (by omega) (by omega)) gX2_setTone_X0_floor rfl rfl rfl (by decide +kernel) ⟨Nat.le_of_ble_eq_true rfl, Nat.le_of_ble_eq_true rfl⟩ hK (CW_P hP i (by omega)) (ci := 0) (q0 := 0) rfl rfl rfl rfl hl.1 (Nat.le_of_ble_eq_true rfl) dX2_setTone_42 ⟨Nat.le_of_ble_eq_true rfl, Nat.le_of_ble_eq_true rfl⟩ ?_
    refine k_icmp_ge F (tgt := 58) dX2_setTone_45 (by decide) (by omega) (by omega) (fun c_6 => ?_) (fun c_6 => ?_)
    · skip
      refine lv_aload F.1 F.2.1 dX2_setTone_58 (lv_at hl 0 rfl) ?_
      refine lv_iload_n F.1 F.2.1 dX2_setTone_60 rfl (lv_at hl 3 rfl) ?_
      refine lv_iload_n F.1 F.2.1 dX2_setTone_61 rfl (lv_at hl 4 rfl) ?_
      refine rd_V F (n := 2) (w0 := []) (mX0_toneAt l G (P i) (σ 7 i) (σ 10 i) (mff (σ 7 i) (σ 8 i 0)) (σ 8 i 0) (σ 9 i 0) c u (by omega) (by omega)) gX2_setTone_X0_toneAt rfl rfl rfl (by decide +kernel) ⟨Nat.le_of_ble_eq_true rfl, Nat.le_of_ble_eq_true rfl⟩ hK (CW_P hP i (by omega)) (ci := 0) (q0 := 0) rfl rfl rfl rfl hl.1 (Nat.le_of_ble_eq_true rfl) dX2_setTone_62 ⟨Nat.le_of_ble_eq_true rfl, Nat.le_of_ble_eq_true rfl⟩ ?_
      refine lv_istore (lv' := [(6, .int (iI (σ 7 i (4 * c + u)))), (5, .ref (P i 0)), (0, .ref (B 5)), (1, .int (iI (i : Int))), (2, .int (iI (c : Int))), (3, .int (iI (u : Int))), (4, .int (iI t))]) F.1 F.2.1 dX2_setTone_65 hl (by decide) rfl (fun ls hl => ?_)
      refine lv_aload F.1 F.2.1 dX2_setTone_67 (lv_at hl 1 rfl) ?_
      refine lv_iload_n F.1 F.2.1 dX2_setTone_69 rfl (lv_at hl 4 rfl) ?_
      refine lv_iload_n F.1 F.2.1 dX2_setTone_70 rfl (lv_at hl 5 rfl) ?_
      refine lv_iload F.1 F.2.1 dX2_setTone_71 (lv_at hl 6 rfl) ?_
      refine wv_V F (n := 3) (w := PWi G P σ i) (w' := PW G (P i) (uI (σ 7 i) (4 * c + u) t) (σ 10 i) (mff (uI (σ 7 i) (4 * c + u) t) (σ 8 i 0)) (σ 8 i 0) (σ 9 i 0)) (wr := CX G B P σ k i) (ws2 := CW G B P (su σ 7 i (4 * c + u) t) k) (mX0_putTone_c l G H.size (P i) (σ 7 i) (σ 10 i) (σ 8 i 0) (σ 9 i 0) c u t (by omega) (by omega) (hch i) (ht_put (htn i) _ (by omega)) (ho_put' (hto i) (by omega) (by omega) (by omega))) gX2_setTone_X0_putTone rfl rfl rfl (by decide +kernel) ⟨Nat.le_of_ble_eq_true rfl, Nat.le_of_ble_eq_true rfl⟩ hK hP hD (sF_mono hS) hA (CX_perm (by omega)) (CW_piece (τ := su σ 7 i (4 * c + u) t) (by omega) (su_s _ _ _ _ _) rfl rfl rfl rfl (fun j hj => ⟨su_n _ _ _ _ hj, rfl, rfl, rfl⟩) rfl rfl rfl rfl rfl rfl) rfl (ci := 0) (q0 := 0) rfl rfl rfl rfl hl.1 (Nat.le_of_ble_eq_true rfl) dX2_setTone_73 ⟨Nat.le_of_ble_eq_true rfl, Nat.le_of_ble_eq_true rfl⟩ (fun H locs hP hD hS => ?_)
      refine lv_iload F.1 F.2.1 dX2_setTone_76 (lv_at hl 0 rfl) ?_
      exact x_wret F hlocks hr (by unfold kSet; (try simp only [isC, Int.toNat_natCast]); (repeat' split) <;> omega) rfl hP hS ⟨Nat.le_of_ble_eq_true rfl, Nat.le_of_ble_eq_true rfl⟩ dX2_setTone_78
    · skip
      exact x_throw F hfl hxt hlocks hz hS (ik := 46) (ic := 50) (is := 116) (text := "the voices would cross") (cls := nmS) (by decide +kernel) exS2 exS1 (fun w9 (h9 : w9 ∈ (vx_atS RX2 50 "java/lang/IllegalStateException" ["java/lang/RuntimeException", "java/lang/Exception"]).filter goodWord) => by simp only [wsX2_setTone, List.mem_cons, List.mem_append, h9, or_true, true_or]) (by decide +kernel) (by decide +kernel) (by decide +kernel) hl.1 dX2_setTone_48 dX2_setTone_51 dX2_setTone_52 dX2_setTone_54 dX2_setTone_57 ⟨Nat.le_of_ble_eq_true rfl, Nat.le_of_ble_eq_true rfl, Nat.le_of_ble_eq_true rfl, Nat.le_of_ble_eq_true rfl⟩ ⟨Nat.le_of_ble_eq_true rfl, Nat.le_of_ble_eq_true rfl⟩ (en_3 (by unfold kSet; (try simp only [isC, Int.toNat_natCast]); (repeat' split) <;> omega))

set_option maxHeartbeats 4000000 in
set_option maxRecDepth 100000 in
theorem mX2_leastFaults (l : Launch) (hfl : l.stackTraces = false) (G : gT) (z0 sz0 : Nat) (B : Nat → Nat) (P : Nat → Nat → Nat) (σ : Sg) (x y v : Int) (hx : -2147483648 ≤ x ∧ x < 2147483648) (hy : -2147483648 ≤ y ∧ y < 2147483648) (hv : -2147483648 ≤ v ∧ v < 2147483648) {n k N : Nat} (hI : Iv σ n k N) : vx_Met l yX2_leastFaults wsX2_leastFaults { frames := 7, cells := 6, slots := 36, locals := 141 } (va_Pc [.ref (B 5), .int (iI x), .int (iI y), .int (iI v)] (xW G (CW G B P σ k) z0 sz0)) (yI (kLst σ x y v = 0) (lft (σ 7 x.toNat) y.toNat v.toNat (σ 8 x.toNat 0)) G (CW G B P (σ) k) (va_A (CW G B P σ k) sz0)) (xC (kLst σ x y v ≠ 0) (en nmI nmA nmA (kLst σ x y v))) 6 36 (va_A (CW G B P σ k) sz0) := by
  refine x_startW (own := RX2) (cc := cX2_leastFaults) (mL := 5) (ret := (some .int)) (Qc := fun AA => yI (kLst σ x y v = 0) (lft (σ 7 x.toNat) y.toNat v.toNat (σ 8 x.toNat 0)) G (CW G B P (σ) k) AA) (by decide) rfl rfl (Nat.le_of_ble_eq_true rfl) ?_
  intro pP eE sS mM args bB meth cC ls AA F hr hlocks hxt hP hK hz hD hA hl
  have hS : sF sS sS.heap [] := va_S.rf
  obtain ⟨hn, hn12, hk, hk6, hsg, haw, hch, hch1, hch0, htn, hto, htz, hpr, hN, hpz, hle, hlz⟩ := id hI
  have hs3 : ∀ j, j < n → 0 ≤ σ 4 0 j ∧ σ 4 0 j ≤ σ 5 0 j ∧ σ 5 0 j ≤ 60 := fun j hj => by have := hsg j hj; omega
  have hl : lv_has ls 5 [(0, .ref (B 5)), (1, .int (iI x)), (2, .int (iI y)), (3, .int (iI v))] := hl
  refine lv_aload_n F.1 F.2.1 dX2_leastFaults_0 rfl (lv_at hl 0 rfl) ?_
  refine lv_iload_n F.1 F.2.1 dX2_leastFaults_1 rfl (lv_at hl 1 rfl) ?_
  refine x_cR F hxt hlocks (n := 1) (mX2_pieceAt l hfl G z0 B P σ x (by omega) hI) gX2_leastFaults_X2_pieceAt rfl rfl rfl (by decide +kernel) ⟨Nat.le_of_ble_eq_true rfl, Nat.le_of_ble_eq_true rfl⟩ hK hP hz hS (ci := 2) (q0 := 5) rfl rfl rfl rfl hl.1 (Nat.le_of_ble_eq_true rfl) dX2_leastFaults_2 ⟨Nat.le_of_ble_eq_true rfl, Nat.le_of_ble_eq_true rfl⟩ ⟨Nat.le_of_ble_eq_true rfl, Nat.le_of_ble_eq_true rfl⟩ (fun h9 => en_1 (by unfold kLst; (try simp only [isC, Int.toNat_natCast]); (repeat' split) <;> omega)) (fun x_1 H locs hq hS => ?_)
  have hP := gP_kq hq hP
  obtain ⟨i, rfl⟩ : ∃ i : Nat, x = (i : Int) := ⟨x.toNat, by omega⟩
  have hcx := hch i
  refine lv_astore (lv' := [(4, .ref (P i 0)), (0, .ref (B 5)), (1, .int (iI (i : Int))), (2, .int (iI y)), (3, .int (iI v))]) F.1 F.2.1 dX2_leastFaults_5 hl (by decide) rfl (fun ls hl => ?_)
  refine lv_aload F.1 F.2.1 dX2_leastFaults_7 (lv_at hl 0 rfl) ?_
  refine lv_iload_n F.1 F.2.1 dX2_leastFaults_9 rfl (lv_at hl 3 rfl) ?_
  refine x_cS F hxt hlocks (n := 2) (mX2_checkChord l hfl G z0 (P i) (σ 7 i) (σ 10 i) (mff (σ 7 i) (σ 8 i 0)) (σ 8 i 0) (σ 9 i 0) y (hch i) (by omega)) gX2_leastFaults_X2_checkChord rfl rfl rfl (by decide +kernel) ⟨Nat.le_of_ble_eq_true rfl, Nat.le_of_ble_eq_true rfl⟩ hK (CW_P hP i (by omega)) hz hS rfl rfl hl.1 (Nat.le_of_ble_eq_true rfl) dX2_leastFaults_10 ⟨Nat.le_of_ble_eq_true rfl, Nat.le_of_ble_eq_true rfl⟩ ⟨Nat.le_of_ble_eq_true rfl, Nat.le_of_ble_eq_true rfl⟩ (fun h9 => en_1 (by unfold kLst; (try simp only [isC, Int.toNat_natCast]); (repeat' split) <;> omega)) (fun x_2 H locs hq hS => ?_)
  have hP := gP_kq hq hP
  obtain ⟨c, rfl⟩ : ∃ c : Nat, y = (c : Int) := ⟨y.toNat, by omega⟩
  refine lv_iload_n F.1 F.2.1 dX2_leastFaults_13 rfl (lv_at hl 3 rfl) ?_
  refine k_if_eq F (tgt := 26) dX2_leastFaults_14 (by decide) (by omega) (fun c_3 => ?_) (fun c_3 => ?_)
  · skip
    exact x_throw F hfl hxt hlocks hz hS (ik := 137) (ic := 141) (is := 139) (text := "the chord is the first or the last one") (cls := nmI) (by decide +kernel) exI2 exI1 (fun w9 (h9 : w9 ∈ (vx_atS RX2 141 "java/lang/IndexOutOfBoundsException" ["java/lang/RuntimeException", "java/lang/Exception"]).filter goodWord) => by simp only [wsX2_leastFaults, List.mem_cons, List.mem_append, h9, or_true, true_or]) (by decide +kernel) (by decide +kernel) (by decide +kernel) hl.1 dX2_leastFaults_26 dX2_leastFaults_29 dX2_leastFaults_30 dX2_leastFaults_32 dX2_leastFaults_35 ⟨Nat.le_of_ble_eq_true rfl, Nat.le_of_ble_eq_true rfl, Nat.le_of_ble_eq_true rfl, Nat.le_of_ble_eq_true rfl⟩ ⟨Nat.le_of_ble_eq_true rfl, Nat.le_of_ble_eq_true rfl⟩ (en_1 (by unfold kLst; (try simp only [isC, Int.toNat_natCast]); (repeat' split) <;> omega))
  · skip
    refine lv_aload F.1 F.2.1 dX2_leastFaults_17 (lv_at hl 0 rfl) ?_
    refine lv_iload_n F.1 F.2.1 dX2_leastFaults_19 rfl (lv_at hl 3 rfl) ?_
    refine rd_V F (n := 1) (w0 := []) (mX0_isLast l G (P i) (σ 7 i) (σ 10 i) (mff (σ 7 i) (σ 8 i 0)) (σ 8 i 0) (σ 9 i 0) (c : Int) (hch i) (by omega)) gX2_leastFaults_X0_isLast rfl rfl rfl (by decide +kernel) ⟨Nat.le_of_ble_eq_true rfl, Nat.le_of_ble_eq_true rfl⟩ hK (CW_P hP i (by omega)) (ci := 0) (q0 := 0) rfl rfl rfl rfl hl.1 (Nat.le_of_ble_eq_true rfl) dX2_leastFaults_20 ⟨Nat.le_of_ble_eq_true rfl, Nat.le_of_ble_eq_true rfl⟩ ?_
    refine k_ifb_eq F (tgt := 36) dX2_leastFaults_23 (by decide) (fun c_4 => ?_) (fun c_4 => ?_)
    · skip
      refine lv_iload_n F.1 F.2.1 dX2_leastFaults_36 rfl (lv_at hl 4 rfl) ?_
      refine x_cS F hxt hlocks (n := 1) (mX2_checkVoice l hfl G z0 (CW G B P σ k) v (by omega)) gX2_leastFaults_X2_checkVoice rfl rfl rfl (by decide +kernel) ⟨Nat.le_of_ble_eq_true rfl, Nat.le_of_ble_eq_true rfl⟩ hK hP hz hS rfl rfl hl.1 (Nat.le_of_ble_eq_true rfl) dX2_leastFaults_37 ⟨Nat.le_of_ble_eq_true rfl, Nat.le_of_ble_eq_true rfl⟩ ⟨Nat.le_of_ble_eq_true rfl, Nat.le_of_ble_eq_true rfl⟩ (fun h9 => en_2 (by unfold kLst; (try simp only [isC, Int.toNat_natCast]); (repeat' split) <;> omega)) (fun x_5 H locs hq hS => ?_)
      have hP := gP_kq hq hP
      obtain ⟨u, rfl⟩ : ∃ u : Nat, v = (u : Int) := ⟨v.toNat, by omega⟩
      refine lv_aload F.1 F.2.1 dX2_leastFaults_40 (lv_at hl 0 rfl) ?_
      refine lv_iload_n F.1 F.2.1 dX2_leastFaults_42 rfl (lv_at hl 3 rfl) ?_
      refine lv_iload_n F.1 F.2.1 dX2_leastFaults_43 rfl (lv_at hl 4 rfl) ?_
      refine wr_V F (n := 2) (w := PWi G P σ i) (w' := PWi G P σ i) (wr := CX G B P σ k i) (ws2 := CW G B P σ k) (mX0_leastFaultSum l G H.size (P i) (σ 7 i) (σ 10 i) (σ 8 i 0) (σ 9 i 0) c u (by omega) (by omega) (hch i) (htn i) (hto i)) gX2_leastFaults_X0_leastFaultSum rfl rfl rfl (by decide +kernel) ⟨Nat.le_of_ble_eq_true rfl, Nat.le_of_ble_eq_true rfl⟩ hK hP hD (sF_mono hS) hA (CX_perm (by omega)) (CX_perm (by omega)).symm rfl (ci := 0) (q0 := 0) rfl rfl rfl rfl hl.1 (Nat.le_of_ble_eq_true rfl) dX2_leastFaults_44 ⟨Nat.le_of_ble_eq_true rfl, Nat.le_of_ble_eq_true rfl⟩ (fun H locs hP hD hS => ?_)
      exact x_wret F hlocks hr (by unfold kLst; (try simp only [isC, Int.toNat_natCast]); (repeat' split) <;> omega) rfl hP hS ⟨Nat.le_of_ble_eq_true rfl, Nat.le_of_ble_eq_true rfl⟩ dX2_leastFaults_47
    · skip
      exact x_throw F hfl hxt hlocks hz hS (ik := 137) (ic := 141) (is := 139) (text := "the chord is the first or the last one") (cls := nmI) (by decide +kernel) exI2 exI1 (fun w9 (h9 : w9 ∈ (vx_atS RX2 141 "java/lang/IndexOutOfBoundsException" ["java/lang/RuntimeException", "java/lang/Exception"]).filter goodWord) => by simp only [wsX2_leastFaults, List.mem_cons, List.mem_append, h9, or_true, true_or]) (by decide +kernel) (by decide +kernel) (by decide +kernel) hl.1 dX2_leastFaults_26 dX2_leastFaults_29 dX2_leastFaults_30 dX2_leastFaults_32 dX2_leastFaults_35 ⟨Nat.le_of_ble_eq_true rfl, Nat.le_of_ble_eq_true rfl, Nat.le_of_ble_eq_true rfl, Nat.le_of_ble_eq_true rfl⟩ ⟨Nat.le_of_ble_eq_true rfl, Nat.le_of_ble_eq_true rfl⟩ (en_1 (by unfold kLst; (try simp only [isC, Int.toNat_natCast]); (repeat' split) <;> omega))

set_option maxHeartbeats 4000000 in
set_option maxRecDepth 100000 in
theorem mX2_rehearse (l : Launch) (hfl : l.stackTraces = false) (G : gT) (z0 sz0 : Nat) (B : Nat → Nat) (P : Nat → Nat → Nat) (σ : Sg) (x t : Int) (hx : -2147483648 ≤ x ∧ x < 2147483648) (ht : -2147483648 ≤ t ∧ t < 2147483648) {n k N : Nat} (hI : Iv σ n k N) (hN5 : N ≤ 512) : vx_Met l yX2_rehearse wsX2_rehearse { frames := 7, cells := 6, slots := 36, locals := 132 } (va_Pc [.ref (B 5), .int (iI x), .int (iI t)] (xW G (CW G B P σ k) z0 sz0)) (yI (kReh σ x t = 0) (wsm (rhS σ x.toNat t.toNat) x.toNat ((rhS σ x.toNat t.toNat) 8 x.toNat 0).toNat) G (CW G B P ((rhS σ x.toNat t.toNat)) k) (va_A (CW G B P σ k) sz0)) (xC (kReh σ x t ≠ 0) (en nmI nmA nmA (kReh σ x t))) 6 36 (va_A (CW G B P σ k) sz0) := by
  refine x_startW (own := RX2) (cc := cX2_rehearse) (mL := 5) (ret := (some .int)) (Qc := fun AA => yI (kReh σ x t = 0) (wsm (rhS σ x.toNat t.toNat) x.toNat ((rhS σ x.toNat t.toNat) 8 x.toNat 0).toNat) G (CW G B P ((rhS σ x.toNat t.toNat)) k) AA) (by decide) rfl rfl (Nat.le_of_ble_eq_true rfl) ?_
  intro pP eE sS mM args bB meth cC ls AA F hr hlocks hxt hP hK hz hD hA hl
  have hS : sF sS sS.heap [] := va_S.rf
  obtain ⟨hn, hn12, hk, hk6, hsg, haw, hch, hch1, hch0, htn, hto, htz, hpr, hN, hpz, hle, hlz⟩ := id hI
  have hs3 : ∀ j, j < n → 0 ≤ σ 4 0 j ∧ σ 4 0 j ≤ σ 5 0 j ∧ σ 5 0 j ≤ 60 := fun j hj => by have := hsg j hj; omega
  have hl : lv_has ls 5 [(0, .ref (B 5)), (1, .int (iI x)), (2, .int (iI t))] := hl
  refine lv_aload_n F.1 F.2.1 dX2_rehearse_0 rfl (lv_at hl 0 rfl) ?_
  refine lv_iload_n F.1 F.2.1 dX2_rehearse_1 rfl (lv_at hl 1 rfl) ?_
  refine x_cR F hxt hlocks (n := 1) (mX2_pieceAt l hfl G z0 B P σ x (by omega) hI) gX2_rehearse_X2_pieceAt rfl rfl rfl (by decide +kernel) ⟨Nat.le_of_ble_eq_true rfl, Nat.le_of_ble_eq_true rfl⟩ hK hP hz hS (ci := 2) (q0 := 5) rfl rfl rfl rfl hl.1 (Nat.le_of_ble_eq_true rfl) dX2_rehearse_2 ⟨Nat.le_of_ble_eq_true rfl, Nat.le_of_ble_eq_true rfl⟩ ⟨Nat.le_of_ble_eq_true rfl, Nat.le_of_ble_eq_true rfl⟩ (fun h9 => en_1 (by unfold kReh; (try simp only [isC, Int.toNat_natCast]); (repeat' split) <;> omega)) (fun x_1 H locs hq hS => ?_)
  have hP := gP_kq hq hP
  obtain ⟨i, rfl⟩ : ∃ i : Nat, x = (i : Int) := ⟨x.toNat, by omega⟩
  have hcx := hch i
  have hIR := fun (q : Nat) (hq : q ≤ 30) => Iv_rhS hI hN5 (i := i) (by omega) q hq
  refine lv_astore_n (lv' := [(3, .ref (P i 0)), (0, .ref (B 5)), (1, .int (iI (i : Int))), (2, .int (iI t))]) F.1 F.2.1 dX2_rehearse_5 rfl hl (by decide) rfl (fun ls hl => ?_)
  refine lv_iload_n F.1 F.2.1 dX2_rehearse_6 rfl (lv_at hl 3 rfl) ?_
  refine k_iconst F dX2_rehearse_7 ?_
  refine k_icmp_lt F (tgt := 17) dX2_rehearse_8 (by decide) (by omega) (by decide) (fun c_2 => ?_) (fun c_2 => ?_)
  · skip
    exact x_throw F hfl hxt hlocks hz hS (ik := 35) (ic := 39) (is := 163) (text := "the number of times is out of range") (cls := nmA) (by decide +kernel) exA2 exA1 (fun w9 (h9 : w9 ∈ (vx_atS RX2 39 "java/lang/IllegalArgumentException" ["java/lang/RuntimeException", "java/lang/Exception"]).filter goodWord) => by simp only [wsX2_rehearse, List.mem_cons, List.mem_append, h9, or_true, true_or]) (by decide +kernel) (by decide +kernel) (by decide +kernel) hl.1 dX2_rehearse_17 dX2_rehearse_20 dX2_rehearse_21 dX2_rehearse_23 dX2_rehearse_26 ⟨Nat.le_of_ble_eq_true rfl, Nat.le_of_ble_eq_true rfl, Nat.le_of_ble_eq_true rfl, Nat.le_of_ble_eq_true rfl⟩ ⟨Nat.le_of_ble_eq_true rfl, Nat.le_of_ble_eq_true rfl⟩ (en_2 (by unfold kReh; (try simp only [isC, Int.toNat_natCast]); (repeat' split) <;> omega))
  · skip
    refine lv_iload_n F.1 F.2.1 dX2_rehearse_11 rfl (lv_at hl 3 rfl) ?_
    refine k_bipush F dX2_rehearse_12 (by decide +kernel) ?_
    refine k_icmp_le F (tgt := 27) dX2_rehearse_14 (by decide) (by omega) (by decide) (fun c_3 => ?_) (fun c_3 => ?_)
    · skip
      have hK0 : kReh σ (i : Int) t = 0 := (by unfold kReh; (try simp only [isC, Int.toNat_natCast]); (repeat' split) <;> omega)
      obtain ⟨T, rfl⟩ : ∃ T : Nat, t = (T : Int) := ⟨t.toNat, by omega⟩
      refine k_iconst F dX2_rehearse_27 ?_
      refine lv_istore (lv' := [(4, .int (iI 0)), (3, .ref (P i 0)), (0, .ref (B 5)), (1, .int (iI (i : Int))), (2, .int (iI (T : Int)))]) F.1 F.2.1 dX2_rehearse_28 hl (by decide) rfl (fun ls hl => ?_)
      have hS := sF_mono (B := AA) hS
      have J_4 : ∀ q : Nat, q ≤ T → ∀ (H : Heap) (locs : List Loc), gP G (CW G B P (rhS σ i q) k) H → va_D AA (CW G B P (rhS σ i q) k) → va_S AA sS.heap H locs → ∀ ls : Array Slot, lv_has ls 5 [(4, .int (iI (q : Int))), (3, .ref (P i 0)), (0, .ref (B 5)), (1, .int (iI (i : Int))), (2, .int (iI (T : Int)))] → W pP l eE ({ frames := 7, cells := 6, slots := 36, locals := 132 }) sS mM args bB meth cC H locs 1 6 (vx_MQ bB (yI (kReh σ (i : Int) (T : Int) = 0) (wsm (rhS σ (i : Int).toNat (T : Int).toNat) (i : Int).toNat ((rhS σ (i : Int).toNat (T : Int).toNat) 8 (i : Int).toNat 0).toNat) G (CW G B P ((rhS σ (i : Int).toNat (T : Int).toNat)) k) AA) (xC (kReh σ (i : Int) (T : Int) ≠ 0) (en nmI nmA nmA (kReh σ (i : Int) (T : Int)))) args sS 6 36 AA) (F0 mM 30 ls []) := by
        refine lp_up (T) ?_ ?_
        · intro H locs hP hD hS ls hl
          refine lv_iload F.1 F.2.1 dX2_rehearse_30 (lv_at hl 0 rfl) ?_
          refine lv_iload_n F.1 F.2.1 dX2_rehearse_32 rfl (lv_at hl 4 rfl) ?_
          refine k_icmp_ge F (tgt := 46) dX2_rehearse_33 (by decide) (by omega) (by omega) (fun c_6 => ?_) (fun c_6 => absurd c_6 (by omega))
          refine lv_aload_n F.1 F.2.1 dX2_rehearse_46 rfl (lv_at hl 1 rfl) ?_
          refine rd_V F (n := 0) (w0 := []) (mX0_weaknessSum l G (P i) ((rhS σ i T) 7 i) ((rhS σ i T) 10 i) (mff ((rhS σ i T) 7 i) ((rhS σ i T) 8 i 0)) ((rhS σ i T) 8 i 0) ((rhS σ i T) 9 i 0) (Iv_ch (hIR T (by omega)).1 i) (fun c9 => mff_rg _ _ c9) (fun c9 => by have h1 := (hIR T (by omega)).2 i c9; have h2 := Iv_pr (hIR T (by omega)).1 i c9; omega)) gX2_rehearse_X0_weaknessSum rfl rfl rfl (by decide +kernel) ⟨Nat.le_of_ble_eq_true rfl, Nat.le_of_ble_eq_true rfl⟩ hK (CW_P hP i (by omega)) (ci := 0) (q0 := 0) rfl rfl rfl rfl hl.1 (Nat.le_of_ble_eq_true rfl) dX2_rehearse_47 ⟨Nat.le_of_ble_eq_true rfl, Nat.le_of_ble_eq_true rfl⟩ ?_
          exact x_wret F hlocks hr hK0 (ws_eq _ (by have h1 := Iv_ch (hIR T (by omega)).1 i; omega)) hP hS ⟨Nat.le_of_ble_eq_true rfl, Nat.le_of_ble_eq_true rfl⟩ dX2_rehearse_50
        · intro q hk9 ih H locs hP hD hS ls hl
          refine lv_iload F.1 F.2.1 dX2_rehearse_30 (lv_at hl 0 rfl) ?_
          refine lv_iload_n F.1 F.2.1 dX2_rehearse_32 rfl (lv_at hl 4 rfl) ?_
          refine k_icmp_ge F (tgt := 46) dX2_rehearse_33 (by decide) (by omega) (by omega) (fun c_7 => absurd c_7 (by omega)) (fun c_7 => ?_)
          refine lv_aload_n F.1 F.2.1 dX2_rehearse_36 rfl (lv_at hl 1 rfl) ?_
          refine wv_V F (n := 0) (w := PWi G P (rhS σ i q) i) (w' := PW G (P i) ((rhS σ i q) 7 i) (uI ((rhS σ i q) 10 i) (wcC (mff ((rhS σ i q) 7 i) ((rhS σ i q) 8 i 0)) ((rhS σ i q) 10 i) (((rhS σ i q) 8 i 0).toNat - 1)) ((rhS σ i q) 10 i (wcC (mff ((rhS σ i q) 7 i) ((rhS σ i q) 8 i 0)) ((rhS σ i q) 10 i) (((rhS σ i q) 8 i 0).toNat - 1)) + 4)) (mff ((rhS σ i q) 7 i) ((rhS σ i q) 8 i 0)) ((rhS σ i q) 8 i 0) ((rhS σ i q) 9 i 0)) (wr := CX G B P (rhS σ i q) k i) (ws2 := CW G B P (rhS σ i (q + 1)) k) (mX0_practiseWeakest l G H.size (P i) ((rhS σ i q) 7 i) ((rhS σ i q) 10 i) (mff ((rhS σ i q) 7 i) ((rhS σ i q) 8 i 0)) ((rhS σ i q) 8 i 0) ((rhS σ i q) 9 i 0) (Iv_ch (hIR q (by omega)).1 i) (fun c9 => mff_rg _ _ c9) (fun c9 => by have h1 := (hIR q (by omega)).2 i c9; have h2 := Iv_pr (hIR q (by omega)).1 i c9; omega)) gX2_rehearse_X0_practiseWeakest rfl rfl rfl (by decide +kernel) ⟨Nat.le_of_ble_eq_true rfl, Nat.le_of_ble_eq_true rfl⟩ hK hP hD hS hA (CX_perm (by omega)) (CW_piece (τ := (rhS σ i (q + 1))) (by omega) rfl (by rw [wq_eq (by have h1 := (hIR q (by omega)).1.2.2.2.2.2.2.2.1 i (by omega); omega)]; exact su_s (rhS σ i q) 10 i (wkq (rhS σ i q) i) _) rfl rfl rfl (fun j hj => ⟨rfl, su_n (rhS σ i q) 10 _ _ hj, rfl, rfl⟩) rfl rfl rfl rfl rfl rfl) rfl (ci := 0) (q0 := 0) rfl rfl rfl rfl hl.1 (Nat.le_of_ble_eq_true rfl) dX2_rehearse_37 ⟨Nat.le_of_ble_eq_true rfl, Nat.le_of_ble_eq_true rfl⟩ (fun H locs hP hD hS => ?_)
          refine lv_iinc (v := iI ((q : Int) + 1)) (lv' := [(4, .int (iI ((q : Int) + 1))), (3, .ref (P i 0)), (0, .ref (B 5)), (1, .int (iI (i : Int))), (2, .int (iI (T : Int)))]) F.1 F.2.1 dX2_rehearse_40 hl (k := 0) rfl (iI_add _ _) (by decide) rfl (fun ls hl => ?_)
          refine lv_goto (tgt := 30) F.1 F.2.1 dX2_rehearse_43 (by decide) ?_
          have e_8 : (((q : Int) + 1) : Int) = ((q + 1 : Nat) : Int) := rfl
          exact ih _ _ hP (D_too (w' := CW G B P (rhS σ i (q + 1)) k) hD (CW_adr _ _ _)) hS _ (lv_to (lv_sub hl [0, 1, 2, 3, 4] rfl) (congrArg (fun x9 : Int => ([(4, .int (iI x9)), (3, .ref (P i 0)), (0, .ref (B 5)), (1, .int (iI (i : Int))), (2, .int (iI (T : Int)))] : List (Nat × Value))) e_8))
      have e_9 : (0 : Int) = ((0 : Nat) : Int) := rfl
      exact J_4 0 (by omega) _ _ hP (D_too (w' := CW G B P (rhS σ i 0) k) hD (CW_adr _ _ _)) hS _ (lv_to (lv_sub hl [0, 1, 2, 3, 4] rfl) (congrArg (fun x9 : Int => ([(4, .int (iI x9)), (3, .ref (P i 0)), (0, .ref (B 5)), (1, .int (iI (i : Int))), (2, .int (iI (T : Int)))] : List (Nat × Value))) e_9))
    · skip
      exact x_throw F hfl hxt hlocks hz hS (ik := 35) (ic := 39) (is := 163) (text := "the number of times is out of range") (cls := nmA) (by decide +kernel) exA2 exA1 (fun w9 (h9 : w9 ∈ (vx_atS RX2 39 "java/lang/IllegalArgumentException" ["java/lang/RuntimeException", "java/lang/Exception"]).filter goodWord) => by simp only [wsX2_rehearse, List.mem_cons, List.mem_append, h9, or_true, true_or]) (by decide +kernel) (by decide +kernel) (by decide +kernel) hl.1 dX2_rehearse_17 dX2_rehearse_20 dX2_rehearse_21 dX2_rehearse_23 dX2_rehearse_26 ⟨Nat.le_of_ble_eq_true rfl, Nat.le_of_ble_eq_true rfl, Nat.le_of_ble_eq_true rfl, Nat.le_of_ble_eq_true rfl⟩ ⟨Nat.le_of_ble_eq_true rfl, Nat.le_of_ble_eq_true rfl⟩ (en_2 (by unfold kReh; (try simp only [isC, Int.toNat_natCast]); (repeat' split) <;> omega))
