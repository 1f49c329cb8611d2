set_option maxHeartbeats 4000000 in
set_option maxRecDepth 100000 in
theorem mX2_addSinger (l : Launch) (hfl : l.stackTraces = false) (G : gT) (z0 sz0 : Nat) (B : Nat → Nat) (P : Nat → Nat → Nat) (σ : Sg) (v lo hi : Int) (hv : -2147483648 ≤ v ∧ v < 2147483648) (hlo : -2147483648 ≤ lo ∧ lo < 2147483648) (hhi : -2147483648 ≤ hi ∧ hi < 2147483648) {n k N : Nat} (hI : Iv σ n k N) : vx_Met l yX2_addSinger wsX2_addSinger { frames := 7, cells := 6, slots := 36, locals := 131 } (va_Pc [.ref (B 5), .int (iI v), .int (iI lo), .int (iI hi)] (xW G (CW G B P σ k) z0 sz0)) (yI (kAdd σ v lo hi = 0) (σ 1 0 0) G (CW G B P (sAdd σ v lo hi) k) (va_A (CW G B P σ k) sz0)) (xC (kAdd σ v lo hi ≠ 0) (en nmA nmS nmS (kAdd σ v lo hi))) 6 36 (va_A (CW G B P σ k) sz0) := by
  refine x_startW (own := RX2) (cc := cX2_addSinger) (mL := 4) (ret := (some .int)) (Qc := fun AA => yI (kAdd σ v lo hi = 0) (σ 1 0 0) G (CW G B P (sAdd σ v lo hi) k) AA) (by decide) rfl rfl (Nat.le_of_ble_eq_true rfl) ?_
  intro pP eE sS mM args bB meth cC ls AA F hr hlocks hxt hP hK hz hD hA hl
  have hS : sF sS sS.heap [] := va_S.rf
  obtain ⟨hn, hn12, hk, hk6, hsg, haw, hch, hch1, hch0, htn, hto, htz, hpr, hN, hpz, hle, hlz⟩ := id hI
  have hs3 : ∀ j, j < n → 0 ≤ σ 4 0 j ∧ σ 4 0 j ≤ σ 5 0 j ∧ σ 5 0 j ≤ 60 := fun j hj => by have := hsg j hj; omega
  have iX2 : ∀ x ∈ wsX20, x ∈ wsX2_addSinger := by decide +kernel
  have f12 := k_cond F (w := .fieldLink RX2 12 "ChoirPlanner" "roster" "LChoirPlanner$Roster;") (by decide +kernel)
  have hl : lv_has ls 4 [(0, .ref (B 5)), (1, .int (iI v)), (2, .int (iI lo)), (3, .int (iI hi))] := hl
  refine lv_iload_n F.1 F.2.1 dX2_addSinger_0 rfl (lv_at hl 1 rfl) ?_
  refine x_cS F hxt hlocks (n := 1) (mX2_checkVoice l hfl G z0 (CW G B P σ k) v (by omega)) gX2_addSinger_X2_checkVoice rfl rfl rfl (by decide +kernel) ⟨Nat.le_of_ble_eq_true rfl, Nat.le_of_ble_eq_true rfl⟩ hK hP hz hS rfl rfl hl.1 (Nat.le_of_ble_eq_true rfl) dX2_addSinger_1 ⟨Nat.le_of_ble_eq_true rfl, Nat.le_of_ble_eq_true rfl⟩ ⟨Nat.le_of_ble_eq_true rfl, Nat.le_of_ble_eq_true rfl⟩ (fun h9 => en_1 (by unfold kAdd; (try simp only [isC, Int.toNat_natCast]); (repeat' split) <;> omega)) (fun x_1 H locs hq hS => ?_)
  have hP := gP_kq hq hP
  refine lv_iload_n F.1 F.2.1 dX2_addSinger_4 rfl (lv_at hl 2 rfl) ?_
  refine k_bipush F dX2_addSinger_5 (by decide +kernel) ?_
  refine x_cS F hxt hlocks (n := 2) (mX2_checkTone l hfl G z0 (CW G B P σ k) lo 60 (by omega) (by decide)) gX2_addSinger_X2_checkTone rfl rfl rfl (by decide +kernel) ⟨Nat.le_of_ble_eq_true rfl, Nat.le_of_ble_eq_true rfl⟩ hK hP hz hS rfl rfl hl.1 (Nat.le_of_ble_eq_true rfl) dX2_addSinger_7 ⟨Nat.le_of_ble_eq_true rfl, Nat.le_of_ble_eq_true rfl⟩ ⟨Nat.le_of_ble_eq_true rfl, Nat.le_of_ble_eq_true rfl⟩ (fun h9 => en_1 (by unfold kAdd; (try simp only [isC, Int.toNat_natCast]); (repeat' split) <;> omega)) (fun x_2 H locs hq hS => ?_)
  have hP := gP_kq hq hP
  refine lv_iload_n F.1 F.2.1 dX2_addSinger_10 rfl (lv_at hl 3 rfl) ?_
  refine k_bipush F dX2_addSinger_11 (by decide +kernel) ?_
  refine x_cS F hxt hlocks (n := 2) (mX2_checkTone l hfl G z0 (CW G B P σ k) hi 60 (by omega) (by decide)) gX2_addSinger_X2_checkTone rfl rfl rfl (by decide +kernel) ⟨Nat.le_of_ble_eq_true rfl, Nat.le_of_ble_eq_true rfl⟩ hK hP hz hS rfl rfl hl.1 (Nat.le_of_ble_eq_true rfl) dX2_addSinger_13 ⟨Nat.le_of_ble_eq_true rfl, Nat.le_of_ble_eq_true rfl⟩ ⟨Nat.le_of_ble_eq_true rfl, Nat.le_of_ble_eq_true rfl⟩ (fun h9 => en_1 (by unfold kAdd; (try simp only [isC, Int.toNat_natCast]); (repeat' split) <;> omega)) (fun x_3 H locs hq hS => ?_)
  have hP := gP_kq hq hP
  refine lv_iload_n F.1 F.2.1 dX2_addSinger_16 rfl (lv_at hl 3 rfl) ?_
  refine lv_iload_n F.1 F.2.1 dX2_addSinger_17 rfl (lv_at hl 2 rfl) ?_
  refine k_icmp_ge F (tgt := 31) dX2_addSinger_18 (by decide) (by omega) (by omega) (fun c_4 => ?_) (fun c_4 => ?_)
  · skip
    refine lv_aload_n F.1 F.2.1 dX2_addSinger_31 rfl (lv_at hl 0 rfl) ?_
    refine k_get F hK hP iX2 5 rfl rfl 0 (by decide) f12 rfl rfl dX2_addSinger_32 ?_
    refine rd_V F (n := 0) (w0 := []) (mX1_isFull l G B σ hI) gX2_addSinger_X1_isFull rfl rfl rfl (by decide +kernel) ⟨Nat.le_of_ble_eq_true rfl, Nat.le_of_ble_eq_true rfl⟩ hK (CW_R hP) (ci := 1) (q0 := 0) rfl rfl rfl rfl hl.1 (Nat.le_of_ble_eq_true rfl) dX2_addSinger_35 ⟨Nat.le_of_ble_eq_true rfl, Nat.le_of_ble_eq_true rfl⟩ ?_
    refine k_ifb_eq F (tgt := 51) dX2_addSinger_38 (by decide) (fun c_5 => ?_) (fun c_5 => ?_)
    · skip
      refine lv_aload_n F.1 F.2.1 dX2_addSinger_51 rfl (lv_at hl 0 rfl) ?_
      refine k_get F hK hP iX2 5 rfl rfl 0 (by decide) f12 rfl rfl dX2_addSinger_52 ?_
      refine lv_iload_n F.1 F.2.1 dX2_addSinger_55 rfl (lv_at hl 1 rfl) ?_
      refine lv_iload_n F.1 F.2.1 dX2_addSinger_56 rfl (lv_at hl 2 rfl) ?_
      refine lv_iload_n F.1 F.2.1 dX2_addSinger_57 rfl (lv_at hl 3 rfl) ?_
      refine wr_V F (n := 3) (w := RW G B σ) (w' := RW G B (su (su (su (su σ 3 0 n v) 4 0 n lo) 5 0 n hi) 1 0 0 (σ 1 0 0 + 1))) (wr := (CH G B P σ k ++ PL G P σ (k + 1))) (ws2 := CW G B P (su (su (su (su σ 3 0 n v) 4 0 n lo) 5 0 n hi) 1 0 0 (σ 1 0 0 + 1)) k) (mX1_add l G H.size B σ v lo hi hn (by omega)) gX2_addSinger_X1_add rfl rfl rfl (by decide +kernel) ⟨Nat.le_of_ble_eq_true rfl, Nat.le_of_ble_eq_true rfl⟩ hK hP hD (sF_mono hS) hA (List.Perm.refl _) (CW_roster rfl rfl rfl rfl rfl) rfl (ci := 1) (q0 := 0) rfl rfl rfl rfl hl.1 (Nat.le_of_ble_eq_true rfl) dX2_addSinger_58 ⟨Nat.le_of_ble_eq_true rfl, Nat.le_of_ble_eq_true rfl⟩ (fun H locs hP hD hS => ?_)
      exact x_wret F hlocks hr (by unfold kAdd; (try simp only [isC, Int.toNat_natCast]); (repeat' split) <;> omega) rfl (by have e9 : (σ 1 0 0).toNat = n := (by omega); simp only [sAdd, e9]; exact hP) hS ⟨Nat.le_of_ble_eq_true rfl, Nat.le_of_ble_eq_true rfl⟩ dX2_addSinger_61
    · skip
      exact x_throw F hfl hxt hlocks hz hS (ik := 46) (ic := 50) (is := 48) (text := "there are 12 singers") (cls := nmS) (by decide +kernel) exS2 exS1 (fun w9 (h9 : w9 ∈ (vx_atS RX2 50 "java/lang/IllegalStateException" ["java/lang/RuntimeException", "java/lang/Exception"]).filter goodWord) => by simp only [wsX2_addSinger, List.mem_cons, List.mem_append, h9, or_true, true_or]) (by decide +kernel) (by decide +kernel) (by decide +kernel) hl.1 dX2_addSinger_41 dX2_addSinger_44 dX2_addSinger_45 dX2_addSinger_47 dX2_addSinger_50 ⟨Nat.le_of_ble_eq_true rfl, Nat.le_of_ble_eq_true rfl, Nat.le_of_ble_eq_true rfl, Nat.le_of_ble_eq_true rfl⟩ ⟨Nat.le_of_ble_eq_true rfl, Nat.le_of_ble_eq_true rfl⟩ (en_2 (by unfold kAdd; (try simp only [isC, Int.toNat_natCast]); (repeat' split) <;> omega))
  · skip
    exact x_throw F hfl hxt hlocks hz hS (ik := 35) (ic := 39) (is := 37) (text := "the highest tone is below the lowest one") (cls := nmA) (by decide +kernel) exA2 exA1 (fun w9 (h9 : w9 ∈ (vx_atS RX2 39 "java/lang/IllegalArgumentException" ["java/lang/RuntimeException", "java/lang/Exception"]).filter goodWord) => by simp only [wsX2_addSinger, List.mem_cons, List.mem_append, h9, or_true, true_or]) (by decide +kernel) (by decide +kernel) (by decide +kernel) hl.1 dX2_addSinger_21 dX2_addSinger_24 dX2_addSinger_25 dX2_addSinger_27 dX2_addSinger_30 ⟨Nat.le_of_ble_eq_true rfl, Nat.le_of_ble_eq_true rfl, Nat.le_of_ble_eq_true rfl, Nat.le_of_ble_eq_true rfl⟩ ⟨Nat.le_of_ble_eq_true rfl, Nat.le_of_ble_eq_true rfl⟩ (en_1 (by unfold kAdd; (try simp only [isC, Int.toNat_natCast]); (repeat' split) <;> omega))

set_option maxHeartbeats 4000000 in
set_option maxRecDepth 100000 in
theorem mX2_tell (l : Launch) (hfl : l.stackTraces = false) (G : gT) (z0 sz0 : Nat) (B : Nat → Nat) (P : Nat → Nat → Nat) (σ : Sg) (x d t : Int) (hx : -2147483648 ≤ x ∧ x < 2147483648) (hd : -2147483648 ≤ d ∧ d < 2147483648) (ht : t = 0 ∨ t = 1) {n k N : Nat} (hI : Iv σ n k N) : vx_Met l yX2_tell wsX2_tell { frames := 7, cells := 6, slots := 36, locals := 131 } (va_Pc [.ref (B 5), .int (iI x), .int (iI d), .int (iI t)] (xW G (CW G B P σ k) z0 sz0)) (yI (kTel σ x d = 0) (bI (thr (σ 6 0 x.toNat) d = true)) G (CW G B P (sTel σ x d t) k) (va_A (CW G B P σ k) sz0)) (xC (kTel σ x d ≠ 0) (en nmI nmA nmA (kTel σ x d))) 6 36 (va_A (CW G B P σ k) sz0) := by
  refine x_startW (own := RX2) (cc := cX2_tell) (mL := 5) (ret := (some .boolean)) (Qc := fun AA => yI (kTel σ x d = 0) (bI (thr (σ 6 0 x.toNat) d = true)) G (CW G B P (sTel σ x d t) k) AA) (by decide) rfl rfl (Nat.le_of_ble_eq_true rfl) ?_
  intro pP eE sS mM args bB meth cC ls AA F hr hlocks hxt hP hK hz hD hA hl
  have hS : sF sS sS.heap [] := va_S.rf
  obtain ⟨hn, hn12, hk, hk6, hsg, haw, hch, hch1, hch0, htn, hto, htz, hpr, hN, hpz, hle, hlz⟩ := id hI
  have hs3 : ∀ j, j < n → 0 ≤ σ 4 0 j ∧ σ 4 0 j ≤ σ 5 0 j ∧ σ 5 0 j ≤ 60 := fun j hj => by have := hsg j hj; omega
  have iX2 : ∀ x ∈ wsX20, x ∈ wsX2_tell := by decide +kernel
  have f12 := k_cond F (w := .fieldLink RX2 12 "ChoirPlanner" "roster" "LChoirPlanner$Roster;") (by decide +kernel)
  have hl : lv_has ls 5 [(0, .ref (B 5)), (1, .int (iI x)), (2, .int (iI d)), (3, .int (iI t))] := hl
  refine lv_aload_n F.1 F.2.1 dX2_tell_0 rfl (lv_at hl 0 rfl) ?_
  refine lv_iload_n F.1 F.2.1 dX2_tell_1 rfl (lv_at hl 1 rfl) ?_
  refine x_cV F hxt hlocks (n := 1) (mX2_checkSinger l hfl G z0 B P σ x (by omega) hI) gX2_tell_X2_checkSinger rfl rfl rfl (by decide +kernel) ⟨Nat.le_of_ble_eq_true rfl, Nat.le_of_ble_eq_true rfl⟩ hK hP hz hS (ci := 2) (q0 := 5) rfl rfl rfl rfl hl.1 (Nat.le_of_ble_eq_true rfl) dX2_tell_2 ⟨Nat.le_of_ble_eq_true rfl, Nat.le_of_ble_eq_true rfl⟩ ⟨Nat.le_of_ble_eq_true rfl, Nat.le_of_ble_eq_true rfl⟩ (fun h9 => en_1 (by unfold kTel; (try simp only [isC, Int.toNat_natCast]); (repeat' split) <;> omega)) (fun x_1 H locs hq hS => ?_)
  have hP := gP_kq hq hP
  refine lv_iload_n F.1 F.2.1 dX2_tell_5 rfl (lv_at hl 2 rfl) ?_
  refine x_cS F hxt hlocks (n := 1) (mX2_checkDate l hfl G z0 (CW G B P σ k) d (by omega)) gX2_tell_X2_checkDate rfl rfl rfl (by decide +kernel) ⟨Nat.le_of_ble_eq_true rfl, Nat.le_of_ble_eq_true rfl⟩ hK hP hz hS rfl rfl hl.1 (Nat.le_of_ble_eq_true rfl) dX2_tell_6 ⟨Nat.le_of_ble_eq_true rfl, Nat.le_of_ble_eq_true rfl⟩ ⟨Nat.le_of_ble_eq_true rfl, Nat.le_of_ble_eq_true rfl⟩ (fun h9 => en_2 (by unfold kTel; (try simp only [isC, Int.toNat_natCast]); (repeat' split) <;> omega)) (fun x_2 H locs hq hS => ?_)
  have hP := gP_kq hq hP
  have hK0 : kTel σ x d = 0 := (by unfold kTel; (try simp only [isC, Int.toNat_natCast]); (repeat' split) <;> omega)
  obtain ⟨j, rfl⟩ : ∃ j : Nat, x = (j : Int) := ⟨x.toNat, by omega⟩
  refine lv_aload_n F.1 F.2.1 dX2_tell_9 rfl (lv_at hl 0 rfl) ?_
  refine k_get F hK hP iX2 5 rfl rfl 0 (by decide) f12 rfl rfl dX2_tell_10 ?_
  refine lv_iload_n F.1 F.2.1 dX2_tell_13 rfl (lv_at hl 1 rfl) ?_
  refine lv_iload_n F.1 F.2.1 dX2_tell_14 rfl (lv_at hl 2 rfl) ?_
  refine rd_V F (n := 2) (w0 := []) (mX1_isThere l G B σ j d (by omega)) gX2_tell_X1_isThere rfl rfl rfl (by decide +kernel) ⟨Nat.le_of_ble_eq_true rfl, Nat.le_of_ble_eq_true rfl⟩ hK (CW_R hP) (ci := 1) (q0 := 0) rfl rfl rfl rfl hl.1 (Nat.le_of_ble_eq_true rfl) dX2_tell_15 ⟨Nat.le_of_ble_eq_true rfl, Nat.le_of_ble_eq_true rfl⟩ ?_
  refine lv_istore (lv' := [(4, .int (iI (bI (thr (σ 6 0 j) d = true)))), (0, .ref (B 5)), (1, .int (iI (j : Int))), (2, .int (iI d)), (3, .int (iI t))]) F.1 F.2.1 dX2_tell_18 hl (by decide) rfl (fun ls hl => ?_)
  refine lv_aload_n F.1 F.2.1 dX2_tell_20 rfl (lv_at hl 1 rfl) ?_
  refine k_get F hK hP iX2 5 rfl rfl 0 (by decide) f12 rfl rfl dX2_tell_21 ?_
  refine lv_iload_n F.1 F.2.1 dX2_tell_24 rfl (lv_at hl 2 rfl) ?_
  refine lv_iload_n F.1 F.2.1 dX2_tell_25 rfl (lv_at hl 3 rfl) ?_
  refine lv_iload_n F.1 F.2.1 dX2_tell_26 rfl (lv_at hl 4 rfl) ?_
  refine wv_V F (n := 3) (w := RW G B σ) (w' := RW G B (su σ 6 0 j (if t = 0 then orI (σ 6 0 j) (shlI 1 d) else andI (σ 6 0 j) (xorI (shlI 1 d) (-1))))) (wr := (CH G B P σ k ++ PL G P σ (k + 1))) (ws2 := CW G B P (su σ 6 0 j (if t = 0 then orI (σ 6 0 j) (shlI 1 d) else andI (σ 6 0 j) (xorI (shlI 1 d) (-1)))) k) (mX1_putThere l G H.size B σ j d t (by omega) ht) gX2_tell_X1_putThere rfl rfl rfl (by decide +kernel) ⟨Nat.le_of_ble_eq_true rfl, Nat.le_of_ble_eq_true rfl⟩ hK hP hD (sF_mono hS) hA (List.Perm.refl _) (CW_roster rfl rfl rfl rfl rfl) rfl (ci := 1) (q0 := 0) rfl rfl rfl rfl hl.1 (Nat.le_of_ble_eq_true rfl) dX2_tell_27 ⟨Nat.le_of_ble_eq_true rfl, Nat.le_of_ble_eq_true rfl⟩ (fun H locs hP hD hS => ?_)
  refine lv_iload F.1 F.2.1 dX2_tell_30 (lv_at hl 0 rfl) ?_
  exact x_wzret F hlocks hr hK0 rfl (bI_01 _) hP hS ⟨Nat.le_of_ble_eq_true rfl, Nat.le_of_ble_eq_true rfl⟩ dX2_tell_32

set_option maxHeartbeats 4000000 in
set_option maxRecDepth 100000 in
theorem mX2_change (l : Launch) (hfl : l.stackTraces = false) (G : gT) (z0 sz0 : Nat) (B : Nat → Nat) (P : Nat → Nat → Nat) (σ : Sg) (x v : Int) (hx : -2147483648 ≤ x ∧ x < 2147483648) (hv : -2147483648 ≤ v ∧ v < 2147483648) {n k N : Nat} (hI : Iv σ n k N) : vx_Met l yX2_change wsX2_change { frames := 7, cells := 6, slots := 36, locals := 131 } (va_Pc [.ref (B 5), .int (iI x), .int (iI v)] (xW G (CW G B P σ k) z0 sz0)) (yI (kChg σ x v = 0) (σ 3 0 x.toNat) G (CW G B P (su σ 3 0 x.toNat v) k) (va_A (CW G B P σ k) sz0)) (xC (kChg σ x v ≠ 0) (en nmI nmA nmA (kChg σ x v))) 6 36 (va_A (CW G B P σ k) sz0) := by
  refine x_startW (own := RX2) (cc := cX2_change) (mL := 3) (ret := (some .int)) (Qc := fun AA => yI (kChg σ x v = 0) (σ 3 0 x.toNat) G (CW G B P (su σ 3 0 x.toNat v) k) AA) (by decide) rfl rfl (Nat.le_of_ble_eq_true rfl) ?_
  intro pP eE sS mM args bB meth cC ls AA F hr hlocks hxt hP hK hz hD hA hl
  have hS : sF sS sS.heap [] := va_S.rf
  obtain ⟨hn, hn12, hk, hk6, hsg, haw, hch, hch1, hch0, htn, hto, htz, hpr, hN, hpz, hle, hlz⟩ := id hI
  have hs3 : ∀ j, j < n → 0 ≤ σ 4 0 j ∧ σ 4 0 j ≤ σ 5 0 j ∧ σ 5 0 j ≤ 60 := fun j hj => by have := hsg j hj; omega
  have iX2 : ∀ x ∈ wsX20, x ∈ wsX2_change := by decide +kernel
  have f12 := k_cond F (w := .fieldLink RX2 12 "ChoirPlanner" "roster" "LChoirPlanner$Roster;") (by decide +kernel)
  have hl : lv_has ls 3 [(0, .ref (B 5)), (1, .int (iI x)), (2, .int (iI v))] := hl
  refine lv_aload_n F.1 F.2.1 dX2_change_0 rfl (lv_at hl 0 rfl) ?_
  refine lv_iload_n F.1 F.2.1 dX2_change_1 rfl (lv_at hl 1 rfl) ?_
  refine x_cV F hxt hlocks (n := 1) (mX2_checkSinger l hfl G z0 B P σ x (by omega) hI) gX2_change_X2_checkSinger rfl rfl rfl (by decide +kernel) ⟨Nat.le_of_ble_eq_true rfl, Nat.le_of_ble_eq_true rfl⟩ hK hP hz hS (ci := 2) (q0 := 5) rfl rfl rfl rfl hl.1 (Nat.le_of_ble_eq_true rfl) dX2_change_2 ⟨Nat.le_of_ble_eq_true rfl, Nat.le_of_ble_eq_true rfl⟩ ⟨Nat.le_of_ble_eq_true rfl, Nat.le_of_ble_eq_true rfl⟩ (fun h9 => en_1 (by unfold kChg; (try simp only [isC, Int.toNat_natCast]); (repeat' split) <;> omega)) (fun x_1 H locs hq hS => ?_)
  have hP := gP_kq hq hP
  refine lv_iload_n F.1 F.2.1 dX2_change_5 rfl (lv_at hl 2 rfl) ?_
  refine x_cS F hxt hlocks (n := 1) (mX2_checkVoice l hfl G z0 (CW G B P σ k) v (by omega)) gX2_change_X2_checkVoice rfl rfl rfl (by decide +kernel) ⟨Nat.le_of_ble_eq_true rfl, Nat.le_of_ble_eq_true rfl⟩ hK hP hz hS rfl rfl hl.1 (Nat.le_of_ble_eq_true rfl) dX2_change_6 ⟨Nat.le_of_ble_eq_true rfl, Nat.le_of_ble_eq_true rfl⟩ ⟨Nat.le_of_ble_eq_true rfl, Nat.le_of_ble_eq_true rfl⟩ (fun h9 => en_2 (by unfold kChg; (try simp only [isC, Int.toNat_natCast]); (repeat' split) <;> omega)) (fun x_2 H locs hq hS => ?_)
  have hP := gP_kq hq hP
  have hK0 : kChg σ x v = 0 := (by unfold kChg; (try simp only [isC, Int.toNat_natCast]); (repeat' split) <;> omega)
  obtain ⟨j, rfl⟩ : ∃ j : Nat, x = (j : Int) := ⟨x.toNat, by omega⟩
  refine lv_aload_n F.1 F.2.1 dX2_change_9 rfl (lv_at hl 0 rfl) ?_
  refine k_get F hK hP iX2 5 rfl rfl 0 (by decide) f12 rfl rfl dX2_change_10 ?_
  refine lv_iload_n F.1 F.2.1 dX2_change_13 rfl (lv_at hl 1 rfl) ?_
  refine lv_iload_n F.1 F.2.1 dX2_change_14 rfl (lv_at hl 2 rfl) ?_
  refine wr_V F (n := 2) (w := RW G B σ) (w' := RW G B (su σ 3 0 j v)) (wr := (CH G B P σ k ++ PL G P σ (k + 1))) (ws2 := CW G B P (su σ 3 0 j v) k) (mX1_replaceVoice l G H.size B σ j v (by omega)) gX2_change_X1_replaceVoice rfl rfl rfl (by decide +kernel) ⟨Nat.le_of_ble_eq_true rfl, Nat.le_of_ble_eq_true rfl⟩ hK hP hD (sF_mono hS) hA (List.Perm.refl _) (CW_roster rfl rfl rfl rfl rfl) rfl (ci := 1) (q0 := 0) rfl rfl rfl rfl hl.1 (Nat.le_of_ble_eq_true rfl) dX2_change_15 ⟨Nat.le_of_ble_eq_true rfl, Nat.le_of_ble_eq_true rfl⟩ (fun H locs hP hD hS => ?_)
  exact x_wret F hlocks hr hK0 rfl hP hS ⟨Nat.le_of_ble_eq_true rfl, Nat.le_of_ble_eq_true rfl⟩ dX2_change_18
