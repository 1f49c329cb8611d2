set_option maxHeartbeats 4000000 in
set_option maxRecDepth 100000 in
theorem mX1_add (l : Launch) (G : gT) (sz0 : Nat) (B : Nat → Nat) (σ : Sg) (v lo hi : Int) {n : Nat} (hn : σ 1 0 0 = (n : Int)) (hn12 : n < 12) : Met l yX1_add wsX1_add { frames := 0, cells := 0, slots := 0, locals := 0 } (va_Pc [.ref (B 0), .int (iI v), .int (iI lo), .int (iI hi)] (wB G (RW G B σ) sz0)) (wI (σ 1 0 0) G (RW G B (su (su (su (su σ 3 0 n v) 4 0 n lo) 5 0 n hi) 1 0 0 (σ 1 0 0 + 1))) (va_A (RW G B σ) sz0)) 0 0 (va_A (RW G B σ) sz0) := by
  refine wr_start (own := RX1) (cc := cX1_add) (mL := 5) (ret := (some .int)) (Qc := fun AA => wI (σ 1 0 0) G (RW G B (su (su (su (su σ 3 0 n v) 4 0 n lo) 5 0 n hi) 1 0 0 (σ 1 0 0 + 1))) AA) (by decide) rfl rfl (Nat.le_of_ble_eq_true rfl) ?_
  intro pP eE sS mM args bB meth cC ls AA F hr hlocks hin hK hsz0 hP hD hS hA hl
  have iX1 : ∀ x ∈ wsX10, x ∈ wsX1_add := by decide +kernel
  have f9 := k_cond F (w := .fieldLink RX1 9 "ChoirPlanner$Roster" "voices" "[I") (by decide +kernel)
  have f15 := k_cond F (w := .fieldLink RX1 15 "ChoirPlanner$Roster" "lowest" "[I") (by decide +kernel)
  have f18 := k_cond F (w := .fieldLink RX1 18 "ChoirPlanner$Roster" "highest" "[I") (by decide +kernel)
  have f24 := k_cond F (w := .fieldLink RX1 24 "ChoirPlanner$Roster" "size" "I") (by decide +kernel)
  have hl : lv_has ls 5 [(0, .ref (B 0)), (1, .int (iI v)), (2, .int (iI lo)), (3, .int (iI hi))] := hl
  refine lv_aload_n F.1 F.2.1 dX1_add_0 rfl (lv_at hl 0 rfl) ?_
  refine k_get F hK hP iX1 0 rfl rfl 4 (by decide) f24 rfl rfl dX1_add_1 ?_
  refine lv_istore (lv' := [(4, .int (iI (σ 1 0 0))), (0, .ref (B 0)), (1, .int (iI v)), (2, .int (iI lo)), (3, .int (iI hi))]) F.1 F.2.1 dX1_add_4 hl (by decide) rfl (fun ls hl => ?_)
  refine lv_aload_n F.1 F.2.1 dX1_add_6 rfl (lv_at hl 1 rfl) ?_
  refine k_get F hK hP iX1 0 rfl rfl 0 (by decide) f9 rfl rfl dX1_add_7 ?_
  refine lv_iload F.1 F.2.1 dX1_add_10 (lv_at hl 0 rfl) ?_
  refine lv_iload_n F.1 F.2.1 dX1_add_12 rfl (lv_at hl 2 rfl) ?_
  refine k_iast F hK hP hD hS 1 rfl n (by omega) (by omega) (by decide) dX1_add_13 (fun H locs hP hD hS => ?_)
  have hP : gP G ([(B 0, .inr (1, [.ref (B 1), .ref (B 2), .ref (B 3), .ref (B 4), .int (iI (σ 1 0 0))])), (B 1, .inl (G.2.1, 12, .inl (ia (uI (σ 3 0) n v)))), (B 2, .inl (G.2.1, 12, .inl (ia (σ 4 0)))), (B 3, .inl (G.2.1, 12, .inl (ia (σ 5 0)))), (B 4, .inl (G.2.1, 12, .inl (ia (σ 6 0))))]) H := hP
  have hD : va_D AA ([(B 0, .inr (1, [.ref (B 1), .ref (B 2), .ref (B 3), .ref (B 4), .int (iI (σ 1 0 0))])), (B 1, .inl (G.2.1, 12, .inl (ia (uI (σ 3 0) n v)))), (B 2, .inl (G.2.1, 12, .inl (ia (σ 4 0)))), (B 3, .inl (G.2.1, 12, .inl (ia (σ 5 0)))), (B 4, .inl (G.2.1, 12, .inl (ia (σ 6 0))))]) := hD
  refine lv_aload_n F.1 F.2.1 dX1_add_14 rfl (lv_at hl 1 rfl) ?_
  refine k_get F hK hP iX1 0 rfl rfl 1 (by decide) f15 rfl rfl dX1_add_15 ?_
  refine lv_iload F.1 F.2.1 dX1_add_18 (lv_at hl 0 rfl) ?_
  refine lv_iload_n F.1 F.2.1 dX1_add_20 rfl (lv_at hl 3 rfl) ?_
  refine k_iast F hK hP hD hS 2 rfl n (by omega) (by omega) (by decide) dX1_add_21 (fun H locs hP hD hS => ?_)
  have hP : gP G ([(B 0, .inr (1, [.ref (B 1), .ref (B 2), .ref (B 3), .ref (B 4), .int (iI (σ 1 0 0))])), (B 1, .inl (G.2.1, 12, .inl (ia (uI (σ 3 0) n v)))), (B 2, .inl (G.2.1, 12, .inl (ia (uI (σ 4 0) n lo)))), (B 3, .inl (G.2.1, 12, .inl (ia (σ 5 0)))), (B 4, .inl (G.2.1, 12, .inl (ia (σ 6 0))))]) H := hP
  have hD : va_D AA ([(B 0, .inr (1, [.ref (B 1), .ref (B 2), .ref (B 3), .ref (B 4), .int (iI (σ 1 0 0))])), (B 1, .inl (G.2.1, 12, .inl (ia (uI (σ 3 0) n v)))), (B 2, .inl (G.2.1, 12, .inl (ia (uI (σ 4 0) n lo)))), (B 3, .inl (G.2.1, 12, .inl (ia (σ 5 0)))), (B 4, .inl (G.2.1, 12, .inl (ia (σ 6 0))))]) := hD
  refine lv_aload_n F.1 F.2.1 dX1_add_22 rfl (lv_at hl 1 rfl) ?_
  refine k_get F hK hP iX1 0 rfl rfl 2 (by decide) f18 rfl rfl dX1_add_23 ?_
  refine lv_iload F.1 F.2.1 dX1_add_26 (lv_at hl 0 rfl) ?_
  refine lv_iload_n F.1 F.2.1 dX1_add_28 rfl (lv_at hl 4 rfl) ?_
  refine k_iast F hK hP hD hS 3 rfl n (by omega) (by omega) (by decide) dX1_add_29 (fun H locs hP hD hS => ?_)
  have hP : gP G ([(B 0, .inr (1, [.ref (B 1), .ref (B 2), .ref (B 3), .ref (B 4), .int (iI (σ 1 0 0))])), (B 1, .inl (G.2.1, 12, .inl (ia (uI (σ 3 0) n v)))), (B 2, .inl (G.2.1, 12, .inl (ia (uI (σ 4 0) n lo)))), (B 3, .inl (G.2.1, 12, .inl (ia (uI (σ 5 0) n hi)))), (B 4, .inl (G.2.1, 12, .inl (ia (σ 6 0))))]) H := hP
  have hD : va_D AA ([(B 0, .inr (1, [.ref (B 1), .ref (B 2), .ref (B 3), .ref (B 4), .int (iI (σ 1 0 0))])), (B 1, .inl (G.2.1, 12, .inl (ia (uI (σ 3 0) n v)))), (B 2, .inl (G.2.1, 12, .inl (ia (uI (σ 4 0) n lo)))), (B 3, .inl (G.2.1, 12, .inl (ia (uI (σ 5 0) n hi)))), (B 4, .inl (G.2.1, 12, .inl (ia (σ 6 0))))]) := hD
  refine lv_aload_n F.1 F.2.1 dX1_add_30 rfl (lv_at hl 1 rfl) ?_
  refine lv_dup F.1 F.2.1 dX1_add_31 rfl ?_
  refine k_get F hK hP iX1 0 rfl rfl 4 (by decide) f24 rfl rfl dX1_add_32 ?_
  refine k_iconst F dX1_add_35 ?_
  refine k_iadd F rfl dX1_add_36 ?_
  refine va_put (D := G.1) (ci := 1) (v := .int (iI (σ 1 0 0 + 1))) (ty := .int) (C := RX1) (T := TX1) (N := 5) F.1 F.2.1 F.2.2.2.2 iX1 tyX1 tyX1_ok nmX1 F.2.2.2.1 hK hP hD hS 0 rfl rfl 4 (by decide) f24 (fun _ h9 => h9) rfl (by decide +kernel) rfl rfl (Nat.le_of_ble_eq_true rfl) dX1_add_37 (fun H locs hP hD hS => ?_)
  have hP : gP G ([(B 0, .inr (1, [.ref (B 1), .ref (B 2), .ref (B 3), .ref (B 4), .int (iI (σ 1 0 0 + 1))])), (B 1, .inl (G.2.1, 12, .inl (ia (uI (σ 3 0) n v)))), (B 2, .inl (G.2.1, 12, .inl (ia (uI (σ 4 0) n lo)))), (B 3, .inl (G.2.1, 12, .inl (ia (uI (σ 5 0) n hi)))), (B 4, .inl (G.2.1, 12, .inl (ia (σ 6 0))))]) H := hP
  have hD : va_D AA ([(B 0, .inr (1, [.ref (B 1), .ref (B 2), .ref (B 3), .ref (B 4), .int (iI (σ 1 0 0 + 1))])), (B 1, .inl (G.2.1, 12, .inl (ia (uI (σ 3 0) n v)))), (B 2, .inl (G.2.1, 12, .inl (ia (uI (σ 4 0) n lo)))), (B 3, .inl (G.2.1, 12, .inl (ia (uI (σ 5 0) n hi)))), (B 4, .inl (G.2.1, 12, .inl (ia (σ 6 0))))]) := hD
  refine lv_iload F.1 F.2.1 dX1_add_40 (lv_at hl 0 rfl) ?_
  exact wr_ret F hr hlocks rfl hP hS dX1_add_42

set_option maxHeartbeats 4000000 in
set_option maxRecDepth 100000 in
theorem mX1_replaceVoice (l : Launch) (G : gT) (sz0 : Nat) (B : Nat → Nat) (σ : Sg) (j : Nat) (v : Int) (hj : j < 12) : Met l yX1_replaceVoice wsX1_replaceVoice { frames := 0, cells := 0, slots := 0, locals := 0 } (va_Pc [.ref (B 0), .int (iI (j : Int)), .int (iI v)] (wB G (RW G B σ) sz0)) (wI (σ 3 0 j) G (RW G B (su σ 3 0 j v)) (va_A (RW G B σ) sz0)) 0 0 (va_A (RW G B σ) sz0) := by
  refine wr_start (own := RX1) (cc := cX1_replaceVoice) (mL := 4) (ret := (some .int)) (Qc := fun AA => wI (σ 3 0 j) G (RW G B (su σ 3 0 j v)) AA) (by decide) rfl rfl (Nat.le_of_ble_eq_true rfl) ?_
  intro pP eE sS mM args bB meth cC ls AA F hr hlocks hin hK hsz0 hP hD hS hA hl
  have iX1 : ∀ x ∈ wsX10, x ∈ wsX1_replaceVoice := by decide +kernel
  have f9 := k_cond F (w := .fieldLink RX1 9 "ChoirPlanner$Roster" "voices" "[I") (by decide +kernel)
  have hl : lv_has ls 4 [(0, .ref (B 0)), (1, .int (iI (j : Int))), (2, .int (iI v))] := hl
  refine lv_aload_n F.1 F.2.1 dX1_replaceVoice_0 rfl (lv_at hl 0 rfl) ?_
  refine k_get F hK hP iX1 0 rfl rfl 0 (by decide) f9 rfl rfl dX1_replaceVoice_1 ?_
  refine lv_iload_n F.1 F.2.1 dX1_replaceVoice_4 rfl (lv_at hl 1 rfl) ?_
  refine k_iald F hK hP 1 rfl j (by omega) (by omega) (by decide) rfl dX1_replaceVoice_5 ?_
  refine lv_istore_n (lv' := [(3, .int (iI ((σ 3 0) j))), (0, .ref (B 0)), (1, .int (iI (j : Int))), (2, .int (iI v))]) F.1 F.2.1 dX1_replaceVoice_6 rfl hl (by decide) rfl (fun ls hl => ?_)
  refine lv_aload_n F.1 F.2.1 dX1_replaceVoice_7 rfl (lv_at hl 1 rfl) ?_
  refine k_get F hK hP iX1 0 rfl rfl 0 (by decide) f9 rfl rfl dX1_replaceVoice_8 ?_
  refine lv_iload_n F.1 F.2.1 dX1_replaceVoice_11 rfl (lv_at hl 2 rfl) ?_
  refine lv_iload_n F.1 F.2.1 dX1_replaceVoice_12 rfl (lv_at hl 3 rfl) ?_
  refine k_iast F hK hP hD hS 1 rfl j (by omega) (by omega) (by decide) dX1_replaceVoice_13 (fun H locs hP hD hS => ?_)
  have hP : gP G ([(B 0, .inr (1, [.ref (B 1), .ref (B 2), .ref (B 3), .ref (B 4), .int (iI (σ 1 0 0))])), (B 1, .inl (G.2.1, 12, .inl (ia (uI (σ 3 0) j v)))), (B 2, .inl (G.2.1, 12, .inl (ia (σ 4 0)))), (B 3, .inl (G.2.1, 12, .inl (ia (σ 5 0)))), (B 4, .inl (G.2.1, 12, .inl (ia (σ 6 0))))]) H := hP
  have hD : va_D AA ([(B 0, .inr (1, [.ref (B 1), .ref (B 2), .ref (B 3), .ref (B 4), .int (iI (σ 1 0 0))])), (B 1, .inl (G.2.1, 12, .inl (ia (uI (σ 3 0) j v)))), (B 2, .inl (G.2.1, 12, .inl (ia (σ 4 0)))), (B 3, .inl (G.2.1, 12, .inl (ia (σ 5 0)))), (B 4, .inl (G.2.1, 12, .inl (ia (σ 6 0))))]) := hD
  refine lv_iload_n F.1 F.2.1 dX1_replaceVoice_14 rfl (lv_at hl 0 rfl) ?_
  exact wr_ret F hr hlocks rfl hP hS dX1_replaceVoice_15

set_option maxHeartbeats 4000000 in
set_option maxRecDepth 100000 in
theorem mX1_putThere (l : Launch) (G : gT) (sz0 : Nat) (B : Nat → Nat) (σ : Sg) (j : Nat) (d t : Int) (hj : j < 12) (ht : t = 0 ∨ t = 1) : Met l yX1_putThere wsX1_putThere { frames := 0, cells := 0, slots := 0, locals := 0 } (va_Pc [.ref (B 0), .int (iI (j : Int)), .int (iI d), .int (iI t)] (wB G (RW G B σ) sz0)) (wV G (RW G B (su σ 6 0 j (if t = 0 then orI (σ 6 0 j) (shlI 1 d) else andI (σ 6 0 j) (xorI (shlI 1 d) (-1))))) (va_A (RW G B σ) sz0)) 0 0 (va_A (RW G B σ) sz0) := by
  refine wr_start (own := RX1) (cc := cX1_putThere) (mL := 5) (ret := none) (Qc := fun AA => wV G (RW G B (su σ 6 0 j (if t = 0 then orI (σ 6 0 j) (shlI 1 d) else andI (σ 6 0 j) (xorI (shlI 1 d) (-1))))) AA) (by decide) rfl rfl (Nat.le_of_ble_eq_true rfl) ?_
  intro pP eE sS mM args bB meth cC ls AA F hr hlocks hin hK hsz0 hP hD hS hA hl
  have iX1 : ∀ x ∈ wsX10, x ∈ wsX1_putThere := by decide +kernel
  have f21 := k_cond F (w := .fieldLink RX1 21 "ChoirPlanner$Roster" "away" "[I") (by decide +kernel)
  have hl : lv_has ls 5 [(0, .ref (B 0)), (1, .int (iI (j : Int))), (2, .int (iI d)), (3, .int (iI t))] := hl
  refine k_iconst F dX1_putThere_0 ?_
  refine lv_iload_n F.1 F.2.1 dX1_putThere_1 rfl (lv_at hl 2 rfl) ?_
  refine k_ishl F dX1_putThere_2 ?_
  refine lv_istore (lv' := [(4, .int (iI (shlI 1 d))), (0, .ref (B 0)), (1, .int (iI (j : Int))), (2, .int (iI d)), (3, .int (iI t))]) F.1 F.2.1 dX1_putThere_3 hl (by decide) rfl (fun ls hl => ?_)
  refine lv_aload_n F.1 F.2.1 dX1_putThere_5 rfl (lv_at hl 1 rfl) ?_
  refine k_get F hK hP iX1 0 rfl rfl 3 (by decide) f21 rfl rfl dX1_putThere_6 ?_
  refine lv_iload_n F.1 F.2.1 dX1_putThere_9 rfl (lv_at hl 2 rfl) ?_
  refine lv_iload_n F.1 F.2.1 dX1_putThere_10 rfl (lv_at hl 4 rfl) ?_
  refine k_if_eq F (tgt := 28) dX1_putThere_11 (by decide) (by omega) (fun c_1 => ?_) (fun c_1 => ?_)
  · skip
    refine lv_aload_n F.1 F.2.1 dX1_putThere_28 rfl (lv_at hl 1 rfl) ?_
    refine k_get F hK hP iX1 0 rfl rfl 3 (by decide) f21 rfl rfl dX1_putThere_29 ?_
    refine lv_iload_n F.1 F.2.1 dX1_putThere_32 rfl (lv_at hl 2 rfl) ?_
    refine k_iald F hK hP 4 rfl j (by omega) (by omega) (by decide) rfl dX1_putThere_33 ?_
    refine lv_iload F.1 F.2.1 dX1_putThere_34 (lv_at hl 0 rfl) ?_
    refine k_ior F dX1_putThere_36 ?_
    refine k_iast F hK hP hD hS 4 rfl j (by omega) (by omega) (by decide) dX1_putThere_37 (fun H locs hP hD hS => ?_)
    have hP : gP G ([(B 0, .inr (1, [.ref (B 1), .ref (B 2), .ref (B 3), .ref (B 4), .int (iI (σ 1 0 0))])), (B 1, .inl (G.2.1, 12, .inl (ia (σ 3 0)))), (B 2, .inl (G.2.1, 12, .inl (ia (σ 4 0)))), (B 3, .inl (G.2.1, 12, .inl (ia (σ 5 0)))), (B 4, .inl (G.2.1, 12, .inl (ia (uI (σ 6 0) j (orI ((σ 6 0) j) (shlI 1 d))))))]) H := hP
    have hD : va_D AA ([(B 0, .inr (1, [.ref (B 1), .ref (B 2), .ref (B 3), .ref (B 4), .int (iI (σ 1 0 0))])), (B 1, .inl (G.2.1, 12, .inl (ia (σ 3 0)))), (B 2, .inl (G.2.1, 12, .inl (ia (σ 4 0)))), (B 3, .inl (G.2.1, 12, .inl (ia (σ 5 0)))), (B 4, .inl (G.2.1, 12, .inl (ia (uI (σ 6 0) j (orI ((σ 6 0) j) (shlI 1 d))))))]) := hD
    exact wr_vret F hr hlocks (by first | (rw [if_pos (by assumption)]; exact hP) | (rw [if_neg (by assumption)]; exact hP)) hS dX1_putThere_38
  · skip
    refine lv_aload_n F.1 F.2.1 dX1_putThere_14 rfl (lv_at hl 1 rfl) ?_
    refine k_get F hK hP iX1 0 rfl rfl 3 (by decide) f21 rfl rfl dX1_putThere_15 ?_
    refine lv_iload_n F.1 F.2.1 dX1_putThere_18 rfl (lv_at hl 2 rfl) ?_
    refine k_iald F hK hP 4 rfl j (by omega) (by omega) (by decide) rfl dX1_putThere_19 ?_
    refine lv_iload F.1 F.2.1 dX1_putThere_20 (lv_at hl 0 rfl) ?_
    refine k_iconst F dX1_putThere_22 ?_
    refine k_ixor F dX1_putThere_23 ?_
    refine k_iand F dX1_putThere_24 ?_
    refine lv_goto (tgt := 37) F.1 F.2.1 dX1_putThere_25 (by decide) ?_
    refine k_iast F hK hP hD hS 4 rfl j (by omega) (by omega) (by decide) dX1_putThere_37 (fun H locs hP hD hS => ?_)
    have hP : gP G ([(B 0, .inr (1, [.ref (B 1), .ref (B 2), .ref (B 3), .ref (B 4), .int (iI (σ 1 0 0))])), (B 1, .inl (G.2.1, 12, .inl (ia (σ 3 0)))), (B 2, .inl (G.2.1, 12, .inl (ia (σ 4 0)))), (B 3, .inl (G.2.1, 12, .inl (ia (σ 5 0)))), (B 4, .inl (G.2.1, 12, .inl (ia (uI (σ 6 0) j (andI ((σ 6 0) j) (xorI (shlI 1 d) (-1)))))))]) H := hP
    have hD : va_D AA ([(B 0, .inr (1, [.ref (B 1), .ref (B 2), .ref (B 3), .ref (B 4), .int (iI (σ 1 0 0))])), (B 1, .inl (G.2.1, 12, .inl (ia (σ 3 0)))), (B 2, .inl (G.2.1, 12, .inl (ia (σ 4 0)))), (B 3, .inl (G.2.1, 12, .inl (ia (σ 5 0)))), (B 4, .inl (G.2.1, 12, .inl (ia (uI (σ 6 0) j (andI ((σ 6 0) j) (xorI (shlI 1 d) (-1)))))))]) := hD
    exact wr_vret F hr hlocks (by first | (rw [if_pos (by assumption)]; exact hP) | (rw [if_neg (by assumption)]; exact hP)) hS dX1_putThere_38
