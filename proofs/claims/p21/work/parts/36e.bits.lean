set_option maxHeartbeats 4000000 in
set_option maxRecDepth 100000 in
theorem mL_bits (l : Launch) (G : gT) (w : va_W) (s0 : Nat) (hs : s0 < 64) : Met l yL_bits wsL_bits { frames := 0, cells := 0, slots := 0, locals := 0 } (va_Pc [.int (iI (s0 : Int))] (rB G (w))) (oI ((bct s0 : Int))) 0 0 (fun _ => False) := by
  refine rd_start (own := RL) (cc := cL_bits) (mL := 3) (ret := (some .int)) (by decide) rfl rfl (Nat.le_of_ble_eq_true rfl) ?_
  intro pP eE sS mM args bB meth cC ls F hr hlocks hP hK hl
  have hl : lv_has ls 3 [(0, .int (iI (s0 : Int)))] := hl
  refine k_iconst F dL_bits_0 ?_
  refine lv_istore_n (lv' := [(1, .int (iI 0)), (0, .int (iI (s0 : Int)))]) F.1 F.2.1 dL_bits_1 rfl hl (by decide) rfl (fun ls hl => ?_)
  refine lv_iload_n F.1 F.2.1 dL_bits_2 rfl (lv_at hl 1 rfl) ?_
  refine lv_istore_n (lv' := [(2, .int (iI (s0 : Int))), (1, .int (iI 0)), (0, .int (iI (s0 : Int)))]) F.1 F.2.1 dL_bits_3 rfl hl (by decide) rfl (fun ls hl => ?_)
  have J_1 : ∀ r : Nat, r ≤ (bct s0) → ∀ ls : Array Slot, lv_has ls 3 [(1, .int (iI (r : Int))), (2, .int (iI (rst s0 r))), (0, .int (iI (s0 : Int)))] → W pP l eE ({ frames := 0, cells := 0, slots := 0, locals := 0 }) sS mM args bB meth cC sS.heap [] 0 0 (MQ bB (oI ((bct s0 : Int))) args sS 0 0 (fun _ => False)) (F0 mM 4 ls []) := by
    refine lp_up ((bct s0)) ?_ ?_
    · intro ls hl
      have hb := (rst_ok s0 hs).1
      refine lv_iload_n F.1 F.2.1 dL_bits_4 rfl (lv_at hl 1 rfl) ?_
      refine k_if_eq F (tgt := 20) dL_bits_5 (by decide) (rst_rg s0 hs _) (fun c_3 => ?_) (fun c_3 => absurd c_3 (by omega))
      refine lv_iload_n F.1 F.2.1 dL_bits_20 rfl (lv_at hl 0 rfl) ?_
      exact k_ret F hr hlocks rfl dL_bits_21
    · intro r hk9 ih ls hl
      have hb := (rst_ok s0 hs).2 r (by have := bct_6 s0; omega) hk9
      refine lv_iload_n F.1 F.2.1 dL_bits_4 rfl (lv_at hl 1 rfl) ?_
      refine k_if_eq F (tgt := 20) dL_bits_5 (by decide) (rst_rg s0 hs _) (fun c_4 => absurd c_4 (by omega)) (fun c_4 => ?_)
      refine lv_iinc (v := iI ((r : Int) + 1)) (lv' := [(1, .int (iI ((r : Int) + 1))), (2, .int (iI (rst s0 r))), (0, .int (iI (s0 : Int)))]) F.1 F.2.1 dL_bits_8 hl (k := 0) rfl (iI_add _ _) (by decide) rfl (fun ls hl => ?_)
      refine lv_iload_n F.1 F.2.1 dL_bits_11 rfl (lv_at hl 1 rfl) ?_
      refine lv_iload_n F.1 F.2.1 dL_bits_12 rfl (lv_at hl 1 rfl) ?_
      refine k_iconst F dL_bits_13 ?_
      refine k_isub F rfl dL_bits_14 ?_
      refine k_iand F dL_bits_15 ?_
      refine lv_istore_n (lv' := [(2, .int (iI (andI (rst s0 r) (rst s0 r - 1)))), (1, .int (iI ((r : Int) + 1))), (0, .int (iI (s0 : Int)))]) F.1 F.2.1 dL_bits_16 rfl hl (by decide) rfl (fun ls hl => ?_)
      refine lv_goto (tgt := 4) F.1 F.2.1 dL_bits_17 (by decide) ?_
      have e_5 : (((r : Int) + 1) : Int) = ((r + 1 : Nat) : Int) := rfl
      have e_6 : ((andI (rst s0 r) (rst s0 r - 1)) : Int) = rst s0 (r + 1) := rfl
      exact ih _ (lv_to (lv_to (lv_sub hl [1, 0, 2] rfl) (congrArg (fun x9 : Int => ([(1, .int (iI x9)), (2, .int (iI (andI (rst s0 r) (rst s0 r - 1)))), (0, .int (iI (s0 : Int)))] : List (Nat × Value))) e_5)) (congrArg (fun x9 : Int => ([(1, .int (iI ((r + 1 : Nat) : Int))), (2, .int (iI x9)), (0, .int (iI (s0 : Int)))] : List (Nat × Value))) e_6))
  have e_7 : (0 : Int) = ((0 : Nat) : Int) := rfl
  have e_8 : ((s0 : Int) : Int) = rst s0 0 := rfl
  exact J_1 0 (by omega) _ (lv_to (lv_to (lv_sub hl [1, 0, 2] rfl) (congrArg (fun x9 : Int => ([(1, .int (iI x9)), (2, .int (iI (s0 : Int))), (0, .int (iI (s0 : Int)))] : List (Nat × Value))) e_7)) (congrArg (fun x9 : Int => ([(1, .int (iI ((0 : Nat) : Int))), (2, .int (iI x9)), (0, .int (iI (s0 : Int)))] : List (Nat × Value))) e_8))
abbrev A3 (G : gT) (o n m : Nat) (fl fn fm : Nat → Int) : va_W := [(o, .inl (G.2.1, 6, .inl (ia fl))), (n, .inl (G.2.1, 3, .inl (ia fn))), (m, .inl (G.2.1, 6, .inl (ia fm)))]
theorem dt_two (σ : Sg) (i n : Nat) {d : Int} (hd : 0 ≤ d ∧ d ≤ 30) : (shS σ i n d 13 = 99 ∧ dtS σ i n 31 ≤ 30) ∨ (shS σ i n d 13 ≠ 99 ∧ 1 ≤ dtS σ i n 31) := by
  have e : ((d.toNat : Nat) : Int) = d := by omega
  by_cases q : shS σ i n d 13 = 99
  · have h := dtS_2 (σ := σ) (i := i) (n := n) (q := d.toNat) (by rw [e]; exact q) 31 (by omega)
    exact Or.inl ⟨q, by omega⟩
  · have h := dtS_1 (σ := σ) (i := i) (n := n) (q := d.toNat) (by rw [e]; exact q) 31 (by omega)
    exact Or.inr ⟨q, h⟩
theorem shl_2 {σ : Sg} (h : 0 ≤ σ 2 0 0 ∧ σ 2 0 0 ≤ 6) : shlI 1 (σ 2 0 0) = ((2 ^ (σ 2 0 0).toNat : Nat) : Int) := by
  have := shl_ok (σ 2 0 0).toNat (by omega)
  rwa [Int.toNat_of_nonneg (by omega)] at this
