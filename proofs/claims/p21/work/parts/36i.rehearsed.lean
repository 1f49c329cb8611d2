set_option maxHeartbeats 8000000 in
set_option maxRecDepth 100000 in
theorem mL_rehearsed (l : Launch) (hfl : l.stackTraces = false) (G : gT) (z0 sz0 : Nat) (B : Nat → Nat) (P : Nat → Nat → Nat) (σ : Sg) (nn am : Nat) (fn fm : Nat → Int) (x : Int) (hx : 0 ≤ x ∧ x < 2147483648) {N : Nat} (hI : Jv σ N) (hN5 : N ≤ 500) (hnf : NF fn σ) (hmf : MF fm σ) : Met l yL_rehearsed wsL_rehearsed { frames := 9, cells := 800, slots := 4800, locals := 200 } (va_Pc [.ref (B 5), .ref nn, .ref am, .int (iI x)] (qB G (A2 G nn am fn fm ++ DW G B P σ) z0 sz0)) (va_Qi (fun (r : Int32) (v : (Nat → Nat → Nat) × Sg) => r = iI 1) (fun v t9 => gP G (A2 G nn am fn fm ++ DW G B v.1 v.2) t9.heap ∧ va_D (va_A (A2 G nn am fn fm ++ DW G B P σ) sz0) (A2 G nn am fn fm ++ DW G B v.1 v.2)) (va_A (A2 G nn am fn fm ++ DW G B P σ) sz0)) 800 4800 (va_A (A2 G nn am fn fm ++ DW G B P σ) sz0) := by
  refine q_start (own := RL) (cc := cL_rehearsed) (mL := 11) (ret := (some .boolean)) (Qc := fun AA => (va_Qi (fun (r : Int32) (v : (Nat → Nat → Nat) × Sg) => r = iI 1) (fun v t9 => gP G (A2 G nn am fn fm ++ DW G B v.1 v.2) t9.heap ∧ va_D AA (A2 G nn am fn fm ++ DW G B v.1 v.2)) AA)) (by decide) rfl rfl (Nat.le_of_ble_eq_true rfl) ?_
  intro pP eE sS mM args bB meth cC ls AA F hr hlocks hz hAz hK hP hD hS hA hl
  have hl : lv_has ls 11 [(0, .ref (B 5)), (1, .ref nn), (2, .ref am), (3, .int (iI x))] := hl
  have hRc : 800 ≤ ({ frames := 9, cells := 800, slots := 4800, locals := 200 } : Room).cells ∧ 4800 ≤ ({ frames := 9, cells := 800, slots := 4800, locals := 200 } : Room).slots := ⟨Nat.le_refl _, Nat.le_refl _⟩
  generalize hRR : ({ frames := 9, cells := 800, slots := 4800, locals := 200 } : Room) = RR at hRc ⊢
  have hRb : RR.frames = 9 ∧ RR.locals = 200 := by rw [← hRR]; exact ⟨rfl, rfl⟩
  have ⟨hb1, hb2, hb8⟩ := Jv_b hI
  refine lv_aload_n F.1 F.2.1 dL_rehearsed_0 rfl (lv_at hl 1 rfl) ?_
  refine k_iconst F dL_rehearsed_1 ?_
  refine k_iald F hK hP 0 rfl 1 rfl (by decide) (by decide) hnf.2.1 dL_rehearsed_2 ?_
  refine k_if_ne F (tgt := 10) dL_rehearsed_3 (by decide) (by omega) (fun c_1 => ?_) (fun c_1 => ?_)
  · skip
    obtain ⟨p, hp⟩ : ∃ p : Nat, x % (σ 2 0 0) = (p : Int) := ⟨(x % (σ 2 0 0)).toNat, by have := Int.emod_nonneg x (b := σ 2 0 0) (by omega); omega⟩
    have hpk : (p : Int) < σ 2 0 0 := by have := Int.emod_lt_of_pos x (b := σ 2 0 0) (by omega); omega
    have h8p := hb8 p
    have h81 := hI.2.2.2.2.2.2.2.1 p (by omega)
    refine lv_iload_n F.1 F.2.1 dL_rehearsed_10 rfl (lv_at hl 3 rfl) ?_
    refine lv_aload_n F.1 F.2.1 dL_rehearsed_11 rfl (lv_at hl 1 rfl) ?_
    refine k_iconst F dL_rehearsed_12 ?_
    refine k_iald F hK hP 0 rfl 1 rfl (by decide) (by decide) hnf.2.1 dL_rehearsed_13 ?_
    refine k_rem F (by omega) (by omega) dL_rehearsed_14 ?_
    rw [show ((x % (σ 2 0 0)) : Int) = (p : Int) from hp]
    refine lv_istore (lv' := [(4, .int (iI (p : Int))), (0, .ref (B 5)), (1, .ref nn), (2, .ref am), (3, .int (iI x))]) F.1 F.2.1 dL_rehearsed_15 hl (by decide) rfl (fun ls hl => ?_)
    refine k_iconst F dL_rehearsed_17 ?_
    refine lv_istore (lv' := [(5, .int (iI 1)), (4, .int (iI (p : Int))), (0, .ref (B 5)), (1, .ref nn), (2, .ref am), (3, .int (iI x))]) F.1 F.2.1 dL_rehearsed_18 hl (by decide) rfl (fun ls hl => ?_)
    refine k_iconst F dL_rehearsed_20 ?_
    refine lv_istore (lv' := [(6, .int (iI 0)), (5, .int (iI 1)), (4, .int (iI (p : Int))), (0, .ref (B 5)), (1, .ref nn), (2, .ref am), (3, .int (iI x))]) F.1 F.2.1 dL_rehearsed_21 hl (by decide) rfl (fun ls hl => ?_)
    have L23 : ∀ t : Nat, t ≤ 6 → ∀ (P : Nat → Nat → Nat) (H : Heap) (locs : List Loc), gP G (A2 G nn am fn fm ++ DW G B P ((rhS σ p t))) H → va_D AA (A2 G nn am fn fm ++ DW G B P ((rhS σ p t))) → va_S AA sS.heap H locs → ∀ ls : Array Slot, lv_has ls 11 [(6, .int (iI (t : Int))), (5, .int (iI 1)), (4, .int (iI (p : Int))), (0, .ref (B 5)), (1, .ref nn), (2, .ref am), (3, .int (iI x))] → W pP l eE RR sS mM args bB meth cC H locs (120 * t + 0) (720 * t + 0) (MQ bB (va_Qi (fun (r : Int32) (v : (Nat → Nat → Nat) × Sg) => r = iI 1) (fun v t9 => gP G (A2 G nn am fn fm ++ DW G B v.1 v.2) t9.heap ∧ va_D AA (A2 G nn am fn fm ++ DW G B v.1 v.2)) AA) args sS 800 4800 AA) (F0 mM 23 ls []) := by
      refine lp_up (6) ?_ ?_
      · intro   P H locs hP hD hS ls hl
        refine lv_iload F.1 F.2.1 dL_rehearsed_23 (lv_at hl 0 rfl) ?_
        refine k_bipush F dL_rehearsed_25 (by decide +kernel) ?_
        refine k_icmp_ge F (tgt := 151) dL_rehearsed_27 (by decide) (by omega) (by omega) (fun c_2 => ?_) (fun c_2 => absurd c_2 (by omega))
        refine lv_iload F.1 F.2.1 dL_rehearsed_151 (lv_at hl 1 rfl) ?_
        refine W.widen (k := 800) (n := 4800) (by omega) (by omega) ?_
        exact W.zret F.1 F.2.1 hr (by decide +kernel) (fun t9 ht _ => ⟨⟨_, (P, (rhS σ p 6)), rfl, rfl, by rw [ht]; exact hP, hD⟩, hS.F ht⟩) hS.2.2 dL_rehearsed_153 hlocks
      · intro t hk9_23 ih_23   P H locs hP hD hS ls hl
        have hIt : Jv (rhS σ p t) (N + 1) := Jv_rhS hI hN5 hpk (by omega)
        have hIt1 : Jv (rhS σ p (t + 1)) (N + 1) := Jv_rhS hI hN5 hpk (by omega)
        have e2 : (rhS σ p t) 2 0 0 = σ 2 0 0 := by rw [rhS_k t 2 (by decide)]
        have e8 : (rhS σ p t) 8 p 0 = σ 8 p 0 := by rw [rhS_k t 8 (by decide)]
        have hpr : ∀ c, 0 ≤ (rhS σ p t) 10 p c := fun c => (hIt.2.2.2.2.2.2.2.2.2.2.2.2.1 p c).1
        refine lv_iload F.1 F.2.1 dL_rehearsed_23 (lv_at hl 0 rfl) ?_
        refine k_bipush F dL_rehearsed_25 (by decide +kernel) ?_
        refine k_icmp_ge F (tgt := 151) dL_rehearsed_27 (by decide) (by omega) (by omega) (fun c_3 => absurd c_3 (by omega)) (fun c_3 => ?_)
        refine lv_iload F.1 F.2.1 dL_rehearsed_30 (lv_at hl 1 rfl) ?_
        refine k_if_eq F (tgt := 151) dL_rehearsed_32 (by decide) (by omega) (fun c_4 => absurd c_4 (by omega)) (fun c_4 => ?_)
        refine lv_aload_n F.1 F.2.1 dL_rehearsed_35 rfl (lv_at hl 4 rfl) ?_
        refine k_iconst F dL_rehearsed_36 ?_
        refine k_iald F hK hP 0 rfl 1 rfl (by decide) (by decide) hnf.2.1 dL_rehearsed_37 ?_
        refine k_if_le F (tgt := 151) dL_rehearsed_38 (by decide) (by omega) (fun c_5 => absurd c_5 (by omega)) (fun c_5 => ?_)
        refine lv_aload_n F.1 F.2.1 dL_rehearsed_41 rfl (lv_at hl 3 rfl) ?_
        refine lv_iload F.1 F.2.1 dL_rehearsed_42 (lv_at hl 2 rfl) ?_
        refine j_call F (n := 2) (wr := A2 G nn am fn fm) (B := B) (P := P) (σ := (rhS σ p t)) (τ' := (rhS σ p t)) (z' := ((wkq (rhS σ p t) p : Nat) : Int)) (mL_weakest l hfl G z0 _ B P (rhS σ p t) (p : Int) (by omega) hIt (by omega)) (an_0 (by unfold kPic; exact if_pos (show 0 ≤ (p : Int) ∧ (p : Int) ≤ (rhS σ p t) 2 0 0 - 1 by omega))) rfl gL_rehearsed_L_weakest rfl rfl rfl (by decide +kernel) ⟨by rw [hRb.1]; exact Nat.le_of_ble_eq_true rfl, by rw [hRb.2]; exact Nat.le_of_ble_eq_true rfl⟩ hK hP hD hz hAz hS hA rfl rfl hl.1 (Nat.le_of_ble_eq_true rfl) dL_rehearsed_44 ⟨by omega, by omega⟩ (fun P H locs hP hD hS => ?_)
        have hwk := wkq_lt (σ := (rhS σ p t)) (i := p) (by omega)
        refine lv_istore (lv' := [(7, .int (iI ((wkq (rhS σ p t) p : Nat) : Int))), (6, .int (iI (t : Int))), (5, .int (iI 1)), (4, .int (iI (p : Int))), (0, .ref (B 5)), (1, .ref nn), (2, .ref am), (3, .int (iI x))]) F.1 F.2.1 dL_rehearsed_47 hl (by decide) rfl (fun ls hl => ?_)
        refine lv_aload_n F.1 F.2.1 dL_rehearsed_49 rfl (lv_at hl 4 rfl) ?_
        refine lv_iload F.1 F.2.1 dL_rehearsed_50 (lv_at hl 3 rfl) ?_
        refine lv_iload F.1 F.2.1 dL_rehearsed_52 (lv_at hl 0 rfl) ?_
        refine j_call F (n := 3) (wr := A2 G nn am fn fm) (B := B) (P := P) (σ := (rhS σ p t)) (τ' := (rhS σ p t)) (z' := (wkS (rhS σ p t) p (wkq (rhS σ p t) p))) (mL_weakness l hfl G z0 _ B P (rhS σ p t) (p : Int) ((wkq (rhS σ p t) p : Nat) : Int) (by omega) (by omega) hIt (by omega)) (an_0 (by unfold kFat; exact if_pos (show 0 ≤ (p : Int) ∧ (p : Int) ≤ (rhS σ p t) 2 0 0 - 1 ∧ 0 ≤ ((wkq (rhS σ p t) p : Nat) : Int) ∧ ((wkq (rhS σ p t) p : Nat) : Int) ≤ (rhS σ p t) 8 p 0 - 1 by omega))) rfl gL_rehearsed_L_weakness rfl rfl rfl (by decide +kernel) ⟨by rw [hRb.1]; exact Nat.le_of_ble_eq_true rfl, by rw [hRb.2]; exact Nat.le_of_ble_eq_true rfl⟩ hK hP hD hz hAz hS hA rfl rfl hl.1 (Nat.le_of_ble_eq_true rfl) dL_rehearsed_54 ⟨by omega, by omega⟩ (fun P H locs hP hD hS => ?_)
        have rwk := wkS_rg (hpr (wkq (rhS σ p t) p))
        refine lv_istore (lv' := [(8, .int (iI (wkS (rhS σ p t) p (wkq (rhS σ p t) p)))), (7, .int (iI ((wkq (rhS σ p t) p : Nat) : Int))), (6, .int (iI (t : Int))), (5, .int (iI 1)), (4, .int (iI (p : Int))), (0, .ref (B 5)), (1, .ref nn), (2, .ref am), (3, .int (iI x))]) F.1 F.2.1 dL_rehearsed_57 hl (by decide) rfl (fun ls hl => ?_)
        refine k_iconst F dL_rehearsed_59 ?_
        refine lv_istore (lv' := [(9, .int (iI 0)), (8, .int (iI (wkS (rhS σ p t) p (wkq (rhS σ p t) p)))), (7, .int (iI ((wkq (rhS σ p t) p : Nat) : Int))), (6, .int (iI (t : Int))), (5, .int (iI 1)), (4, .int (iI (p : Int))), (0, .ref (B 5)), (1, .ref nn), (2, .ref am), (3, .int (iI x))]) F.1 F.2.1 dL_rehearsed_60 hl (by decide) rfl (fun ls hl => ?_)
        refine k_iconst F dL_rehearsed_62 ?_
        refine lv_istore (lv' := [(10, .int (iI 0)), (9, .int (iI 0)), (8, .int (iI (wkS (rhS σ p t) p (wkq (rhS σ p t) p)))), (7, .int (iI ((wkq (rhS σ p t) p : Nat) : Int))), (6, .int (iI (t : Int))), (5, .int (iI 1)), (4, .int (iI (p : Int))), (0, .ref (B 5)), (1, .ref nn), (2, .ref am), (3, .int (iI x))]) F.1 F.2.1 dL_rehearsed_63 hl (by decide) rfl (fun ls hl => ?_)
        have L65 : ∀ q : Nat, q ≤ (σ 8 p 0).toNat → ∀ (P : Nat → Nat → Nat) (H : Heap) (locs : List Loc), gP G (A2 G nn am fn fm ++ DW G B P ((rhS σ p t))) H → va_D AA (A2 G nn am fn fm ++ DW G B P ((rhS σ p t))) → va_S AA sS.heap H locs → ∀ ls : Array Slot, lv_has ls 11 [(10, .int (iI (q : Int))), (9, .int (iI (wsm (rhS σ p t) p q))), (8, .int (iI (wkS (rhS σ p t) p (wkq (rhS σ p t) p)))), (7, .int (iI ((wkq (rhS σ p t) p : Nat) : Int))), (6, .int (iI (t : Int))), (5, .int (iI 1)), (4, .int (iI (p : Int))), (0, .ref (B 5)), (1, .ref nn), (2, .ref am), (3, .int (iI x))] → W pP l eE RR sS mM args bB meth cC H locs (120 * t + 6 * q + 12) (720 * t + 36 * q + 72) (MQ bB (va_Qi (fun (r : Int32) (v : (Nat → Nat → Nat) × Sg) => r = iI 1) (fun v t9 => gP G (A2 G nn am fn fm ++ DW G B v.1 v.2) t9.heap ∧ va_D AA (A2 G nn am fn fm ++ DW G B v.1 v.2)) AA) args sS 800 4800 AA) (F0 mM 65 ls []) := by
          refine lp_up ((σ 8 p 0).toNat) ?_ ?_
          · intro   P H locs hP hD hS ls hl
            refine lv_iload F.1 F.2.1 dL_rehearsed_65 (lv_at hl 0 rfl) ?_
            refine lv_aload_n F.1 F.2.1 dL_rehearsed_67 rfl (lv_at hl 9 rfl) ?_
            refine lv_iload F.1 F.2.1 dL_rehearsed_68 (lv_at hl 6 rfl) ?_
            refine k_iald F hK hP 1 rfl p (by omega) (by omega) (by decide) (hmf p (by omega)) dL_rehearsed_70 ?_
            refine k_icmp_ge F (tgt := 93) dL_rehearsed_71 (by decide) (by omega) (by omega) (fun c_6 => ?_) (fun c_6 => absurd c_6 (by omega))
            refine lv_iload F.1 F.2.1 dL_rehearsed_93 (lv_at hl 2 rfl) ?_
            refine k_iconst F dL_rehearsed_95 ?_
            have J105 : ∀ le : Int, le = (if (wkS (rhS σ p t) p (wkq (rhS σ p t) p)) < 4 then (wkS (rhS σ p t) p (wkq (rhS σ p t) p)) else 4) → ∀ (P : Nat → Nat → Nat) (H : Heap) (locs : List Loc), gP G (A2 G nn am fn fm ++ DW G B P ((rhS σ p t))) H → va_D AA (A2 G nn am fn fm ++ DW G B P ((rhS σ p t))) → va_S AA sS.heap H locs → ∀ ls : Array Slot, lv_has ls 11 [(10, .int (iI (((σ 8 p 0).toNat : Nat) : Int))), (9, .int (iI (wsm (rhS σ p t) p ((σ 8 p 0).toNat)))), (8, .int (iI (wkS (rhS σ p t) p (wkq (rhS σ p t) p)))), (7, .int (iI ((wkq (rhS σ p t) p : Nat) : Int))), (6, .int (iI (t : Int))), (5, .int (iI 1)), (4, .int (iI (p : Int))), (0, .ref (B 5)), (1, .ref nn), (2, .ref am), (3, .int (iI x))] → W pP l eE RR sS mM args bB meth cC H locs (120 * t + 6 * ((σ 8 p 0).toNat) + 12) (720 * t + 36 * ((σ 8 p 0).toNat) + 72) (MQ bB (va_Qi (fun (r : Int32) (v : (Nat → Nat → Nat) × Sg) => r = iI 1) (fun v t9 => gP G (A2 G nn am fn fm ++ DW G B v.1 v.2) t9.heap ∧ va_D AA (A2 G nn am fn fm ++ DW G B v.1 v.2)) AA) args sS 800 4800 AA) (F0 mM 105 ls [.int (iI le)]) := by
              intro le hj105_0 P H locs hP hD hS ls hl
              refine lv_istore (lv' := [(10, .int (iI le)), (9, .int (iI (wsm (rhS σ p t) p ((σ 8 p 0).toNat)))), (8, .int (iI (wkS (rhS σ p t) p (wkq (rhS σ p t) p)))), (7, .int (iI ((wkq (rhS σ p t) p : Nat) : Int))), (6, .int (iI (t : Int))), (5, .int (iI 1)), (4, .int (iI (p : Int))), (0, .ref (B 5)), (1, .ref nn), (2, .ref am), (3, .int (iI x))]) F.1 F.2.1 dL_rehearsed_105 hl (by decide) rfl (fun ls hl => ?_)
              refine lv_aload_n F.1 F.2.1 dL_rehearsed_107 rfl (lv_at hl 7 rfl) ?_
              refine lv_iload F.1 F.2.1 dL_rehearsed_108 (lv_at hl 6 rfl) ?_
              refine k_iconst F dL_rehearsed_110 ?_
              refine j_call F (n := 3) (wr := A2 G nn am fn fm) (B := B) (P := P) (σ := (rhS σ p t)) (τ' := (rhS σ p (t + 1))) (z' := ((wsm (rhS σ p t) p (σ 8 p 0).toNat) - le)) (mL_rehearses l hfl G z0 _ B P (rhS σ p t) (p : Int) 1 (by omega) (by omega) hIt (by omega)) ((an_0 (by unfold kReh; rw [if_neg (fun z => z (show 0 ≤ (p : Int) ∧ (p : Int) ≤ (rhS σ p t) 2 0 0 - 1 by omega)), if_pos (by omega)])).trans (by show wsm (rh1 (rhS σ p t) p) p ((rh1 (rhS σ p t) p) 8 p 0).toNat = _; rw [rh1_8, e8, rh1_ws, if_pos (by omega), ← hj105_0])) (stt_0 (by unfold kReh; rw [if_neg (fun z => z (show 0 ≤ (p : Int) ∧ (p : Int) ≤ (rhS σ p t) 2 0 0 - 1 by omega)), if_pos (by omega)])) gL_rehearsed_L_rehearses rfl rfl rfl (by decide +kernel) ⟨by rw [hRb.1]; exact Nat.le_of_ble_eq_true rfl, by rw [hRb.2]; exact Nat.le_of_ble_eq_true rfl⟩ hK hP hD hz hAz hS hA rfl rfl hl.1 (Nat.le_of_ble_eq_true rfl) dL_rehearsed_111 ⟨by omega, by omega⟩ (fun P H locs hP hD hS => ?_)
              skip
              have e21 : (rhS σ p (t + 1)) 2 0 0 = σ 2 0 0 := by rw [rhS_k (t + 1) 2 (by decide)]
              have e81 : (rhS σ p (t + 1)) 8 p 0 = σ 8 p 0 := by rw [rhS_k (t + 1) 8 (by decide)]
              refine lv_iload F.1 F.2.1 dL_rehearsed_114 (lv_at hl 1 rfl) ?_
              refine lv_iload F.1 F.2.1 dL_rehearsed_116 (lv_at hl 0 rfl) ?_
              refine k_isub F rfl dL_rehearsed_118 ?_
              refine k_same_ne F (tgt := 142) dL_rehearsed_119 (by decide) ?_
              refine lv_aload_n F.1 F.2.1 dL_rehearsed_122 rfl (lv_at hl 7 rfl) ?_
              refine lv_iload F.1 F.2.1 dL_rehearsed_123 (lv_at hl 6 rfl) ?_
              refine lv_iload F.1 F.2.1 dL_rehearsed_125 (lv_at hl 3 rfl) ?_
              refine j_call F (n := 3) (wr := A2 G nn am fn fm) (B := B) (P := P) (σ := (rhS σ p (t + 1))) (τ' := (rhS σ p (t + 1))) (z' := ((wkS (rhS σ p t) p (wkq (rhS σ p t) p)) - le)) (mL_weakness l hfl G z0 _ B P (rhS σ p (t + 1)) (p : Int) ((wkq (rhS σ p t) p : Nat) : Int) (by omega) (by omega) hIt1 (by omega)) ((an_0 (by unfold kFat; exact if_pos (show 0 ≤ (p : Int) ∧ (p : Int) ≤ (rhS σ p (t + 1)) 2 0 0 - 1 ∧ 0 ≤ ((wkq (rhS σ p t) p : Nat) : Int) ∧ ((wkq (rhS σ p t) p : Nat) : Int) ≤ (rhS σ p (t + 1)) 8 p 0 - 1 by omega))).trans (by show wkS (rh1 (rhS σ p t) p) p (wkq (rhS σ p t) p) = _; rw [rh1_wk, if_pos rfl, hj105_0]; split <;> omega)) rfl gL_rehearsed_L_weakness rfl rfl rfl (by decide +kernel) ⟨by rw [hRb.1]; exact Nat.le_of_ble_eq_true rfl, by rw [hRb.2]; exact Nat.le_of_ble_eq_true rfl⟩ hK hP hD hz hAz hS hA rfl rfl hl.1 (Nat.le_of_ble_eq_true rfl) dL_rehearsed_127 ⟨by omega, by omega⟩ (fun P H locs hP hD hS => ?_)
              refine lv_iload F.1 F.2.1 dL_rehearsed_130 (lv_at hl 2 rfl) ?_
              refine lv_iload F.1 F.2.1 dL_rehearsed_132 (lv_at hl 0 rfl) ?_
              refine k_isub F rfl dL_rehearsed_134 ?_
              refine k_same_ne F (tgt := 142) dL_rehearsed_135 (by decide) ?_
              refine k_iconst F dL_rehearsed_138 ?_
              refine lv_goto (tgt := 143) F.1 F.2.1 dL_rehearsed_139 (by decide) ?_
              refine lv_istore (lv' := [(5, .int (iI 1)), (10, .int (iI le)), (9, .int (iI (wsm (rhS σ p t) p ((σ 8 p 0).toNat)))), (8, .int (iI (wkS (rhS σ p t) p (wkq (rhS σ p t) p)))), (7, .int (iI ((wkq (rhS σ p t) p : Nat) : Int))), (6, .int (iI (t : Int))), (4, .int (iI (p : Int))), (0, .ref (B 5)), (1, .ref nn), (2, .ref am), (3, .int (iI x))]) F.1 F.2.1 dL_rehearsed_143 hl (by decide) rfl (fun ls hl => ?_)
              refine lv_iinc (v := iI ((t : Int) + 1)) (lv' := [(6, .int (iI ((t : Int) + 1))), (5, .int (iI 1)), (10, .int (iI le)), (9, .int (iI (wsm (rhS σ p t) p ((σ 8 p 0).toNat)))), (8, .int (iI (wkS (rhS σ p t) p (wkq (rhS σ p t) p)))), (7, .int (iI ((wkq (rhS σ p t) p : Nat) : Int))), (4, .int (iI (p : Int))), (0, .ref (B 5)), (1, .ref nn), (2, .ref am), (3, .int (iI x))]) F.1 F.2.1 dL_rehearsed_145 hl (k := 5) rfl (iI_add _ _) (by decide) rfl (fun ls hl => ?_)
              refine lv_goto (tgt := 23) F.1 F.2.1 dL_rehearsed_148 (by decide) ?_
              have e_9 : (((t : Int) + 1) : Int) = (((t + 1) : Nat) : Int) := by omega
              refine W.widen (k := (120 * (t + 1) + 0)) (n := (720 * (t + 1) + 0)) (by omega) (by omega) ?_
              exact ih_23  P _ _ hP hD hS _ (lv_to (lv_sub hl [0, 1, 6, 7, 8, 9, 10] rfl) (congrArg (fun x9 : Int => ([(6, .int (iI x9)), (5, .int (iI 1)), (4, .int (iI (p : Int))), (0, .ref (B 5)), (1, .ref nn), (2, .ref am), (3, .int (iI x))] : List (Nat × Value))) e_9))
            refine k_icmp_ge F (tgt := 104) dL_rehearsed_96 (by decide) (by omega) (by omega) (fun c_10 => ?_) (fun c_10 => ?_)
            · skip
              refine k_iconst F dL_rehearsed_104 ?_
              refine W.widen (k := (120 * t + 6 * ((σ 8 p 0).toNat) + 12)) (n := (720 * t + 36 * ((σ 8 p 0).toNat) + 72)) (by omega) (by omega) ?_
              exact J105 4 (by first | rw [if_pos (by omega)] | rw [if_neg (by omega)]) P _ _ hP hD hS _ (lv_sub hl [0, 1, 2, 3, 4, 5, 6, 7, 8, 9, 10] rfl)
            · skip
              refine lv_iload F.1 F.2.1 dL_rehearsed_99 (lv_at hl 2 rfl) ?_
              refine lv_goto (tgt := 105) F.1 F.2.1 dL_rehearsed_101 (by decide) ?_
              refine W.widen (k := (120 * t + 6 * ((σ 8 p 0).toNat) + 12)) (n := (720 * t + 36 * ((σ 8 p 0).toNat) + 72)) (by omega) (by omega) ?_
              exact J105 (wkS (rhS σ p t) p (wkq (rhS σ p t) p)) (by first | rw [if_pos (by omega)] | rw [if_neg (by omega)]) P _ _ hP hD hS _ (lv_sub hl [0, 1, 2, 3, 4, 5, 6, 7, 8, 9, 10] rfl)
          · intro q hk9_65 ih_65   P H locs hP hD hS ls hl
            refine lv_iload F.1 F.2.1 dL_rehearsed_65 (lv_at hl 0 rfl) ?_
            refine lv_aload_n F.1 F.2.1 dL_rehearsed_67 rfl (lv_at hl 9 rfl) ?_
            refine lv_iload F.1 F.2.1 dL_rehearsed_68 (lv_at hl 6 rfl) ?_
            refine k_iald F hK hP 1 rfl p (by omega) (by omega) (by decide) (hmf p (by omega)) dL_rehearsed_70 ?_
            refine k_icmp_ge F (tgt := 93) dL_rehearsed_71 (by decide) (by omega) (by omega) (fun c_11 => absurd c_11 (by omega)) (fun c_11 => ?_)
            refine lv_iload F.1 F.2.1 dL_rehearsed_74 (lv_at hl 1 rfl) ?_
            refine lv_aload_n F.1 F.2.1 dL_rehearsed_76 rfl (lv_at hl 7 rfl) ?_
            refine lv_iload F.1 F.2.1 dL_rehearsed_77 (lv_at hl 6 rfl) ?_
            refine lv_iload F.1 F.2.1 dL_rehearsed_79 (lv_at hl 0 rfl) ?_
            refine j_call F (n := 3) (wr := A2 G nn am fn fm) (B := B) (P := P) (σ := (rhS σ p t)) (τ' := (rhS σ p t)) (z' := (wkS (rhS σ p t) p q)) (mL_weakness l hfl G z0 _ B P (rhS σ p t) (p : Int) (q : Int) (by omega) (by omega) hIt (by omega)) (an_0 (by unfold kFat; exact if_pos (show 0 ≤ (p : Int) ∧ (p : Int) ≤ (rhS σ p t) 2 0 0 - 1 ∧ 0 ≤ (q : Int) ∧ (q : Int) ≤ (rhS σ p t) 8 p 0 - 1 by omega))) rfl gL_rehearsed_L_weakness rfl rfl rfl (by decide +kernel) ⟨by rw [hRb.1]; exact Nat.le_of_ble_eq_true rfl, by rw [hRb.2]; exact Nat.le_of_ble_eq_true rfl⟩ hK hP hD hz hAz hS hA rfl rfl hl.1 (Nat.le_of_ble_eq_true rfl) dL_rehearsed_81 ⟨by omega, by omega⟩ (fun P H locs hP hD hS => ?_)
            refine k_iadd F rfl dL_rehearsed_84 ?_
            refine lv_istore (lv' := [(9, .int (iI ((wsm (rhS σ p t) p q) + (wkS (rhS σ p t) p q)))), (10, .int (iI (q : Int))), (8, .int (iI (wkS (rhS σ p t) p (wkq (rhS σ p t) p)))), (7, .int (iI ((wkq (rhS σ p t) p : Nat) : Int))), (6, .int (iI (t : Int))), (5, .int (iI 1)), (4, .int (iI (p : Int))), (0, .ref (B 5)), (1, .ref nn), (2, .ref am), (3, .int (iI x))]) F.1 F.2.1 dL_rehearsed_85 hl (by decide) rfl (fun ls hl => ?_)
            refine lv_iinc (v := iI ((q : Int) + 1)) (lv' := [(10, .int (iI ((q : Int) + 1))), (9, .int (iI ((wsm (rhS σ p t) p q) + (wkS (rhS σ p t) p q)))), (8, .int (iI (wkS (rhS σ p t) p (wkq (rhS σ p t) p)))), (7, .int (iI ((wkq (rhS σ p t) p : Nat) : Int))), (6, .int (iI (t : Int))), (5, .int (iI 1)), (4, .int (iI (p : Int))), (0, .ref (B 5)), (1, .ref nn), (2, .ref am), (3, .int (iI x))]) F.1 F.2.1 dL_rehearsed_87 hl (k := 1) rfl (iI_add _ _) (by decide) rfl (fun ls hl => ?_)
            refine lv_goto (tgt := 65) F.1 F.2.1 dL_rehearsed_90 (by decide) ?_
            have e_12 : (((q : Int) + 1) : Int) = (((q + 1) : Nat) : Int) := by omega
            have e_13 : (((wsm (rhS σ p t) p q) + (wkS (rhS σ p t) p q)) : Int) = (wsm (rhS σ p t) p (q + 1)) := rfl
            refine W.widen (k := (120 * t + 6 * (q + 1) + 12)) (n := (720 * t + 36 * (q + 1) + 72)) (by omega) (by omega) ?_
            exact ih_65  P _ _ hP hD hS _ (lv_to (lv_to (lv_sub hl [0, 1, 2, 3, 4, 5, 6, 7, 8, 9, 10] rfl) (congrArg (fun x9 : Int => ([(10, .int (iI x9)), (9, .int (iI ((wsm (rhS σ p t) p q) + (wkS (rhS σ p t) p q)))), (8, .int (iI (wkS (rhS σ p t) p (wkq (rhS σ p t) p)))), (7, .int (iI ((wkq (rhS σ p t) p : Nat) : Int))), (6, .int (iI (t : Int))), (5, .int (iI 1)), (4, .int (iI (p : Int))), (0, .ref (B 5)), (1, .ref nn), (2, .ref am), (3, .int (iI x))] : List (Nat × Value))) e_12)) (congrArg (fun x9 : Int => ([(10, .int (iI (((q + 1) : Nat) : Int))), (9, .int (iI x9)), (8, .int (iI (wkS (rhS σ p t) p (wkq (rhS σ p t) p)))), (7, .int (iI ((wkq (rhS σ p t) p : Nat) : Int))), (6, .int (iI (t : Int))), (5, .int (iI 1)), (4, .int (iI (p : Int))), (0, .ref (B 5)), (1, .ref nn), (2, .ref am), (3, .int (iI x))] : List (Nat × Value))) e_13))
        have e_14 : (0 : Int) = ((0 : Nat) : Int) := rfl
        have e_15 : (0 : Int) = (wsm (rhS σ p t) p 0) := rfl
        refine W.widen (k := (120 * t + 6 * 0 + 12)) (n := (720 * t + 36 * 0 + 72)) (by omega) (by omega) ?_
        exact L65 0 (Nat.zero_le _)  P _ _ hP hD hS _ (lv_to (lv_to (lv_sub hl [0, 1, 2, 3, 4, 5, 6, 7, 8, 9, 10] rfl) (congrArg (fun x9 : Int => ([(10, .int (iI x9)), (9, .int (iI 0)), (8, .int (iI (wkS (rhS σ p t) p (wkq (rhS σ p t) p)))), (7, .int (iI ((wkq (rhS σ p t) p : Nat) : Int))), (6, .int (iI (t : Int))), (5, .int (iI 1)), (4, .int (iI (p : Int))), (0, .ref (B 5)), (1, .ref nn), (2, .ref am), (3, .int (iI x))] : List (Nat × Value))) e_14)) (congrArg (fun x9 : Int => ([(10, .int (iI ((0 : Nat) : Int))), (9, .int (iI x9)), (8, .int (iI (wkS (rhS σ p t) p (wkq (rhS σ p t) p)))), (7, .int (iI ((wkq (rhS σ p t) p : Nat) : Int))), (6, .int (iI (t : Int))), (5, .int (iI 1)), (4, .int (iI (p : Int))), (0, .ref (B 5)), (1, .ref nn), (2, .ref am), (3, .int (iI x))] : List (Nat × Value))) e_15))
    have e_16 : (0 : Int) = ((0 : Nat) : Int) := rfl
    refine W.widen (k := (120 * 0 + 0)) (n := (720 * 0 + 0)) (by omega) (by omega) ?_
    exact L23 0 (Nat.zero_le _)  P _ _ hP hD hS _ (lv_to (lv_sub hl [0, 1, 2, 3, 4, 5, 6] rfl) (congrArg (fun x9 : Int => ([(6, .int (iI x9)), (5, .int (iI 1)), (4, .int (iI (p : Int))), (0, .ref (B 5)), (1, .ref nn), (2, .ref am), (3, .int (iI x))] : List (Nat × Value))) e_16))
  · skip
    refine k_iconst F dL_rehearsed_6 ?_
    refine lv_goto (tgt := 15) F.1 F.2.1 dL_rehearsed_7 (by decide) ?_
    refine lv_istore (lv' := [(4, .int (iI 0)), (0, .ref (B 5)), (1, .ref nn), (2, .ref am), (3, .int (iI x))]) F.1 F.2.1 dL_rehearsed_15 hl (by decide) rfl (fun ls hl => ?_)
    refine k_iconst F dL_rehearsed_17 ?_
    refine lv_istore (lv' := [(5, .int (iI 1)), (4, .int (iI 0)), (0, .ref (B 5)), (1, .ref nn), (2, .ref am), (3, .int (iI x))]) F.1 F.2.1 dL_rehearsed_18 hl (by decide) rfl (fun ls hl => ?_)
    refine k_iconst F dL_rehearsed_20 ?_
    refine lv_istore (lv' := [(6, .int (iI 0)), (5, .int (iI 1)), (4, .int (iI 0)), (0, .ref (B 5)), (1, .ref nn), (2, .ref am), (3, .int (iI x))]) F.1 F.2.1 dL_rehearsed_21 hl (by decide) rfl (fun ls hl => ?_)
    refine lv_iload F.1 F.2.1 dL_rehearsed_23 (lv_at hl 0 rfl) ?_
    refine k_bipush F dL_rehearsed_25 (by decide +kernel) ?_
    refine k_icmp_ge F (tgt := 151) dL_rehearsed_27 (by decide) (by omega) (by omega) (fun c_17 => absurd c_17 (by omega)) (fun c_17 => ?_)
    refine lv_iload F.1 F.2.1 dL_rehearsed_30 (lv_at hl 1 rfl) ?_
    refine k_if_eq F (tgt := 151) dL_rehearsed_32 (by decide) (by omega) (fun c_18 => absurd c_18 (by omega)) (fun c_18 => ?_)
    refine lv_aload_n F.1 F.2.1 dL_rehearsed_35 rfl (lv_at hl 4 rfl) ?_
    refine k_iconst F dL_rehearsed_36 ?_
    refine k_iald F hK hP 0 rfl 1 rfl (by decide) (by decide) hnf.2.1 dL_rehearsed_37 ?_
    refine k_if_le F (tgt := 151) dL_rehearsed_38 (by decide) (by omega) (fun c_19 => ?_) (fun c_19 => absurd c_19 (by omega))
    refine lv_iload F.1 F.2.1 dL_rehearsed_151 (lv_at hl 1 rfl) ?_
    refine W.widen (k := 800) (n := 4800) (by omega) (by omega) ?_
    exact W.zret F.1 F.2.1 hr (by decide +kernel) (fun t9 ht _ => ⟨⟨_, (P, σ), rfl, rfl, by rw [ht]; exact hP, hD⟩, hS.F ht⟩) hS.2.2 dL_rehearsed_153 hlocks
