set_option maxHeartbeats 8000000 in
set_option maxRecDepth 100000 in
theorem mL_alike (l : Launch) (hfl : l.stackTraces = false) (G : gT) (z0 sz0 : Nat) (B B2 : Nat → Nat) (P P2 : Nat → Nat → Nat) (σ τ : Sg) (nn am : Nat) (fn fm : Nat → Int) (u x : Int) (hx : 0 ≤ x ∧ x < 2147483648) (hu : 0 ≤ u ∧ u ≤ 6) {N M : Nat} (hI : Jv σ N) (hJ : Jv τ M) (hN5 : N ≤ 500) (hM5 : M ≤ 500) (hT : Tw u σ τ) (hnf : NF fn σ) (hmf : MF fm σ) : Met l yL_alike wsL_alike { frames := 9, cells := 2700, slots := 16200, locals := 200 } (va_Pc [.ref (B 5), .ref (B2 5), .ref nn, .ref am, .int (iI u), .int (iI x)] (qB G (A2 G nn am fn fm ++ (DW G B P σ ++ DW G B2 P2 τ)) z0 sz0)) (va_Qi (fun (r : Int32) (v : (Nat → Nat → Nat) × (Nat → Nat → Nat)) => r = iI 1) (fun v t9 => gP G (A2 G nn am fn fm ++ (DW G B v.1 σ ++ DW G B2 v.2 τ)) t9.heap ∧ va_D (va_A (A2 G nn am fn fm ++ (DW G B P σ ++ DW G B2 P2 τ)) sz0) (A2 G nn am fn fm ++ (DW G B v.1 σ ++ DW G B2 v.2 τ))) (va_A (A2 G nn am fn fm ++ (DW G B P σ ++ DW G B2 P2 τ)) sz0)) 2700 16200 (va_A (A2 G nn am fn fm ++ (DW G B P σ ++ DW G B2 P2 τ)) sz0) := by
  refine q_start (own := RL) (cc := cL_alike) (mL := 10) (ret := (some .boolean)) (Qc := fun AA => (va_Qi (fun (r : Int32) (v : (Nat → Nat → Nat) × (Nat → Nat → Nat)) => r = iI 1) (fun v t9 => gP G (A2 G nn am fn fm ++ (DW G B v.1 σ ++ DW G B2 v.2 τ)) t9.heap ∧ va_D AA (A2 G nn am fn fm ++ (DW G B v.1 σ ++ DW G B2 v.2 τ))) AA)) (by decide) rfl rfl (Nat.le_of_ble_eq_true rfl) ?_
  intro pP eE sS mM args bB meth cC ls AA F hr hlocks hz hAz hK hP hD hS hA hl
  have hl : lv_has ls 10 [(0, .ref (B 5)), (1, .ref (B2 5)), (2, .ref nn), (3, .ref am), (4, .int (iI u)), (5, .int (iI x))] := hl
  have hRc : 2700 ≤ ({ frames := 9, cells := 2700, slots := 16200, locals := 200 } : Room).cells ∧ 16200 ≤ ({ frames := 9, cells := 2700, slots := 16200, locals := 200 } : Room).slots := ⟨Nat.le_refl _, Nat.le_refl _⟩
  generalize hRR : ({ frames := 9, cells := 2700, slots := 16200, locals := 200 } : Room) = RR at hRc ⊢
  have hRb : RR.frames = 9 ∧ RR.locals = 200 := by rw [← hRR]; exact ⟨rfl, rfl⟩
  have ⟨hb1, hb2, hb8⟩ := Jv_b hI
  have ⟨hc1, hc2, hc8⟩ := Jv_b hJ
  have ht1 := hT.1
  have ht2 := hT.2.1
  refine lv_iload F.1 F.2.1 dL_alike_0 (lv_at hl 5 rfl) ?_
  refine k_iconst F dL_alike_2 ?_
  refine k_rem F (by omega) (by omega) dL_alike_3 ?_
  refine lv_istore (lv' := [(6, .int (iI (x % 5))), (0, .ref (B 5)), (1, .ref (B2 5)), (2, .ref nn), (3, .ref am), (4, .int (iI u)), (5, .int (iI x))]) F.1 F.2.1 dL_alike_4 hl (by decide) rfl (fun ls hl => ?_)
  refine lv_aload_n F.1 F.2.1 dL_alike_6 rfl (lv_at hl 1 rfl) ?_
  refine lv_iload F.1 F.2.1 dL_alike_7 (lv_at hl 0 rfl) ?_
  refine j_call2 F (n := 2) (wr := A2 G nn am fn fm) (wq := DW G B2 P2 τ) (B := B) (P := P) (σ := σ) (τ' := σ) (z' := (msM σ (x % 5) (σ 1 0 0).toNat (σ 1 0 0).toNat)) (mL_missed l hfl G z0 _ B P σ (x % 5) (by omega) hI) (an_0 (by unfold kDat; (repeat' split) <;> omega)) rfl gL_alike_L_missed rfl rfl rfl (by decide +kernel) ⟨by rw [hRb.1]; exact Nat.le_of_ble_eq_true rfl, by rw [hRb.2]; exact Nat.le_of_ble_eq_true rfl⟩ hK hP hD hz hAz hS hA rfl rfl hl.1 (Nat.le_of_ble_eq_true rfl) dL_alike_9 ⟨by omega, by omega⟩ (fun P H locs hP hD hS => ?_)
  refine lv_aload_n F.1 F.2.1 dL_alike_12 rfl (lv_at hl 2 rfl) ?_
  refine lv_iload F.1 F.2.1 dL_alike_13 (lv_at hl 0 rfl) ?_
  refine j_call3 F (n := 2) (wr := A2 G nn am fn fm) (wq := DW G B P σ) (B := B2) (P := P2) (σ := τ) (τ' := τ) (z' := (msM σ (x % 5) (σ 1 0 0).toNat (σ 1 0 0).toNat)) (mL_missed l hfl G z0 _ B2 P2 τ (x % 5) (by omega) hJ) ((an_0 (by unfold kDat; (repeat' split) <;> omega)).trans (tj_msM hu.1 hT hI hJ _)) rfl gL_alike_L_missed rfl rfl rfl (by decide +kernel) ⟨by rw [hRb.1]; exact Nat.le_of_ble_eq_true rfl, by rw [hRb.2]; exact Nat.le_of_ble_eq_true rfl⟩ hK hP hD hz hAz hS hA rfl rfl hl.1 (Nat.le_of_ble_eq_true rfl) dL_alike_15 ⟨by omega, by omega⟩ (fun P2 H locs hP hD hS => ?_)
  refine k_same_ne F (tgt := 56) dL_alike_18 (by decide) ?_
  refine lv_aload_n F.1 F.2.1 dL_alike_21 rfl (lv_at hl 1 rfl) ?_
  refine lv_iload F.1 F.2.1 dL_alike_22 (lv_at hl 0 rfl) ?_
  refine lv_iload F.1 F.2.1 dL_alike_24 (lv_at hl 6 rfl) ?_
  refine k_iconst F dL_alike_26 ?_
  refine k_div F (by omega) (by omega) dL_alike_27 ?_
  refine k_sipush F dL_alike_28 (by decide +kernel) ?_
  refine k_rem F (by omega) (by omega) dL_alike_31 ?_
  refine j_call2 F (n := 3) (wr := A2 G nn am fn fm) (wq := DW G B2 P2 τ) (B := B) (P := P) (σ := σ) (τ' := σ) (z' := ((prg σ (σ 1 0 0).toNat (σ 2 0 0).toNat (x % 5) ((x / 5) % 900) : Nat) : Int)) (mL_plan l hfl G z0 _ B P σ (x % 5) ((x / 5) % 900) (by omega) (by omega) hI) (an_0 (by unfold kPrg; (repeat' split) <;> omega)) rfl gL_alike_L_plan rfl rfl rfl (by decide +kernel) ⟨by rw [hRb.1]; exact Nat.le_of_ble_eq_true rfl, by rw [hRb.2]; exact Nat.le_of_ble_eq_true rfl⟩ hK hP hD hz hAz hS hA rfl rfl hl.1 (Nat.le_of_ble_eq_true rfl) dL_alike_32 ⟨by omega, by omega⟩ (fun P H locs hP hD hS => ?_)
  refine lv_aload_n F.1 F.2.1 dL_alike_35 rfl (lv_at hl 2 rfl) ?_
  refine lv_iload F.1 F.2.1 dL_alike_36 (lv_at hl 0 rfl) ?_
  refine lv_iload F.1 F.2.1 dL_alike_38 (lv_at hl 6 rfl) ?_
  refine k_iconst F dL_alike_40 ?_
  refine k_div F (by omega) (by omega) dL_alike_41 ?_
  refine k_sipush F dL_alike_42 (by decide +kernel) ?_
  refine k_rem F (by omega) (by omega) dL_alike_45 ?_
  refine j_call3 F (n := 3) (wr := A2 G nn am fn fm) (wq := DW G B P σ) (B := B2) (P := P2) (σ := τ) (τ' := τ) (z' := ((prg σ (σ 1 0 0).toNat (σ 2 0 0).toNat (x % 5) ((x / 5) % 900) : Nat) : Int)) (mL_plan l hfl G z0 _ B2 P2 τ (x % 5) ((x / 5) % 900) (by omega) (by omega) hJ) ((an_0 (by unfold kPrg; (repeat' split) <;> omega)).trans (tj_prg hu.1 hT hI hJ _ _)) rfl gL_alike_L_plan rfl rfl rfl (by decide +kernel) ⟨by rw [hRb.1]; exact Nat.le_of_ble_eq_true rfl, by rw [hRb.2]; exact Nat.le_of_ble_eq_true rfl⟩ hK hP hD hz hAz hS hA rfl rfl hl.1 (Nat.le_of_ble_eq_true rfl) dL_alike_46 ⟨by omega, by omega⟩ (fun P2 H locs hP hD hS => ?_)
  refine k_same_ne F (tgt := 56) dL_alike_49 (by decide) ?_
  refine k_iconst F dL_alike_52 ?_
  refine lv_goto (tgt := 57) F.1 F.2.1 dL_alike_53 (by decide) ?_
  refine lv_istore (lv' := [(7, .int (iI 1)), (6, .int (iI (x % 5))), (0, .ref (B 5)), (1, .ref (B2 5)), (2, .ref nn), (3, .ref am), (4, .int (iI u)), (5, .int (iI x))]) F.1 F.2.1 dL_alike_57 hl (by decide) rfl (fun ls hl => ?_)
  refine k_iconst F dL_alike_59 ?_
  refine lv_istore (lv' := [(8, .int (iI 0)), (7, .int (iI 1)), (6, .int (iI (x % 5))), (0, .ref (B 5)), (1, .ref (B2 5)), (2, .ref nn), (3, .ref am), (4, .int (iI u)), (5, .int (iI x))]) F.1 F.2.1 dL_alike_60 hl (by decide) rfl (fun ls hl => ?_)
  have L62 : ∀ v : Nat, v ≤ 4 → ∀ (P : Nat → Nat → Nat) (P2 : Nat → Nat → Nat) (H : Heap) (locs : List Loc), gP G (A2 G nn am fn fm ++ (DW G B P σ ++ DW G B2 P2 τ)) H → va_D AA (A2 G nn am fn fm ++ (DW G B P σ ++ DW G B2 P2 τ)) → va_S AA sS.heap H locs → ∀ ls : Array Slot, lv_has ls 10 [(8, .int (iI (v : Int))), (7, .int (iI 1)), (6, .int (iI (x % 5))), (0, .ref (B 5)), (1, .ref (B2 5)), (2, .ref nn), (3, .ref am), (4, .int (iI u)), (5, .int (iI x))] → W pP l eE RR sS mM args bB meth cC H locs (12 * v + 24) (72 * v + 144) (MQ bB (va_Qi (fun (r : Int32) (v : (Nat → Nat → Nat) × (Nat → Nat → Nat)) => r = iI 1) (fun v t9 => gP G (A2 G nn am fn fm ++ (DW G B v.1 σ ++ DW G B2 v.2 τ)) t9.heap ∧ va_D AA (A2 G nn am fn fm ++ (DW G B v.1 σ ++ DW G B2 v.2 τ))) AA) args sS 2700 16200 AA) (F0 mM 62 ls []) := by
    refine lp_up (4) ?_ ?_
    · intro   P P2 H locs hP hD hS ls hl
      refine lv_iload F.1 F.2.1 dL_alike_62 (lv_at hl 0 rfl) ?_
      refine k_iconst F dL_alike_64 ?_
      refine k_icmp_ge F (tgt := 124) dL_alike_65 (by decide) (by omega) (by omega) (fun c_3 => ?_) (fun c_3 => absurd c_3 (by omega))
      refine k_iconst F dL_alike_124 ?_
      refine lv_istore (lv' := [(8, .int (iI 0)), (7, .int (iI 1)), (6, .int (iI (x % 5))), (0, .ref (B 5)), (1, .ref (B2 5)), (2, .ref nn), (3, .ref am), (4, .int (iI u)), (5, .int (iI x))]) F.1 F.2.1 dL_alike_125 hl (by decide) rfl (fun ls hl => ?_)
      have L127 : ∀ i : Nat, i ≤ (σ 2 0 0).toNat → ∀ (P : Nat → Nat → Nat) (P2 : Nat → Nat → Nat) (H : Heap) (locs : List Loc), gP G (A2 G nn am fn fm ++ (DW G B P σ ++ DW G B2 P2 τ)) H → va_D AA (A2 G nn am fn fm ++ (DW G B P σ ++ DW G B2 P2 τ)) → va_S AA sS.heap H locs → ∀ ls : Array Slot, lv_has ls 10 [(8, .int (iI (i : Int))), (7, .int (iI 1)), (6, .int (iI (x % 5))), (0, .ref (B 5)), (1, .ref (B2 5)), (2, .ref nn), (3, .ref am), (4, .int (iI u)), (5, .int (iI x))] → W pP l eE RR sS mM args bB meth cC H locs (12 * 4 + 420 * i + 24) (72 * 4 + 2520 * i + 144) (MQ bB (va_Qi (fun (r : Int32) (v : (Nat → Nat → Nat) × (Nat → Nat → Nat)) => r = iI 1) (fun v t9 => gP G (A2 G nn am fn fm ++ (DW G B v.1 σ ++ DW G B2 v.2 τ)) t9.heap ∧ va_D AA (A2 G nn am fn fm ++ (DW G B v.1 σ ++ DW G B2 v.2 τ))) AA) args sS 2700 16200 AA) (F0 mM 127 ls []) := by
        refine lp_up ((σ 2 0 0).toNat) ?_ ?_
        · intro   P P2 H locs hP hD hS ls hl
          refine lv_iload F.1 F.2.1 dL_alike_127 (lv_at hl 0 rfl) ?_
          refine lv_aload_n F.1 F.2.1 dL_alike_129 rfl (lv_at hl 5 rfl) ?_
          refine k_iconst F dL_alike_130 ?_
          refine k_iald F hK hP 0 rfl 1 rfl (by decide) (by decide) hnf.2.1 dL_alike_131 ?_
          refine k_icmp_ge F (tgt := 270) dL_alike_132 (by decide) (by omega) (by omega) (fun c_4 => ?_) (fun c_4 => absurd c_4 (by omega))
          refine lv_iload F.1 F.2.1 dL_alike_270 (lv_at hl 1 rfl) ?_
          refine W.widen (k := 2700) (n := 16200) (by omega) (by omega) ?_
          exact W.zret F.1 F.2.1 hr (by decide +kernel) (fun t9 ht _ => ⟨⟨_, (P, P2), rfl, rfl, by rw [ht]; exact hP, hD⟩, hS.F ht⟩) hS.2.2 dL_alike_272 hlocks
        · intro i hk9_127 ih_127   P P2 H locs hP hD hS ls hl
          have h8i := hb8 i
          have t8i := hT.2.2.2.2.2.2.1 i
          refine lv_iload F.1 F.2.1 dL_alike_127 (lv_at hl 0 rfl) ?_
          refine lv_aload_n F.1 F.2.1 dL_alike_129 rfl (lv_at hl 5 rfl) ?_
          refine k_iconst F dL_alike_130 ?_
          refine k_iald F hK hP 0 rfl 1 rfl (by decide) (by decide) hnf.2.1 dL_alike_131 ?_
          refine k_icmp_ge F (tgt := 270) dL_alike_132 (by decide) (by omega) (by omega) (fun c_5 => absurd c_5 (by omega)) (fun c_5 => ?_)
          refine lv_iload F.1 F.2.1 dL_alike_135 (lv_at hl 1 rfl) ?_
          refine k_if_eq F (tgt := 270) dL_alike_137 (by decide) (by omega) (fun c_6 => absurd c_6 (by omega)) (fun c_6 => ?_)
          refine lv_aload_n F.1 F.2.1 dL_alike_140 rfl (lv_at hl 3 rfl) ?_
          refine lv_iload F.1 F.2.1 dL_alike_141 (lv_at hl 0 rfl) ?_
          refine j_call2 F (n := 2) (wr := A2 G nn am fn fm) (wq := DW G B2 P2 τ) (B := B) (P := P) (σ := σ) (τ' := σ) (z' := (alf (σ 7 i) (σ 8 i 0))) (mL_faults l hfl G z0 _ B P σ (i : Int) (by omega) hI) (an_0 (by unfold kPic; (repeat' split) <;> omega)) rfl gL_alike_L_faults rfl rfl rfl (by decide +kernel) ⟨by rw [hRb.1]; exact Nat.le_of_ble_eq_true rfl, by rw [hRb.2]; exact Nat.le_of_ble_eq_true rfl⟩ hK hP hD hz hAz hS hA rfl rfl hl.1 (Nat.le_of_ble_eq_true rfl) dL_alike_143 ⟨by omega, by omega⟩ (fun P H locs hP hD hS => ?_)
          refine lv_aload_n F.1 F.2.1 dL_alike_146 rfl (lv_at hl 4 rfl) ?_
          refine lv_iload F.1 F.2.1 dL_alike_147 (lv_at hl 0 rfl) ?_
          refine j_call3 F (n := 2) (wr := A2 G nn am fn fm) (wq := DW G B P σ) (B := B2) (P := P2) (σ := τ) (τ' := τ) (z' := (alf (σ 7 i) (σ 8 i 0))) (mL_faults l hfl G z0 _ B2 P2 τ (i : Int) (by omega) hJ) ((an_0 (by unfold kPic; (repeat' split) <;> omega)).trans (tj_alf hT i)) rfl gL_alike_L_faults rfl rfl rfl (by decide +kernel) ⟨by rw [hRb.1]; exact Nat.le_of_ble_eq_true rfl, by rw [hRb.2]; exact Nat.le_of_ble_eq_true rfl⟩ hK hP hD hz hAz hS hA rfl rfl hl.1 (Nat.le_of_ble_eq_true rfl) dL_alike_149 ⟨by omega, by omega⟩ (fun P2 H locs hP hD hS => ?_)
          refine k_same_ne F (tgt := 193) dL_alike_152 (by decide) ?_
          refine lv_aload_n F.1 F.2.1 dL_alike_155 rfl (lv_at hl 3 rfl) ?_
          refine lv_iload F.1 F.2.1 dL_alike_156 (lv_at hl 0 rfl) ?_
          refine lv_iload F.1 F.2.1 dL_alike_158 (lv_at hl 2 rfl) ?_
          refine j_call2 F (n := 3) (wr := A2 G nn am fn fm) (wq := DW G B2 P2 τ) (B := B) (P := P) (σ := σ) (τ' := σ) (z' := (shV σ i (x % 5))) (mL_shift l hfl G z0 _ B P σ (i : Int) (x % 5) (by omega) (by omega) hI) (shV_an (by omega) rfl (by omega)) rfl gL_alike_L_shift rfl rfl rfl (by decide +kernel) ⟨by rw [hRb.1]; exact Nat.le_of_ble_eq_true rfl, by rw [hRb.2]; exact Nat.le_of_ble_eq_true rfl⟩ hK hP hD hz hAz hS hA rfl rfl hl.1 (Nat.le_of_ble_eq_true rfl) dL_alike_160 ⟨by omega, by omega⟩ (fun P H locs hP hD hS => ?_)
          refine lv_aload_n F.1 F.2.1 dL_alike_163 rfl (lv_at hl 4 rfl) ?_
          refine lv_iload F.1 F.2.1 dL_alike_164 (lv_at hl 0 rfl) ?_
          refine lv_iload F.1 F.2.1 dL_alike_166 (lv_at hl 2 rfl) ?_
          refine j_call3 F (n := 3) (wr := A2 G nn am fn fm) (wq := DW G B P σ) (B := B2) (P := P2) (σ := τ) (τ' := τ) (z' := (shV σ i (x % 5))) (mL_shift l hfl G z0 _ B2 P2 τ (i : Int) (x % 5) (by omega) (by omega) hJ) ((shV_an (by omega) rfl (by omega)).trans (tj_shV hu.1 hT hI hJ i _)) rfl gL_alike_L_shift rfl rfl rfl (by decide +kernel) ⟨by rw [hRb.1]; exact Nat.le_of_ble_eq_true rfl, by rw [hRb.2]; exact Nat.le_of_ble_eq_true rfl⟩ hK hP hD hz hAz hS hA rfl rfl hl.1 (Nat.le_of_ble_eq_true rfl) dL_alike_168 ⟨by omega, by omega⟩ (fun P2 H locs hP hD hS => ?_)
          refine k_same_ne F (tgt := 193) dL_alike_171 (by decide) ?_
          refine lv_aload_n F.1 F.2.1 dL_alike_174 rfl (lv_at hl 3 rfl) ?_
          refine lv_iload F.1 F.2.1 dL_alike_175 (lv_at hl 0 rfl) ?_
          refine j_call2 F (n := 2) (wr := A2 G nn am fn fm) (wq := DW G B2 P2 τ) (B := B) (P := P) (σ := σ) (τ' := σ) (z' := ((wkq σ i : Nat) : Int)) (mL_weakest l hfl G z0 _ B P σ (i : Int) (by omega) hI (by omega)) (an_0 (by unfold kPic; (repeat' split) <;> omega)) rfl gL_alike_L_weakest rfl rfl rfl (by decide +kernel) ⟨by rw [hRb.1]; exact Nat.le_of_ble_eq_true rfl, by rw [hRb.2]; exact Nat.le_of_ble_eq_true rfl⟩ hK hP hD hz hAz hS hA rfl rfl hl.1 (Nat.le_of_ble_eq_true rfl) dL_alike_177 ⟨by omega, by omega⟩ (fun P H locs hP hD hS => ?_)
          refine lv_aload_n F.1 F.2.1 dL_alike_180 rfl (lv_at hl 4 rfl) ?_
          refine lv_iload F.1 F.2.1 dL_alike_181 (lv_at hl 0 rfl) ?_
          refine j_call3 F (n := 2) (wr := A2 G nn am fn fm) (wq := DW G B P σ) (B := B2) (P := P2) (σ := τ) (τ' := τ) (z' := ((wkq σ i : Nat) : Int)) (mL_weakest l hfl G z0 _ B2 P2 τ (i : Int) (by omega) hJ (by omega)) ((an_0 (by unfold kPic; (repeat' split) <;> omega)).trans (tj_wkq hT hI i)) rfl gL_alike_L_weakest rfl rfl rfl (by decide +kernel) ⟨by rw [hRb.1]; exact Nat.le_of_ble_eq_true rfl, by rw [hRb.2]; exact Nat.le_of_ble_eq_true rfl⟩ hK hP hD hz hAz hS hA rfl rfl hl.1 (Nat.le_of_ble_eq_true rfl) dL_alike_183 ⟨by omega, by omega⟩ (fun P2 H locs hP hD hS => ?_)
          refine k_same_ne F (tgt := 193) dL_alike_186 (by decide) ?_
          refine k_iconst F dL_alike_189 ?_
          refine lv_goto (tgt := 194) F.1 F.2.1 dL_alike_190 (by decide) ?_
          refine lv_istore (lv' := [(7, .int (iI 1)), (8, .int (iI (i : Int))), (6, .int (iI (x % 5))), (0, .ref (B 5)), (1, .ref (B2 5)), (2, .ref nn), (3, .ref am), (4, .int (iI u)), (5, .int (iI x))]) F.1 F.2.1 dL_alike_194 hl (by decide) rfl (fun ls hl => ?_)
          refine k_iconst F dL_alike_196 ?_
          refine lv_istore (lv' := [(9, .int (iI 0)), (7, .int (iI 1)), (8, .int (iI (i : Int))), (6, .int (iI (x % 5))), (0, .ref (B 5)), (1, .ref (B2 5)), (2, .ref nn), (3, .ref am), (4, .int (iI u)), (5, .int (iI x))]) F.1 F.2.1 dL_alike_197 hl (by decide) rfl (fun ls hl => ?_)
          have L199 : ∀ q : Nat, q ≤ (σ 8 i 0).toNat → ∀ (P : Nat → Nat → Nat) (P2 : Nat → Nat → Nat) (H : Heap) (locs : List Loc), gP G (A2 G nn am fn fm ++ (DW G B P σ ++ DW G B2 P2 τ)) H → va_D AA (A2 G nn am fn fm ++ (DW G B P σ ++ DW G B2 P2 τ)) → va_S AA sS.heap H locs → ∀ ls : Array Slot, lv_has ls 10 [(9, .int (iI (q : Int))), (7, .int (iI 1)), (8, .int (iI (i : Int))), (6, .int (iI (x % 5))), (0, .ref (B 5)), (1, .ref (B2 5)), (2, .ref nn), (3, .ref am), (4, .int (iI u)), (5, .int (iI x))] → W pP l eE RR sS mM args bB meth cC H locs (12 * 4 + 420 * i + 24 * q + 60) (72 * 4 + 2520 * i + 144 * q + 360) (MQ bB (va_Qi (fun (r : Int32) (v : (Nat → Nat → Nat) × (Nat → Nat → Nat)) => r = iI 1) (fun v t9 => gP G (A2 G nn am fn fm ++ (DW G B v.1 σ ++ DW G B2 v.2 τ)) t9.heap ∧ va_D AA (A2 G nn am fn fm ++ (DW G B v.1 σ ++ DW G B2 v.2 τ))) AA) args sS 2700 16200 AA) (F0 mM 199 ls []) := by
            refine lp_up ((σ 8 i 0).toNat) ?_ ?_
            · intro   P P2 H locs hP hD hS ls hl
              refine lv_iload F.1 F.2.1 dL_alike_199 (lv_at hl 0 rfl) ?_
              refine lv_aload_n F.1 F.2.1 dL_alike_201 rfl (lv_at hl 7 rfl) ?_
              refine lv_iload F.1 F.2.1 dL_alike_202 (lv_at hl 2 rfl) ?_
              refine k_iald F hK hP 1 rfl i (by omega) (by omega) (by decide) (hmf i (by omega)) dL_alike_204 ?_
              refine k_icmp_ge F (tgt := 264) dL_alike_205 (by decide) (by omega) (by omega) (fun c_10 => ?_) (fun c_10 => absurd c_10 (by omega))
              refine lv_iinc (v := iI ((i : Int) + 1)) (lv' := [(8, .int (iI ((i : Int) + 1))), (9, .int (iI (((σ 8 i 0).toNat : Nat) : Int))), (7, .int (iI 1)), (6, .int (iI (x % 5))), (0, .ref (B 5)), (1, .ref (B2 5)), (2, .ref nn), (3, .ref am), (4, .int (iI u)), (5, .int (iI x))]) F.1 F.2.1 dL_alike_264 hl (k := 2) rfl (iI_add _ _) (by decide) rfl (fun ls hl => ?_)
              refine lv_goto (tgt := 127) F.1 F.2.1 dL_alike_267 (by decide) ?_
              have e_11 : (((i : Int) + 1) : Int) = (((i + 1) : Nat) : Int) := by omega
              refine W.widen (k := (12 * 4 + 420 * (i + 1) + 24)) (n := (72 * 4 + 2520 * (i + 1) + 144)) (by omega) (by omega) ?_
              exact ih_127  P P2 _ _ hP hD hS _ (lv_to (lv_sub hl [0, 2, 3, 4, 5, 6, 7, 8, 9] rfl) (congrArg (fun x9 : Int => ([(8, .int (iI x9)), (7, .int (iI 1)), (6, .int (iI (x % 5))), (0, .ref (B 5)), (1, .ref (B2 5)), (2, .ref nn), (3, .ref am), (4, .int (iI u)), (5, .int (iI x))] : List (Nat × Value))) e_11))
            · intro q hk9_199 ih_199   P P2 H locs hP hD hS ls hl
              refine lv_iload F.1 F.2.1 dL_alike_199 (lv_at hl 0 rfl) ?_
              refine lv_aload_n F.1 F.2.1 dL_alike_201 rfl (lv_at hl 7 rfl) ?_
              refine lv_iload F.1 F.2.1 dL_alike_202 (lv_at hl 2 rfl) ?_
              refine k_iald F hK hP 1 rfl i (by omega) (by omega) (by decide) (hmf i (by omega)) dL_alike_204 ?_
              refine k_icmp_ge F (tgt := 264) dL_alike_205 (by decide) (by omega) (by omega) (fun c_12 => absurd c_12 (by omega)) (fun c_12 => ?_)
              refine lv_iload F.1 F.2.1 dL_alike_208 (lv_at hl 1 rfl) ?_
              refine k_if_eq F (tgt := 264) dL_alike_210 (by decide) (by omega) (fun c_13 => absurd c_13 (by omega)) (fun c_13 => ?_)
              refine lv_aload_n F.1 F.2.1 dL_alike_213 rfl (lv_at hl 4 rfl) ?_
              refine lv_iload F.1 F.2.1 dL_alike_214 (lv_at hl 2 rfl) ?_
              refine lv_iload F.1 F.2.1 dL_alike_216 (lv_at hl 0 rfl) ?_
              refine j_call2 F (n := 3) (wr := A2 G nn am fn fm) (wq := DW G B2 P2 τ) (B := B) (P := P) (σ := σ) (τ' := σ) (z' := (mvf (σ 7 i) q)) (mL_faultsAt l hfl G z0 _ B P σ (i : Int) (q : Int) (by omega) (by omega) hI) (an_0 (by unfold kFat; simp only [isC, Int.toNat_natCast]; (repeat' split) <;> omega)) rfl gL_alike_L_faultsAt rfl rfl rfl (by decide +kernel) ⟨by rw [hRb.1]; exact Nat.le_of_ble_eq_true rfl, by rw [hRb.2]; exact Nat.le_of_ble_eq_true rfl⟩ hK hP hD hz hAz hS hA rfl rfl hl.1 (Nat.le_of_ble_eq_true rfl) dL_alike_218 ⟨by omega, by omega⟩ (fun P H locs hP hD hS => ?_)
              refine lv_aload_n F.1 F.2.1 dL_alike_221 rfl (lv_at hl 5 rfl) ?_
              refine lv_iload F.1 F.2.1 dL_alike_222 (lv_at hl 2 rfl) ?_
              refine lv_iload F.1 F.2.1 dL_alike_224 (lv_at hl 0 rfl) ?_
              refine j_call3 F (n := 3) (wr := A2 G nn am fn fm) (wq := DW G B P σ) (B := B2) (P := P2) (σ := τ) (τ' := τ) (z' := (mvf (σ 7 i) q)) (mL_faultsAt l hfl G z0 _ B2 P2 τ (i : Int) (q : Int) (by omega) (by omega) hJ) ((an_0 (by unfold kFat; simp only [isC, Int.toNat_natCast]; (repeat' split) <;> omega)).trans (tj_mvf (i := i) (c := q) hT (by omega))) rfl gL_alike_L_faultsAt rfl rfl rfl (by decide +kernel) ⟨by rw [hRb.1]; exact Nat.le_of_ble_eq_true rfl, by rw [hRb.2]; exact Nat.le_of_ble_eq_true rfl⟩ hK hP hD hz hAz hS hA rfl rfl hl.1 (Nat.le_of_ble_eq_true rfl) dL_alike_226 ⟨by omega, by omega⟩ (fun P2 H locs hP hD hS => ?_)
              refine k_same_ne F (tgt := 255) dL_alike_229 (by decide) ?_
              refine lv_aload_n F.1 F.2.1 dL_alike_232 rfl (lv_at hl 4 rfl) ?_
              refine lv_iload F.1 F.2.1 dL_alike_233 (lv_at hl 2 rfl) ?_
              refine lv_iload F.1 F.2.1 dL_alike_235 (lv_at hl 0 rfl) ?_
              refine j_call2 F (n := 3) (wr := A2 G nn am fn fm) (wq := DW G B2 P2 τ) (B := B) (P := P) (σ := σ) (τ' := σ) (z' := (wkS σ i q)) (mL_weakness l hfl G z0 _ B P σ (i : Int) (q : Int) (by omega) (by omega) hI (by omega)) (an_0 (by unfold kFat; simp only [isC, Int.toNat_natCast]; (repeat' split) <;> omega)) rfl gL_alike_L_weakness rfl rfl rfl (by decide +kernel) ⟨by rw [hRb.1]; exact Nat.le_of_ble_eq_true rfl, by rw [hRb.2]; exact Nat.le_of_ble_eq_true rfl⟩ hK hP hD hz hAz hS hA rfl rfl hl.1 (Nat.le_of_ble_eq_true rfl) dL_alike_237 ⟨by omega, by omega⟩ (fun P H locs hP hD hS => ?_)
              refine lv_aload_n F.1 F.2.1 dL_alike_240 rfl (lv_at hl 5 rfl) ?_
              refine lv_iload F.1 F.2.1 dL_alike_241 (lv_at hl 2 rfl) ?_
              refine lv_iload F.1 F.2.1 dL_alike_243 (lv_at hl 0 rfl) ?_
              refine j_call3 F (n := 3) (wr := A2 G nn am fn fm) (wq := DW G B P σ) (B := B2) (P := P2) (σ := τ) (τ' := τ) (z' := (wkS σ i q)) (mL_weakness l hfl G z0 _ B2 P2 τ (i : Int) (q : Int) (by omega) (by omega) hJ (by omega)) ((an_0 (by unfold kFat; simp only [isC, Int.toNat_natCast]; (repeat' split) <;> omega)).trans (wkS_tw (i := i) (c := q) hT (by omega))) rfl gL_alike_L_weakness rfl rfl rfl (by decide +kernel) ⟨by rw [hRb.1]; exact Nat.le_of_ble_eq_true rfl, by rw [hRb.2]; exact Nat.le_of_ble_eq_true rfl⟩ hK hP hD hz hAz hS hA rfl rfl hl.1 (Nat.le_of_ble_eq_true rfl) dL_alike_245 ⟨by omega, by omega⟩ (fun P2 H locs hP hD hS => ?_)
              refine k_same_ne F (tgt := 255) dL_alike_248 (by decide) ?_
              refine k_iconst F dL_alike_251 ?_
              refine lv_goto (tgt := 256) F.1 F.2.1 dL_alike_252 (by decide) ?_
              refine lv_istore (lv' := [(7, .int (iI 1)), (9, .int (iI (q : Int))), (8, .int (iI (i : Int))), (6, .int (iI (x % 5))), (0, .ref (B 5)), (1, .ref (B2 5)), (2, .ref nn), (3, .ref am), (4, .int (iI u)), (5, .int (iI x))]) F.1 F.2.1 dL_alike_256 hl (by decide) rfl (fun ls hl => ?_)
              refine lv_iinc (v := iI ((q : Int) + 1)) (lv' := [(9, .int (iI ((q : Int) + 1))), (7, .int (iI 1)), (8, .int (iI (i : Int))), (6, .int (iI (x % 5))), (0, .ref (B 5)), (1, .ref (B2 5)), (2, .ref nn), (3, .ref am), (4, .int (iI u)), (5, .int (iI x))]) F.1 F.2.1 dL_alike_258 hl (k := 1) rfl (iI_add _ _) (by decide) rfl (fun ls hl => ?_)
              refine lv_goto (tgt := 199) F.1 F.2.1 dL_alike_261 (by decide) ?_
              have e_16 : (((q : Int) + 1) : Int) = (((q + 1) : Nat) : Int) := by omega
              refine W.widen (k := (12 * 4 + 420 * i + 24 * (q + 1) + 60)) (n := (72 * 4 + 2520 * i + 144 * (q + 1) + 360)) (by omega) (by omega) ?_
              exact ih_199  P P2 _ _ hP hD hS _ (lv_to (lv_sub hl [0, 1, 2, 3, 4, 5, 6, 7, 8, 9] rfl) (congrArg (fun x9 : Int => ([(9, .int (iI x9)), (7, .int (iI 1)), (8, .int (iI (i : Int))), (6, .int (iI (x % 5))), (0, .ref (B 5)), (1, .ref (B2 5)), (2, .ref nn), (3, .ref am), (4, .int (iI u)), (5, .int (iI x))] : List (Nat × Value))) e_16))
          have e_17 : (0 : Int) = ((0 : Nat) : Int) := rfl
          refine W.widen (k := (12 * 4 + 420 * i + 24 * 0 + 60)) (n := (72 * 4 + 2520 * i + 144 * 0 + 360)) (by omega) (by omega) ?_
          exact L199 0 (Nat.zero_le _)  P P2 _ _ hP hD hS _ (lv_to (lv_sub hl [0, 1, 2, 3, 4, 5, 6, 7, 8, 9] rfl) (congrArg (fun x9 : Int => ([(9, .int (iI x9)), (7, .int (iI 1)), (8, .int (iI (i : Int))), (6, .int (iI (x % 5))), (0, .ref (B 5)), (1, .ref (B2 5)), (2, .ref nn), (3, .ref am), (4, .int (iI u)), (5, .int (iI x))] : List (Nat × Value))) e_17))
      have e_18 : (0 : Int) = ((0 : Nat) : Int) := rfl
      refine W.widen (k := (12 * 4 + 420 * 0 + 24)) (n := (72 * 4 + 2520 * 0 + 144)) (by omega) (by omega) ?_
      exact L127 0 (Nat.zero_le _)  P P2 _ _ hP hD hS _ (lv_to (lv_sub hl [0, 1, 2, 3, 4, 5, 6, 7, 8] rfl) (congrArg (fun x9 : Int => ([(8, .int (iI x9)), (7, .int (iI 1)), (6, .int (iI (x % 5))), (0, .ref (B 5)), (1, .ref (B2 5)), (2, .ref nn), (3, .ref am), (4, .int (iI u)), (5, .int (iI x))] : List (Nat × Value))) e_18))
    · intro v hk9_62 ih_62   P P2 H locs hP hD hS ls hl
      refine lv_iload F.1 F.2.1 dL_alike_62 (lv_at hl 0 rfl) ?_
      refine k_iconst F dL_alike_64 ?_
      refine k_icmp_ge F (tgt := 124) dL_alike_65 (by decide) (by omega) (by omega) (fun c_19 => absurd c_19 (by omega)) (fun c_19 => ?_)
      refine lv_iload F.1 F.2.1 dL_alike_68 (lv_at hl 1 rfl) ?_
      refine k_if_eq F (tgt := 124) dL_alike_70 (by decide) (by omega) (fun c_20 => absurd c_20 (by omega)) (fun c_20 => ?_)
      refine lv_aload_n F.1 F.2.1 dL_alike_73 rfl (lv_at hl 3 rfl) ?_
      refine lv_iload F.1 F.2.1 dL_alike_74 (lv_at hl 0 rfl) ?_
      refine lv_iload F.1 F.2.1 dL_alike_76 (lv_at hl 2 rfl) ?_
      refine j_call2 F (n := 3) (wr := A2 G nn am fn fm) (wq := DW G B2 P2 τ) (B := B) (P := P) (σ := σ) (τ' := σ) (z' := (vRng σ (v : Int) (x % 5) (σ 1 0 0).toNat)) (mL_range l hfl G z0 _ B P σ (v : Int) (x % 5) (by omega) (by omega) hI) (an_0 (by unfold kRng; (repeat' split) <;> omega)) rfl gL_alike_L_range rfl rfl rfl (by decide +kernel) ⟨by rw [hRb.1]; exact Nat.le_of_ble_eq_true rfl, by rw [hRb.2]; exact Nat.le_of_ble_eq_true rfl⟩ hK hP hD hz hAz hS hA rfl rfl hl.1 (Nat.le_of_ble_eq_true rfl) dL_alike_78 ⟨by omega, by omega⟩ (fun P H locs hP hD hS => ?_)
      have rg9 := tj_rg hu.1 hT hI hJ (v : Int) (x % 5)
      refine lv_istore (lv' := [(9, .int (iI (vRng σ (v : Int) (x % 5) (σ 1 0 0).toNat))), (8, .int (iI (v : Int))), (7, .int (iI 1)), (6, .int (iI (x % 5))), (0, .ref (B 5)), (1, .ref (B2 5)), (2, .ref nn), (3, .ref am), (4, .int (iI u)), (5, .int (iI x))]) F.1 F.2.1 dL_alike_81 hl (by decide) rfl (fun ls hl => ?_)
      refine lv_aload_n F.1 F.2.1 dL_alike_83 rfl (lv_at hl 5 rfl) ?_
      refine lv_iload F.1 F.2.1 dL_alike_84 (lv_at hl 1 rfl) ?_
      refine lv_iload F.1 F.2.1 dL_alike_86 (lv_at hl 3 rfl) ?_
      refine j_call3 F (n := 3) (wr := A2 G nn am fn fm) (wq := DW G B P σ) (B := B2) (P := P2) (σ := τ) (τ' := τ) (z' := (if vRng σ (v : Int) (x % 5) (σ 1 0 0).toNat < 0 then (-1) else (vRng σ (v : Int) (x % 5) (σ 1 0 0).toNat + (101 * u)))) (mL_range l hfl G z0 _ B2 P2 τ (v : Int) (x % 5) (by omega) (by omega) hJ) ((an_0 (by unfold kRng; (repeat' split) <;> omega)).trans (tj_rng hu.1 hT hI hJ _ _)) rfl gL_alike_L_range rfl rfl rfl (by decide +kernel) ⟨by rw [hRb.1]; exact Nat.le_of_ble_eq_true rfl, by rw [hRb.2]; exact Nat.le_of_ble_eq_true rfl⟩ hK hP hD hz hAz hS hA rfl rfl hl.1 (Nat.le_of_ble_eq_true rfl) dL_alike_88 ⟨by omega, by omega⟩ (fun P2 H locs hP hD hS => ?_)
      refine lv_iload F.1 F.2.1 dL_alike_91 (lv_at hl 0 rfl) ?_
      refine k_if_ge F (tgt := 100) dL_alike_93 (by decide) (by omega) (fun c_21 => ?_) (fun c_21 => ?_)
      · skip
        rw [if_neg (show ¬ vRng σ (v : Int) (x % 5) (σ 1 0 0).toNat < 0 by omega)]
        refine lv_iload F.1 F.2.1 dL_alike_100 (lv_at hl 0 rfl) ?_
        refine k_bipush F dL_alike_102 (by decide +kernel) ?_
        refine lv_iload F.1 F.2.1 dL_alike_104 (lv_at hl 8 rfl) ?_
        refine k_imul F rfl dL_alike_106 ?_
        refine k_iadd F rfl dL_alike_107 ?_
        refine k_icmp_ne F (tgt := 115) dL_alike_108 (by decide) (by omega) (by omega) (fun c_22 => ?_) (fun c_22 => ?_)
        · skip
          refine k_iconst F dL_alike_115 ?_
          refine lv_istore (lv' := [(7, .int (iI 0)), (9, .int (iI (vRng σ (v : Int) (x % 5) (σ 1 0 0).toNat))), (8, .int (iI (v : Int))), (6, .int (iI (x % 5))), (0, .ref (B 5)), (1, .ref (B2 5)), (2, .ref nn), (3, .ref am), (4, .int (iI u)), (5, .int (iI x))]) F.1 F.2.1 dL_alike_116 hl (by decide) rfl (fun ls hl => ?_)
          refine lv_iinc (v := iI ((v : Int) + 1)) (lv' := [(8, .int (iI ((v : Int) + 1))), (7, .int (iI 0)), (9, .int (iI (vRng σ (v : Int) (x % 5) (σ 1 0 0).toNat))), (6, .int (iI (x % 5))), (0, .ref (B 5)), (1, .ref (B2 5)), (2, .ref nn), (3, .ref am), (4, .int (iI u)), (5, .int (iI x))]) F.1 F.2.1 dL_alike_118 hl (k := 2) rfl (iI_add _ _) (by decide) rfl (fun ls hl => ?_)
          refine lv_goto (tgt := 62) F.1 F.2.1 dL_alike_121 (by decide) ?_
          have e_23 : (((v : Int) + 1) : Int) = (((v + 1) : Nat) : Int) := by omega
          have e_24 : (0 : Int) = 1 := by omega
          refine W.widen (k := (12 * (v + 1) + 24)) (n := (72 * (v + 1) + 144)) (by omega) (by omega) ?_
          exact ih_62  P P2 _ _ hP hD hS _ (lv_to (lv_to (lv_sub hl [0, 1, 3, 4, 5, 6, 7, 8, 9] rfl) (congrArg (fun x9 : Int => ([(8, .int (iI x9)), (7, .int (iI 0)), (6, .int (iI (x % 5))), (0, .ref (B 5)), (1, .ref (B2 5)), (2, .ref nn), (3, .ref am), (4, .int (iI u)), (5, .int (iI x))] : List (Nat × Value))) e_23)) (congrArg (fun x9 : Int => ([(8, .int (iI (((v + 1) : Nat) : Int))), (7, .int (iI x9)), (6, .int (iI (x % 5))), (0, .ref (B 5)), (1, .ref (B2 5)), (2, .ref nn), (3, .ref am), (4, .int (iI u)), (5, .int (iI x))] : List (Nat × Value))) e_24))
        · skip
          refine k_iconst F dL_alike_111 ?_
          refine lv_goto (tgt := 116) F.1 F.2.1 dL_alike_112 (by decide) ?_
          refine lv_istore (lv' := [(7, .int (iI 1)), (9, .int (iI (vRng σ (v : Int) (x % 5) (σ 1 0 0).toNat))), (8, .int (iI (v : Int))), (6, .int (iI (x % 5))), (0, .ref (B 5)), (1, .ref (B2 5)), (2, .ref nn), (3, .ref am), (4, .int (iI u)), (5, .int (iI x))]) F.1 F.2.1 dL_alike_116 hl (by decide) rfl (fun ls hl => ?_)
          refine lv_iinc (v := iI ((v : Int) + 1)) (lv' := [(8, .int (iI ((v : Int) + 1))), (7, .int (iI 1)), (9, .int (iI (vRng σ (v : Int) (x % 5) (σ 1 0 0).toNat))), (6, .int (iI (x % 5))), (0, .ref (B 5)), (1, .ref (B2 5)), (2, .ref nn), (3, .ref am), (4, .int (iI u)), (5, .int (iI x))]) F.1 F.2.1 dL_alike_118 hl (k := 2) rfl (iI_add _ _) (by decide) rfl (fun ls hl => ?_)
          refine lv_goto (tgt := 62) F.1 F.2.1 dL_alike_121 (by decide) ?_
          have e_25 : (((v : Int) + 1) : Int) = (((v + 1) : Nat) : Int) := by omega
          refine W.widen (k := (12 * (v + 1) + 24)) (n := (72 * (v + 1) + 144)) (by omega) (by omega) ?_
          exact ih_62  P P2 _ _ hP hD hS _ (lv_to (lv_sub hl [0, 1, 3, 4, 5, 6, 7, 8, 9] rfl) (congrArg (fun x9 : Int => ([(8, .int (iI x9)), (7, .int (iI 1)), (6, .int (iI (x % 5))), (0, .ref (B 5)), (1, .ref (B2 5)), (2, .ref nn), (3, .ref am), (4, .int (iI u)), (5, .int (iI x))] : List (Nat × Value))) e_25))
      · skip
        rw [if_pos (show vRng σ (v : Int) (x % 5) (σ 1 0 0).toNat < 0 by omega)]
        refine k_iconst F dL_alike_96 ?_
        refine lv_goto (tgt := 108) F.1 F.2.1 dL_alike_97 (by decide) ?_
        refine k_same_ne F (tgt := 115) dL_alike_108 (by decide) ?_
        refine k_iconst F dL_alike_111 ?_
        refine lv_goto (tgt := 116) F.1 F.2.1 dL_alike_112 (by decide) ?_
        refine lv_istore (lv' := [(7, .int (iI 1)), (9, .int (iI (vRng σ (v : Int) (x % 5) (σ 1 0 0).toNat))), (8, .int (iI (v : Int))), (6, .int (iI (x % 5))), (0, .ref (B 5)), (1, .ref (B2 5)), (2, .ref nn), (3, .ref am), (4, .int (iI u)), (5, .int (iI x))]) F.1 F.2.1 dL_alike_116 hl (by decide) rfl (fun ls hl => ?_)
        refine lv_iinc (v := iI ((v : Int) + 1)) (lv' := [(8, .int (iI ((v : Int) + 1))), (7, .int (iI 1)), (9, .int (iI (vRng σ (v : Int) (x % 5) (σ 1 0 0).toNat))), (6, .int (iI (x % 5))), (0, .ref (B 5)), (1, .ref (B2 5)), (2, .ref nn), (3, .ref am), (4, .int (iI u)), (5, .int (iI x))]) F.1 F.2.1 dL_alike_118 hl (k := 2) rfl (iI_add _ _) (by decide) rfl (fun ls hl => ?_)
        refine lv_goto (tgt := 62) F.1 F.2.1 dL_alike_121 (by decide) ?_
        have e_27 : (((v : Int) + 1) : Int) = (((v + 1) : Nat) : Int) := by omega
        refine W.widen (k := (12 * (v + 1) + 24)) (n := (72 * (v + 1) + 144)) (by omega) (by omega) ?_
        exact ih_62  P P2 _ _ hP hD hS _ (lv_to (lv_sub hl [0, 1, 3, 4, 5, 6, 7, 8, 9] rfl) (congrArg (fun x9 : Int => ([(8, .int (iI x9)), (7, .int (iI 1)), (6, .int (iI (x % 5))), (0, .ref (B 5)), (1, .ref (B2 5)), (2, .ref nn), (3, .ref am), (4, .int (iI u)), (5, .int (iI x))] : List (Nat × Value))) e_27))
  have e_28 : (0 : Int) = ((0 : Nat) : Int) := rfl
  refine W.widen (k := (12 * 0 + 24)) (n := (72 * 0 + 144)) (by omega) (by omega) ?_
  exact L62 0 (Nat.zero_le _)  P P2 _ _ hP hD hS _ (lv_to (lv_sub hl [0, 1, 2, 3, 4, 5, 6, 7, 8] rfl) (congrArg (fun x9 : Int => ([(8, .int (iI x9)), (7, .int (iI 1)), (6, .int (iI (x % 5))), (0, .ref (B 5)), (1, .ref (B2 5)), (2, .ref nn), (3, .ref am), (4, .int (iI u)), (5, .int (iI x))] : List (Nat × Value))) e_28))
