set_option maxHeartbeats 8000000 in
set_option maxRecDepth 100000 in
theorem mL_act (l : Launch) (hfl : l.stackTraces = false) (G : gT) (z0 sz0 : Nat) (B : Nat → Nat) (P : Nat → Nat → Nat) (σ : Sg) (nn am : Nat) (fn fm : Nat → Int) (x u : Int) (hx : 0 ≤ x ∧ x < 2147483648) (hu : 0 ≤ u ∧ u ≤ 6) {N : Nat} (hI : Jv σ N) (hN5 : N ≤ 500) (hnf : NF fn σ) (hmf : MF fm σ) : Met l yL_act wsL_act { frames := 9, cells := 6, slots := 120, locals := 200 } (va_Pc [.ref (B 5), .ref nn, .ref am, .int (iI x), .int (iI u)] (qB G (A2 G nn am fn fm ++ DW G B P σ) z0 sz0)) (va_Qi (fun (r : Int32) (v : (Nat → Nat → Nat) × Sg) => ∃ z, r = iI z ∧ Ac u σ x z v.2) (fun v t9 => gP G (A2 G nn am fn fm ++ DW G B v.1 v.2) t9.heap ∧ va_D (va_A (A2 G nn am fn fm ++ DW G B P σ) sz0) (A2 G nn am fn fm ++ DW G B v.1 v.2)) (va_A (A2 G nn am fn fm ++ DW G B P σ) sz0)) 6 120 (va_A (A2 G nn am fn fm ++ DW G B P σ) sz0) := by
  refine q_start (own := RL) (cc := cL_act) (mL := 13) (ret := (some .int)) (Qc := fun AA => (va_Qi (fun (r : Int32) (v : (Nat → Nat → Nat) × Sg) => ∃ z, r = iI z ∧ Ac u σ x z v.2) (fun v t9 => gP G (A2 G nn am fn fm ++ DW G B v.1 v.2) t9.heap ∧ va_D AA (A2 G nn am fn fm ++ DW G B v.1 v.2)) AA)) (by decide) rfl rfl (Nat.le_of_ble_eq_true rfl) ?_
  intro pP eE sS mM args bB meth cC ls AA F hr hlocks hz hAz hK hP hD hS hA hl
  have hl : lv_has ls 13 [(0, .ref (B 5)), (1, .ref nn), (2, .ref am), (3, .int (iI x)), (4, .int (iI u))] := hl
  have hRc : 6 ≤ ({ frames := 9, cells := 6, slots := 120, locals := 200 } : Room).cells ∧ 120 ≤ ({ frames := 9, cells := 6, slots := 120, locals := 200 } : Room).slots := ⟨Nat.le_refl _, Nat.le_refl _⟩
  generalize hRR : ({ frames := 9, cells := 6, slots := 120, locals := 200 } : Room) = RR at hRc ⊢
  have hRb : RR.frames = 9 ∧ RR.locals = 200 := by rw [← hRR]; exact ⟨rfl, rfl⟩
  have ⟨hb1, hb2, hb8⟩ := Jv_b hI
  have h8k := hb8 (σ 2 0 0).toNat
  refine lv_iload_n F.1 F.2.1 dL_act_0 rfl (lv_at hl 3 rfl) ?_
  refine k_bipush F dL_act_1 (by decide +kernel) ?_
  refine k_div F (by omega) (by omega) dL_act_3 ?_
  refine lv_istore (lv' := [(5, .int (iI (x / 16))), (0, .ref (B 5)), (1, .ref nn), (2, .ref am), (3, .int (iI x)), (4, .int (iI u))]) F.1 F.2.1 dL_act_4 hl (by decide) rfl (fun ls hl => ?_)
  refine lv_aload_n F.1 F.2.1 dL_act_6 rfl (lv_at hl 2 rfl) ?_
  refine k_iconst F dL_act_7 ?_
  refine k_iald F hK hP 0 rfl 0 rfl (by decide) (by decide) hnf.1 dL_act_8 ?_
  have J22 : ∀ w1 : Int, w1 = acs σ x → ∀ (P : Nat → Nat → Nat) (H : Heap) (locs : List Loc), gP G (A2 G nn am fn fm ++ DW G B P σ) H → va_D AA (A2 G nn am fn fm ++ DW G B P σ) → va_S AA sS.heap H locs → ∀ ls : Array Slot, lv_has ls 13 [(5, .int (iI (x / 16))), (0, .ref (B 5)), (1, .ref nn), (2, .ref am), (3, .int (iI x)), (4, .int (iI u))] → W pP l eE RR sS mM args bB meth cC H locs 0 0 (MQ bB (va_Qi (fun (r : Int32) (v : (Nat → Nat → Nat) × Sg) => ∃ z, r = iI z ∧ Ac u σ x z v.2) (fun v t9 => gP G (A2 G nn am fn fm ++ DW G B v.1 v.2) t9.heap ∧ va_D AA (A2 G nn am fn fm ++ DW G B v.1 v.2)) AA) args sS 6 120 AA) (F0 mM 22 ls [.int (iI w1)]) := by
    intro w1 hj22_0 P H locs hP hD hS ls hl
    subst hj22_0
    refine lv_istore (lv' := [(6, .int (iI (acs σ x))), (5, .int (iI (x / 16))), (0, .ref (B 5)), (1, .ref nn), (2, .ref am), (3, .int (iI x)), (4, .int (iI u))]) F.1 F.2.1 dL_act_22 hl (by decide) rfl (fun ls hl => ?_)
    have rs := acs_rg (σ := σ) (x := x) (by omega) hx.1
    refine lv_aload_n F.1 F.2.1 dL_act_24 rfl (lv_at hl 3 rfl) ?_
    refine k_iconst F dL_act_25 ?_
    refine k_iald F hK hP 0 rfl 1 rfl (by decide) (by decide) hnf.2.1 dL_act_26 ?_
    have J40 : ∀ w2 : Int, w2 = acp σ x → ∀ (P : Nat → Nat → Nat) (H : Heap) (locs : List Loc), gP G (A2 G nn am fn fm ++ DW G B P σ) H → va_D AA (A2 G nn am fn fm ++ DW G B P σ) → va_S AA sS.heap H locs → ∀ ls : Array Slot, lv_has ls 13 [(6, .int (iI (acs σ x))), (5, .int (iI (x / 16))), (0, .ref (B 5)), (1, .ref nn), (2, .ref am), (3, .int (iI x)), (4, .int (iI u))] → W pP l eE RR sS mM args bB meth cC H locs 0 0 (MQ bB (va_Qi (fun (r : Int32) (v : (Nat → Nat → Nat) × Sg) => ∃ z, r = iI z ∧ Ac u σ x z v.2) (fun v t9 => gP G (A2 G nn am fn fm ++ DW G B v.1 v.2) t9.heap ∧ va_D AA (A2 G nn am fn fm ++ DW G B v.1 v.2)) AA) args sS 6 120 AA) (F0 mM 40 ls [.int (iI w2)]) := by
      intro w2 hj40_0 P H locs hP hD hS ls hl
      subst hj40_0
      refine lv_istore (lv' := [(7, .int (iI (acp σ x))), (6, .int (iI (acs σ x))), (5, .int (iI (x / 16))), (0, .ref (B 5)), (1, .ref nn), (2, .ref am), (3, .int (iI x)), (4, .int (iI u))]) F.1 F.2.1 dL_act_40 hl (by decide) rfl (fun ls hl => ?_)
      have rp := acp_rg (σ := σ) (x := x) (by omega) hx.1
      refine lv_iload_n F.1 F.2.1 dL_act_42 rfl (lv_at hl 6 rfl) ?_
      refine k_bipush F dL_act_43 (by decide +kernel) ?_
      refine k_rem F (by omega) (by omega) dL_act_45 ?_
      have K116 : x % 16 < 3 → W pP l eE RR sS mM args bB meth cC H locs 0 0 (MQ bB (va_Qi (fun (r : Int32) (v : (Nat → Nat → Nat) × Sg) => ∃ z, r = iI z ∧ Ac u σ x z v.2) (fun v t9 => gP G (A2 G nn am fn fm ++ DW G B v.1 v.2) t9.heap ∧ va_D AA (A2 G nn am fn fm ++ DW G B v.1 v.2)) AA) args sS 6 120 AA) (F0 mM 116 ls []) := by
        intro hx16
        refine lv_aload_n F.1 F.2.1 dL_act_116 rfl (lv_at hl 3 rfl) ?_
        refine lv_iload F.1 F.2.1 dL_act_117 (lv_at hl 2 rfl) ?_
        refine k_iconst F dL_act_119 ?_
        refine k_rem F (by omega) (by omega) dL_act_120 ?_
        refine lv_iload F.1 F.2.1 dL_act_121 (lv_at hl 2 rfl) ?_
        refine k_iconst F dL_act_123 ?_
        refine k_div F (by omega) (by omega) dL_act_124 ?_
        refine k_bipush F dL_act_125 (by decide +kernel) ?_
        refine k_rem F (by omega) (by omega) dL_act_127 ?_
        refine lv_iload F.1 F.2.1 dL_act_128 (lv_at hl 7 rfl) ?_
        refine k_iadd F rfl dL_act_130 ?_
        refine k_bipush F dL_act_131 (by decide +kernel) ?_
        refine lv_iload F.1 F.2.1 dL_act_133 (lv_at hl 2 rfl) ?_
        refine k_bipush F dL_act_135 (by decide +kernel) ?_
        refine k_div F (by omega) (by omega) dL_act_137 ?_
        refine k_bipush F dL_act_138 (by decide +kernel) ?_
        refine k_rem F (by omega) (by omega) dL_act_140 ?_
        refine k_iadd F rfl dL_act_141 ?_
        refine lv_iload F.1 F.2.1 dL_act_142 (lv_at hl 7 rfl) ?_
        refine k_iadd F rfl dL_act_144 ?_
        refine j_call F (n := 4) (wr := A2 G nn am fn fm) (B := B) (P := P) (σ := σ) (τ' := stt (kAdd σ ((x / 16) % 4) ((((x / 16) / 4) % 24) + u) ((30 + (((x / 16) / 96) % 24)) + u)) (sAdd σ ((x / 16) % 4) ((((x / 16) / 4) % 24) + u) ((30 + (((x / 16) / 96) % 24)) + u)) σ) (z' := an (kAdd σ ((x / 16) % 4) ((((x / 16) / 4) % 24) + u) ((30 + (((x / 16) / 96) % 24)) + u)) (σ 1 0 0) (-2000000002) (-2000000003) (-2000000003)) (mL_singers l hfl G z0 _ B P σ ((x / 16) % 4) ((((x / 16) / 4) % 24) + u) ((30 + (((x / 16) / 96) % 24)) + u) (by omega) (by omega) (by omega) hI) rfl rfl gL_act_L_singers rfl rfl rfl (by decide +kernel) ⟨by rw [hRb.1]; exact Nat.le_of_ble_eq_true rfl, by rw [hRb.2]; exact Nat.le_of_ble_eq_true rfl⟩ hK hP hD hz hAz hS hA rfl rfl hl.1 (Nat.le_of_ble_eq_true rfl) dL_act_145 ⟨by omega, by omega⟩ (fun P H locs hP hD hS => ?_)
        refine W.widen (k := 6) (n := 120) (by omega) (by omega) ?_
        exact W.iret F.1 F.2.1 hr (fun t9 ht _ => ⟨⟨_, (P, stt (kAdd σ ((x / 16) % 4) ((((x / 16) / 4) % 24) + u) ((30 + (((x / 16) / 96) % 24)) + u)) (sAdd σ ((x / 16) % 4) ((((x / 16) / 4) % 24) + u) ((30 + (((x / 16) / 96) % 24)) + u)) σ), rfl, ⟨_, rfl, by unfold Ac; rw [if_pos (by omega)]; exact ⟨rfl, rfl⟩⟩, by rw [ht]; exact hP, hD⟩, hS.F ht⟩) hS.2.2 dL_act_148 hlocks
      have K149 : (3 ≤ x % 16 ∧ x % 16 < 5) → W pP l eE RR sS mM args bB meth cC H locs 0 0 (MQ bB (va_Qi (fun (r : Int32) (v : (Nat → Nat → Nat) × Sg) => ∃ z, r = iI z ∧ Ac u σ x z v.2) (fun v t9 => gP G (A2 G nn am fn fm ++ DW G B v.1 v.2) t9.heap ∧ va_D AA (A2 G nn am fn fm ++ DW G B v.1 v.2)) AA) args sS 6 120 AA) (F0 mM 149 ls []) := by
        intro hx16
        refine lv_aload_n F.1 F.2.1 dL_act_149 rfl (lv_at hl 3 rfl) ?_
        refine lv_iload F.1 F.2.1 dL_act_150 (lv_at hl 1 rfl) ?_
        refine lv_iload F.1 F.2.1 dL_act_152 (lv_at hl 2 rfl) ?_
        refine k_bipush F dL_act_154 (by decide +kernel) ?_
        refine k_div F (by omega) (by omega) dL_act_156 ?_
        refine k_iconst F dL_act_157 ?_
        refine k_rem F (by omega) (by omega) dL_act_158 ?_
        refine lv_iload F.1 F.2.1 dL_act_159 (lv_at hl 2 rfl) ?_
        refine k_bipush F dL_act_161 (by decide +kernel) ?_
        refine k_div F (by omega) (by omega) dL_act_163 ?_
        refine k_iconst F dL_act_164 ?_
        refine k_rem F (by omega) (by omega) dL_act_165 ?_
        have J174 : ∀ w3 : Int, w3 = bI (((x / 16) / 48) % 3 = 0) → ∀ (P : Nat → Nat → Nat) (H : Heap) (locs : List Loc), gP G (A2 G nn am fn fm ++ DW G B P σ) H → va_D AA (A2 G nn am fn fm ++ DW G B P σ) → va_S AA sS.heap H locs → ∀ ls : Array Slot, lv_has ls 13 [(7, .int (iI (acp σ x))), (6, .int (iI (acs σ x))), (5, .int (iI (x / 16))), (0, .ref (B 5)), (1, .ref nn), (2, .ref am), (3, .int (iI x)), (4, .int (iI u))] → W pP l eE RR sS mM args bB meth cC H locs 0 0 (MQ bB (va_Qi (fun (r : Int32) (v : (Nat → Nat → Nat) × Sg) => ∃ z, r = iI z ∧ Ac u σ x z v.2) (fun v t9 => gP G (A2 G nn am fn fm ++ DW G B v.1 v.2) t9.heap ∧ va_D AA (A2 G nn am fn fm ++ DW G B v.1 v.2)) AA) args sS 6 120 AA) (F0 mM 174 ls [.int (iI w3), .int (iI (((x / 16) / 12) % 4)), .int (iI (acs σ x)), .ref (B 5)]) := by
          intro w3 hj174_0 P H locs hP hD hS ls hl
          subst hj174_0
          refine j_call F (n := 4) (wr := A2 G nn am fn fm) (B := B) (P := P) (σ := σ) (τ' := stt (kTel σ (acs σ x) (((x / 16) / 12) % 4)) (sTel σ (acs σ x) (((x / 16) / 12) % 4) (bI (((x / 16) / 48) % 3 = 0))) σ) (z' := an (kTel σ (acs σ x) (((x / 16) / 12) % 4)) (bI (thr (σ 6 0 (acs σ x).toNat) (((x / 16) / 12) % 4) = true)) (-2000000001) (-2000000002) (-2000000002)) (mL_tells l hfl G z0 _ B P σ (acs σ x) (((x / 16) / 12) % 4) (bI (((x / 16) / 48) % 3 = 0)) (by omega) (by omega) (bI_01 _) hI) rfl rfl gL_act_L_tells rfl rfl rfl (by decide +kernel) ⟨by rw [hRb.1]; exact Nat.le_of_ble_eq_true rfl, by rw [hRb.2]; exact Nat.le_of_ble_eq_true rfl⟩ hK hP hD hz hAz hS hA rfl rfl hl.1 (Nat.le_of_ble_eq_true rfl) dL_act_174 ⟨by omega, by omega⟩ (fun P H locs hP hD hS => ?_)
          refine W.widen (k := 6) (n := 120) (by omega) (by omega) ?_
          exact W.iret F.1 F.2.1 hr (fun t9 ht _ => ⟨⟨_, (P, stt (kTel σ (acs σ x) (((x / 16) / 12) % 4)) (sTel σ (acs σ x) (((x / 16) / 12) % 4) (bI (((x / 16) / 48) % 3 = 0))) σ), rfl, ⟨_, rfl, by unfold Ac; rw [if_neg (by omega), if_pos (by omega)]; exact ⟨rfl, rfl⟩⟩, by rw [ht]; exact hP, hD⟩, hS.F ht⟩) hS.2.2 dL_act_177 hlocks
        refine k_if_ne F (tgt := 173) dL_act_166 (by decide) (by omega) (fun c_1 => ?_) (fun c_1 => ?_)
        · skip
          refine k_iconst F dL_act_173 ?_
          refine W.widen (k := 0) (n := 0) (by omega) (by omega) ?_
          exact J174 0 (by first | rw [bI_t (by omega)] | rw [bI_f (by omega)]) P _ _ hP hD hS _ (lv_sub hl [0, 1, 2, 3, 4, 5, 6, 7] rfl)
        · skip
          refine k_iconst F dL_act_169 ?_
          refine lv_goto (tgt := 174) F.1 F.2.1 dL_act_170 (by decide) ?_
          refine W.widen (k := 0) (n := 0) (by omega) (by omega) ?_
          exact J174 1 (by first | rw [bI_t (by omega)] | rw [bI_f (by omega)]) P _ _ hP hD hS _ (lv_sub hl [0, 1, 2, 3, 4, 5, 6, 7] rfl)
      have K178 : x % 16 = 5 → W pP l eE RR sS mM args bB meth cC H locs 0 0 (MQ bB (va_Qi (fun (r : Int32) (v : (Nat → Nat → Nat) × Sg) => ∃ z, r = iI z ∧ Ac u σ x z v.2) (fun v t9 => gP G (A2 G nn am fn fm ++ DW G B v.1 v.2) t9.heap ∧ va_D AA (A2 G nn am fn fm ++ DW G B v.1 v.2)) AA) args sS 6 120 AA) (F0 mM 178 ls []) := by
        intro hx16
        refine lv_aload_n F.1 F.2.1 dL_act_178 rfl (lv_at hl 3 rfl) ?_
        refine lv_iload F.1 F.2.1 dL_act_179 (lv_at hl 1 rfl) ?_
        refine lv_iload F.1 F.2.1 dL_act_181 (lv_at hl 2 rfl) ?_
        refine k_bipush F dL_act_183 (by decide +kernel) ?_
        refine k_div F (by omega) (by omega) dL_act_185 ?_
        refine k_iconst F dL_act_186 ?_
        refine k_rem F (by omega) (by omega) dL_act_187 ?_
        refine j_call F (n := 3) (wr := A2 G nn am fn fm) (B := B) (P := P) (σ := σ) (τ' := stt (kChg σ (acs σ x) (((x / 16) / 12) % 4)) (su σ 3 0 (acs σ x).toNat (((x / 16) / 12) % 4)) σ) (z' := an (kChg σ (acs σ x) (((x / 16) / 12) % 4)) (σ 3 0 (acs σ x).toNat) (-2000000001) (-2000000002) (-2000000002)) (mL_changes l hfl G z0 _ B P σ (acs σ x) (((x / 16) / 12) % 4) (by omega) (by omega) hI) rfl rfl gL_act_L_changes rfl rfl rfl (by decide +kernel) ⟨by rw [hRb.1]; exact Nat.le_of_ble_eq_true rfl, by rw [hRb.2]; exact Nat.le_of_ble_eq_true rfl⟩ hK hP hD hz hAz hS hA rfl rfl hl.1 (Nat.le_of_ble_eq_true rfl) dL_act_188 ⟨by omega, by omega⟩ (fun P H locs hP hD hS => ?_)
        refine W.widen (k := 6) (n := 120) (by omega) (by omega) ?_
        exact W.iret F.1 F.2.1 hr (fun t9 ht _ => ⟨⟨_, (P, stt (kChg σ (acs σ x) (((x / 16) / 12) % 4)) (su σ 3 0 (acs σ x).toNat (((x / 16) / 12) % 4)) σ), rfl, ⟨_, rfl, by unfold Ac; rw [if_neg (by omega), if_neg (by omega), if_pos (by omega)]; exact ⟨rfl, rfl⟩⟩, by rw [ht]; exact hP, hD⟩, hS.F ht⟩) hS.2.2 dL_act_191 hlocks
      have K192 : (6 ≤ x % 16 ∧ x % 16 < 11) → W pP l eE RR sS mM args bB meth cC H locs 0 0 (MQ bB (va_Qi (fun (r : Int32) (v : (Nat → Nat → Nat) × Sg) => ∃ z, r = iI z ∧ Ac u σ x z v.2) (fun v t9 => gP G (A2 G nn am fn fm ++ DW G B v.1 v.2) t9.heap ∧ va_D AA (A2 G nn am fn fm ++ DW G B v.1 v.2)) AA) args sS 6 120 AA) (F0 mM 192 ls []) := by
        intro hx16
        refine k_bipush F dL_act_192 (by decide +kernel) ?_
        refine lv_iload F.1 F.2.1 dL_act_194 (lv_at hl 2 rfl) ?_
        refine k_bipush F dL_act_196 (by decide +kernel) ?_
        refine k_rem F (by omega) (by omega) dL_act_198 ?_
        refine k_iadd F rfl dL_act_199 ?_
        rw [show ((20 + ((x / 16) % 30)) : Int) = acF x from rfl]
        have rd := acD_rg (x := x) hx.1
        refine lv_istore (lv' := [(8, .int (iI (acF x))), (7, .int (iI (acp σ x))), (6, .int (iI (acs σ x))), (5, .int (iI (x / 16))), (0, .ref (B 5)), (1, .ref nn), (2, .ref am), (3, .int (iI x)), (4, .int (iI u))]) F.1 F.2.1 dL_act_200 hl (by decide) rfl (fun ls hl => ?_)
        refine lv_iload F.1 F.2.1 dL_act_202 (lv_at hl 0 rfl) ?_
        refine lv_iload F.1 F.2.1 dL_act_204 (lv_at hl 3 rfl) ?_
        refine k_bipush F dL_act_206 (by decide +kernel) ?_
        refine k_div F (by omega) (by omega) dL_act_208 ?_
        refine k_bipush F dL_act_209 (by decide +kernel) ?_
        refine k_rem F (by omega) (by omega) dL_act_211 ?_
        refine k_isub F rfl dL_act_212 ?_
        rw [show ((acF x - (((x / 16) / 30) % 15)) : Int) = acG x from rfl]
        refine lv_istore (lv' := [(9, .int (iI (acG x))), (8, .int (iI (acF x))), (7, .int (iI (acp σ x))), (6, .int (iI (acs σ x))), (5, .int (iI (x / 16))), (0, .ref (B 5)), (1, .ref nn), (2, .ref am), (3, .int (iI x)), (4, .int (iI u))]) F.1 F.2.1 dL_act_213 hl (by decide) rfl (fun ls hl => ?_)
        refine lv_iload F.1 F.2.1 dL_act_215 (lv_at hl 0 rfl) ?_
        refine lv_iload F.1 F.2.1 dL_act_217 (lv_at hl 4 rfl) ?_
        refine k_sipush F dL_act_219 (by decide +kernel) ?_
        refine k_div F (by omega) (by omega) dL_act_222 ?_
        refine k_iconst F dL_act_223 ?_
        refine k_rem F (by omega) (by omega) dL_act_224 ?_
        refine k_isub F rfl dL_act_225 ?_
        rw [show ((acG x - (((x / 16) / 450) % 4)) : Int) = acH x from rfl]
        refine lv_istore (lv' := [(10, .int (iI (acH x))), (9, .int (iI (acG x))), (8, .int (iI (acF x))), (7, .int (iI (acp σ x))), (6, .int (iI (acs σ x))), (5, .int (iI (x / 16))), (0, .ref (B 5)), (1, .ref nn), (2, .ref am), (3, .int (iI x)), (4, .int (iI u))]) F.1 F.2.1 dL_act_226 hl (by decide) rfl (fun ls hl => ?_)
        refine lv_iload F.1 F.2.1 dL_act_228 (lv_at hl 0 rfl) ?_
        refine lv_iload F.1 F.2.1 dL_act_230 (lv_at hl 5 rfl) ?_
        refine k_sipush F dL_act_232 (by decide +kernel) ?_
        refine k_div F (by omega) (by omega) dL_act_235 ?_
        refine k_bipush F dL_act_236 (by decide +kernel) ?_
        refine k_rem F (by omega) (by omega) dL_act_238 ?_
        have J258 : ∀ w4 : Int, w4 = acD x → ∀ (P : Nat → Nat → Nat) (H : Heap) (locs : List Loc), gP G (A2 G nn am fn fm ++ DW G B P σ) H → va_D AA (A2 G nn am fn fm ++ DW G B P σ) → va_S AA sS.heap H locs → ∀ ls : Array Slot, lv_has ls 13 [(10, .int (iI (acH x))), (9, .int (iI (acG x))), (8, .int (iI (acF x))), (7, .int (iI (acp σ x))), (6, .int (iI (acs σ x))), (5, .int (iI (x / 16))), (0, .ref (B 5)), (1, .ref nn), (2, .ref am), (3, .int (iI x)), (4, .int (iI u))] → W pP l eE RR sS mM args bB meth cC H locs 0 0 (MQ bB (va_Qi (fun (r : Int32) (v : (Nat → Nat → Nat) × Sg) => ∃ z, r = iI z ∧ Ac u σ x z v.2) (fun v t9 => gP G (A2 G nn am fn fm ++ DW G B v.1 v.2) t9.heap ∧ va_D AA (A2 G nn am fn fm ++ DW G B v.1 v.2)) AA) args sS 6 120 AA) (F0 mM 258 ls [.int (iI w4)]) := by
          intro w4 hj258_0 P H locs hP hD hS ls hl
          subst hj258_0
          refine lv_istore (lv' := [(11, .int (iI (acD x))), (10, .int (iI (acH x))), (9, .int (iI (acG x))), (8, .int (iI (acF x))), (7, .int (iI (acp σ x))), (6, .int (iI (acs σ x))), (5, .int (iI (x / 16))), (0, .ref (B 5)), (1, .ref nn), (2, .ref am), (3, .int (iI x)), (4, .int (iI u))]) F.1 F.2.1 dL_act_258 hl (by decide) rfl (fun ls hl => ?_)
          refine lv_aload_n F.1 F.2.1 dL_act_260 rfl (lv_at hl 7 rfl) ?_
          refine lv_iload F.1 F.2.1 dL_act_261 (lv_at hl 3 rfl) ?_
          refine lv_iload F.1 F.2.1 dL_act_263 (lv_at hl 11 rfl) ?_
          refine k_iadd F rfl dL_act_265 ?_
          refine lv_iload F.1 F.2.1 dL_act_266 (lv_at hl 2 rfl) ?_
          refine lv_iload F.1 F.2.1 dL_act_268 (lv_at hl 11 rfl) ?_
          refine k_iadd F rfl dL_act_270 ?_
          refine lv_iload F.1 F.2.1 dL_act_271 (lv_at hl 1 rfl) ?_
          refine lv_iload F.1 F.2.1 dL_act_273 (lv_at hl 11 rfl) ?_
          refine k_iadd F rfl dL_act_275 ?_
          refine lv_iload F.1 F.2.1 dL_act_276 (lv_at hl 0 rfl) ?_
          refine lv_iload F.1 F.2.1 dL_act_278 (lv_at hl 11 rfl) ?_
          refine k_iadd F rfl dL_act_280 ?_
          refine j_call F (n := 5) (wr := A2 G nn am fn fm) (B := B) (P := P) (σ := σ) (τ' := stt (kChd σ (acF x + u) (acG x + u) (acH x + u) (acD x + u)) (sChd σ (acF x + u) (acG x + u) (acH x + u) (acD x + u)) σ) (z' := an (kChd σ (acF x + u) (acG x + u) (acH x + u) (acD x + u)) (σ 8 (σ 2 0 0).toNat 0 + 1) (-2000000002) (-2000000003) (-2000000003)) (mL_chords l hfl G z0 _ B P σ (acF x + u) (acG x + u) (acH x + u) (acD x + u) (by omega) (by omega) (by omega) (by omega) hI) rfl rfl gL_act_L_chords rfl rfl rfl (by decide +kernel) ⟨by rw [hRb.1]; exact Nat.le_of_ble_eq_true rfl, by rw [hRb.2]; exact Nat.le_of_ble_eq_true rfl⟩ hK hP hD hz hAz hS hA rfl rfl hl.1 (Nat.le_of_ble_eq_true rfl) dL_act_281 ⟨by omega, by omega⟩ (fun P H locs hP hD hS => ?_)
          refine W.widen (k := 6) (n := 120) (by omega) (by omega) ?_
          exact W.iret F.1 F.2.1 hr (fun t9 ht _ => ⟨⟨_, (P, stt (kChd σ (acF x + u) (acG x + u) (acH x + u) (acD x + u)) (sChd σ (acF x + u) (acG x + u) (acH x + u) (acD x + u)) σ), rfl, ⟨_, rfl, by unfold Ac; rw [if_neg (by omega), if_neg (by omega), if_neg (by omega), if_pos (by omega)]; exact ⟨rfl, rfl⟩⟩, by rw [ht]; exact hP, hD⟩, hS.F ht⟩) hS.2.2 dL_act_284 hlocks
        refine k_icmp_ge F (tgt := 246) dL_act_239 (by decide) (by omega) (by omega) (fun c_2 => ?_) (fun c_2 => ?_)
        · skip
          refine lv_iload F.1 F.2.1 dL_act_246 (lv_at hl 0 rfl) ?_
          refine lv_iload F.1 F.2.1 dL_act_248 (lv_at hl 5 rfl) ?_
          refine k_sipush F dL_act_250 (by decide +kernel) ?_
          refine k_div F (by omega) (by omega) dL_act_253 ?_
          refine k_bipush F dL_act_254 (by decide +kernel) ?_
          refine k_rem F (by omega) (by omega) dL_act_256 ?_
          refine k_isub F rfl dL_act_257 ?_
          refine W.widen (k := 0) (n := 0) (by omega) (by omega) ?_
          exact J258 (acH x - (((x / 16) / 1800) % 8)) (by unfold acD; first | rw [if_pos (by omega)] | rw [if_neg (by omega)]) P _ _ hP hD hS _ (lv_sub hl [0, 1, 2, 3, 4, 5, 6, 7, 8, 9, 10] rfl)
        · skip
          refine k_iconst F dL_act_242 ?_
          refine lv_goto (tgt := 258) F.1 F.2.1 dL_act_243 (by decide) ?_
          refine W.widen (k := 0) (n := 0) (by omega) (by omega) ?_
          exact J258 0 (by unfold acD; first | rw [if_pos (by omega)] | rw [if_neg (by omega)]) P _ _ hP hD hS _ (lv_sub hl [0, 1, 2, 3, 4, 5, 6, 7, 8, 9, 10] rfl)
      have K285 : (11 ≤ x % 16 ∧ x % 16 < 13) → W pP l eE RR sS mM args bB meth cC H locs 0 0 (MQ bB (va_Qi (fun (r : Int32) (v : (Nat → Nat → Nat) × Sg) => ∃ z, r = iI z ∧ Ac u σ x z v.2) (fun v t9 => gP G (A2 G nn am fn fm ++ DW G B v.1 v.2) t9.heap ∧ va_D AA (A2 G nn am fn fm ++ DW G B v.1 v.2)) AA) args sS 6 120 AA) (F0 mM 285 ls []) := by
        intro hx16
        refine lv_aload_n F.1 F.2.1 dL_act_285 rfl (lv_at hl 3 rfl) ?_
        refine k_iconst F dL_act_286 ?_
        refine lv_iload F.1 F.2.1 dL_act_287 (lv_at hl 2 rfl) ?_
        refine lv_iload F.1 F.2.1 dL_act_289 (lv_at hl 2 rfl) ?_
        refine k_iconst F dL_act_291 ?_
        refine k_rem F (by omega) (by omega) dL_act_292 ?_
        have J303 : ∀ dv : Int, (dv = 5 ∨ dv = 600) ∧ dv = (if (x / 16) % 3 = 0 then 5 else 600) → ∀ (P : Nat → Nat → Nat) (H : Heap) (locs : List Loc), gP G (A2 G nn am fn fm ++ DW G B P σ) H → va_D AA (A2 G nn am fn fm ++ DW G B P σ) → va_S AA sS.heap H locs → ∀ ls : Array Slot, lv_has ls 13 [(7, .int (iI (acp σ x))), (6, .int (iI (acs σ x))), (5, .int (iI (x / 16))), (0, .ref (B 5)), (1, .ref nn), (2, .ref am), (3, .int (iI x)), (4, .int (iI u))] → W pP l eE RR sS mM args bB meth cC H locs 0 0 (MQ bB (va_Qi (fun (r : Int32) (v : (Nat → Nat → Nat) × Sg) => ∃ z, r = iI z ∧ Ac u σ x z v.2) (fun v t9 => gP G (A2 G nn am fn fm ++ DW G B v.1 v.2) t9.heap ∧ va_D AA (A2 G nn am fn fm ++ DW G B v.1 v.2)) AA) args sS 6 120 AA) (F0 mM 303 ls [.int (iI dv), .int (iI (x / 16)), .int (iI 1), .ref (B 5)]) := by
          intro dv hj303_0 P H locs hP hD hS ls hl
          refine k_rem F (by omega) (by omega) dL_act_303 ?_
          refine k_iadd F rfl dL_act_304 ?_
          rw [show ((1 + ((x / 16) % dv)) : Int) = acL x from by unfold acL; rw [hj303_0.2]]
          have rl := acL_rg (x := x) hx.1
          refine j_call F (n := 2) (wr := A2 G nn am fn fm) (B := B) (P := P) (σ := σ) (τ' := stt (kPce σ (acL x)) (sPce σ (acL x)) σ) (z' := an (kPce σ (acL x)) (σ 2 0 0) (-2000000002) (-2000000003) (-2000000003)) (mL_pieces l hfl G z0 _ B P σ (acL x) (by omega) hI) rfl rfl gL_act_L_pieces rfl rfl rfl (by decide +kernel) ⟨by rw [hRb.1]; exact Nat.le_of_ble_eq_true rfl, by rw [hRb.2]; exact Nat.le_of_ble_eq_true rfl⟩ hK hP hD hz hAz hS hA rfl rfl hl.1 (Nat.le_of_ble_eq_true rfl) dL_act_305 ⟨by omega, by omega⟩ (fun P H locs hP hD hS => ?_)
          refine W.widen (k := 6) (n := 120) (by omega) (by omega) ?_
          exact W.iret F.1 F.2.1 hr (fun t9 ht _ => ⟨⟨_, (P, stt (kPce σ (acL x)) (sPce σ (acL x)) σ), rfl, ⟨_, rfl, by unfold Ac; rw [if_neg (by omega), if_neg (by omega), if_neg (by omega), if_neg (by omega), if_pos (by omega)]; exact ⟨rfl, rfl⟩⟩, by rw [ht]; exact hP, hD⟩, hS.F ht⟩) hS.2.2 dL_act_308 hlocks
        refine k_if_ne F (tgt := 300) dL_act_293 (by decide) (by omega) (fun c_3 => ?_) (fun c_3 => ?_)
        · skip
          refine k_sipush F dL_act_300 (by decide +kernel) ?_
          refine W.widen (k := 0) (n := 0) (by omega) (by omega) ?_
          exact J303 600 ⟨by omega, by first | rw [if_pos (by omega)] | rw [if_neg (by omega)]⟩ P _ _ hP hD hS _ (lv_sub hl [0, 1, 2, 3, 4, 5, 6, 7] rfl)
        · skip
          refine k_iconst F dL_act_296 ?_
          refine lv_goto (tgt := 303) F.1 F.2.1 dL_act_297 (by decide) ?_
          refine W.widen (k := 0) (n := 0) (by omega) (by omega) ?_
          exact J303 5 ⟨by omega, by first | rw [if_pos (by omega)] | rw [if_neg (by omega)]⟩ P _ _ hP hD hS _ (lv_sub hl [0, 1, 2, 3, 4, 5, 6, 7] rfl)
      have K309 : x % 16 = 13 → W pP l eE RR sS mM args bB meth cC H locs 0 0 (MQ bB (va_Qi (fun (r : Int32) (v : (Nat → Nat → Nat) × Sg) => ∃ z, r = iI z ∧ Ac u σ x z v.2) (fun v t9 => gP G (A2 G nn am fn fm ++ DW G B v.1 v.2) t9.heap ∧ va_D AA (A2 G nn am fn fm ++ DW G B v.1 v.2)) AA) args sS 6 120 AA) (F0 mM 309 ls []) := by
        intro hx16
        refine lv_aload_n F.1 F.2.1 dL_act_309 rfl (lv_at hl 3 rfl) ?_
        refine lv_iload F.1 F.2.1 dL_act_310 (lv_at hl 0 rfl) ?_
        refine lv_aload_n F.1 F.2.1 dL_act_312 rfl (lv_at hl 4 rfl) ?_
        refine k_iconst F dL_act_313 ?_
        refine k_iald F hK hP 0 rfl 1 rfl (by decide) (by decide) hnf.2.1 dL_act_314 ?_
        have J332 : ∀ w5 : Int, w5 = acc σ x → ∀ (P : Nat → Nat → Nat) (H : Heap) (locs : List Loc), gP G (A2 G nn am fn fm ++ DW G B P σ) H → va_D AA (A2 G nn am fn fm ++ DW G B P σ) → va_S AA sS.heap H locs → ∀ ls : Array Slot, lv_has ls 13 [(7, .int (iI (acp σ x))), (6, .int (iI (acs σ x))), (5, .int (iI (x / 16))), (0, .ref (B 5)), (1, .ref nn), (2, .ref am), (3, .int (iI x)), (4, .int (iI u))] → W pP l eE RR sS mM args bB meth cC H locs 0 0 (MQ bB (va_Qi (fun (r : Int32) (v : (Nat → Nat → Nat) × Sg) => ∃ z, r = iI z ∧ Ac u σ x z v.2) (fun v t9 => gP G (A2 G nn am fn fm ++ DW G B v.1 v.2) t9.heap ∧ va_D AA (A2 G nn am fn fm ++ DW G B v.1 v.2)) AA) args sS 6 120 AA) (F0 mM 332 ls [.int (iI w5), .int (iI (acp σ x)), .ref (B 5)]) := by
          intro w5 hj332_0 P H locs hP hD hS ls hl
          subst hj332_0
          have rc := acc_rg hI (x := x) hx.1
          have r89 := hb8 (acp σ x).toNat
          refine lv_iload F.1 F.2.1 dL_act_332 (lv_at hl 2 rfl) ?_
          refine k_bipush F dL_act_334 (by decide +kernel) ?_
          refine k_div F (by omega) (by omega) dL_act_336 ?_
          refine k_iconst F dL_act_337 ?_
          refine k_rem F (by omega) (by omega) dL_act_338 ?_
          refine lv_iload F.1 F.2.1 dL_act_339 (lv_at hl 2 rfl) ?_
          refine k_sipush F dL_act_341 (by decide +kernel) ?_
          refine k_div F (by omega) (by omega) dL_act_344 ?_
          refine k_bipush F dL_act_345 (by decide +kernel) ?_
          refine k_rem F (by omega) (by omega) dL_act_347 ?_
          refine lv_iload F.1 F.2.1 dL_act_348 (lv_at hl 7 rfl) ?_
          refine k_iadd F rfl dL_act_350 ?_
          refine j_call F (n := 5) (wr := A2 G nn am fn fm) (B := B) (P := P) (σ := σ) (τ' := stt (kSet σ (acp σ x) (acc σ x) (((x / 16) / 96) % 4) ((((x / 16) / 384) % 54) + u)) (sSet σ (acp σ x) (acc σ x) (((x / 16) / 96) % 4) ((((x / 16) / 384) % 54) + u)) σ) (z' := an (kSet σ (acp σ x) (acc σ x) (((x / 16) / 96) % 4) ((((x / 16) / 384) % 54) + u)) (σ 7 (acp σ x).toNat (4 * (acc σ x).toNat + (((x / 16) / 96) % 4).toNat)) (-2000000001) (-2000000002) (-2000000003)) (mL_tones l hfl G z0 _ B P σ (acp σ x) (acc σ x) (((x / 16) / 96) % 4) ((((x / 16) / 384) % 54) + u) (by omega) (by omega) (by omega) (by omega) hI) rfl rfl gL_act_L_tones rfl rfl rfl (by decide +kernel) ⟨by rw [hRb.1]; exact Nat.le_of_ble_eq_true rfl, by rw [hRb.2]; exact Nat.le_of_ble_eq_true rfl⟩ hK hP hD hz hAz hS hA rfl rfl hl.1 (Nat.le_of_ble_eq_true rfl) dL_act_351 ⟨by omega, by omega⟩ (fun P H locs hP hD hS => ?_)
          have r9 := hI.2.2.2.2.2.2.2.2.2.1 (acp σ x).toNat (4 * (acc σ x).toNat + (((x / 16) / 96) % 4).toNat)
          have rw9 := an_rg (K := kSet σ (acp σ x) (acc σ x) (((x / 16) / 96) % 4) ((((x / 16) / 384) % 54) + u)) (V := σ 7 (acp σ x).toNat (4 * (acc σ x).toNat + (((x / 16) / 96) % 4).toNat)) (a := -2000000001) (b := -2000000002) (c := -2000000003) (fun _ => by omega) (by decide) (by decide) (by decide)
          refine lv_istore (lv' := [(12, .int (iI (an (kSet σ (acp σ x) (acc σ x) (((x / 16) / 96) % 4) ((((x / 16) / 384) % 54) + u)) (σ 7 (acp σ x).toNat (4 * (acc σ x).toNat + (((x / 16) / 96) % 4).toNat)) (-2000000001) (-2000000002) (-2000000003)))), (7, .int (iI (acp σ x))), (6, .int (iI (acs σ x))), (5, .int (iI (x / 16))), (0, .ref (B 5)), (1, .ref nn), (2, .ref am), (3, .int (iI x)), (4, .int (iI u))]) F.1 F.2.1 dL_act_354 hl (by decide) rfl (fun ls hl => ?_)
          refine lv_iload F.1 F.2.1 dL_act_356 (lv_at hl 0 rfl) ?_
          refine k_if_ge F (tgt := 366) dL_act_358 (by decide) (by omega) (fun c_4 => ?_) (fun c_4 => ?_)
          · skip
            refine lv_iload F.1 F.2.1 dL_act_366 (lv_at hl 0 rfl) ?_
            refine lv_iload F.1 F.2.1 dL_act_368 (lv_at hl 8 rfl) ?_
            refine k_isub F rfl dL_act_370 ?_
            refine W.widen (k := 6) (n := 120) (by omega) (by omega) ?_
            exact W.iret F.1 F.2.1 hr (fun t9 ht _ => ⟨⟨_, (P, stt (kSet σ (acp σ x) (acc σ x) (((x / 16) / 96) % 4) ((((x / 16) / 384) % 54) + u)) (sSet σ (acp σ x) (acc σ x) (((x / 16) / 96) % 4) ((((x / 16) / 384) % 54) + u)) σ), rfl, ⟨_, rfl, by unfold Ac; rw [if_neg (by omega), if_neg (by omega), if_neg (by omega), if_neg (by omega), if_neg (by omega), if_pos (by omega)]; exact ⟨⟨_, rfl, by rw [if_neg (by omega)]⟩, rfl⟩⟩, by rw [ht]; exact hP, hD⟩, hS.F ht⟩) hS.2.2 dL_act_371 hlocks
          · skip
            refine lv_iload F.1 F.2.1 dL_act_361 (lv_at hl 0 rfl) ?_
            refine lv_goto (tgt := 371) F.1 F.2.1 dL_act_363 (by decide) ?_
            refine W.widen (k := 6) (n := 120) (by omega) (by omega) ?_
            exact W.iret F.1 F.2.1 hr (fun t9 ht _ => ⟨⟨_, (P, stt (kSet σ (acp σ x) (acc σ x) (((x / 16) / 96) % 4) ((((x / 16) / 384) % 54) + u)) (sSet σ (acp σ x) (acc σ x) (((x / 16) / 96) % 4) ((((x / 16) / 384) % 54) + u)) σ), rfl, ⟨_, rfl, by unfold Ac; rw [if_neg (by omega), if_neg (by omega), if_neg (by omega), if_neg (by omega), if_neg (by omega), if_pos (by omega)]; exact ⟨⟨_, rfl, by rw [if_pos (by omega)]⟩, rfl⟩⟩, by rw [ht]; exact hP, hD⟩, hS.F ht⟩) hS.2.2 dL_act_371 hlocks
        refine k_if_ne F (tgt := 322) dL_act_315 (by decide) (by omega) (fun c_5 => ?_) (fun c_5 => ?_)
        · skip
          have r8 := hI.2.2.2.2.2.2.2.1 (acp σ x).toNat (by omega)
          have r9 := hb8 (acp σ x).toNat
          refine lv_iload F.1 F.2.1 dL_act_322 (lv_at hl 2 rfl) ?_
          refine k_bipush F dL_act_324 (by decide +kernel) ?_
          refine k_div F (by omega) (by omega) dL_act_326 ?_
          refine lv_aload_n F.1 F.2.1 dL_act_327 rfl (lv_at hl 5 rfl) ?_
          refine lv_iload F.1 F.2.1 dL_act_328 (lv_at hl 0 rfl) ?_
          refine k_iald F hK hP 1 rfl ((acp σ x).toNat) (by omega) (by omega) (by decide) (hmf _ (by omega)) dL_act_330 ?_
          refine k_rem F (by omega) (by omega) dL_act_331 ?_
          refine W.widen (k := 0) (n := 0) (by omega) (by omega) ?_
          exact J332 (((x / 16) / 6) % (σ 8 (acp σ x).toNat 0)) (by unfold acc; first | rw [if_pos (by omega)] | rw [if_neg (by omega)]) P _ _ hP hD hS _ (lv_sub hl [0, 1, 2, 3, 4, 5, 6, 7] rfl)
        · skip
          refine k_iconst F dL_act_318 ?_
          refine lv_goto (tgt := 332) F.1 F.2.1 dL_act_319 (by decide) ?_
          refine W.widen (k := 0) (n := 0) (by omega) (by omega) ?_
          exact J332 0 (by unfold acc; first | rw [if_pos (by omega)] | rw [if_neg (by omega)]) P _ _ hP hD hS _ (lv_sub hl [0, 1, 2, 3, 4, 5, 6, 7] rfl)
      have K372 : 14 ≤ x % 16 → W pP l eE RR sS mM args bB meth cC H locs 0 0 (MQ bB (va_Qi (fun (r : Int32) (v : (Nat → Nat → Nat) × Sg) => ∃ z, r = iI z ∧ Ac u σ x z v.2) (fun v t9 => gP G (A2 G nn am fn fm ++ DW G B v.1 v.2) t9.heap ∧ va_D AA (A2 G nn am fn fm ++ DW G B v.1 v.2)) AA) args sS 6 120 AA) (F0 mM 372 ls []) := by
        intro hx16
        refine lv_aload_n F.1 F.2.1 dL_act_372 rfl (lv_at hl 3 rfl) ?_
        refine lv_iload F.1 F.2.1 dL_act_373 (lv_at hl 0 rfl) ?_
        refine k_iconst F dL_act_375 ?_
        refine lv_iload F.1 F.2.1 dL_act_376 (lv_at hl 2 rfl) ?_
        refine k_bipush F dL_act_378 (by decide +kernel) ?_
        refine k_div F (by omega) (by omega) dL_act_380 ?_
        refine k_bipush F dL_act_381 (by decide +kernel) ?_
        refine k_rem F (by omega) (by omega) dL_act_383 ?_
        refine k_iadd F rfl dL_act_384 ?_
        refine j_call F (n := 3) (wr := A2 G nn am fn fm) (B := B) (P := P) (σ := σ) (τ' := stt (kReh σ (acp σ x) (1 + (((x / 16) / 6) % 6))) ((rhS σ (acp σ x).toNat (1 + (((x / 16) / 6) % 6)).toNat)) σ) (z' := an (kReh σ (acp σ x) (1 + (((x / 16) / 6) % 6))) (wsm (rhS σ (acp σ x).toNat (1 + (((x / 16) / 6) % 6)).toNat) (acp σ x).toNat ((rhS σ (acp σ x).toNat (1 + (((x / 16) / 6) % 6)).toNat) 8 (acp σ x).toNat 0).toNat) (-2000000001) (-2000000002) (-2000000002)) (mL_rehearses l hfl G z0 _ B P σ (acp σ x) (1 + (((x / 16) / 6) % 6)) (by omega) (by omega) hI (by omega)) rfl rfl gL_act_L_rehearses rfl rfl rfl (by decide +kernel) ⟨by rw [hRb.1]; exact Nat.le_of_ble_eq_true rfl, by rw [hRb.2]; exact Nat.le_of_ble_eq_true rfl⟩ hK hP hD hz hAz hS hA rfl rfl hl.1 (Nat.le_of_ble_eq_true rfl) dL_act_385 ⟨by omega, by omega⟩ (fun P H locs hP hD hS => ?_)
        refine W.widen (k := 6) (n := 120) (by omega) (by omega) ?_
        exact W.iret F.1 F.2.1 hr (fun t9 ht _ => ⟨⟨_, (P, stt (kReh σ (acp σ x) (1 + (((x / 16) / 6) % 6))) ((rhS σ (acp σ x).toNat (1 + (((x / 16) / 6) % 6)).toNat)) σ), rfl, ⟨_, rfl, by unfold Ac; rw [if_neg (by omega), if_neg (by omega), if_neg (by omega), if_neg (by omega), if_neg (by omega), if_neg (by omega)]; exact ⟨rfl, rfl⟩⟩, by rw [ht]; exact hP, hD⟩, hS.F ht⟩) hS.2.2 dL_act_388 hlocks
      have hjj : x % 16 = 0 ∨ x % 16 = 1 ∨ x % 16 = 2 ∨ x % 16 = 3 ∨ x % 16 = 4 ∨ x % 16 = 5 ∨ x % 16 = 6 ∨ x % 16 = 7 ∨ x % 16 = 8 ∨ x % 16 = 9 ∨ x % 16 = 10 ∨ x % 16 = 11 ∨ x % 16 = 12 ∨ x % 16 = 13 ∨ 14 ≤ x % 16 := by omega
      rcases hjj with hjj | hjj | hjj | hjj | hjj | hjj | hjj | hjj | hjj | hjj | hjj | hjj | hjj | hjj | hjj
      · skip
        rw [hjj]
        refine lv_tableIn (off := 70) (tgt := 116) F.1 F.2.1 dL_act_46 (by decide +kernel) (by decide +kernel) (by decide +kernel) (by decide) ?_
        exact K116 (by omega)
      · skip
        rw [hjj]
        refine lv_tableIn (off := 70) (tgt := 116) F.1 F.2.1 dL_act_46 (by decide +kernel) (by decide +kernel) (by decide +kernel) (by decide) ?_
        exact K116 (by omega)
      · skip
        rw [hjj]
        refine lv_tableIn (off := 70) (tgt := 116) F.1 F.2.1 dL_act_46 (by decide +kernel) (by decide +kernel) (by decide +kernel) (by decide) ?_
        exact K116 (by omega)
      · skip
        rw [hjj]
        refine lv_tableIn (off := 103) (tgt := 149) F.1 F.2.1 dL_act_46 (by decide +kernel) (by decide +kernel) (by decide +kernel) (by decide) ?_
        exact K149 (by omega)
      · skip
        rw [hjj]
        refine lv_tableIn (off := 103) (tgt := 149) F.1 F.2.1 dL_act_46 (by decide +kernel) (by decide +kernel) (by decide +kernel) (by decide) ?_
        exact K149 (by omega)
      · skip
        rw [hjj]
        refine lv_tableIn (off := 132) (tgt := 178) F.1 F.2.1 dL_act_46 (by decide +kernel) (by decide +kernel) (by decide +kernel) (by decide) ?_
        exact K178 (by omega)
      · skip
        rw [hjj]
        refine lv_tableIn (off := 146) (tgt := 192) F.1 F.2.1 dL_act_46 (by decide +kernel) (by decide +kernel) (by decide +kernel) (by decide) ?_
        exact K192 (by omega)
      · skip
        rw [hjj]
        refine lv_tableIn (off := 146) (tgt := 192) F.1 F.2.1 dL_act_46 (by decide +kernel) (by decide +kernel) (by decide +kernel) (by decide) ?_
        exact K192 (by omega)
      · skip
        rw [hjj]
        refine lv_tableIn (off := 146) (tgt := 192) F.1 F.2.1 dL_act_46 (by decide +kernel) (by decide +kernel) (by decide +kernel) (by decide) ?_
        exact K192 (by omega)
      · skip
        rw [hjj]
        refine lv_tableIn (off := 146) (tgt := 192) F.1 F.2.1 dL_act_46 (by decide +kernel) (by decide +kernel) (by decide +kernel) (by decide) ?_
        exact K192 (by omega)
      · skip
        rw [hjj]
        refine lv_tableIn (off := 146) (tgt := 192) F.1 F.2.1 dL_act_46 (by decide +kernel) (by decide +kernel) (by decide +kernel) (by decide) ?_
        exact K192 (by omega)
      · skip
        rw [hjj]
        refine lv_tableIn (off := 239) (tgt := 285) F.1 F.2.1 dL_act_46 (by decide +kernel) (by decide +kernel) (by decide +kernel) (by decide) ?_
        exact K285 (by omega)
      · skip
        rw [hjj]
        refine lv_tableIn (off := 239) (tgt := 285) F.1 F.2.1 dL_act_46 (by decide +kernel) (by decide +kernel) (by decide +kernel) (by decide) ?_
        exact K285 (by omega)
      · skip
        rw [hjj]
        refine lv_tableIn (off := 263) (tgt := 309) F.1 F.2.1 dL_act_46 (by decide +kernel) (by decide +kernel) (by decide +kernel) (by decide) ?_
        exact K309 (by omega)
      · skip
        refine lv_tableOut (tgt := 372) F.1 F.2.1 dL_act_46 (Or.inr (by rw [iI_toInt (by omega)]; omega)) (by decide) ?_
        exact K372 (by omega)
    refine k_if_ne F (tgt := 34) dL_act_27 (by decide) (by omega) (fun c_6 => ?_) (fun c_6 => ?_)
    · skip
      refine lv_iload F.1 F.2.1 dL_act_34 (lv_at hl 1 rfl) ?_
      refine lv_aload_n F.1 F.2.1 dL_act_36 rfl (lv_at hl 3 rfl) ?_
      refine k_iconst F dL_act_37 ?_
      refine k_iald F hK hP 0 rfl 1 rfl (by decide) (by decide) hnf.2.1 dL_act_38 ?_
      refine k_rem F (by omega) (by omega) dL_act_39 ?_
      refine W.widen (k := 0) (n := 0) (by omega) (by omega) ?_
      exact J40 ((x / 16) % (σ 2 0 0)) (by unfold acp; first | rw [if_pos (by omega)] | rw [if_neg (by omega)]) P _ _ hP hD hS _ (lv_sub hl [0, 1, 2, 3, 4, 5, 6] rfl)
    · skip
      refine k_iconst F dL_act_30 ?_
      refine lv_goto (tgt := 40) F.1 F.2.1 dL_act_31 (by decide) ?_
      refine W.widen (k := 0) (n := 0) (by omega) (by omega) ?_
      exact J40 0 (by unfold acp; first | rw [if_pos (by omega)] | rw [if_neg (by omega)]) P _ _ hP hD hS _ (lv_sub hl [0, 1, 2, 3, 4, 5, 6] rfl)
  refine k_if_ne F (tgt := 16) dL_act_9 (by decide) (by omega) (fun c_7 => ?_) (fun c_7 => ?_)
  · skip
    refine lv_iload F.1 F.2.1 dL_act_16 (lv_at hl 0 rfl) ?_
    refine lv_aload_n F.1 F.2.1 dL_act_18 rfl (lv_at hl 2 rfl) ?_
    refine k_iconst F dL_act_19 ?_
    refine k_iald F hK hP 0 rfl 0 rfl (by decide) (by decide) hnf.1 dL_act_20 ?_
    refine k_rem F (by omega) (by omega) dL_act_21 ?_
    refine W.widen (k := 0) (n := 0) (by omega) (by omega) ?_
    exact J22 ((x / 16) % (σ 1 0 0)) (by unfold acs; first | rw [if_pos (by omega)] | rw [if_neg (by omega)]) P _ _ hP hD hS _ (lv_sub hl [0, 1, 2, 3, 4, 5] rfl)
  · skip
    refine k_iconst F dL_act_12 ?_
    refine lv_goto (tgt := 22) F.1 F.2.1 dL_act_13 (by decide) ?_
    refine W.widen (k := 0) (n := 0) (by omega) (by omega) ?_
    exact J22 0 (by unfold acs; first | rw [if_pos (by omega)] | rw [if_neg (by omega)]) P _ _ hP hD hS _ (lv_sub hl [0, 1, 2, 3, 4, 5] rfl)
