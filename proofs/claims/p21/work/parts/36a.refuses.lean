set_option maxHeartbeats 8000000 in
set_option maxRecDepth 100000 in
theorem mL_refuses (l : Launch) (hfl : l.stackTraces = false) (G : gT) (z0 sz0 : Nat) (B : Nat → Nat) (P : Nat → Nat → Nat) (σ : Sg) (an am : Nat) (fn fm : Nat → Int) (x : Int) (hx : 0 ≤ x ∧ x ≤ 9972) {N : Nat} (hI : Jv σ N) (hN5 : N ≤ 500) (hnf : NF fn σ) (hmf : MF fm σ) : Met l yL_refuses wsL_refuses { frames := 9, cells := 320, slots := 2400, locals := 200 } (va_Pc [.ref (B 5), .ref an, .ref am, .int (iI x)] (qB G (A2 G an am fn fm ++ DW G B P σ) z0 sz0)) (va_Qi (fun (r : Int32) (u : Nat → Nat → Nat) => r = iI 1) (fun u t9 => gP G (A2 G an am fn fm ++ DW G B u σ) t9.heap ∧ va_D (va_A (A2 G an am fn fm ++ DW G B P σ) sz0) (A2 G an am fn fm ++ DW G B u σ)) (va_A (A2 G an am fn fm ++ DW G B P σ) sz0)) 320 2400 (va_A (A2 G an am fn fm ++ DW G B P σ) sz0) := by
  refine q_start (own := RL) (cc := cL_refuses) (mL := 12) (ret := (some .boolean)) (Qc := fun AA => (va_Qi (fun (r : Int32) (u : Nat → Nat → Nat) => r = iI 1) (fun u t9 => gP G (A2 G an am fn fm ++ DW G B u σ) t9.heap ∧ va_D AA (A2 G an am fn fm ++ DW G B u σ)) AA)) (by decide) rfl rfl (Nat.le_of_ble_eq_true rfl) ?_
  intro pP eE sS mM args bB meth cC ls AA F hr hlocks hz hAz hK hP hD hS hA hl
  have hl : lv_has ls 12 [(0, .ref (B 5)), (1, .ref an), (2, .ref am), (3, .int (iI x))] := hl
  have hRc : 320 ≤ ({ frames := 9, cells := 320, slots := 2400, locals := 200 } : Room).cells ∧ 2400 ≤ ({ frames := 9, cells := 320, slots := 2400, locals := 200 } : Room).slots := ⟨Nat.le_refl _, Nat.le_refl _⟩
  generalize hRR : ({ frames := 9, cells := 320, slots := 2400, locals := 200 } : Room) = RR at hRc ⊢
  have hRb : RR.frames = 9 ∧ RR.locals = 200 := by rw [← hRR]; exact ⟨rfl, rfl⟩
  have ⟨hb1, hb2, hb8⟩ := Jv_b hI
  have h8k := hb8 (σ 2 0 0).toNat
  refine lv_iload_n F.1 F.2.1 dL_refuses_0 rfl (lv_at hl 3 rfl) ?_
  refine k_iconst F dL_refuses_1 ?_
  refine k_rem F (by omega) (by omega) dL_refuses_2 ?_
  have J106 : ∀ lw : Int, ∀ no : Int, ∀ lo : Int, ∀ vo : Int, ∀ da : Int, (lw = 0 ∨ lw = 1) → (-60 ≤ no ∧ no ≤ 100 ∧ (no < 0 ∨ σ 1 0 0 ≤ no)) → (-60 ≤ lo ∧ lo ≤ 100 ∧ (lo < 0 ∨ σ 2 0 0 ≤ lo)) → (-60 ≤ vo ∧ vo ≤ 100 ∧ (vo < 0 ∨ 4 ≤ vo)) → (-60 ≤ da ∧ da ≤ 100 ∧ (da < 0 ∨ 31 ≤ da)) → ∀ (P : Nat → Nat → Nat) (H : Heap) (locs : List Loc), gP G (A2 G an am fn fm ++ DW G B P σ) H → va_D AA (A2 G an am fn fm ++ DW G B P σ) → va_S AA sS.heap H locs → ∀ ls : Array Slot, lv_has ls 12 [(0, .ref (B 5)), (1, .ref an), (2, .ref am), (3, .int (iI x)), (4, .int (iI lw)), (5, .int (iI no)), (6, .int (iI lo)), (7, .int (iI vo)), (8, .int (iI da))] → W pP l eE RR sS mM args bB meth cC H locs 0 0 (MQ bB (va_Qi (fun (r : Int32) (u : Nat → Nat → Nat) => r = iI 1) (fun u t9 => gP G (A2 G an am fn fm ++ DW G B u σ) t9.heap ∧ va_D AA (A2 G an am fn fm ++ DW G B u σ)) AA) args sS 320 2400 AA) (F0 mM 106 ls []) := by
    intro lw no lo vo da hj106_0 hj106_1 hj106_2 hj106_3 hj106_4 P H locs hP hD hS ls hl
    refine lv_aload_n F.1 F.2.1 dL_refuses_106 rfl (lv_at hl 0 rfl) ?_
    refine lv_iload F.1 F.2.1 dL_refuses_107 (lv_at hl 7 rfl) ?_
    refine k_iconst F dL_refuses_109 ?_
    refine k_iconst F dL_refuses_110 ?_
    refine j_call F (n := 4) (wr := A2 G an am fn fm) (B := B) (P := P) (σ := σ) (τ' := σ) (z' := (-2000000002)) (mL_singers l hfl G z0 _ B P σ vo 0 5 (by omega) (by omega) (by omega) hI) (an_1 (by unfold kAdd; (repeat' split) <;> omega)) (stt_n (by rw [show (kAdd σ vo 0 5 : Int) = 1 from by unfold kAdd; (repeat' split) <;> omega]; decide)) gL_refuses_L_singers rfl rfl rfl (by decide +kernel) ⟨by rw [hRb.1]; exact Nat.le_of_ble_eq_true rfl, by rw [hRb.2]; exact Nat.le_of_ble_eq_true rfl⟩ hK hP hD hz hAz hS hA rfl rfl hl.1 (Nat.le_of_ble_eq_true rfl) dL_refuses_111 ⟨by omega, by omega⟩ (fun P H locs hP hD hS => ?_)
    refine k_ldc F (v := -2000000002) (z := -2000000002) (by decide +kernel) (by decide +kernel) dL_refuses_114 ?_
    refine k_same_ne F (tgt := 552) dL_refuses_116 (by decide) ?_
    refine lv_aload_n F.1 F.2.1 dL_refuses_119 rfl (lv_at hl 0 rfl) ?_
    refine lv_iload_n F.1 F.2.1 dL_refuses_120 rfl (lv_at hl 3 rfl) ?_
    refine k_iconst F dL_refuses_121 ?_
    refine k_rem F (by omega) (by omega) dL_refuses_122 ?_
    refine k_iconst F dL_refuses_123 ?_
    refine lv_iload_n F.1 F.2.1 dL_refuses_124 rfl (lv_at hl 3 rfl) ?_
    refine k_isub F rfl dL_refuses_125 ?_
    refine k_iconst F dL_refuses_126 ?_
    refine j_call F (n := 4) (wr := A2 G an am fn fm) (B := B) (P := P) (σ := σ) (τ' := σ) (z' := (-2000000002)) (mL_singers l hfl G z0 _ B P σ (x % 4) ((-1) - x) 5 (by omega) (by omega) (by omega) hI) (an_1 (by unfold kAdd; (repeat' split) <;> omega)) (stt_n (by rw [show (kAdd σ (x % 4) ((-1) - x) 5 : Int) = 1 from by unfold kAdd; (repeat' split) <;> omega]; decide)) gL_refuses_L_singers rfl rfl rfl (by decide +kernel) ⟨by rw [hRb.1]; exact Nat.le_of_ble_eq_true rfl, by rw [hRb.2]; exact Nat.le_of_ble_eq_true rfl⟩ hK hP hD hz hAz hS hA rfl rfl hl.1 (Nat.le_of_ble_eq_true rfl) dL_refuses_127 ⟨by omega, by omega⟩ (fun P H locs hP hD hS => ?_)
    refine k_ldc F (v := -2000000002) (z := -2000000002) (by decide +kernel) (by decide +kernel) dL_refuses_130 ?_
    refine k_same_ne F (tgt := 552) dL_refuses_132 (by decide) ?_
    refine lv_aload_n F.1 F.2.1 dL_refuses_135 rfl (lv_at hl 0 rfl) ?_
    refine lv_iload_n F.1 F.2.1 dL_refuses_136 rfl (lv_at hl 3 rfl) ?_
    refine k_iconst F dL_refuses_137 ?_
    refine k_rem F (by omega) (by omega) dL_refuses_138 ?_
    refine k_bipush F dL_refuses_139 (by decide +kernel) ?_
    refine lv_iload_n F.1 F.2.1 dL_refuses_141 rfl (lv_at hl 3 rfl) ?_
    refine k_iadd F rfl dL_refuses_142 ?_
    refine k_bipush F dL_refuses_143 (by decide +kernel) ?_
    refine lv_iload_n F.1 F.2.1 dL_refuses_145 rfl (lv_at hl 3 rfl) ?_
    refine k_iadd F rfl dL_refuses_146 ?_
    refine j_call F (n := 4) (wr := A2 G an am fn fm) (B := B) (P := P) (σ := σ) (τ' := σ) (z' := (-2000000002)) (mL_singers l hfl G z0 _ B P σ (x % 4) (61 + x) (70 + x) (by omega) (by omega) (by omega) hI) (an_1 (by unfold kAdd; (repeat' split) <;> omega)) (stt_n (by rw [show (kAdd σ (x % 4) (61 + x) (70 + x) : Int) = 1 from by unfold kAdd; (repeat' split) <;> omega]; decide)) gL_refuses_L_singers rfl rfl rfl (by decide +kernel) ⟨by rw [hRb.1]; exact Nat.le_of_ble_eq_true rfl, by rw [hRb.2]; exact Nat.le_of_ble_eq_true rfl⟩ hK hP hD hz hAz hS hA rfl rfl hl.1 (Nat.le_of_ble_eq_true rfl) dL_refuses_147 ⟨by omega, by omega⟩ (fun P H locs hP hD hS => ?_)
    refine k_ldc F (v := -2000000002) (z := -2000000002) (by decide +kernel) (by decide +kernel) dL_refuses_150 ?_
    refine k_same_ne F (tgt := 552) dL_refuses_152 (by decide) ?_
    refine lv_aload_n F.1 F.2.1 dL_refuses_155 rfl (lv_at hl 0 rfl) ?_
    refine lv_iload_n F.1 F.2.1 dL_refuses_156 rfl (lv_at hl 3 rfl) ?_
    refine k_iconst F dL_refuses_157 ?_
    refine k_rem F (by omega) (by omega) dL_refuses_158 ?_
    refine k_iconst F dL_refuses_159 ?_
    refine k_iconst F dL_refuses_160 ?_
    refine j_call F (n := 4) (wr := A2 G an am fn fm) (B := B) (P := P) (σ := σ) (τ' := σ) (z' := (-2000000002)) (mL_singers l hfl G z0 _ B P σ (x % 4) 5 4 (by omega) (by omega) (by omega) hI) (an_1 (by unfold kAdd; (repeat' split) <;> omega)) (stt_n (by rw [show (kAdd σ (x % 4) 5 4 : Int) = 1 from by unfold kAdd; (repeat' split) <;> omega]; decide)) gL_refuses_L_singers rfl rfl rfl (by decide +kernel) ⟨by rw [hRb.1]; exact Nat.le_of_ble_eq_true rfl, by rw [hRb.2]; exact Nat.le_of_ble_eq_true rfl⟩ hK hP hD hz hAz hS hA rfl rfl hl.1 (Nat.le_of_ble_eq_true rfl) dL_refuses_161 ⟨by omega, by omega⟩ (fun P H locs hP hD hS => ?_)
    refine k_ldc F (v := -2000000002) (z := -2000000002) (by decide +kernel) (by decide +kernel) dL_refuses_164 ?_
    refine k_same_ne F (tgt := 552) dL_refuses_166 (by decide) ?_
    refine lv_aload_n F.1 F.2.1 dL_refuses_169 rfl (lv_at hl 0 rfl) ?_
    refine lv_iload_n F.1 F.2.1 dL_refuses_170 rfl (lv_at hl 3 rfl) ?_
    refine k_iconst F dL_refuses_171 ?_
    refine k_rem F (by omega) (by omega) dL_refuses_172 ?_
    refine k_iconst F dL_refuses_173 ?_
    refine k_bipush F dL_refuses_174 (by decide +kernel) ?_
    refine lv_iload_n F.1 F.2.1 dL_refuses_176 rfl (lv_at hl 3 rfl) ?_
    refine k_iadd F rfl dL_refuses_177 ?_
    refine j_call F (n := 4) (wr := A2 G an am fn fm) (B := B) (P := P) (σ := σ) (τ' := σ) (z' := (-2000000002)) (mL_singers l hfl G z0 _ B P σ (x % 4) 5 (61 + x) (by omega) (by omega) (by omega) hI) (an_1 (by unfold kAdd; (repeat' split) <;> omega)) (stt_n (by rw [show (kAdd σ (x % 4) 5 (61 + x) : Int) = 1 from by unfold kAdd; (repeat' split) <;> omega]; decide)) gL_refuses_L_singers rfl rfl rfl (by decide +kernel) ⟨by rw [hRb.1]; exact Nat.le_of_ble_eq_true rfl, by rw [hRb.2]; exact Nat.le_of_ble_eq_true rfl⟩ hK hP hD hz hAz hS hA rfl rfl hl.1 (Nat.le_of_ble_eq_true rfl) dL_refuses_178 ⟨by omega, by omega⟩ (fun P H locs hP hD hS => ?_)
    refine k_ldc F (v := -2000000002) (z := -2000000002) (by decide +kernel) (by decide +kernel) dL_refuses_181 ?_
    refine k_same_ne F (tgt := 552) dL_refuses_183 (by decide) ?_
    refine lv_aload_n F.1 F.2.1 dL_refuses_186 rfl (lv_at hl 0 rfl) ?_
    refine lv_iload F.1 F.2.1 dL_refuses_187 (lv_at hl 5 rfl) ?_
    refine lv_iload F.1 F.2.1 dL_refuses_189 (lv_at hl 8 rfl) ?_
    refine k_iconst F dL_refuses_191 ?_
    refine j_call F (n := 4) (wr := A2 G an am fn fm) (B := B) (P := P) (σ := σ) (τ' := σ) (z' := (-2000000001)) (mL_tells l hfl G z0 _ B P σ no da 1 (by omega) (by omega) (Or.inr rfl) hI) (an_1 (by unfold kTel; (repeat' split) <;> omega)) (stt_n (by rw [show (kTel σ no da : Int) = 1 from by unfold kTel; (repeat' split) <;> omega]; decide)) gL_refuses_L_tells rfl rfl rfl (by decide +kernel) ⟨by rw [hRb.1]; exact Nat.le_of_ble_eq_true rfl, by rw [hRb.2]; exact Nat.le_of_ble_eq_true rfl⟩ hK hP hD hz hAz hS hA rfl rfl hl.1 (Nat.le_of_ble_eq_true rfl) dL_refuses_192 ⟨by omega, by omega⟩ (fun P H locs hP hD hS => ?_)
    refine k_ldc F (v := -2000000001) (z := -2000000001) (by decide +kernel) (by decide +kernel) dL_refuses_195 ?_
    refine k_same_ne F (tgt := 552) dL_refuses_197 (by decide) ?_
    refine lv_aload_n F.1 F.2.1 dL_refuses_200 rfl (lv_at hl 0 rfl) ?_
    refine lv_iload F.1 F.2.1 dL_refuses_201 (lv_at hl 5 rfl) ?_
    refine lv_iload F.1 F.2.1 dL_refuses_203 (lv_at hl 7 rfl) ?_
    refine j_call F (n := 3) (wr := A2 G an am fn fm) (B := B) (P := P) (σ := σ) (τ' := σ) (z' := (-2000000001)) (mL_changes l hfl G z0 _ B P σ no vo (by omega) (by omega) hI) (an_1 (by unfold kChg; (repeat' split) <;> omega)) (stt_n (by rw [show (kChg σ no vo : Int) = 1 from by unfold kChg; (repeat' split) <;> omega]; decide)) gL_refuses_L_changes rfl rfl rfl (by decide +kernel) ⟨by rw [hRb.1]; exact Nat.le_of_ble_eq_true rfl, by rw [hRb.2]; exact Nat.le_of_ble_eq_true rfl⟩ hK hP hD hz hAz hS hA rfl rfl hl.1 (Nat.le_of_ble_eq_true rfl) dL_refuses_205 ⟨by omega, by omega⟩ (fun P H locs hP hD hS => ?_)
    refine k_ldc F (v := -2000000001) (z := -2000000001) (by decide +kernel) (by decide +kernel) dL_refuses_208 ?_
    refine k_same_ne F (tgt := 552) dL_refuses_210 (by decide) ?_
    refine lv_aload_n F.1 F.2.1 dL_refuses_213 rfl (lv_at hl 0 rfl) ?_
    refine lv_iload F.1 F.2.1 dL_refuses_214 (lv_at hl 7 rfl) ?_
    refine k_iconst F dL_refuses_216 ?_
    refine j_call F (n := 3) (wr := A2 G an am fn fm) (B := B) (P := P) (σ := σ) (τ' := σ) (z' := (-2000000002)) (mL_range l hfl G z0 _ B P σ vo 0 (by omega) (by omega) hI) (an_1 (by unfold kRng; (repeat' split) <;> omega)) rfl gL_refuses_L_range rfl rfl rfl (by decide +kernel) ⟨by rw [hRb.1]; exact Nat.le_of_ble_eq_true rfl, by rw [hRb.2]; exact Nat.le_of_ble_eq_true rfl⟩ hK hP hD hz hAz hS hA rfl rfl hl.1 (Nat.le_of_ble_eq_true rfl) dL_refuses_217 ⟨by omega, by omega⟩ (fun P H locs hP hD hS => ?_)
    refine k_ldc F (v := -2000000002) (z := -2000000002) (by decide +kernel) (by decide +kernel) dL_refuses_220 ?_
    refine k_same_ne F (tgt := 552) dL_refuses_222 (by decide) ?_
    refine lv_aload_n F.1 F.2.1 dL_refuses_225 rfl (lv_at hl 0 rfl) ?_
    refine lv_iload_n F.1 F.2.1 dL_refuses_226 rfl (lv_at hl 3 rfl) ?_
    refine k_iconst F dL_refuses_227 ?_
    refine k_rem F (by omega) (by omega) dL_refuses_228 ?_
    refine lv_iload F.1 F.2.1 dL_refuses_229 (lv_at hl 8 rfl) ?_
    refine j_call F (n := 3) (wr := A2 G an am fn fm) (B := B) (P := P) (σ := σ) (τ' := σ) (z' := (-2000000002)) (mL_range l hfl G z0 _ B P σ (x % 4) da (by omega) (by omega) hI) (an_1 (by unfold kRng; (repeat' split) <;> omega)) rfl gL_refuses_L_range rfl rfl rfl (by decide +kernel) ⟨by rw [hRb.1]; exact Nat.le_of_ble_eq_true rfl, by rw [hRb.2]; exact Nat.le_of_ble_eq_true rfl⟩ hK hP hD hz hAz hS hA rfl rfl hl.1 (Nat.le_of_ble_eq_true rfl) dL_refuses_231 ⟨by omega, by omega⟩ (fun P H locs hP hD hS => ?_)
    refine k_ldc F (v := -2000000002) (z := -2000000002) (by decide +kernel) (by decide +kernel) dL_refuses_234 ?_
    refine k_same_ne F (tgt := 552) dL_refuses_236 (by decide) ?_
    refine lv_aload_n F.1 F.2.1 dL_refuses_239 rfl (lv_at hl 0 rfl) ?_
    refine k_bipush F dL_refuses_240 (by decide +kernel) ?_
    refine lv_iload_n F.1 F.2.1 dL_refuses_242 rfl (lv_at hl 3 rfl) ?_
    refine k_iadd F rfl dL_refuses_243 ?_
    refine k_iconst F dL_refuses_244 ?_
    refine k_iconst F dL_refuses_245 ?_
    refine k_iconst F dL_refuses_246 ?_
    refine j_call F (n := 5) (wr := A2 G an am fn fm) (B := B) (P := P) (σ := σ) (τ' := σ) (z' := (-2000000002)) (mL_chords l hfl G z0 _ B P σ (61 + x) 0 0 0 (by omega) (by omega) (by omega) (by omega) hI) (an_1 (by unfold kChd; (repeat' split) <;> omega)) (stt_n (by rw [show (kChd σ (61 + x) 0 0 0 : Int) = 1 from by unfold kChd; (repeat' split) <;> omega]; decide)) gL_refuses_L_chords rfl rfl rfl (by decide +kernel) ⟨by rw [hRb.1]; exact Nat.le_of_ble_eq_true rfl, by rw [hRb.2]; exact Nat.le_of_ble_eq_true rfl⟩ hK hP hD hz hAz hS hA rfl rfl hl.1 (Nat.le_of_ble_eq_true rfl) dL_refuses_247 ⟨by omega, by omega⟩ (fun P H locs hP hD hS => ?_)
    refine k_ldc F (v := -2000000002) (z := -2000000002) (by decide +kernel) (by decide +kernel) dL_refuses_250 ?_
    refine k_same_ne F (tgt := 552) dL_refuses_252 (by decide) ?_
    refine lv_aload_n F.1 F.2.1 dL_refuses_255 rfl (lv_at hl 0 rfl) ?_
    refine k_iconst F dL_refuses_256 ?_
    refine k_bipush F dL_refuses_257 (by decide +kernel) ?_
    refine k_iconst F dL_refuses_259 ?_
    refine k_iconst F dL_refuses_260 ?_
    refine j_call F (n := 5) (wr := A2 G an am fn fm) (B := B) (P := P) (σ := σ) (τ' := σ) (z' := (-2000000002)) (mL_chords l hfl G z0 _ B P σ 5 6 0 0 (by omega) (by omega) (by omega) (by omega) hI) (an_1 (by unfold kChd; (repeat' split) <;> omega)) (stt_n (by rw [show (kChd σ 5 6 0 0 : Int) = 1 from by unfold kChd; (repeat' split) <;> omega]; decide)) gL_refuses_L_chords rfl rfl rfl (by decide +kernel) ⟨by rw [hRb.1]; exact Nat.le_of_ble_eq_true rfl, by rw [hRb.2]; exact Nat.le_of_ble_eq_true rfl⟩ hK hP hD hz hAz hS hA rfl rfl hl.1 (Nat.le_of_ble_eq_true rfl) dL_refuses_261 ⟨by omega, by omega⟩ (fun P H locs hP hD hS => ?_)
    refine k_ldc F (v := -2000000002) (z := -2000000002) (by decide +kernel) (by decide +kernel) dL_refuses_264 ?_
    refine k_same_ne F (tgt := 552) dL_refuses_266 (by decide) ?_
    refine lv_aload_n F.1 F.2.1 dL_refuses_269 rfl (lv_at hl 0 rfl) ?_
    refine k_iconst F dL_refuses_270 ?_
    refine k_iconst F dL_refuses_271 ?_
    refine k_iconst F dL_refuses_272 ?_
    refine k_iconst F dL_refuses_273 ?_
    refine j_call F (n := 5) (wr := A2 G an am fn fm) (B := B) (P := P) (σ := σ) (τ' := σ) (z' := (-2000000002)) (mL_chords l hfl G z0 _ B P σ 5 4 5 0 (by omega) (by omega) (by omega) (by omega) hI) (an_1 (by unfold kChd; (repeat' split) <;> omega)) (stt_n (by rw [show (kChd σ 5 4 5 0 : Int) = 1 from by unfold kChd; (repeat' split) <;> omega]; decide)) gL_refuses_L_chords rfl rfl rfl (by decide +kernel) ⟨by rw [hRb.1]; exact Nat.le_of_ble_eq_true rfl, by rw [hRb.2]; exact Nat.le_of_ble_eq_true rfl⟩ hK hP hD hz hAz hS hA rfl rfl hl.1 (Nat.le_of_ble_eq_true rfl) dL_refuses_274 ⟨by omega, by omega⟩ (fun P H locs hP hD hS => ?_)
    refine k_ldc F (v := -2000000002) (z := -2000000002) (by decide +kernel) (by decide +kernel) dL_refuses_277 ?_
    refine k_same_ne F (tgt := 552) dL_refuses_279 (by decide) ?_
    refine lv_aload_n F.1 F.2.1 dL_refuses_282 rfl (lv_at hl 0 rfl) ?_
    refine k_iconst F dL_refuses_283 ?_
    refine k_iconst F dL_refuses_284 ?_
    refine k_iconst F dL_refuses_285 ?_
    refine k_iconst F dL_refuses_286 ?_
    refine lv_iload_n F.1 F.2.1 dL_refuses_287 rfl (lv_at hl 3 rfl) ?_
    refine k_isub F rfl dL_refuses_288 ?_
    refine j_call F (n := 5) (wr := A2 G an am fn fm) (B := B) (P := P) (σ := σ) (τ' := σ) (z' := (-2000000002)) (mL_chords l hfl G z0 _ B P σ 5 4 3 ((-1) - x) (by omega) (by omega) (by omega) (by omega) hI) (an_1 (by unfold kChd; (repeat' split) <;> omega)) (stt_n (by rw [show (kChd σ 5 4 3 ((-1) - x) : Int) = 1 from by unfold kChd; (repeat' split) <;> omega]; decide)) gL_refuses_L_chords rfl rfl rfl (by decide +kernel) ⟨by rw [hRb.1]; exact Nat.le_of_ble_eq_true rfl, by rw [hRb.2]; exact Nat.le_of_ble_eq_true rfl⟩ hK hP hD hz hAz hS hA rfl rfl hl.1 (Nat.le_of_ble_eq_true rfl) dL_refuses_289 ⟨by omega, by omega⟩ (fun P H locs hP hD hS => ?_)
    refine k_ldc F (v := -2000000002) (z := -2000000002) (by decide +kernel) (by decide +kernel) dL_refuses_292 ?_
    refine k_same_ne F (tgt := 552) dL_refuses_294 (by decide) ?_
    refine lv_aload_n F.1 F.2.1 dL_refuses_297 rfl (lv_at hl 0 rfl) ?_
    refine k_iconst F dL_refuses_298 ?_
    refine j_call F (n := 2) (wr := A2 G an am fn fm) (B := B) (P := P) (σ := σ) (τ' := σ) (z' := (-2000000002)) (mL_pieces l hfl G z0 _ B P σ 0 (by omega) hI) (an_1 (by unfold kPce; (repeat' split) <;> omega)) (stt_n (by rw [show (kPce σ 0 : Int) = 1 from by unfold kPce; (repeat' split) <;> omega]; decide)) gL_refuses_L_pieces rfl rfl rfl (by decide +kernel) ⟨by rw [hRb.1]; exact Nat.le_of_ble_eq_true rfl, by rw [hRb.2]; exact Nat.le_of_ble_eq_true rfl⟩ hK hP hD hz hAz hS hA rfl rfl hl.1 (Nat.le_of_ble_eq_true rfl) dL_refuses_299 ⟨by omega, by omega⟩ (fun P H locs hP hD hS => ?_)
    refine k_ldc F (v := -2000000002) (z := -2000000002) (by decide +kernel) (by decide +kernel) dL_refuses_302 ?_
    refine k_same_ne F (tgt := 552) dL_refuses_304 (by decide) ?_
    refine lv_aload_n F.1 F.2.1 dL_refuses_307 rfl (lv_at hl 0 rfl) ?_
    refine k_sipush F dL_refuses_308 (by decide +kernel) ?_
    refine lv_iload_n F.1 F.2.1 dL_refuses_311 rfl (lv_at hl 3 rfl) ?_
    refine k_iadd F rfl dL_refuses_312 ?_
    refine j_call F (n := 2) (wr := A2 G an am fn fm) (B := B) (P := P) (σ := σ) (τ' := σ) (z' := (-2000000002)) (mL_pieces l hfl G z0 _ B P σ (3601 + x) (by omega) hI) (an_1 (by unfold kPce; (repeat' split) <;> omega)) (stt_n (by rw [show (kPce σ (3601 + x) : Int) = 1 from by unfold kPce; (repeat' split) <;> omega]; decide)) gL_refuses_L_pieces rfl rfl rfl (by decide +kernel) ⟨by rw [hRb.1]; exact Nat.le_of_ble_eq_true rfl, by rw [hRb.2]; exact Nat.le_of_ble_eq_true rfl⟩ hK hP hD hz hAz hS hA rfl rfl hl.1 (Nat.le_of_ble_eq_true rfl) dL_refuses_313 ⟨by omega, by omega⟩ (fun P H locs hP hD hS => ?_)
    refine k_ldc F (v := -2000000002) (z := -2000000002) (by decide +kernel) (by decide +kernel) dL_refuses_316 ?_
    refine k_same_ne F (tgt := 552) dL_refuses_318 (by decide) ?_
    refine lv_aload_n F.1 F.2.1 dL_refuses_321 rfl (lv_at hl 0 rfl) ?_
    refine lv_iload F.1 F.2.1 dL_refuses_322 (lv_at hl 6 rfl) ?_
    refine k_iconst F dL_refuses_324 ?_
    refine lv_iload F.1 F.2.1 dL_refuses_325 (lv_at hl 7 rfl) ?_
    refine k_iconst F dL_refuses_327 ?_
    refine j_call F (n := 5) (wr := A2 G an am fn fm) (B := B) (P := P) (σ := σ) (τ' := σ) (z' := (-2000000001)) (mL_tones l hfl G z0 _ B P σ lo 0 vo 0 (by omega) (by omega) (by omega) (by omega) hI) (an_1 (by unfold kSet; simp only [isC]; (repeat' split) <;> omega)) (stt_n (by rw [show (kSet σ lo 0 vo 0 : Int) = 1 from by unfold kSet; simp only [isC]; (repeat' split) <;> omega]; decide)) gL_refuses_L_tones rfl rfl rfl (by decide +kernel) ⟨by rw [hRb.1]; exact Nat.le_of_ble_eq_true rfl, by rw [hRb.2]; exact Nat.le_of_ble_eq_true rfl⟩ hK hP hD hz hAz hS hA rfl rfl hl.1 (Nat.le_of_ble_eq_true rfl) dL_refuses_328 ⟨by omega, by omega⟩ (fun P H locs hP hD hS => ?_)
    refine k_ldc F (v := -2000000001) (z := -2000000001) (by decide +kernel) (by decide +kernel) dL_refuses_331 ?_
    refine k_same_ne F (tgt := 552) dL_refuses_333 (by decide) ?_
    refine lv_aload_n F.1 F.2.1 dL_refuses_336 rfl (lv_at hl 0 rfl) ?_
    refine lv_iload F.1 F.2.1 dL_refuses_337 (lv_at hl 6 rfl) ?_
    refine k_iconst F dL_refuses_339 ?_
    refine j_call F (n := 3) (wr := A2 G an am fn fm) (B := B) (P := P) (σ := σ) (τ' := σ) (z' := (-2000000001)) (mL_faultsAt l hfl G z0 _ B P σ lo 0 (by omega) (by omega) hI) (an_1 (by unfold kFat; simp only [isC]; (repeat' split) <;> omega)) rfl gL_refuses_L_faultsAt rfl rfl rfl (by decide +kernel) ⟨by rw [hRb.1]; exact Nat.le_of_ble_eq_true rfl, by rw [hRb.2]; exact Nat.le_of_ble_eq_true rfl⟩ hK hP hD hz hAz hS hA rfl rfl hl.1 (Nat.le_of_ble_eq_true rfl) dL_refuses_340 ⟨by omega, by omega⟩ (fun P H locs hP hD hS => ?_)
    refine k_ldc F (v := -2000000001) (z := -2000000001) (by decide +kernel) (by decide +kernel) dL_refuses_343 ?_
    refine k_same_ne F (tgt := 552) dL_refuses_345 (by decide) ?_
    refine lv_aload_n F.1 F.2.1 dL_refuses_348 rfl (lv_at hl 0 rfl) ?_
    refine lv_iload F.1 F.2.1 dL_refuses_349 (lv_at hl 6 rfl) ?_
    refine j_call F (n := 2) (wr := A2 G an am fn fm) (B := B) (P := P) (σ := σ) (τ' := σ) (z' := (-2000000001)) (mL_faults l hfl G z0 _ B P σ lo (by omega) hI) (an_1 (by unfold kPic; (repeat' split) <;> omega)) rfl gL_refuses_L_faults rfl rfl rfl (by decide +kernel) ⟨by rw [hRb.1]; exact Nat.le_of_ble_eq_true rfl, by rw [hRb.2]; exact Nat.le_of_ble_eq_true rfl⟩ hK hP hD hz hAz hS hA rfl rfl hl.1 (Nat.le_of_ble_eq_true rfl) dL_refuses_351 ⟨by omega, by omega⟩ (fun P H locs hP hD hS => ?_)
    refine k_ldc F (v := -2000000001) (z := -2000000001) (by decide +kernel) (by decide +kernel) dL_refuses_354 ?_
    refine k_same_ne F (tgt := 552) dL_refuses_356 (by decide) ?_
    refine lv_aload_n F.1 F.2.1 dL_refuses_359 rfl (lv_at hl 0 rfl) ?_
    refine lv_iload F.1 F.2.1 dL_refuses_360 (lv_at hl 6 rfl) ?_
    refine k_iconst F dL_refuses_362 ?_
    refine lv_iload F.1 F.2.1 dL_refuses_363 (lv_at hl 7 rfl) ?_
    refine j_call F (n := 4) (wr := A2 G an am fn fm) (B := B) (P := P) (σ := σ) (τ' := σ) (z' := (-2000000001)) (mL_least l hfl G z0 _ B P σ lo 1 vo (by omega) (by omega) (by omega) hI) (an_1 (by unfold kLst; simp only [isC]; (repeat' split) <;> omega)) rfl gL_refuses_L_least rfl rfl rfl (by decide +kernel) ⟨by rw [hRb.1]; exact Nat.le_of_ble_eq_true rfl, by rw [hRb.2]; exact Nat.le_of_ble_eq_true rfl⟩ hK hP hD hz hAz hS hA rfl rfl hl.1 (Nat.le_of_ble_eq_true rfl) dL_refuses_365 ⟨by omega, by omega⟩ (fun P H locs hP hD hS => ?_)
    refine k_ldc F (v := -2000000001) (z := -2000000001) (by decide +kernel) (by decide +kernel) dL_refuses_368 ?_
    refine k_same_ne F (tgt := 552) dL_refuses_370 (by decide) ?_
    refine lv_aload_n F.1 F.2.1 dL_refuses_373 rfl (lv_at hl 0 rfl) ?_
    refine lv_iload F.1 F.2.1 dL_refuses_374 (lv_at hl 6 rfl) ?_
    refine lv_iload F.1 F.2.1 dL_refuses_376 (lv_at hl 8 rfl) ?_
    refine j_call F (n := 3) (wr := A2 G an am fn fm) (B := B) (P := P) (σ := σ) (τ' := σ) (z' := (-2000000001)) (mL_shift l hfl G z0 _ B P σ lo da (by omega) (by omega) hI) (an_1 (by unfold kShf; (repeat' split) <;> omega)) rfl gL_refuses_L_shift rfl rfl rfl (by decide +kernel) ⟨by rw [hRb.1]; exact Nat.le_of_ble_eq_true rfl, by rw [hRb.2]; exact Nat.le_of_ble_eq_true rfl⟩ hK hP hD hz hAz hS hA rfl rfl hl.1 (Nat.le_of_ble_eq_true rfl) dL_refuses_378 ⟨by omega, by omega⟩ (fun P H locs hP hD hS => ?_)
    refine k_ldc F (v := -2000000001) (z := -2000000001) (by decide +kernel) (by decide +kernel) dL_refuses_381 ?_
    refine k_same_ne F (tgt := 552) dL_refuses_383 (by decide) ?_
    refine lv_aload_n F.1 F.2.1 dL_refuses_386 rfl (lv_at hl 0 rfl) ?_
    refine lv_iload F.1 F.2.1 dL_refuses_387 (lv_at hl 6 rfl) ?_
    refine j_call F (n := 2) (wr := A2 G an am fn fm) (B := B) (P := P) (σ := σ) (τ' := σ) (z' := (-2000000001)) (mL_dates l hfl G z0 _ B P σ lo (by omega) hI) (an_1 (by unfold kPic; (repeat' split) <;> omega)) rfl gL_refuses_L_dates rfl rfl rfl (by decide +kernel) ⟨by rw [hRb.1]; exact Nat.le_of_ble_eq_true rfl, by rw [hRb.2]; exact Nat.le_of_ble_eq_true rfl⟩ hK hP hD hz hAz hS hA rfl rfl hl.1 (Nat.le_of_ble_eq_true rfl) dL_refuses_389 ⟨by omega, by omega⟩ (fun P H locs hP hD hS => ?_)
    refine k_ldc F (v := -2000000001) (z := -2000000001) (by decide +kernel) (by decide +kernel) dL_refuses_392 ?_
    refine k_same_ne F (tgt := 552) dL_refuses_394 (by decide) ?_
    refine lv_aload_n F.1 F.2.1 dL_refuses_397 rfl (lv_at hl 0 rfl) ?_
    refine lv_iload F.1 F.2.1 dL_refuses_398 (lv_at hl 8 rfl) ?_
    refine j_call F (n := 2) (wr := A2 G an am fn fm) (B := B) (P := P) (σ := σ) (τ' := σ) (z' := (-2000000002)) (mL_missed l hfl G z0 _ B P σ da (by omega) hI) (an_1 (by unfold kDat; (repeat' split) <;> omega)) rfl gL_refuses_L_missed rfl rfl rfl (by decide +kernel) ⟨by rw [hRb.1]; exact Nat.le_of_ble_eq_true rfl, by rw [hRb.2]; exact Nat.le_of_ble_eq_true rfl⟩ hK hP hD hz hAz hS hA rfl rfl hl.1 (Nat.le_of_ble_eq_true rfl) dL_refuses_400 ⟨by omega, by omega⟩ (fun P H locs hP hD hS => ?_)
    refine k_ldc F (v := -2000000002) (z := -2000000002) (by decide +kernel) (by decide +kernel) dL_refuses_403 ?_
    refine k_same_ne F (tgt := 552) dL_refuses_405 (by decide) ?_
    refine lv_aload_n F.1 F.2.1 dL_refuses_408 rfl (lv_at hl 0 rfl) ?_
    refine lv_iload F.1 F.2.1 dL_refuses_409 (lv_at hl 8 rfl) ?_
    refine k_iconst F dL_refuses_411 ?_
    refine j_call F (n := 3) (wr := A2 G an am fn fm) (B := B) (P := P) (σ := σ) (τ' := σ) (z' := (-2000000002)) (mL_plan l hfl G z0 _ B P σ da 5 (by omega) (by omega) hI) (an_1 (by unfold kPrg; (repeat' split) <;> omega)) rfl gL_refuses_L_plan rfl rfl rfl (by decide +kernel) ⟨by rw [hRb.1]; exact Nat.le_of_ble_eq_true rfl, by rw [hRb.2]; exact Nat.le_of_ble_eq_true rfl⟩ hK hP hD hz hAz hS hA rfl rfl hl.1 (Nat.le_of_ble_eq_true rfl) dL_refuses_412 ⟨by omega, by omega⟩ (fun P H locs hP hD hS => ?_)
    refine k_ldc F (v := -2000000002) (z := -2000000002) (by decide +kernel) (by decide +kernel) dL_refuses_415 ?_
    refine k_same_ne F (tgt := 552) dL_refuses_417 (by decide) ?_
    refine lv_aload_n F.1 F.2.1 dL_refuses_420 rfl (lv_at hl 0 rfl) ?_
    refine k_iconst F dL_refuses_421 ?_
    refine k_sipush F dL_refuses_422 (by decide +kernel) ?_
    refine lv_iload_n F.1 F.2.1 dL_refuses_425 rfl (lv_at hl 3 rfl) ?_
    refine k_iadd F rfl dL_refuses_426 ?_
    refine j_call F (n := 3) (wr := A2 G an am fn fm) (B := B) (P := P) (σ := σ) (τ' := σ) (z' := (-2000000002)) (mL_plan l hfl G z0 _ B P σ 0 (20001 + x) (by omega) (by omega) hI) (an_1 (by unfold kPrg; (repeat' split) <;> omega)) rfl gL_refuses_L_plan rfl rfl rfl (by decide +kernel) ⟨by rw [hRb.1]; exact Nat.le_of_ble_eq_true rfl, by rw [hRb.2]; exact Nat.le_of_ble_eq_true rfl⟩ hK hP hD hz hAz hS hA rfl rfl hl.1 (Nat.le_of_ble_eq_true rfl) dL_refuses_427 ⟨by omega, by omega⟩ (fun P H locs hP hD hS => ?_)
    refine k_ldc F (v := -2000000002) (z := -2000000002) (by decide +kernel) (by decide +kernel) dL_refuses_430 ?_
    refine k_same_ne F (tgt := 552) dL_refuses_432 (by decide) ?_
    refine lv_aload_n F.1 F.2.1 dL_refuses_435 rfl (lv_at hl 0 rfl) ?_
    refine k_iconst F dL_refuses_436 ?_
    refine k_iconst F dL_refuses_437 ?_
    refine lv_iload_n F.1 F.2.1 dL_refuses_438 rfl (lv_at hl 3 rfl) ?_
    refine k_isub F rfl dL_refuses_439 ?_
    refine j_call F (n := 3) (wr := A2 G an am fn fm) (B := B) (P := P) (σ := σ) (τ' := σ) (z' := (-2000000002)) (mL_duration l hfl G z0 _ B P σ 0 ((-1) - x) (by omega) (by omega) hI) (an_1 (by unfold kPrg; (repeat' split) <;> omega)) rfl gL_refuses_L_duration rfl rfl rfl (by decide +kernel) ⟨by rw [hRb.1]; exact Nat.le_of_ble_eq_true rfl, by rw [hRb.2]; exact Nat.le_of_ble_eq_true rfl⟩ hK hP hD hz hAz hS hA rfl rfl hl.1 (Nat.le_of_ble_eq_true rfl) dL_refuses_440 ⟨by omega, by omega⟩ (fun P H locs hP hD hS => ?_)
    refine k_ldc F (v := -2000000002) (z := -2000000002) (by decide +kernel) (by decide +kernel) dL_refuses_443 ?_
    refine k_same_ne F (tgt := 552) dL_refuses_445 (by decide) ?_
    refine lv_aload_n F.1 F.2.1 dL_refuses_448 rfl (lv_at hl 0 rfl) ?_
    refine lv_iload F.1 F.2.1 dL_refuses_449 (lv_at hl 6 rfl) ?_
    refine k_iconst F dL_refuses_451 ?_
    refine j_call F (n := 3) (wr := A2 G an am fn fm) (B := B) (P := P) (σ := σ) (τ' := σ) (z' := (-2000000001)) (mL_rehearses l hfl G z0 _ B P σ lo 0 (by omega) (by omega) hI (by omega)) (an_1 (by unfold kReh; (repeat' split) <;> omega)) (stt_n (by rw [show (kReh σ lo 0 : Int) = 1 from by unfold kReh; (repeat' split) <;> omega]; decide)) gL_refuses_L_rehearses rfl rfl rfl (by decide +kernel) ⟨by rw [hRb.1]; exact Nat.le_of_ble_eq_true rfl, by rw [hRb.2]; exact Nat.le_of_ble_eq_true rfl⟩ hK hP hD hz hAz hS hA rfl rfl hl.1 (Nat.le_of_ble_eq_true rfl) dL_refuses_452 ⟨by omega, by omega⟩ (fun P H locs hP hD hS => ?_)
    refine k_ldc F (v := -2000000001) (z := -2000000001) (by decide +kernel) (by decide +kernel) dL_refuses_455 ?_
    refine k_same_ne F (tgt := 552) dL_refuses_457 (by decide) ?_
    refine lv_aload_n F.1 F.2.1 dL_refuses_460 rfl (lv_at hl 0 rfl) ?_
    refine lv_iload F.1 F.2.1 dL_refuses_461 (lv_at hl 6 rfl) ?_
    refine k_iconst F dL_refuses_463 ?_
    refine j_call F (n := 3) (wr := A2 G an am fn fm) (B := B) (P := P) (σ := σ) (τ' := σ) (z' := (-2000000001)) (mL_weakness l hfl G z0 _ B P σ lo 0 (by omega) (by omega) hI (by omega)) (an_1 (by unfold kFat; simp only [isC]; (repeat' split) <;> omega)) rfl gL_refuses_L_weakness rfl rfl rfl (by decide +kernel) ⟨by rw [hRb.1]; exact Nat.le_of_ble_eq_true rfl, by rw [hRb.2]; exact Nat.le_of_ble_eq_true rfl⟩ hK hP hD hz hAz hS hA rfl rfl hl.1 (Nat.le_of_ble_eq_true rfl) dL_refuses_464 ⟨by omega, by omega⟩ (fun P H locs hP hD hS => ?_)
    refine k_ldc F (v := -2000000001) (z := -2000000001) (by decide +kernel) (by decide +kernel) dL_refuses_467 ?_
    refine k_same_ne F (tgt := 552) dL_refuses_469 (by decide) ?_
    refine lv_aload_n F.1 F.2.1 dL_refuses_472 rfl (lv_at hl 0 rfl) ?_
    refine lv_iload F.1 F.2.1 dL_refuses_473 (lv_at hl 6 rfl) ?_
    refine j_call F (n := 2) (wr := A2 G an am fn fm) (B := B) (P := P) (σ := σ) (τ' := σ) (z' := (-2000000001)) (mL_weakest l hfl G z0 _ B P σ lo (by omega) hI (by omega)) (an_1 (by unfold kPic; (repeat' split) <;> omega)) rfl gL_refuses_L_weakest rfl rfl rfl (by decide +kernel) ⟨by rw [hRb.1]; exact Nat.le_of_ble_eq_true rfl, by rw [hRb.2]; exact Nat.le_of_ble_eq_true rfl⟩ hK hP hD hz hAz hS hA rfl rfl hl.1 (Nat.le_of_ble_eq_true rfl) dL_refuses_475 ⟨by omega, by omega⟩ (fun P H locs hP hD hS => ?_)
    refine k_ldc F (v := -2000000001) (z := -2000000001) (by decide +kernel) (by decide +kernel) dL_refuses_478 ?_
    refine k_same_ne F (tgt := 552) dL_refuses_480 (by decide) ?_
    refine lv_aload_n F.1 F.2.1 dL_refuses_483 rfl (lv_at hl 1 rfl) ?_
    refine k_iconst F dL_refuses_484 ?_
    refine k_iald F hK hP 0 rfl 0 rfl (by decide) (by decide) hnf.1 dL_refuses_485 ?_
    refine k_bipush F dL_refuses_486 (by decide +kernel) ?_
    have J503 : ∀ (P : Nat → Nat → Nat) (H : Heap) (locs : List Loc), gP G (A2 G an am fn fm ++ DW G B P σ) H → va_D AA (A2 G an am fn fm ++ DW G B P σ) → va_S AA sS.heap H locs → ∀ ls : Array Slot, lv_has ls 12 [(0, .ref (B 5)), (1, .ref an), (2, .ref am), (3, .int (iI x)), (4, .int (iI lw)), (5, .int (iI no)), (6, .int (iI lo)), (7, .int (iI vo)), (8, .int (iI da))] → W pP l eE RR sS mM args bB meth cC H locs 174 1212 (MQ bB (va_Qi (fun (r : Int32) (u : Nat → Nat → Nat) => r = iI 1) (fun u t9 => gP G (A2 G an am fn fm ++ DW G B u σ) t9.heap ∧ va_D AA (A2 G an am fn fm ++ DW G B u σ)) AA) args sS 320 2400 AA) (F0 mM 503 ls []) := by
      intro  P H locs hP hD hS ls hl
      refine lv_aload_n F.1 F.2.1 dL_refuses_503 rfl (lv_at hl 1 rfl) ?_
      refine k_iconst F dL_refuses_504 ?_
      refine k_iald F hK hP 0 rfl 1 rfl (by decide) (by decide) hnf.2.1 dL_refuses_505 ?_
      refine k_bipush F dL_refuses_506 (by decide +kernel) ?_
      have J527 : ∀ (P : Nat → Nat → Nat) (H : Heap) (locs : List Loc), gP G (A2 G an am fn fm ++ DW G B P σ) H → va_D AA (A2 G an am fn fm ++ DW G B P σ) → va_S AA sS.heap H locs → ∀ ls : Array Slot, lv_has ls 12 [(0, .ref (B 5)), (1, .ref an), (2, .ref am), (3, .int (iI x)), (4, .int (iI lw)), (5, .int (iI no)), (6, .int (iI lo)), (7, .int (iI vo)), (8, .int (iI da))] → W pP l eE RR sS mM args bB meth cC H locs 180 1332 (MQ bB (va_Qi (fun (r : Int32) (u : Nat → Nat → Nat) => r = iI 1) (fun u t9 => gP G (A2 G an am fn fm ++ DW G B u σ) t9.heap ∧ va_D AA (A2 G an am fn fm ++ DW G B u σ)) AA) args sS 320 2400 AA) (F0 mM 527 ls []) := by
        intro  P H locs hP hD hS ls hl
        refine lv_aload_n F.1 F.2.1 dL_refuses_527 rfl (lv_at hl 1 rfl) ?_
        refine k_iconst F dL_refuses_528 ?_
        refine k_iald F hK hP 0 rfl 2 rfl (by decide) (by decide) hnf.2.2 dL_refuses_529 ?_
        refine k_bipush F dL_refuses_530 (by decide +kernel) ?_
        have J548 : ∀ (P : Nat → Nat → Nat) (H : Heap) (locs : List Loc), gP G (A2 G an am fn fm ++ DW G B P σ) H → va_D AA (A2 G an am fn fm ++ DW G B P σ) → va_S AA sS.heap H locs → ∀ ls : Array Slot, lv_has ls 12 [(0, .ref (B 5)), (1, .ref an), (2, .ref am), (3, .int (iI x)), (4, .int (iI lw)), (5, .int (iI no)), (6, .int (iI lo)), (7, .int (iI vo)), (8, .int (iI da))] → W pP l eE RR sS mM args bB meth cC H locs 186 1368 (MQ bB (va_Qi (fun (r : Int32) (u : Nat → Nat → Nat) => r = iI 1) (fun u t9 => gP G (A2 G an am fn fm ++ DW G B u σ) t9.heap ∧ va_D AA (A2 G an am fn fm ++ DW G B u σ)) AA) args sS 320 2400 AA) (F0 mM 548 ls []) := by
          intro  P H locs hP hD hS ls hl
          refine k_iconst F dL_refuses_548 ?_
          refine lv_goto (tgt := 553) F.1 F.2.1 dL_refuses_549 (by decide) ?_
          refine lv_istore (lv' := [(9, .int (iI 1)), (0, .ref (B 5)), (1, .ref an), (2, .ref am), (3, .int (iI x)), (4, .int (iI lw)), (5, .int (iI no)), (6, .int (iI lo)), (7, .int (iI vo)), (8, .int (iI da))]) F.1 F.2.1 dL_refuses_553 hl (by decide) rfl (fun ls hl => ?_)
          refine lv_iload F.1 F.2.1 dL_refuses_555 (lv_at hl 0 rfl) ?_
          refine k_if_eq F (tgt := 606) dL_refuses_557 (by decide) (by omega) (fun c_29 => absurd c_29 (by omega)) (fun c_29 => ?_)
          refine lv_aload_n F.1 F.2.1 dL_refuses_560 rfl (lv_at hl 2 rfl) ?_
          refine k_iconst F dL_refuses_561 ?_
          refine k_iald F hK hP 0 rfl 0 rfl (by decide) (by decide) hnf.1 dL_refuses_562 ?_
          have J606 : ∀ (P : Nat → Nat → Nat) (H : Heap) (locs : List Loc), gP G (A2 G an am fn fm ++ DW G B P σ) H → va_D AA (A2 G an am fn fm ++ DW G B P σ) → va_S AA sS.heap H locs → ∀ ls : Array Slot, lv_has ls 12 [(9, .int (iI 1)), (0, .ref (B 5)), (1, .ref an), (2, .ref am), (3, .int (iI x)), (4, .int (iI lw)), (5, .int (iI no)), (6, .int (iI lo)), (7, .int (iI vo)), (8, .int (iI da))] → W pP l eE RR sS mM args bB meth cC H locs 198 1440 (MQ bB (va_Qi (fun (r : Int32) (u : Nat → Nat → Nat) => r = iI 1) (fun u t9 => gP G (A2 G an am fn fm ++ DW G B u σ) t9.heap ∧ va_D AA (A2 G an am fn fm ++ DW G B u σ)) AA) args sS 320 2400 AA) (F0 mM 606 ls []) := by
            intro  P H locs hP hD hS ls hl
            refine lv_iload F.1 F.2.1 dL_refuses_606 (lv_at hl 0 rfl) ?_
            refine k_if_eq F (tgt := 838) dL_refuses_608 (by decide) (by omega) (fun c_30 => absurd c_30 (by omega)) (fun c_30 => ?_)
            refine lv_aload_n F.1 F.2.1 dL_refuses_611 rfl (lv_at hl 2 rfl) ?_
            refine k_iconst F dL_refuses_612 ?_
            refine k_iald F hK hP 0 rfl 1 rfl (by decide) (by decide) hnf.2.1 dL_refuses_613 ?_
            refine k_if_le F (tgt := 838) dL_refuses_614 (by decide) (by omega) (fun c_31 => ?_) (fun c_31 => ?_)
            · skip
              refine lv_iload F.1 F.2.1 dL_refuses_838 (lv_at hl 0 rfl) ?_
              refine W.widen (k := 320) (n := 2400) (by omega) (by omega) ?_
              exact W.zret F.1 F.2.1 hr (by decide +kernel) (fun t9 ht _ => ⟨⟨_, P, rfl, rfl, by rw [ht]; exact hP, hD⟩, hS.F ht⟩) hS.2.2 dL_refuses_840 hlocks
            · skip
              refine lv_iload_n F.1 F.2.1 dL_refuses_617 rfl (lv_at hl 4 rfl) ?_
              refine lv_aload_n F.1 F.2.1 dL_refuses_618 rfl (lv_at hl 2 rfl) ?_
              refine k_iconst F dL_refuses_619 ?_
              refine k_iald F hK hP 0 rfl 1 rfl (by decide) (by decide) hnf.2.1 dL_refuses_620 ?_
              refine k_rem F (by omega) (by omega) dL_refuses_621 ?_
              refine lv_istore (lv' := [(10, .int (iI (x % (σ 2 0 0)))), (9, .int (iI 1)), (0, .ref (B 5)), (1, .ref an), (2, .ref am), (3, .int (iI x)), (4, .int (iI lw)), (5, .int (iI no)), (6, .int (iI lo)), (7, .int (iI vo)), (8, .int (iI da))]) F.1 F.2.1 dL_refuses_622 hl (by decide) rfl (fun ls hl => ?_)
              have h8p := hb8 (x % σ 2 0 0).toNat
              have h8q := hI.2.2.2.2.2.2.2.1 (x % σ 2 0 0).toNat (by have : 0 ≤ x % σ 2 0 0 ∧ x % σ 2 0 0 < σ 2 0 0 := ⟨Int.emod_nonneg _ (by omega), Int.emod_lt_of_pos _ (by omega)⟩; omega)
              have hpr : 0 ≤ x % σ 2 0 0 ∧ x % σ 2 0 0 < σ 2 0 0 := ⟨Int.emod_nonneg _ (by omega), Int.emod_lt_of_pos _ (by omega)⟩
              refine lv_iload F.1 F.2.1 dL_refuses_624 (lv_at hl 6 rfl) ?_
              have J647 : ∀ la : Int, (-60 ≤ la ∧ la ≤ 100 ∧ (la < 0 ∨ σ 8 (x % σ 2 0 0).toNat 0 ≤ la)) → ∀ (P : Nat → Nat → Nat) (H : Heap) (locs : List Loc), gP G (A2 G an am fn fm ++ DW G B P σ) H → va_D AA (A2 G an am fn fm ++ DW G B P σ) → va_S AA sS.heap H locs → ∀ ls : Array Slot, lv_has ls 12 [(10, .int (iI (x % (σ 2 0 0)))), (9, .int (iI 1)), (0, .ref (B 5)), (1, .ref an), (2, .ref am), (3, .int (iI x)), (4, .int (iI lw)), (5, .int (iI no)), (6, .int (iI lo)), (7, .int (iI vo)), (8, .int (iI da))] → W pP l eE RR sS mM args bB meth cC H locs 198 1440 (MQ bB (va_Qi (fun (r : Int32) (u : Nat → Nat → Nat) => r = iI 1) (fun u t9 => gP G (A2 G an am fn fm ++ DW G B u σ) t9.heap ∧ va_D AA (A2 G an am fn fm ++ DW G B u σ)) AA) args sS 320 2400 AA) (F0 mM 647 ls [.int (iI la)]) := by
                intro la hj647_0 P H locs hP hD hS ls hl
                refine lv_istore (lv' := [(11, .int (iI la)), (10, .int (iI (x % (σ 2 0 0)))), (9, .int (iI 1)), (0, .ref (B 5)), (1, .ref an), (2, .ref am), (3, .int (iI x)), (4, .int (iI lw)), (5, .int (iI no)), (6, .int (iI lo)), (7, .int (iI vo)), (8, .int (iI da))]) F.1 F.2.1 dL_refuses_647 hl (by decide) rfl (fun ls hl => ?_)
                refine lv_aload_n F.1 F.2.1 dL_refuses_649 rfl (lv_at hl 3 rfl) ?_
                refine lv_iload F.1 F.2.1 dL_refuses_650 (lv_at hl 1 rfl) ?_
                refine lv_iload F.1 F.2.1 dL_refuses_652 (lv_at hl 0 rfl) ?_
                refine lv_iload F.1 F.2.1 dL_refuses_654 (lv_at hl 10 rfl) ?_
                refine k_iconst F dL_refuses_656 ?_
                refine j_call F (n := 5) (wr := A2 G an am fn fm) (B := B) (P := P) (σ := σ) (τ' := σ) (z' := (-2000000001)) (mL_tones l hfl G z0 _ B P σ (x % (σ 2 0 0)) la vo 0 (by omega) (by omega) (by omega) (by omega) hI) (an_1 (by unfold kSet; simp only [isC]; (repeat' split) <;> omega)) (stt_n (by rw [show (kSet σ (x % (σ 2 0 0)) la vo 0 : Int) = 1 from by unfold kSet; simp only [isC]; (repeat' split) <;> omega]; decide)) gL_refuses_L_tones rfl rfl rfl (by decide +kernel) ⟨by rw [hRb.1]; exact Nat.le_of_ble_eq_true rfl, by rw [hRb.2]; exact Nat.le_of_ble_eq_true rfl⟩ hK hP hD hz hAz hS hA rfl rfl hl.1 (Nat.le_of_ble_eq_true rfl) dL_refuses_657 ⟨by omega, by omega⟩ (fun P H locs hP hD hS => ?_)
                refine k_ldc F (v := -2000000001) (z := -2000000001) (by decide +kernel) (by decide +kernel) dL_refuses_660 ?_
                refine k_same_ne F (tgt := 835) dL_refuses_662 (by decide) ?_
                refine lv_aload_n F.1 F.2.1 dL_refuses_665 rfl (lv_at hl 3 rfl) ?_
                refine lv_iload F.1 F.2.1 dL_refuses_666 (lv_at hl 1 rfl) ?_
                refine k_iconst F dL_refuses_668 ?_
                refine lv_iload F.1 F.2.1 dL_refuses_669 (lv_at hl 10 rfl) ?_
                refine k_iconst F dL_refuses_671 ?_
                refine j_call F (n := 5) (wr := A2 G an am fn fm) (B := B) (P := P) (σ := σ) (τ' := σ) (z' := (-2000000002)) (mL_tones l hfl G z0 _ B P σ (x % (σ 2 0 0)) 0 vo 0 (by omega) (by omega) (by omega) (by omega) hI) (an_2 (by unfold kSet; simp only [isC]; (repeat' split) <;> omega)) (stt_n (by rw [show (kSet σ (x % (σ 2 0 0)) 0 vo 0 : Int) = 2 from by unfold kSet; simp only [isC]; (repeat' split) <;> omega]; decide)) gL_refuses_L_tones rfl rfl rfl (by decide +kernel) ⟨by rw [hRb.1]; exact Nat.le_of_ble_eq_true rfl, by rw [hRb.2]; exact Nat.le_of_ble_eq_true rfl⟩ hK hP hD hz hAz hS hA rfl rfl hl.1 (Nat.le_of_ble_eq_true rfl) dL_refuses_672 ⟨by omega, by omega⟩ (fun P H locs hP hD hS => ?_)
                refine k_ldc F (v := -2000000002) (z := -2000000002) (by decide +kernel) (by decide +kernel) dL_refuses_675 ?_
                refine k_same_ne F (tgt := 835) dL_refuses_677 (by decide) ?_
                refine lv_aload_n F.1 F.2.1 dL_refuses_680 rfl (lv_at hl 3 rfl) ?_
                refine lv_iload F.1 F.2.1 dL_refuses_681 (lv_at hl 1 rfl) ?_
                refine k_iconst F dL_refuses_683 ?_
                refine k_iconst F dL_refuses_684 ?_
                refine k_bipush F dL_refuses_685 (by decide +kernel) ?_
                refine lv_iload_n F.1 F.2.1 dL_refuses_687 rfl (lv_at hl 6 rfl) ?_
                refine k_iadd F rfl dL_refuses_688 ?_
                refine j_call F (n := 5) (wr := A2 G an am fn fm) (B := B) (P := P) (σ := σ) (τ' := σ) (z' := (-2000000002)) (mL_tones l hfl G z0 _ B P σ (x % (σ 2 0 0)) 0 0 (61 + x) (by omega) (by omega) (by omega) (by omega) hI) (an_2 (by unfold kSet; simp only [isC]; (repeat' split) <;> omega)) (stt_n (by rw [show (kSet σ (x % (σ 2 0 0)) 0 0 (61 + x) : Int) = 2 from by unfold kSet; simp only [isC]; (repeat' split) <;> omega]; decide)) gL_refuses_L_tones rfl rfl rfl (by decide +kernel) ⟨by rw [hRb.1]; exact Nat.le_of_ble_eq_true rfl, by rw [hRb.2]; exact Nat.le_of_ble_eq_true rfl⟩ hK hP hD hz hAz hS hA rfl rfl hl.1 (Nat.le_of_ble_eq_true rfl) dL_refuses_689 ⟨by omega, by omega⟩ (fun P H locs hP hD hS => ?_)
                refine k_ldc F (v := -2000000002) (z := -2000000002) (by decide +kernel) (by decide +kernel) dL_refuses_692 ?_
                refine k_same_ne F (tgt := 835) dL_refuses_694 (by decide) ?_
                refine lv_aload_n F.1 F.2.1 dL_refuses_697 rfl (lv_at hl 3 rfl) ?_
                refine lv_iload F.1 F.2.1 dL_refuses_698 (lv_at hl 1 rfl) ?_
                refine lv_iload F.1 F.2.1 dL_refuses_700 (lv_at hl 0 rfl) ?_
                refine j_call F (n := 3) (wr := A2 G an am fn fm) (B := B) (P := P) (σ := σ) (τ' := σ) (z' := (-2000000001)) (mL_faultsAt l hfl G z0 _ B P σ (x % (σ 2 0 0)) la (by omega) (by omega) hI) (an_1 (by unfold kFat; simp only [isC]; (repeat' split) <;> omega)) rfl gL_refuses_L_faultsAt rfl rfl rfl (by decide +kernel) ⟨by rw [hRb.1]; exact Nat.le_of_ble_eq_true rfl, by rw [hRb.2]; exact Nat.le_of_ble_eq_true rfl⟩ hK hP hD hz hAz hS hA rfl rfl hl.1 (Nat.le_of_ble_eq_true rfl) dL_refuses_702 ⟨by omega, by omega⟩ (fun P H locs hP hD hS => ?_)
                refine k_ldc F (v := -2000000001) (z := -2000000001) (by decide +kernel) (by decide +kernel) dL_refuses_705 ?_
                refine k_same_ne F (tgt := 835) dL_refuses_707 (by decide) ?_
                refine lv_aload_n F.1 F.2.1 dL_refuses_710 rfl (lv_at hl 3 rfl) ?_
                refine lv_iload F.1 F.2.1 dL_refuses_711 (lv_at hl 1 rfl) ?_
                refine lv_iload F.1 F.2.1 dL_refuses_713 (lv_at hl 0 rfl) ?_
                refine j_call F (n := 3) (wr := A2 G an am fn fm) (B := B) (P := P) (σ := σ) (τ' := σ) (z' := (-2000000001)) (mL_weakness l hfl G z0 _ B P σ (x % (σ 2 0 0)) la (by omega) (by omega) hI (by omega)) (an_1 (by unfold kFat; simp only [isC]; (repeat' split) <;> omega)) rfl gL_refuses_L_weakness rfl rfl rfl (by decide +kernel) ⟨by rw [hRb.1]; exact Nat.le_of_ble_eq_true rfl, by rw [hRb.2]; exact Nat.le_of_ble_eq_true rfl⟩ hK hP hD hz hAz hS hA rfl rfl hl.1 (Nat.le_of_ble_eq_true rfl) dL_refuses_715 ⟨by omega, by omega⟩ (fun P H locs hP hD hS => ?_)
                refine k_ldc F (v := -2000000001) (z := -2000000001) (by decide +kernel) (by decide +kernel) dL_refuses_718 ?_
                refine k_same_ne F (tgt := 835) dL_refuses_720 (by decide) ?_
                refine lv_aload_n F.1 F.2.1 dL_refuses_723 rfl (lv_at hl 3 rfl) ?_
                refine lv_iload F.1 F.2.1 dL_refuses_724 (lv_at hl 1 rfl) ?_
                refine k_iconst F dL_refuses_726 ?_
                refine k_iconst F dL_refuses_727 ?_
                refine j_call F (n := 4) (wr := A2 G an am fn fm) (B := B) (P := P) (σ := σ) (τ' := σ) (z' := (-2000000001)) (mL_least l hfl G z0 _ B P σ (x % (σ 2 0 0)) 0 0 (by omega) (by omega) (by omega) hI) (an_1 (by unfold kLst; simp only [isC]; (repeat' split) <;> omega)) rfl gL_refuses_L_least rfl rfl rfl (by decide +kernel) ⟨by rw [hRb.1]; exact Nat.le_of_ble_eq_true rfl, by rw [hRb.2]; exact Nat.le_of_ble_eq_true rfl⟩ hK hP hD hz hAz hS hA rfl rfl hl.1 (Nat.le_of_ble_eq_true rfl) dL_refuses_728 ⟨by omega, by omega⟩ (fun P H locs hP hD hS => ?_)
                refine k_ldc F (v := -2000000001) (z := -2000000001) (by decide +kernel) (by decide +kernel) dL_refuses_731 ?_
                refine k_same_ne F (tgt := 835) dL_refuses_733 (by decide) ?_
                refine lv_aload_n F.1 F.2.1 dL_refuses_736 rfl (lv_at hl 3 rfl) ?_
                refine lv_iload F.1 F.2.1 dL_refuses_737 (lv_at hl 1 rfl) ?_
                refine lv_aload_n F.1 F.2.1 dL_refuses_739 rfl (lv_at hl 5 rfl) ?_
                refine lv_iload F.1 F.2.1 dL_refuses_740 (lv_at hl 1 rfl) ?_
                refine k_iald F hK hP 1 rfl (((x % (σ 2 0 0))).toNat) (by omega) (by omega) (by decide) (hmf _ (by omega)) dL_refuses_742 ?_
                refine k_iconst F dL_refuses_743 ?_
                refine k_isub F rfl dL_refuses_744 ?_
                refine lv_iload F.1 F.2.1 dL_refuses_745 (lv_at hl 10 rfl) ?_
                refine j_call F (n := 4) (wr := A2 G an am fn fm) (B := B) (P := P) (σ := σ) (τ' := σ) (z' := (-2000000001)) (mL_least l hfl G z0 _ B P σ (x % (σ 2 0 0)) ((σ 8 ((x % (σ 2 0 0))).toNat 0) - 1) vo (by omega) (by omega) (by omega) hI) (an_1 (by unfold kLst; simp only [isC]; (repeat' split) <;> omega)) rfl gL_refuses_L_least rfl rfl rfl (by decide +kernel) ⟨by rw [hRb.1]; exact Nat.le_of_ble_eq_true rfl, by rw [hRb.2]; exact Nat.le_of_ble_eq_true rfl⟩ hK hP hD hz hAz hS hA rfl rfl hl.1 (Nat.le_of_ble_eq_true rfl) dL_refuses_747 ⟨by omega, by omega⟩ (fun P H locs hP hD hS => ?_)
                refine k_ldc F (v := -2000000001) (z := -2000000001) (by decide +kernel) (by decide +kernel) dL_refuses_750 ?_
                refine k_same_ne F (tgt := 835) dL_refuses_752 (by decide) ?_
                refine lv_aload_n F.1 F.2.1 dL_refuses_755 rfl (lv_at hl 3 rfl) ?_
                refine lv_iload F.1 F.2.1 dL_refuses_756 (lv_at hl 1 rfl) ?_
                refine lv_iload F.1 F.2.1 dL_refuses_758 (lv_at hl 0 rfl) ?_
                refine k_iconst F dL_refuses_760 ?_
                refine j_call F (n := 4) (wr := A2 G an am fn fm) (B := B) (P := P) (σ := σ) (τ' := σ) (z' := (-2000000001)) (mL_least l hfl G z0 _ B P σ (x % (σ 2 0 0)) la 0 (by omega) (by omega) (by omega) hI) (an_1 (by unfold kLst; simp only [isC]; (repeat' split) <;> omega)) rfl gL_refuses_L_least rfl rfl rfl (by decide +kernel) ⟨by rw [hRb.1]; exact Nat.le_of_ble_eq_true rfl, by rw [hRb.2]; exact Nat.le_of_ble_eq_true rfl⟩ hK hP hD hz hAz hS hA rfl rfl hl.1 (Nat.le_of_ble_eq_true rfl) dL_refuses_761 ⟨by omega, by omega⟩ (fun P H locs hP hD hS => ?_)
                refine k_ldc F (v := -2000000001) (z := -2000000001) (by decide +kernel) (by decide +kernel) dL_refuses_764 ?_
                refine k_same_ne F (tgt := 835) dL_refuses_766 (by decide) ?_
                refine lv_aload_n F.1 F.2.1 dL_refuses_769 rfl (lv_at hl 3 rfl) ?_
                refine lv_iload F.1 F.2.1 dL_refuses_770 (lv_at hl 1 rfl) ?_
                refine lv_iload F.1 F.2.1 dL_refuses_772 (lv_at hl 11 rfl) ?_
                refine j_call F (n := 3) (wr := A2 G an am fn fm) (B := B) (P := P) (σ := σ) (τ' := σ) (z' := (-2000000002)) (mL_shift l hfl G z0 _ B P σ (x % (σ 2 0 0)) da (by omega) (by omega) hI) (an_2 (by unfold kShf; (repeat' split) <;> omega)) rfl gL_refuses_L_shift rfl rfl rfl (by decide +kernel) ⟨by rw [hRb.1]; exact Nat.le_of_ble_eq_true rfl, by rw [hRb.2]; exact Nat.le_of_ble_eq_true rfl⟩ hK hP hD hz hAz hS hA rfl rfl hl.1 (Nat.le_of_ble_eq_true rfl) dL_refuses_774 ⟨by omega, by omega⟩ (fun P H locs hP hD hS => ?_)
                refine k_ldc F (v := -2000000002) (z := -2000000002) (by decide +kernel) (by decide +kernel) dL_refuses_777 ?_
                refine k_same_ne F (tgt := 835) dL_refuses_779 (by decide) ?_
                refine lv_aload_n F.1 F.2.1 dL_refuses_782 rfl (lv_at hl 3 rfl) ?_
                refine lv_iload F.1 F.2.1 dL_refuses_783 (lv_at hl 1 rfl) ?_
                refine k_iconst F dL_refuses_785 ?_
                refine j_call F (n := 3) (wr := A2 G an am fn fm) (B := B) (P := P) (σ := σ) (τ' := σ) (z' := (-2000000002)) (mL_rehearses l hfl G z0 _ B P σ (x % (σ 2 0 0)) 0 (by omega) (by omega) hI (by omega)) (an_2 (by unfold kReh; (repeat' split) <;> omega)) (stt_n (by rw [show (kReh σ (x % (σ 2 0 0)) 0 : Int) = 2 from by unfold kReh; (repeat' split) <;> omega]; decide)) gL_refuses_L_rehearses rfl rfl rfl (by decide +kernel) ⟨by rw [hRb.1]; exact Nat.le_of_ble_eq_true rfl, by rw [hRb.2]; exact Nat.le_of_ble_eq_true rfl⟩ hK hP hD hz hAz hS hA rfl rfl hl.1 (Nat.le_of_ble_eq_true rfl) dL_refuses_786 ⟨by omega, by omega⟩ (fun P H locs hP hD hS => ?_)
                refine k_ldc F (v := -2000000002) (z := -2000000002) (by decide +kernel) (by decide +kernel) dL_refuses_789 ?_
                refine k_same_ne F (tgt := 835) dL_refuses_791 (by decide) ?_
                refine lv_aload_n F.1 F.2.1 dL_refuses_794 rfl (lv_at hl 3 rfl) ?_
                refine lv_iload F.1 F.2.1 dL_refuses_795 (lv_at hl 1 rfl) ?_
                refine k_bipush F dL_refuses_797 (by decide +kernel) ?_
                refine lv_iload_n F.1 F.2.1 dL_refuses_799 rfl (lv_at hl 6 rfl) ?_
                refine k_iadd F rfl dL_refuses_800 ?_
                refine j_call F (n := 3) (wr := A2 G an am fn fm) (B := B) (P := P) (σ := σ) (τ' := σ) (z' := (-2000000002)) (mL_rehearses l hfl G z0 _ B P σ (x % (σ 2 0 0)) (31 + x) (by omega) (by omega) hI (by omega)) (an_2 (by unfold kReh; (repeat' split) <;> omega)) (stt_n (by rw [show (kReh σ (x % (σ 2 0 0)) (31 + x) : Int) = 2 from by unfold kReh; (repeat' split) <;> omega]; decide)) gL_refuses_L_rehearses rfl rfl rfl (by decide +kernel) ⟨by rw [hRb.1]; exact Nat.le_of_ble_eq_true rfl, by rw [hRb.2]; exact Nat.le_of_ble_eq_true rfl⟩ hK hP hD hz hAz hS hA rfl rfl hl.1 (Nat.le_of_ble_eq_true rfl) dL_refuses_801 ⟨by omega, by omega⟩ (fun P H locs hP hD hS => ?_)
                refine k_ldc F (v := -2000000002) (z := -2000000002) (by decide +kernel) (by decide +kernel) dL_refuses_804 ?_
                refine k_same_ne F (tgt := 835) dL_refuses_806 (by decide) ?_
                refine lv_aload_n F.1 F.2.1 dL_refuses_809 rfl (lv_at hl 5 rfl) ?_
                refine lv_iload F.1 F.2.1 dL_refuses_810 (lv_at hl 1 rfl) ?_
                refine k_iald F hK hP 1 rfl (((x % (σ 2 0 0))).toNat) (by omega) (by omega) (by decide) (hmf _ (by omega)) dL_refuses_812 ?_
                refine k_iconst F dL_refuses_813 ?_
                have J831 : ∀ (P : Nat → Nat → Nat) (H : Heap) (locs : List Loc), gP G (A2 G an am fn fm ++ DW G B P σ) H → va_D AA (A2 G an am fn fm ++ DW G B P σ) → va_S AA sS.heap H locs → ∀ ls : Array Slot, lv_has ls 12 [(11, .int (iI la)), (10, .int (iI (x % (σ 2 0 0)))), (9, .int (iI 1)), (0, .ref (B 5)), (1, .ref an), (2, .ref am), (3, .int (iI x)), (4, .int (iI lw)), (5, .int (iI no)), (6, .int (iI lo)), (7, .int (iI vo)), (8, .int (iI da))] → W pP l eE RR sS mM args bB meth cC H locs 270 1872 (MQ bB (va_Qi (fun (r : Int32) (u : Nat → Nat → Nat) => r = iI 1) (fun u t9 => gP G (A2 G an am fn fm ++ DW G B u σ) t9.heap ∧ va_D AA (A2 G an am fn fm ++ DW G B u σ)) AA) args sS 320 2400 AA) (F0 mM 831 ls []) := by
                  intro  P H locs hP hD hS ls hl
                  refine k_iconst F dL_refuses_831 ?_
                  refine lv_goto (tgt := 836) F.1 F.2.1 dL_refuses_832 (by decide) ?_
                  refine lv_istore (lv' := [(9, .int (iI 1)), (11, .int (iI la)), (10, .int (iI (x % (σ 2 0 0)))), (0, .ref (B 5)), (1, .ref an), (2, .ref am), (3, .int (iI x)), (4, .int (iI lw)), (5, .int (iI no)), (6, .int (iI lo)), (7, .int (iI vo)), (8, .int (iI da))]) F.1 F.2.1 dL_refuses_836 hl (by decide) rfl (fun ls hl => ?_)
                  refine lv_iload F.1 F.2.1 dL_refuses_838 (lv_at hl 0 rfl) ?_
                  refine W.widen (k := 320) (n := 2400) (by omega) (by omega) ?_
                  exact W.zret F.1 F.2.1 hr (by decide +kernel) (fun t9 ht _ => ⟨⟨_, P, rfl, rfl, by rw [ht]; exact hP, hD⟩, hS.F ht⟩) hS.2.2 dL_refuses_840 hlocks
                refine k_icmp_lt F (tgt := 831) dL_refuses_814 (by decide) (by omega) (by omega) (fun c_43 => ?_) (fun c_43 => ?_)
                · skip
                  refine W.widen (k := 270) (n := 1872) (by omega) (by omega) ?_
                  exact J831  P _ _ hP hD hS _ (lv_sub hl [0, 1, 2, 3, 4, 5, 6, 7, 8, 9, 10, 11] rfl)
                · skip
                  refine lv_aload_n F.1 F.2.1 dL_refuses_817 rfl (lv_at hl 3 rfl) ?_
                  refine lv_iload F.1 F.2.1 dL_refuses_818 (lv_at hl 1 rfl) ?_
                  refine k_iconst F dL_refuses_820 ?_
                  refine lv_iload F.1 F.2.1 dL_refuses_821 (lv_at hl 10 rfl) ?_
                  refine j_call F (n := 4) (wr := A2 G an am fn fm) (B := B) (P := P) (σ := σ) (τ' := σ) (z' := (-2000000002)) (mL_least l hfl G z0 _ B P σ (x % (σ 2 0 0)) 1 vo (by omega) (by omega) (by omega) hI) (an_2 (by unfold kLst; simp only [isC]; (repeat' split) <;> omega)) rfl gL_refuses_L_least rfl rfl rfl (by decide +kernel) ⟨by rw [hRb.1]; exact Nat.le_of_ble_eq_true rfl, by rw [hRb.2]; exact Nat.le_of_ble_eq_true rfl⟩ hK hP hD hz hAz hS hA rfl rfl hl.1 (Nat.le_of_ble_eq_true rfl) dL_refuses_823 ⟨by omega, by omega⟩ (fun P H locs hP hD hS => ?_)
                  refine k_ldc F (v := -2000000002) (z := -2000000002) (by decide +kernel) (by decide +kernel) dL_refuses_826 ?_
                  refine k_same_ne F (tgt := 835) dL_refuses_828 (by decide) ?_
                  refine W.widen (k := 270) (n := 1872) (by omega) (by omega) ?_
                  exact J831  P _ _ hP hD hS _ (lv_sub hl [0, 1, 2, 3, 4, 5, 6, 7, 8, 9, 10, 11] rfl)
              refine k_if_eq F (tgt := 638) dL_refuses_626 (by decide) (by omega) (fun c_45 => ?_) (fun c_45 => ?_)
              · skip
                refine lv_aload_n F.1 F.2.1 dL_refuses_638 rfl (lv_at hl 4 rfl) ?_
                refine lv_iload F.1 F.2.1 dL_refuses_639 (lv_at hl 0 rfl) ?_
                refine k_iald F hK hP 1 rfl (((x % (σ 2 0 0))).toNat) (by omega) (by omega) (by decide) (hmf _ (by omega)) dL_refuses_641 ?_
                refine lv_iload_n F.1 F.2.1 dL_refuses_642 rfl (lv_at hl 5 rfl) ?_
                refine k_bipush F dL_refuses_643 (by decide +kernel) ?_
                refine k_rem F (by omega) (by omega) dL_refuses_645 ?_
                refine k_iadd F rfl dL_refuses_646 ?_
                refine W.widen (k := 198) (n := 1440) (by omega) (by omega) ?_
                exact J647 ((σ 8 ((x % (σ 2 0 0))).toNat 0) + (x % 50)) (by omega) P _ _ hP hD hS _ (lv_sub hl [0, 1, 2, 3, 4, 5, 6, 7, 8, 9, 10] rfl)
              · skip
                refine k_iconst F dL_refuses_629 ?_
                refine lv_iload_n F.1 F.2.1 dL_refuses_630 rfl (lv_at hl 5 rfl) ?_
                refine k_bipush F dL_refuses_631 (by decide +kernel) ?_
                refine k_rem F (by omega) (by omega) dL_refuses_633 ?_
                refine k_isub F rfl dL_refuses_634 ?_
                refine lv_goto (tgt := 647) F.1 F.2.1 dL_refuses_635 (by decide) ?_
                refine W.widen (k := 198) (n := 1440) (by omega) (by omega) ?_
                exact J647 ((-1) - (x % 50)) (by omega) P _ _ hP hD hS _ (lv_sub hl [0, 1, 2, 3, 4, 5, 6, 7, 8, 9, 10] rfl)
          refine k_if_le F (tgt := 606) dL_refuses_563 (by decide) (by omega) (fun c_46 => ?_) (fun c_46 => ?_)
          · skip
            refine W.widen (k := 198) (n := 1440) (by omega) (by omega) ?_
            exact J606  P _ _ hP hD hS _ (lv_sub hl [0, 1, 2, 3, 4, 5, 6, 7, 8, 9] rfl)
          · skip
            have hsr : 0 ≤ x % σ 1 0 0 ∧ x % σ 1 0 0 < σ 1 0 0 := ⟨Int.emod_nonneg _ (by omega), Int.emod_lt_of_pos _ (by omega)⟩
            refine lv_aload_n F.1 F.2.1 dL_refuses_566 rfl (lv_at hl 1 rfl) ?_
            refine lv_iload_n F.1 F.2.1 dL_refuses_567 rfl (lv_at hl 4 rfl) ?_
            refine lv_aload_n F.1 F.2.1 dL_refuses_568 rfl (lv_at hl 2 rfl) ?_
            refine k_iconst F dL_refuses_569 ?_
            refine k_iald F hK hP 0 rfl 0 rfl (by decide) (by decide) hnf.1 dL_refuses_570 ?_
            refine k_rem F (by omega) (by omega) dL_refuses_571 ?_
            refine lv_iload F.1 F.2.1 dL_refuses_572 (lv_at hl 9 rfl) ?_
            refine k_iconst F dL_refuses_574 ?_
            refine j_call F (n := 4) (wr := A2 G an am fn fm) (B := B) (P := P) (σ := σ) (τ' := σ) (z' := (-2000000002)) (mL_tells l hfl G z0 _ B P σ (x % (σ 1 0 0)) da 0 (by omega) (by omega) (Or.inl rfl) hI) (an_2 (by unfold kTel; (repeat' split) <;> omega)) (stt_n (by rw [show (kTel σ (x % (σ 1 0 0)) da : Int) = 2 from by unfold kTel; (repeat' split) <;> omega]; decide)) gL_refuses_L_tells rfl rfl rfl (by decide +kernel) ⟨by rw [hRb.1]; exact Nat.le_of_ble_eq_true rfl, by rw [hRb.2]; exact Nat.le_of_ble_eq_true rfl⟩ hK hP hD hz hAz hS hA rfl rfl hl.1 (Nat.le_of_ble_eq_true rfl) dL_refuses_575 ⟨by omega, by omega⟩ (fun P H locs hP hD hS => ?_)
            refine k_ldc F (v := -2000000002) (z := -2000000002) (by decide +kernel) (by decide +kernel) dL_refuses_578 ?_
            refine k_same_ne F (tgt := 603) dL_refuses_580 (by decide) ?_
            refine lv_aload_n F.1 F.2.1 dL_refuses_583 rfl (lv_at hl 1 rfl) ?_
            refine lv_iload_n F.1 F.2.1 dL_refuses_584 rfl (lv_at hl 4 rfl) ?_
            refine lv_aload_n F.1 F.2.1 dL_refuses_585 rfl (lv_at hl 2 rfl) ?_
            refine k_iconst F dL_refuses_586 ?_
            refine k_iald F hK hP 0 rfl 0 rfl (by decide) (by decide) hnf.1 dL_refuses_587 ?_
            refine k_rem F (by omega) (by omega) dL_refuses_588 ?_
            refine lv_iload F.1 F.2.1 dL_refuses_589 (lv_at hl 8 rfl) ?_
            refine j_call F (n := 3) (wr := A2 G an am fn fm) (B := B) (P := P) (σ := σ) (τ' := σ) (z' := (-2000000002)) (mL_changes l hfl G z0 _ B P σ (x % (σ 1 0 0)) vo (by omega) (by omega) hI) (an_2 (by unfold kChg; (repeat' split) <;> omega)) (stt_n (by rw [show (kChg σ (x % (σ 1 0 0)) vo : Int) = 2 from by unfold kChg; (repeat' split) <;> omega]; decide)) gL_refuses_L_changes rfl rfl rfl (by decide +kernel) ⟨by rw [hRb.1]; exact Nat.le_of_ble_eq_true rfl, by rw [hRb.2]; exact Nat.le_of_ble_eq_true rfl⟩ hK hP hD hz hAz hS hA rfl rfl hl.1 (Nat.le_of_ble_eq_true rfl) dL_refuses_591 ⟨by omega, by omega⟩ (fun P H locs hP hD hS => ?_)
            refine k_ldc F (v := -2000000002) (z := -2000000002) (by decide +kernel) (by decide +kernel) dL_refuses_594 ?_
            refine k_same_ne F (tgt := 603) dL_refuses_596 (by decide) ?_
            refine k_iconst F dL_refuses_599 ?_
            refine lv_goto (tgt := 604) F.1 F.2.1 dL_refuses_600 (by decide) ?_
            refine lv_istore (lv' := [(9, .int (iI 1)), (0, .ref (B 5)), (1, .ref an), (2, .ref am), (3, .int (iI x)), (4, .int (iI lw)), (5, .int (iI no)), (6, .int (iI lo)), (7, .int (iI vo)), (8, .int (iI da))]) F.1 F.2.1 dL_refuses_604 hl (by decide) rfl (fun ls hl => ?_)
            refine W.widen (k := 198) (n := 1440) (by omega) (by omega) ?_
            exact J606  P _ _ hP hD hS _ (lv_sub hl [0, 1, 2, 3, 4, 5, 6, 7, 8, 9] rfl)
        refine k_icmp_lt F (tgt := 548) dL_refuses_532 (by decide) (by omega) (by omega) (fun c_49 => ?_) (fun c_49 => ?_)
        · skip
          refine W.widen (k := 186) (n := 1368) (by omega) (by omega) ?_
          exact J548  P _ _ hP hD hS _ (lv_sub hl [0, 1, 2, 3, 4, 5, 6, 7, 8] rfl)
        · skip
          refine lv_aload_n F.1 F.2.1 dL_refuses_535 rfl (lv_at hl 0 rfl) ?_
          refine k_iconst F dL_refuses_536 ?_
          refine k_iconst F dL_refuses_537 ?_
          refine k_iconst F dL_refuses_538 ?_
          refine k_iconst F dL_refuses_539 ?_
          refine j_call F (n := 5) (wr := A2 G an am fn fm) (B := B) (P := P) (σ := σ) (τ' := σ) (z' := (-2000000003)) (mL_chords l hfl G z0 _ B P σ 3 2 1 0 (by omega) (by omega) (by omega) (by omega) hI) (an_2 (by unfold kChd; (repeat' split) <;> omega)) (stt_n (by rw [show (kChd σ 3 2 1 0 : Int) = 2 from by unfold kChd; (repeat' split) <;> omega]; decide)) gL_refuses_L_chords rfl rfl rfl (by decide +kernel) ⟨by rw [hRb.1]; exact Nat.le_of_ble_eq_true rfl, by rw [hRb.2]; exact Nat.le_of_ble_eq_true rfl⟩ hK hP hD hz hAz hS hA rfl rfl hl.1 (Nat.le_of_ble_eq_true rfl) dL_refuses_540 ⟨by omega, by omega⟩ (fun P H locs hP hD hS => ?_)
          refine k_ldc F (v := -2000000003) (z := -2000000003) (by decide +kernel) (by decide +kernel) dL_refuses_543 ?_
          refine k_same_ne F (tgt := 552) dL_refuses_545 (by decide) ?_
          refine W.widen (k := 186) (n := 1368) (by omega) (by omega) ?_
          exact J548  P _ _ hP hD hS _ (lv_sub hl [0, 1, 2, 3, 4, 5, 6, 7, 8] rfl)
      refine k_icmp_ge F (tgt := 517) dL_refuses_508 (by decide) (by omega) (by omega) (fun c_51 => ?_) (fun c_51 => ?_)
      · skip
        refine lv_aload_n F.1 F.2.1 dL_refuses_517 rfl (lv_at hl 0 rfl) ?_
        refine k_iconst F dL_refuses_518 ?_
        refine j_call F (n := 2) (wr := A2 G an am fn fm) (B := B) (P := P) (σ := σ) (τ' := σ) (z' := (-2000000003)) (mL_pieces l hfl G z0 _ B P σ 5 (by omega) hI) (an_2 (by unfold kPce; (repeat' split) <;> omega)) (stt_n (by rw [show (kPce σ 5 : Int) = 2 from by unfold kPce; (repeat' split) <;> omega]; decide)) gL_refuses_L_pieces rfl rfl rfl (by decide +kernel) ⟨by rw [hRb.1]; exact Nat.le_of_ble_eq_true rfl, by rw [hRb.2]; exact Nat.le_of_ble_eq_true rfl⟩ hK hP hD hz hAz hS hA rfl rfl hl.1 (Nat.le_of_ble_eq_true rfl) dL_refuses_519 ⟨by omega, by omega⟩ (fun P H locs hP hD hS => ?_)
        refine k_ldc F (v := -2000000003) (z := -2000000003) (by decide +kernel) (by decide +kernel) dL_refuses_522 ?_
        refine k_same_ne F (tgt := 552) dL_refuses_524 (by decide) ?_
        refine W.widen (k := 180) (n := 1332) (by omega) (by omega) ?_
        exact J527  P _ _ hP hD hS _ (lv_sub hl [0, 1, 2, 3, 4, 5, 6, 7, 8] rfl)
      · skip
        refine lv_aload_n F.1 F.2.1 dL_refuses_511 rfl (lv_at hl 1 rfl) ?_
        refine k_iconst F dL_refuses_512 ?_
        refine k_iald F hK hP 0 rfl 2 rfl (by decide) (by decide) hnf.2.2 dL_refuses_513 ?_
        refine k_if_gt F (tgt := 527) dL_refuses_514 (by decide) (by omega) (fun c_53 => ?_) (fun c_53 => ?_)
        · skip
          refine W.widen (k := 180) (n := 1332) (by omega) (by omega) ?_
          exact J527  P _ _ hP hD hS _ (lv_sub hl [0, 1, 2, 3, 4, 5, 6, 7, 8] rfl)
        · skip
          refine lv_aload_n F.1 F.2.1 dL_refuses_517 rfl (lv_at hl 0 rfl) ?_
          refine k_iconst F dL_refuses_518 ?_
          refine j_call F (n := 2) (wr := A2 G an am fn fm) (B := B) (P := P) (σ := σ) (τ' := σ) (z' := (-2000000003)) (mL_pieces l hfl G z0 _ B P σ 5 (by omega) hI) (an_2 (by unfold kPce; (repeat' split) <;> omega)) (stt_n (by rw [show (kPce σ 5 : Int) = 2 from by unfold kPce; (repeat' split) <;> omega]; decide)) gL_refuses_L_pieces rfl rfl rfl (by decide +kernel) ⟨by rw [hRb.1]; exact Nat.le_of_ble_eq_true rfl, by rw [hRb.2]; exact Nat.le_of_ble_eq_true rfl⟩ hK hP hD hz hAz hS hA rfl rfl hl.1 (Nat.le_of_ble_eq_true rfl) dL_refuses_519 ⟨by omega, by omega⟩ (fun P H locs hP hD hS => ?_)
          refine k_ldc F (v := -2000000003) (z := -2000000003) (by decide +kernel) (by decide +kernel) dL_refuses_522 ?_
          refine k_same_ne F (tgt := 552) dL_refuses_524 (by decide) ?_
          refine W.widen (k := 180) (n := 1332) (by omega) (by omega) ?_
          exact J527  P _ _ hP hD hS _ (lv_sub hl [0, 1, 2, 3, 4, 5, 6, 7, 8] rfl)
    refine k_icmp_lt F (tgt := 503) dL_refuses_488 (by decide) (by omega) (by omega) (fun c_55 => ?_) (fun c_55 => ?_)
    · skip
      refine W.widen (k := 174) (n := 1212) (by omega) (by omega) ?_
      exact J503  P _ _ hP hD hS _ (lv_sub hl [0, 1, 2, 3, 4, 5, 6, 7, 8] rfl)
    · skip
      refine lv_aload_n F.1 F.2.1 dL_refuses_491 rfl (lv_at hl 0 rfl) ?_
      refine k_iconst F dL_refuses_492 ?_
      refine k_iconst F dL_refuses_493 ?_
      refine k_iconst F dL_refuses_494 ?_
      refine j_call F (n := 4) (wr := A2 G an am fn fm) (B := B) (P := P) (σ := σ) (τ' := σ) (z' := (-2000000003)) (mL_singers l hfl G z0 _ B P σ 0 1 2 (by omega) (by omega) (by omega) hI) (an_2 (by unfold kAdd; (repeat' split) <;> omega)) (stt_n (by rw [show (kAdd σ 0 1 2 : Int) = 2 from by unfold kAdd; (repeat' split) <;> omega]; decide)) gL_refuses_L_singers rfl rfl rfl (by decide +kernel) ⟨by rw [hRb.1]; exact Nat.le_of_ble_eq_true rfl, by rw [hRb.2]; exact Nat.le_of_ble_eq_true rfl⟩ hK hP hD hz hAz hS hA rfl rfl hl.1 (Nat.le_of_ble_eq_true rfl) dL_refuses_495 ⟨by omega, by omega⟩ (fun P H locs hP hD hS => ?_)
      refine k_ldc F (v := -2000000003) (z := -2000000003) (by decide +kernel) (by decide +kernel) dL_refuses_498 ?_
      refine k_same_ne F (tgt := 552) dL_refuses_500 (by decide) ?_
      refine W.widen (k := 174) (n := 1212) (by omega) (by omega) ?_
      exact J503  P _ _ hP hD hS _ (lv_sub hl [0, 1, 2, 3, 4, 5, 6, 7, 8] rfl)
  refine k_if_ne F (tgt := 10) dL_refuses_3 (by decide) (by omega) (fun c_57 => ?_) (fun c_57 => ?_)
  · skip
    refine k_iconst F dL_refuses_10 ?_
    refine lv_istore (lv' := [(4, .int (iI 0)), (0, .ref (B 5)), (1, .ref an), (2, .ref am), (3, .int (iI x))]) F.1 F.2.1 dL_refuses_11 hl (by decide) rfl (fun ls hl => ?_)
    refine lv_iload F.1 F.2.1 dL_refuses_13 (lv_at hl 0 rfl) ?_
    refine k_if_eq F (tgt := 27) dL_refuses_15 (by decide) (by omega) (fun c_58 => ?_) (fun c_58 => absurd c_58 (by omega))
    refine lv_aload_n F.1 F.2.1 dL_refuses_27 rfl (lv_at hl 2 rfl) ?_
    refine k_iconst F dL_refuses_28 ?_
    refine k_iald F hK hP 0 rfl 0 rfl (by decide) (by decide) hnf.1 dL_refuses_29 ?_
    refine lv_iload_n F.1 F.2.1 dL_refuses_30 rfl (lv_at hl 4 rfl) ?_
    refine k_bipush F dL_refuses_31 (by decide +kernel) ?_
    refine k_rem F (by omega) (by omega) dL_refuses_33 ?_
    refine k_iadd F rfl dL_refuses_34 ?_
    refine lv_istore (lv' := [(5, .int (iI ((σ 1 0 0) + (x % 50)))), (4, .int (iI 0)), (0, .ref (B 5)), (1, .ref an), (2, .ref am), (3, .int (iI x))]) F.1 F.2.1 dL_refuses_35 hl (by decide) rfl (fun ls hl => ?_)
    refine lv_iload F.1 F.2.1 dL_refuses_37 (lv_at hl 1 rfl) ?_
    refine k_if_eq F (tgt := 51) dL_refuses_39 (by decide) (by omega) (fun c_59 => ?_) (fun c_59 => absurd c_59 (by omega))
    refine lv_aload_n F.1 F.2.1 dL_refuses_51 rfl (lv_at hl 3 rfl) ?_
    refine k_iconst F dL_refuses_52 ?_
    refine k_iald F hK hP 0 rfl 1 rfl (by decide) (by decide) hnf.2.1 dL_refuses_53 ?_
    refine lv_iload_n F.1 F.2.1 dL_refuses_54 rfl (lv_at hl 5 rfl) ?_
    refine k_bipush F dL_refuses_55 (by decide +kernel) ?_
    refine k_rem F (by omega) (by omega) dL_refuses_57 ?_
    refine k_iadd F rfl dL_refuses_58 ?_
    refine lv_istore (lv' := [(6, .int (iI ((σ 2 0 0) + (x % 50)))), (5, .int (iI ((σ 1 0 0) + (x % 50)))), (4, .int (iI 0)), (0, .ref (B 5)), (1, .ref an), (2, .ref am), (3, .int (iI x))]) F.1 F.2.1 dL_refuses_59 hl (by decide) rfl (fun ls hl => ?_)
    refine lv_iload F.1 F.2.1 dL_refuses_61 (lv_at hl 2 rfl) ?_
    refine k_if_eq F (tgt := 75) dL_refuses_63 (by decide) (by omega) (fun c_60 => ?_) (fun c_60 => absurd c_60 (by omega))
    refine k_iconst F dL_refuses_75 ?_
    refine lv_iload_n F.1 F.2.1 dL_refuses_76 rfl (lv_at hl 6 rfl) ?_
    refine k_bipush F dL_refuses_77 (by decide +kernel) ?_
    refine k_rem F (by omega) (by omega) dL_refuses_79 ?_
    refine k_iadd F rfl dL_refuses_80 ?_
    refine lv_istore (lv' := [(7, .int (iI (4 + (x % 50)))), (6, .int (iI ((σ 2 0 0) + (x % 50)))), (5, .int (iI ((σ 1 0 0) + (x % 50)))), (4, .int (iI 0)), (0, .ref (B 5)), (1, .ref an), (2, .ref am), (3, .int (iI x))]) F.1 F.2.1 dL_refuses_81 hl (by decide) rfl (fun ls hl => ?_)
    refine lv_iload F.1 F.2.1 dL_refuses_83 (lv_at hl 3 rfl) ?_
    refine k_if_eq F (tgt := 97) dL_refuses_85 (by decide) (by omega) (fun c_61 => ?_) (fun c_61 => absurd c_61 (by omega))
    refine k_bipush F dL_refuses_97 (by decide +kernel) ?_
    refine lv_iload_n F.1 F.2.1 dL_refuses_99 rfl (lv_at hl 7 rfl) ?_
    refine k_bipush F dL_refuses_100 (by decide +kernel) ?_
    refine k_rem F (by omega) (by omega) dL_refuses_102 ?_
    refine k_iadd F rfl dL_refuses_103 ?_
    refine lv_istore (lv' := [(8, .int (iI (31 + (x % 50)))), (7, .int (iI (4 + (x % 50)))), (6, .int (iI ((σ 2 0 0) + (x % 50)))), (5, .int (iI ((σ 1 0 0) + (x % 50)))), (4, .int (iI 0)), (0, .ref (B 5)), (1, .ref an), (2, .ref am), (3, .int (iI x))]) F.1 F.2.1 dL_refuses_104 hl (by decide) rfl (fun ls hl => ?_)
    refine W.widen (k := 0) (n := 0) (by omega) (by omega) ?_
    exact J106 0 ((σ 1 0 0) + (x % 50)) ((σ 2 0 0) + (x % 50)) (4 + (x % 50)) (31 + (x % 50)) (by omega) (by omega) (by omega) (by omega) (by omega) P _ _ hP hD hS _ (lv_sub hl [5, 6, 7, 8, 4, 3, 2, 1, 0] rfl)
  · skip
    refine k_iconst F dL_refuses_6 ?_
    refine lv_goto (tgt := 11) F.1 F.2.1 dL_refuses_7 (by decide) ?_
    refine lv_istore (lv' := [(4, .int (iI 1)), (0, .ref (B 5)), (1, .ref an), (2, .ref am), (3, .int (iI x))]) F.1 F.2.1 dL_refuses_11 hl (by decide) rfl (fun ls hl => ?_)
    refine lv_iload F.1 F.2.1 dL_refuses_13 (lv_at hl 0 rfl) ?_
    refine k_if_eq F (tgt := 27) dL_refuses_15 (by decide) (by omega) (fun c_62 => absurd c_62 (by omega)) (fun c_62 => ?_)
    refine k_iconst F dL_refuses_18 ?_
    refine lv_iload_n F.1 F.2.1 dL_refuses_19 rfl (lv_at hl 4 rfl) ?_
    refine k_bipush F dL_refuses_20 (by decide +kernel) ?_
    refine k_rem F (by omega) (by omega) dL_refuses_22 ?_
    refine k_isub F rfl dL_refuses_23 ?_
    refine lv_goto (tgt := 35) F.1 F.2.1 dL_refuses_24 (by decide) ?_
    refine lv_istore (lv' := [(5, .int (iI ((-1) - (x % 50)))), (4, .int (iI 1)), (0, .ref (B 5)), (1, .ref an), (2, .ref am), (3, .int (iI x))]) F.1 F.2.1 dL_refuses_35 hl (by decide) rfl (fun ls hl => ?_)
    refine lv_iload F.1 F.2.1 dL_refuses_37 (lv_at hl 1 rfl) ?_
    refine k_if_eq F (tgt := 51) dL_refuses_39 (by decide) (by omega) (fun c_63 => absurd c_63 (by omega)) (fun c_63 => ?_)
    refine k_iconst F dL_refuses_42 ?_
    refine lv_iload_n F.1 F.2.1 dL_refuses_43 rfl (lv_at hl 5 rfl) ?_
    refine k_bipush F dL_refuses_44 (by decide +kernel) ?_
    refine k_rem F (by omega) (by omega) dL_refuses_46 ?_
    refine k_isub F rfl dL_refuses_47 ?_
    refine lv_goto (tgt := 59) F.1 F.2.1 dL_refuses_48 (by decide) ?_
    refine lv_istore (lv' := [(6, .int (iI ((-1) - (x % 50)))), (5, .int (iI ((-1) - (x % 50)))), (4, .int (iI 1)), (0, .ref (B 5)), (1, .ref an), (2, .ref am), (3, .int (iI x))]) F.1 F.2.1 dL_refuses_59 hl (by decide) rfl (fun ls hl => ?_)
    refine lv_iload F.1 F.2.1 dL_refuses_61 (lv_at hl 2 rfl) ?_
    refine k_if_eq F (tgt := 75) dL_refuses_63 (by decide) (by omega) (fun c_64 => absurd c_64 (by omega)) (fun c_64 => ?_)
    refine k_iconst F dL_refuses_66 ?_
    refine lv_iload_n F.1 F.2.1 dL_refuses_67 rfl (lv_at hl 6 rfl) ?_
    refine k_bipush F dL_refuses_68 (by decide +kernel) ?_
    refine k_rem F (by omega) (by omega) dL_refuses_70 ?_
    refine k_isub F rfl dL_refuses_71 ?_
    refine lv_goto (tgt := 81) F.1 F.2.1 dL_refuses_72 (by decide) ?_
    refine lv_istore (lv' := [(7, .int (iI ((-1) - (x % 50)))), (6, .int (iI ((-1) - (x % 50)))), (5, .int (iI ((-1) - (x % 50)))), (4, .int (iI 1)), (0, .ref (B 5)), (1, .ref an), (2, .ref am), (3, .int (iI x))]) F.1 F.2.1 dL_refuses_81 hl (by decide) rfl (fun ls hl => ?_)
    refine lv_iload F.1 F.2.1 dL_refuses_83 (lv_at hl 3 rfl) ?_
    refine k_if_eq F (tgt := 97) dL_refuses_85 (by decide) (by omega) (fun c_65 => absurd c_65 (by omega)) (fun c_65 => ?_)
    refine k_iconst F dL_refuses_88 ?_
    refine lv_iload_n F.1 F.2.1 dL_refuses_89 rfl (lv_at hl 7 rfl) ?_
    refine k_bipush F dL_refuses_90 (by decide +kernel) ?_
    refine k_rem F (by omega) (by omega) dL_refuses_92 ?_
    refine k_isub F rfl dL_refuses_93 ?_
    refine lv_goto (tgt := 104) F.1 F.2.1 dL_refuses_94 (by decide) ?_
    refine lv_istore (lv' := [(8, .int (iI ((-1) - (x % 50)))), (7, .int (iI ((-1) - (x % 50)))), (6, .int (iI ((-1) - (x % 50)))), (5, .int (iI ((-1) - (x % 50)))), (4, .int (iI 1)), (0, .ref (B 5)), (1, .ref an), (2, .ref am), (3, .int (iI x))]) F.1 F.2.1 dL_refuses_104 hl (by decide) rfl (fun ls hl => ?_)
    refine W.widen (k := 0) (n := 0) (by omega) (by omega) ?_
    exact J106 1 ((-1) - (x % 50)) ((-1) - (x % 50)) ((-1) - (x % 50)) ((-1) - (x % 50)) (by omega) (by omega) (by omega) (by omega) (by omega) P _ _ hP hD hS _ (lv_sub hl [5, 6, 7, 8, 4, 3, 2, 1, 0] rfl)
