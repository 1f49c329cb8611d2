set_option maxHeartbeats 8000000 in
set_option maxRecDepth 100000 in
theorem mL_tries (l : Launch) (hfl : l.stackTraces = false) (G : gT) (z0 sz0 : Nat) (B : Nat → Nat) (P : Nat → Nat → Nat) (σ : Sg) (nn am : Nat) (fn fm : Nat → Int) (x : Int) (hx : 0 ≤ x ∧ x < 2147483648) {N : Nat} (hI : Jv σ N) (hN5 : N ≤ 500) (hnf : NF fn σ) (hmf : MF fm σ) : Met l yL_tries wsL_tries { frames := 9, cells := 1600, slots := 9600, locals := 200 } (va_Pc [.ref (B 5), .ref nn, .ref am, .int (iI x)] (qB G (A2 G nn am fn fm ++ DW G B P σ) z0 sz0)) (va_Qi (fun (r : Int32) (u : Nat → Nat → Nat) => r = iI 1) (fun u t9 => gP G (A2 G nn am fn fm ++ DW G B u σ) t9.heap ∧ va_D (va_A (A2 G nn am fn fm ++ DW G B P σ) sz0) (A2 G nn am fn fm ++ DW G B u σ)) (va_A (A2 G nn am fn fm ++ DW G B P σ) sz0)) 1600 9600 (va_A (A2 G nn am fn fm ++ DW G B P σ) sz0) := by
  refine q_start (own := RL) (cc := cL_tries) (mL := 14) (ret := (some .boolean)) (Qc := fun AA => (va_Qi (fun (r : Int32) (u : Nat → Nat → Nat) => r = iI 1) (fun u t9 => gP G (A2 G nn am fn fm ++ DW G B u σ) t9.heap ∧ va_D AA (A2 G nn am fn fm ++ DW G B u σ)) AA)) (by decide) rfl rfl (Nat.le_of_ble_eq_true rfl) ?_
  intro pP eE sS mM args bB meth cC ls AA F hr hlocks hz hAz hK hP hD hS hA hl
  have hl : lv_has ls 14 [(0, .ref (B 5)), (1, .ref nn), (2, .ref am), (3, .int (iI x))] := hl
  have hRc : 1600 ≤ ({ frames := 9, cells := 1600, slots := 9600, locals := 200 } : Room).cells ∧ 9600 ≤ ({ frames := 9, cells := 1600, slots := 9600, locals := 200 } : Room).slots := ⟨Nat.le_refl _, Nat.le_refl _⟩
  generalize hRR : ({ frames := 9, cells := 1600, slots := 9600, locals := 200 } : Room) = RR at hRc ⊢
  have hRb : RR.frames = 9 ∧ RR.locals = 200 := by rw [← hRR]; exact ⟨rfl, rfl⟩
  have ⟨hb1, hb2, hb8⟩ := Jv_b hI
  refine lv_aload_n F.1 F.2.1 dL_tries_0 rfl (lv_at hl 1 rfl) ?_
  refine k_iconst F dL_tries_1 ?_
  refine k_iald F hK hP 0 rfl 1 rfl (by decide) (by decide) hnf.2.1 dL_tries_2 ?_
  refine k_if_ne F (tgt := 10) dL_tries_3 (by decide) (by omega) (fun c_1 => ?_) (fun c_1 => ?_)
  · skip
    obtain ⟨p, hp⟩ : ∃ p : Nat, x % (σ 2 0 0) = (p : Int) := ⟨(x % (σ 2 0 0)).toNat, by have := Int.emod_nonneg x (b := σ 2 0 0) (by omega); omega⟩
    have hpk : (p : Int) < σ 2 0 0 := by have := Int.emod_lt_of_pos x (b := σ 2 0 0) (by omega); omega
    have h8p := hb8 p
    have h81 := hI.2.2.2.2.2.2.2.1 p (by omega)
    refine lv_iload_n F.1 F.2.1 dL_tries_10 rfl (lv_at hl 3 rfl) ?_
    refine lv_aload_n F.1 F.2.1 dL_tries_11 rfl (lv_at hl 1 rfl) ?_
    refine k_iconst F dL_tries_12 ?_
    refine k_iald F hK hP 0 rfl 1 rfl (by decide) (by decide) hnf.2.1 dL_tries_13 ?_
    refine k_rem F (by omega) (by omega) dL_tries_14 ?_
    rw [show ((x % (σ 2 0 0)) : Int) = (p : Int) from hp]
    refine lv_istore (lv' := [(4, .int (iI (p : Int))), (0, .ref (B 5)), (1, .ref nn), (2, .ref am), (3, .int (iI x))]) F.1 F.2.1 dL_tries_15 hl (by decide) rfl (fun ls hl => ?_)
    refine lv_aload_n F.1 F.2.1 dL_tries_17 rfl (lv_at hl 2 rfl) ?_
    refine k_iconst F dL_tries_18 ?_
    refine k_iald F hK hP 0 rfl 1 rfl (by decide) (by decide) hnf.2.1 dL_tries_19 ?_
    refine k_if_eq F (tgt := 31) dL_tries_20 (by decide) (by omega) (fun c_2 => absurd c_2 (by omega)) (fun c_2 => ?_)
    refine lv_aload_n F.1 F.2.1 dL_tries_23 rfl (lv_at hl 3 rfl) ?_
    refine lv_iload F.1 F.2.1 dL_tries_24 (lv_at hl 0 rfl) ?_
    refine k_iald F hK hP 1 rfl p (by omega) (by omega) (by decide) (hmf p (by omega)) dL_tries_26 ?_
    refine k_iconst F dL_tries_27 ?_
    refine k_icmp_ge F (tgt := 33) dL_tries_28 (by decide) (by omega) (by omega) (fun c_3 => ?_) (fun c_3 => ?_)
    · skip
      obtain ⟨ch, hch⟩ : ∃ ch : Nat, 1 + ((x / 6) % ((σ 8 p 0) - 2)) = (ch : Int) := ⟨(1 + ((x / 6) % ((σ 8 p 0) - 2))).toNat, by have := Int.emod_nonneg (x / 6) (b := (σ 8 p 0) - 2) (by omega); omega⟩
      have hchk : 1 ≤ (ch : Int) ∧ (ch : Int) < (σ 8 p 0) - 1 := by have := Int.emod_nonneg (x / 6) (b := (σ 8 p 0) - 2) (by omega); have := Int.emod_lt_of_pos (x / 6) (b := (σ 8 p 0) - 2) (by omega); omega
      obtain ⟨vo, hvo⟩ : ∃ vo : Nat, (x / 96) % 4 = (vo : Int) := ⟨((x / 96) % 4).toNat, by omega⟩
      have hv4 : vo < 4 := by omega
      have hfc := t_fc hI p ch (v := vo) hv4
      have hfr := flr_rg (hI.2.2.2.2.2.2.2.2.2.1 p) ch vo
      have hcr := clg_rg (hI.2.2.2.2.2.2.2.2.2.1 p) ch vo
      have hlr := lfS_rg (σ 7 p) (4 * ch + vo) (flr (σ 7 p) ch vo) (sz := (σ 8 p 0)) (by omega) ((clg (σ 7 p) ch vo) - (flr (σ 7 p) ch vo) + 1).toNat
      have hlc := lft_cur (σ 7 p) ch vo (σ 8 p 0)
      have har := alf_rg (σ 7 p) (sz := (σ 8 p 0)) (by omega)
      have hlr : 0 ≤ (lft (σ 7 p) ch vo (σ 8 p 0)) ∧ (lft (σ 7 p) ch vo (σ 8 p 0)) ≤ 640 := hlr
      refine k_iconst F dL_tries_33 ?_
      refine lv_iload_n F.1 F.2.1 dL_tries_34 rfl (lv_at hl 4 rfl) ?_
      refine k_bipush F dL_tries_35 (by decide +kernel) ?_
      refine k_div F (by omega) (by omega) dL_tries_37 ?_
      refine lv_aload_n F.1 F.2.1 dL_tries_38 rfl (lv_at hl 3 rfl) ?_
      refine lv_iload F.1 F.2.1 dL_tries_39 (lv_at hl 0 rfl) ?_
      refine k_iald F hK hP 1 rfl p (by omega) (by omega) (by decide) (hmf p (by omega)) dL_tries_41 ?_
      refine k_iconst F dL_tries_42 ?_
      refine k_isub F rfl dL_tries_43 ?_
      refine k_rem F (by omega) (by omega) dL_tries_44 ?_
      refine k_iadd F rfl dL_tries_45 ?_
      rw [show ((1 + ((x / 6) % ((σ 8 p 0) - 2))) : Int) = (ch : Int) from hch]
      refine lv_istore (lv' := [(5, .int (iI (ch : Int))), (4, .int (iI (p : Int))), (0, .ref (B 5)), (1, .ref nn), (2, .ref am), (3, .int (iI x))]) F.1 F.2.1 dL_tries_46 hl (by decide) rfl (fun ls hl => ?_)
      refine lv_iload_n F.1 F.2.1 dL_tries_48 rfl (lv_at hl 5 rfl) ?_
      refine k_bipush F dL_tries_49 (by decide +kernel) ?_
      refine k_div F (by omega) (by omega) dL_tries_51 ?_
      refine k_iconst F dL_tries_52 ?_
      refine k_rem F (by omega) (by omega) dL_tries_53 ?_
      rw [show (((x / 96) % 4) : Int) = (vo : Int) from hvo]
      refine lv_istore (lv' := [(6, .int (iI (vo : Int))), (5, .int (iI (ch : Int))), (4, .int (iI (p : Int))), (0, .ref (B 5)), (1, .ref nn), (2, .ref am), (3, .int (iI x))]) F.1 F.2.1 dL_tries_54 hl (by decide) rfl (fun ls hl => ?_)
      refine lv_aload_n F.1 F.2.1 dL_tries_56 rfl (lv_at hl 3 rfl) ?_
      refine lv_iload F.1 F.2.1 dL_tries_57 (lv_at hl 2 rfl) ?_
      refine j_call F (n := 2) (wr := A2 G nn am fn fm) (B := B) (P := P) (σ := σ) (τ' := σ) (z' := (alf (σ 7 p) (σ 8 p 0))) (mL_faults l hfl G z0 _ B P σ (p : Int) (by omega) hI) (an_0 (by unfold kPic; (repeat' split) <;> omega)) rfl gL_tries_L_faults rfl rfl rfl (by decide +kernel) ⟨by rw [hRb.1]; exact Nat.le_of_ble_eq_true rfl, by rw [hRb.2]; exact Nat.le_of_ble_eq_true rfl⟩ hK hP hD hz hAz hS hA rfl rfl hl.1 (Nat.le_of_ble_eq_true rfl) dL_tries_59 ⟨by omega, by omega⟩ (fun P H locs hP hD hS => ?_)
      refine lv_istore (lv' := [(7, .int (iI (alf (σ 7 p) (σ 8 p 0)))), (6, .int (iI (vo : Int))), (5, .int (iI (ch : Int))), (4, .int (iI (p : Int))), (0, .ref (B 5)), (1, .ref nn), (2, .ref am), (3, .int (iI x))]) F.1 F.2.1 dL_tries_62 hl (by decide) rfl (fun ls hl => ?_)
      refine lv_aload_n F.1 F.2.1 dL_tries_64 rfl (lv_at hl 4 rfl) ?_
      refine lv_iload F.1 F.2.1 dL_tries_65 (lv_at hl 3 rfl) ?_
      refine lv_iload F.1 F.2.1 dL_tries_67 (lv_at hl 2 rfl) ?_
      refine lv_iload F.1 F.2.1 dL_tries_69 (lv_at hl 1 rfl) ?_
      refine j_call F (n := 4) (wr := A2 G nn am fn fm) (B := B) (P := P) (σ := σ) (τ' := σ) (z' := (lft (σ 7 p) ch vo (σ 8 p 0))) (mL_least l hfl G z0 _ B P σ (p : Int) (ch : Int) (vo : Int) (by omega) (by omega) (by omega) hI) (an_0 (by unfold kLst; simp only [isC, Int.toNat_natCast]; (repeat' split) <;> omega)) rfl gL_tries_L_least rfl rfl rfl (by decide +kernel) ⟨by rw [hRb.1]; exact Nat.le_of_ble_eq_true rfl, by rw [hRb.2]; exact Nat.le_of_ble_eq_true rfl⟩ hK hP hD hz hAz hS hA rfl rfl hl.1 (Nat.le_of_ble_eq_true rfl) dL_tries_71 ⟨by omega, by omega⟩ (fun P H locs hP hD hS => ?_)
      refine lv_istore (lv' := [(8, .int (iI (lft (σ 7 p) ch vo (σ 8 p 0)))), (7, .int (iI (alf (σ 7 p) (σ 8 p 0)))), (6, .int (iI (vo : Int))), (5, .int (iI (ch : Int))), (4, .int (iI (p : Int))), (0, .ref (B 5)), (1, .ref nn), (2, .ref am), (3, .int (iI x))]) F.1 F.2.1 dL_tries_74 hl (by decide) rfl (fun ls hl => ?_)
      refine lv_iload F.1 F.2.1 dL_tries_76 (lv_at hl 0 rfl) ?_
      refine k_if_lt F (tgt := 92) dL_tries_78 (by decide) (by omega) (fun c_4 => absurd c_4 (by omega)) (fun c_4 => ?_)
      refine lv_iload F.1 F.2.1 dL_tries_81 (lv_at hl 0 rfl) ?_
      refine lv_iload F.1 F.2.1 dL_tries_83 (lv_at hl 1 rfl) ?_
      refine k_icmp_gt F (tgt := 92) dL_tries_85 (by decide) (by omega) (by omega) (fun c_5 => absurd c_5 (by omega)) (fun c_5 => ?_)
      refine k_iconst F dL_tries_88 ?_
      refine lv_goto (tgt := 93) F.1 F.2.1 dL_tries_89 (by decide) ?_
      refine lv_istore (lv' := [(9, .int (iI 1)), (8, .int (iI (lft (σ 7 p) ch vo (σ 8 p 0)))), (7, .int (iI (alf (σ 7 p) (σ 8 p 0)))), (6, .int (iI (vo : Int))), (5, .int (iI (ch : Int))), (4, .int (iI (p : Int))), (0, .ref (B 5)), (1, .ref nn), (2, .ref am), (3, .int (iI x))]) F.1 F.2.1 dL_tries_93 hl (by decide) rfl (fun ls hl => ?_)
      refine k_iconst F dL_tries_95 ?_
      refine lv_istore (lv' := [(10, .int (iI (-1))), (9, .int (iI 1)), (8, .int (iI (lft (σ 7 p) ch vo (σ 8 p 0)))), (7, .int (iI (alf (σ 7 p) (σ 8 p 0)))), (6, .int (iI (vo : Int))), (5, .int (iI (ch : Int))), (4, .int (iI (p : Int))), (0, .ref (B 5)), (1, .ref nn), (2, .ref am), (3, .int (iI x))]) F.1 F.2.1 dL_tries_96 hl (by decide) rfl (fun ls hl => ?_)
      refine k_iconst F dL_tries_98 ?_
      refine lv_istore (lv' := [(11, .int (iI 0)), (10, .int (iI (-1))), (9, .int (iI 1)), (8, .int (iI (lft (σ 7 p) ch vo (σ 8 p 0)))), (7, .int (iI (alf (σ 7 p) (σ 8 p 0)))), (6, .int (iI (vo : Int))), (5, .int (iI (ch : Int))), (4, .int (iI (p : Int))), (0, .ref (B 5)), (1, .ref nn), (2, .ref am), (3, .int (iI x))]) F.1 F.2.1 dL_tries_99 hl (by decide) rfl (fun ls hl => ?_)
      refine k_iconst F dL_tries_101 ?_
      refine lv_istore (lv' := [(12, .int (iI 0)), (11, .int (iI 0)), (10, .int (iI (-1))), (9, .int (iI 1)), (8, .int (iI (lft (σ 7 p) ch vo (σ 8 p 0)))), (7, .int (iI (alf (σ 7 p) (σ 8 p 0)))), (6, .int (iI (vo : Int))), (5, .int (iI (ch : Int))), (4, .int (iI (p : Int))), (0, .ref (B 5)), (1, .ref nn), (2, .ref am), (3, .int (iI x))]) F.1 F.2.1 dL_tries_102 hl (by decide) rfl (fun ls hl => ?_)
      have L104 : ∀ q : Nat, q ≤ 61 → ∀ (X kp im : Int), ((flr (σ 7 p) ch vo) ≤ X ∧ X ≤ (clg (σ 7 p) ch vo)) → ((kp = -1 ∧ X = (σ 7 p (4 * ch + vo)) ∧ (q : Int) ≤ (flr (σ 7 p) ch vo)) ∨ (kp = (σ 7 p (4 * ch + vo)) ∧ (flr (σ 7 p) ch vo) < (q : Int))) → (im = 0 ∨ im = 1) → (∀ r : Int, (flr (σ 7 p) ch vo) ≤ r → r ≤ (clg (σ 7 p) ch vo) → r < (q : Int) → alf (uI (σ 7 p) (4 * ch + vo) r) (σ 8 p 0) = (lft (σ 7 p) ch vo (σ 8 p 0)) → im = 1) → ∀ (P : Nat → Nat → Nat) (H : Heap) (locs : List Loc), gP G (A2 G nn am fn fm ++ DW G B P ((su σ 7 p (4 * ch + vo) X))) H → va_D AA (A2 G nn am fn fm ++ DW G B P ((su σ 7 p (4 * ch + vo) X))) → va_S AA sS.heap H locs → ∀ ls : Array Slot, lv_has ls 14 [(12, .int (iI (q : Int))), (9, .int (iI 1)), (10, .int (iI kp)), (11, .int (iI im)), (8, .int (iI (lft (σ 7 p) ch vo (σ 8 p 0)))), (7, .int (iI (alf (σ 7 p) (σ 8 p 0)))), (6, .int (iI (vo : Int))), (5, .int (iI (ch : Int))), (4, .int (iI (p : Int))), (0, .ref (B 5)), (1, .ref nn), (2, .ref am), (3, .int (iI x))] → W pP l eE RR sS mM args bB meth cC H locs (24 * q + 12) (144 * q + 72) (MQ bB (va_Qi (fun (r : Int32) (u : Nat → Nat → Nat) => r = iI 1) (fun u t9 => gP G (A2 G nn am fn fm ++ DW G B u σ) t9.heap ∧ va_D AA (A2 G nn am fn fm ++ DW G B u σ)) AA) args sS 1600 9600 AA) (F0 mM 104 ls []) := by
        refine lp_up (61) ?_ ?_
        · intro X kp im hl104_0 hl104_1 hl104_2 hl104_3 P H locs hP hD hS ls hl
          have hIX : Jv (su σ 7 p (4 * ch + vo) X) N := Jv_put hI hpk (by omega) hv4 (by omega) hl104_0.1 hl104_0.2
          obtain ⟨r, r1, r2, r3⟩ := lft_at (σ 8 p 0) hfc.1 hfc.2
          have him := hl104_3 r r1 r2 (by omega) r3
          have hkp : kp = (σ 7 p (4 * ch + vo)) := by omega
          refine lv_iload F.1 F.2.1 dL_tries_104 (lv_at hl 0 rfl) ?_
          refine k_bipush F dL_tries_106 (by decide +kernel) ?_
          refine k_icmp_ge F (tgt := 211) dL_tries_108 (by decide) (by omega) (by omega) (fun c_6 => ?_) (fun c_6 => absurd c_6 (by omega))
          refine lv_iload F.1 F.2.1 dL_tries_211 (lv_at hl 1 rfl) ?_
          refine k_if_eq F (tgt := 256) dL_tries_213 (by decide) (by omega) (fun c_7 => absurd c_7 (by omega)) (fun c_7 => ?_)
          refine lv_iload F.1 F.2.1 dL_tries_216 (lv_at hl 3 rfl) ?_
          refine k_if_eq F (tgt := 256) dL_tries_218 (by decide) (by omega) (fun c_8 => absurd c_8 (by omega)) (fun c_8 => ?_)
          refine lv_iload F.1 F.2.1 dL_tries_221 (lv_at hl 2 rfl) ?_
          refine k_if_lt F (tgt := 256) dL_tries_223 (by decide) (by omega) (fun c_9 => absurd c_9 (by omega)) (fun c_9 => ?_)
          refine lv_aload_n F.1 F.2.1 dL_tries_226 rfl (lv_at hl 9 rfl) ?_
          refine lv_iload F.1 F.2.1 dL_tries_227 (lv_at hl 8 rfl) ?_
          refine lv_iload F.1 F.2.1 dL_tries_229 (lv_at hl 7 rfl) ?_
          refine lv_iload F.1 F.2.1 dL_tries_231 (lv_at hl 6 rfl) ?_
          refine lv_iload F.1 F.2.1 dL_tries_233 (lv_at hl 2 rfl) ?_
          refine j_call F (n := 5) (wr := A2 G nn am fn fm) (B := B) (P := P) (σ := (su σ 7 p (4 * ch + vo) X)) (τ' := σ) (z' := X) (mL_tones l hfl G z0 _ B P (su σ 7 p (4 * ch + vo) X) (p : Int) (ch : Int) (vo : Int) kp (by omega) (by omega) (by omega) (by omega) hIX) ((an_0 ((kSet_put hpk (by omega) hv4 X (t := kp) (by omega)).trans (if_pos ⟨by omega, by omega⟩))).trans (by show (su σ 7 p (4 * ch + vo) X) 7 p (4 * ch + vo) = X; rw [su_at, uI_s])) ((stt_0 ((kSet_put hpk (by omega) hv4 X (t := kp) (by omega)).trans (if_pos ⟨by omega, by omega⟩))).trans (by show su (su σ 7 p (4 * ch + vo) X) 7 p (4 * ch + vo) kp = σ; rw [su_su, hkp, su_me])) gL_tries_L_tones rfl rfl rfl (by decide +kernel) ⟨by rw [hRb.1]; exact Nat.le_of_ble_eq_true rfl, by rw [hRb.2]; exact Nat.le_of_ble_eq_true rfl⟩ hK hP hD hz hAz hS hA rfl rfl hl.1 (Nat.le_of_ble_eq_true rfl) dL_tries_235 ⟨by omega, by omega⟩ (fun P H locs hP hD hS => ?_)
          skip
          refine k_if_lt F (tgt := 256) dL_tries_238 (by decide) (by omega) (fun c_10 => absurd c_10 (by omega)) (fun c_10 => ?_)
          refine lv_aload_n F.1 F.2.1 dL_tries_241 rfl (lv_at hl 9 rfl) ?_
          refine lv_iload F.1 F.2.1 dL_tries_242 (lv_at hl 8 rfl) ?_
          refine j_call F (n := 2) (wr := A2 G nn am fn fm) (B := B) (P := P) (σ := σ) (τ' := σ) (z' := (alf (σ 7 p) (σ 8 p 0))) (mL_faults l hfl G z0 _ B P σ (p : Int) (by omega) hI) (an_0 (by unfold kPic; (repeat' split) <;> omega)) rfl gL_tries_L_faults rfl rfl rfl (by decide +kernel) ⟨by rw [hRb.1]; exact Nat.le_of_ble_eq_true rfl, by rw [hRb.2]; exact Nat.le_of_ble_eq_true rfl⟩ hK hP hD hz hAz hS hA rfl rfl hl.1 (Nat.le_of_ble_eq_true rfl) dL_tries_244 ⟨by omega, by omega⟩ (fun P H locs hP hD hS => ?_)
          refine lv_iload F.1 F.2.1 dL_tries_247 (lv_at hl 5 rfl) ?_
          refine k_same_ne F (tgt := 256) dL_tries_249 (by decide) ?_
          refine k_iconst F dL_tries_252 ?_
          refine lv_goto (tgt := 257) F.1 F.2.1 dL_tries_253 (by decide) ?_
          refine W.widen (k := 1600) (n := 9600) (by omega) (by omega) ?_
          exact W.zret F.1 F.2.1 hr (by decide +kernel) (fun t9 ht _ => ⟨⟨_, P, rfl, rfl, by rw [ht]; exact hP, hD⟩, hS.F ht⟩) hS.2.2 dL_tries_257 hlocks
        · intro q hk9_104 ih_104 X kp im hl104_0 hl104_1 hl104_2 hl104_3 P H locs hP hD hS ls hl
          have hIX : Jv (su σ 7 p (4 * ch + vo) X) N := Jv_put hI hpk (by omega) hv4 (by omega) hl104_0.1 hl104_0.2
          refine lv_iload F.1 F.2.1 dL_tries_104 (lv_at hl 0 rfl) ?_
          refine k_bipush F dL_tries_106 (by decide +kernel) ?_
          refine k_icmp_ge F (tgt := 211) dL_tries_108 (by decide) (by omega) (by omega) (fun c_12 => absurd c_12 (by omega)) (fun c_12 => ?_)
          refine lv_iload F.1 F.2.1 dL_tries_111 (lv_at hl 1 rfl) ?_
          refine k_if_eq F (tgt := 211) dL_tries_113 (by decide) (by omega) (fun c_13 => absurd c_13 (by omega)) (fun c_13 => ?_)
          by_cases hq : (flr (σ 7 p) ch vo) ≤ (q : Int) ∧ (q : Int) ≤ (clg (σ 7 p) ch vo)
          · skip
            have hIq : Jv (su σ 7 p (4 * ch + vo) (q : Int)) N := Jv_put hI hpk (by omega) hv4 (by omega) hq.1 hq.2
            refine lv_aload_n F.1 F.2.1 dL_tries_116 rfl (lv_at hl 9 rfl) ?_
            refine lv_iload F.1 F.2.1 dL_tries_117 (lv_at hl 8 rfl) ?_
            refine lv_iload F.1 F.2.1 dL_tries_119 (lv_at hl 7 rfl) ?_
            refine lv_iload F.1 F.2.1 dL_tries_121 (lv_at hl 6 rfl) ?_
            refine lv_iload F.1 F.2.1 dL_tries_123 (lv_at hl 0 rfl) ?_
            refine j_call F (n := 5) (wr := A2 G nn am fn fm) (B := B) (P := P) (σ := (su σ 7 p (4 * ch + vo) X)) (τ' := (su σ 7 p (4 * ch + vo) (q : Int))) (z' := X) (mL_tones l hfl G z0 _ B P (su σ 7 p (4 * ch + vo) X) (p : Int) (ch : Int) (vo : Int) (q : Int) (by omega) (by omega) (by omega) (by omega) hIX) ((an_0 ((kSet_put hpk (by omega) hv4 X (t := (q : Int)) (by omega)).trans (if_pos hq))).trans (by show (su σ 7 p (4 * ch + vo) X) 7 p (4 * ch + vo) = X; rw [su_at, uI_s])) ((stt_0 ((kSet_put hpk (by omega) hv4 X (t := (q : Int)) (by omega)).trans (if_pos hq))).trans (su_su σ 7 p (4 * ch + vo) X (q : Int))) gL_tries_L_tones rfl rfl rfl (by decide +kernel) ⟨by rw [hRb.1]; exact Nat.le_of_ble_eq_true rfl, by rw [hRb.2]; exact Nat.le_of_ble_eq_true rfl⟩ hK hP hD hz hAz hS hA rfl rfl hl.1 (Nat.le_of_ble_eq_true rfl) dL_tries_125 ⟨by omega, by omega⟩ (fun P H locs hP hD hS => ?_)
            skip
            refine lv_istore (lv' := [(13, .int (iI X)), (12, .int (iI (q : Int))), (9, .int (iI 1)), (10, .int (iI kp)), (11, .int (iI im)), (8, .int (iI (lft (σ 7 p) ch vo (σ 8 p 0)))), (7, .int (iI (alf (σ 7 p) (σ 8 p 0)))), (6, .int (iI (vo : Int))), (5, .int (iI (ch : Int))), (4, .int (iI (p : Int))), (0, .ref (B 5)), (1, .ref nn), (2, .ref am), (3, .int (iI x))]) F.1 F.2.1 dL_tries_128 hl (by decide) rfl (fun ls hl => ?_)
            refine lv_iload F.1 F.2.1 dL_tries_130 (lv_at hl 0 rfl) ?_
            refine k_if_lt F (tgt := 205) dL_tries_132 (by decide) (by omega) (fun c_14 => absurd c_14 (by omega)) (fun c_14 => ?_)
            refine lv_iload F.1 F.2.1 dL_tries_135 (lv_at hl 3 rfl) ?_
            have J147 : ∀ kk : Int, kk = (σ 7 p (4 * ch + vo)) → ∀ (P : Nat → Nat → Nat) (H : Heap) (locs : List Loc), gP G (A2 G nn am fn fm ++ DW G B P ((su σ 7 p (4 * ch + vo) (q : Int)))) H → va_D AA (A2 G nn am fn fm ++ DW G B P ((su σ 7 p (4 * ch + vo) (q : Int)))) → va_S AA sS.heap H locs → ∀ ls : Array Slot, lv_has ls 14 [(13, .int (iI X)), (12, .int (iI (q : Int))), (9, .int (iI 1)), (10, .int (iI kp)), (11, .int (iI im)), (8, .int (iI (lft (σ 7 p) ch vo (σ 8 p 0)))), (7, .int (iI (alf (σ 7 p) (σ 8 p 0)))), (6, .int (iI (vo : Int))), (5, .int (iI (ch : Int))), (4, .int (iI (p : Int))), (0, .ref (B 5)), (1, .ref nn), (2, .ref am), (3, .int (iI x))] → W pP l eE RR sS mM args bB meth cC H locs (24 * q + 18) (144 * q + 108) (MQ bB (va_Qi (fun (r : Int32) (u : Nat → Nat → Nat) => r = iI 1) (fun u t9 => gP G (A2 G nn am fn fm ++ DW G B u σ) t9.heap ∧ va_D AA (A2 G nn am fn fm ++ DW G B u σ)) AA) args sS 1600 9600 AA) (F0 mM 147 ls [.int (iI kk)]) := by
              intro kk hj147_0 P H locs hP hD hS ls hl
              subst hj147_0
              refine lv_istore (lv' := [(10, .int (iI (σ 7 p (4 * ch + vo)))), (13, .int (iI X)), (12, .int (iI (q : Int))), (9, .int (iI 1)), (11, .int (iI im)), (8, .int (iI (lft (σ 7 p) ch vo (σ 8 p 0)))), (7, .int (iI (alf (σ 7 p) (σ 8 p 0)))), (6, .int (iI (vo : Int))), (5, .int (iI (ch : Int))), (4, .int (iI (p : Int))), (0, .ref (B 5)), (1, .ref nn), (2, .ref am), (3, .int (iI x))]) F.1 F.2.1 dL_tries_147 hl (by decide) rfl (fun ls hl => ?_)
              refine lv_aload_n F.1 F.2.1 dL_tries_149 rfl (lv_at hl 10 rfl) ?_
              refine lv_iload F.1 F.2.1 dL_tries_150 (lv_at hl 9 rfl) ?_
              refine j_call F (n := 2) (wr := A2 G nn am fn fm) (B := B) (P := P) (σ := (su σ 7 p (4 * ch + vo) (q : Int))) (τ' := (su σ 7 p (4 * ch + vo) (q : Int))) (z' := (alf (uI (σ 7 p) (4 * ch + vo) (q : Int)) (σ 8 p 0))) (mL_faults l hfl G z0 _ B P (su σ 7 p (4 * ch + vo) (q : Int)) (p : Int) (by omega) hIq) ((an_0 (by unfold kPic; exact if_pos (show 0 ≤ (p : Int) ∧ (p : Int) ≤ σ 2 0 0 - 1 by omega))).trans (alf_put σ p (4 * ch + vo) (q : Int))) rfl gL_tries_L_faults rfl rfl rfl (by decide +kernel) ⟨by rw [hRb.1]; exact Nat.le_of_ble_eq_true rfl, by rw [hRb.2]; exact Nat.le_of_ble_eq_true rfl⟩ hK hP hD hz hAz hS hA rfl rfl hl.1 (Nat.le_of_ble_eq_true rfl) dL_tries_152 ⟨by omega, by omega⟩ (fun P H locs hP hD hS => ?_)
              have hle := lft_le (σ 8 p 0) hq.1 hq.2
              have haq := alf_rg (uI (σ 7 p) (4 * ch + vo) (q : Int)) (sz := (σ 8 p 0)) (by omega)
              refine lv_iload F.1 F.2.1 dL_tries_155 (lv_at hl 5 rfl) ?_
              refine k_icmp_lt F (tgt := 179) dL_tries_157 (by decide) (by omega) (by omega) (fun c_15 => absurd c_15 (by omega)) (fun c_15 => ?_)
              refine lv_aload_n F.1 F.2.1 dL_tries_160 rfl (lv_at hl 10 rfl) ?_
              refine lv_iload F.1 F.2.1 dL_tries_161 (lv_at hl 9 rfl) ?_
              refine lv_iload F.1 F.2.1 dL_tries_163 (lv_at hl 8 rfl) ?_
              refine lv_iload F.1 F.2.1 dL_tries_165 (lv_at hl 7 rfl) ?_
              refine j_call F (n := 4) (wr := A2 G nn am fn fm) (B := B) (P := P) (σ := (su σ 7 p (4 * ch + vo) (q : Int))) (τ' := (su σ 7 p (4 * ch + vo) (q : Int))) (z' := (lft (σ 7 p) ch vo (σ 8 p 0))) (mL_least l hfl G z0 _ B P (su σ 7 p (4 * ch + vo) (q : Int)) (p : Int) (ch : Int) (vo : Int) (by omega) (by omega) (by omega) hIq) ((an_0 (by unfold kLst; rw [if_neg (fun z => z (show (0 ≤ (p : Int) ∧ (p : Int) ≤ σ 2 0 0 - 1 ∧ 0 ≤ (ch : Int) ∧ (ch : Int) ≤ σ 8 p 0 - 1) ∧ 0 < (ch : Int) ∧ (ch : Int) < σ 8 p 0 - 1 by omega)), if_pos (by omega)])).trans (by show lft ((su σ 7 p (4 * ch + vo) (q : Int)) 7 p) ch vo (σ 8 p 0) = _; rw [su_at]; exact lft_put (σ 8 p 0) hfc.1 hfc.2 hq.1 hq.2)) rfl gL_tries_L_least rfl rfl rfl (by decide +kernel) ⟨by rw [hRb.1]; exact Nat.le_of_ble_eq_true rfl, by rw [hRb.2]; exact Nat.le_of_ble_eq_true rfl⟩ hK hP hD hz hAz hS hA rfl rfl hl.1 (Nat.le_of_ble_eq_true rfl) dL_tries_167 ⟨by omega, by omega⟩ (fun P H locs hP hD hS => ?_)
              refine lv_iload F.1 F.2.1 dL_tries_170 (lv_at hl 5 rfl) ?_
              refine k_same_ne F (tgt := 179) dL_tries_172 (by decide) ?_
              refine k_iconst F dL_tries_175 ?_
              refine lv_goto (tgt := 180) F.1 F.2.1 dL_tries_176 (by decide) ?_
              refine lv_istore (lv' := [(9, .int (iI 1)), (10, .int (iI (σ 7 p (4 * ch + vo)))), (13, .int (iI X)), (12, .int (iI (q : Int))), (11, .int (iI im)), (8, .int (iI (lft (σ 7 p) ch vo (σ 8 p 0)))), (7, .int (iI (alf (σ 7 p) (σ 8 p 0)))), (6, .int (iI (vo : Int))), (5, .int (iI (ch : Int))), (4, .int (iI (p : Int))), (0, .ref (B 5)), (1, .ref nn), (2, .ref am), (3, .int (iI x))]) F.1 F.2.1 dL_tries_180 hl (by decide) rfl (fun ls hl => ?_)
              refine lv_iload F.1 F.2.1 dL_tries_182 (lv_at hl 4 rfl) ?_
              have J203 : ∀ mm : Int, ((mm = 0 ∨ mm = 1) ∧ (im = 1 → mm = 1) ∧ ((alf (uI (σ 7 p) (4 * ch + vo) (q : Int)) (σ 8 p 0)) = (lft (σ 7 p) ch vo (σ 8 p 0)) → mm = 1)) → ∀ (P : Nat → Nat → Nat) (H : Heap) (locs : List Loc), gP G (A2 G nn am fn fm ++ DW G B P ((su σ 7 p (4 * ch + vo) (q : Int)))) H → va_D AA (A2 G nn am fn fm ++ DW G B P ((su σ 7 p (4 * ch + vo) (q : Int)))) → va_S AA sS.heap H locs → ∀ ls : Array Slot, lv_has ls 14 [(9, .int (iI 1)), (10, .int (iI (σ 7 p (4 * ch + vo)))), (13, .int (iI X)), (12, .int (iI (q : Int))), (11, .int (iI im)), (8, .int (iI (lft (σ 7 p) ch vo (σ 8 p 0)))), (7, .int (iI (alf (σ 7 p) (σ 8 p 0)))), (6, .int (iI (vo : Int))), (5, .int (iI (ch : Int))), (4, .int (iI (p : Int))), (0, .ref (B 5)), (1, .ref nn), (2, .ref am), (3, .int (iI x))] → W pP l eE RR sS mM args bB meth cC H locs (24 * q + 36) (144 * q + 216) (MQ bB (va_Qi (fun (r : Int32) (u : Nat → Nat → Nat) => r = iI 1) (fun u t9 => gP G (A2 G nn am fn fm ++ DW G B u σ) t9.heap ∧ va_D AA (A2 G nn am fn fm ++ DW G B u σ)) AA) args sS 1600 9600 AA) (F0 mM 203 ls [.int (iI mm)]) := by
                intro mm hj203_0 P H locs hP hD hS ls hl
                refine lv_istore (lv' := [(11, .int (iI mm)), (9, .int (iI 1)), (10, .int (iI (σ 7 p (4 * ch + vo)))), (13, .int (iI X)), (12, .int (iI (q : Int))), (8, .int (iI (lft (σ 7 p) ch vo (σ 8 p 0)))), (7, .int (iI (alf (σ 7 p) (σ 8 p 0)))), (6, .int (iI (vo : Int))), (5, .int (iI (ch : Int))), (4, .int (iI (p : Int))), (0, .ref (B 5)), (1, .ref nn), (2, .ref am), (3, .int (iI x))]) F.1 F.2.1 dL_tries_203 hl (by decide) rfl (fun ls hl => ?_)
                refine lv_iinc (v := iI ((q : Int) + 1)) (lv' := [(12, .int (iI ((q : Int) + 1))), (11, .int (iI mm)), (9, .int (iI 1)), (10, .int (iI (σ 7 p (4 * ch + vo)))), (13, .int (iI X)), (8, .int (iI (lft (σ 7 p) ch vo (σ 8 p 0)))), (7, .int (iI (alf (σ 7 p) (σ 8 p 0)))), (6, .int (iI (vo : Int))), (5, .int (iI (ch : Int))), (4, .int (iI (p : Int))), (0, .ref (B 5)), (1, .ref nn), (2, .ref am), (3, .int (iI x))]) F.1 F.2.1 dL_tries_205 hl (k := 4) rfl (iI_add _ _) (by decide) rfl (fun ls hl => ?_)
                refine lv_goto (tgt := 104) F.1 F.2.1 dL_tries_208 (by decide) ?_
                have e_17 : (((q : Int) + 1) : Int) = (((q + 1) : Nat) : Int) := by omega
                refine W.widen (k := (24 * (q + 1) + 12)) (n := (144 * (q + 1) + 72)) (by omega) (by omega) ?_
                exact ih_104 (q : Int) (σ 7 p (4 * ch + vo)) mm ⟨hq.1, hq.2⟩ (Or.inr ⟨rfl, by omega⟩) hj203_0.1 (fun r r1 r2 r3 r4 => (Int.lt_or_le r (q : Int)).elim (fun r5 => hj203_0.2.1 (hl104_3 r r1 r2 r5 r4)) (fun r5 => hj203_0.2.2 (by rw [← r4, show (q : Int) = r by omega]))) P _ _ hP hD hS _ (lv_to (lv_sub hl [0, 2, 3, 1, 5, 6, 7, 8, 9, 10, 11, 12, 13] rfl) (congrArg (fun x9 : Int => ([(12, .int (iI x9)), (9, .int (iI 1)), (10, .int (iI (σ 7 p (4 * ch + vo)))), (11, .int (iI mm)), (8, .int (iI (lft (σ 7 p) ch vo (σ 8 p 0)))), (7, .int (iI (alf (σ 7 p) (σ 8 p 0)))), (6, .int (iI (vo : Int))), (5, .int (iI (ch : Int))), (4, .int (iI (p : Int))), (0, .ref (B 5)), (1, .ref nn), (2, .ref am), (3, .int (iI x))] : List (Nat × Value))) e_17))
              refine k_if_ne F (tgt := 198) dL_tries_184 (by decide) (by omega) (fun c_18 => ?_) (fun c_18 => ?_)
              · skip
                refine k_iconst F dL_tries_198 ?_
                refine lv_goto (tgt := 203) F.1 F.2.1 dL_tries_199 (by decide) ?_
                refine W.widen (k := (24 * q + 36)) (n := (144 * q + 216)) (by omega) (by omega) ?_
                exact J203 1 ⟨by omega, fun _ => by omega, fun _ => by omega⟩ P _ _ hP hD hS _ (lv_sub hl [0, 1, 2, 3, 4, 5, 6, 7, 8, 9, 10, 11, 12, 13] rfl)
              · skip
                refine lv_aload_n F.1 F.2.1 dL_tries_187 rfl (lv_at hl 10 rfl) ?_
                refine lv_iload F.1 F.2.1 dL_tries_188 (lv_at hl 9 rfl) ?_
                refine j_call F (n := 2) (wr := A2 G nn am fn fm) (B := B) (P := P) (σ := (su σ 7 p (4 * ch + vo) (q : Int))) (τ' := (su σ 7 p (4 * ch + vo) (q : Int))) (z' := (alf (uI (σ 7 p) (4 * ch + vo) (q : Int)) (σ 8 p 0))) (mL_faults l hfl G z0 _ B P (su σ 7 p (4 * ch + vo) (q : Int)) (p : Int) (by omega) hIq) ((an_0 (by unfold kPic; exact if_pos (show 0 ≤ (p : Int) ∧ (p : Int) ≤ σ 2 0 0 - 1 by omega))).trans (alf_put σ p (4 * ch + vo) (q : Int))) rfl gL_tries_L_faults rfl rfl rfl (by decide +kernel) ⟨by rw [hRb.1]; exact Nat.le_of_ble_eq_true rfl, by rw [hRb.2]; exact Nat.le_of_ble_eq_true rfl⟩ hK hP hD hz hAz hS hA rfl rfl hl.1 (Nat.le_of_ble_eq_true rfl) dL_tries_190 ⟨by omega, by omega⟩ (fun P H locs hP hD hS => ?_)
                refine lv_iload F.1 F.2.1 dL_tries_193 (lv_at hl 5 rfl) ?_
                refine k_icmp_ne F (tgt := 202) dL_tries_195 (by decide) (by omega) (by omega) (fun c_19 => ?_) (fun c_19 => ?_)
                · skip
                  refine k_iconst F dL_tries_202 ?_
                  refine W.widen (k := (24 * q + 36)) (n := (144 * q + 216)) (by omega) (by omega) ?_
                  exact J203 0 ⟨by omega, fun _ => by omega, fun _ => by omega⟩ P _ _ hP hD hS _ (lv_sub hl [0, 1, 2, 3, 4, 5, 6, 7, 8, 9, 10, 11, 12, 13] rfl)
                · skip
                  refine k_iconst F dL_tries_198 ?_
                  refine lv_goto (tgt := 203) F.1 F.2.1 dL_tries_199 (by decide) ?_
                  refine W.widen (k := (24 * q + 36)) (n := (144 * q + 216)) (by omega) (by omega) ?_
                  exact J203 1 ⟨by omega, fun _ => by omega, fun _ => by omega⟩ P _ _ hP hD hS _ (lv_sub hl [0, 1, 2, 3, 4, 5, 6, 7, 8, 9, 10, 11, 12, 13] rfl)
            refine k_if_ge F (tgt := 145) dL_tries_137 (by decide) (by omega) (fun c_20 => ?_) (fun c_20 => ?_)
            · skip
              refine lv_iload F.1 F.2.1 dL_tries_145 (lv_at hl 3 rfl) ?_
              refine W.widen (k := (24 * q + 18)) (n := (144 * q + 108)) (by omega) (by omega) ?_
              exact J147 kp (by omega) P _ _ hP hD hS _ (lv_sub hl [0, 1, 2, 3, 4, 5, 6, 7, 8, 9, 10, 11, 12, 13] rfl)
            · skip
              refine lv_iload F.1 F.2.1 dL_tries_140 (lv_at hl 0 rfl) ?_
              refine lv_goto (tgt := 147) F.1 F.2.1 dL_tries_142 (by decide) ?_
              refine W.widen (k := (24 * q + 18)) (n := (144 * q + 108)) (by omega) (by omega) ?_
              exact J147 X (by omega) P _ _ hP hD hS _ (lv_sub hl [0, 1, 2, 3, 4, 5, 6, 7, 8, 9, 10, 11, 12, 13] rfl)
          · skip
            refine lv_aload_n F.1 F.2.1 dL_tries_116 rfl (lv_at hl 9 rfl) ?_
            refine lv_iload F.1 F.2.1 dL_tries_117 (lv_at hl 8 rfl) ?_
            refine lv_iload F.1 F.2.1 dL_tries_119 (lv_at hl 7 rfl) ?_
            refine lv_iload F.1 F.2.1 dL_tries_121 (lv_at hl 6 rfl) ?_
            refine lv_iload F.1 F.2.1 dL_tries_123 (lv_at hl 0 rfl) ?_
            refine j_call F (n := 5) (wr := A2 G nn am fn fm) (B := B) (P := P) (σ := (su σ 7 p (4 * ch + vo) X)) (τ' := (su σ 7 p (4 * ch + vo) X)) (z' := (-2000000003)) (mL_tones l hfl G z0 _ B P (su σ 7 p (4 * ch + vo) X) (p : Int) (ch : Int) (vo : Int) (q : Int) (by omega) (by omega) (by omega) (by omega) hIX) (an_3 (((kSet_put hpk (by omega) hv4 X (t := (q : Int)) (by omega)).trans (if_neg hq)))) (stt_n (by rw [show (kSet (su σ 7 p (4 * ch + vo) X) (p : Int) (ch : Int) (vo : Int) (q : Int) : Int) = 3 from ((kSet_put hpk (by omega) hv4 X (t := (q : Int)) (by omega)).trans (if_neg hq))]; decide)) gL_tries_L_tones rfl rfl rfl (by decide +kernel) ⟨by rw [hRb.1]; exact Nat.le_of_ble_eq_true rfl, by rw [hRb.2]; exact Nat.le_of_ble_eq_true rfl⟩ hK hP hD hz hAz hS hA rfl rfl hl.1 (Nat.le_of_ble_eq_true rfl) dL_tries_125 ⟨by omega, by omega⟩ (fun P H locs hP hD hS => ?_)
            refine lv_istore (lv' := [(13, .int (iI (-2000000003))), (12, .int (iI (q : Int))), (9, .int (iI 1)), (10, .int (iI kp)), (11, .int (iI im)), (8, .int (iI (lft (σ 7 p) ch vo (σ 8 p 0)))), (7, .int (iI (alf (σ 7 p) (σ 8 p 0)))), (6, .int (iI (vo : Int))), (5, .int (iI (ch : Int))), (4, .int (iI (p : Int))), (0, .ref (B 5)), (1, .ref nn), (2, .ref am), (3, .int (iI x))]) F.1 F.2.1 dL_tries_128 hl (by decide) rfl (fun ls hl => ?_)
            refine lv_iload F.1 F.2.1 dL_tries_130 (lv_at hl 0 rfl) ?_
            refine k_if_lt F (tgt := 205) dL_tries_132 (by decide) (by omega) (fun c_21 => ?_) (fun c_21 => absurd c_21 (by omega))
            refine lv_iinc (v := iI ((q : Int) + 1)) (lv' := [(12, .int (iI ((q : Int) + 1))), (13, .int (iI (-2000000003))), (9, .int (iI 1)), (10, .int (iI kp)), (11, .int (iI im)), (8, .int (iI (lft (σ 7 p) ch vo (σ 8 p 0)))), (7, .int (iI (alf (σ 7 p) (σ 8 p 0)))), (6, .int (iI (vo : Int))), (5, .int (iI (ch : Int))), (4, .int (iI (p : Int))), (0, .ref (B 5)), (1, .ref nn), (2, .ref am), (3, .int (iI x))]) F.1 F.2.1 dL_tries_205 hl (k := 1) rfl (iI_add _ _) (by decide) rfl (fun ls hl => ?_)
            refine lv_goto (tgt := 104) F.1 F.2.1 dL_tries_208 (by decide) ?_
            have e_22 : (((q : Int) + 1) : Int) = (((q + 1) : Nat) : Int) := by omega
            refine W.widen (k := (24 * (q + 1) + 12)) (n := (144 * (q + 1) + 72)) (by omega) (by omega) ?_
            exact ih_104 X kp im hl104_0 (by omega) hl104_2 (fun r r1 r2 r3 r4 => hl104_3 r r1 r2 (by omega) r4) P _ _ hP hD hS _ (lv_to (lv_sub hl [0, 2, 3, 4, 5, 6, 7, 8, 9, 10, 11, 12, 13] rfl) (congrArg (fun x9 : Int => ([(12, .int (iI x9)), (9, .int (iI 1)), (10, .int (iI kp)), (11, .int (iI im)), (8, .int (iI (lft (σ 7 p) ch vo (σ 8 p 0)))), (7, .int (iI (alf (σ 7 p) (σ 8 p 0)))), (6, .int (iI (vo : Int))), (5, .int (iI (ch : Int))), (4, .int (iI (p : Int))), (0, .ref (B 5)), (1, .ref nn), (2, .ref am), (3, .int (iI x))] : List (Nat × Value))) e_22))
      have e_23 : (0 : Int) = ((0 : Nat) : Int) := rfl
      rw [← su_me σ 7 p (4 * ch + vo)] at hP hD
      refine W.widen (k := (24 * 0 + 12)) (n := (144 * 0 + 72)) (by omega) (by omega) ?_
      exact L104 0 (Nat.zero_le _) (σ 7 p (4 * ch + vo)) (-1) 0 hfc (Or.inl ⟨rfl, rfl, by omega⟩) (Or.inl rfl) (fun r r1 r2 r3 r4 => by omega) P _ _ hP hD hS _ (lv_to (lv_sub hl [0, 3, 2, 1, 4, 5, 6, 7, 8, 9, 10, 11, 12] rfl) (congrArg (fun x9 : Int => ([(12, .int (iI x9)), (9, .int (iI 1)), (10, .int (iI (-1))), (11, .int (iI 0)), (8, .int (iI (lft (σ 7 p) ch vo (σ 8 p 0)))), (7, .int (iI (alf (σ 7 p) (σ 8 p 0)))), (6, .int (iI (vo : Int))), (5, .int (iI (ch : Int))), (4, .int (iI (p : Int))), (0, .ref (B 5)), (1, .ref nn), (2, .ref am), (3, .int (iI x))] : List (Nat × Value))) e_23))
    · skip
      refine k_iconst F dL_tries_31 ?_
      refine W.widen (k := 1600) (n := 9600) (by omega) (by omega) ?_
      exact W.zret F.1 F.2.1 hr (by decide +kernel) (fun t9 ht _ => ⟨⟨_, P, rfl, rfl, by rw [ht]; exact hP, hD⟩, hS.F ht⟩) hS.2.2 dL_tries_32 hlocks
  · skip
    refine k_iconst F dL_tries_6 ?_
    refine lv_goto (tgt := 15) F.1 F.2.1 dL_tries_7 (by decide) ?_
    refine lv_istore (lv' := [(4, .int (iI 0)), (0, .ref (B 5)), (1, .ref nn), (2, .ref am), (3, .int (iI x))]) F.1 F.2.1 dL_tries_15 hl (by decide) rfl (fun ls hl => ?_)
    refine lv_aload_n F.1 F.2.1 dL_tries_17 rfl (lv_at hl 2 rfl) ?_
    refine k_iconst F dL_tries_18 ?_
    refine k_iald F hK hP 0 rfl 1 rfl (by decide) (by decide) hnf.2.1 dL_tries_19 ?_
    refine k_if_eq F (tgt := 31) dL_tries_20 (by decide) (by omega) (fun c_24 => ?_) (fun c_24 => absurd c_24 (by omega))
    refine k_iconst F dL_tries_31 ?_
    refine W.widen (k := 1600) (n := 9600) (by omega) (by omega) ?_
    exact W.zret F.1 F.2.1 hr (by decide +kernel) (fun t9 ht _ => ⟨⟨_, P, rfl, rfl, by rw [ht]; exact hP, hD⟩, hS.F ht⟩) hS.2.2 dL_tries_32 hlocks
