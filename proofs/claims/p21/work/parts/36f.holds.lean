set_option maxHeartbeats 8000000 in
set_option maxRecDepth 100000 in
theorem mL_holds (l : Launch) (hfl : l.stackTraces = false) (G : gT) (z0 sz0 : Nat) (B : Nat → Nat) (P : Nat → Nat → Nat) (σ : Sg) (al nn am : Nat) (fl fn fm : Nat → Int) (x : Int) (hx : 0 ≤ x ∧ x < 2147483648) {N : Nat} (hI : Jv σ N) (hN5 : N ≤ 500) (hnf : NF fn σ) (hmf : MF fm σ) (hlf : LF fl σ) : Met l yL_holds wsL_holds { frames := 9, cells := 2100, slots := 12600, locals := 200 } (va_Pc [.ref (B 5), .ref nn, .ref am, .ref al, .int (iI x)] (qB G (A3 G al nn am fl fn fm ++ DW G B P σ) z0 sz0)) (va_Qi (fun (r : Int32) (u : Nat → Nat → Nat) => r = iI 1) (fun u t9 => gP G (A3 G al nn am fl fn fm ++ DW G B u σ) t9.heap ∧ va_D (va_A (A3 G al nn am fl fn fm ++ DW G B P σ) sz0) (A3 G al nn am fl fn fm ++ DW G B u σ)) (va_A (A3 G al nn am fl fn fm ++ DW G B P σ) sz0)) 2100 12600 (va_A (A3 G al nn am fl fn fm ++ DW G B P σ) sz0) := by
  refine q_start (own := RL) (cc := cL_holds) (mL := 14) (ret := (some .boolean)) (Qc := fun AA => (va_Qi (fun (r : Int32) (u : Nat → Nat → Nat) => r = iI 1) (fun u t9 => gP G (A3 G al nn am fl fn fm ++ DW G B u σ) t9.heap ∧ va_D AA (A3 G al nn am fl fn fm ++ DW G B u σ)) AA)) (by decide) rfl rfl (Nat.le_of_ble_eq_true rfl) ?_
  intro pP eE sS mM args bB meth cC ls AA F hr hlocks hz hAz hK hP hD hS hA hl
  have hl : lv_has ls 14 [(0, .ref (B 5)), (1, .ref nn), (2, .ref am), (3, .ref al), (4, .int (iI x))] := hl
  have hRc : 2100 ≤ ({ frames := 9, cells := 2100, slots := 12600, locals := 200 } : Room).cells ∧ 12600 ≤ ({ frames := 9, cells := 2100, slots := 12600, locals := 200 } : Room).slots := ⟨Nat.le_refl _, Nat.le_refl _⟩
  generalize hRR : ({ frames := 9, cells := 2100, slots := 12600, locals := 200 } : Room) = RR at hRc ⊢
  have hRb : RR.frames = 9 ∧ RR.locals = 200 := by rw [← hRR]; exact ⟨rfl, rfl⟩
  have ⟨hb1, hb2, hb8⟩ := Jv_b hI
  have hle9 : ∀ i, 0 ≤ σ 9 i 0 ∧ σ 9 i 0 ≤ 3600 := hI.2.2.2.2.2.2.2.2.2.2.2.2.2.2.2.1
  refine lv_iload F.1 F.2.1 dL_holds_0 (lv_at hl 4 rfl) ?_
  refine k_iconst F dL_holds_2 ?_
  refine k_rem F (by omega) (by omega) dL_holds_3 ?_
  refine lv_istore (lv' := [(5, .int (iI (x % 5))), (0, .ref (B 5)), (1, .ref nn), (2, .ref am), (3, .ref al), (4, .int (iI x))]) F.1 F.2.1 dL_holds_4 hl (by decide) rfl (fun ls hl => ?_)
  refine lv_iload F.1 F.2.1 dL_holds_6 (lv_at hl 5 rfl) ?_
  refine k_iconst F dL_holds_8 ?_
  refine k_div F (by omega) (by omega) dL_holds_9 ?_
  refine k_sipush F dL_holds_10 (by decide +kernel) ?_
  refine k_rem F (by omega) (by omega) dL_holds_13 ?_
  refine lv_istore (lv' := [(6, .int (iI ((x / 5) % 900))), (5, .int (iI (x % 5))), (0, .ref (B 5)), (1, .ref nn), (2, .ref am), (3, .ref al), (4, .int (iI x))]) F.1 F.2.1 dL_holds_14 hl (by decide) rfl (fun ls hl => ?_)
  refine k_iconst F dL_holds_16 ?_
  refine lv_istore (lv' := [(7, .int (iI 0)), (6, .int (iI ((x / 5) % 900))), (5, .int (iI (x % 5))), (0, .ref (B 5)), (1, .ref nn), (2, .ref am), (3, .ref al), (4, .int (iI x))]) F.1 F.2.1 dL_holds_17 hl (by decide) rfl (fun ls hl => ?_)
  refine k_iconst F dL_holds_19 ?_
  refine lv_istore (lv' := [(8, .int (iI 1)), (7, .int (iI 0)), (6, .int (iI ((x / 5) % 900))), (5, .int (iI (x % 5))), (0, .ref (B 5)), (1, .ref nn), (2, .ref am), (3, .ref al), (4, .int (iI x))]) F.1 F.2.1 dL_holds_20 hl (by decide) rfl (fun ls hl => ?_)
  refine k_iconst F dL_holds_22 ?_
  refine lv_istore (lv' := [(9, .int (iI 0)), (8, .int (iI 1)), (7, .int (iI 0)), (6, .int (iI ((x / 5) % 900))), (5, .int (iI (x % 5))), (0, .ref (B 5)), (1, .ref nn), (2, .ref am), (3, .ref al), (4, .int (iI x))]) F.1 F.2.1 dL_holds_23 hl (by decide) rfl (fun ls hl => ?_)
  have L25 : ∀ i : Nat, i ≤ (σ 2 0 0).toNat → ∀ (P : Nat → Nat → Nat) (H : Heap) (locs : List Loc), gP G (A3 G al nn am fl fn fm ++ DW G B P σ) H → va_D AA (A3 G al nn am fl fn fm ++ DW G B P σ) → va_S AA sS.heap H locs → ∀ ls : Array Slot, lv_has ls 14 [(9, .int (iI (i : Int))), (8, .int (iI 1)), (7, .int (iI (cnS σ (σ 1 0 0).toNat (x % 5) i))), (6, .int (iI ((x / 5) % 900))), (5, .int (iI (x % 5))), (0, .ref (B 5)), (1, .ref nn), (2, .ref am), (3, .ref al), (4, .int (iI x))] → W pP l eE RR sS mM args bB meth cC H locs (324 * i + 0) (1944 * i + 0) (MQ bB (va_Qi (fun (r : Int32) (u : Nat → Nat → Nat) => r = iI 1) (fun u t9 => gP G (A3 G al nn am fl fn fm ++ DW G B u σ) t9.heap ∧ va_D AA (A3 G al nn am fl fn fm ++ DW G B u σ)) AA) args sS 2100 12600 AA) (F0 mM 25 ls []) := by
    refine lp_up ((σ 2 0 0).toNat) ?_ ?_
    · intro   P H locs hP hD hS ls hl
      refine lv_iload F.1 F.2.1 dL_holds_25 (lv_at hl 0 rfl) ?_
      refine lv_aload_n F.1 F.2.1 dL_holds_27 rfl (lv_at hl 6 rfl) ?_
      refine k_iconst F dL_holds_28 ?_
      refine k_iald F hK hP 1 rfl 1 rfl (by decide) (by decide) hnf.2.1 dL_holds_29 ?_
      refine k_icmp_ge F (tgt := 272) dL_holds_30 (by decide) (by omega) (by omega) (fun c_1 => ?_) (fun c_1 => absurd c_1 (by omega))
      have hsec : 0 ≤ ((x / 5) % 900) := by omega
      have hmay := bsS_may (σ := σ) (k := (σ 2 0 0).toNat) (by omega) (can := cnS σ (σ 1 0 0).toNat (x % 5) (σ 2 0 0).toNat) hsec (2 ^ (σ 2 0 0).toNat - 1)
      have hble := bsS_le σ (σ 2 0 0).toNat (cnS σ (σ 1 0 0).toNat (x % 5) (σ 2 0 0).toNat) ((x / 5) % 900) (2 ^ (σ 2 0 0).toNat - 1)
      have hprg : prg σ (σ 1 0 0).toNat (σ 2 0 0).toNat (x % 5) ((x / 5) % 900) = bsS σ (σ 2 0 0).toNat (cnS σ (σ 1 0 0).toNat (x % 5) (σ 2 0 0).toNat) ((x / 5) % 900) (2 ^ (σ 2 0 0).toNat - 1) := rfl
      rw [← hprg] at hmay hble
      have hopt : ∀ o, o ≤ 2 ^ (σ 2 0 0).toNat - 1 → may σ (σ 2 0 0).toNat (cnS σ (σ 1 0 0).toNat (x % 5) (σ 2 0 0).toNat) ((x / 5) % 900) o → _ := bsS_opt (σ := σ) (k := (σ 2 0 0).toNat) (by omega) hsec (2 ^ (σ 2 0 0).toNat - 1)
      rw [← hprg] at hopt
      have hpw := pw_rg (σ 2 0 0).toNat (by omega)
      have hpe := shl_2 hb2
      generalize 2 ^ (σ 2 0 0).toNat = pw at hble hopt hpw hpe
      skip
      have hl6 := lnS_6 hI ((prg σ (σ 1 0 0).toNat (σ 2 0 0).toNat (x % 5) ((x / 5) % 900) : Nat) : Int)
      have hlr := lnS_rg hle9 ((prg σ (σ 1 0 0).toNat (σ 2 0 0).toNat (x % 5) ((x / 5) % 900) : Nat) : Int) 6
      refine lv_aload_n F.1 F.2.1 dL_holds_272 rfl (lv_at hl 5 rfl) ?_
      refine lv_iload F.1 F.2.1 dL_holds_273 (lv_at hl 4 rfl) ?_
      refine lv_iload F.1 F.2.1 dL_holds_275 (lv_at hl 3 rfl) ?_
      refine j_call F (n := 3) (wr := A3 G al nn am fl fn fm) (B := B) (P := P) (σ := σ) (τ' := σ) (z' := ((prg σ (σ 1 0 0).toNat (σ 2 0 0).toNat (x % 5) ((x / 5) % 900) : Nat) : Int)) (mL_plan l hfl G z0 _ B P σ (x % 5) ((x / 5) % 900) (by omega) (by omega) hI) (an_0 (by unfold kPrg; (repeat' split) <;> omega)) rfl gL_holds_L_plan rfl rfl rfl (by decide +kernel) ⟨by rw [hRb.1]; exact Nat.le_of_ble_eq_true rfl, by rw [hRb.2]; exact Nat.le_of_ble_eq_true rfl⟩ hK hP hD hz hAz hS hA rfl rfl hl.1 (Nat.le_of_ble_eq_true rfl) dL_holds_277 ⟨by omega, by omega⟩ (fun P H locs hP hD hS => ?_)
      refine lv_istore (lv' := [(9, .int (iI ((prg σ (σ 1 0 0).toNat (σ 2 0 0).toNat (x % 5) ((x / 5) % 900) : Nat) : Int))), (8, .int (iI 1)), (7, .int (iI (cnS σ (σ 1 0 0).toNat (x % 5) ((σ 2 0 0).toNat)))), (6, .int (iI ((x / 5) % 900))), (5, .int (iI (x % 5))), (0, .ref (B 5)), (1, .ref nn), (2, .ref am), (3, .ref al), (4, .int (iI x))]) F.1 F.2.1 dL_holds_280 hl (by decide) rfl (fun ls hl => ?_)
      refine k_iconst F dL_holds_282 ?_
      refine lv_istore (lv' := [(10, .int (iI 0)), (9, .int (iI ((prg σ (σ 1 0 0).toNat (σ 2 0 0).toNat (x % 5) ((x / 5) % 900) : Nat) : Int))), (8, .int (iI 1)), (7, .int (iI (cnS σ (σ 1 0 0).toNat (x % 5) ((σ 2 0 0).toNat)))), (6, .int (iI ((x / 5) % 900))), (5, .int (iI (x % 5))), (0, .ref (B 5)), (1, .ref nn), (2, .ref am), (3, .ref al), (4, .int (iI x))]) F.1 F.2.1 dL_holds_283 hl (by decide) rfl (fun ls hl => ?_)
      refine k_iconst F dL_holds_285 ?_
      refine lv_istore (lv' := [(11, .int (iI 0)), (10, .int (iI 0)), (9, .int (iI ((prg σ (σ 1 0 0).toNat (σ 2 0 0).toNat (x % 5) ((x / 5) % 900) : Nat) : Int))), (8, .int (iI 1)), (7, .int (iI (cnS σ (σ 1 0 0).toNat (x % 5) ((σ 2 0 0).toNat)))), (6, .int (iI ((x / 5) % 900))), (5, .int (iI (x % 5))), (0, .ref (B 5)), (1, .ref nn), (2, .ref am), (3, .ref al), (4, .int (iI x))]) F.1 F.2.1 dL_holds_286 hl (by decide) rfl (fun ls hl => ?_)
      have L288 : ∀ q : Nat, q ≤ 6 → ∀ (P : Nat → Nat → Nat) (H : Heap) (locs : List Loc), gP G (A3 G al nn am fl fn fm ++ DW G B P σ) H → va_D AA (A3 G al nn am fl fn fm ++ DW G B P σ) → va_S AA sS.heap H locs → ∀ ls : Array Slot, lv_has ls 14 [(11, .int (iI (q : Int))), (10, .int (iI (lnS σ ((prg σ (σ 1 0 0).toNat (σ 2 0 0).toNat (x % 5) ((x / 5) % 900) : Nat) : Int) q))), (9, .int (iI ((prg σ (σ 1 0 0).toNat (σ 2 0 0).toNat (x % 5) ((x / 5) % 900) : Nat) : Int))), (8, .int (iI 1)), (7, .int (iI (cnS σ (σ 1 0 0).toNat (x % 5) ((σ 2 0 0).toNat)))), (6, .int (iI ((x / 5) % 900))), (5, .int (iI (x % 5))), (0, .ref (B 5)), (1, .ref nn), (2, .ref am), (3, .ref al), (4, .int (iI x))] → W pP l eE RR sS mM args bB meth cC H locs (324 * ((σ 2 0 0).toNat) + 0 * q + 6) (1944 * ((σ 2 0 0).toNat) + 0 * q + 36) (MQ bB (va_Qi (fun (r : Int32) (u : Nat → Nat → Nat) => r = iI 1) (fun u t9 => gP G (A3 G al nn am fl fn fm ++ DW G B u σ) t9.heap ∧ va_D AA (A3 G al nn am fl fn fm ++ DW G B u σ)) AA) args sS 2100 12600 AA) (F0 mM 288 ls []) := by
        refine lp_up (6) ?_ ?_
        · intro   P H locs hP hD hS ls hl
          refine lv_iload F.1 F.2.1 dL_holds_288 (lv_at hl 0 rfl) ?_
          refine k_bipush F dL_holds_290 (by decide +kernel) ?_
          refine k_icmp_ge F (tgt := 318) dL_holds_292 (by decide) (by omega) (by omega) (fun c_2 => ?_) (fun c_2 => absurd c_2 (by omega))
          refine lv_iload F.1 F.2.1 dL_holds_318 (lv_at hl 3 rfl) ?_
          refine k_if_eq F (tgt := 357) dL_holds_320 (by decide) (by omega) (fun c_3 => absurd c_3 (by omega)) (fun c_3 => ?_)
          refine lv_iload F.1 F.2.1 dL_holds_323 (lv_at hl 2 rfl) ?_
          refine lv_iload F.1 F.2.1 dL_holds_325 (lv_at hl 4 rfl) ?_
          refine k_iconst F dL_holds_327 ?_
          refine k_ixor F dL_holds_328 ?_
          refine k_iand F dL_holds_329 ?_
          rw [show ((andI ((prg σ (σ 1 0 0).toNat (σ 2 0 0).toNat (x % 5) ((x / 5) % 900) : Nat) : Int) (xorI (cnS σ (σ 1 0 0).toNat (x % 5) ((σ 2 0 0).toNat)) (-1))) : Int) = 0 from hmay.1]
          refine k_if_ne F (tgt := 357) dL_holds_330 (by decide) (by omega) (fun c_4 => absurd c_4 (by omega)) (fun c_4 => ?_)
          refine lv_iload F.1 F.2.1 dL_holds_333 (lv_at hl 1 rfl) ?_
          refine lv_aload_n F.1 F.2.1 dL_holds_335 rfl (lv_at hl 7 rfl) ?_
          refine lv_iload F.1 F.2.1 dL_holds_336 (lv_at hl 6 rfl) ?_
          refine lv_iload F.1 F.2.1 dL_holds_338 (lv_at hl 5 rfl) ?_
          refine j_call F (n := 3) (wr := A3 G al nn am fl fn fm) (B := B) (P := P) (σ := σ) (τ' := σ) (z' := (lnS σ ((prg σ (σ 1 0 0).toNat (σ 2 0 0).toNat (x % 5) ((x / 5) % 900) : Nat) : Int) 6)) (mL_duration l hfl G z0 _ B P σ (x % 5) ((x / 5) % 900) (by omega) (by omega) hI) ((an_0 (by unfold kPrg; (repeat' split) <;> omega)).trans hl6.symm) rfl gL_holds_L_duration rfl rfl rfl (by decide +kernel) ⟨by rw [hRb.1]; exact Nat.le_of_ble_eq_true rfl, by rw [hRb.2]; exact Nat.le_of_ble_eq_true rfl⟩ hK hP hD hz hAz hS hA rfl rfl hl.1 (Nat.le_of_ble_eq_true rfl) dL_holds_340 ⟨by omega, by omega⟩ (fun P H locs hP hD hS => ?_)
          refine k_same_ne F (tgt := 357) dL_holds_343 (by decide) ?_
          refine lv_iload F.1 F.2.1 dL_holds_346 (lv_at hl 1 rfl) ?_
          refine lv_iload F.1 F.2.1 dL_holds_348 (lv_at hl 5 rfl) ?_
          have hmy2 := hmay.2
          refine k_icmp_gt F (tgt := 357) dL_holds_350 (by decide) (by omega) (by omega) (fun c_6 => absurd c_6 (by omega)) (fun c_6 => ?_)
          refine k_iconst F dL_holds_353 ?_
          refine lv_goto (tgt := 358) F.1 F.2.1 dL_holds_354 (by decide) ?_
          refine lv_istore (lv' := [(8, .int (iI 1)), (11, .int (iI ((6 : Nat) : Int))), (10, .int (iI (lnS σ ((prg σ (σ 1 0 0).toNat (σ 2 0 0).toNat (x % 5) ((x / 5) % 900) : Nat) : Int) 6))), (9, .int (iI ((prg σ (σ 1 0 0).toNat (σ 2 0 0).toNat (x % 5) ((x / 5) % 900) : Nat) : Int))), (7, .int (iI (cnS σ (σ 1 0 0).toNat (x % 5) ((σ 2 0 0).toNat)))), (6, .int (iI ((x / 5) % 900))), (5, .int (iI (x % 5))), (0, .ref (B 5)), (1, .ref nn), (2, .ref am), (3, .ref al), (4, .int (iI x))]) F.1 F.2.1 dL_holds_358 hl (by decide) rfl (fun ls hl => ?_)
          refine k_iconst F dL_holds_360 ?_
          refine lv_istore (lv' := [(11, .int (iI 0)), (8, .int (iI 1)), (10, .int (iI (lnS σ ((prg σ (σ 1 0 0).toNat (σ 2 0 0).toNat (x % 5) ((x / 5) % 900) : Nat) : Int) 6))), (9, .int (iI ((prg σ (σ 1 0 0).toNat (σ 2 0 0).toNat (x % 5) ((x / 5) % 900) : Nat) : Int))), (7, .int (iI (cnS σ (σ 1 0 0).toNat (x % 5) ((σ 2 0 0).toNat)))), (6, .int (iI ((x / 5) % 900))), (5, .int (iI (x % 5))), (0, .ref (B 5)), (1, .ref nn), (2, .ref am), (3, .ref al), (4, .int (iI x))]) F.1 F.2.1 dL_holds_361 hl (by decide) rfl (fun ls hl => ?_)
          have L363 : ∀ o : Nat, o ≤ pw → ∀ (P : Nat → Nat → Nat) (H : Heap) (locs : List Loc), gP G (A3 G al nn am fl fn fm ++ DW G B P σ) H → va_D AA (A3 G al nn am fl fn fm ++ DW G B P σ) → va_S AA sS.heap H locs → ∀ ls : Array Slot, lv_has ls 14 [(11, .int (iI (o : Int))), (8, .int (iI 1)), (10, .int (iI (lnS σ ((prg σ (σ 1 0 0).toNat (σ 2 0 0).toNat (x % 5) ((x / 5) % 900) : Nat) : Int) 6))), (9, .int (iI ((prg σ (σ 1 0 0).toNat (σ 2 0 0).toNat (x % 5) ((x / 5) % 900) : Nat) : Int))), (7, .int (iI (cnS σ (σ 1 0 0).toNat (x % 5) ((σ 2 0 0).toNat)))), (6, .int (iI ((x / 5) % 900))), (5, .int (iI (x % 5))), (0, .ref (B 5)), (1, .ref nn), (2, .ref am), (3, .ref al), (4, .int (iI x))] → W pP l eE RR sS mM args bB meth cC H locs (324 * ((σ 2 0 0).toNat) + 0 * 6 + 0 * o + 12) (1944 * ((σ 2 0 0).toNat) + 0 * 6 + 0 * o + 72) (MQ bB (va_Qi (fun (r : Int32) (u : Nat → Nat → Nat) => r = iI 1) (fun u t9 => gP G (A3 G al nn am fl fn fm ++ DW G B u σ) t9.heap ∧ va_D AA (A3 G al nn am fl fn fm ++ DW G B u σ)) AA) args sS 2100 12600 AA) (F0 mM 363 ls []) := by
            refine lp_up (pw) ?_ ?_
            · intro   P H locs hP hD hS ls hl
              refine lv_iload F.1 F.2.1 dL_holds_363 (lv_at hl 0 rfl) ?_
              refine k_iconst F dL_holds_365 ?_
              refine lv_aload_n F.1 F.2.1 dL_holds_366 rfl (lv_at hl 8 rfl) ?_
              refine k_iconst F dL_holds_367 ?_
              refine k_iald F hK hP 1 rfl 1 rfl (by decide) (by decide) hnf.2.1 dL_holds_368 ?_
              refine k_ishl F dL_holds_369 ?_
              rw [show ((shlI 1 (σ 2 0 0)) : Int) = (pw : Int) from hpe]
              refine k_icmp_ge F (tgt := 471) dL_holds_370 (by decide) (by omega) (by omega) (fun c_7 => ?_) (fun c_7 => absurd c_7 (by omega))
              refine lv_iload F.1 F.2.1 dL_holds_471 (lv_at hl 1 rfl) ?_
              refine W.widen (k := 2100) (n := 12600) (by omega) (by omega) ?_
              exact W.zret F.1 F.2.1 hr (by decide +kernel) (fun t9 ht _ => ⟨⟨_, P, rfl, rfl, by rw [ht]; exact hP, hD⟩, hS.F ht⟩) hS.2.2 dL_holds_473 hlocks
            · intro o hk9_363 ih_363   P H locs hP hD hS ls hl
              have ho6 := lnS_6 hI (o : Int)
              have hor := lnS_rg hle9 (o : Int) 6
              refine lv_iload F.1 F.2.1 dL_holds_363 (lv_at hl 0 rfl) ?_
              refine k_iconst F dL_holds_365 ?_
              refine lv_aload_n F.1 F.2.1 dL_holds_366 rfl (lv_at hl 8 rfl) ?_
              refine k_iconst F dL_holds_367 ?_
              refine k_iald F hK hP 1 rfl 1 rfl (by decide) (by decide) hnf.2.1 dL_holds_368 ?_
              refine k_ishl F dL_holds_369 ?_
              rw [show ((shlI 1 (σ 2 0 0)) : Int) = (pw : Int) from hpe]
              refine k_icmp_ge F (tgt := 471) dL_holds_370 (by decide) (by omega) (by omega) (fun c_8 => absurd c_8 (by omega)) (fun c_8 => ?_)
              refine lv_iload F.1 F.2.1 dL_holds_373 (lv_at hl 1 rfl) ?_
              refine k_if_eq F (tgt := 471) dL_holds_375 (by decide) (by omega) (fun c_9 => absurd c_9 (by omega)) (fun c_9 => ?_)
              refine k_iconst F dL_holds_378 ?_
              refine lv_istore (lv' := [(12, .int (iI 0)), (11, .int (iI (o : Int))), (8, .int (iI 1)), (10, .int (iI (lnS σ ((prg σ (σ 1 0 0).toNat (σ 2 0 0).toNat (x % 5) ((x / 5) % 900) : Nat) : Int) 6))), (9, .int (iI ((prg σ (σ 1 0 0).toNat (σ 2 0 0).toNat (x % 5) ((x / 5) % 900) : Nat) : Int))), (7, .int (iI (cnS σ (σ 1 0 0).toNat (x % 5) ((σ 2 0 0).toNat)))), (6, .int (iI ((x / 5) % 900))), (5, .int (iI (x % 5))), (0, .ref (B 5)), (1, .ref nn), (2, .ref am), (3, .ref al), (4, .int (iI x))]) F.1 F.2.1 dL_holds_379 hl (by decide) rfl (fun ls hl => ?_)
              refine k_iconst F dL_holds_381 ?_
              refine lv_istore (lv' := [(13, .int (iI 0)), (12, .int (iI 0)), (11, .int (iI (o : Int))), (8, .int (iI 1)), (10, .int (iI (lnS σ ((prg σ (σ 1 0 0).toNat (σ 2 0 0).toNat (x % 5) ((x / 5) % 900) : Nat) : Int) 6))), (9, .int (iI ((prg σ (σ 1 0 0).toNat (σ 2 0 0).toNat (x % 5) ((x / 5) % 900) : Nat) : Int))), (7, .int (iI (cnS σ (σ 1 0 0).toNat (x % 5) ((σ 2 0 0).toNat)))), (6, .int (iI ((x / 5) % 900))), (5, .int (iI (x % 5))), (0, .ref (B 5)), (1, .ref nn), (2, .ref am), (3, .ref al), (4, .int (iI x))]) F.1 F.2.1 dL_holds_382 hl (by decide) rfl (fun ls hl => ?_)
              have L384 : ∀ q : Nat, q ≤ 6 → ∀ (P : Nat → Nat → Nat) (H : Heap) (locs : List Loc), gP G (A3 G al nn am fl fn fm ++ DW G B P σ) H → va_D AA (A3 G al nn am fl fn fm ++ DW G B P σ) → va_S AA sS.heap H locs → ∀ ls : Array Slot, lv_has ls 14 [(13, .int (iI (q : Int))), (12, .int (iI (lnS σ (o : Int) q))), (11, .int (iI (o : Int))), (8, .int (iI 1)), (10, .int (iI (lnS σ ((prg σ (σ 1 0 0).toNat (σ 2 0 0).toNat (x % 5) ((x / 5) % 900) : Nat) : Int) 6))), (9, .int (iI ((prg σ (σ 1 0 0).toNat (σ 2 0 0).toNat (x % 5) ((x / 5) % 900) : Nat) : Int))), (7, .int (iI (cnS σ (σ 1 0 0).toNat (x % 5) ((σ 2 0 0).toNat)))), (6, .int (iI ((x / 5) % 900))), (5, .int (iI (x % 5))), (0, .ref (B 5)), (1, .ref nn), (2, .ref am), (3, .ref al), (4, .int (iI x))] → W pP l eE RR sS mM args bB meth cC H locs (324 * ((σ 2 0 0).toNat) + 0 * 6 + 0 * o + 0 * q + 12) (1944 * ((σ 2 0 0).toNat) + 0 * 6 + 0 * o + 0 * q + 72) (MQ bB (va_Qi (fun (r : Int32) (u : Nat → Nat → Nat) => r = iI 1) (fun u t9 => gP G (A3 G al nn am fl fn fm ++ DW G B u σ) t9.heap ∧ va_D AA (A3 G al nn am fl fn fm ++ DW G B u σ)) AA) args sS 2100 12600 AA) (F0 mM 384 ls []) := by
                refine lp_up (6) ?_ ?_
                · intro   P H locs hP hD hS ls hl
                  refine lv_iload F.1 F.2.1 dL_holds_384 (lv_at hl 0 rfl) ?_
                  refine k_bipush F dL_holds_386 (by decide +kernel) ?_
                  refine k_icmp_ge F (tgt := 414) dL_holds_388 (by decide) (by omega) (by omega) (fun c_10 => ?_) (fun c_10 => absurd c_10 (by omega))
                  refine lv_iload F.1 F.2.1 dL_holds_414 (lv_at hl 2 rfl) ?_
                  refine lv_iload F.1 F.2.1 dL_holds_416 (lv_at hl 6 rfl) ?_
                  refine k_iconst F dL_holds_418 ?_
                  refine k_ixor F dL_holds_419 ?_
                  refine k_iand F dL_holds_420 ?_
                  have J458 : ∀ (P : Nat → Nat → Nat) (H : Heap) (locs : List Loc), gP G (A3 G al nn am fl fn fm ++ DW G B P σ) H → va_D AA (A3 G al nn am fl fn fm ++ DW G B P σ) → va_S AA sS.heap H locs → ∀ ls : Array Slot, lv_has ls 14 [(13, .int (iI ((6 : Nat) : Int))), (12, .int (iI (lnS σ (o : Int) 6))), (11, .int (iI (o : Int))), (8, .int (iI 1)), (10, .int (iI (lnS σ ((prg σ (σ 1 0 0).toNat (σ 2 0 0).toNat (x % 5) ((x / 5) % 900) : Nat) : Int) 6))), (9, .int (iI ((prg σ (σ 1 0 0).toNat (σ 2 0 0).toNat (x % 5) ((x / 5) % 900) : Nat) : Int))), (7, .int (iI (cnS σ (σ 1 0 0).toNat (x % 5) ((σ 2 0 0).toNat)))), (6, .int (iI ((x / 5) % 900))), (5, .int (iI (x % 5))), (0, .ref (B 5)), (1, .ref nn), (2, .ref am), (3, .ref al), (4, .int (iI x))] → W pP l eE RR sS mM args bB meth cC H locs (324 * ((σ 2 0 0).toNat) + 0 * 6 + 0 * o + 0 * 6 + 12) (1944 * ((σ 2 0 0).toNat) + 0 * 6 + 0 * o + 0 * 6 + 72) (MQ bB (va_Qi (fun (r : Int32) (u : Nat → Nat → Nat) => r = iI 1) (fun u t9 => gP G (A3 G al nn am fl fn fm ++ DW G B u σ) t9.heap ∧ va_D AA (A3 G al nn am fl fn fm ++ DW G B u σ)) AA) args sS 2100 12600 AA) (F0 mM 458 ls []) := by
                    intro  P H locs hP hD hS ls hl
                    refine k_iconst F dL_holds_458 ?_
                    refine lv_goto (tgt := 463) F.1 F.2.1 dL_holds_459 (by decide) ?_
                    refine lv_istore (lv' := [(8, .int (iI 1)), (13, .int (iI ((6 : Nat) : Int))), (12, .int (iI (lnS σ (o : Int) 6))), (11, .int (iI (o : Int))), (10, .int (iI (lnS σ ((prg σ (σ 1 0 0).toNat (σ 2 0 0).toNat (x % 5) ((x / 5) % 900) : Nat) : Int) 6))), (9, .int (iI ((prg σ (σ 1 0 0).toNat (σ 2 0 0).toNat (x % 5) ((x / 5) % 900) : Nat) : Int))), (7, .int (iI (cnS σ (σ 1 0 0).toNat (x % 5) ((σ 2 0 0).toNat)))), (6, .int (iI ((x / 5) % 900))), (5, .int (iI (x % 5))), (0, .ref (B 5)), (1, .ref nn), (2, .ref am), (3, .ref al), (4, .int (iI x))]) F.1 F.2.1 dL_holds_463 hl (by decide) rfl (fun ls hl => ?_)
                    refine lv_iinc (v := iI ((o : Int) + 1)) (lv' := [(11, .int (iI ((o : Int) + 1))), (8, .int (iI 1)), (13, .int (iI ((6 : Nat) : Int))), (12, .int (iI (lnS σ (o : Int) 6))), (10, .int (iI (lnS σ ((prg σ (σ 1 0 0).toNat (σ 2 0 0).toNat (x % 5) ((x / 5) % 900) : Nat) : Int) 6))), (9, .int (iI ((prg σ (σ 1 0 0).toNat (σ 2 0 0).toNat (x % 5) ((x / 5) % 900) : Nat) : Int))), (7, .int (iI (cnS σ (σ 1 0 0).toNat (x % 5) ((σ 2 0 0).toNat)))), (6, .int (iI ((x / 5) % 900))), (5, .int (iI (x % 5))), (0, .ref (B 5)), (1, .ref nn), (2, .ref am), (3, .ref al), (4, .int (iI x))]) F.1 F.2.1 dL_holds_465 hl (k := 3) rfl (iI_add _ _) (by decide) rfl (fun ls hl => ?_)
                    refine lv_goto (tgt := 363) F.1 F.2.1 dL_holds_468 (by decide) ?_
                    have e_11 : (((o : Int) + 1) : Int) = (((o + 1) : Nat) : Int) := by omega
                    refine W.widen (k := (324 * ((σ 2 0 0).toNat) + 0 * 6 + 0 * (o + 1) + 12)) (n := (1944 * ((σ 2 0 0).toNat) + 0 * 6 + 0 * (o + 1) + 72)) (by omega) (by omega) ?_
                    exact ih_363  P _ _ hP hD hS _ (lv_to (lv_sub hl [0, 1, 4, 5, 6, 7, 8, 9, 10, 11, 12, 13] rfl) (congrArg (fun x9 : Int => ([(11, .int (iI x9)), (8, .int (iI 1)), (10, .int (iI (lnS σ ((prg σ (σ 1 0 0).toNat (σ 2 0 0).toNat (x % 5) ((x / 5) % 900) : Nat) : Int) 6))), (9, .int (iI ((prg σ (σ 1 0 0).toNat (σ 2 0 0).toNat (x % 5) ((x / 5) % 900) : Nat) : Int))), (7, .int (iI (cnS σ (σ 1 0 0).toNat (x % 5) ((σ 2 0 0).toNat)))), (6, .int (iI ((x / 5) % 900))), (5, .int (iI (x % 5))), (0, .ref (B 5)), (1, .ref nn), (2, .ref am), (3, .ref al), (4, .int (iI x))] : List (Nat × Value))) e_11))
                  refine k_if_ne F (tgt := 458) dL_holds_421 (by decide) (iI_rg _) (fun c421 => ?_) (fun c421 => ?_)
                  · skip
                    refine W.widen (k := (324 * ((σ 2 0 0).toNat) + 0 * 6 + 0 * o + 0 * 6 + 12)) (n := (1944 * ((σ 2 0 0).toNat) + 0 * 6 + 0 * o + 0 * 6 + 72)) (by omega) (by omega) ?_
                    exact J458  P _ _ hP hD hS _ (lv_sub hl [0, 1, 2, 3, 4, 5, 6, 7, 8, 9, 10, 11, 12, 13] rfl)
                  · skip
                    refine lv_iload F.1 F.2.1 dL_holds_424 (lv_at hl 1 rfl) ?_
                    refine lv_iload F.1 F.2.1 dL_holds_426 (lv_at hl 7 rfl) ?_
                    refine k_icmp_gt F (tgt := 458) dL_holds_428 (by decide) (by omega) (by omega) (fun c_12 => ?_) (fun c_12 => ?_)
                    · skip
                      refine W.widen (k := (324 * ((σ 2 0 0).toNat) + 0 * 6 + 0 * o + 0 * 6 + 12)) (n := (1944 * ((σ 2 0 0).toNat) + 0 * 6 + 0 * o + 0 * 6 + 72)) (by omega) (by omega) ?_
                      exact J458  P _ _ hP hD hS _ (lv_sub hl [0, 1, 2, 3, 4, 5, 6, 7, 8, 9, 10, 11, 12, 13] rfl)
                    · skip
                      refine lv_iload F.1 F.2.1 dL_holds_431 (lv_at hl 1 rfl) ?_
                      refine lv_iload F.1 F.2.1 dL_holds_433 (lv_at hl 4 rfl) ?_
                      refine k_icmp_lt F (tgt := 458) dL_holds_435 (by decide) (by omega) (by omega) (fun c_13 => ?_) (fun c_13 => ?_)
                      · skip
                        refine W.widen (k := (324 * ((σ 2 0 0).toNat) + 0 * 6 + 0 * o + 0 * 6 + 12)) (n := (1944 * ((σ 2 0 0).toNat) + 0 * 6 + 0 * o + 0 * 6 + 72)) (by omega) (by omega) ?_
                        exact J458  P _ _ hP hD hS _ (lv_sub hl [0, 1, 2, 3, 4, 5, 6, 7, 8, 9, 10, 11, 12, 13] rfl)
                      · skip
                        refine lv_iload F.1 F.2.1 dL_holds_438 (lv_at hl 1 rfl) ?_
                        refine lv_iload F.1 F.2.1 dL_holds_440 (lv_at hl 4 rfl) ?_
                        have hop := hopt o (by omega) ⟨c421, by rw [← ho6]; omega⟩
                        refine k_icmp_ne F (tgt := 462) dL_holds_442 (by decide) (by omega) (by omega) (fun c_14 => absurd c_14 (by omega)) (fun c_14 => ?_)
                        refine lv_iload F.1 F.2.1 dL_holds_445 (lv_at hl 2 rfl) ?_
                        refine rd_S F (n := 1) (w0 := []) (mL_bits l G (A3 G al nn am fl fn fm ++ DW G B P σ) o (by omega)) gL_holds_L_bits rfl rfl rfl (by decide +kernel) ⟨by rw [hRb.1]; exact Nat.le_of_ble_eq_true rfl, by rw [hRb.2]; exact Nat.le_of_ble_eq_true rfl⟩ hK hP rfl rfl hl.1 (Nat.le_of_ble_eq_true rfl) dL_holds_447 ⟨by omega, by omega⟩ ?_
                        refine lv_iload F.1 F.2.1 dL_holds_450 (lv_at hl 5 rfl) ?_
                        refine rd_S F (n := 1) (w0 := []) (mL_bits l G (A3 G al nn am fl fn fm ++ DW G B P σ) (prg σ (σ 1 0 0).toNat (σ 2 0 0).toNat (x % 5) ((x / 5) % 900)) (by omega)) gL_holds_L_bits rfl rfl rfl (by decide +kernel) ⟨by rw [hRb.1]; exact Nat.le_of_ble_eq_true rfl, by rw [hRb.2]; exact Nat.le_of_ble_eq_true rfl⟩ hK hP rfl rfl hl.1 (Nat.le_of_ble_eq_true rfl) dL_holds_452 ⟨by omega, by omega⟩ ?_
                        have hbo := bct_6 o
                        have hbs := bct_6 (prg σ (σ 1 0 0).toNat (σ 2 0 0).toNat (x % 5) ((x / 5) % 900))
                        refine k_icmp_lt F (tgt := 462) dL_holds_455 (by decide) (by omega) (by omega) (fun c_15 => absurd c_15 (by omega)) (fun c_15 => ?_)
                        refine W.widen (k := (324 * ((σ 2 0 0).toNat) + 0 * 6 + 0 * o + 0 * 6 + 12)) (n := (1944 * ((σ 2 0 0).toNat) + 0 * 6 + 0 * o + 0 * 6 + 72)) (by omega) (by omega) ?_
                        exact J458  P _ _ hP hD hS _ (lv_sub hl [0, 1, 2, 3, 4, 5, 6, 7, 8, 9, 10, 11, 12, 13] rfl)
                · intro q hk9_384 ih_384   P H locs hP hD hS ls hl
                  refine lv_iload F.1 F.2.1 dL_holds_384 (lv_at hl 0 rfl) ?_
                  refine k_bipush F dL_holds_386 (by decide +kernel) ?_
                  refine k_icmp_ge F (tgt := 414) dL_holds_388 (by decide) (by omega) (by omega) (fun c_16 => absurd c_16 (by omega)) (fun c_16 => ?_)
                  refine lv_iload F.1 F.2.1 dL_holds_391 (lv_at hl 1 rfl) ?_
                  refine lv_iload F.1 F.2.1 dL_holds_393 (lv_at hl 2 rfl) ?_
                  refine lv_iload F.1 F.2.1 dL_holds_395 (lv_at hl 0 rfl) ?_
                  refine k_ishr F dL_holds_397 ?_
                  refine k_iconst F dL_holds_398 ?_
                  refine k_iand F dL_holds_399 ?_
                  refine lv_aload_n F.1 F.2.1 dL_holds_400 rfl (lv_at hl 12 rfl) ?_
                  refine lv_iload F.1 F.2.1 dL_holds_401 (lv_at hl 0 rfl) ?_
                  refine k_iald F hK hP 0 rfl q (by omega) (by omega) (by decide) (hlf q (by omega)) dL_holds_403 ?_
                  refine k_imul F rfl dL_holds_404 ?_
                  refine k_iadd F rfl dL_holds_405 ?_
                  refine lv_istore (lv' := [(12, .int (iI ((lnS σ (o : Int) q) + ((andI (shrI (o : Int) (q : Int)) 1) * (σ 9 q 0))))), (13, .int (iI (q : Int))), (11, .int (iI (o : Int))), (8, .int (iI 1)), (10, .int (iI (lnS σ ((prg σ (σ 1 0 0).toNat (σ 2 0 0).toNat (x % 5) ((x / 5) % 900) : Nat) : Int) 6))), (9, .int (iI ((prg σ (σ 1 0 0).toNat (σ 2 0 0).toNat (x % 5) ((x / 5) % 900) : Nat) : Int))), (7, .int (iI (cnS σ (σ 1 0 0).toNat (x % 5) ((σ 2 0 0).toNat)))), (6, .int (iI ((x / 5) % 900))), (5, .int (iI (x % 5))), (0, .ref (B 5)), (1, .ref nn), (2, .ref am), (3, .ref al), (4, .int (iI x))]) F.1 F.2.1 dL_holds_406 hl (by decide) rfl (fun ls hl => ?_)
                  refine lv_iinc (v := iI ((q : Int) + 1)) (lv' := [(13, .int (iI ((q : Int) + 1))), (12, .int (iI ((lnS σ (o : Int) q) + ((andI (shrI (o : Int) (q : Int)) 1) * (σ 9 q 0))))), (11, .int (iI (o : Int))), (8, .int (iI 1)), (10, .int (iI (lnS σ ((prg σ (σ 1 0 0).toNat (σ 2 0 0).toNat (x % 5) ((x / 5) % 900) : Nat) : Int) 6))), (9, .int (iI ((prg σ (σ 1 0 0).toNat (σ 2 0 0).toNat (x % 5) ((x / 5) % 900) : Nat) : Int))), (7, .int (iI (cnS σ (σ 1 0 0).toNat (x % 5) ((σ 2 0 0).toNat)))), (6, .int (iI ((x / 5) % 900))), (5, .int (iI (x % 5))), (0, .ref (B 5)), (1, .ref nn), (2, .ref am), (3, .ref al), (4, .int (iI x))]) F.1 F.2.1 dL_holds_408 hl (k := 1) rfl (iI_add _ _) (by decide) rfl (fun ls hl => ?_)
                  refine lv_goto (tgt := 384) F.1 F.2.1 dL_holds_411 (by decide) ?_
                  have e_17 : (((q : Int) + 1) : Int) = (((q + 1) : Nat) : Int) := by omega
                  have e_18 : (((lnS σ (o : Int) q) + ((andI (shrI (o : Int) (q : Int)) 1) * (σ 9 q 0))) : Int) = (lnS σ (o : Int) (q + 1)) := rfl
                  refine W.widen (k := (324 * ((σ 2 0 0).toNat) + 0 * 6 + 0 * o + 0 * (q + 1) + 12)) (n := (1944 * ((σ 2 0 0).toNat) + 0 * 6 + 0 * o + 0 * (q + 1) + 72)) (by omega) (by omega) ?_
                  exact ih_384  P _ _ hP hD hS _ (lv_to (lv_to (lv_sub hl [0, 1, 2, 3, 4, 5, 6, 7, 8, 9, 10, 11, 12, 13] rfl) (congrArg (fun x9 : Int => ([(13, .int (iI x9)), (12, .int (iI ((lnS σ (o : Int) q) + ((andI (shrI (o : Int) (q : Int)) 1) * (σ 9 q 0))))), (11, .int (iI (o : Int))), (8, .int (iI 1)), (10, .int (iI (lnS σ ((prg σ (σ 1 0 0).toNat (σ 2 0 0).toNat (x % 5) ((x / 5) % 900) : Nat) : Int) 6))), (9, .int (iI ((prg σ (σ 1 0 0).toNat (σ 2 0 0).toNat (x % 5) ((x / 5) % 900) : Nat) : Int))), (7, .int (iI (cnS σ (σ 1 0 0).toNat (x % 5) ((σ 2 0 0).toNat)))), (6, .int (iI ((x / 5) % 900))), (5, .int (iI (x % 5))), (0, .ref (B 5)), (1, .ref nn), (2, .ref am), (3, .ref al), (4, .int (iI x))] : List (Nat × Value))) e_17)) (congrArg (fun x9 : Int => ([(13, .int (iI (((q + 1) : Nat) : Int))), (12, .int (iI x9)), (11, .int (iI (o : Int))), (8, .int (iI 1)), (10, .int (iI (lnS σ ((prg σ (σ 1 0 0).toNat (σ 2 0 0).toNat (x % 5) ((x / 5) % 900) : Nat) : Int) 6))), (9, .int (iI ((prg σ (σ 1 0 0).toNat (σ 2 0 0).toNat (x % 5) ((x / 5) % 900) : Nat) : Int))), (7, .int (iI (cnS σ (σ 1 0 0).toNat (x % 5) ((σ 2 0 0).toNat)))), (6, .int (iI ((x / 5) % 900))), (5, .int (iI (x % 5))), (0, .ref (B 5)), (1, .ref nn), (2, .ref am), (3, .ref al), (4, .int (iI x))] : List (Nat × Value))) e_18))
              have e_19 : (0 : Int) = ((0 : Nat) : Int) := rfl
              have e_20 : (0 : Int) = (lnS σ (o : Int) 0) := rfl
              refine W.widen (k := (324 * ((σ 2 0 0).toNat) + 0 * 6 + 0 * o + 0 * 0 + 12)) (n := (1944 * ((σ 2 0 0).toNat) + 0 * 6 + 0 * o + 0 * 0 + 72)) (by omega) (by omega) ?_
              exact L384 0 (Nat.zero_le _)  P _ _ hP hD hS _ (lv_to (lv_to (lv_sub hl [0, 1, 2, 3, 4, 5, 6, 7, 8, 9, 10, 11, 12, 13] rfl) (congrArg (fun x9 : Int => ([(13, .int (iI x9)), (12, .int (iI 0)), (11, .int (iI (o : Int))), (8, .int (iI 1)), (10, .int (iI (lnS σ ((prg σ (σ 1 0 0).toNat (σ 2 0 0).toNat (x % 5) ((x / 5) % 900) : Nat) : Int) 6))), (9, .int (iI ((prg σ (σ 1 0 0).toNat (σ 2 0 0).toNat (x % 5) ((x / 5) % 900) : Nat) : Int))), (7, .int (iI (cnS σ (σ 1 0 0).toNat (x % 5) ((σ 2 0 0).toNat)))), (6, .int (iI ((x / 5) % 900))), (5, .int (iI (x % 5))), (0, .ref (B 5)), (1, .ref nn), (2, .ref am), (3, .ref al), (4, .int (iI x))] : List (Nat × Value))) e_19)) (congrArg (fun x9 : Int => ([(13, .int (iI ((0 : Nat) : Int))), (12, .int (iI x9)), (11, .int (iI (o : Int))), (8, .int (iI 1)), (10, .int (iI (lnS σ ((prg σ (σ 1 0 0).toNat (σ 2 0 0).toNat (x % 5) ((x / 5) % 900) : Nat) : Int) 6))), (9, .int (iI ((prg σ (σ 1 0 0).toNat (σ 2 0 0).toNat (x % 5) ((x / 5) % 900) : Nat) : Int))), (7, .int (iI (cnS σ (σ 1 0 0).toNat (x % 5) ((σ 2 0 0).toNat)))), (6, .int (iI ((x / 5) % 900))), (5, .int (iI (x % 5))), (0, .ref (B 5)), (1, .ref nn), (2, .ref am), (3, .ref al), (4, .int (iI x))] : List (Nat × Value))) e_20))
          have e_21 : (0 : Int) = ((0 : Nat) : Int) := rfl
          refine W.widen (k := (324 * ((σ 2 0 0).toNat) + 0 * 6 + 0 * 0 + 12)) (n := (1944 * ((σ 2 0 0).toNat) + 0 * 6 + 0 * 0 + 72)) (by omega) (by omega) ?_
          exact L363 0 (Nat.zero_le _)  P _ _ hP hD hS _ (lv_to (lv_sub hl [0, 1, 2, 3, 4, 5, 6, 7, 8, 9, 10, 11] rfl) (congrArg (fun x9 : Int => ([(11, .int (iI x9)), (8, .int (iI 1)), (10, .int (iI (lnS σ ((prg σ (σ 1 0 0).toNat (σ 2 0 0).toNat (x % 5) ((x / 5) % 900) : Nat) : Int) 6))), (9, .int (iI ((prg σ (σ 1 0 0).toNat (σ 2 0 0).toNat (x % 5) ((x / 5) % 900) : Nat) : Int))), (7, .int (iI (cnS σ (σ 1 0 0).toNat (x % 5) ((σ 2 0 0).toNat)))), (6, .int (iI ((x / 5) % 900))), (5, .int (iI (x % 5))), (0, .ref (B 5)), (1, .ref nn), (2, .ref am), (3, .ref al), (4, .int (iI x))] : List (Nat × Value))) e_21))
        · intro q hk9_288 ih_288   P H locs hP hD hS ls hl
          refine lv_iload F.1 F.2.1 dL_holds_288 (lv_at hl 0 rfl) ?_
          refine k_bipush F dL_holds_290 (by decide +kernel) ?_
          refine k_icmp_ge F (tgt := 318) dL_holds_292 (by decide) (by omega) (by omega) (fun c_22 => absurd c_22 (by omega)) (fun c_22 => ?_)
          refine lv_iload F.1 F.2.1 dL_holds_295 (lv_at hl 1 rfl) ?_
          refine lv_iload F.1 F.2.1 dL_holds_297 (lv_at hl 2 rfl) ?_
          refine lv_iload F.1 F.2.1 dL_holds_299 (lv_at hl 0 rfl) ?_
          refine k_ishr F dL_holds_301 ?_
          refine k_iconst F dL_holds_302 ?_
          refine k_iand F dL_holds_303 ?_
          refine lv_aload_n F.1 F.2.1 dL_holds_304 rfl (lv_at hl 10 rfl) ?_
          refine lv_iload F.1 F.2.1 dL_holds_305 (lv_at hl 0 rfl) ?_
          refine k_iald F hK hP 0 rfl q (by omega) (by omega) (by decide) (hlf q (by omega)) dL_holds_307 ?_
          refine k_imul F rfl dL_holds_308 ?_
          refine k_iadd F rfl dL_holds_309 ?_
          refine lv_istore (lv' := [(10, .int (iI ((lnS σ ((prg σ (σ 1 0 0).toNat (σ 2 0 0).toNat (x % 5) ((x / 5) % 900) : Nat) : Int) q) + ((andI (shrI ((prg σ (σ 1 0 0).toNat (σ 2 0 0).toNat (x % 5) ((x / 5) % 900) : Nat) : Int) (q : Int)) 1) * (σ 9 q 0))))), (11, .int (iI (q : Int))), (9, .int (iI ((prg σ (σ 1 0 0).toNat (σ 2 0 0).toNat (x % 5) ((x / 5) % 900) : Nat) : Int))), (8, .int (iI 1)), (7, .int (iI (cnS σ (σ 1 0 0).toNat (x % 5) ((σ 2 0 0).toNat)))), (6, .int (iI ((x / 5) % 900))), (5, .int (iI (x % 5))), (0, .ref (B 5)), (1, .ref nn), (2, .ref am), (3, .ref al), (4, .int (iI x))]) F.1 F.2.1 dL_holds_310 hl (by decide) rfl (fun ls hl => ?_)
          refine lv_iinc (v := iI ((q : Int) + 1)) (lv' := [(11, .int (iI ((q : Int) + 1))), (10, .int (iI ((lnS σ ((prg σ (σ 1 0 0).toNat (σ 2 0 0).toNat (x % 5) ((x / 5) % 900) : Nat) : Int) q) + ((andI (shrI ((prg σ (σ 1 0 0).toNat (σ 2 0 0).toNat (x % 5) ((x / 5) % 900) : Nat) : Int) (q : Int)) 1) * (σ 9 q 0))))), (9, .int (iI ((prg σ (σ 1 0 0).toNat (σ 2 0 0).toNat (x % 5) ((x / 5) % 900) : Nat) : Int))), (8, .int (iI 1)), (7, .int (iI (cnS σ (σ 1 0 0).toNat (x % 5) ((σ 2 0 0).toNat)))), (6, .int (iI ((x / 5) % 900))), (5, .int (iI (x % 5))), (0, .ref (B 5)), (1, .ref nn), (2, .ref am), (3, .ref al), (4, .int (iI x))]) F.1 F.2.1 dL_holds_312 hl (k := 1) rfl (iI_add _ _) (by decide) rfl (fun ls hl => ?_)
          refine lv_goto (tgt := 288) F.1 F.2.1 dL_holds_315 (by decide) ?_
          have e_23 : (((q : Int) + 1) : Int) = (((q + 1) : Nat) : Int) := by omega
          have e_24 : (((lnS σ ((prg σ (σ 1 0 0).toNat (σ 2 0 0).toNat (x % 5) ((x / 5) % 900) : Nat) : Int) q) + ((andI (shrI ((prg σ (σ 1 0 0).toNat (σ 2 0 0).toNat (x % 5) ((x / 5) % 900) : Nat) : Int) (q : Int)) 1) * (σ 9 q 0))) : Int) = (lnS σ ((prg σ (σ 1 0 0).toNat (σ 2 0 0).toNat (x % 5) ((x / 5) % 900) : Nat) : Int) (q + 1)) := rfl
          refine W.widen (k := (324 * ((σ 2 0 0).toNat) + 0 * (q + 1) + 6)) (n := (1944 * ((σ 2 0 0).toNat) + 0 * (q + 1) + 36)) (by omega) (by omega) ?_
          exact ih_288  P _ _ hP hD hS _ (lv_to (lv_to (lv_sub hl [0, 1, 2, 3, 4, 5, 6, 7, 8, 9, 10, 11] rfl) (congrArg (fun x9 : Int => ([(11, .int (iI x9)), (10, .int (iI ((lnS σ ((prg σ (σ 1 0 0).toNat (σ 2 0 0).toNat (x % 5) ((x / 5) % 900) : Nat) : Int) q) + ((andI (shrI ((prg σ (σ 1 0 0).toNat (σ 2 0 0).toNat (x % 5) ((x / 5) % 900) : Nat) : Int) (q : Int)) 1) * (σ 9 q 0))))), (9, .int (iI ((prg σ (σ 1 0 0).toNat (σ 2 0 0).toNat (x % 5) ((x / 5) % 900) : Nat) : Int))), (8, .int (iI 1)), (7, .int (iI (cnS σ (σ 1 0 0).toNat (x % 5) ((σ 2 0 0).toNat)))), (6, .int (iI ((x / 5) % 900))), (5, .int (iI (x % 5))), (0, .ref (B 5)), (1, .ref nn), (2, .ref am), (3, .ref al), (4, .int (iI x))] : List (Nat × Value))) e_23)) (congrArg (fun x9 : Int => ([(11, .int (iI (((q + 1) : Nat) : Int))), (10, .int (iI x9)), (9, .int (iI ((prg σ (σ 1 0 0).toNat (σ 2 0 0).toNat (x % 5) ((x / 5) % 900) : Nat) : Int))), (8, .int (iI 1)), (7, .int (iI (cnS σ (σ 1 0 0).toNat (x % 5) ((σ 2 0 0).toNat)))), (6, .int (iI ((x / 5) % 900))), (5, .int (iI (x % 5))), (0, .ref (B 5)), (1, .ref nn), (2, .ref am), (3, .ref al), (4, .int (iI x))] : List (Nat × Value))) e_24))
      have e_25 : (0 : Int) = ((0 : Nat) : Int) := rfl
      have e_26 : (0 : Int) = (lnS σ ((prg σ (σ 1 0 0).toNat (σ 2 0 0).toNat (x % 5) ((x / 5) % 900) : Nat) : Int) 0) := rfl
      refine W.widen (k := (324 * ((σ 2 0 0).toNat) + 0 * 0 + 6)) (n := (1944 * ((σ 2 0 0).toNat) + 0 * 0 + 36)) (by omega) (by omega) ?_
      exact L288 0 (Nat.zero_le _)  P _ _ hP hD hS _ (lv_to (lv_to (lv_sub hl [0, 1, 2, 3, 4, 5, 6, 7, 8, 9, 10, 11] rfl) (congrArg (fun x9 : Int => ([(11, .int (iI x9)), (10, .int (iI 0)), (9, .int (iI ((prg σ (σ 1 0 0).toNat (σ 2 0 0).toNat (x % 5) ((x / 5) % 900) : Nat) : Int))), (8, .int (iI 1)), (7, .int (iI (cnS σ (σ 1 0 0).toNat (x % 5) ((σ 2 0 0).toNat)))), (6, .int (iI ((x / 5) % 900))), (5, .int (iI (x % 5))), (0, .ref (B 5)), (1, .ref nn), (2, .ref am), (3, .ref al), (4, .int (iI x))] : List (Nat × Value))) e_25)) (congrArg (fun x9 : Int => ([(11, .int (iI ((0 : Nat) : Int))), (10, .int (iI x9)), (9, .int (iI ((prg σ (σ 1 0 0).toNat (σ 2 0 0).toNat (x % 5) ((x / 5) % 900) : Nat) : Int))), (8, .int (iI 1)), (7, .int (iI (cnS σ (σ 1 0 0).toNat (x % 5) ((σ 2 0 0).toNat)))), (6, .int (iI ((x / 5) % 900))), (5, .int (iI (x % 5))), (0, .ref (B 5)), (1, .ref nn), (2, .ref am), (3, .ref al), (4, .int (iI x))] : List (Nat × Value))) e_26))
    · intro i hk9_25 ih_25   P H locs hP hD hS ls hl
      have h8i := hb8 i
      have h81 := hI.2.2.2.2.2.2.2.1 i (by omega)
      have hpr0 : ∀ c, 0 ≤ σ 10 i c := fun c => (hI.2.2.2.2.2.2.2.2.2.2.2.2.1 i c).1
      refine lv_iload F.1 F.2.1 dL_holds_25 (lv_at hl 0 rfl) ?_
      refine lv_aload_n F.1 F.2.1 dL_holds_27 rfl (lv_at hl 6 rfl) ?_
      refine k_iconst F dL_holds_28 ?_
      refine k_iald F hK hP 1 rfl 1 rfl (by decide) (by decide) hnf.2.1 dL_holds_29 ?_
      refine k_icmp_ge F (tgt := 272) dL_holds_30 (by decide) (by omega) (by omega) (fun c_27 => absurd c_27 (by omega)) (fun c_27 => ?_)
      refine lv_iload F.1 F.2.1 dL_holds_33 (lv_at hl 1 rfl) ?_
      refine k_if_eq F (tgt := 272) dL_holds_35 (by decide) (by omega) (fun c_28 => absurd c_28 (by omega)) (fun c_28 => ?_)
      refine k_iconst F dL_holds_38 ?_
      refine lv_istore (lv' := [(10, .int (iI 0)), (9, .int (iI (i : Int))), (8, .int (iI 1)), (7, .int (iI (cnS σ (σ 1 0 0).toNat (x % 5) i))), (6, .int (iI ((x / 5) % 900))), (5, .int (iI (x % 5))), (0, .ref (B 5)), (1, .ref nn), (2, .ref am), (3, .ref al), (4, .int (iI x))]) F.1 F.2.1 dL_holds_39 hl (by decide) rfl (fun ls hl => ?_)
      refine k_iconst F dL_holds_41 ?_
      refine lv_istore (lv' := [(11, .int (iI 0)), (10, .int (iI 0)), (9, .int (iI (i : Int))), (8, .int (iI 1)), (7, .int (iI (cnS σ (σ 1 0 0).toNat (x % 5) i))), (6, .int (iI ((x / 5) % 900))), (5, .int (iI (x % 5))), (0, .ref (B 5)), (1, .ref nn), (2, .ref am), (3, .ref al), (4, .int (iI x))]) F.1 F.2.1 dL_holds_42 hl (by decide) rfl (fun ls hl => ?_)
      refine k_iconst F dL_holds_44 ?_
      refine lv_istore (lv' := [(12, .int (iI 0)), (11, .int (iI 0)), (10, .int (iI 0)), (9, .int (iI (i : Int))), (8, .int (iI 1)), (7, .int (iI (cnS σ (σ 1 0 0).toNat (x % 5) i))), (6, .int (iI ((x / 5) % 900))), (5, .int (iI (x % 5))), (0, .ref (B 5)), (1, .ref nn), (2, .ref am), (3, .ref al), (4, .int (iI x))]) F.1 F.2.1 dL_holds_45 hl (by decide) rfl (fun ls hl => ?_)
      have L47 : ∀ q : Nat, q ≤ (σ 8 i 0).toNat → ∀ (P : Nat → Nat → Nat) (H : Heap) (locs : List Loc), gP G (A3 G al nn am fl fn fm ++ DW G B P σ) H → va_D AA (A3 G al nn am fl fn fm ++ DW G B P σ) → va_S AA sS.heap H locs → ∀ ls : Array Slot, lv_has ls 14 [(12, .int (iI (q : Int))), (8, .int (iI 1)), (10, .int (iI (fsS (σ 7 i) q))), (11, .int (iI (moS σ i q))), (9, .int (iI (i : Int))), (7, .int (iI (cnS σ (σ 1 0 0).toNat (x % 5) i))), (6, .int (iI ((x / 5) % 900))), (5, .int (iI (x % 5))), (0, .ref (B 5)), (1, .ref nn), (2, .ref am), (3, .ref al), (4, .int (iI x))] → W pP l eE RR sS mM args bB meth cC H locs (324 * i + 18 * q + 0) (1944 * i + 108 * q + 0) (MQ bB (va_Qi (fun (r : Int32) (u : Nat → Nat → Nat) => r = iI 1) (fun u t9 => gP G (A3 G al nn am fl fn fm ++ DW G B u σ) t9.heap ∧ va_D AA (A3 G al nn am fl fn fm ++ DW G B u σ)) AA) args sS 2100 12600 AA) (F0 mM 47 ls []) := by
        refine lp_up ((σ 8 i 0).toNat) ?_ ?_
        · intro   P H locs hP hD hS ls hl
          refine lv_iload F.1 F.2.1 dL_holds_47 (lv_at hl 0 rfl) ?_
          refine lv_aload_n F.1 F.2.1 dL_holds_49 rfl (lv_at hl 10 rfl) ?_
          refine lv_iload F.1 F.2.1 dL_holds_50 (lv_at hl 4 rfl) ?_
          refine k_iald F hK hP 2 rfl i (by omega) (by omega) (by decide) (hmf i (by omega)) dL_holds_52 ?_
          refine k_icmp_ge F (tgt := 131) dL_holds_53 (by decide) (by omega) (by omega) (fun c_29 => ?_) (fun c_29 => absurd c_29 (by omega))
          refine lv_aload_n F.1 F.2.1 dL_holds_131 rfl (lv_at hl 8 rfl) ?_
          refine lv_iload F.1 F.2.1 dL_holds_132 (lv_at hl 4 rfl) ?_
          refine lv_iload F.1 F.2.1 dL_holds_134 (lv_at hl 7 rfl) ?_
          refine j_call F (n := 3) (wr := A3 G al nn am fl fn fm) (B := B) (P := P) (σ := σ) (τ' := σ) (z' := (shV σ i (x % 5))) (mL_shift l hfl G z0 _ B P σ (i : Int) (x % 5) (by omega) (by omega) hI) (shV_an (by omega) rfl (by omega)) rfl gL_holds_L_shift rfl rfl rfl (by decide +kernel) ⟨by rw [hRb.1]; exact Nat.le_of_ble_eq_true rfl, by rw [hRb.2]; exact Nat.le_of_ble_eq_true rfl⟩ hK hP hD hz hAz hS hA rfl rfl hl.1 (Nat.le_of_ble_eq_true rfl) dL_holds_136 ⟨by omega, by omega⟩ (fun P H locs hP hD hS => ?_)
          have hsh := shV_rg hI (i := i) (by omega) (x % 5)
          refine lv_istore (lv' := [(12, .int (iI (shV σ i (x % 5)))), (8, .int (iI 1)), (10, .int (iI (fsS (σ 7 i) ((σ 8 i 0).toNat)))), (11, .int (iI (moS σ i ((σ 8 i 0).toNat)))), (9, .int (iI (i : Int))), (7, .int (iI (cnS σ (σ 1 0 0).toNat (x % 5) i))), (6, .int (iI ((x / 5) % 900))), (5, .int (iI (x % 5))), (0, .ref (B 5)), (1, .ref nn), (2, .ref am), (3, .ref al), (4, .int (iI x))]) F.1 F.2.1 dL_holds_139 hl (by decide) rfl (fun ls hl => ?_)
          refine lv_iload F.1 F.2.1 dL_holds_141 (lv_at hl 5 rfl) ?_
          refine lv_iload F.1 F.2.1 dL_holds_143 (lv_at hl 0 rfl) ?_
          refine k_ldc F (v := -2000000003) (z := -2000000003) (by decide +kernel) (by decide +kernel) dL_holds_145 ?_
          have J158 : ∀ bb : Int, bb = (if shS σ i (σ 1 0 0).toNat (x % 5) 13 = 99 then 0 else shlI 1 (i : Int)) → ∀ (P : Nat → Nat → Nat) (H : Heap) (locs : List Loc), gP G (A3 G al nn am fl fn fm ++ DW G B P σ) H → va_D AA (A3 G al nn am fl fn fm ++ DW G B P σ) → va_S AA sS.heap H locs → ∀ ls : Array Slot, lv_has ls 14 [(12, .int (iI (shV σ i (x % 5)))), (8, .int (iI 1)), (10, .int (iI (fsS (σ 7 i) ((σ 8 i 0).toNat)))), (11, .int (iI (moS σ i ((σ 8 i 0).toNat)))), (9, .int (iI (i : Int))), (7, .int (iI (cnS σ (σ 1 0 0).toNat (x % 5) i))), (6, .int (iI ((x / 5) % 900))), (5, .int (iI (x % 5))), (0, .ref (B 5)), (1, .ref nn), (2, .ref am), (3, .ref al), (4, .int (iI x))] → W pP l eE RR sS mM args bB meth cC H locs (324 * i + 18 * ((σ 8 i 0).toNat) + 6) (1944 * i + 108 * ((σ 8 i 0).toNat) + 36) (MQ bB (va_Qi (fun (r : Int32) (u : Nat → Nat → Nat) => r = iI 1) (fun u t9 => gP G (A3 G al nn am fl fn fm ++ DW G B u σ) t9.heap ∧ va_D AA (A3 G al nn am fl fn fm ++ DW G B u σ)) AA) args sS 2100 12600 AA) (F0 mM 158 ls [.int (iI bb), .int (iI (cnS σ (σ 1 0 0).toNat (x % 5) i))]) := by
            intro bb hj158_0 P H locs hP hD hS ls hl
            subst hj158_0
            refine k_ior F dL_holds_158 ?_
            rw [show ((orI (cnS σ (σ 1 0 0).toNat (x % 5) i) (if shS σ i (σ 1 0 0).toNat (x % 5) 13 = 99 then 0 else shlI 1 (i : Int))) : Int) = (cnS σ (σ 1 0 0).toNat (x % 5) (i + 1)) from rfl]
            refine lv_istore (lv' := [(7, .int (iI (cnS σ (σ 1 0 0).toNat (x % 5) (i + 1)))), (12, .int (iI (shV σ i (x % 5)))), (8, .int (iI 1)), (10, .int (iI (fsS (σ 7 i) ((σ 8 i 0).toNat)))), (11, .int (iI (moS σ i ((σ 8 i 0).toNat)))), (9, .int (iI (i : Int))), (6, .int (iI ((x / 5) % 900))), (5, .int (iI (x % 5))), (0, .ref (B 5)), (1, .ref nn), (2, .ref am), (3, .ref al), (4, .int (iI x))]) F.1 F.2.1 dL_holds_159 hl (by decide) rfl (fun ls hl => ?_)
            refine lv_iload F.1 F.2.1 dL_holds_161 (lv_at hl 2 rfl) ?_
            refine k_if_eq F (tgt := 263) dL_holds_163 (by decide) (by omega) (fun c_30 => absurd c_30 (by omega)) (fun c_30 => ?_)
            refine lv_iload F.1 F.2.1 dL_holds_166 (lv_at hl 3 rfl) ?_
            refine lv_aload_n F.1 F.2.1 dL_holds_168 rfl (lv_at hl 8 rfl) ?_
            refine lv_iload F.1 F.2.1 dL_holds_169 (lv_at hl 5 rfl) ?_
            refine j_call F (n := 2) (wr := A3 G al nn am fl fn fm) (B := B) (P := P) (σ := σ) (τ' := σ) (z' := (fsS (σ 7 i) (σ 8 i 0).toNat)) (mL_faults l hfl G z0 _ B P σ (i : Int) (by omega) hI) ((an_0 (by unfold kPic; (repeat' split) <;> omega)).trans (fsS_alf _ _)) rfl gL_holds_L_faults rfl rfl rfl (by decide +kernel) ⟨by rw [hRb.1]; exact Nat.le_of_ble_eq_true rfl, by rw [hRb.2]; exact Nat.le_of_ble_eq_true rfl⟩ hK hP hD hz hAz hS hA rfl rfl hl.1 (Nat.le_of_ble_eq_true rfl) dL_holds_171 ⟨by omega, by omega⟩ (fun P H locs hP hD hS => ?_)
            refine k_same_ne F (tgt := 263) dL_holds_174 (by decide) ?_
            refine lv_aload_n F.1 F.2.1 dL_holds_177 rfl (lv_at hl 8 rfl) ?_
            refine lv_iload F.1 F.2.1 dL_holds_178 (lv_at hl 5 rfl) ?_
            refine lv_aload_n F.1 F.2.1 dL_holds_180 rfl (lv_at hl 8 rfl) ?_
            refine lv_iload F.1 F.2.1 dL_holds_181 (lv_at hl 5 rfl) ?_
            refine j_call F (n := 2) (wr := A3 G al nn am fl fn fm) (B := B) (P := P) (σ := σ) (τ' := σ) (z' := ((wkq σ i : Nat) : Int)) (mL_weakest l hfl G z0 _ B P σ (i : Int) (by omega) hI (by omega)) (an_0 (by unfold kPic; (repeat' split) <;> omega)) rfl gL_holds_L_weakest rfl rfl rfl (by decide +kernel) ⟨by rw [hRb.1]; exact Nat.le_of_ble_eq_true rfl, by rw [hRb.2]; exact Nat.le_of_ble_eq_true rfl⟩ hK hP hD hz hAz hS hA rfl rfl hl.1 (Nat.le_of_ble_eq_true rfl) dL_holds_183 ⟨by omega, by omega⟩ (fun P H locs hP hD hS => ?_)
            have hwk := wkq_lt (σ := σ) (i := i) h81
            refine j_call F (n := 3) (wr := A3 G al nn am fl fn fm) (B := B) (P := P) (σ := σ) (τ' := σ) (z' := (moS σ i (σ 8 i 0).toNat)) (mL_weakness l hfl G z0 _ B P σ (i : Int) ((wkq σ i : Nat) : Int) (by omega) (by omega) hI (by omega)) ((an_0 (by unfold kFat; simp only [isC, Int.toNat_natCast]; (repeat' split) <;> omega)).trans (moS_wkq hpr0 h81)) rfl gL_holds_L_weakness rfl rfl rfl (by decide +kernel) ⟨by rw [hRb.1]; exact Nat.le_of_ble_eq_true rfl, by rw [hRb.2]; exact Nat.le_of_ble_eq_true rfl⟩ hK hP hD hz hAz hS hA rfl rfl hl.1 (Nat.le_of_ble_eq_true rfl) dL_holds_186 ⟨by omega, by omega⟩ (fun P H locs hP hD hS => ?_)
            refine lv_iload F.1 F.2.1 dL_holds_189 (lv_at hl 4 rfl) ?_
            refine k_same_ne F (tgt := 263) dL_holds_191 (by decide) ?_
            refine lv_iload F.1 F.2.1 dL_holds_194 (lv_at hl 1 rfl) ?_
            refine k_ldc F (v := -2000000003) (z := -2000000003) (by decide +kernel) (by decide +kernel) dL_holds_196 ?_
            have J215 : ∀ (P : Nat → Nat → Nat) (H : Heap) (locs : List Loc), gP G (A3 G al nn am fl fn fm ++ DW G B P σ) H → va_D AA (A3 G al nn am fl fn fm ++ DW G B P σ) → va_S AA sS.heap H locs → ∀ ls : Array Slot, lv_has ls 14 [(7, .int (iI (cnS σ (σ 1 0 0).toNat (x % 5) (i + 1)))), (12, .int (iI (shV σ i (x % 5)))), (8, .int (iI 1)), (10, .int (iI (fsS (σ 7 i) ((σ 8 i 0).toNat)))), (11, .int (iI (moS σ i ((σ 8 i 0).toNat)))), (9, .int (iI (i : Int))), (6, .int (iI ((x / 5) % 900))), (5, .int (iI (x % 5))), (0, .ref (B 5)), (1, .ref nn), (2, .ref am), (3, .ref al), (4, .int (iI x))] → W pP l eE RR sS mM args bB meth cC H locs (324 * i + 18 * ((σ 8 i 0).toNat) + 24) (1944 * i + 108 * ((σ 8 i 0).toNat) + 144) (MQ bB (va_Qi (fun (r : Int32) (u : Nat → Nat → Nat) => r = iI 1) (fun u t9 => gP G (A3 G al nn am fl fn fm ++ DW G B u σ) t9.heap ∧ va_D AA (A3 G al nn am fl fn fm ++ DW G B u σ)) AA) args sS 2100 12600 AA) (F0 mM 215 ls []) := by
              intro  P H locs hP hD hS ls hl
              refine lv_aload_n F.1 F.2.1 dL_holds_215 rfl (lv_at hl 8 rfl) ?_
              refine lv_iload F.1 F.2.1 dL_holds_216 (lv_at hl 5 rfl) ?_
              refine j_call F (n := 2) (wr := A3 G al nn am fl fn fm) (B := B) (P := P) (σ := σ) (τ' := σ) (z' := (dtS σ i (σ 1 0 0).toNat 31)) (mL_dates l hfl G z0 _ B P σ (i : Int) (by omega) hI) (an_0 (by unfold kPic; (repeat' split) <;> omega)) rfl gL_holds_L_dates rfl rfl rfl (by decide +kernel) ⟨by rw [hRb.1]; exact Nat.le_of_ble_eq_true rfl, by rw [hRb.2]; exact Nat.le_of_ble_eq_true rfl⟩ hK hP hD hz hAz hS hA rfl rfl hl.1 (Nat.le_of_ble_eq_true rfl) dL_holds_218 ⟨by omega, by omega⟩ (fun P H locs hP hD hS => ?_)
              have dt0 := dtS_rg σ i (σ 1 0 0).toNat 31
              have dt2 := dt_two σ i (σ 1 0 0).toNat (d := (x % 5)) (by omega)
              refine lv_iload F.1 F.2.1 dL_holds_221 (lv_at hl 1 rfl) ?_
              refine k_ldc F (v := -2000000003) (z := -2000000003) (by decide +kernel) (by decide +kernel) dL_holds_223 ?_
              have J233 : ∀ bq : Int, (0 ≤ bq ∧ bq ≤ (dtS σ i (σ 1 0 0).toNat 31)) → ∀ (P : Nat → Nat → Nat) (H : Heap) (locs : List Loc), gP G (A3 G al nn am fl fn fm ++ DW G B P σ) H → va_D AA (A3 G al nn am fl fn fm ++ DW G B P σ) → va_S AA sS.heap H locs → ∀ ls : Array Slot, lv_has ls 14 [(7, .int (iI (cnS σ (σ 1 0 0).toNat (x % 5) (i + 1)))), (12, .int (iI (shV σ i (x % 5)))), (8, .int (iI 1)), (10, .int (iI (fsS (σ 7 i) ((σ 8 i 0).toNat)))), (11, .int (iI (moS σ i ((σ 8 i 0).toNat)))), (9, .int (iI (i : Int))), (6, .int (iI ((x / 5) % 900))), (5, .int (iI (x % 5))), (0, .ref (B 5)), (1, .ref nn), (2, .ref am), (3, .ref al), (4, .int (iI x))] → W pP l eE RR sS mM args bB meth cC H locs (324 * i + 18 * ((σ 8 i 0).toNat) + 30) (1944 * i + 108 * ((σ 8 i 0).toNat) + 180) (MQ bB (va_Qi (fun (r : Int32) (u : Nat → Nat → Nat) => r = iI 1) (fun u t9 => gP G (A3 G al nn am fl fn fm ++ DW G B u σ) t9.heap ∧ va_D AA (A3 G al nn am fl fn fm ++ DW G B u σ)) AA) args sS 2100 12600 AA) (F0 mM 233 ls [.int (iI bq), .int (iI (dtS σ i (σ 1 0 0).toNat 31))]) := by
                intro bq hj233_0 P H locs hP hD hS ls hl
                refine k_icmp_lt F (tgt := 263) dL_holds_233 (by decide) (by omega) (by omega) (fun c_33 => absurd c_33 (by omega)) (fun c_33 => ?_)
                refine lv_aload_n F.1 F.2.1 dL_holds_236 rfl (lv_at hl 8 rfl) ?_
                refine lv_iload F.1 F.2.1 dL_holds_237 (lv_at hl 5 rfl) ?_
                refine j_call F (n := 2) (wr := A3 G al nn am fl fn fm) (B := B) (P := P) (σ := σ) (τ' := σ) (z' := (dtS σ i (σ 1 0 0).toNat 31)) (mL_dates l hfl G z0 _ B P σ (i : Int) (by omega) hI) (an_0 (by unfold kPic; (repeat' split) <;> omega)) rfl gL_holds_L_dates rfl rfl rfl (by decide +kernel) ⟨by rw [hRb.1]; exact Nat.le_of_ble_eq_true rfl, by rw [hRb.2]; exact Nat.le_of_ble_eq_true rfl⟩ hK hP hD hz hAz hS hA rfl rfl hl.1 (Nat.le_of_ble_eq_true rfl) dL_holds_239 ⟨by omega, by omega⟩ (fun P H locs hP hD hS => ?_)
                refine lv_iload F.1 F.2.1 dL_holds_242 (lv_at hl 1 rfl) ?_
                refine k_ldc F (v := -2000000003) (z := -2000000003) (by decide +kernel) (by decide +kernel) dL_holds_244 ?_
                have J256 : ∀ bp : Int, ((dtS σ i (σ 1 0 0).toNat 31) ≤ bp ∧ bp ≤ 31) → ∀ (P : Nat → Nat → Nat) (H : Heap) (locs : List Loc), gP G (A3 G al nn am fl fn fm ++ DW G B P σ) H → va_D AA (A3 G al nn am fl fn fm ++ DW G B P σ) → va_S AA sS.heap H locs → ∀ ls : Array Slot, lv_has ls 14 [(7, .int (iI (cnS σ (σ 1 0 0).toNat (x % 5) (i + 1)))), (12, .int (iI (shV σ i (x % 5)))), (8, .int (iI 1)), (10, .int (iI (fsS (σ 7 i) ((σ 8 i 0).toNat)))), (11, .int (iI (moS σ i ((σ 8 i 0).toNat)))), (9, .int (iI (i : Int))), (6, .int (iI ((x / 5) % 900))), (5, .int (iI (x % 5))), (0, .ref (B 5)), (1, .ref nn), (2, .ref am), (3, .ref al), (4, .int (iI x))] → W pP l eE RR sS mM args bB meth cC H locs (324 * i + 18 * ((σ 8 i 0).toNat) + 36) (1944 * i + 108 * ((σ 8 i 0).toNat) + 216) (MQ bB (va_Qi (fun (r : Int32) (u : Nat → Nat → Nat) => r = iI 1) (fun u t9 => gP G (A3 G al nn am fl fn fm ++ DW G B u σ) t9.heap ∧ va_D AA (A3 G al nn am fl fn fm ++ DW G B u σ)) AA) args sS 2100 12600 AA) (F0 mM 256 ls [.int (iI bp), .int (iI (dtS σ i (σ 1 0 0).toNat 31))]) := by
                  intro bp hj256_0 P H locs hP hD hS ls hl
                  refine k_icmp_gt F (tgt := 263) dL_holds_256 (by decide) (by omega) (by omega) (fun c_34 => absurd c_34 (by omega)) (fun c_34 => ?_)
                  refine k_iconst F dL_holds_259 ?_
                  refine lv_goto (tgt := 264) F.1 F.2.1 dL_holds_260 (by decide) ?_
                  refine lv_istore (lv' := [(8, .int (iI 1)), (7, .int (iI (cnS σ (σ 1 0 0).toNat (x % 5) (i + 1)))), (12, .int (iI (shV σ i (x % 5)))), (10, .int (iI (fsS (σ 7 i) ((σ 8 i 0).toNat)))), (11, .int (iI (moS σ i ((σ 8 i 0).toNat)))), (9, .int (iI (i : Int))), (6, .int (iI ((x / 5) % 900))), (5, .int (iI (x % 5))), (0, .ref (B 5)), (1, .ref nn), (2, .ref am), (3, .ref al), (4, .int (iI x))]) F.1 F.2.1 dL_holds_264 hl (by decide) rfl (fun ls hl => ?_)
                  refine lv_iinc (v := iI ((i : Int) + 1)) (lv' := [(9, .int (iI ((i : Int) + 1))), (8, .int (iI 1)), (7, .int (iI (cnS σ (σ 1 0 0).toNat (x % 5) (i + 1)))), (12, .int (iI (shV σ i (x % 5)))), (10, .int (iI (fsS (σ 7 i) ((σ 8 i 0).toNat)))), (11, .int (iI (moS σ i ((σ 8 i 0).toNat)))), (6, .int (iI ((x / 5) % 900))), (5, .int (iI (x % 5))), (0, .ref (B 5)), (1, .ref nn), (2, .ref am), (3, .ref al), (4, .int (iI x))]) F.1 F.2.1 dL_holds_266 hl (k := 5) rfl (iI_add _ _) (by decide) rfl (fun ls hl => ?_)
                  refine lv_goto (tgt := 25) F.1 F.2.1 dL_holds_269 (by decide) ?_
                  have e_35 : (((i : Int) + 1) : Int) = (((i + 1) : Nat) : Int) := by omega
                  refine W.widen (k := (324 * (i + 1) + 0)) (n := (1944 * (i + 1) + 0)) (by omega) (by omega) ?_
                  exact ih_25  P _ _ hP hD hS _ (lv_to (lv_sub hl [0, 1, 2, 6, 7, 8, 9, 10, 11, 12] rfl) (congrArg (fun x9 : Int => ([(9, .int (iI x9)), (8, .int (iI 1)), (7, .int (iI (cnS σ (σ 1 0 0).toNat (x % 5) (i + 1)))), (6, .int (iI ((x / 5) % 900))), (5, .int (iI (x % 5))), (0, .ref (B 5)), (1, .ref nn), (2, .ref am), (3, .ref al), (4, .int (iI x))] : List (Nat × Value))) e_35))
                refine k_icmp_ne F (tgt := 254) dL_holds_246 (by decide) (by omega) (by omega) (fun c_36 => ?_) (fun c_36 => ?_)
                · skip
                  refine k_bipush F dL_holds_254 (by decide +kernel) ?_
                  refine W.widen (k := (324 * i + 18 * ((σ 8 i 0).toNat) + 36)) (n := (1944 * i + 108 * ((σ 8 i 0).toNat) + 216)) (by omega) (by omega) ?_
                  exact J256 31 (by omega) P _ _ hP hD hS _ (lv_sub hl [0, 1, 2, 3, 4, 5, 6, 7, 8, 9, 10, 11, 12] rfl)
                · skip
                  refine k_bipush F dL_holds_249 (by decide +kernel) ?_
                  refine lv_goto (tgt := 256) F.1 F.2.1 dL_holds_251 (by decide) ?_
                  refine W.widen (k := (324 * i + 18 * ((σ 8 i 0).toNat) + 36)) (n := (1944 * i + 108 * ((σ 8 i 0).toNat) + 216)) (by omega) (by omega) ?_
                  exact J256 30 (by omega) P _ _ hP hD hS _ (lv_sub hl [0, 1, 2, 3, 4, 5, 6, 7, 8, 9, 10, 11, 12] rfl)
              refine k_icmp_ne F (tgt := 232) dL_holds_225 (by decide) (by omega) (by omega) (fun c_37 => ?_) (fun c_37 => ?_)
              · skip
                refine k_iconst F dL_holds_232 ?_
                refine W.widen (k := (324 * i + 18 * ((σ 8 i 0).toNat) + 30)) (n := (1944 * i + 108 * ((σ 8 i 0).toNat) + 180)) (by omega) (by omega) ?_
                exact J233 1 (by omega) P _ _ hP hD hS _ (lv_sub hl [0, 1, 2, 3, 4, 5, 6, 7, 8, 9, 10, 11, 12] rfl)
              · skip
                refine k_iconst F dL_holds_228 ?_
                refine lv_goto (tgt := 233) F.1 F.2.1 dL_holds_229 (by decide) ?_
                refine W.widen (k := (324 * i + 18 * ((σ 8 i 0).toNat) + 30)) (n := (1944 * i + 108 * ((σ 8 i 0).toNat) + 180)) (by omega) (by omega) ?_
                exact J233 0 (by omega) P _ _ hP hD hS _ (lv_sub hl [0, 1, 2, 3, 4, 5, 6, 7, 8, 9, 10, 11, 12] rfl)
            refine k_icmp_eq F (tgt := 215) dL_holds_198 (by decide) (by omega) (by omega) (fun c_38 => ?_) (fun c_38 => ?_)
            · skip
              refine W.widen (k := (324 * i + 18 * ((σ 8 i 0).toNat) + 24)) (n := (1944 * i + 108 * ((σ 8 i 0).toNat) + 144)) (by omega) (by omega) ?_
              exact J215  P _ _ hP hD hS _ (lv_sub hl [0, 1, 2, 3, 4, 5, 6, 7, 8, 9, 10, 11, 12] rfl)
            · skip
              refine lv_iload F.1 F.2.1 dL_holds_201 (lv_at hl 1 rfl) ?_
              refine k_bipush F dL_holds_203 (by decide +kernel) ?_
              refine k_icmp_lt F (tgt := 263) dL_holds_205 (by decide) (by omega) (by omega) (fun c_39 => absurd c_39 (by omega)) (fun c_39 => ?_)
              refine lv_iload F.1 F.2.1 dL_holds_208 (lv_at hl 1 rfl) ?_
              refine k_bipush F dL_holds_210 (by decide +kernel) ?_
              refine k_icmp_gt F (tgt := 263) dL_holds_212 (by decide) (by omega) (by omega) (fun c_40 => absurd c_40 (by omega)) (fun c_40 => ?_)
              refine W.widen (k := (324 * i + 18 * ((σ 8 i 0).toNat) + 24)) (n := (1944 * i + 108 * ((σ 8 i 0).toNat) + 144)) (by omega) (by omega) ?_
              exact J215  P _ _ hP hD hS _ (lv_sub hl [0, 1, 2, 3, 4, 5, 6, 7, 8, 9, 10, 11, 12] rfl)
          refine k_icmp_ne F (tgt := 154) dL_holds_147 (by decide) (by omega) (by omega) (fun c_41 => ?_) (fun c_41 => ?_)
          · skip
            refine k_iconst F dL_holds_154 ?_
            refine lv_iload F.1 F.2.1 dL_holds_155 (lv_at hl 4 rfl) ?_
            refine k_ishl F dL_holds_157 ?_
            refine W.widen (k := (324 * i + 18 * ((σ 8 i 0).toNat) + 6)) (n := (1944 * i + 108 * ((σ 8 i 0).toNat) + 36)) (by omega) (by omega) ?_
            exact J158 (shlI 1 (i : Int)) (by first | rw [if_pos (by omega)] | rw [if_neg (by omega)]) P _ _ hP hD hS _ (lv_sub hl [0, 1, 2, 3, 4, 5, 6, 7, 8, 9, 10, 11, 12] rfl)
          · skip
            refine k_iconst F dL_holds_150 ?_
            refine lv_goto (tgt := 158) F.1 F.2.1 dL_holds_151 (by decide) ?_
            refine W.widen (k := (324 * i + 18 * ((σ 8 i 0).toNat) + 6)) (n := (1944 * i + 108 * ((σ 8 i 0).toNat) + 36)) (by omega) (by omega) ?_
            exact J158 0 (by first | rw [if_pos (by omega)] | rw [if_neg (by omega)]) P _ _ hP hD hS _ (lv_sub hl [0, 1, 2, 3, 4, 5, 6, 7, 8, 9, 10, 11, 12] rfl)
        · intro q hk9_47 ih_47   P H locs hP hD hS ls hl
          refine lv_iload F.1 F.2.1 dL_holds_47 (lv_at hl 0 rfl) ?_
          refine lv_aload_n F.1 F.2.1 dL_holds_49 rfl (lv_at hl 10 rfl) ?_
          refine lv_iload F.1 F.2.1 dL_holds_50 (lv_at hl 4 rfl) ?_
          refine k_iald F hK hP 2 rfl i (by omega) (by omega) (by decide) (hmf i (by omega)) dL_holds_52 ?_
          refine k_icmp_ge F (tgt := 131) dL_holds_53 (by decide) (by omega) (by omega) (fun c_42 => absurd c_42 (by omega)) (fun c_42 => ?_)
          refine lv_aload_n F.1 F.2.1 dL_holds_56 rfl (lv_at hl 8 rfl) ?_
          refine lv_iload F.1 F.2.1 dL_holds_57 (lv_at hl 4 rfl) ?_
          refine lv_iload F.1 F.2.1 dL_holds_59 (lv_at hl 0 rfl) ?_
          refine j_call F (n := 3) (wr := A3 G al nn am fl fn fm) (B := B) (P := P) (σ := σ) (τ' := σ) (z' := (mvf (σ 7 i) q)) (mL_faultsAt l hfl G z0 _ B P σ (i : Int) (q : Int) (by omega) (by omega) hI) (an_0 (by unfold kFat; simp only [isC, Int.toNat_natCast]; (repeat' split) <;> omega)) rfl gL_holds_L_faultsAt rfl rfl rfl (by decide +kernel) ⟨by rw [hRb.1]; exact Nat.le_of_ble_eq_true rfl, by rw [hRb.2]; exact Nat.le_of_ble_eq_true rfl⟩ hK hP hD hz hAz hS hA rfl rfl hl.1 (Nat.le_of_ble_eq_true rfl) dL_holds_61 ⟨by omega, by omega⟩ (fun P H locs hP hD hS => ?_)
          have r22 := mvf_22 (σ 7 i) q
          refine lv_istore (lv' := [(13, .int (iI (mvf (σ 7 i) q))), (12, .int (iI (q : Int))), (8, .int (iI 1)), (10, .int (iI (fsS (σ 7 i) q))), (11, .int (iI (moS σ i q))), (9, .int (iI (i : Int))), (7, .int (iI (cnS σ (σ 1 0 0).toNat (x % 5) i))), (6, .int (iI ((x / 5) % 900))), (5, .int (iI (x % 5))), (0, .ref (B 5)), (1, .ref nn), (2, .ref am), (3, .ref al), (4, .int (iI x))]) F.1 F.2.1 dL_holds_64 hl (by decide) rfl (fun ls hl => ?_)
          refine lv_iload F.1 F.2.1 dL_holds_66 (lv_at hl 3 rfl) ?_
          refine lv_iload F.1 F.2.1 dL_holds_68 (lv_at hl 0 rfl) ?_
          refine k_iadd F rfl dL_holds_70 ?_
          refine lv_istore (lv' := [(10, .int (iI ((fsS (σ 7 i) q) + (mvf (σ 7 i) q)))), (13, .int (iI (mvf (σ 7 i) q))), (12, .int (iI (q : Int))), (8, .int (iI 1)), (11, .int (iI (moS σ i q))), (9, .int (iI (i : Int))), (7, .int (iI (cnS σ (σ 1 0 0).toNat (x % 5) i))), (6, .int (iI ((x / 5) % 900))), (5, .int (iI (x % 5))), (0, .ref (B 5)), (1, .ref nn), (2, .ref am), (3, .ref al), (4, .int (iI x))]) F.1 F.2.1 dL_holds_71 hl (by decide) rfl (fun ls hl => ?_)
          refine lv_aload_n F.1 F.2.1 dL_holds_73 rfl (lv_at hl 9 rfl) ?_
          refine lv_iload F.1 F.2.1 dL_holds_74 (lv_at hl 5 rfl) ?_
          refine lv_iload F.1 F.2.1 dL_holds_76 (lv_at hl 2 rfl) ?_
          refine j_call F (n := 3) (wr := A3 G al nn am fl fn fm) (B := B) (P := P) (σ := σ) (τ' := σ) (z' := (wkS σ i q)) (mL_weakness l hfl G z0 _ B P σ (i : Int) (q : Int) (by omega) (by omega) hI (by omega)) (an_0 (by unfold kFat; simp only [isC, Int.toNat_natCast]; (repeat' split) <;> omega)) rfl gL_holds_L_weakness rfl rfl rfl (by decide +kernel) ⟨by rw [hRb.1]; exact Nat.le_of_ble_eq_true rfl, by rw [hRb.2]; exact Nat.le_of_ble_eq_true rfl⟩ hK hP hD hz hAz hS hA rfl rfl hl.1 (Nat.le_of_ble_eq_true rfl) dL_holds_78 ⟨by omega, by omega⟩ (fun P H locs hP hD hS => ?_)
          have rwk := wkS_rg (hpr0 q)
          have rmo := moS_rg hpr0 q
          refine lv_iload F.1 F.2.1 dL_holds_81 (lv_at hl 4 rfl) ?_
          have J99 : ∀ mm : Int, mm = (moS σ i (q + 1)) → ∀ (P : Nat → Nat → Nat) (H : Heap) (locs : List Loc), gP G (A3 G al nn am fl fn fm ++ DW G B P σ) H → va_D AA (A3 G al nn am fl fn fm ++ DW G B P σ) → va_S AA sS.heap H locs → ∀ ls : Array Slot, lv_has ls 14 [(10, .int (iI ((fsS (σ 7 i) q) + (mvf (σ 7 i) q)))), (13, .int (iI (mvf (σ 7 i) q))), (12, .int (iI (q : Int))), (8, .int (iI 1)), (11, .int (iI (moS σ i q))), (9, .int (iI (i : Int))), (7, .int (iI (cnS σ (σ 1 0 0).toNat (x % 5) i))), (6, .int (iI ((x / 5) % 900))), (5, .int (iI (x % 5))), (0, .ref (B 5)), (1, .ref nn), (2, .ref am), (3, .ref al), (4, .int (iI x))] → W pP l eE RR sS mM args bB meth cC H locs (324 * i + 18 * q + 18) (1944 * i + 108 * q + 108) (MQ bB (va_Qi (fun (r : Int32) (u : Nat → Nat → Nat) => r = iI 1) (fun u t9 => gP G (A3 G al nn am fl fn fm ++ DW G B u σ) t9.heap ∧ va_D AA (A3 G al nn am fl fn fm ++ DW G B u σ)) AA) args sS 2100 12600 AA) (F0 mM 99 ls [.int (iI mm)]) := by
            intro mm hj99_0 P H locs hP hD hS ls hl
            subst hj99_0
            refine lv_istore (lv' := [(11, .int (iI (moS σ i (q + 1)))), (10, .int (iI ((fsS (σ 7 i) q) + (mvf (σ 7 i) q)))), (13, .int (iI (mvf (σ 7 i) q))), (12, .int (iI (q : Int))), (8, .int (iI 1)), (9, .int (iI (i : Int))), (7, .int (iI (cnS σ (σ 1 0 0).toNat (x % 5) i))), (6, .int (iI ((x / 5) % 900))), (5, .int (iI (x % 5))), (0, .ref (B 5)), (1, .ref nn), (2, .ref am), (3, .ref al), (4, .int (iI x))]) F.1 F.2.1 dL_holds_99 hl (by decide) rfl (fun ls hl => ?_)
            refine lv_iload F.1 F.2.1 dL_holds_101 (lv_at hl 4 rfl) ?_
            refine k_if_eq F (tgt := 122) dL_holds_103 (by decide) (by omega) (fun c_43 => absurd c_43 (by omega)) (fun c_43 => ?_)
            refine lv_iload F.1 F.2.1 dL_holds_106 (lv_at hl 2 rfl) ?_
            refine k_if_lt F (tgt := 122) dL_holds_108 (by decide) (by omega) (fun c_44 => absurd c_44 (by omega)) (fun c_44 => ?_)
            refine lv_iload F.1 F.2.1 dL_holds_111 (lv_at hl 2 rfl) ?_
            refine k_bipush F dL_holds_113 (by decide +kernel) ?_
            refine k_icmp_gt F (tgt := 122) dL_holds_115 (by decide) (by omega) (by omega) (fun c_45 => absurd c_45 (by omega)) (fun c_45 => ?_)
            refine k_iconst F dL_holds_118 ?_
            refine lv_goto (tgt := 123) F.1 F.2.1 dL_holds_119 (by decide) ?_
            refine lv_istore (lv' := [(8, .int (iI 1)), (11, .int (iI (moS σ i (q + 1)))), (10, .int (iI ((fsS (σ 7 i) q) + (mvf (σ 7 i) q)))), (13, .int (iI (mvf (σ 7 i) q))), (12, .int (iI (q : Int))), (9, .int (iI (i : Int))), (7, .int (iI (cnS σ (σ 1 0 0).toNat (x % 5) i))), (6, .int (iI ((x / 5) % 900))), (5, .int (iI (x % 5))), (0, .ref (B 5)), (1, .ref nn), (2, .ref am), (3, .ref al), (4, .int (iI x))]) F.1 F.2.1 dL_holds_123 hl (by decide) rfl (fun ls hl => ?_)
            refine lv_iinc (v := iI ((q : Int) + 1)) (lv' := [(12, .int (iI ((q : Int) + 1))), (8, .int (iI 1)), (11, .int (iI (moS σ i (q + 1)))), (10, .int (iI ((fsS (σ 7 i) q) + (mvf (σ 7 i) q)))), (13, .int (iI (mvf (σ 7 i) q))), (9, .int (iI (i : Int))), (7, .int (iI (cnS σ (σ 1 0 0).toNat (x % 5) i))), (6, .int (iI ((x / 5) % 900))), (5, .int (iI (x % 5))), (0, .ref (B 5)), (1, .ref nn), (2, .ref am), (3, .ref al), (4, .int (iI x))]) F.1 F.2.1 dL_holds_125 hl (k := 4) rfl (iI_add _ _) (by decide) rfl (fun ls hl => ?_)
            refine lv_goto (tgt := 47) F.1 F.2.1 dL_holds_128 (by decide) ?_
            have e_46 : (((q : Int) + 1) : Int) = (((q + 1) : Nat) : Int) := by omega
            have e_47 : (((fsS (σ 7 i) q) + (mvf (σ 7 i) q)) : Int) = (fsS (σ 7 i) (q + 1)) := rfl
            refine W.widen (k := (324 * i + 18 * (q + 1) + 0)) (n := (1944 * i + 108 * (q + 1) + 0)) (by omega) (by omega) ?_
            exact ih_47  P _ _ hP hD hS _ (lv_to (lv_to (lv_sub hl [0, 1, 3, 2, 5, 6, 7, 8, 9, 10, 11, 12, 13] rfl) (congrArg (fun x9 : Int => ([(12, .int (iI x9)), (8, .int (iI 1)), (10, .int (iI ((fsS (σ 7 i) q) + (mvf (σ 7 i) q)))), (11, .int (iI (moS σ i (q + 1)))), (9, .int (iI (i : Int))), (7, .int (iI (cnS σ (σ 1 0 0).toNat (x % 5) i))), (6, .int (iI ((x / 5) % 900))), (5, .int (iI (x % 5))), (0, .ref (B 5)), (1, .ref nn), (2, .ref am), (3, .ref al), (4, .int (iI x))] : List (Nat × Value))) e_46)) (congrArg (fun x9 : Int => ([(12, .int (iI (((q + 1) : Nat) : Int))), (8, .int (iI 1)), (10, .int (iI x9)), (11, .int (iI (moS σ i (q + 1)))), (9, .int (iI (i : Int))), (7, .int (iI (cnS σ (σ 1 0 0).toNat (x % 5) i))), (6, .int (iI ((x / 5) % 900))), (5, .int (iI (x % 5))), (0, .ref (B 5)), (1, .ref nn), (2, .ref am), (3, .ref al), (4, .int (iI x))] : List (Nat × Value))) e_47))
          refine k_icmp_le F (tgt := 97) dL_holds_83 (by decide) (by omega) (by omega) (fun c_48 => ?_) (fun c_48 => ?_)
          · skip
            refine lv_iload F.1 F.2.1 dL_holds_97 (lv_at hl 4 rfl) ?_
            refine W.widen (k := (324 * i + 18 * q + 18)) (n := (1944 * i + 108 * q + 108)) (by omega) (by omega) ?_
            exact J99 (moS σ i q) (by rw [moS_s]; first | rw [if_pos (by omega)] | rw [if_neg (by omega)]) P _ _ hP hD hS _ (lv_sub hl [0, 1, 2, 3, 4, 5, 6, 7, 8, 9, 10, 11, 12, 13] rfl)
          · skip
            refine lv_aload_n F.1 F.2.1 dL_holds_86 rfl (lv_at hl 9 rfl) ?_
            refine lv_iload F.1 F.2.1 dL_holds_87 (lv_at hl 5 rfl) ?_
            refine lv_iload F.1 F.2.1 dL_holds_89 (lv_at hl 2 rfl) ?_
            refine j_call F (n := 3) (wr := A3 G al nn am fl fn fm) (B := B) (P := P) (σ := σ) (τ' := σ) (z' := (wkS σ i q)) (mL_weakness l hfl G z0 _ B P σ (i : Int) (q : Int) (by omega) (by omega) hI (by omega)) (an_0 (by unfold kFat; simp only [isC, Int.toNat_natCast]; (repeat' split) <;> omega)) rfl gL_holds_L_weakness rfl rfl rfl (by decide +kernel) ⟨by rw [hRb.1]; exact Nat.le_of_ble_eq_true rfl, by rw [hRb.2]; exact Nat.le_of_ble_eq_true rfl⟩ hK hP hD hz hAz hS hA rfl rfl hl.1 (Nat.le_of_ble_eq_true rfl) dL_holds_91 ⟨by omega, by omega⟩ (fun P H locs hP hD hS => ?_)
            refine lv_goto (tgt := 99) F.1 F.2.1 dL_holds_94 (by decide) ?_
            refine W.widen (k := (324 * i + 18 * q + 18)) (n := (1944 * i + 108 * q + 108)) (by omega) (by omega) ?_
            exact J99 (wkS σ i q) (by rw [moS_s]; first | rw [if_pos (by omega)] | rw [if_neg (by omega)]) P _ _ hP hD hS _ (lv_sub hl [0, 1, 2, 3, 4, 5, 6, 7, 8, 9, 10, 11, 12, 13] rfl)
      have e_49 : (0 : Int) = ((0 : Nat) : Int) := rfl
      have e_50 : (0 : Int) = (fsS (σ 7 i) 0) := rfl
      have e_51 : (0 : Int) = (moS σ i 0) := rfl
      refine W.widen (k := (324 * i + 18 * 0 + 0)) (n := (1944 * i + 108 * 0 + 0)) (by omega) (by omega) ?_
      exact L47 0 (Nat.zero_le _)  P _ _ hP hD hS _ (lv_to (lv_to (lv_to (lv_sub hl [0, 4, 2, 1, 3, 5, 6, 7, 8, 9, 10, 11, 12] rfl) (congrArg (fun x9 : Int => ([(12, .int (iI x9)), (8, .int (iI 1)), (10, .int (iI 0)), (11, .int (iI 0)), (9, .int (iI (i : Int))), (7, .int (iI (cnS σ (σ 1 0 0).toNat (x % 5) i))), (6, .int (iI ((x / 5) % 900))), (5, .int (iI (x % 5))), (0, .ref (B 5)), (1, .ref nn), (2, .ref am), (3, .ref al), (4, .int (iI x))] : List (Nat × Value))) e_49)) (congrArg (fun x9 : Int => ([(12, .int (iI ((0 : Nat) : Int))), (8, .int (iI 1)), (10, .int (iI x9)), (11, .int (iI 0)), (9, .int (iI (i : Int))), (7, .int (iI (cnS σ (σ 1 0 0).toNat (x % 5) i))), (6, .int (iI ((x / 5) % 900))), (5, .int (iI (x % 5))), (0, .ref (B 5)), (1, .ref nn), (2, .ref am), (3, .ref al), (4, .int (iI x))] : List (Nat × Value))) e_50)) (congrArg (fun x9 : Int => ([(12, .int (iI ((0 : Nat) : Int))), (8, .int (iI 1)), (10, .int (iI (fsS (σ 7 i) 0))), (11, .int (iI x9)), (9, .int (iI (i : Int))), (7, .int (iI (cnS σ (σ 1 0 0).toNat (x % 5) i))), (6, .int (iI ((x / 5) % 900))), (5, .int (iI (x % 5))), (0, .ref (B 5)), (1, .ref nn), (2, .ref am), (3, .ref al), (4, .int (iI x))] : List (Nat × Value))) e_51))
  have e_52 : (0 : Int) = ((0 : Nat) : Int) := rfl
  have e_53 : (0 : Int) = (cnS σ (σ 1 0 0).toNat (x % 5) 0) := rfl
  refine W.widen (k := (324 * 0 + 0)) (n := (1944 * 0 + 0)) (by omega) (by omega) ?_
  exact L25 0 (Nat.zero_le _)  P _ _ hP hD hS _ (lv_to (lv_to (lv_sub hl [0, 1, 2, 3, 4, 5, 6, 7, 8, 9] rfl) (congrArg (fun x9 : Int => ([(9, .int (iI x9)), (8, .int (iI 1)), (7, .int (iI 0)), (6, .int (iI ((x / 5) % 900))), (5, .int (iI (x % 5))), (0, .ref (B 5)), (1, .ref nn), (2, .ref am), (3, .ref al), (4, .int (iI x))] : List (Nat × Value))) e_52)) (congrArg (fun x9 : Int => ([(9, .int (iI ((0 : Nat) : Int))), (8, .int (iI 1)), (7, .int (iI x9)), (6, .int (iI ((x / 5) % 900))), (5, .int (iI (x % 5))), (0, .ref (B 5)), (1, .ref nn), (2, .ref am), (3, .ref al), (4, .int (iI x))] : List (Nat × Value))) e_53))
