set_option maxHeartbeats 16000000 in
set_option maxRecDepth 100000 in
theorem law_body {pP : Program} {l : Launch} {eE : Env} {RR : Room} {sS : State} {mM : MethodId} {args : Array Value} {bB : List Frame} {meth : Method} {cC : Code} {QQ : State → Prop} {AA : Nat → Prop} (F : CallFix pP mM cC cL_law 13 sS args wsL_law RL) (hfl : l.stackTraces = false) (hRf : 12 ≤ RR.frames ∧ 400 ≤ RR.locals) (hRc : 260000 ≤ RR.cells ∧ 1600000 ≤ RR.slots) {G : gT} {B B2 : Nat → Nat} {nn am al b L z0 : Nat} {xs : Nat → Int32} (hX : va_X b L xs sS sS.heap) (hbl : b < sS.heap.size) (hbA : ¬ AA b) (hL : L ≤ 260) (hK : gK G sS) (hz : lz z0 sS) (hAz : ∀ q, AA q → z0 ≤ q) (hA : ∀ q, sS.heap.size ≤ q → AA q)
    (hend : ∀ (H : Heap) (locs : List Loc) (ls : Array Slot) (cells slots : Nat), cells ≤ 260000 → slots ≤ 1600000 → va_S AA sS.heap H locs → W pP l eE RR sS mM args bB meth cC H locs cells slots QQ (F0 mM 533 ls [.int (iI 1)])) (st : Int) (hst : 0 ≤ st ∧ st < 2147483648) (P P2 : Nat → Nat → Nat) {H : Heap} {locs : List Loc}
    (hP : gP G (A1 G al (fun _ => 0) ++ (A2 G nn am (fun _ => 0) (fun _ => 0) ++ (DW G B P (fun _ _ _ => 0) ++ DW G B2 P2 (fun _ _ _ => 0)))) H) (hD : va_D AA (A1 G al (fun _ => 0) ++ (A2 G nn am (fun _ => 0) (fun _ => 0) ++ (DW G B P (fun _ _ _ => 0) ++ DW G B2 P2 (fun _ _ _ => 0))))) (hS : va_S AA sS.heap H locs) {ls : Array Slot} (hl : lv_has ls 13 [(5, .ref al), (4, .ref am), (3, .ref nn), (2, .ref (B2 5)), (1, .ref (B 5)), (0, .ref b)]) : W pP l eE RR sS mM args bB meth cC H locs 100 1000 QQ (F0 mM 37 ls [.int (iI st)]) := by
  refine lv_istore (lv' := [(6, .int (iI st)), (5, .ref al), (4, .ref am), (3, .ref nn), (2, .ref (B2 5)), (1, .ref (B 5)), (0, .ref b)]) F.1 F.2.1 dL_law_37 hl (by decide) rfl (fun ls hl => ?_)
  refine lv_iload F.1 F.2.1 dL_law_39 (lv_at hl 0 rfl) ?_
  obtain ⟨u, hu9⟩ : ∃ u, st % 7 = u := ⟨_, rfl⟩
  have hu : 0 ≤ u ∧ u ≤ 6 := by omega
  obtain ⟨th, hth⟩ : ∃ th : Nat, 16 + ((st / 7) % 29) = (th : Int) := ⟨(16 + ((st / 7) % 29)).toNat, by omega⟩
  refine k_bipush F dL_law_41 (by decide +kernel) ?_
  refine k_rem F (by omega) (by omega) dL_law_43 ?_
  rw [show ((st % 7) : Int) = u from hu9]
  refine lv_istore (lv' := [(7, .int (iI u)), (6, .int (iI st)), (5, .ref al), (4, .ref am), (3, .ref nn), (2, .ref (B2 5)), (1, .ref (B 5)), (0, .ref b)]) F.1 F.2.1 dL_law_44 hl (by decide) rfl (fun ls hl => ?_)
  refine k_bipush F dL_law_46 (by decide +kernel) ?_
  refine lv_iload F.1 F.2.1 dL_law_48 (lv_at hl 1 rfl) ?_
  refine k_bipush F dL_law_50 (by decide +kernel) ?_
  refine k_div F (by omega) (by omega) dL_law_52 ?_
  refine k_bipush F dL_law_53 (by decide +kernel) ?_
  refine k_rem F (by omega) (by omega) dL_law_55 ?_
  refine k_iadd F rfl dL_law_56 ?_
  rw [show ((16 + ((st / 7) % 29)) : Int) = (th : Int) from hth]
  refine lv_istore (lv' := [(8, .int (iI (th : Int))), (7, .int (iI u)), (6, .int (iI st)), (5, .ref al), (4, .ref am), (3, .ref nn), (2, .ref (B2 5)), (1, .ref (B 5)), (0, .ref b)]) F.1 F.2.1 dL_law_57 hl (by decide) rfl (fun ls hl => ?_)
  refine k_iconst F dL_law_59 ?_
  refine lv_istore (lv' := [(9, .int (iI 1)), (8, .int (iI (th : Int))), (7, .int (iI u)), (6, .int (iI st)), (5, .ref al), (4, .ref am), (3, .ref nn), (2, .ref (B2 5)), (1, .ref (B 5)), (0, .ref b)]) F.1 F.2.1 dL_law_60 hl (by decide) rfl (fun ls hl => ?_)
  refine k_iconst F dL_law_62 ?_
  refine lv_istore (lv' := [(10, .int (iI 0)), (9, .int (iI 1)), (8, .int (iI (th : Int))), (7, .int (iI u)), (6, .int (iI st)), (5, .ref al), (4, .ref am), (3, .ref nn), (2, .ref (B2 5)), (1, .ref (B 5)), (0, .ref b)]) F.1 F.2.1 dL_law_63 hl (by decide) rfl (fun ls hl => ?_)
  have L65 : ∀ i : Nat, i ≤ th → ∀ (σ τ : Sg) (fn fm fl : Nat → Int), Tw u σ τ → Jv σ i → Jv τ i → Arr fn fm fl σ → ∀ (P : Nat → Nat → Nat) (P2 : Nat → Nat → Nat) (H : Heap) (locs : List Loc), gP G (A1 G al fl ++ (A2 G nn am fn fm ++ (DW G B P σ ++ DW G B2 P2 τ))) H → va_D AA (A1 G al fl ++ (A2 G nn am fn fm ++ (DW G B P σ ++ DW G B2 P2 τ))) → va_S AA sS.heap H locs → ∀ ls : Array Slot, lv_has ls 13 [(10, .int (iI (i : Int))), (9, .int (iI 1)), (8, .int (iI (th : Int))), (7, .int (iI u)), (6, .int (iI st)), (5, .ref al), (4, .ref am), (3, .ref nn), (2, .ref (B2 5)), (1, .ref (B 5)), (0, .ref b)] → W pP l eE RR sS mM args bB meth cC H locs (5452 * i + 100) (33840 * i + 1000) QQ (F0 mM 65 ls []) := by
    refine lp_up (th) ?_ ?_
    · intro σ τ fn fm fl hl65_0 hl65_1 hl65_2 hl65_3 P P2 H locs hP hD hS ls hl
      refine lv_iload F.1 F.2.1 dL_law_65 (lv_at hl 0 rfl) ?_
      refine lv_iload F.1 F.2.1 dL_law_67 (lv_at hl 2 rfl) ?_
      refine k_icmp_ge F (tgt := 426) dL_law_69 (by decide) (by omega) (by omega) (fun c_1 => ?_) (fun c_1 => absurd c_1 (by omega))
      refine lv_iload F.1 F.2.1 dL_law_426 (lv_at hl 1 rfl) ?_
      refine k_if_eq F (tgt := 532) dL_law_428 (by decide) (by omega) (fun c_2 => absurd c_2 (by omega)) (fun c_2 => ?_)
      refine lv_aload_n F.1 F.2.1 dL_law_431 rfl (lv_at hl 9 rfl) ?_
      refine lv_aload_n F.1 F.2.1 dL_law_432 rfl (lv_at hl 8 rfl) ?_
      refine lv_aload_n F.1 F.2.1 dL_law_433 rfl (lv_at hl 7 rfl) ?_
      refine lv_aload F.1 F.2.1 dL_law_434 (lv_at hl 6 rfl) ?_
      refine lv_iload F.1 F.2.1 dL_law_436 (lv_at hl 3 rfl) ?_
      refine lv_iload F.1 F.2.1 dL_law_438 (lv_at hl 4 rfl) ?_
      refine k_bipush F dL_law_440 (by decide +kernel) ?_
      refine k_div F (by omega) (by omega) dL_law_442 ?_
      refine q_call F (n := 6) (w := A2 G nn am fn fm ++ (DW G B P σ ++ DW G B2 P2 τ)) (wr := A1 G al fl) (wa := A1 G al fl ++ (A2 G nn am fn fm ++ (DW G B P σ ++ DW G B2 P2 τ))) (S := (Nat → Nat → Nat) × (Nat → Nat → Nat)) (W2 := fun v => A2 G nn am fn fm ++ (DW G B v.1 σ ++ DW G B2 v.2 τ)) (wb := fun v => A1 G al fl ++ (A2 G nn am fn fm ++ (DW G B v.1 σ ++ DW G B2 v.2 τ))) (mL_alike l hfl G z0 _ B B2 P P2 σ τ nn am fn fm u (st / 11) (by omega) (by omega) hl65_1 hl65_2 (by omega) (by omega) hl65_0 hl65_3.1 hl65_3.2.1) gL_law_L_alike rfl rfl rfl (by decide +kernel) ⟨Nat.le_trans (Nat.le_of_ble_eq_true rfl) hRf.1, Nat.le_trans (Nat.le_of_ble_eq_true rfl) hRf.2⟩ hK hP hD (wpC _ _) (fun _ => (wpC _ _).symm) hz hAz hS hA rfl rfl hl.1 (Nat.le_of_ble_eq_true rfl) dL_law_443 ⟨by omega, by omega⟩ (fun r9 v H locs hpost hP hD hS => ?_)
      obtain ⟨P, P2⟩ := v
      subst hpost
      have hP : gP G (A1 G al fl ++ (A2 G nn am fn fm ++ (DW G B P σ ++ DW G B2 P2 τ))) H := hP
      have hD : va_D AA (A1 G al fl ++ (A2 G nn am fn fm ++ (DW G B P σ ++ DW G B2 P2 τ))) := hD
      refine k_if_eq F (tgt := 532) dL_law_446 (by decide) (by omega) (fun c_3 => absurd c_3 (by omega)) (fun c_3 => ?_)
      refine lv_aload_n F.1 F.2.1 dL_law_449 rfl (lv_at hl 9 rfl) ?_
      refine lv_aload_n F.1 F.2.1 dL_law_450 rfl (lv_at hl 7 rfl) ?_
      refine lv_aload F.1 F.2.1 dL_law_451 (lv_at hl 6 rfl) ?_
      refine lv_aload F.1 F.2.1 dL_law_453 (lv_at hl 5 rfl) ?_
      refine lv_iload F.1 F.2.1 dL_law_455 (lv_at hl 4 rfl) ?_
      refine k_bipush F dL_law_457 (by decide +kernel) ?_
      refine k_div F (by omega) (by omega) dL_law_459 ?_
      refine q_call F (n := 5) (w := A3 G al nn am fl fn fm ++ DW G B P σ) (wr := DW G B2 P2 τ) (wa := A1 G al fl ++ (A2 G nn am fn fm ++ (DW G B P σ ++ DW G B2 P2 τ))) (S := Nat → Nat → Nat) (W2 := fun v => A3 G al nn am fl fn fm ++ DW G B v σ) (wb := fun v => A1 G al fl ++ (A2 G nn am fn fm ++ (DW G B v σ ++ DW G B2 P2 τ))) (mL_holds l hfl G z0 _ B P σ al nn am fl fn fm (st / 13) (by omega) hl65_1 (by omega) hl65_3.1 hl65_3.2.1 hl65_3.2.2) gL_law_L_holds rfl rfl rfl (by decide +kernel) ⟨Nat.le_trans (Nat.le_of_ble_eq_true rfl) hRf.1, Nat.le_trans (Nat.le_of_ble_eq_true rfl) hRf.2⟩ hK hP hD (wpE _ _ _ _) (fun v => (wpE (A1 G al fl) (A2 G nn am fn fm) (DW G B v σ) (DW G B2 P2 τ)).symm) hz hAz hS hA rfl rfl hl.1 (Nat.le_of_ble_eq_true rfl) dL_law_460 ⟨by omega, by omega⟩ (fun r9 v H locs hpost hP hD hS => ?_)
      obtain ⟨P, hv9⟩ : ∃ v9, v9 = v := ⟨v, rfl⟩
      rw [← hv9] at hP hD
      subst hpost
      have hP : gP G (A1 G al fl ++ (A2 G nn am fn fm ++ (DW G B P σ ++ DW G B2 P2 τ))) H := hP
      have hD : va_D AA (A1 G al fl ++ (A2 G nn am fn fm ++ (DW G B P σ ++ DW G B2 P2 τ))) := hD
      refine k_if_eq F (tgt := 532) dL_law_463 (by decide) (by omega) (fun c_4 => absurd c_4 (by omega)) (fun c_4 => ?_)
      refine lv_aload_n F.1 F.2.1 dL_law_466 rfl (lv_at hl 9 rfl) ?_
      refine lv_aload_n F.1 F.2.1 dL_law_467 rfl (lv_at hl 7 rfl) ?_
      refine lv_aload F.1 F.2.1 dL_law_468 (lv_at hl 6 rfl) ?_
      refine lv_iload F.1 F.2.1 dL_law_470 (lv_at hl 4 rfl) ?_
      refine k_bipush F dL_law_472 (by decide +kernel) ?_
      refine k_div F (by omega) (by omega) dL_law_474 ?_
      refine q_call F (n := 4) (w := A2 G nn am fn fm ++ DW G B P σ) (wr := A1 G al fl ++ DW G B2 P2 τ) (wa := A1 G al fl ++ (A2 G nn am fn fm ++ (DW G B P σ ++ DW G B2 P2 τ))) (S := Nat → Nat → Nat) (W2 := fun v => A2 G nn am fn fm ++ DW G B v σ) (wb := fun v => A1 G al fl ++ (A2 G nn am fn fm ++ (DW G B v σ ++ DW G B2 P2 τ))) (mL_tries l hfl G z0 _ B P σ nn am fn fm (st / 17) (by omega) hl65_1 (by omega) hl65_3.1 hl65_3.2.1) gL_law_L_tries rfl rfl rfl (by decide +kernel) ⟨Nat.le_trans (Nat.le_of_ble_eq_true rfl) hRf.1, Nat.le_trans (Nat.le_of_ble_eq_true rfl) hRf.2⟩ hK hP hD (wpA _ _ _ _) (fun _ => (wpA _ _ _ _).symm) hz hAz hS hA rfl rfl hl.1 (Nat.le_of_ble_eq_true rfl) dL_law_475 ⟨by omega, by omega⟩ (fun r9 v H locs hpost hP hD hS => ?_)
      obtain ⟨P, hv9⟩ : ∃ v9, v9 = v := ⟨v, rfl⟩
      rw [← hv9] at hP hD
      subst hpost
      have hP : gP G (A1 G al fl ++ (A2 G nn am fn fm ++ (DW G B P σ ++ DW G B2 P2 τ))) H := hP
      have hD : va_D AA (A1 G al fl ++ (A2 G nn am fn fm ++ (DW G B P σ ++ DW G B2 P2 τ))) := hD
      refine k_if_eq F (tgt := 532) dL_law_478 (by decide) (by omega) (fun c_5 => absurd c_5 (by omega)) (fun c_5 => ?_)
      refine lv_aload_n F.1 F.2.1 dL_law_481 rfl (lv_at hl 9 rfl) ?_
      refine lv_aload_n F.1 F.2.1 dL_law_482 rfl (lv_at hl 7 rfl) ?_
      refine lv_aload F.1 F.2.1 dL_law_483 (lv_at hl 6 rfl) ?_
      refine lv_iload F.1 F.2.1 dL_law_485 (lv_at hl 4 rfl) ?_
      refine k_bipush F dL_law_487 (by decide +kernel) ?_
      refine k_div F (by omega) (by omega) dL_law_489 ?_
      refine q_call F (n := 4) (w := A2 G nn am fn fm ++ DW G B P σ) (wr := A1 G al fl ++ DW G B2 P2 τ) (wa := A1 G al fl ++ (A2 G nn am fn fm ++ (DW G B P σ ++ DW G B2 P2 τ))) (S := (Nat → Nat → Nat) × Sg) (W2 := fun v => A2 G nn am fn fm ++ DW G B v.1 v.2) (wb := fun v => A1 G al fl ++ (A2 G nn am fn fm ++ (DW G B v.1 (v.2) ++ DW G B2 P2 τ))) (mL_rehearsed l hfl G z0 _ B P σ nn am fn fm (st / 19) (by omega) hl65_1 (by omega) hl65_3.1 hl65_3.2.1) gL_law_L_rehearsed rfl rfl rfl (by decide +kernel) ⟨Nat.le_trans (Nat.le_of_ble_eq_true rfl) hRf.1, Nat.le_trans (Nat.le_of_ble_eq_true rfl) hRf.2⟩ hK hP hD (wpA _ _ _ _) (fun _ => (wpA _ _ _ _).symm) hz hAz hS hA rfl rfl hl.1 (Nat.le_of_ble_eq_true rfl) dL_law_490 ⟨by omega, by omega⟩ (fun r9 v H locs hpost hP hD hS => ?_)
      obtain ⟨P, σ9⟩ := v
      subst hpost
      have hP : gP G (A1 G al fl ++ (A2 G nn am fn fm ++ (DW G B P σ9 ++ DW G B2 P2 τ))) H := hP
      have hD : va_D AA (A1 G al fl ++ (A2 G nn am fn fm ++ (DW G B P σ9 ++ DW G B2 P2 τ))) := hD
      refine k_if_eq F (tgt := 532) dL_law_493 (by decide) (by omega) (fun c_6 => absurd c_6 (by omega)) (fun c_6 => ?_)
      refine lv_aload_n F.1 F.2.1 dL_law_496 rfl (lv_at hl 8 rfl) ?_
      refine lv_aload_n F.1 F.2.1 dL_law_497 rfl (lv_at hl 7 rfl) ?_
      refine lv_aload F.1 F.2.1 dL_law_498 (lv_at hl 6 rfl) ?_
      refine lv_iload F.1 F.2.1 dL_law_500 (lv_at hl 4 rfl) ?_
      refine k_bipush F dL_law_502 (by decide +kernel) ?_
      refine k_div F (by omega) (by omega) dL_law_504 ?_
      refine q_call F (n := 4) (w := A2 G nn am fn fm ++ DW G B2 P2 τ) (wr := A1 G al fl ++ DW G B P σ9) (wa := A1 G al fl ++ (A2 G nn am fn fm ++ (DW G B P σ9 ++ DW G B2 P2 τ))) (S := Nat → Nat → Nat) (W2 := fun v => A2 G nn am fn fm ++ DW G B2 v τ) (wb := fun v => A1 G al fl ++ (A2 G nn am fn fm ++ (DW G B P σ9 ++ DW G B2 v τ))) (mL_tries l hfl G z0 _ B2 P2 τ nn am fn fm (st / 23) (by omega) hl65_2 (by omega) (NF_tw hl65_0 hl65_3.1) (MF_tw hl65_0 hl65_3.2.1)) gL_law_L_tries rfl rfl rfl (by decide +kernel) ⟨Nat.le_trans (Nat.le_of_ble_eq_true rfl) hRf.1, Nat.le_trans (Nat.le_of_ble_eq_true rfl) hRf.2⟩ hK hP hD (wpB _ _ _ _) (fun _ => (wpB _ _ _ _).symm) hz hAz hS hA rfl rfl hl.1 (Nat.le_of_ble_eq_true rfl) dL_law_505 ⟨by omega, by omega⟩ (fun r9 v H locs hpost hP hD hS => ?_)
      obtain ⟨P2, hv9⟩ : ∃ v9, v9 = v := ⟨v, rfl⟩
      rw [← hv9] at hP hD
      subst hpost
      have hP : gP G (A1 G al fl ++ (A2 G nn am fn fm ++ (DW G B P σ9 ++ DW G B2 P2 τ))) H := hP
      have hD : va_D AA (A1 G al fl ++ (A2 G nn am fn fm ++ (DW G B P σ9 ++ DW G B2 P2 τ))) := hD
      refine k_if_eq F (tgt := 532) dL_law_508 (by decide) (by omega) (fun c_7 => absurd c_7 (by omega)) (fun c_7 => ?_)
      refine lv_aload_n F.1 F.2.1 dL_law_511 rfl (lv_at hl 8 rfl) ?_
      refine lv_aload_n F.1 F.2.1 dL_law_512 rfl (lv_at hl 7 rfl) ?_
      refine lv_aload F.1 F.2.1 dL_law_513 (lv_at hl 6 rfl) ?_
      refine lv_aload F.1 F.2.1 dL_law_515 (lv_at hl 5 rfl) ?_
      refine lv_iload F.1 F.2.1 dL_law_517 (lv_at hl 4 rfl) ?_
      refine k_bipush F dL_law_519 (by decide +kernel) ?_
      refine k_div F (by omega) (by omega) dL_law_521 ?_
      refine q_call F (n := 5) (w := A3 G al nn am fl fn fm ++ DW G B2 P2 τ) (wr := DW G B P σ9) (wa := A1 G al fl ++ (A2 G nn am fn fm ++ (DW G B P σ9 ++ DW G B2 P2 τ))) (S := Nat → Nat → Nat) (W2 := fun v => A3 G al nn am fl fn fm ++ DW G B2 v τ) (wb := fun v => A1 G al fl ++ (A2 G nn am fn fm ++ (DW G B P σ9 ++ DW G B2 v τ))) (mL_holds l hfl G z0 _ B2 P2 τ al nn am fl fn fm (st / 29) (by omega) hl65_2 (by omega) (NF_tw hl65_0 hl65_3.1) (MF_tw hl65_0 hl65_3.2.1) (LF_tw hl65_0 hl65_3.2.2)) gL_law_L_holds rfl rfl rfl (by decide +kernel) ⟨Nat.le_trans (Nat.le_of_ble_eq_true rfl) hRf.1, Nat.le_trans (Nat.le_of_ble_eq_true rfl) hRf.2⟩ hK hP hD (wpD _ _ _ _) (fun v => (wpD (A1 G al fl) (A2 G nn am fn fm) (DW G B P σ9) (DW G B2 v τ)).symm) hz hAz hS hA rfl rfl hl.1 (Nat.le_of_ble_eq_true rfl) dL_law_522 ⟨by omega, by omega⟩ (fun r9 v H locs hpost hP hD hS => ?_)
      obtain ⟨P2, hv9⟩ : ∃ v9, v9 = v := ⟨v, rfl⟩
      rw [← hv9] at hP hD
      subst hpost
      have hP : gP G (A1 G al fl ++ (A2 G nn am fn fm ++ (DW G B P σ9 ++ DW G B2 P2 τ))) H := hP
      have hD : va_D AA (A1 G al fl ++ (A2 G nn am fn fm ++ (DW G B P σ9 ++ DW G B2 P2 τ))) := hD
      refine k_if_eq F (tgt := 532) dL_law_525 (by decide) (by omega) (fun c_8 => absurd c_8 (by omega)) (fun c_8 => ?_)
      refine k_iconst F dL_law_528 ?_
      refine lv_goto (tgt := 533) F.1 F.2.1 dL_law_529 (by decide) ?_
      exact hend _ _ _ _ _ (by omega) (by omega) hS
    · intro i hk9_65 ih_65 σ τ fn fm fl hl65_0 hl65_1 hl65_2 hl65_3 P P2 H locs hP hD hS ls hl
      refine lv_iload F.1 F.2.1 dL_law_65 (lv_at hl 0 rfl) ?_
      refine lv_iload F.1 F.2.1 dL_law_67 (lv_at hl 2 rfl) ?_
      refine k_icmp_ge F (tgt := 426) dL_law_69 (by decide) (by omega) (by omega) (fun c_9 => absurd c_9 (by omega)) (fun c_9 => ?_)
      refine lv_iload F.1 F.2.1 dL_law_72 (lv_at hl 1 rfl) ?_
      refine k_if_eq F (tgt := 426) dL_law_74 (by decide) (by omega) (fun c_10 => absurd c_10 (by omega)) (fun c_10 => ?_)
      refine lv_aload_n F.1 F.2.1 dL_law_77 rfl (lv_at hl 10 rfl) ?_
      refine k_iconst F dL_law_78 ?_
      refine lv_iload F.1 F.2.1 dL_law_79 (lv_at hl 0 rfl) ?_
      refine k_iadd F rfl dL_law_81 ?_
      rw [show ((1 + (i : Int)) : Int) = ((1 + i : Nat) : Int) from by omega]
      refine d_call F (L := L) (k := 1 + i) (xs := xs) (by omega) hL gL_law_L_drawn ⟨Nat.le_trans (Nat.le_of_ble_eq_true rfl) hRf.1, Nat.le_trans (Nat.le_of_ble_eq_true rfl) hRf.2⟩ hX hbl hbA hS hl.1 (Nat.le_of_ble_eq_true rfl) dL_law_82 ⟨by omega, by omega⟩ ?_
      have hx0 := drw_rg xs L (1 + i)
      generalize drw xs L (1 + i) = x0 at hx0 ⊢
      refine lv_istore (lv' := [(11, .int (iI x0)), (10, .int (iI (i : Int))), (9, .int (iI 1)), (8, .int (iI (th : Int))), (7, .int (iI u)), (6, .int (iI st)), (5, .ref al), (4, .ref am), (3, .ref nn), (2, .ref (B2 5)), (1, .ref (B 5)), (0, .ref b)]) F.1 F.2.1 dL_law_85 hl (by decide) rfl (fun ls hl => ?_)
      refine lv_iload F.1 F.2.1 dL_law_87 (lv_at hl 1 rfl) ?_
      have J154 : ∀ xx : Int, (0 ≤ xx ∧ xx < 2147483648) → ∀ (P : Nat → Nat → Nat) (P2 : Nat → Nat → Nat) (H : Heap) (locs : List Loc), gP G (A1 G al fl ++ (A2 G nn am fn fm ++ (DW G B P σ ++ DW G B2 P2 τ))) H → va_D AA (A1 G al fl ++ (A2 G nn am fn fm ++ (DW G B P σ ++ DW G B2 P2 τ))) → va_S AA sS.heap H locs → ∀ ls : Array Slot, lv_has ls 13 [(11, .int (iI x0)), (10, .int (iI (i : Int))), (9, .int (iI 1)), (8, .int (iI (th : Int))), (7, .int (iI u)), (6, .int (iI st)), (5, .ref al), (4, .ref am), (3, .ref nn), (2, .ref (B2 5)), (1, .ref (B 5)), (0, .ref b)] → W pP l eE RR sS mM args bB meth cC H locs (5452 * i + 100) (33840 * i + 1000) QQ (F0 mM 154 ls [.int (iI xx)]) := by
        intro xx hj154_0 P P2 H locs hP hD hS ls hl
        refine lv_istore (lv' := [(11, .int (iI xx)), (10, .int (iI (i : Int))), (9, .int (iI 1)), (8, .int (iI (th : Int))), (7, .int (iI u)), (6, .int (iI st)), (5, .ref al), (4, .ref am), (3, .ref nn), (2, .ref (B2 5)), (1, .ref (B 5)), (0, .ref b)]) F.1 F.2.1 dL_law_154 hl (by decide) rfl (fun ls hl => ?_)
        refine lv_aload_n F.1 F.2.1 dL_law_156 rfl (lv_at hl 10 rfl) ?_
        refine lv_aload_n F.1 F.2.1 dL_law_157 rfl (lv_at hl 8 rfl) ?_
        refine lv_aload F.1 F.2.1 dL_law_158 (lv_at hl 7 rfl) ?_
        refine lv_iload F.1 F.2.1 dL_law_160 (lv_at hl 0 rfl) ?_
        refine k_iconst F dL_law_162 ?_
        refine q_call F (n := 5) (w := A2 G nn am fn fm ++ DW G B P σ) (wr := A1 G al fl ++ DW G B2 P2 τ) (wa := A1 G al fl ++ (A2 G nn am fn fm ++ (DW G B P σ ++ DW G B2 P2 τ))) (S := (Nat → Nat → Nat) × Sg) (W2 := fun v => A2 G nn am fn fm ++ DW G B v.1 v.2) (wb := fun v => A1 G al fl ++ (A2 G nn am fn fm ++ (DW G B v.1 (v.2) ++ DW G B2 P2 τ))) (mL_act l hfl G z0 _ B P σ nn am fn fm xx 0 (by omega) (by omega) hl65_1 (by omega) hl65_3.1 hl65_3.2.1) gL_law_L_act rfl rfl rfl (by decide +kernel) ⟨Nat.le_trans (Nat.le_of_ble_eq_true rfl) hRf.1, Nat.le_trans (Nat.le_of_ble_eq_true rfl) hRf.2⟩ hK hP hD (wpA _ _ _ _) (fun _ => (wpA _ _ _ _).symm) hz hAz hS hA rfl rfl hl.1 (Nat.le_of_ble_eq_true rfl) dL_law_163 ⟨by omega, by omega⟩ (fun r9 v H locs hpost hP hD hS => ?_)
        obtain ⟨P, σ1⟩ := v
        obtain ⟨z, rfl, hac1⟩ := hpost
        have hnf4 := Ac_nf (by omega) hl65_1 (by omega) hac1
        obtain ⟨hzr, hnf4⟩ := hnf4
        have hP : gP G (A1 G al fl ++ (A2 G nn am fn fm ++ (DW G B P σ1 ++ DW G B2 P2 τ))) H := hP
        have hD : va_D AA (A1 G al fl ++ (A2 G nn am fn fm ++ (DW G B P σ1 ++ DW G B2 P2 τ))) := hD
        refine lv_istore (lv' := [(12, .int (iI z)), (11, .int (iI xx)), (10, .int (iI (i : Int))), (9, .int (iI 1)), (8, .int (iI (th : Int))), (7, .int (iI u)), (6, .int (iI st)), (5, .ref al), (4, .ref am), (3, .ref nn), (2, .ref (B2 5)), (1, .ref (B 5)), (0, .ref b)]) F.1 F.2.1 dL_law_166 hl (by decide) rfl (fun ls hl => ?_)
        refine lv_aload_n F.1 F.2.1 dL_law_168 rfl (lv_at hl 10 rfl) ?_
        refine lv_aload_n F.1 F.2.1 dL_law_169 rfl (lv_at hl 9 rfl) ?_
        refine lv_aload F.1 F.2.1 dL_law_170 (lv_at hl 8 rfl) ?_
        refine lv_iload F.1 F.2.1 dL_law_172 (lv_at hl 1 rfl) ?_
        refine k_sipush F dL_law_174 (by decide +kernel) ?_
        refine k_rem F (by omega) (by omega) dL_law_177 ?_
        refine q_call F (n := 4) (w := A2 G nn am fn fm ++ DW G B2 P2 τ) (wr := A1 G al fl ++ DW G B P σ1) (wa := A1 G al fl ++ (A2 G nn am fn fm ++ (DW G B P σ1 ++ DW G B2 P2 τ))) (S := Nat → Nat → Nat) (W2 := fun v => A2 G nn am fn fm ++ DW G B2 v τ) (wb := fun v => A1 G al fl ++ (A2 G nn am fn fm ++ (DW G B P σ1 ++ DW G B2 v τ))) (mL_refuses l hfl G z0 _ B2 P2 τ nn am fn fm (xx % 9973) (by omega) hl65_2 (by omega) (NF_tw hl65_0 hl65_3.1) (MF_tw hl65_0 hl65_3.2.1)) gL_law_L_refuses rfl rfl rfl (by decide +kernel) ⟨Nat.le_trans (Nat.le_of_ble_eq_true rfl) hRf.1, Nat.le_trans (Nat.le_of_ble_eq_true rfl) hRf.2⟩ hK hP hD (wpB _ _ _ _) (fun _ => (wpB _ _ _ _).symm) hz hAz hS hA rfl rfl hl.1 (Nat.le_of_ble_eq_true rfl) dL_law_178 ⟨by omega, by omega⟩ (fun r9 v H locs hpost hP hD hS => ?_)
        obtain ⟨P2, hv9⟩ : ∃ v9, v9 = v := ⟨v, rfl⟩
        rw [← hv9] at hP hD
        subst hpost
        have hP : gP G (A1 G al fl ++ (A2 G nn am fn fm ++ (DW G B P σ1 ++ DW G B2 P2 τ))) H := hP
        have hD : va_D AA (A1 G al fl ++ (A2 G nn am fn fm ++ (DW G B P σ1 ++ DW G B2 P2 τ))) := hD
        refine k_if_eq F (tgt := 204) dL_law_181 (by decide) (by omega) (fun c_11 => absurd c_11 (by omega)) (fun c_11 => ?_)
        refine lv_aload_n F.1 F.2.1 dL_law_184 rfl (lv_at hl 10 rfl) ?_
        refine lv_aload_n F.1 F.2.1 dL_law_185 rfl (lv_at hl 9 rfl) ?_
        refine lv_aload F.1 F.2.1 dL_law_186 (lv_at hl 8 rfl) ?_
        refine lv_iload F.1 F.2.1 dL_law_188 (lv_at hl 1 rfl) ?_
        refine lv_iload F.1 F.2.1 dL_law_190 (lv_at hl 5 rfl) ?_
        refine q_call F (n := 5) (w := A2 G nn am fn fm ++ DW G B2 P2 τ) (wr := A1 G al fl ++ DW G B P σ1) (wa := A1 G al fl ++ (A2 G nn am fn fm ++ (DW G B P σ1 ++ DW G B2 P2 τ))) (S := (Nat → Nat → Nat) × Sg) (W2 := fun v => A2 G nn am fn fm ++ DW G B2 v.1 v.2) (wb := fun v => A1 G al fl ++ (A2 G nn am fn fm ++ (DW G B P σ1 ++ DW G B2 v.1 (v.2)))) (mL_act l hfl G z0 _ B2 P2 τ nn am fn fm xx u (by omega) (by omega) hl65_2 (by omega) (NF_tw hl65_0 hl65_3.1) (MF_tw hl65_0 hl65_3.2.1)) gL_law_L_act rfl rfl rfl (by decide +kernel) ⟨Nat.le_trans (Nat.le_of_ble_eq_true rfl) hRf.1, Nat.le_trans (Nat.le_of_ble_eq_true rfl) hRf.2⟩ hK hP hD (wpB _ _ _ _) (fun _ => (wpB _ _ _ _).symm) hz hAz hS hA rfl rfl hl.1 (Nat.le_of_ble_eq_true rfl) dL_law_192 ⟨by omega, by omega⟩ (fun r9 v H locs hpost hP hD hS => ?_)
        obtain ⟨P2, τ1⟩ := v
        obtain ⟨z', rfl, hac2⟩ := hpost
        obtain ⟨hzz, hT1, hI1, hJ1⟩ := Ac_tw (by omega) hl65_0 (by omega) hl65_1 hl65_2 (by omega) hac1 hac2
        rw [hzz]
        have hP : gP G (A1 G al fl ++ (A2 G nn am fn fm ++ (DW G B P σ1 ++ DW G B2 P2 τ1))) H := hP
        have hD : va_D AA (A1 G al fl ++ (A2 G nn am fn fm ++ (DW G B P σ1 ++ DW G B2 P2 τ1))) := hD
        refine lv_iload F.1 F.2.1 dL_law_195 (lv_at hl 0 rfl) ?_
        refine k_same_ne F (tgt := 204) dL_law_197 (by decide) ?_
        refine k_iconst F dL_law_200 ?_
        refine lv_goto (tgt := 205) F.1 F.2.1 dL_law_201 (by decide) ?_
        refine lv_istore (lv' := [(9, .int (iI 1)), (12, .int (iI z)), (11, .int (iI xx)), (10, .int (iI (i : Int))), (8, .int (iI (th : Int))), (7, .int (iI u)), (6, .int (iI st)), (5, .ref al), (4, .ref am), (3, .ref nn), (2, .ref (B2 5)), (1, .ref (B 5)), (0, .ref b)]) F.1 F.2.1 dL_law_205 hl (by decide) rfl (fun ls hl => ?_)
        have ⟨hb1, hb2, hb8⟩ := Jv_b hl65_1
        have J341 : ∀ fn1 : Nat → Int, ∀ fm1 : Nat → Int, ∀ fl1 : Nat → Int, Arr fn1 fm1 fl1 σ1 → ∀ (P : Nat → Nat → Nat) (P2 : Nat → Nat → Nat) (H : Heap) (locs : List Loc), gP G (A1 G al fl1 ++ (A2 G nn am fn1 fm1 ++ (DW G B P σ1 ++ DW G B2 P2 τ1))) H → va_D AA (A1 G al fl1 ++ (A2 G nn am fn1 fm1 ++ (DW G B P σ1 ++ DW G B2 P2 τ1))) → va_S AA sS.heap H locs → ∀ ls : Array Slot, lv_has ls 13 [(9, .int (iI 1)), (12, .int (iI z)), (11, .int (iI xx)), (10, .int (iI (i : Int))), (8, .int (iI (th : Int))), (7, .int (iI u)), (6, .int (iI st)), (5, .ref al), (4, .ref am), (3, .ref nn), (2, .ref (B2 5)), (1, .ref (B 5)), (0, .ref b)] → W pP l eE RR sS mM args bB meth cC H locs (5452 * i + 432) (33840 * i + 3640) QQ (F0 mM 341 ls []) := by
          intro fn1 fm1 fl1 hj341_0 P P2 H locs hP hD hS ls hl
          refine lv_iload F.1 F.2.1 dL_law_341 (lv_at hl 0 rfl) ?_
          refine k_if_eq F (tgt := 417) dL_law_343 (by decide) (by omega) (fun c_13 => absurd c_13 (by omega)) (fun c_13 => ?_)
          refine lv_aload_n F.1 F.2.1 dL_law_346 rfl (lv_at hl 10 rfl) ?_
          refine lv_aload_n F.1 F.2.1 dL_law_347 rfl (lv_at hl 9 rfl) ?_
          refine lv_aload F.1 F.2.1 dL_law_348 (lv_at hl 8 rfl) ?_
          refine lv_iload F.1 F.2.1 dL_law_350 (lv_at hl 2 rfl) ?_
          refine k_sipush F dL_law_352 (by decide +kernel) ?_
          refine k_rem F (by omega) (by omega) dL_law_355 ?_
          refine q_call F (n := 4) (w := A2 G nn am fn1 fm1 ++ DW G B2 P2 τ1) (wr := A1 G al fl1 ++ DW G B P σ1) (wa := A1 G al fl1 ++ (A2 G nn am fn1 fm1 ++ (DW G B P σ1 ++ DW G B2 P2 τ1))) (S := Nat → Nat → Nat) (W2 := fun v => A2 G nn am fn1 fm1 ++ DW G B2 v τ1) (wb := fun v => A1 G al fl1 ++ (A2 G nn am fn1 fm1 ++ (DW G B P σ1 ++ DW G B2 v τ1))) (mL_refuses l hfl G z0 _ B2 P2 τ1 nn am fn1 fm1 (xx % 499) (by omega) hJ1 (by omega) (NF_tw hT1 hj341_0.1) (MF_tw hT1 hj341_0.2.1)) gL_law_L_refuses rfl rfl rfl (by decide +kernel) ⟨Nat.le_trans (Nat.le_of_ble_eq_true rfl) hRf.1, Nat.le_trans (Nat.le_of_ble_eq_true rfl) hRf.2⟩ hK hP hD (wpB _ _ _ _) (fun _ => (wpB _ _ _ _).symm) hz hAz hS hA rfl rfl hl.1 (Nat.le_of_ble_eq_true rfl) dL_law_356 ⟨by omega, by omega⟩ (fun r9 v H locs hpost hP hD hS => ?_)
          obtain ⟨P2, hv9⟩ : ∃ v9, v9 = v := ⟨v, rfl⟩
          rw [← hv9] at hP hD
          subst hpost
          have hP : gP G (A1 G al fl1 ++ (A2 G nn am fn1 fm1 ++ (DW G B P σ1 ++ DW G B2 P2 τ1))) H := hP
          have hD : va_D AA (A1 G al fl1 ++ (A2 G nn am fn1 fm1 ++ (DW G B P σ1 ++ DW G B2 P2 τ1))) := hD
          refine k_if_eq F (tgt := 417) dL_law_359 (by decide) (by omega) (fun c_14 => absurd c_14 (by omega)) (fun c_14 => ?_)
          refine lv_iload F.1 F.2.1 dL_law_362 (lv_at hl 3 rfl) ?_
          refine k_iconst F dL_law_364 ?_
          refine k_rem F (by omega) (by omega) dL_law_365 ?_
          have J386 : ∀ (P : Nat → Nat → Nat) (P2 : Nat → Nat → Nat) (H : Heap) (locs : List Loc), gP G (A1 G al fl1 ++ (A2 G nn am fn1 fm1 ++ (DW G B P σ1 ++ DW G B2 P2 τ1))) H → va_D AA (A1 G al fl1 ++ (A2 G nn am fn1 fm1 ++ (DW G B P σ1 ++ DW G B2 P2 τ1))) → va_S AA sS.heap H locs → ∀ ls : Array Slot, lv_has ls 13 [(9, .int (iI 1)), (12, .int (iI z)), (11, .int (iI xx)), (10, .int (iI (i : Int))), (8, .int (iI (th : Int))), (7, .int (iI u)), (6, .int (iI st)), (5, .ref al), (4, .ref am), (3, .ref nn), (2, .ref (B2 5)), (1, .ref (B 5)), (0, .ref b)] → W pP l eE RR sS mM args bB meth cC H locs (5452 * i + 3452) (33840 * i + 22240) QQ (F0 mM 386 ls []) := by
            intro  P P2 H locs hP hD hS ls hl
            refine lv_iload F.1 F.2.1 dL_law_386 (lv_at hl 3 rfl) ?_
            refine k_bipush F dL_law_388 (by decide +kernel) ?_
            refine k_rem F (by omega) (by omega) dL_law_390 ?_
            refine k_bipush F dL_law_391 (by decide +kernel) ?_
            have J413 : ∀ (P : Nat → Nat → Nat) (P2 : Nat → Nat → Nat) (H : Heap) (locs : List Loc), gP G (A1 G al fl1 ++ (A2 G nn am fn1 fm1 ++ (DW G B P σ1 ++ DW G B2 P2 τ1))) H → va_D AA (A1 G al fl1 ++ (A2 G nn am fn1 fm1 ++ (DW G B P σ1 ++ DW G B2 P2 τ1))) → va_S AA sS.heap H locs → ∀ ls : Array Slot, lv_has ls 13 [(9, .int (iI 1)), (12, .int (iI z)), (11, .int (iI xx)), (10, .int (iI (i : Int))), (8, .int (iI (th : Int))), (7, .int (iI u)), (6, .int (iI st)), (5, .ref al), (4, .ref am), (3, .ref nn), (2, .ref (B2 5)), (1, .ref (B 5)), (0, .ref b)] → W pP l eE RR sS mM args bB meth cC H locs (5452 * i + 5552) (33840 * i + 34840) QQ (F0 mM 413 ls []) := by
              intro  P P2 H locs hP hD hS ls hl
              refine k_iconst F dL_law_413 ?_
              refine lv_goto (tgt := 418) F.1 F.2.1 dL_law_414 (by decide) ?_
              refine lv_istore (lv' := [(9, .int (iI 1)), (12, .int (iI z)), (11, .int (iI xx)), (10, .int (iI (i : Int))), (8, .int (iI (th : Int))), (7, .int (iI u)), (6, .int (iI st)), (5, .ref al), (4, .ref am), (3, .ref nn), (2, .ref (B2 5)), (1, .ref (B 5)), (0, .ref b)]) F.1 F.2.1 dL_law_418 hl (by decide) rfl (fun ls hl => ?_)
              refine lv_iinc (v := iI ((i : Int) + 1)) (lv' := [(10, .int (iI ((i : Int) + 1))), (9, .int (iI 1)), (12, .int (iI z)), (11, .int (iI xx)), (8, .int (iI (th : Int))), (7, .int (iI u)), (6, .int (iI st)), (5, .ref al), (4, .ref am), (3, .ref nn), (2, .ref (B2 5)), (1, .ref (B 5)), (0, .ref b)]) F.1 F.2.1 dL_law_420 hl (k := 3) rfl (iI_add _ _) (by decide) rfl (fun ls hl => ?_)
              refine lv_goto (tgt := 65) F.1 F.2.1 dL_law_423 (by decide) ?_
              have e_15 : (((i : Int) + 1) : Int) = (((i + 1) : Nat) : Int) := by omega
              refine W.widen (k := (5452 * (i + 1) + 100)) (n := (33840 * (i + 1) + 1000)) (by omega) (by omega) ?_
              exact ih_65 σ1 τ1 fn1 fm1 fl1 hT1 hI1 hJ1 hj341_0 P P2 _ _ hP hD hS _ (lv_to (lv_sub hl [0, 1, 4, 5, 6, 7, 8, 9, 10, 11, 12] rfl) (congrArg (fun x9 : Int => ([(10, .int (iI x9)), (9, .int (iI 1)), (8, .int (iI (th : Int))), (7, .int (iI u)), (6, .int (iI st)), (5, .ref al), (4, .ref am), (3, .ref nn), (2, .ref (B2 5)), (1, .ref (B 5)), (0, .ref b)] : List (Nat × Value))) e_15))
            refine k_icmp_lt F (tgt := 413) dL_law_393 (by decide) (by omega) (by omega) (fun c_16 => ?_) (fun c_16 => ?_)
            · skip
              refine W.widen (k := (5452 * i + 5552)) (n := (33840 * i + 34840)) (by omega) (by omega) ?_
              exact J413  P P2 _ _ hP hD hS _ (lv_sub hl [0, 1, 2, 3, 4, 5, 6, 7, 8, 9, 10, 11, 12] rfl)
            · skip
              refine lv_aload_n F.1 F.2.1 dL_law_396 rfl (lv_at hl 10 rfl) ?_
              refine lv_aload_n F.1 F.2.1 dL_law_397 rfl (lv_at hl 9 rfl) ?_
              refine lv_aload F.1 F.2.1 dL_law_398 (lv_at hl 8 rfl) ?_
              refine lv_aload F.1 F.2.1 dL_law_400 (lv_at hl 7 rfl) ?_
              refine lv_iload F.1 F.2.1 dL_law_402 (lv_at hl 2 rfl) ?_
              refine k_bipush F dL_law_404 (by decide +kernel) ?_
              refine k_div F (by omega) (by omega) dL_law_406 ?_
              refine q_call F (n := 5) (w := A3 G al nn am fl1 fn1 fm1 ++ DW G B2 P2 τ1) (wr := DW G B P σ1) (wa := A1 G al fl1 ++ (A2 G nn am fn1 fm1 ++ (DW G B P σ1 ++ DW G B2 P2 τ1))) (S := Nat → Nat → Nat) (W2 := fun v => A3 G al nn am fl1 fn1 fm1 ++ DW G B2 v τ1) (wb := fun v => A1 G al fl1 ++ (A2 G nn am fn1 fm1 ++ (DW G B P σ1 ++ DW G B2 v τ1))) (mL_holds l hfl G z0 _ B2 P2 τ1 al nn am fl1 fn1 fm1 (xx / 7) (by omega) hJ1 (by omega) (NF_tw hT1 hj341_0.1) (MF_tw hT1 hj341_0.2.1) (LF_tw hT1 hj341_0.2.2)) gL_law_L_holds rfl rfl rfl (by decide +kernel) ⟨Nat.le_trans (Nat.le_of_ble_eq_true rfl) hRf.1, Nat.le_trans (Nat.le_of_ble_eq_true rfl) hRf.2⟩ hK hP hD (wpD _ _ _ _) (fun v => (wpD (A1 G al fl1) (A2 G nn am fn1 fm1) (DW G B P σ1) (DW G B2 v τ1)).symm) hz hAz hS hA rfl rfl hl.1 (Nat.le_of_ble_eq_true rfl) dL_law_407 ⟨by omega, by omega⟩ (fun r9 v H locs hpost hP hD hS => ?_)
              obtain ⟨P2, hv9⟩ : ∃ v9, v9 = v := ⟨v, rfl⟩
              rw [← hv9] at hP hD
              subst hpost
              have hP : gP G (A1 G al fl1 ++ (A2 G nn am fn1 fm1 ++ (DW G B P σ1 ++ DW G B2 P2 τ1))) H := hP
              have hD : va_D AA (A1 G al fl1 ++ (A2 G nn am fn1 fm1 ++ (DW G B P σ1 ++ DW G B2 P2 τ1))) := hD
              refine k_if_eq F (tgt := 417) dL_law_410 (by decide) (by omega) (fun c_17 => absurd c_17 (by omega)) (fun c_17 => ?_)
              refine W.widen (k := (5452 * i + 5552)) (n := (33840 * i + 34840)) (by omega) (by omega) ?_
              exact J413  P P2 _ _ hP hD hS _ (lv_sub hl [0, 1, 2, 3, 4, 5, 6, 7, 8, 9, 10, 11, 12] rfl)
          refine k_if_gt F (tgt := 386) dL_law_366 (by decide) (by omega) (fun c_18 => ?_) (fun c_18 => ?_)
          · skip
            refine W.widen (k := (5452 * i + 3452)) (n := (33840 * i + 22240)) (by omega) (by omega) ?_
            exact J386  P P2 _ _ hP hD hS _ (lv_sub hl [0, 1, 2, 3, 4, 5, 6, 7, 8, 9, 10, 11, 12] rfl)
          · skip
            refine lv_aload_n F.1 F.2.1 dL_law_369 rfl (lv_at hl 11 rfl) ?_
            refine lv_aload_n F.1 F.2.1 dL_law_370 rfl (lv_at hl 10 rfl) ?_
            refine lv_aload_n F.1 F.2.1 dL_law_371 rfl (lv_at hl 9 rfl) ?_
            refine lv_aload F.1 F.2.1 dL_law_372 (lv_at hl 8 rfl) ?_
            refine lv_iload F.1 F.2.1 dL_law_374 (lv_at hl 5 rfl) ?_
            refine lv_iload F.1 F.2.1 dL_law_376 (lv_at hl 2 rfl) ?_
            refine k_iconst F dL_law_378 ?_
            refine k_div F (by omega) (by omega) dL_law_379 ?_
            refine q_call F (n := 6) (w := A2 G nn am fn1 fm1 ++ (DW G B P σ1 ++ DW G B2 P2 τ1)) (wr := A1 G al fl1) (wa := A1 G al fl1 ++ (A2 G nn am fn1 fm1 ++ (DW G B P σ1 ++ DW G B2 P2 τ1))) (S := (Nat → Nat → Nat) × (Nat → Nat → Nat)) (W2 := fun v => A2 G nn am fn1 fm1 ++ (DW G B v.1 σ1 ++ DW G B2 v.2 τ1)) (wb := fun v => A1 G al fl1 ++ (A2 G nn am fn1 fm1 ++ (DW G B v.1 σ1 ++ DW G B2 v.2 τ1))) (mL_alike l hfl G z0 _ B B2 P P2 σ1 τ1 nn am fn1 fm1 u (xx / 5) (by omega) (by omega) hI1 hJ1 (by omega) (by omega) hT1 hj341_0.1 hj341_0.2.1) gL_law_L_alike rfl rfl rfl (by decide +kernel) ⟨Nat.le_trans (Nat.le_of_ble_eq_true rfl) hRf.1, Nat.le_trans (Nat.le_of_ble_eq_true rfl) hRf.2⟩ hK hP hD (wpC _ _) (fun _ => (wpC _ _).symm) hz hAz hS hA rfl rfl hl.1 (Nat.le_of_ble_eq_true rfl) dL_law_380 ⟨by omega, by omega⟩ (fun r9 v H locs hpost hP hD hS => ?_)
            obtain ⟨P, P2⟩ := v
            subst hpost
            have hP : gP G (A1 G al fl1 ++ (A2 G nn am fn1 fm1 ++ (DW G B P σ1 ++ DW G B2 P2 τ1))) H := hP
            have hD : va_D AA (A1 G al fl1 ++ (A2 G nn am fn1 fm1 ++ (DW G B P σ1 ++ DW G B2 P2 τ1))) := hD
            refine k_if_eq F (tgt := 417) dL_law_383 (by decide) (by omega) (fun c_19 => absurd c_19 (by omega)) (fun c_19 => ?_)
            refine W.widen (k := (5452 * i + 3452)) (n := (33840 * i + 22240)) (by omega) (by omega) ?_
            exact J386  P P2 _ _ hP hD hS _ (lv_sub hl [0, 1, 2, 3, 4, 5, 6, 7, 8, 9, 10, 11, 12] rfl)
        rcases hnf4 with hc0 | hc1 | hc2 | hc3
        · skip
          have ⟨hb1, hb2, hb8⟩ := Jv_b hl65_1
          refine lv_iload F.1 F.2.1 dL_law_207 (lv_at hl 2 rfl) ?_
          refine k_bipush F dL_law_209 (by decide +kernel) ?_
          refine k_rem F (by omega) (by omega) dL_law_211 ?_
          refine k_iconst F dL_law_212 ?_
          refine k_icmp_ge F (tgt := 231) dL_law_213 (by decide) (by omega) (by omega) (fun c_20 => absurd c_20 (by omega)) (fun c_20 => ?_)
          refine lv_iload F.1 F.2.1 dL_law_216 (lv_at hl 1 rfl) ?_
          refine k_if_lt F (tgt := 231) dL_law_218 (by decide) (by omega) (fun c_21 => absurd c_21 (by omega)) (fun c_21 => ?_)
          refine lv_aload_n F.1 F.2.1 dL_law_221 rfl (lv_at hl 9 rfl) ?_
          refine k_iconst F dL_law_222 ?_
          refine lv_dup2_11 F.1 F.2.1 dL_law_223 rfl rfl ?_
          refine k_iald F hK hP 1 rfl 0 rfl (by decide) (by decide) hl65_3.1.1 dL_law_224 ?_
          refine k_iconst F dL_law_225 ?_
          refine k_iadd F rfl dL_law_226 ?_
          refine k_iast F hK hP hD hS 1 rfl 0 rfl (by decide) (by decide) dL_law_227 (fun H locs hP hD hS => ?_)
          have hP : gP G (A1 G al fl ++ (A2 G nn am (uI fn 0 ((σ 1 0 0) + 1)) fm ++ (DW G B P σ1 ++ DW G B2 P2 τ1))) H := hP
          have hD : va_D AA (A1 G al fl ++ (A2 G nn am (uI fn 0 ((σ 1 0 0) + 1)) fm ++ (DW G B P σ1 ++ DW G B2 P2 τ1))) := hD
          refine lv_goto (tgt := 341) F.1 F.2.1 dL_law_228 (by decide) ?_
          refine W.widen (k := (5452 * i + 432)) (n := (33840 * i + 3640)) (by omega) (by omega) ?_
          exact J341 (uI fn 0 ((σ 1 0 0) + 1)) fm fl (arr_0 hl65_3 hc0.2.2.1 hc0.2.2.2.1 hc0.2.2.2.2.1 hc0.2.2.2.2.2) P P2 _ _ hP hD hS _ (lv_sub hl [0, 1, 2, 3, 4, 5, 6, 7, 8, 9, 10, 11, 12] rfl)
        · skip
          have ⟨hb1, hb2, hb8⟩ := Jv_b hl65_1
          refine lv_iload F.1 F.2.1 dL_law_207 (lv_at hl 2 rfl) ?_
          refine k_bipush F dL_law_209 (by decide +kernel) ?_
          refine k_rem F (by omega) (by omega) dL_law_211 ?_
          refine k_iconst F dL_law_212 ?_
          refine k_icmp_ge F (tgt := 231) dL_law_213 (by decide) (by omega) (by omega) (fun c_22 => ?_) (fun c_22 => absurd c_22 (by omega))
          refine lv_iload F.1 F.2.1 dL_law_231 (lv_at hl 2 rfl) ?_
          refine k_bipush F dL_law_233 (by decide +kernel) ?_
          refine k_rem F (by omega) (by omega) dL_law_235 ?_
          refine k_iconst F dL_law_236 ?_
          refine k_icmp_le F (tgt := 265) dL_law_237 (by decide) (by omega) (by omega) (fun c_23 => absurd c_23 (by omega)) (fun c_23 => ?_)
          refine lv_iload F.1 F.2.1 dL_law_240 (lv_at hl 2 rfl) ?_
          refine k_bipush F dL_law_242 (by decide +kernel) ?_
          refine k_rem F (by omega) (by omega) dL_law_244 ?_
          refine k_bipush F dL_law_245 (by decide +kernel) ?_
          refine k_icmp_ge F (tgt := 265) dL_law_247 (by decide) (by omega) (by omega) (fun c_24 => absurd c_24 (by omega)) (fun c_24 => ?_)
          refine lv_iload F.1 F.2.1 dL_law_250 (lv_at hl 1 rfl) ?_
          refine k_if_lt F (tgt := 265) dL_law_252 (by decide) (by omega) (fun c_25 => absurd c_25 (by omega)) (fun c_25 => ?_)
          refine lv_aload_n F.1 F.2.1 dL_law_255 rfl (lv_at hl 9 rfl) ?_
          refine k_iconst F dL_law_256 ?_
          refine lv_dup2_11 F.1 F.2.1 dL_law_257 rfl rfl ?_
          refine k_iald F hK hP 1 rfl 2 rfl (by decide) (by decide) hl65_3.1.2.2 dL_law_258 ?_
          refine k_iconst F dL_law_259 ?_
          refine k_iadd F rfl dL_law_260 ?_
          refine k_iast F hK hP hD hS 1 rfl 2 rfl (by decide) (by decide) dL_law_261 (fun H locs hP hD hS => ?_)
          have hP : gP G (A1 G al fl ++ (A2 G nn am (uI fn 2 ((σ 8 (σ 2 0 0).toNat 0) + 1)) fm ++ (DW G B P σ1 ++ DW G B2 P2 τ1))) H := hP
          have hD : va_D AA (A1 G al fl ++ (A2 G nn am (uI fn 2 ((σ 8 (σ 2 0 0).toNat 0) + 1)) fm ++ (DW G B P σ1 ++ DW G B2 P2 τ1))) := hD
          refine lv_goto (tgt := 341) F.1 F.2.1 dL_law_262 (by decide) ?_
          refine W.widen (k := (5452 * i + 432)) (n := (33840 * i + 3640)) (by omega) (by omega) ?_
          exact J341 (uI fn 2 ((σ 8 (σ 2 0 0).toNat 0) + 1)) fm fl (arr_1 hl65_3 hb2.1 hc1.2.2.2.1 hc1.2.2.2.2.1 hc1.2.2.2.2.2.1 hc1.2.2.2.2.2.2.1 hc1.2.2.2.2.2.2.2) P P2 _ _ hP hD hS _ (lv_sub hl [0, 1, 2, 3, 4, 5, 6, 7, 8, 9, 10, 11, 12] rfl)
        · skip
          have ⟨hb1, hb2, hb8⟩ := Jv_b hl65_1
          refine lv_iload F.1 F.2.1 dL_law_207 (lv_at hl 2 rfl) ?_
          refine k_bipush F dL_law_209 (by decide +kernel) ?_
          refine k_rem F (by omega) (by omega) dL_law_211 ?_
          refine k_iconst F dL_law_212 ?_
          refine k_icmp_ge F (tgt := 231) dL_law_213 (by decide) (by omega) (by omega) (fun c_26 => ?_) (fun c_26 => absurd c_26 (by omega))
          refine lv_iload F.1 F.2.1 dL_law_231 (lv_at hl 2 rfl) ?_
          refine k_bipush F dL_law_233 (by decide +kernel) ?_
          refine k_rem F (by omega) (by omega) dL_law_235 ?_
          refine k_iconst F dL_law_236 ?_
          refine k_icmp_le F (tgt := 265) dL_law_237 (by decide) (by omega) (by omega) (fun c_27 => absurd c_27 (by omega)) (fun c_27 => ?_)
          refine lv_iload F.1 F.2.1 dL_law_240 (lv_at hl 2 rfl) ?_
          refine k_bipush F dL_law_242 (by decide +kernel) ?_
          refine k_rem F (by omega) (by omega) dL_law_244 ?_
          refine k_bipush F dL_law_245 (by decide +kernel) ?_
          refine k_icmp_ge F (tgt := 265) dL_law_247 (by decide) (by omega) (by omega) (fun c_28 => ?_) (fun c_28 => absurd c_28 (by omega))
          refine lv_iload F.1 F.2.1 dL_law_265 (lv_at hl 2 rfl) ?_
          refine k_bipush F dL_law_267 (by decide +kernel) ?_
          refine k_rem F (by omega) (by omega) dL_law_269 ?_
          refine k_bipush F dL_law_270 (by decide +kernel) ?_
          refine k_icmp_le F (tgt := 341) dL_law_272 (by decide) (by omega) (by omega) (fun c_29 => absurd c_29 (by omega)) (fun c_29 => ?_)
          refine lv_iload F.1 F.2.1 dL_law_275 (lv_at hl 2 rfl) ?_
          refine k_bipush F dL_law_277 (by decide +kernel) ?_
          refine k_rem F (by omega) (by omega) dL_law_279 ?_
          refine k_bipush F dL_law_280 (by decide +kernel) ?_
          refine k_icmp_ge F (tgt := 341) dL_law_282 (by decide) (by omega) (by omega) (fun c_30 => absurd c_30 (by omega)) (fun c_30 => ?_)
          refine lv_iload F.1 F.2.1 dL_law_285 (lv_at hl 1 rfl) ?_
          refine k_if_lt F (tgt := 341) dL_law_287 (by decide) (by omega) (fun c_31 => absurd c_31 (by omega)) (fun c_31 => ?_)
          refine lv_aload F.1 F.2.1 dL_law_290 (lv_at hl 8 rfl) ?_
          refine lv_aload_n F.1 F.2.1 dL_law_292 rfl (lv_at hl 9 rfl) ?_
          refine k_iconst F dL_law_293 ?_
          refine k_iald F hK hP 1 rfl 1 rfl (by decide) (by decide) hl65_3.1.2.1 dL_law_294 ?_
          refine lv_aload_n F.1 F.2.1 dL_law_295 rfl (lv_at hl 9 rfl) ?_
          refine k_iconst F dL_law_296 ?_
          refine k_iald F hK hP 1 rfl 2 rfl (by decide) (by decide) hl65_3.1.2.2 dL_law_297 ?_
          refine k_iast F hK hP hD hS 2 rfl ((σ 2 0 0).toNat) (by omega) (by omega) (by decide) dL_law_298 (fun H locs hP hD hS => ?_)
          have hP : gP G (A1 G al fl ++ (A2 G nn am fn (uI fm ((σ 2 0 0).toNat) (σ 8 (σ 2 0 0).toNat 0)) ++ (DW G B P σ1 ++ DW G B2 P2 τ1))) H := hP
          have hD : va_D AA (A1 G al fl ++ (A2 G nn am fn (uI fm ((σ 2 0 0).toNat) (σ 8 (σ 2 0 0).toNat 0)) ++ (DW G B P σ1 ++ DW G B2 P2 τ1))) := hD
          refine lv_aload F.1 F.2.1 dL_law_299 (lv_at hl 7 rfl) ?_
          refine lv_aload_n F.1 F.2.1 dL_law_301 rfl (lv_at hl 9 rfl) ?_
          refine k_iconst F dL_law_302 ?_
          refine k_iald F hK hP 1 rfl 1 rfl (by decide) (by decide) hl65_3.1.2.1 dL_law_303 ?_
          refine k_iconst F dL_law_304 ?_
          refine lv_iload F.1 F.2.1 dL_law_305 (lv_at hl 2 rfl) ?_
          refine k_bipush F dL_law_307 (by decide +kernel) ?_
          refine k_div F (by omega) (by omega) dL_law_309 ?_
          refine lv_iload F.1 F.2.1 dL_law_310 (lv_at hl 2 rfl) ?_
          refine k_bipush F dL_law_312 (by decide +kernel) ?_
          refine k_div F (by omega) (by omega) dL_law_314 ?_
          refine k_iconst F dL_law_315 ?_
          refine k_rem F (by omega) (by omega) dL_law_316 ?_
          have J327 : ∀ dv : Int, (dv = 5 ∨ dv = 600) ∧ dv = (if (xx / 16) % 3 = 0 then 5 else 600) → ∀ (P : Nat → Nat → Nat) (P2 : Nat → Nat → Nat) (H : Heap) (locs : List Loc), gP G (A1 G al fl ++ (A2 G nn am fn (uI fm ((σ 2 0 0).toNat) (σ 8 (σ 2 0 0).toNat 0)) ++ (DW G B P σ1 ++ DW G B2 P2 τ1))) H → va_D AA (A1 G al fl ++ (A2 G nn am fn (uI fm ((σ 2 0 0).toNat) (σ 8 (σ 2 0 0).toNat 0)) ++ (DW G B P σ1 ++ DW G B2 P2 τ1))) → va_S AA sS.heap H locs → ∀ ls : Array Slot, lv_has ls 13 [(9, .int (iI 1)), (12, .int (iI z)), (11, .int (iI xx)), (10, .int (iI (i : Int))), (8, .int (iI (th : Int))), (7, .int (iI u)), (6, .int (iI st)), (5, .ref al), (4, .ref am), (3, .ref nn), (2, .ref (B2 5)), (1, .ref (B 5)), (0, .ref b)] → W pP l eE RR sS mM args bB meth cC H locs (5452 * i + 432) (33840 * i + 3640) QQ (F0 mM 327 ls [.int (iI dv), .int (iI (xx / 16)), .int (iI 1), .int (iI (σ 2 0 0)), .ref al]) := by
            intro dv hj327_0 P P2 H locs hP hD hS ls hl
            refine k_rem F (by omega) (by omega) dL_law_327 ?_
            refine k_iadd F rfl dL_law_328 ?_
            rw [show ((1 + ((xx / 16) % dv)) : Int) = (acL xx) from by unfold acL; rw [hj327_0.2]]
            refine k_iast F hK hP hD hS 0 rfl ((σ 2 0 0).toNat) (by omega) (by omega) (by decide) dL_law_329 (fun H locs hP hD hS => ?_)
            have hP : gP G (A1 G al (uI fl ((σ 2 0 0).toNat) (acL xx)) ++ (A2 G nn am fn (uI fm ((σ 2 0 0).toNat) (σ 8 (σ 2 0 0).toNat 0)) ++ (DW G B P σ1 ++ DW G B2 P2 τ1))) H := hP
            have hD : va_D AA (A1 G al (uI fl ((σ 2 0 0).toNat) (acL xx)) ++ (A2 G nn am fn (uI fm ((σ 2 0 0).toNat) (σ 8 (σ 2 0 0).toNat 0)) ++ (DW G B P σ1 ++ DW G B2 P2 τ1))) := hD
            refine lv_aload_n F.1 F.2.1 dL_law_330 rfl (lv_at hl 9 rfl) ?_
            refine k_iconst F dL_law_331 ?_
            refine lv_dup2_11 F.1 F.2.1 dL_law_332 rfl rfl ?_
            refine k_iald F hK hP 1 rfl 1 rfl (by decide) (by decide) hl65_3.1.2.1 dL_law_333 ?_
            refine k_iconst F dL_law_334 ?_
            refine k_iadd F rfl dL_law_335 ?_
            refine k_iast F hK hP hD hS 1 rfl 1 rfl (by decide) (by decide) dL_law_336 (fun H locs hP hD hS => ?_)
            have hP : gP G (A1 G al (uI fl ((σ 2 0 0).toNat) (acL xx)) ++ (A2 G nn am (uI fn 1 ((σ 2 0 0) + 1)) (uI fm ((σ 2 0 0).toNat) (σ 8 (σ 2 0 0).toNat 0)) ++ (DW G B P σ1 ++ DW G B2 P2 τ1))) H := hP
            have hD : va_D AA (A1 G al (uI fl ((σ 2 0 0).toNat) (acL xx)) ++ (A2 G nn am (uI fn 1 ((σ 2 0 0) + 1)) (uI fm ((σ 2 0 0).toNat) (σ 8 (σ 2 0 0).toNat 0)) ++ (DW G B P σ1 ++ DW G B2 P2 τ1))) := hD
            refine lv_aload_n F.1 F.2.1 dL_law_337 rfl (lv_at hl 9 rfl) ?_
            refine k_iconst F dL_law_338 ?_
            refine k_iconst F dL_law_339 ?_
            refine k_iast F hK hP hD hS 1 rfl 2 rfl (by decide) (by decide) dL_law_340 (fun H locs hP hD hS => ?_)
            have hP : gP G (A1 G al (uI fl ((σ 2 0 0).toNat) (acL xx)) ++ (A2 G nn am (uI (uI fn 1 ((σ 2 0 0) + 1)) 2 0) (uI fm ((σ 2 0 0).toNat) (σ 8 (σ 2 0 0).toNat 0)) ++ (DW G B P σ1 ++ DW G B2 P2 τ1))) H := hP
            have hD : va_D AA (A1 G al (uI fl ((σ 2 0 0).toNat) (acL xx)) ++ (A2 G nn am (uI (uI fn 1 ((σ 2 0 0) + 1)) 2 0) (uI fm ((σ 2 0 0).toNat) (σ 8 (σ 2 0 0).toNat 0)) ++ (DW G B P σ1 ++ DW G B2 P2 τ1))) := hD
            refine W.widen (k := (5452 * i + 432)) (n := (33840 * i + 3640)) (by omega) (by omega) ?_
            exact J341 (uI (uI fn 1 ((σ 2 0 0) + 1)) 2 0) (uI fm ((σ 2 0 0).toNat) (σ 8 (σ 2 0 0).toNat 0)) (uI fl ((σ 2 0 0).toNat) (acL xx)) (arr_2 hl65_3 hl65_1 hc2.2.2.2.2.1 hc2.2.2.2.2.2.1 hc2.2.2.2.2.2.2.1 hc2.2.2.2.2.2.2.2.1 hc2.2.2.2.2.2.2.2.2) P P2 _ _ hP hD hS _ (lv_sub hl [0, 1, 2, 3, 4, 5, 6, 7, 8, 9, 10, 11, 12] rfl)
          refine k_if_ne F (tgt := 324) dL_law_317 (by decide) (by omega) (fun c_32 => ?_) (fun c_32 => ?_)
          · skip
            refine k_sipush F dL_law_324 (by decide +kernel) ?_
            refine W.widen (k := (5452 * i + 432)) (n := (33840 * i + 3640)) (by omega) (by omega) ?_
            exact J327 600 ⟨by omega, by first | rw [if_pos (by omega)] | rw [if_neg (by omega)]⟩ P P2 _ _ hP hD hS _ (lv_sub hl [0, 1, 2, 3, 4, 5, 6, 7, 8, 9, 10, 11, 12] rfl)
          · skip
            refine k_iconst F dL_law_320 ?_
            refine lv_goto (tgt := 327) F.1 F.2.1 dL_law_321 (by decide) ?_
            refine W.widen (k := (5452 * i + 432)) (n := (33840 * i + 3640)) (by omega) (by omega) ?_
            exact J327 5 ⟨by omega, by first | rw [if_pos (by omega)] | rw [if_neg (by omega)]⟩ P P2 _ _ hP hD hS _ (lv_sub hl [0, 1, 2, 3, 4, 5, 6, 7, 8, 9, 10, 11, 12] rfl)
        · skip
          have ⟨hb1, hb2, hb8⟩ := Jv_b hl65_1
          refine lv_iload F.1 F.2.1 dL_law_207 (lv_at hl 2 rfl) ?_
          refine k_bipush F dL_law_209 (by decide +kernel) ?_
          refine k_rem F (by omega) (by omega) dL_law_211 ?_
          refine k_iconst F dL_law_212 ?_
          refine k_icmp_ge F (tgt := 231) dL_law_213 (by decide) (by omega) (by omega) (fun c_33 => ?_) (fun c_33 => ?_)
          · skip
            refine lv_iload F.1 F.2.1 dL_law_231 (lv_at hl 2 rfl) ?_
            refine k_bipush F dL_law_233 (by decide +kernel) ?_
            refine k_rem F (by omega) (by omega) dL_law_235 ?_
            refine k_iconst F dL_law_236 ?_
            refine k_icmp_le F (tgt := 265) dL_law_237 (by decide) (by omega) (by omega) (fun c_34 => ?_) (fun c_34 => ?_)
            · skip
              refine lv_iload F.1 F.2.1 dL_law_265 (lv_at hl 2 rfl) ?_
              refine k_bipush F dL_law_267 (by decide +kernel) ?_
              refine k_rem F (by omega) (by omega) dL_law_269 ?_
              refine k_bipush F dL_law_270 (by decide +kernel) ?_
              refine k_icmp_le F (tgt := 341) dL_law_272 (by decide) (by omega) (by omega) (fun c_35 => ?_) (fun c_35 => ?_)
              · skip
                refine W.widen (k := (5452 * i + 432)) (n := (33840 * i + 3640)) (by omega) (by omega) ?_
                exact J341 fn fm fl (arr_3 hl65_3 hc3.2.1 hc3.2.2.1 hc3.2.2.2.1 hc3.2.2.2.2) P P2 _ _ hP hD hS _ (lv_sub hl [0, 1, 2, 3, 4, 5, 6, 7, 8, 9, 10, 11, 12] rfl)
              · skip
                refine lv_iload F.1 F.2.1 dL_law_275 (lv_at hl 2 rfl) ?_
                refine k_bipush F dL_law_277 (by decide +kernel) ?_
                refine k_rem F (by omega) (by omega) dL_law_279 ?_
                refine k_bipush F dL_law_280 (by decide +kernel) ?_
                refine k_icmp_ge F (tgt := 341) dL_law_282 (by decide) (by omega) (by omega) (fun c_36 => ?_) (fun c_36 => ?_)
                · skip
                  refine W.widen (k := (5452 * i + 432)) (n := (33840 * i + 3640)) (by omega) (by omega) ?_
                  exact J341 fn fm fl (arr_3 hl65_3 hc3.2.1 hc3.2.2.1 hc3.2.2.2.1 hc3.2.2.2.2) P P2 _ _ hP hD hS _ (lv_sub hl [0, 1, 2, 3, 4, 5, 6, 7, 8, 9, 10, 11, 12] rfl)
                · skip
                  refine lv_iload F.1 F.2.1 dL_law_285 (lv_at hl 1 rfl) ?_
                  refine k_if_lt F (tgt := 341) dL_law_287 (by decide) (by omega) (fun c_37 => ?_) (fun c_37 => absurd c_37 (by omega))
                  refine W.widen (k := (5452 * i + 432)) (n := (33840 * i + 3640)) (by omega) (by omega) ?_
                  exact J341 fn fm fl (arr_3 hl65_3 hc3.2.1 hc3.2.2.1 hc3.2.2.2.1 hc3.2.2.2.2) P P2 _ _ hP hD hS _ (lv_sub hl [0, 1, 2, 3, 4, 5, 6, 7, 8, 9, 10, 11, 12] rfl)
            · skip
              refine lv_iload F.1 F.2.1 dL_law_240 (lv_at hl 2 rfl) ?_
              refine k_bipush F dL_law_242 (by decide +kernel) ?_
              refine k_rem F (by omega) (by omega) dL_law_244 ?_
              refine k_bipush F dL_law_245 (by decide +kernel) ?_
              refine k_icmp_ge F (tgt := 265) dL_law_247 (by decide) (by omega) (by omega) (fun c_38 => ?_) (fun c_38 => ?_)
              · skip
                refine lv_iload F.1 F.2.1 dL_law_265 (lv_at hl 2 rfl) ?_
                refine k_bipush F dL_law_267 (by decide +kernel) ?_
                refine k_rem F (by omega) (by omega) dL_law_269 ?_
                refine k_bipush F dL_law_270 (by decide +kernel) ?_
                refine k_icmp_le F (tgt := 341) dL_law_272 (by decide) (by omega) (by omega) (fun c_39 => ?_) (fun c_39 => ?_)
                · skip
                  refine W.widen (k := (5452 * i + 432)) (n := (33840 * i + 3640)) (by omega) (by omega) ?_
                  exact J341 fn fm fl (arr_3 hl65_3 hc3.2.1 hc3.2.2.1 hc3.2.2.2.1 hc3.2.2.2.2) P P2 _ _ hP hD hS _ (lv_sub hl [0, 1, 2, 3, 4, 5, 6, 7, 8, 9, 10, 11, 12] rfl)
                · skip
                  refine lv_iload F.1 F.2.1 dL_law_275 (lv_at hl 2 rfl) ?_
                  refine k_bipush F dL_law_277 (by decide +kernel) ?_
                  refine k_rem F (by omega) (by omega) dL_law_279 ?_
                  refine k_bipush F dL_law_280 (by decide +kernel) ?_
                  refine k_icmp_ge F (tgt := 341) dL_law_282 (by decide) (by omega) (by omega) (fun c_40 => ?_) (fun c_40 => ?_)
                  · skip
                    refine W.widen (k := (5452 * i + 432)) (n := (33840 * i + 3640)) (by omega) (by omega) ?_
                    exact J341 fn fm fl (arr_3 hl65_3 hc3.2.1 hc3.2.2.1 hc3.2.2.2.1 hc3.2.2.2.2) P P2 _ _ hP hD hS _ (lv_sub hl [0, 1, 2, 3, 4, 5, 6, 7, 8, 9, 10, 11, 12] rfl)
                  · skip
                    refine lv_iload F.1 F.2.1 dL_law_285 (lv_at hl 1 rfl) ?_
                    refine k_if_lt F (tgt := 341) dL_law_287 (by decide) (by omega) (fun c_41 => ?_) (fun c_41 => absurd c_41 (by omega))
                    refine W.widen (k := (5452 * i + 432)) (n := (33840 * i + 3640)) (by omega) (by omega) ?_
                    exact J341 fn fm fl (arr_3 hl65_3 hc3.2.1 hc3.2.2.1 hc3.2.2.2.1 hc3.2.2.2.2) P P2 _ _ hP hD hS _ (lv_sub hl [0, 1, 2, 3, 4, 5, 6, 7, 8, 9, 10, 11, 12] rfl)
              · skip
                refine lv_iload F.1 F.2.1 dL_law_250 (lv_at hl 1 rfl) ?_
                refine k_if_lt F (tgt := 265) dL_law_252 (by decide) (by omega) (fun c_42 => ?_) (fun c_42 => absurd c_42 (by omega))
                refine lv_iload F.1 F.2.1 dL_law_265 (lv_at hl 2 rfl) ?_
                refine k_bipush F dL_law_267 (by decide +kernel) ?_
                refine k_rem F (by omega) (by omega) dL_law_269 ?_
                refine k_bipush F dL_law_270 (by decide +kernel) ?_
                refine k_icmp_le F (tgt := 341) dL_law_272 (by decide) (by omega) (by omega) (fun c_43 => ?_) (fun c_43 => ?_)
                · skip
                  refine W.widen (k := (5452 * i + 432)) (n := (33840 * i + 3640)) (by omega) (by omega) ?_
                  exact J341 fn fm fl (arr_3 hl65_3 hc3.2.1 hc3.2.2.1 hc3.2.2.2.1 hc3.2.2.2.2) P P2 _ _ hP hD hS _ (lv_sub hl [0, 1, 2, 3, 4, 5, 6, 7, 8, 9, 10, 11, 12] rfl)
                · skip
                  refine lv_iload F.1 F.2.1 dL_law_275 (lv_at hl 2 rfl) ?_
                  refine k_bipush F dL_law_277 (by decide +kernel) ?_
                  refine k_rem F (by omega) (by omega) dL_law_279 ?_
                  refine k_bipush F dL_law_280 (by decide +kernel) ?_
                  refine k_icmp_ge F (tgt := 341) dL_law_282 (by decide) (by omega) (by omega) (fun c_44 => ?_) (fun c_44 => ?_)
                  · skip
                    refine W.widen (k := (5452 * i + 432)) (n := (33840 * i + 3640)) (by omega) (by omega) ?_
                    exact J341 fn fm fl (arr_3 hl65_3 hc3.2.1 hc3.2.2.1 hc3.2.2.2.1 hc3.2.2.2.2) P P2 _ _ hP hD hS _ (lv_sub hl [0, 1, 2, 3, 4, 5, 6, 7, 8, 9, 10, 11, 12] rfl)
                  · skip
                    refine lv_iload F.1 F.2.1 dL_law_285 (lv_at hl 1 rfl) ?_
                    refine k_if_lt F (tgt := 341) dL_law_287 (by decide) (by omega) (fun c_45 => ?_) (fun c_45 => absurd c_45 (by omega))
                    refine W.widen (k := (5452 * i + 432)) (n := (33840 * i + 3640)) (by omega) (by omega) ?_
                    exact J341 fn fm fl (arr_3 hl65_3 hc3.2.1 hc3.2.2.1 hc3.2.2.2.1 hc3.2.2.2.2) P P2 _ _ hP hD hS _ (lv_sub hl [0, 1, 2, 3, 4, 5, 6, 7, 8, 9, 10, 11, 12] rfl)
          · skip
            refine lv_iload F.1 F.2.1 dL_law_216 (lv_at hl 1 rfl) ?_
            refine k_if_lt F (tgt := 231) dL_law_218 (by decide) (by omega) (fun c_46 => ?_) (fun c_46 => absurd c_46 (by omega))
            refine lv_iload F.1 F.2.1 dL_law_231 (lv_at hl 2 rfl) ?_
            refine k_bipush F dL_law_233 (by decide +kernel) ?_
            refine k_rem F (by omega) (by omega) dL_law_235 ?_
            refine k_iconst F dL_law_236 ?_
            refine k_icmp_le F (tgt := 265) dL_law_237 (by decide) (by omega) (by omega) (fun c_47 => ?_) (fun c_47 => ?_)
            · skip
              refine lv_iload F.1 F.2.1 dL_law_265 (lv_at hl 2 rfl) ?_
              refine k_bipush F dL_law_267 (by decide +kernel) ?_
              refine k_rem F (by omega) (by omega) dL_law_269 ?_
              refine k_bipush F dL_law_270 (by decide +kernel) ?_
              refine k_icmp_le F (tgt := 341) dL_law_272 (by decide) (by omega) (by omega) (fun c_48 => ?_) (fun c_48 => ?_)
              · skip
                refine W.widen (k := (5452 * i + 432)) (n := (33840 * i + 3640)) (by omega) (by omega) ?_
                exact J341 fn fm fl (arr_3 hl65_3 hc3.2.1 hc3.2.2.1 hc3.2.2.2.1 hc3.2.2.2.2) P P2 _ _ hP hD hS _ (lv_sub hl [0, 1, 2, 3, 4, 5, 6, 7, 8, 9, 10, 11, 12] rfl)
              · skip
                refine lv_iload F.1 F.2.1 dL_law_275 (lv_at hl 2 rfl) ?_
                refine k_bipush F dL_law_277 (by decide +kernel) ?_
                refine k_rem F (by omega) (by omega) dL_law_279 ?_
                refine k_bipush F dL_law_280 (by decide +kernel) ?_
                refine k_icmp_ge F (tgt := 341) dL_law_282 (by decide) (by omega) (by omega) (fun c_49 => ?_) (fun c_49 => ?_)
                · skip
                  refine W.widen (k := (5452 * i + 432)) (n := (33840 * i + 3640)) (by omega) (by omega) ?_
                  exact J341 fn fm fl (arr_3 hl65_3 hc3.2.1 hc3.2.2.1 hc3.2.2.2.1 hc3.2.2.2.2) P P2 _ _ hP hD hS _ (lv_sub hl [0, 1, 2, 3, 4, 5, 6, 7, 8, 9, 10, 11, 12] rfl)
                · skip
                  refine lv_iload F.1 F.2.1 dL_law_285 (lv_at hl 1 rfl) ?_
                  refine k_if_lt F (tgt := 341) dL_law_287 (by decide) (by omega) (fun c_50 => ?_) (fun c_50 => absurd c_50 (by omega))
                  refine W.widen (k := (5452 * i + 432)) (n := (33840 * i + 3640)) (by omega) (by omega) ?_
                  exact J341 fn fm fl (arr_3 hl65_3 hc3.2.1 hc3.2.2.1 hc3.2.2.2.1 hc3.2.2.2.2) P P2 _ _ hP hD hS _ (lv_sub hl [0, 1, 2, 3, 4, 5, 6, 7, 8, 9, 10, 11, 12] rfl)
            · skip
              refine lv_iload F.1 F.2.1 dL_law_240 (lv_at hl 2 rfl) ?_
              refine k_bipush F dL_law_242 (by decide +kernel) ?_
              refine k_rem F (by omega) (by omega) dL_law_244 ?_
              refine k_bipush F dL_law_245 (by decide +kernel) ?_
              refine k_icmp_ge F (tgt := 265) dL_law_247 (by decide) (by omega) (by omega) (fun c_51 => ?_) (fun c_51 => ?_)
              · skip
                refine lv_iload F.1 F.2.1 dL_law_265 (lv_at hl 2 rfl) ?_
                refine k_bipush F dL_law_267 (by decide +kernel) ?_
                refine k_rem F (by omega) (by omega) dL_law_269 ?_
                refine k_bipush F dL_law_270 (by decide +kernel) ?_
                refine k_icmp_le F (tgt := 341) dL_law_272 (by decide) (by omega) (by omega) (fun c_52 => ?_) (fun c_52 => ?_)
                · skip
                  refine W.widen (k := (5452 * i + 432)) (n := (33840 * i + 3640)) (by omega) (by omega) ?_
                  exact J341 fn fm fl (arr_3 hl65_3 hc3.2.1 hc3.2.2.1 hc3.2.2.2.1 hc3.2.2.2.2) P P2 _ _ hP hD hS _ (lv_sub hl [0, 1, 2, 3, 4, 5, 6, 7, 8, 9, 10, 11, 12] rfl)
                · skip
                  refine lv_iload F.1 F.2.1 dL_law_275 (lv_at hl 2 rfl) ?_
                  refine k_bipush F dL_law_277 (by decide +kernel) ?_
                  refine k_rem F (by omega) (by omega) dL_law_279 ?_
                  refine k_bipush F dL_law_280 (by decide +kernel) ?_
                  refine k_icmp_ge F (tgt := 341) dL_law_282 (by decide) (by omega) (by omega) (fun c_53 => ?_) (fun c_53 => ?_)
                  · skip
                    refine W.widen (k := (5452 * i + 432)) (n := (33840 * i + 3640)) (by omega) (by omega) ?_
                    exact J341 fn fm fl (arr_3 hl65_3 hc3.2.1 hc3.2.2.1 hc3.2.2.2.1 hc3.2.2.2.2) P P2 _ _ hP hD hS _ (lv_sub hl [0, 1, 2, 3, 4, 5, 6, 7, 8, 9, 10, 11, 12] rfl)
                  · skip
                    refine lv_iload F.1 F.2.1 dL_law_285 (lv_at hl 1 rfl) ?_
                    refine k_if_lt F (tgt := 341) dL_law_287 (by decide) (by omega) (fun c_54 => ?_) (fun c_54 => absurd c_54 (by omega))
                    refine W.widen (k := (5452 * i + 432)) (n := (33840 * i + 3640)) (by omega) (by omega) ?_
                    exact J341 fn fm fl (arr_3 hl65_3 hc3.2.1 hc3.2.2.1 hc3.2.2.2.1 hc3.2.2.2.2) P P2 _ _ hP hD hS _ (lv_sub hl [0, 1, 2, 3, 4, 5, 6, 7, 8, 9, 10, 11, 12] rfl)
              · skip
                refine lv_iload F.1 F.2.1 dL_law_250 (lv_at hl 1 rfl) ?_
                refine k_if_lt F (tgt := 265) dL_law_252 (by decide) (by omega) (fun c_55 => ?_) (fun c_55 => absurd c_55 (by omega))
                refine lv_iload F.1 F.2.1 dL_law_265 (lv_at hl 2 rfl) ?_
                refine k_bipush F dL_law_267 (by decide +kernel) ?_
                refine k_rem F (by omega) (by omega) dL_law_269 ?_
                refine k_bipush F dL_law_270 (by decide +kernel) ?_
                refine k_icmp_le F (tgt := 341) dL_law_272 (by decide) (by omega) (by omega) (fun c_56 => ?_) (fun c_56 => ?_)
                · skip
                  refine W.widen (k := (5452 * i + 432)) (n := (33840 * i + 3640)) (by omega) (by omega) ?_
                  exact J341 fn fm fl (arr_3 hl65_3 hc3.2.1 hc3.2.2.1 hc3.2.2.2.1 hc3.2.2.2.2) P P2 _ _ hP hD hS _ (lv_sub hl [0, 1, 2, 3, 4, 5, 6, 7, 8, 9, 10, 11, 12] rfl)
                · skip
                  refine lv_iload F.1 F.2.1 dL_law_275 (lv_at hl 2 rfl) ?_
                  refine k_bipush F dL_law_277 (by decide +kernel) ?_
                  refine k_rem F (by omega) (by omega) dL_law_279 ?_
                  refine k_bipush F dL_law_280 (by decide +kernel) ?_
                  refine k_icmp_ge F (tgt := 341) dL_law_282 (by decide) (by omega) (by omega) (fun c_57 => ?_) (fun c_57 => ?_)
                  · skip
                    refine W.widen (k := (5452 * i + 432)) (n := (33840 * i + 3640)) (by omega) (by omega) ?_
                    exact J341 fn fm fl (arr_3 hl65_3 hc3.2.1 hc3.2.2.1 hc3.2.2.2.1 hc3.2.2.2.2) P P2 _ _ hP hD hS _ (lv_sub hl [0, 1, 2, 3, 4, 5, 6, 7, 8, 9, 10, 11, 12] rfl)
                  · skip
                    refine lv_iload F.1 F.2.1 dL_law_285 (lv_at hl 1 rfl) ?_
                    refine k_if_lt F (tgt := 341) dL_law_287 (by decide) (by omega) (fun c_58 => ?_) (fun c_58 => absurd c_58 (by omega))
                    refine W.widen (k := (5452 * i + 432)) (n := (33840 * i + 3640)) (by omega) (by omega) ?_
                    exact J341 fn fm fl (arr_3 hl65_3 hc3.2.1 hc3.2.2.1 hc3.2.2.2.1 hc3.2.2.2.2) P P2 _ _ hP hD hS _ (lv_sub hl [0, 1, 2, 3, 4, 5, 6, 7, 8, 9, 10, 11, 12] rfl)
      refine k_iconst F dL_law_89 ?_
      refine k_icmp_ge F (tgt := 110) dL_law_90 (by decide) (by omega) (by omega) (fun c_59 => ?_) (fun c_59 => ?_)
      · skip
        refine lv_iload F.1 F.2.1 dL_law_110 (lv_at hl 1 rfl) ?_
        refine k_bipush F dL_law_112 (by decide +kernel) ?_
        refine k_icmp_ge F (tgt := 131) dL_law_114 (by decide) (by omega) (by omega) (fun c_60 => ?_) (fun c_60 => ?_)
        · skip
          refine lv_iload F.1 F.2.1 dL_law_131 (lv_at hl 1 rfl) ?_
          refine k_bipush F dL_law_133 (by decide +kernel) ?_
          refine k_icmp_ne F (tgt := 152) dL_law_135 (by decide) (by omega) (by omega) (fun c_61 => ?_) (fun c_61 => ?_)
          · skip
            refine lv_iload F.1 F.2.1 dL_law_152 (lv_at hl 0 rfl) ?_
            refine W.widen (k := (5452 * i + 100)) (n := (33840 * i + 1000)) (by omega) (by omega) ?_
            exact J154 x0 (by omega) P P2 _ _ hP hD hS _ (lv_sub hl [0, 1, 2, 3, 4, 5, 6, 7, 8, 9, 10, 11] rfl)
          · skip
            refine lv_iload F.1 F.2.1 dL_law_138 (lv_at hl 0 rfl) ?_
            refine k_bipush F dL_law_140 (by decide +kernel) ?_
            refine k_div F (by omega) (by omega) dL_law_142 ?_
            refine k_bipush F dL_law_143 (by decide +kernel) ?_
            refine k_imul F rfl dL_law_145 ?_
            refine k_bipush F dL_law_146 (by decide +kernel) ?_
            refine k_iadd F rfl dL_law_148 ?_
            refine lv_goto (tgt := 154) F.1 F.2.1 dL_law_149 (by decide) ?_
            refine W.widen (k := (5452 * i + 100)) (n := (33840 * i + 1000)) (by omega) (by omega) ?_
            exact J154 (((x0 / 16) * 16) + 11) (by omega) P P2 _ _ hP hD hS _ (lv_sub hl [0, 1, 2, 3, 4, 5, 6, 7, 8, 9, 10, 11] rfl)
        · skip
          refine lv_iload F.1 F.2.1 dL_law_117 (lv_at hl 0 rfl) ?_
          refine k_bipush F dL_law_119 (by decide +kernel) ?_
          refine k_div F (by omega) (by omega) dL_law_121 ?_
          refine k_bipush F dL_law_122 (by decide +kernel) ?_
          refine k_imul F rfl dL_law_124 ?_
          refine k_bipush F dL_law_125 (by decide +kernel) ?_
          refine k_iadd F rfl dL_law_127 ?_
          refine lv_goto (tgt := 154) F.1 F.2.1 dL_law_128 (by decide) ?_
          refine W.widen (k := (5452 * i + 100)) (n := (33840 * i + 1000)) (by omega) (by omega) ?_
          exact J154 (((x0 / 16) * 16) + 6) (by omega) P P2 _ _ hP hD hS _ (lv_sub hl [0, 1, 2, 3, 4, 5, 6, 7, 8, 9, 10, 11] rfl)
      · skip
        refine lv_iload F.1 F.2.1 dL_law_93 (lv_at hl 0 rfl) ?_
        refine k_bipush F dL_law_95 (by decide +kernel) ?_
        refine k_div F (by omega) (by omega) dL_law_97 ?_
        refine k_bipush F dL_law_98 (by decide +kernel) ?_
        refine k_imul F rfl dL_law_100 ?_
        refine k_bipush F dL_law_101 (by decide +kernel) ?_
        refine lv_iload F.1 F.2.1 dL_law_103 (lv_at hl 1 rfl) ?_
        refine k_imul F rfl dL_law_105 ?_
        refine k_iadd F rfl dL_law_106 ?_
        refine lv_goto (tgt := 154) F.1 F.2.1 dL_law_107 (by decide) ?_
        refine W.widen (k := (5452 * i + 100)) (n := (33840 * i + 1000)) (by omega) (by omega) ?_
        exact J154 (((x0 / 64) * 64) + (16 * (i : Int))) (by omega) P P2 _ _ hP hD hS _ (lv_sub hl [0, 1, 2, 3, 4, 5, 6, 7, 8, 9, 10, 11] rfl)
  have e_62 : (0 : Int) = ((0 : Nat) : Int) := rfl
  refine W.widen (k := (5452 * 0 + 100)) (n := (33840 * 0 + 1000)) (by omega) (by omega) ?_
  exact L65 0 (Nat.zero_le _) (fun _ _ _ => 0) (fun _ _ _ => 0) (fun _ => 0) (fun _ => 0) (fun _ => 0) (Tw_0 u) (show Jv (fun _ _ _ => 0) 0 from Iv_0) (show Jv (fun _ _ _ => 0) 0 from Iv_0) ⟨⟨rfl, rfl, rfl⟩, fun _ _ => rfl, fun _ _ => rfl⟩ P P2 _ _ hP hD hS _ (lv_to (lv_sub hl [0, 1, 2, 3, 4, 5, 6, 7, 8, 9, 10] rfl) (congrArg (fun x9 : Int => ([(10, .int (iI x9)), (9, .int (iI 1)), (8, .int (iI (th : Int))), (7, .int (iI u)), (6, .int (iI st)), (5, .ref al), (4, .ref am), (3, .ref nn), (2, .ref (B2 5)), (1, .ref (B 5)), (0, .ref b)] : List (Nat × Value))) e_62))
