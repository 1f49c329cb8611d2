/-! the law: its loop -/
theorem and31 (x : Int) : ∃ j : Nat, j < 32 ∧ andI x 31 = (j : Int) := by
  have h : ∀ y : BitVec 32, (y &&& 31#32).toInt < 32 ∧ 0 ≤ (y &&& 31#32).toInt := by
    intro y
    have h1 : (y &&& 31#32).toNat ≤ 31 := by
      rw [BitVec.toNat_and]; exact Nat.and_le_right
    rw [BitVec.toInt_eq_toNat_of_lt (by omega)]
    omega
  have h2 := h (BitVec.ofInt 32 x)
  have h3 : andI x 31 = (BitVec.ofInt 32 x &&& 31#32).toInt := rfl
  rw [← h3] at h2
  exact ⟨(andI x 31).toNat, by omega, by omega⟩

set_option maxHeartbeats 8000000 in
set_option maxRecDepth 100000 in
theorem law_loop {p : Program} {l : Launch} {e : Env} {R : Room} {s : State} {m : MethodId} {args : Array Value} {below : List Frame} {meth : Method} {c : Code} {Q : State → Prop} {AA : Nat → Prop} (F : CallFix p m c cL_law 7 s args wsL_law RL) (hfl : l.stackTraces = false) (hRf : 12 ≤ R.frames ∧ 400 ≤ R.locals) {G : gT} {B A : Nat → Nat} {o b L z0 : Nat} {xs : Nat → Int32} (hX : va_X b L xs s s.heap) (hbl : b < s.heap.size) (hbA : ¬ AA b) (hL : L ≤ 2560) (hK : gK G s) (hz : lz z0 s) (hAz : ∀ q, AA q → z0 ≤ q) (hA : ∀ q, s.heap.size ≤ q → AA q) (hRc : 8000 ≤ R.cells ∧ 200000 ≤ R.slots)
    (hend : ∀ (H : Heap) (locs : List Loc) (ls : Array Slot) (N : Nat), N ≤ 512 → va_S AA s.heap H locs → W p l e R s m args below meth c H locs (40 + 8 * N) (2000 + 200 * N) Q (F0 m 1401 ls [])) : ∀ (q N : Nat), 5 * (N + q) ≤ L + 4 → L ≤ 5 * (N + q) + 4 → ∀ (f : Nat → Int64) (P : Nat → Nat → Nat) (r0 : Int) (σ : Sg) (n k : Nat) (H : Heap) (locs : List Loc) (ls : Array Slot), Iv σ n k N → gP G ((oC G o f ++ CW G B P σ k) ++ MW G A r0 σ) H → va_D AA ((oC G o f ++ CW G B P σ k) ++ MW G A r0 σ) → va_S AA s.heap H locs → lv_has ls 7 [(0, .ref b), (1, .ref (B 5)), (2, .ref (A 0)), (3, .ref o), (4, .int (iI ((5 * N : Nat) : Int)))] → N ≤ 512 → W p l e R s m args below meth c H locs (40 + 8 * N) (2000 + 200 * N) Q (F0 m 23 ls []) := by
  intro q
  induction q with
  | zero =>
    intro N hq1 hq2 f P r0 σ n k H locs ls hI hP hD hS hl hN9
    refine lv_iload F.1 F.2.1 dL_law_23 (lv_at hl 4 rfl) ?_
    refine lv_aload_n F.1 F.2.1 dL_law_25 rfl (lv_at hl 0 rfl) ?_
    refine va_slen F.1 F.2.1 hX hbl hbA hS dL_law_26 ?_
    rw [show Int32.ofNat L = iI (L : Int) from (iI_nat L).symm]
    refine k_iconst F dL_law_27 ?_
    refine k_isub F rfl dL_law_28 ?_
    refine k_icmp_gt F (tgt := 1401) dL_law_29 (by decide) (by omega) (by omega) (fun _ => ?_) (fun c9 => absurd c9 (by omega))
    exact hend H locs ls N hN9 hS
  | succ q ih =>
    intro N hq1 hq2 f P r0 σ n k H locs ls hI hP hD hS hl hN9
    refine lv_iload F.1 F.2.1 dL_law_23 (lv_at hl 4 rfl) ?_
    refine lv_aload_n F.1 F.2.1 dL_law_25 rfl (lv_at hl 0 rfl) ?_
    refine va_slen F.1 F.2.1 hX hbl hbA hS dL_law_26 ?_
    rw [show Int32.ofNat L = iI (L : Int) from (iI_nat L).symm]
    refine k_iconst F dL_law_27 ?_
    refine k_isub F rfl dL_law_28 ?_
    refine k_icmp_gt F (tgt := 1401) dL_law_29 (by decide) (by omega) (by omega) (fun _ => hend H locs ls N hN9 hS) (fun c9 => ?_)
    have hN : 5 * N + 5 ≤ L := by omega
    have hc : 40 + 8 * N + 8 ≤ R.cells ∧ 2000 + 200 * N + 200 ≤ R.slots := by omega
    have hnext : ∀ (f' : Nat → Int64) (P' : Nat → Nat → Nat) (r' : Int) (σ' : Sg) (n' k' : Nat) (H1 : Heap) (locs1 : List Loc) (ls1 : Array Slot), Iv σ' n' k' (N + 1) → gP G ((oC G o f' ++ CW G B P' σ' k') ++ MW G A r' σ') H1 → va_D AA ((oC G o f' ++ CW G B P' σ' k') ++ MW G A r' σ') → va_S AA s.heap H1 locs1 → lv_has ls1 7 [(0, .ref b), (1, .ref (B 5)), (2, .ref (A 0)), (3, .ref o), (4, .int (iI ((5 * N : Nat) : Int)))] → W p l e R s m args below meth c H1 locs1 (40 + 8 * N + 8) (2000 + 200 * N + 200) Q (F0 m 1395 ls1 []) := by
      intro f' P' r' σ' n' k' H1 locs1 ls1 hI1 hP1 hD1 hS1 hl1
      refine lv_iinc (v := iI (((5 * N : Nat) : Int) + 5)) (lv' := [(4, .int (iI (((5 * N : Nat) : Int) + 5))), (0, .ref b), (1, .ref (B 5)), (2, .ref (A 0)), (3, .ref o)]) F.1 F.2.1 dL_law_1395 hl1 (k := 4) rfl (iI_add _ _) (by decide) rfl (fun ls2 hl2 => ?_)
      rw [show ((5 * N : Nat) : Int) + 5 = ((5 * (N + 1) : Nat) : Int) by omega] at hl2
      refine lv_goto (tgt := 23) F.1 F.2.1 dL_law_1398 (by decide) ?_
      refine W.widen (k := 40 + 8 * (N + 1)) (n := 2000 + 200 * (N + 1)) (by omega) (by omega) ?_
      exact ih (N + 1) (by omega) (by omega) f' P' r' σ' n' k' H1 locs1 ls2 hI1 hP1 hD1 hS1 (lv_sub hl2 [1, 2, 3, 4, 0] rfl) (by omega)
    refine lv_aload_n F.1 F.2.1 dL_law_32 rfl (lv_at hl 0 rfl) ?_
    refine lv_iload F.1 F.2.1 dL_law_33 (lv_at hl 4 rfl) ?_
    refine k_sld F hX hbl hbA hS (5 * N) (by omega) (by omega) hL dL_law_35 ?_
    refine k_bipush F dL_law_36 (by decide +kernel) ?_
    refine k_iand F dL_law_38 ?_
    obtain ⟨j, hj, ej⟩ := and31 (xs (5 * N)).toInt
    rw [ej]
    have hj2 : j = 0 ∨ j = 1 ∨ j = 2 ∨ j = 3 ∨ j = 4 ∨ j = 5 ∨ j = 6 ∨ j = 7 ∨ j = 8 ∨ j = 9 ∨ j = 10 ∨ j = 11 ∨ j = 12 ∨ j = 13 ∨ j = 14 ∨ j = 15 ∨ j = 16 ∨ j = 17 ∨ 18 ≤ j := by omega
    rcases hj2 with rfl | rfl | rfl | rfl | rfl | rfl | rfl | rfl | rfl | rfl | rfl | rfl | rfl | rfl | rfl | rfl | rfl | rfl | hj18
    · refine lv_tableIn (off := 85) (tgt := 124) F.1 F.2.1 dL_law_39 (by decide +kernel) (by decide +kernel) (by decide +kernel) (by decide) ?_
      exact law_addSinger F hfl hRf hX hbl hbA hL hK hz hAz hA N hN hc f P r0 σ hI hP hD hS hl hnext
    · refine lv_tableIn (off := 165) (tgt := 204) F.1 F.2.1 dL_law_39 (by decide +kernel) (by decide +kernel) (by decide +kernel) (by decide) ?_
      exact law_tell F hfl hRf hX hbl hbA hL hK hz hAz hA N hN hc f P r0 σ hI hP hD hS hl hnext
    · refine lv_tableIn (off := 268) (tgt := 307) F.1 F.2.1 dL_law_39 (by decide +kernel) (by decide +kernel) (by decide +kernel) (by decide) ?_
      exact law_change F hfl hRf hX hbl hbA hL hK hz hAz hA N hN hc f P r0 σ hI hP hD hS hl hnext
    · refine lv_tableIn (off := 336) (tgt := 375) F.1 F.2.1 dL_law_39 (by decide +kernel) (by decide +kernel) (by decide +kernel) (by decide) ?_
      exact law_range F hfl hRf hX hbl hbA hL hK hz hAz hA N hN hc f P r0 σ hI hP hD hS hl hnext
    · refine lv_tableIn (off := 404) (tgt := 443) F.1 F.2.1 dL_law_39 (by decide +kernel) (by decide +kernel) (by decide +kernel) (by decide) ?_
      exact law_chord F hfl hRf hX hbl hbA hL hK hz hAz hA N hN hc f P r0 σ hI hP hD hS hl hnext
    · refine lv_tableIn (off := 496) (tgt := 535) F.1 F.2.1 dL_law_39 (by decide +kernel) (by decide +kernel) (by decide +kernel) (by decide) ?_
      exact law_addPiece F hfl hRf hX hbl hbA hL hK hz hAz hA N hN hc f P r0 σ hI hP hD hS hl hnext
    · refine lv_tableIn (off := 552) (tgt := 591) F.1 F.2.1 dL_law_39 (by decide +kernel) (by decide +kernel) (by decide +kernel) (by decide) ?_
      exact law_setTone F hfl hRf hX hbl hbA hL hK hz hAz hA N hN hc f P r0 σ hI hP hD hS hl hnext
    · refine lv_tableIn (off := 644) (tgt := 683) F.1 F.2.1 dL_law_39 (by decide +kernel) (by decide +kernel) (by decide +kernel) (by decide) ?_
      exact law_faultsAt F hfl hRf hX hbl hbA hL hK hz hAz hA N hN hc f P r0 σ hI hP hD hS hl hnext
    · refine lv_tableIn (off := 712) (tgt := 751) F.1 F.2.1 dL_law_39 (by decide +kernel) (by decide +kernel) (by decide +kernel) (by decide) ?_
      exact law_faults F hfl hRf hX hbl hbA hL hK hz hAz hA N hN hc f P r0 σ hI hP hD hS hl hnext
    · refine lv_tableIn (off := 768) (tgt := 807) F.1 F.2.1 dL_law_39 (by decide +kernel) (by decide +kernel) (by decide +kernel) (by decide) ?_
      exact law_leastFaults F hfl hRf hX hbl hbA hL hK hz hAz hA N hN hc f P r0 σ hI hP hD hS hl hnext
    · refine lv_tableIn (off := 848) (tgt := 887) F.1 F.2.1 dL_law_39 (by decide +kernel) (by decide +kernel) (by decide +kernel) (by decide) ?_
      exact law_shift F hfl hRf hX hbl hbA hL hK hz hAz hA N hN hc f P r0 σ hI hP hD hS hl hnext
    · refine lv_tableIn (off := 916) (tgt := 955) F.1 F.2.1 dL_law_39 (by decide +kernel) (by decide +kernel) (by decide +kernel) (by decide) ?_
      exact law_dates F hfl hRf hX hbl hbA hL hK hz hAz hA N hN hc f P r0 σ hI hP hD hS hl hnext
    · refine lv_tableIn (off := 972) (tgt := 1011) F.1 F.2.1 dL_law_39 (by decide +kernel) (by decide +kernel) (by decide +kernel) (by decide) ?_
      exact law_missed F hfl hRf hX hbl hbA hL hK hz hAz hA N hN hc f P r0 σ hI hP hD hS hl hnext
    · refine lv_tableIn (off := 1028) (tgt := 1067) F.1 F.2.1 dL_law_39 (by decide +kernel) (by decide +kernel) (by decide +kernel) (by decide) ?_
      exact law_programme F hfl hRf hX hbl hbA hL hK hz hAz hA N hN hc f P r0 σ hI hP hD hS hl hnext
    · refine lv_tableIn (off := 1096) (tgt := 1135) F.1 F.2.1 dL_law_39 (by decide +kernel) (by decide +kernel) (by decide +kernel) (by decide) ?_
      exact law_duration F hfl hRf hX hbl hbA hL hK hz hAz hA N hN hc f P r0 σ hI hP hD hS hl hnext
    · refine lv_tableIn (off := 1164) (tgt := 1203) F.1 F.2.1 dL_law_39 (by decide +kernel) (by decide +kernel) (by decide +kernel) (by decide) ?_
      exact law_rehearse F hfl hRf hX hbl hbA hL hK hz hAz hA N hN hc f P r0 σ hI hP hD hS hl hnext
    · refine lv_tableIn (off := 1232) (tgt := 1271) F.1 F.2.1 dL_law_39 (by decide +kernel) (by decide +kernel) (by decide +kernel) (by decide) ?_
      exact law_weakness F hfl hRf hX hbl hbA hL hK hz hAz hA N hN hc f P r0 σ hI hP hD hS hl hnext
    · refine lv_tableIn (off := 1300) (tgt := 1339) F.1 F.2.1 dL_law_39 (by decide +kernel) (by decide +kernel) (by decide +kernel) (by decide) ?_
      exact law_weakest F hfl hRf hX hbl hbA hL hK hz hAz hA N hN hc f P r0 σ hI hP hD hS hl hnext
    · refine lv_tableOut (tgt := 1395) F.1 F.2.1 dL_law_39 (Or.inr (by rw [iI_toInt (by omega)]; omega)) (by decide) ?_
      refine W.widen (k := 40 + 8 * N + 8) (n := 2000 + 200 * N + 200) (by omega) (by omega) ?_
      exact hnext f P r0 σ n k H locs ls (Iv_up hI (by omega)) hP hD hS hl
