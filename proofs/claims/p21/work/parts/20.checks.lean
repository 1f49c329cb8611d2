section KX
variable {p : Program} {l : Launch} {e : Env} {R : Room} {s : State} {m : MethodId} {args : Array Value} {below : List Frame} {meth : Method} {c : Code} {H : Heap} {locs : List Loc} {cells slots : Nat} {Q : State → Prop}
variable {cc : ByteArray} {pc : Nat} {ls : Array Slot} {rest : List Value} {nL : Nat} {Ts : List Cond} {own : String}
theorem k_aald (F : CallFix p m c cc nL s args Ts own) {G : gT} {w : va_W} {a : Nat} (hK : gK G s) (hP : gP G w H) (q0 : Nat) {f : Nat → Option Nat} {n : Nat} (ha : w[q0]? = some (a, .inl (G.2.2.1, n, .inr (.inr (.inr (.inr f)))))) {k : Nat} {P : Nat → Nat → Nat} (hf : f = rfP P k) {z : Int} (i : Nat) (hi : i < k ∧ k ≤ n ∧ n < 100) (hz : z = (i : Int)) (hdg : decode cc pc = .ok (.aaload, 1))
    (kk : W p l e R s m args below meth c H locs cells slots Q (F0 m (pc + 1) ls (.ref (P i 0) :: rest))) : W p l e R s m args below meth c H locs cells slots Q (F0 m pc ls (.int (iI z) :: .ref a :: rest)) := by
  refine va_aldq F.1 F.2.1 hK hP q0 1 ha rfl (iI_in hz (by omega : i < n) (by omega)) hdg ?_
  rw [iI_cl hz (by omega), hf, rfP_at hi.1]
  exact kk
end KX

set_option maxHeartbeats 4000000 in
set_option maxRecDepth 100000 in
theorem mX2_checkVoice (l : Launch) (hfl : l.stackTraces = false) (G : gT) (z0 : Nat) (w : va_W) (x : Int) (hx : -2147483648 ≤ x ∧ x < 2147483648) : vx_Met l yX2_checkVoice wsX2_checkVoice { frames := 6, cells := 1, slots := 6, locals := 110 } (va_Pc [.int (iI x)] (xB G (w) z0)) (xV (0 ≤ x ∧ x ≤ 3)) (xC (¬ (0 ≤ x ∧ x ≤ 3)) (nmA)) 1 6 (fun _ => False) := by
  refine x_start (own := RX2) (cc := cX2_checkVoice) (mL := 1) (ret := none) (by decide) rfl rfl (Nat.le_of_ble_eq_true rfl) ?_
  intro pP eE sS mM args bB meth cC ls F hr hlocks hxt hP hK hz hl
  have hS : sF sS sS.heap [] := va_S.rf
  have hl : lv_has ls 1 [(0, .int (iI x))] := hl
  refine lv_iload_n F.1 F.2.1 dX2_checkVoice_0 rfl (lv_at hl 0 rfl) ?_
  refine k_if_lt F (tgt := 9) dX2_checkVoice_1 (by decide) (by omega) (fun c_1 => ?_) (fun c_1 => ?_)
  · skip
    exact x_throw F hfl hxt hlocks hz hS (ik := 35) (ic := 39) (is := 177) (text := "the voice is out of range") (cls := nmA) (by decide +kernel) exA2 exA1 (fun w9 (h9 : w9 ∈ (vx_atS RX2 39 "java/lang/IllegalArgumentException" ["java/lang/RuntimeException", "java/lang/Exception"]).filter goodWord) => by simp only [wsX2_checkVoice, List.mem_cons, List.mem_append, h9, or_true, true_or]) (by decide +kernel) (by decide +kernel) (by decide +kernel) hl.1 dX2_checkVoice_9 dX2_checkVoice_12 dX2_checkVoice_13 dX2_checkVoice_15 dX2_checkVoice_18 ⟨Nat.le_of_ble_eq_true rfl, Nat.le_of_ble_eq_true rfl, Nat.le_of_ble_eq_true rfl, Nat.le_of_ble_eq_true rfl⟩ ⟨Nat.le_of_ble_eq_true rfl, Nat.le_of_ble_eq_true rfl⟩ ⟨by omega, rfl⟩
  · skip
    refine lv_iload_n F.1 F.2.1 dX2_checkVoice_4 rfl (lv_at hl 0 rfl) ?_
    refine k_iconst F dX2_checkVoice_5 ?_
    refine k_icmp_lt F (tgt := 19) dX2_checkVoice_6 (by decide) (by omega) (by decide) (fun c_2 => ?_) (fun c_2 => ?_)
    · skip
      exact x_vret F hlocks hr (by omega) hS ⟨Nat.le_of_ble_eq_true rfl, Nat.le_of_ble_eq_true rfl⟩ dX2_checkVoice_19
    · skip
      exact x_throw F hfl hxt hlocks hz hS (ik := 35) (ic := 39) (is := 177) (text := "the voice is out of range") (cls := nmA) (by decide +kernel) exA2 exA1 (fun w9 (h9 : w9 ∈ (vx_atS RX2 39 "java/lang/IllegalArgumentException" ["java/lang/RuntimeException", "java/lang/Exception"]).filter goodWord) => by simp only [wsX2_checkVoice, List.mem_cons, List.mem_append, h9, or_true, true_or]) (by decide +kernel) (by decide +kernel) (by decide +kernel) hl.1 dX2_checkVoice_9 dX2_checkVoice_12 dX2_checkVoice_13 dX2_checkVoice_15 dX2_checkVoice_18 ⟨Nat.le_of_ble_eq_true rfl, Nat.le_of_ble_eq_true rfl, Nat.le_of_ble_eq_true rfl, Nat.le_of_ble_eq_true rfl⟩ ⟨Nat.le_of_ble_eq_true rfl, Nat.le_of_ble_eq_true rfl⟩ ⟨by omega, rfl⟩

set_option maxHeartbeats 4000000 in
set_option maxRecDepth 100000 in
theorem mX2_checkDate (l : Launch) (hfl : l.stackTraces = false) (G : gT) (z0 : Nat) (w : va_W) (x : Int) (hx : -2147483648 ≤ x ∧ x < 2147483648) : vx_Met l yX2_checkDate wsX2_checkDate { frames := 6, cells := 1, slots := 6, locals := 110 } (va_Pc [.int (iI x)] (xB G (w) z0)) (xV (0 ≤ x ∧ x ≤ 30)) (xC (¬ (0 ≤ x ∧ x ≤ 30)) (nmA)) 1 6 (fun _ => False) := by
  refine x_start (own := RX2) (cc := cX2_checkDate) (mL := 1) (ret := none) (by decide) rfl rfl (Nat.le_of_ble_eq_true rfl) ?_
  intro pP eE sS mM args bB meth cC ls F hr hlocks hxt hP hK hz hl
  have hS : sF sS sS.heap [] := va_S.rf
  have hl : lv_has ls 1 [(0, .int (iI x))] := hl
  refine lv_iload_n F.1 F.2.1 dX2_checkDate_0 rfl (lv_at hl 0 rfl) ?_
  refine k_if_lt F (tgt := 10) dX2_checkDate_1 (by decide) (by omega) (fun c_1 => ?_) (fun c_1 => ?_)
  · skip
    exact x_throw F hfl hxt hlocks hz hS (ik := 35) (ic := 39) (is := 181) (text := "the date is out of range") (cls := nmA) (by decide +kernel) exA2 exA1 (fun w9 (h9 : w9 ∈ (vx_atS RX2 39 "java/lang/IllegalArgumentException" ["java/lang/RuntimeException", "java/lang/Exception"]).filter goodWord) => by simp only [wsX2_checkDate, List.mem_cons, List.mem_append, h9, or_true, true_or]) (by decide +kernel) (by decide +kernel) (by decide +kernel) hl.1 dX2_checkDate_10 dX2_checkDate_13 dX2_checkDate_14 dX2_checkDate_16 dX2_checkDate_19 ⟨Nat.le_of_ble_eq_true rfl, Nat.le_of_ble_eq_true rfl, Nat.le_of_ble_eq_true rfl, Nat.le_of_ble_eq_true rfl⟩ ⟨Nat.le_of_ble_eq_true rfl, Nat.le_of_ble_eq_true rfl⟩ ⟨by omega, rfl⟩
  · skip
    refine lv_iload_n F.1 F.2.1 dX2_checkDate_4 rfl (lv_at hl 0 rfl) ?_
    refine k_bipush F dX2_checkDate_5 (by decide +kernel) ?_
    refine k_icmp_lt F (tgt := 20) dX2_checkDate_7 (by decide) (by omega) (by decide) (fun c_2 => ?_) (fun c_2 => ?_)
    · skip
      exact x_vret F hlocks hr (by omega) hS ⟨Nat.le_of_ble_eq_true rfl, Nat.le_of_ble_eq_true rfl⟩ dX2_checkDate_20
    · skip
      exact x_throw F hfl hxt hlocks hz hS (ik := 35) (ic := 39) (is := 181) (text := "the date is out of range") (cls := nmA) (by decide +kernel) exA2 exA1 (fun w9 (h9 : w9 ∈ (vx_atS RX2 39 "java/lang/IllegalArgumentException" ["java/lang/RuntimeException", "java/lang/Exception"]).filter goodWord) => by simp only [wsX2_checkDate, List.mem_cons, List.mem_append, h9, or_true, true_or]) (by decide +kernel) (by decide +kernel) (by decide +kernel) hl.1 dX2_checkDate_10 dX2_checkDate_13 dX2_checkDate_14 dX2_checkDate_16 dX2_checkDate_19 ⟨Nat.le_of_ble_eq_true rfl, Nat.le_of_ble_eq_true rfl, Nat.le_of_ble_eq_true rfl, Nat.le_of_ble_eq_true rfl⟩ ⟨Nat.le_of_ble_eq_true rfl, Nat.le_of_ble_eq_true rfl⟩ ⟨by omega, rfl⟩

set_option maxHeartbeats 4000000 in
set_option maxRecDepth 100000 in
theorem mX2_checkTime (l : Launch) (hfl : l.stackTraces = false) (G : gT) (z0 : Nat) (w : va_W) (x : Int) (hx : -2147483648 ≤ x ∧ x < 2147483648) : vx_Met l yX2_checkTime wsX2_checkTime { frames := 6, cells := 1, slots := 6, locals := 110 } (va_Pc [.int (iI x)] (xB G (w) z0)) (xV (0 ≤ x ∧ x ≤ 20000)) (xC (¬ (0 ≤ x ∧ x ≤ 20000)) (nmA)) 1 6 (fun _ => False) := by
  refine x_start (own := RX2) (cc := cX2_checkTime) (mL := 1) (ret := none) (by decide) rfl rfl (Nat.le_of_ble_eq_true rfl) ?_
  intro pP eE sS mM args bB meth cC ls F hr hlocks hxt hP hK hz hl
  have hS : sF sS sS.heap [] := va_S.rf
  have hl : lv_has ls 1 [(0, .int (iI x))] := hl
  refine lv_iload_n F.1 F.2.1 dX2_checkTime_0 rfl (lv_at hl 0 rfl) ?_
  refine k_if_lt F (tgt := 11) dX2_checkTime_1 (by decide) (by omega) (fun c_1 => ?_) (fun c_1 => ?_)
  · skip
    exact x_throw F hfl hxt hlocks hz hS (ik := 35) (ic := 39) (is := 183) (text := "the time is out of range") (cls := nmA) (by decide +kernel) exA2 exA1 (fun w9 (h9 : w9 ∈ (vx_atS RX2 39 "java/lang/IllegalArgumentException" ["java/lang/RuntimeException", "java/lang/Exception"]).filter goodWord) => by simp only [wsX2_checkTime, List.mem_cons, List.mem_append, h9, or_true, true_or]) (by decide +kernel) (by decide +kernel) (by decide +kernel) hl.1 dX2_checkTime_11 dX2_checkTime_14 dX2_checkTime_15 dX2_checkTime_17 dX2_checkTime_20 ⟨Nat.le_of_ble_eq_true rfl, Nat.le_of_ble_eq_true rfl, Nat.le_of_ble_eq_true rfl, Nat.le_of_ble_eq_true rfl⟩ ⟨Nat.le_of_ble_eq_true rfl, Nat.le_of_ble_eq_true rfl⟩ ⟨by omega, rfl⟩
  · skip
    refine lv_iload_n F.1 F.2.1 dX2_checkTime_4 rfl (lv_at hl 0 rfl) ?_
    refine k_sipush F dX2_checkTime_5 (by decide +kernel) ?_
    refine k_icmp_le F (tgt := 21) dX2_checkTime_8 (by decide) (by omega) (by decide) (fun c_2 => ?_) (fun c_2 => ?_)
    · skip
      exact x_vret F hlocks hr (by omega) hS ⟨Nat.le_of_ble_eq_true rfl, Nat.le_of_ble_eq_true rfl⟩ dX2_checkTime_21
    · skip
      exact x_throw F hfl hxt hlocks hz hS (ik := 35) (ic := 39) (is := 183) (text := "the time is out of range") (cls := nmA) (by decide +kernel) exA2 exA1 (fun w9 (h9 : w9 ∈ (vx_atS RX2 39 "java/lang/IllegalArgumentException" ["java/lang/RuntimeException", "java/lang/Exception"]).filter goodWord) => by simp only [wsX2_checkTime, List.mem_cons, List.mem_append, h9, or_true, true_or]) (by decide +kernel) (by decide +kernel) (by decide +kernel) hl.1 dX2_checkTime_11 dX2_checkTime_14 dX2_checkTime_15 dX2_checkTime_17 dX2_checkTime_20 ⟨Nat.le_of_ble_eq_true rfl, Nat.le_of_ble_eq_true rfl, Nat.le_of_ble_eq_true rfl, Nat.le_of_ble_eq_true rfl⟩ ⟨Nat.le_of_ble_eq_true rfl, Nat.le_of_ble_eq_true rfl⟩ ⟨by omega, rfl⟩

set_option maxHeartbeats 4000000 in
set_option maxRecDepth 100000 in
theorem mX2_checkTone (l : Launch) (hfl : l.stackTraces = false) (G : gT) (z0 : Nat) (w : va_W) (x y : Int) (hx : -2147483648 ≤ x ∧ x < 2147483648) (hy : -2147483648 ≤ y ∧ y < 2147483648) : vx_Met l yX2_checkTone wsX2_checkTone { frames := 6, cells := 1, slots := 6, locals := 110 } (va_Pc [.int (iI x), .int (iI y)] (xB G (w) z0)) (xV (0 ≤ x ∧ x ≤ y)) (xC (¬ (0 ≤ x ∧ x ≤ y)) (nmA)) 1 6 (fun _ => False) := by
  refine x_start (own := RX2) (cc := cX2_checkTone) (mL := 2) (ret := none) (by decide) rfl rfl (Nat.le_of_ble_eq_true rfl) ?_
  intro pP eE sS mM args bB meth cC ls F hr hlocks hxt hP hK hz hl
  have hS : sF sS sS.heap [] := va_S.rf
  have hl : lv_has ls 2 [(0, .int (iI x)), (1, .int (iI y))] := hl
  refine lv_iload_n F.1 F.2.1 dX2_checkTone_0 rfl (lv_at hl 0 rfl) ?_
  refine k_if_lt F (tgt := 9) dX2_checkTone_1 (by decide) (by omega) (fun c_1 => ?_) (fun c_1 => ?_)
  · skip
    exact x_throw F hfl hxt hlocks hz hS (ik := 35) (ic := 39) (is := 179) (text := "the tone is out of range") (cls := nmA) (by decide +kernel) exA2 exA1 (fun w9 (h9 : w9 ∈ (vx_atS RX2 39 "java/lang/IllegalArgumentException" ["java/lang/RuntimeException", "java/lang/Exception"]).filter goodWord) => by simp only [wsX2_checkTone, List.mem_cons, List.mem_append, h9, or_true, true_or]) (by decide +kernel) (by decide +kernel) (by decide +kernel) hl.1 dX2_checkTone_9 dX2_checkTone_12 dX2_checkTone_13 dX2_checkTone_15 dX2_checkTone_18 ⟨Nat.le_of_ble_eq_true rfl, Nat.le_of_ble_eq_true rfl, Nat.le_of_ble_eq_true rfl, Nat.le_of_ble_eq_true rfl⟩ ⟨Nat.le_of_ble_eq_true rfl, Nat.le_of_ble_eq_true rfl⟩ ⟨by omega, rfl⟩
  · skip
    refine lv_iload_n F.1 F.2.1 dX2_checkTone_4 rfl (lv_at hl 0 rfl) ?_
    refine lv_iload_n F.1 F.2.1 dX2_checkTone_5 rfl (lv_at hl 1 rfl) ?_
    refine k_icmp_le F (tgt := 19) dX2_checkTone_6 (by decide) (by omega) (by omega) (fun c_2 => ?_) (fun c_2 => ?_)
    · skip
      exact x_vret F hlocks hr (by omega) hS ⟨Nat.le_of_ble_eq_true rfl, Nat.le_of_ble_eq_true rfl⟩ dX2_checkTone_19
    · skip
      exact x_throw F hfl hxt hlocks hz hS (ik := 35) (ic := 39) (is := 179) (text := "the tone is out of range") (cls := nmA) (by decide +kernel) exA2 exA1 (fun w9 (h9 : w9 ∈ (vx_atS RX2 39 "java/lang/IllegalArgumentException" ["java/lang/RuntimeException", "java/lang/Exception"]).filter goodWord) => by simp only [wsX2_checkTone, List.mem_cons, List.mem_append, h9, or_true, true_or]) (by decide +kernel) (by decide +kernel) (by decide +kernel) hl.1 dX2_checkTone_9 dX2_checkTone_12 dX2_checkTone_13 dX2_checkTone_15 dX2_checkTone_18 ⟨Nat.le_of_ble_eq_true rfl, Nat.le_of_ble_eq_true rfl, Nat.le_of_ble_eq_true rfl, Nat.le_of_ble_eq_true rfl⟩ ⟨Nat.le_of_ble_eq_true rfl, Nat.le_of_ble_eq_true rfl⟩ ⟨by omega, rfl⟩

set_option maxHeartbeats 4000000 in
set_option maxRecDepth 100000 in
theorem mX2_checkSinger (l : Launch) (hfl : l.stackTraces = false) (G : gT) (z0 : Nat) (B : Nat → Nat) (P : Nat → Nat → Nat) (σ : Sg) (x : Int) (hx : -2147483648 ≤ x ∧ x < 2147483648) {n k N : Nat} (hI : Iv σ n k N) : vx_Met l yX2_checkSinger wsX2_checkSinger { frames := 6, cells := 1, slots := 6, locals := 110 } (va_Pc [.ref (B 5), .int (iI x)] (xB G (CW G B P σ k) z0)) (xV (0 ≤ x ∧ x < σ 1 0 0)) (xC (¬ (0 ≤ x ∧ x < σ 1 0 0)) (nmI)) 1 6 (fun _ => False) := by
  refine x_start (own := RX2) (cc := cX2_checkSinger) (mL := 2) (ret := none) (by decide) rfl rfl (Nat.le_of_ble_eq_true rfl) ?_
  intro pP eE sS mM args bB meth cC ls F hr hlocks hxt hP hK hz hl
  have hS : sF sS sS.heap [] := va_S.rf
  have iX2 : ∀ x ∈ wsX20, x ∈ wsX2_checkSinger := by decide +kernel
  have f12 := k_cond F (w := .fieldLink RX2 12 "ChoirPlanner" "roster" "LChoirPlanner$Roster;") (by decide +kernel)
  have hl : lv_has ls 2 [(0, .ref (B 5)), (1, .int (iI x))] := hl
  refine lv_aload_n F.1 F.2.1 dX2_checkSinger_0 rfl (lv_at hl 0 rfl) ?_
  refine k_get F hK hP iX2 5 rfl rfl 0 (by decide) f12 rfl rfl dX2_checkSinger_1 ?_
  refine lv_iload_n F.1 F.2.1 dX2_checkSinger_4 rfl (lv_at hl 1 rfl) ?_
  refine rd_V F (n := 1) (w0 := []) (mX1_has l G B σ x (by omega) hI) gX2_checkSinger_X1_has rfl rfl rfl (by decide +kernel) ⟨Nat.le_of_ble_eq_true rfl, Nat.le_of_ble_eq_true rfl⟩ hK (CW_R hP) (ci := 1) (q0 := 0) rfl rfl rfl rfl hl.1 (Nat.le_of_ble_eq_true rfl) dX2_checkSinger_5 ⟨Nat.zero_le _, Nat.zero_le _⟩ ?_
  refine k_ifb_ne F (tgt := 21) dX2_checkSinger_8 (by decide) (fun c_1 => ?_) (fun c_1 => ?_)
  · skip
    exact x_vret F hlocks hr (by omega) hS ⟨Nat.le_of_ble_eq_true rfl, Nat.le_of_ble_eq_true rfl⟩ dX2_checkSinger_21
  · skip
    exact x_throw F hfl hxt hlocks hz hS (ik := 137) (ic := 141) (is := 188) (text := "there is no such singer") (cls := nmI) (by decide +kernel) exI2 exI1 (fun w9 (h9 : w9 ∈ (vx_atS RX2 141 "java/lang/IndexOutOfBoundsException" ["java/lang/RuntimeException", "java/lang/Exception"]).filter goodWord) => by simp only [wsX2_checkSinger, List.mem_cons, List.mem_append, h9, or_true, true_or]) (by decide +kernel) (by decide +kernel) (by decide +kernel) hl.1 dX2_checkSinger_11 dX2_checkSinger_14 dX2_checkSinger_15 dX2_checkSinger_17 dX2_checkSinger_20 ⟨Nat.le_of_ble_eq_true rfl, Nat.le_of_ble_eq_true rfl, Nat.le_of_ble_eq_true rfl, Nat.le_of_ble_eq_true rfl⟩ ⟨Nat.le_of_ble_eq_true rfl, Nat.le_of_ble_eq_true rfl⟩ ⟨by omega, rfl⟩

set_option maxHeartbeats 4000000 in
set_option maxRecDepth 100000 in
theorem mX2_checkChord (l : Launch) (hfl : l.stackTraces = false) (G : gT) (z0 : Nat) (a : Nat → Nat) (tn pr mf : Nat → Int) (sz sc : Int) (x : Int) (hz0 : 0 ≤ sz ∧ sz ≤ 16) (hx : -2147483648 ≤ x ∧ x < 2147483648) : vx_Met l yX2_checkChord wsX2_checkChord { frames := 6, cells := 1, slots := 6, locals := 110 } (va_Pc [.ref (a 0), .int (iI x)] (xB G (PW G a tn pr mf sz sc) z0)) (xV (0 ≤ x ∧ x < sz)) (xC (¬ (0 ≤ x ∧ x < sz)) (nmI)) 1 6 (fun _ => False) := by
  refine x_start (own := RX2) (cc := cX2_checkChord) (mL := 2) (ret := none) (by decide) rfl rfl (Nat.le_of_ble_eq_true rfl) ?_
  intro pP eE sS mM args bB meth cC ls F hr hlocks hxt hP hK hz hl
  have hS : sF sS sS.heap [] := va_S.rf
  have hl : lv_has ls 2 [(0, .ref (a 0)), (1, .int (iI x))] := hl
  refine lv_aload_n F.1 F.2.1 dX2_checkChord_0 rfl (lv_at hl 0 rfl) ?_
  refine lv_iload_n F.1 F.2.1 dX2_checkChord_1 rfl (lv_at hl 1 rfl) ?_
  refine rd_V F (n := 1) (w0 := []) (mX0_has l G a tn pr mf sz sc x hz0 (by omega)) gX2_checkChord_X0_has rfl rfl rfl (by decide +kernel) ⟨Nat.le_of_ble_eq_true rfl, Nat.le_of_ble_eq_true rfl⟩ hK hP (ci := 0) (q0 := 0) rfl rfl rfl rfl hl.1 (Nat.le_of_ble_eq_true rfl) dX2_checkChord_2 ⟨Nat.zero_le _, Nat.zero_le _⟩ ?_
  refine k_ifb_ne F (tgt := 18) dX2_checkChord_5 (by decide) (fun c_1 => ?_) (fun c_1 => ?_)
  · skip
    exact x_vret F hlocks hr (by omega) hS ⟨Nat.le_of_ble_eq_true rfl, Nat.le_of_ble_eq_true rfl⟩ dX2_checkChord_18
  · skip
    exact x_throw F hfl hxt hlocks hz hS (ik := 137) (ic := 141) (is := 191) (text := "there is no such chord") (cls := nmI) (by decide +kernel) exI2 exI1 (fun w9 (h9 : w9 ∈ (vx_atS RX2 141 "java/lang/IndexOutOfBoundsException" ["java/lang/RuntimeException", "java/lang/Exception"]).filter goodWord) => by simp only [wsX2_checkChord, List.mem_cons, List.mem_append, h9, or_true, true_or]) (by decide +kernel) (by decide +kernel) (by decide +kernel) hl.1 dX2_checkChord_8 dX2_checkChord_11 dX2_checkChord_12 dX2_checkChord_14 dX2_checkChord_17 ⟨Nat.le_of_ble_eq_true rfl, Nat.le_of_ble_eq_true rfl, Nat.le_of_ble_eq_true rfl, Nat.le_of_ble_eq_true rfl⟩ ⟨Nat.le_of_ble_eq_true rfl, Nat.le_of_ble_eq_true rfl⟩ ⟨by omega, rfl⟩

set_option maxHeartbeats 4000000 in
set_option maxRecDepth 100000 in
theorem mX2_pieceAt (l : Launch) (hfl : l.stackTraces = false) (G : gT) (z0 : Nat) (B : Nat → Nat) (P : Nat → Nat → Nat) (σ : Sg) (x : Int) (hx : -2147483648 ≤ x ∧ x < 2147483648) {n k N : Nat} (hI : Iv σ n k N) : vx_Met l yX2_pieceAt wsX2_pieceAt { frames := 6, cells := 1, slots := 6, locals := 110 } (va_Pc [.ref (B 5), .int (iI x)] (xB G (CW G B P σ k) z0)) (xR (0 ≤ x ∧ x < σ 2 0 0) (P x.toNat 0)) (xC (¬ (0 ≤ x ∧ x < σ 2 0 0)) (nmI)) 1 6 (fun _ => False) := by
  refine x_start (own := RX2) (cc := cX2_pieceAt) (mL := 3) (ret := (some (.object "ChoirPlanner$Piece"))) (by decide) rfl rfl (Nat.le_of_ble_eq_true rfl) ?_
  intro pP eE sS mM args bB meth cC ls F hr hlocks hxt hP hK hz hl
  have hS : sF sS sS.heap [] := va_S.rf
  obtain ⟨hn, hn12, hk, hk6, hsg, haw, hch, hch1, hch0, htn, hto, htz, hpr, hN, hpz, hle, hlz⟩ := id hI
  have iX2 : ∀ x ∈ wsX20, x ∈ wsX2_pieceAt := by decide +kernel
  have f18 := k_cond F (w := .fieldLink RX2 18 "ChoirPlanner" "pieces" "[LChoirPlanner$Piece;") (by decide +kernel)
  have f93 := k_cond F (w := .fieldLink RX2 93 "ChoirPlanner" "pieceCount" "I") (by decide +kernel)
  have hl : lv_has ls 3 [(0, .ref (B 5)), (1, .int (iI x))] := hl
  refine lv_iload_n F.1 F.2.1 dX2_pieceAt_0 rfl (lv_at hl 1 rfl) ?_
  refine k_if_lt F (tgt := 21) dX2_pieceAt_1 (by decide) (by omega) (fun c_1 => ?_) (fun c_1 => ?_)
  · skip
    refine lv_null F.1 F.2.1 dX2_pieceAt_21 ?_
    refine lv_astore_nN (lv' := [(2, .null), (0, .ref (B 5)), (1, .int (iI x))]) F.1 F.2.1 dX2_pieceAt_22 rfl hl (by decide) rfl (fun ls hl => ?_)
    refine lv_aload_nN F.1 F.2.1 dX2_pieceAt_23 rfl (lv_at hl 0 rfl) ?_
    refine lv_ifnonnullN F.1 F.2.1 dX2_pieceAt_24 ?_
    exact x_throw F hfl hxt hlocks hz hS (ik := 137) (ic := 141) (is := 193) (text := "there is no such piece") (cls := nmI) (by decide +kernel) exI2 exI1 (fun w9 (h9 : w9 ∈ (vx_atS RX2 141 "java/lang/IndexOutOfBoundsException" ["java/lang/RuntimeException", "java/lang/Exception"]).filter goodWord) => by simp only [wsX2_pieceAt, List.mem_cons, List.mem_append, h9, or_true, true_or]) (by decide +kernel) (by decide +kernel) (by decide +kernel) hl.1 dX2_pieceAt_27 dX2_pieceAt_30 dX2_pieceAt_31 dX2_pieceAt_33 dX2_pieceAt_36 ⟨Nat.le_of_ble_eq_true rfl, Nat.le_of_ble_eq_true rfl, Nat.le_of_ble_eq_true rfl, Nat.le_of_ble_eq_true rfl⟩ ⟨Nat.le_of_ble_eq_true rfl, Nat.le_of_ble_eq_true rfl⟩ ⟨by omega, rfl⟩
  · skip
    refine lv_iload_n F.1 F.2.1 dX2_pieceAt_4 rfl (lv_at hl 1 rfl) ?_
    refine lv_aload_n F.1 F.2.1 dX2_pieceAt_5 rfl (lv_at hl 0 rfl) ?_
    refine k_get F hK hP iX2 5 rfl rfl 2 (by decide) f93 rfl rfl dX2_pieceAt_6 ?_
    refine k_icmp_ge F (tgt := 21) dX2_pieceAt_9 (by decide) (by omega) (by omega) (fun c_2 => ?_) (fun c_2 => ?_)
    · skip
      refine lv_null F.1 F.2.1 dX2_pieceAt_21 ?_
      refine lv_astore_nN (lv' := [(2, .null), (0, .ref (B 5)), (1, .int (iI x))]) F.1 F.2.1 dX2_pieceAt_22 rfl hl (by decide) rfl (fun ls hl => ?_)
      refine lv_aload_nN F.1 F.2.1 dX2_pieceAt_23 rfl (lv_at hl 0 rfl) ?_
      refine lv_ifnonnullN F.1 F.2.1 dX2_pieceAt_24 ?_
      exact x_throw F hfl hxt hlocks hz hS (ik := 137) (ic := 141) (is := 193) (text := "there is no such piece") (cls := nmI) (by decide +kernel) exI2 exI1 (fun w9 (h9 : w9 ∈ (vx_atS RX2 141 "java/lang/IndexOutOfBoundsException" ["java/lang/RuntimeException", "java/lang/Exception"]).filter goodWord) => by simp only [wsX2_pieceAt, List.mem_cons, List.mem_append, h9, or_true, true_or]) (by decide +kernel) (by decide +kernel) (by decide +kernel) hl.1 dX2_pieceAt_27 dX2_pieceAt_30 dX2_pieceAt_31 dX2_pieceAt_33 dX2_pieceAt_36 ⟨Nat.le_of_ble_eq_true rfl, Nat.le_of_ble_eq_true rfl, Nat.le_of_ble_eq_true rfl, Nat.le_of_ble_eq_true rfl⟩ ⟨Nat.le_of_ble_eq_true rfl, Nat.le_of_ble_eq_true rfl⟩ ⟨by omega, rfl⟩
    · skip
      refine lv_aload_n F.1 F.2.1 dX2_pieceAt_12 rfl (lv_at hl 0 rfl) ?_
      refine k_get F hK hP iX2 5 rfl rfl 1 (by decide) f18 rfl rfl dX2_pieceAt_13 ?_
      refine lv_iload_n F.1 F.2.1 dX2_pieceAt_16 rfl (lv_at hl 1 rfl) ?_
      refine k_aald F hK hP 6 rfl rfl x.toNat (by omega) (by omega) dX2_pieceAt_17 ?_
      refine lv_goto (tgt := 22) F.1 F.2.1 dX2_pieceAt_18 (by decide) ?_
      refine lv_astore_n (lv' := [(2, .ref (P x.toNat 0)), (0, .ref (B 5)), (1, .int (iI x))]) F.1 F.2.1 dX2_pieceAt_22 rfl hl (by decide) rfl (fun ls hl => ?_)
      refine lv_aload_n F.1 F.2.1 dX2_pieceAt_23 rfl (lv_at hl 0 rfl) ?_
      refine lv_ifnonnull F.1 F.2.1 (tgt := 37) dX2_pieceAt_24 (by decide) ?_
      refine lv_aload_n F.1 F.2.1 dX2_pieceAt_37 rfl (lv_at hl 0 rfl) ?_
      exact x_rret F hlocks hr (by omega) hS ⟨Nat.le_of_ble_eq_true rfl, Nat.le_of_ble_eq_true rfl⟩ dX2_pieceAt_38
