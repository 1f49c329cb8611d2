section KN
variable {p : Program} {l : Launch} {e : Env} {R : Room} {s : State} {m : MethodId} {args : Array Value} {below : List Frame} {meth : Method} {c : Code} {H H0 : Heap} {locs : List Loc} {cells slots : Nat} {Q : State → Prop}
variable {cc : ByteArray} {pc : Nat} {ls : Array Slot} {rest : List Value} {nL : Nat} {Ts : List Cond} {own : String} {A : Nat → Prop}
/-- a new array of ints: its class is the one that is known -/
theorem k_newi (F : CallFix p m c cc nL s args Ts own) (harr : Cond.arrayClass .int ∈ Ts) {G : gT} {w : va_W} (hK : gK G s) (hP : gP G w H) (hD : va_D A w) (hS : va_S A H0 H locs) (hA : ∀ q, H0.size ≤ q → A q) {z : Int} (N : Nat) (hz : z = (N : Int)) (hN : N < 1000) (hc : cells + 1 ≤ R.cells ∧ slots + N ≤ R.slots) (hdg : decode cc pc = .ok (.newarray .int, 2))
    (kk : ∀ (q : Nat) (H1 : Heap), gP G (w ++ [(q, .inl (G.2.1, N, .inl (ia (fun _ => 0))))]) H1 → va_D A (w ++ [(q, .inl (G.2.1, N, .inl (ia (fun _ => 0))))]) → va_S A H0 H1 locs → W p l e R s m args below meth c H1 locs (cells + 1) (slots + N) Q (F0 m (pc + 2) ls (.ref q :: rest))) : W p l e R s m args below meth c H locs cells slots Q (F0 m pc ls (.int (iI z) :: rest)) := by
  refine va_newa (atype := .int) F.1 F.2.1 (F.2.2.2.2 _ harr) (ty := .int) rfl hK hP hD hS hA (N' := N) (a0 := (N, .inl (ia (fun _ => 0)))) (fun cA => by show arrV cA N (fun _ => .int (iI 0)) = arrV cA N (fun _ => defaultValue .int); rw [iI_0]; rfl) (by rw [iI_lt0 (by omega)]; omega) (iI_cl hz (by omega)) (by show N * 4 ≤ 536870912; omega) hc.1 hc.2 hdg (fun q cA H1 hK9 hP9 hD9 hS9 => ?_)
  have e1 : s.vm.findClass _ = some cA := (hK9.2 2 (cA, .int) rfl).2
  have e2 : s.vm.findClass _ = some G.2.1 := (hK.2 0 (G.2.1, .int) rfl).2
  have e3 : cA = G.2.1 := Option.some.inj (e1.symm.trans e2)
  subst e3
  exact kk q H1 hP9 hD9 hS9
end KN
theorem mff_0 : mff (fun _ => 0) 0 = fun _ => 0 := by
  funext c
  unfold mff
  split
  · have := mvf_rg (fun _ => 0) c
    omega
  · rfl

set_option maxHeartbeats 4000000 in
set_option maxRecDepth 100000 in
theorem mX0_init (l : Launch) (G : gT) (sz0 h0 : Nat) : Met l yX0_init wsX0_init { frames := 1, cells := 3, slots := 96, locals := 12 } (va_Pc [.ref h0] (wB G ([(h0, .inr (0, [.null, .null, .null, .int (iI 0), .int (iI 0)]))]) sz0)) (va_Qv (fun a : Nat → Nat => a 0 = h0) (fun a t => gP G (PW G a (fun _ => 0) (fun _ => 0) (fun _ => 0) 0 0) t.heap ∧ va_D (va_A ([(h0, .inr (0, [.null, .null, .null, .int (iI 0), .int (iI 0)]))]) sz0) (PW G a (fun _ => 0) (fun _ => 0) (fun _ => 0) 0 0)) (va_A ([(h0, .inr (0, [.null, .null, .null, .int (iI 0), .int (iI 0)]))]) sz0)) 3 96 (va_A ([(h0, .inr (0, [.null, .null, .null, .int (iI 0), .int (iI 0)]))]) sz0) := by
  refine wr_start (own := RX0) (cc := cX0_init) (mL := 1) (ret := none) (Qc := fun AA => (va_Qv (fun a : Nat → Nat => a 0 = h0) (fun a t => gP G (PW G a (fun _ => 0) (fun _ => 0) (fun _ => 0) 0 0) t.heap ∧ va_D AA (PW G a (fun _ => 0) (fun _ => 0) (fun _ => 0) 0 0)) AA)) (by decide) rfl rfl (Nat.le_of_ble_eq_true rfl) ?_
  intro pP eE sS mM args bB meth cC ls AA F hr hlocks hin hK hsz0 hP hD hS hA hl
  have iX0 : ∀ x ∈ wsX00, x ∈ wsX0_init := by decide +kernel
  have f9 := k_cond F (w := .fieldLink RX0 9 "ChoirPlanner$Piece" "tones" "[I") (by decide +kernel)
  have f15 := k_cond F (w := .fieldLink RX0 15 "ChoirPlanner$Piece" "practice" "[I") (by decide +kernel)
  have f18 := k_cond F (w := .fieldLink RX0 18 "ChoirPlanner$Piece" "moveFaults" "[I") (by decide +kernel)
  have hl : lv_has ls 1 [(0, .ref h0)] := hl
  refine lv_aload_n F.1 F.2.1 dX0_init_0 rfl (lv_at hl 0 rfl) ?_
  refine W.objInit F.1 F.2.1 F.2.2.2.1 (k_cond F (w := .methodLink RX0 3 objectInit) (by decide +kernel)) (k_cond F (w := .instanceMethod objectInit) (by decide +kernel)) (k_cond F (w := .code objectInit ⟨#[0xb1]⟩ 1 none) (by decide +kernel)) rfl (hl.1.trans F.2.2.1.symm) rfl dX0_init_1 (Nat.le_of_ble_eq_true rfl) (Nat.le_of_ble_eq_true rfl) ?_
  refine W.eq (g2 := F0 mM 4 ls []) rfl ?_
  refine lv_aload_n F.1 F.2.1 dX0_init_4 rfl (lv_at hl 0 rfl) ?_
  refine k_bipush F dX0_init_5 (by decide +kernel) ?_
  refine k_newi F (by decide +kernel) hK hP hD hS hA 64 rfl (by decide) ⟨Nat.le_of_ble_eq_true rfl, Nat.le_of_ble_eq_true rfl⟩ dX0_init_7 (fun q1 H hP hD hS => ?_)
  have hP : gP G ([(h0, .inr (0, [.null, .null, .null, .int (iI 0), .int (iI 0)])), (q1, .inl (G.2.1, 64, .inl (ia (fun _ => 0))))]) H := hP
  have hD : va_D AA ([(h0, .inr (0, [.null, .null, .null, .int (iI 0), .int (iI 0)])), (q1, .inl (G.2.1, 64, .inl (ia (fun _ => 0))))]) := hD
  refine va_putF (D := G.1) (ci := 0) (v := .ref q1) (ty := (.array .int)) (C := RX0) (T := TX0) (N := 5) F.1 F.2.1 F.2.2.2.2 iX0 tyX0 tyX0_ok nmX0 F.2.2.2.1 hK hP hD hS 0 rfl rfl 0 (by decide) f9 (fun _ h9 => h9) rfl hin rfl (by decide +kernel) rfl rfl (Nat.le_of_ble_eq_true rfl) dX0_init_9 (fun H locs hP hD hS => ?_)
  have hP : gP G ([(h0, .inr (0, [.ref q1, .null, .null, .int (iI 0), .int (iI 0)])), (q1, .inl (G.2.1, 64, .inl (ia (fun _ => 0))))]) H := hP
  have hD : va_D AA ([(h0, .inr (0, [.ref q1, .null, .null, .int (iI 0), .int (iI 0)])), (q1, .inl (G.2.1, 64, .inl (ia (fun _ => 0))))]) := hD
  refine lv_aload_n F.1 F.2.1 dX0_init_12 rfl (lv_at hl 0 rfl) ?_
  refine k_bipush F dX0_init_13 (by decide +kernel) ?_
  refine k_newi F (by decide +kernel) hK hP hD hS hA 16 rfl (by decide) ⟨Nat.le_of_ble_eq_true rfl, Nat.le_of_ble_eq_true rfl⟩ dX0_init_15 (fun q2 H hP hD hS => ?_)
  have hP : gP G ([(h0, .inr (0, [.ref q1, .null, .null, .int (iI 0), .int (iI 0)])), (q1, .inl (G.2.1, 64, .inl (ia (fun _ => 0)))), (q2, .inl (G.2.1, 16, .inl (ia (fun _ => 0))))]) H := hP
  have hD : va_D AA ([(h0, .inr (0, [.ref q1, .null, .null, .int (iI 0), .int (iI 0)])), (q1, .inl (G.2.1, 64, .inl (ia (fun _ => 0)))), (q2, .inl (G.2.1, 16, .inl (ia (fun _ => 0))))]) := hD
  refine va_putF (D := G.1) (ci := 0) (v := .ref q2) (ty := (.array .int)) (C := RX0) (T := TX0) (N := 5) F.1 F.2.1 F.2.2.2.2 iX0 tyX0 tyX0_ok nmX0 F.2.2.2.1 hK hP hD hS 0 rfl rfl 1 (by decide) f15 (fun _ h9 => h9) rfl hin rfl (by decide +kernel) rfl rfl (Nat.le_of_ble_eq_true rfl) dX0_init_17 (fun H locs hP hD hS => ?_)
  have hP : gP G ([(h0, .inr (0, [.ref q1, .ref q2, .null, .int (iI 0), .int (iI 0)])), (q1, .inl (G.2.1, 64, .inl (ia (fun _ => 0)))), (q2, .inl (G.2.1, 16, .inl (ia (fun _ => 0))))]) H := hP
  have hD : va_D AA ([(h0, .inr (0, [.ref q1, .ref q2, .null, .int (iI 0), .int (iI 0)])), (q1, .inl (G.2.1, 64, .inl (ia (fun _ => 0)))), (q2, .inl (G.2.1, 16, .inl (ia (fun _ => 0))))]) := hD
  refine lv_aload_n F.1 F.2.1 dX0_init_20 rfl (lv_at hl 0 rfl) ?_
  refine k_bipush F dX0_init_21 (by decide +kernel) ?_
  refine k_newi F (by decide +kernel) hK hP hD hS hA 16 rfl (by decide) ⟨Nat.le_of_ble_eq_true rfl, Nat.le_of_ble_eq_true rfl⟩ dX0_init_23 (fun q3 H hP hD hS => ?_)
  have hP : gP G ([(h0, .inr (0, [.ref q1, .ref q2, .null, .int (iI 0), .int (iI 0)])), (q1, .inl (G.2.1, 64, .inl (ia (fun _ => 0)))), (q2, .inl (G.2.1, 16, .inl (ia (fun _ => 0)))), (q3, .inl (G.2.1, 16, .inl (ia (fun _ => 0))))]) H := hP
  have hD : va_D AA ([(h0, .inr (0, [.ref q1, .ref q2, .null, .int (iI 0), .int (iI 0)])), (q1, .inl (G.2.1, 64, .inl (ia (fun _ => 0)))), (q2, .inl (G.2.1, 16, .inl (ia (fun _ => 0)))), (q3, .inl (G.2.1, 16, .inl (ia (fun _ => 0))))]) := hD
  refine va_putF (D := G.1) (ci := 0) (v := .ref q3) (ty := (.array .int)) (C := RX0) (T := TX0) (N := 5) F.1 F.2.1 F.2.2.2.2 iX0 tyX0 tyX0_ok nmX0 F.2.2.2.1 hK hP hD hS 0 rfl rfl 2 (by decide) f18 (fun _ h9 => h9) rfl hin rfl (by decide +kernel) rfl rfl (Nat.le_of_ble_eq_true rfl) dX0_init_25 (fun H locs hP hD hS => ?_)
  have hP : gP G ([(h0, .inr (0, [.ref q1, .ref q2, .ref q3, .int (iI 0), .int (iI 0)])), (q1, .inl (G.2.1, 64, .inl (ia (fun _ => 0)))), (q2, .inl (G.2.1, 16, .inl (ia (fun _ => 0)))), (q3, .inl (G.2.1, 16, .inl (ia (fun _ => 0))))]) H := hP
  have hD : va_D AA ([(h0, .inr (0, [.ref q1, .ref q2, .ref q3, .int (iI 0), .int (iI 0)])), (q1, .inl (G.2.1, 64, .inl (ia (fun _ => 0)))), (q2, .inl (G.2.1, 16, .inl (ia (fun _ => 0)))), (q3, .inl (G.2.1, 16, .inl (ia (fun _ => 0))))]) := hD
  exact W.vret F.1 F.2.1 hr (fun t ht _ => ⟨⟨(fun j => if j = 0 then h0 else if j = 1 then q1 else if j = 2 then q2 else q3), rfl, rfl, by rw [ht]; exact hP, hD⟩, hS.F ht⟩) hS.2.2 dX0_init_28 hlocks

set_option maxHeartbeats 4000000 in
set_option maxRecDepth 100000 in
theorem mX1_init (l : Launch) (G : gT) (sz0 h0 : Nat) : Met l yX1_init wsX1_init { frames := 1, cells := 4, slots := 48, locals := 12 } (va_Pc [.ref h0] (wB G ([(h0, .inr (1, [.null, .null, .null, .null, .int (iI 0)]))]) sz0)) (va_Qv (fun a : Nat → Nat => a 0 = h0) (fun a t => gP G (RW G a (fun _ _ _ => 0)) t.heap ∧ va_D (va_A ([(h0, .inr (1, [.null, .null, .null, .null, .int (iI 0)]))]) sz0) (RW G a (fun _ _ _ => 0))) (va_A ([(h0, .inr (1, [.null, .null, .null, .null, .int (iI 0)]))]) sz0)) 4 48 (va_A ([(h0, .inr (1, [.null, .null, .null, .null, .int (iI 0)]))]) sz0) := by
  refine wr_start (own := RX1) (cc := cX1_init) (mL := 1) (ret := none) (Qc := fun AA => (va_Qv (fun a : Nat → Nat => a 0 = h0) (fun a t => gP G (RW G a (fun _ _ _ => 0)) t.heap ∧ va_D AA (RW G a (fun _ _ _ => 0))) AA)) (by decide) rfl rfl (Nat.le_of_ble_eq_true rfl) ?_
  intro pP eE sS mM args bB meth cC ls AA F hr hlocks hin hK hsz0 hP hD hS hA hl
  have iX1 : ∀ x ∈ wsX10, x ∈ wsX1_init := by decide +kernel
  have f9 := k_cond F (w := .fieldLink RX1 9 "ChoirPlanner$Roster" "voices" "[I") (by decide +kernel)
  have f15 := k_cond F (w := .fieldLink RX1 15 "ChoirPlanner$Roster" "lowest" "[I") (by decide +kernel)
  have f18 := k_cond F (w := .fieldLink RX1 18 "ChoirPlanner$Roster" "highest" "[I") (by decide +kernel)
  have f21 := k_cond F (w := .fieldLink RX1 21 "ChoirPlanner$Roster" "away" "[I") (by decide +kernel)
  have hl : lv_has ls 1 [(0, .ref h0)] := hl
  refine lv_aload_n F.1 F.2.1 dX1_init_0 rfl (lv_at hl 0 rfl) ?_
  refine W.objInit F.1 F.2.1 F.2.2.2.1 (k_cond F (w := .methodLink RX1 3 objectInit) (by decide +kernel)) (k_cond F (w := .instanceMethod objectInit) (by decide +kernel)) (k_cond F (w := .code objectInit ⟨#[0xb1]⟩ 1 none) (by decide +kernel)) rfl (hl.1.trans F.2.2.1.symm) rfl dX1_init_1 (Nat.le_of_ble_eq_true rfl) (Nat.le_of_ble_eq_true rfl) ?_
  refine W.eq (g2 := F0 mM 4 ls []) rfl ?_
  refine lv_aload_n F.1 F.2.1 dX1_init_4 rfl (lv_at hl 0 rfl) ?_
  refine k_bipush F dX1_init_5 (by decide +kernel) ?_
  refine k_newi F (by decide +kernel) hK hP hD hS hA 12 rfl (by decide) ⟨Nat.le_of_ble_eq_true rfl, Nat.le_of_ble_eq_true rfl⟩ dX1_init_7 (fun q1 H hP hD hS => ?_)
  have hP : gP G ([(h0, .inr (1, [.null, .null, .null, .null, .int (iI 0)])), (q1, .inl (G.2.1, 12, .inl (ia (fun _ => 0))))]) H := hP
  have hD : va_D AA ([(h0, .inr (1, [.null, .null, .null, .null, .int (iI 0)])), (q1, .inl (G.2.1, 12, .inl (ia (fun _ => 0))))]) := hD
  refine va_putF (D := G.1) (ci := 1) (v := .ref q1) (ty := (.array .int)) (C := RX1) (T := TX1) (N := 5) F.1 F.2.1 F.2.2.2.2 iX1 tyX1 tyX1_ok nmX1 F.2.2.2.1 hK hP hD hS 0 rfl rfl 0 (by decide) f9 (fun _ h9 => h9) rfl hin rfl (by decide +kernel) rfl rfl (Nat.le_of_ble_eq_true rfl) dX1_init_9 (fun H locs hP hD hS => ?_)
  have hP : gP G ([(h0, .inr (1, [.ref q1, .null, .null, .null, .int (iI 0)])), (q1, .inl (G.2.1, 12, .inl (ia (fun _ => 0))))]) H := hP
  have hD : va_D AA ([(h0, .inr (1, [.ref q1, .null, .null, .null, .int (iI 0)])), (q1, .inl (G.2.1, 12, .inl (ia (fun _ => 0))))]) := hD
  refine lv_aload_n F.1 F.2.1 dX1_init_12 rfl (lv_at hl 0 rfl) ?_
  refine k_bipush F dX1_init_13 (by decide +kernel) ?_
  refine k_newi F (by decide +kernel) hK hP hD hS hA 12 rfl (by decide) ⟨Nat.le_of_ble_eq_true rfl, Nat.le_of_ble_eq_true rfl⟩ dX1_init_15 (fun q2 H hP hD hS => ?_)
  have hP : gP G ([(h0, .inr (1, [.ref q1, .null, .null, .null, .int (iI 0)])), (q1, .inl (G.2.1, 12, .inl (ia (fun _ => 0)))), (q2, .inl (G.2.1, 12, .inl (ia (fun _ => 0))))]) H := hP
  have hD : va_D AA ([(h0, .inr (1, [.ref q1, .null, .null, .null, .int (iI 0)])), (q1, .inl (G.2.1, 12, .inl (ia (fun _ => 0)))), (q2, .inl (G.2.1, 12, .inl (ia (fun _ => 0))))]) := hD
  refine va_putF (D := G.1) (ci := 1) (v := .ref q2) (ty := (.array .int)) (C := RX1) (T := TX1) (N := 5) F.1 F.2.1 F.2.2.2.2 iX1 tyX1 tyX1_ok nmX1 F.2.2.2.1 hK hP hD hS 0 rfl rfl 1 (by decide) f15 (fun _ h9 => h9) rfl hin rfl (by decide +kernel) rfl rfl (Nat.le_of_ble_eq_true rfl) dX1_init_17 (fun H locs hP hD hS => ?_)
  have hP : gP G ([(h0, .inr (1, [.ref q1, .ref q2, .null, .null, .int (iI 0)])), (q1, .inl (G.2.1, 12, .inl (ia (fun _ => 0)))), (q2, .inl (G.2.1, 12, .inl (ia (fun _ => 0))))]) H := hP
  have hD : va_D AA ([(h0, .inr (1, [.ref q1, .ref q2, .null, .null, .int (iI 0)])), (q1, .inl (G.2.1, 12, .inl (ia (fun _ => 0)))), (q2, .inl (G.2.1, 12, .inl (ia (fun _ => 0))))]) := hD
  refine lv_aload_n F.1 F.2.1 dX1_init_20 rfl (lv_at hl 0 rfl) ?_
  refine k_bipush F dX1_init_21 (by decide +kernel) ?_
  refine k_newi F (by decide +kernel) hK hP hD hS hA 12 rfl (by decide) ⟨Nat.le_of_ble_eq_true rfl, Nat.le_of_ble_eq_true rfl⟩ dX1_init_23 (fun q3 H hP hD hS => ?_)
  have hP : gP G ([(h0, .inr (1, [.ref q1, .ref q2, .null, .null, .int (iI 0)])), (q1, .inl (G.2.1, 12, .inl (ia (fun _ => 0)))), (q2, .inl (G.2.1, 12, .inl (ia (fun _ => 0)))), (q3, .inl (G.2.1, 12, .inl (ia (fun _ => 0))))]) H := hP
  have hD : va_D AA ([(h0, .inr (1, [.ref q1, .ref q2, .null, .null, .int (iI 0)])), (q1, .inl (G.2.1, 12, .inl (ia (fun _ => 0)))), (q2, .inl (G.2.1, 12, .inl (ia (fun _ => 0)))), (q3, .inl (G.2.1, 12, .inl (ia (fun _ => 0))))]) := hD
  refine va_putF (D := G.1) (ci := 1) (v := .ref q3) (ty := (.array .int)) (C := RX1) (T := TX1) (N := 5) F.1 F.2.1 F.2.2.2.2 iX1 tyX1 tyX1_ok nmX1 F.2.2.2.1 hK hP hD hS 0 rfl rfl 2 (by decide) f18 (fun _ h9 => h9) rfl hin rfl (by decide +kernel) rfl rfl (Nat.le_of_ble_eq_true rfl) dX1_init_25 (fun H locs hP hD hS => ?_)
  have hP : gP G ([(h0, .inr (1, [.ref q1, .ref q2, .ref q3, .null, .int (iI 0)])), (q1, .inl (G.2.1, 12, .inl (ia (fun _ => 0)))), (q2, .inl (G.2.1, 12, .inl (ia (fun _ => 0)))), (q3, .inl (G.2.1, 12, .inl (ia (fun _ => 0))))]) H := hP
  have hD : va_D AA ([(h0, .inr (1, [.ref q1, .ref q2, .ref q3, .null, .int (iI 0)])), (q1, .inl (G.2.1, 12, .inl (ia (fun _ => 0)))), (q2, .inl (G.2.1, 12, .inl (ia (fun _ => 0)))), (q3, .inl (G.2.1, 12, .inl (ia (fun _ => 0))))]) := hD
  refine lv_aload_n F.1 F.2.1 dX1_init_28 rfl (lv_at hl 0 rfl) ?_
  refine k_bipush F dX1_init_29 (by decide +kernel) ?_
  refine k_newi F (by decide +kernel) hK hP hD hS hA 12 rfl (by decide) ⟨Nat.le_of_ble_eq_true rfl, Nat.le_of_ble_eq_true rfl⟩ dX1_init_31 (fun q4 H hP hD hS => ?_)
  have hP : gP G ([(h0, .inr (1, [.ref q1, .ref q2, .ref q3, .null, .int (iI 0)])), (q1, .inl (G.2.1, 12, .inl (ia (fun _ => 0)))), (q2, .inl (G.2.1, 12, .inl (ia (fun _ => 0)))), (q3, .inl (G.2.1, 12, .inl (ia (fun _ => 0)))), (q4, .inl (G.2.1, 12, .inl (ia (fun _ => 0))))]) H := hP
  have hD : va_D AA ([(h0, .inr (1, [.ref q1, .ref q2, .ref q3, .null, .int (iI 0)])), (q1, .inl (G.2.1, 12, .inl (ia (fun _ => 0)))), (q2, .inl (G.2.1, 12, .inl (ia (fun _ => 0)))), (q3, .inl (G.2.1, 12, .inl (ia (fun _ => 0)))), (q4, .inl (G.2.1, 12, .inl (ia (fun _ => 0))))]) := hD
  refine va_putF (D := G.1) (ci := 1) (v := .ref q4) (ty := (.array .int)) (C := RX1) (T := TX1) (N := 5) F.1 F.2.1 F.2.2.2.2 iX1 tyX1 tyX1_ok nmX1 F.2.2.2.1 hK hP hD hS 0 rfl rfl 3 (by decide) f21 (fun _ h9 => h9) rfl hin rfl (by decide +kernel) rfl rfl (Nat.le_of_ble_eq_true rfl) dX1_init_33 (fun H locs hP hD hS => ?_)
  have hP : gP G ([(h0, .inr (1, [.ref q1, .ref q2, .ref q3, .ref q4, .int (iI 0)])), (q1, .inl (G.2.1, 12, .inl (ia (fun _ => 0)))), (q2, .inl (G.2.1, 12, .inl (ia (fun _ => 0)))), (q3, .inl (G.2.1, 12, .inl (ia (fun _ => 0)))), (q4, .inl (G.2.1, 12, .inl (ia (fun _ => 0))))]) H := hP
  have hD : va_D AA ([(h0, .inr (1, [.ref q1, .ref q2, .ref q3, .ref q4, .int (iI 0)])), (q1, .inl (G.2.1, 12, .inl (ia (fun _ => 0)))), (q2, .inl (G.2.1, 12, .inl (ia (fun _ => 0)))), (q3, .inl (G.2.1, 12, .inl (ia (fun _ => 0)))), (q4, .inl (G.2.1, 12, .inl (ia (fun _ => 0))))]) := hD
  exact W.vret F.1 F.2.1 hr (fun t ht _ => ⟨⟨(fun j => if j = 0 then h0 else if j = 1 then q1 else if j = 2 then q2 else if j = 3 then q3 else q4), rfl, rfl, by rw [ht]; exact hP, hD⟩, hS.F ht⟩) hS.2.2 dX1_init_36 hlocks
