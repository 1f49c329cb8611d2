section KQ
variable {p : Program} {l : Launch} {e : Env} {R : Room} {s : State} {m : MethodId} {args : Array Value} {below : List Frame} {meth : Method} {c : Code} {H H0 : Heap} {locs : List Loc} {cells slots : Nat} {Q : State → Prop}
variable {cc : ByteArray} {pc : Nat} {ls : Array Slot} {rest : List Value} {nL : Nat} {Ts : List Cond} {own : String} {A : Nat → Prop}
theorem k_newq (F : CallFix p m c cc nL s args Ts own) {index : Nat} (hl : Cond.classLink own index RX0 ∈ Ts) (hao : va_AO RX0 s) {G : gT} {w : va_W} (hK : gK G s) (hP : gP G w H) (hD : va_D A w) (hS : va_S A H0 H locs) (hA : ∀ q, H0.size ≤ q → A q) {z : Int} (N : Nat) (hz : z = (N : Int)) (hN : N < 1000) (hc : cells + 1 ≤ R.cells ∧ slots + N ≤ R.slots) (hdg : decode cc pc = .ok (.anewarray index, 3))
    (kk : ∀ (q : Nat) (H1 : Heap), gP G (w ++ [(q, .inl (G.2.2.1, N, .inr (.inr (.inr (.inr (fun _ => none))))))]) H1 → va_D A (w ++ [(q, .inl (G.2.2.1, N, .inr (.inr (.inr (.inr (fun _ => none))))))]) → va_S A H0 H1 locs → W p l e R s m args below meth c H1 locs (cells + 1) (slots + N) Q (F0 m (pc + 3) ls (.ref q :: rest))) : W p l e R s m args below meth c H locs cells slots Q (F0 m pc ls (.int (iI z) :: rest)) := by
  refine va_newq F.1 F.2.1 F.2.2.2.1 (F.2.2.2.2 _ hl) hao hK hP hD hS hA (N' := N) (by rw [iI_lt0 (by omega)]; omega) (iI_cl hz (by omega)) (by omega) hc.1 hc.2 hdg (fun q cA H1 hK9 hP9 hD9 hS9 => ?_)
  obtain ⟨_, _, _, _, _, e1⟩ := (hK9.2 2 (cA, .object RX0) rfl).2
  obtain ⟨_, _, _, _, _, e2⟩ := (hK.2 1 (G.2.2.1, .object RX0) rfl).2
  have e3 : cA = G.2.2.1 := Option.some.inj (e1.symm.trans e2)
  subst e3
  exact kk q H1 hP9 hD9 hS9
theorem wr_startE {own : String} {y : MethodName} {ws ws' : List Cond} {rm : Room} {mL mc ms sz : Nat} {ret : Option FieldType} {G : gT} {w : va_W} {E : State → Prop} {As : List Value} {Qc : (Nat → Prop) → Array Value → State → Outcome → State → Prop} (hy : plainName y.cls = true) (ho : y.cls = own) (hw : ws = .code y cc mL ret :: ws') (hlen : (lg_sl As).length ≤ mL)
    (body : ∀ (p : Program) (e : Env) (s : State) (m : MethodId) (args : Array Value) (below : List Frame) (meth : Method) (c : Code) (ls : Array Slot) (A : Nat → Prop), CallFix p m c cc mL s args ws own → meth.sig.returnType = ret → meth.locks = false → meth.name = y.name → E s → gK G s → gP G w s.heap → va_D A w → va_S A s.heap s.heap [] → (∀ q, s.heap.size ≤ q → A q) → lv_has ls mL (lv_args 0 As) →
      W p l e rm s m args below meth c s.heap [] 0 0 (MQ below (Qc A) args s mc ms A) (F0 m 0 ls [])) : Met l y ws rm (va_Pc As (fun U => wB G w sz U ∧ E U)) (Qc (va_A w sz)) mc ms (va_A w sz) := by
  refine Met.ofW (cc := cc) (maxL := mL) (ret := ret) hy hw ?_
  intro p e s m args below meth c s₁ B hml hv
  obtain ⟨rfl, ⟨hsz, hP, hK, hD⟩, hE⟩ := hv
  have hl := lv_entry As (n := mL) hlen
  rw [lg_entry_eq]
  subst hsz
  exact body p e s m _ below meth c _ _ ⟨B.exec, B.bytes, hml, ho ▸ findClass_of_methodNamed B.named, atoms_spec (ws := ws) B.pre⟩ B.returns B.notSynchronized (name_of_methodNamed B.named B.method).1 hE hK hP hD.self va_S.rf (fun q h => Or.inr h) hl
end KQ
theorem rfP_0 (P : Nat → Nat → Nat) : rfP P 0 = fun _ => none := by
  funext j
  exact if_neg (by omega)
abbrev BN (b : Nat → Nat) (h q : Nat) : Nat → Nat := fun j => if j = 5 then h else if j = 6 then q else b j
theorem CW_first {G : gT} {b a : Nat → Nat} {h q : Nat} : (([(h, .inr (2, [.ref (b 0), .ref q, .int (iI 0), .ref (a 0)]))] ++ RW G b (fun _ _ _ => 0) ++ [(q, .inl (G.2.2.1, 6, .inr (.inr (.inr (.inr (fun _ => none))))))] ++ PW G a (fun _ => 0) (fun _ => 0) (fun _ => 0) 0 0 : va_W)).Perm (CW G (BN b h q) (fun _ j => a j) (fun _ _ _ => 0) 0) := by
  have e : CW G (BN b h q) (fun _ j => a j) (fun _ _ _ => 0) 0 = RW G b (fun _ _ _ => 0) ++ ([(h, .inr (2, [.ref (b 0), .ref q, .int (iI 0), .ref (a 0)])), (q, .inl (G.2.2.1, 6, .inr (.inr (.inr (.inr (fun _ => none))))))] ++ ([] ++ PW G a (fun _ => 0) (fun _ => 0) (mff (fun _ => 0) 0) 0 0)) := by
    show RW G (BN b h q) (fun _ _ _ => 0) ++ ([(h, .inr (2, [.ref (b 0), .ref q, .int (iI 0), .ref (a 0)])), (q, .inl (G.2.2.1, 6, .inr (.inr (.inr (.inr (rfP (fun _ j => a j) 0))))))] ++ ([] ++ PW G a (fun _ => 0) (fun _ => 0) (mff (fun _ => 0) 0) 0 0)) = _
    rw [rfP_0]
    rfl
  rw [e, mff_0, List.nil_append, List.append_assoc, List.append_assoc]
  generalize PW G a (fun _ => 0) (fun _ => 0) (fun _ => 0) 0 0 = pw
  generalize RW G b (fun _ _ _ => 0) = rw9
  show (([(h, _)] : va_W) ++ (rw9 ++ ([(q, _)] ++ pw))).Perm (rw9 ++ ([(h, _)] ++ ([(q, _)] ++ pw)))
  rw [← List.append_assoc, ← List.append_assoc rw9]
  exact List.perm_append_comm.append_right _
set_option maxHeartbeats 4000000 in
set_option maxRecDepth 100000 in
theorem mX2_init (l : Launch) (G : gT) (z0 sz0 h0 : Nat) : Met l yX2_init wsX2_init { frames := 2, cells := 10, slots := 160, locals := 60 } (va_Pc [.ref h0] (fun U => wB G [(h0, .inr (2, [.null, .null, .int (iI 0), .null]))] sz0 U ∧ tz z0 U ∧ va_AO RX0 U)) (va_Qv (fun u : (Nat → Nat) × (Nat → Nat → Nat) => u.1 5 = h0) (fun u t => gP G (CW G u.1 u.2 (fun _ _ _ => 0) 0) t.heap ∧ va_D (va_A [(h0, .inr (2, [.null, .null, .int (iI 0), .null]))] sz0) (CW G u.1 u.2 (fun _ _ _ => 0) 0)) (va_A [(h0, .inr (2, [.null, .null, .int (iI 0), .null]))] sz0)) 10 160 (va_A [(h0, .inr (2, [.null, .null, .int (iI 0), .null]))] sz0) := by
  refine wr_startE (own := RX2) (cc := cX2_init) (mL := 1) (ret := none) (E := fun U => tz z0 U ∧ va_AO RX0 U) (Qc := fun AA => va_Qv (fun u : (Nat → Nat) × (Nat → Nat → Nat) => u.1 5 = h0) (fun u t => gP G (CW G u.1 u.2 (fun _ _ _ => 0) 0) t.heap ∧ va_D AA (CW G u.1 u.2 (fun _ _ _ => 0) 0)) AA) (by decide) rfl rfl (Nat.le_of_ble_eq_true rfl) ?_
  intro pP eE sS mM args bB meth cC ls AA F hr hlocks hin hE hK hP hD hS hA hl
  obtain ⟨hz, hao⟩ := hE
  have iX0 : ∀ x ∈ wsX00, x ∈ wsX2_init := by decide +kernel
  have iX1 : ∀ x ∈ wsX10, x ∈ wsX2_init := by decide +kernel
  have iX2 : ∀ x ∈ wsX20, x ∈ wsX2_init := by decide +kernel
  have f12 := k_cond F (w := .fieldLink RX2 12 "ChoirPlanner" "roster" "LChoirPlanner$Roster;") (by decide +kernel)
  have f18 := k_cond F (w := .fieldLink RX2 18 "ChoirPlanner" "pieces" "[LChoirPlanner$Piece;") (by decide +kernel)
  have f23 := k_cond F (w := .fieldLink RX2 23 "ChoirPlanner" "draft" "LChoirPlanner$Piece;") (by decide +kernel)
  have hl : lv_has ls 1 [(0, .ref h0)] := hl
  refine lv_aload_n F.1 F.2.1 dX2_init_0 rfl (lv_at hl 0 rfl) ?_
  refine W.objInit F.1 F.2.1 F.2.2.2.1 (k_cond F (w := .methodLink RX2 3 objectInit) (by decide +kernel)) (k_cond F (w := .instanceMethod objectInit) (by decide +kernel)) (k_cond F (w := .code objectInit ⟨#[0xb1]⟩ 1 none) (by decide +kernel)) rfl (hl.1.trans F.2.2.1.symm) rfl dX2_init_1 (Nat.le_of_ble_eq_true rfl) (Nat.le_of_ble_eq_true rfl) ?_
  refine W.eq (g2 := F0 mM 4 ls []) rfl ?_
  refine lv_aload_n F.1 F.2.1 dX2_init_4 rfl (lv_at hl 0 rfl) ?_
  refine k_new F (C := RX1) (T := TX1) (N := 5) (ci := 1) (fs := [.null, .null, .null, .null, .int (iI 0)]) iX1 tyX1 tyX1_ok (by decide +kernel) (by decide +kernel) (by decide +kernel) hK hP hD hS hA rfl (by decide +kernel) ⟨Nat.le_of_ble_eq_true rfl, Nat.le_of_ble_eq_true rfl⟩ dX2_init_5 (fun q1 H hP hD hS => ?_)
  refine lv_dup F.1 F.2.1 dX2_init_8 rfl ?_
  refine rn_IN F (W2 := fun b => RW G b (fun _ _ _ => 0)) (mX1_init l G H.size q1) gX2_init_X1_init_n11 rfl rfl rfl (by decide +kernel) (hz.2.2.2.1 _ nest_11) (by decide +kernel) rfl (by decide +kernel) ⟨Nat.le_of_ble_eq_true rfl, Nat.le_of_ble_eq_true rfl⟩ hK hP hD hS hA rfl hl.1 (Nat.le_of_ble_eq_true rfl) dX2_init_9 ⟨Nat.le_of_ble_eq_true rfl, Nat.le_of_ble_eq_true rfl⟩ (fun b H locs hb hP hD hS => ?_)
  rw [← hb]
  refine va_putF (D := G.1) (ci := 2) (v := .ref (b 0)) (ty := (.object "ChoirPlanner$Roster")) (C := RX2) (T := TX2) (N := 4) F.1 F.2.1 F.2.2.2.2 iX2 tyX2 tyX2_ok nmX2 F.2.2.2.1 hK hP hD hS 0 rfl rfl 0 (by decide) f12 (fun _ h9 => h9) rfl hin rfl (by decide +kernel) rfl rfl (Nat.le_of_ble_eq_true rfl) dX2_init_12 (fun H locs hP hD hS => ?_)
  have hP : gP G ([(h0, .inr (2, [.ref (b 0), .null, .int (iI 0), .null]))] ++ RW G b (fun _ _ _ => 0)) H := hP
  have hD : va_D AA ([(h0, .inr (2, [.ref (b 0), .null, .int (iI 0), .null]))] ++ RW G b (fun _ _ _ => 0)) := hD
  refine lv_aload_n F.1 F.2.1 dX2_init_15 rfl (lv_at hl 0 rfl) ?_
  refine k_bipush F dX2_init_16 (by decide +kernel) ?_
  refine k_newq F (by decide +kernel) hao hK hP hD hS hA 6 rfl (by decide) ⟨Nat.le_of_ble_eq_true rfl, Nat.le_of_ble_eq_true rfl⟩ dX2_init_18 (fun q H hP hD hS => ?_)
  refine va_putF (D := G.1) (ci := 2) (v := .ref q) (ty := (.array (.object "ChoirPlanner$Piece"))) (C := RX2) (T := TX2) (N := 4) F.1 F.2.1 F.2.2.2.2 iX2 tyX2 tyX2_ok nmX2 F.2.2.2.1 hK hP hD hS 0 rfl rfl 1 (by decide) f18 (fun _ h9 => h9) rfl hin rfl (by decide +kernel) rfl rfl (Nat.le_of_ble_eq_true rfl) dX2_init_21 (fun H locs hP hD hS => ?_)
  have hP : gP G ([(h0, .inr (2, [.ref (b 0), .ref q, .int (iI 0), .null]))] ++ RW G b (fun _ _ _ => 0) ++ [(q, .inl (G.2.2.1, 6, .inr (.inr (.inr (.inr (fun _ => none))))))]) H := hP
  have hD : va_D AA ([(h0, .inr (2, [.ref (b 0), .ref q, .int (iI 0), .null]))] ++ RW G b (fun _ _ _ => 0) ++ [(q, .inl (G.2.2.1, 6, .inr (.inr (.inr (.inr (fun _ => none))))))]) := hD
  refine lv_aload_n F.1 F.2.1 dX2_init_24 rfl (lv_at hl 0 rfl) ?_
  refine k_new F (C := RX0) (T := TX0) (N := 5) (ci := 0) (fs := [.null, .null, .null, .int (iI 0), .int (iI 0)]) iX0 tyX0 tyX0_ok (by decide +kernel) (by decide +kernel) (by decide +kernel) hK hP hD hS hA rfl (by decide +kernel) ⟨Nat.le_of_ble_eq_true rfl, Nat.le_of_ble_eq_true rfl⟩ dX2_init_25 (fun q2 H hP hD hS => ?_)
  refine lv_dup F.1 F.2.1 dX2_init_28 rfl ?_
  refine rn_IN F (W2 := fun a => PW G a (fun _ => 0) (fun _ => 0) (fun _ => 0) 0 0) (mX0_init l G H.size q2) gX2_init_X0_init_n22 rfl rfl rfl (by decide +kernel) (hz.2.2.2.1 _ nest_22) (by decide +kernel) rfl (by decide +kernel) ⟨Nat.le_of_ble_eq_true rfl, Nat.le_of_ble_eq_true rfl⟩ hK hP hD hS hA rfl hl.1 (Nat.le_of_ble_eq_true rfl) dX2_init_29 ⟨Nat.le_of_ble_eq_true rfl, Nat.le_of_ble_eq_true rfl⟩ (fun a H locs ha hP hD hS => ?_)
  rw [← ha]
  refine va_put (D := G.1) (ci := 2) (v := .ref (a 0)) (ty := (.object "ChoirPlanner$Piece")) (C := RX2) (T := TX2) (N := 4) F.1 F.2.1 F.2.2.2.2 iX2 tyX2 tyX2_ok nmX2 F.2.2.2.1 hK hP hD hS 0 rfl rfl 3 (by decide) f23 (fun _ h9 => h9) rfl (by decide +kernel) rfl rfl (Nat.le_of_ble_eq_true rfl) dX2_init_32 (fun H locs hP hD hS => ?_)
  have hP : gP G ([(h0, .inr (2, [.ref (b 0), .ref q, .int (iI 0), .ref (a 0)]))] ++ RW G b (fun _ _ _ => 0) ++ [(q, .inl (G.2.2.1, 6, .inr (.inr (.inr (.inr (fun _ => none))))))] ++ PW G a (fun _ => 0) (fun _ => 0) (fun _ => 0) 0 0) H := hP
  have hD : va_D AA ([(h0, .inr (2, [.ref (b 0), .ref q, .int (iI 0), .ref (a 0)]))] ++ RW G b (fun _ _ _ => 0) ++ [(q, .inl (G.2.2.1, 6, .inr (.inr (.inr (.inr (fun _ => none))))))] ++ PW G a (fun _ => 0) (fun _ => 0) (fun _ => 0) 0 0) := hD
  exact W.vret F.1 F.2.1 hr (fun t ht _ => ⟨⟨(BN b h0 q, fun _ j => a j), rfl, rfl, by rw [ht]; exact gP_perm CW_first hP, D_perm CW_first hD⟩, hS.F ht⟩) hS.2.2 dX2_init_35 hlocks
