def ushrI (a b : Int) : Int := ((iI a).toUInt32 >>> ((iI b).toUInt32 &&& Int32.toUInt32 31)).toInt32.toInt
def oR (q : Nat) : Array Value → State → Outcome → State → Prop := fun _ st o t => o = .returned (some (.ref q)) ∧ t.heap = st.heap
section KR
variable {p : Program} {l : Launch} {e : Env} {R : Room} {s : State} {m : MethodId} {args : Array Value} {below : List Frame} {meth : Method} {c : Code} {H : Heap} {locs : List Loc} {cells slots : Nat} {Q : State → Prop}
variable {cc : ByteArray} {pc : Nat} {ls : Array Slot} {rest : List Value} {nL : Nat} {Ts : List Cond} {own : String}
theorem k_iushr (F : CallFix p m c cc nL s args Ts own) {a b : Int} (hdg : decode cc pc = .ok (.iushr, 1)) (k : W p l e R s m args below meth c H locs cells slots Q (F0 m (pc + 1) ls (.int (iI (ushrI a b)) :: rest))) : W p l e R s m args below meth c H locs cells slots Q (F0 m pc ls (.int (iI b) :: .int (iI a) :: rest)) :=
  lv_iushr F.1 F.2.1 hdg rfl (by rw [ushrI, iI_of] at k; exact k)
theorem k_rret (F : CallFix p m c cc nL s args Ts own) {C : String} {q : Nat} (hr : meth.sig.returnType = some (.object C)) (hlocks : meth.locks = false) (hdg : decode cc pc = .ok (.areturn, 1)) : W p l e R s m args below meth c s.heap [] cells slots (MQ below (oR q) args s cells slots (fun _ => False)) (F0 m pc ls [.ref q]) :=
  W.aret F.1 F.2.1 hr (Or.inl ⟨_, rfl⟩) (Or.inr ⟨_, rfl⟩) (fun t ht _ => ⟨rfl, ht⟩) (fun q h => nomatch h) hdg hlocks
theorem k_csR {z : Nat} {st0 : List Value} {a : Array Value} {mm : Nat} (hm : mm = 0) (hr : va_Run p l e R s m args below meth c H locs cells slots 0 0 (F0 m pc ls st0) rest (oR z a) (fun _ => False))
    (kk : W p l e R s m args below meth c H locs cells slots Q (F0 m (pc + 3) ls (.ref z :: rest))) : W p l e R s m args below meth c H locs cells slots Q (F0 m pc ls st0) := by
  intro T hT X
  obtain ⟨v, st₀, t, T', L, h0, X', hL, e1, -, ⟨hv, hh⟩, st⟩ := hr T hT X
  cases hv
  obtain ⟨t2, a1, b1⟩ := kk T' (by rw [e1, hh, h0]) (Stand.forget X' (fun q h => (hL q h).elim))
  exact ⟨t2, st t2 a1, b1⟩
theorem rd_VR (F : CallFix p m c cc nL s args Ts own) {G : gT} {w w0 : va_W} {z : Nat} {y : MethodName} {bytes : ByteArray} {ws ws' : List Cond} {rm : Room} {mL n index : Nat} {ret : Option FieldType} {b : Nat} {As st0 : List Value} {C : String}
    (hM : Met l y ws rm (va_Pc (.ref b :: As) (rB G w)) (oR z) 0 0 (fun _ => False)) (g : GoodIn Ts (wsV own index C y ws)) (hw : ws = .code y bytes mL ret :: ws') (hrc : rm.cells = 0) (hrs : rm.slots = 0)
    (hd : y.cls = C ∧ y.cls ≠ "java/lang/invoke/MethodHandle" ∧ y.cls ≠ "java/lang/invoke/VarHandle" ∧ (parseMethodDescriptor y.desc).map (fun d => d.parameters.length) = some n) (hR : rm.frames + 1 ≤ R.frames ∧ 8 + (mL + 11) + rm.locals ≤ R.locals)
    (hK : gK G s) (hP : gP G w H) {ci q0 : Nat} {T : u_T} {N : Nat} {fs : List Value} (hc : vwCl[ci]? = some (C, T, N)) (he : w[q0]? = some (b, .inr (ci, fs))) (hn : As.length = n) (hst : st0 = As.reverse ++ .ref b :: rest) (hsz : ls.size = nL) (hW : (rest.map fun v => v.category).sum ≤ 8) (hdg : decode cc pc = .ok (.invokevirtual index, 3)) (hf : cells ≤ R.cells ∧ slots ≤ R.slots)
    (kk : W p l e R s m args below meth c H locs cells slots Q (F0 m (pc + 3) ls (.ref z :: rest))) : W p l e R s m args below meth c H locs cells slots Q (F0 m pc ls st0) :=
  k_csR (mm := 0) rfl (va_runV (As := As) (rest := rest) F hM (cwV n F.2.2.2.2 g hw hrc hrs hd hR) ⟨rB_blind G w _, va_recv hK hP hc he, fun U hU hW => ⟨rfl, by rw [hU]; exact hP, va_K.moved hW.alike hK⟩⟩ rfl hn hsz hst (lv_room hW) hdg hf) kk
end KR
def bc1 (s : Int) : Int := s - andI (ushrI s 1) 1431655765
def bc2 (s : Int) : Int := andI (bc1 s) 858993459 + andI (ushrI (bc1 s) 2) 858993459
def bc3 (s : Int) : Int := bc2 s + ushrI (bc2 s) 4
def bc4 (s : Int) : Int := andI (bc3 s) 252645135 + ushrI (andI (bc3 s) 252645135) 8
def bc5 (s : Int) : Int := bc4 s + ushrI (bc4 s) 16
theorem bc_ok : ∀ s : Nat, s < 64 → andI (bc5 (s : Int)) 63 = (bct s : Int) := by decide +kernel
theorem cnS_rg (σ : Sg) (n : Nat) (d : Int) : ∀ p, -2147483648 ≤ cnS σ n d p ∧ cnS σ n d p < 2147483648
  | 0 => by simp [cnS]
  | p + 1 => iI_rg _

set_option maxHeartbeats 4000000 in
set_option maxRecDepth 100000 in
theorem mJ6_bitCount_0f7a4 (l : Launch) (G : gT) (w : va_W) (s0 : Nat) (hs : s0 < 64) : Met l yJ6_bitCount_0f7a4 wsJ6_bitCount_0f7a4 { frames := 0, cells := 0, slots := 0, locals := 0 } (va_Pc [.int (iI (s0 : Int))] (rB G (w))) (oI ((bct s0 : Int))) 0 0 (fun _ => False) := by
  refine rd_start (own := RJ6) (cc := cJ6_bitCount_0f7a4) (mL := 1) (ret := (some .int)) (by decide) rfl rfl (Nat.le_of_ble_eq_true rfl) ?_
  intro pP eE sS mM args bB meth cC ls F hr hlocks hP hK hl
  have hl : lv_has ls 1 [(0, .int (iI (s0 : Int)))] := hl
  refine lv_iload_n F.1 F.2.1 dJ6_bitCount_0f7a4_0 rfl (lv_at hl 0 rfl) ?_
  refine lv_iload_n F.1 F.2.1 dJ6_bitCount_0f7a4_1 rfl (lv_at hl 0 rfl) ?_
  refine k_iconst F dJ6_bitCount_0f7a4_2 ?_
  refine k_iushr F dJ6_bitCount_0f7a4_3 ?_
  refine lv_ldcw F.1 F.2.1 F.2.2.2.1 (k_cond F (w := .constant RJ6 265 (1431655765)) (by decide +kernel)) dJ6_bitCount_0f7a4_4 ?_
  rw [show ((1431655765) : Int32) = iI 1431655765 from by decide +kernel]
  refine k_iand F dJ6_bitCount_0f7a4_7 ?_
  refine k_isub F (z := (bc1 s0)) rfl dJ6_bitCount_0f7a4_8 ?_
  refine lv_istore_n (lv' := [(0, .int (iI (bc1 s0)))]) F.1 F.2.1 dJ6_bitCount_0f7a4_9 rfl hl (by decide) rfl (fun ls hl => ?_)
  refine lv_iload_n F.1 F.2.1 dJ6_bitCount_0f7a4_10 rfl (lv_at hl 0 rfl) ?_
  refine lv_ldcw F.1 F.2.1 F.2.2.2.1 (k_cond F (w := .constant RJ6 266 (858993459)) (by decide +kernel)) dJ6_bitCount_0f7a4_11 ?_
  rw [show ((858993459) : Int32) = iI 858993459 from by decide +kernel]
  refine k_iand F dJ6_bitCount_0f7a4_14 ?_
  refine lv_iload_n F.1 F.2.1 dJ6_bitCount_0f7a4_15 rfl (lv_at hl 0 rfl) ?_
  refine k_iconst F dJ6_bitCount_0f7a4_16 ?_
  refine k_iushr F dJ6_bitCount_0f7a4_17 ?_
  refine lv_ldcw F.1 F.2.1 F.2.2.2.1 (k_cond F (w := .constant RJ6 266 (858993459)) (by decide +kernel)) dJ6_bitCount_0f7a4_18 ?_
  rw [show ((858993459) : Int32) = iI 858993459 from by decide +kernel]
  refine k_iand F dJ6_bitCount_0f7a4_21 ?_
  refine k_iadd F (z := (bc2 s0)) rfl dJ6_bitCount_0f7a4_22 ?_
  refine lv_istore_n (lv' := [(0, .int (iI (bc2 s0)))]) F.1 F.2.1 dJ6_bitCount_0f7a4_23 rfl hl (by decide) rfl (fun ls hl => ?_)
  refine lv_iload_n F.1 F.2.1 dJ6_bitCount_0f7a4_24 rfl (lv_at hl 0 rfl) ?_
  refine lv_iload_n F.1 F.2.1 dJ6_bitCount_0f7a4_25 rfl (lv_at hl 0 rfl) ?_
  refine k_iconst F dJ6_bitCount_0f7a4_26 ?_
  refine k_iushr F dJ6_bitCount_0f7a4_27 ?_
  refine k_iadd F (z := (bc3 s0)) rfl dJ6_bitCount_0f7a4_28 ?_
  refine lv_ldcw F.1 F.2.1 F.2.2.2.1 (k_cond F (w := .constant RJ6 267 (252645135)) (by decide +kernel)) dJ6_bitCount_0f7a4_29 ?_
  rw [show ((252645135) : Int32) = iI 252645135 from by decide +kernel]
  refine k_iand F dJ6_bitCount_0f7a4_32 ?_
  refine lv_istore_n (lv' := [(0, .int (iI (andI (bc3 s0) 252645135)))]) F.1 F.2.1 dJ6_bitCount_0f7a4_33 rfl hl (by decide) rfl (fun ls hl => ?_)
  refine lv_iload_n F.1 F.2.1 dJ6_bitCount_0f7a4_34 rfl (lv_at hl 0 rfl) ?_
  refine lv_iload_n F.1 F.2.1 dJ6_bitCount_0f7a4_35 rfl (lv_at hl 0 rfl) ?_
  refine k_bipush F dJ6_bitCount_0f7a4_36 (by decide +kernel) ?_
  refine k_iushr F dJ6_bitCount_0f7a4_38 ?_
  refine k_iadd F (z := (bc4 s0)) rfl dJ6_bitCount_0f7a4_39 ?_
  refine lv_istore_n (lv' := [(0, .int (iI (bc4 s0)))]) F.1 F.2.1 dJ6_bitCount_0f7a4_40 rfl hl (by decide) rfl (fun ls hl => ?_)
  refine lv_iload_n F.1 F.2.1 dJ6_bitCount_0f7a4_41 rfl (lv_at hl 0 rfl) ?_
  refine lv_iload_n F.1 F.2.1 dJ6_bitCount_0f7a4_42 rfl (lv_at hl 0 rfl) ?_
  refine k_bipush F dJ6_bitCount_0f7a4_43 (by decide +kernel) ?_
  refine k_iushr F dJ6_bitCount_0f7a4_45 ?_
  refine k_iadd F (z := (bc5 s0)) rfl dJ6_bitCount_0f7a4_46 ?_
  refine lv_istore_n (lv' := [(0, .int (iI (bc5 s0)))]) F.1 F.2.1 dJ6_bitCount_0f7a4_47 rfl hl (by decide) rfl (fun ls hl => ?_)
  refine lv_iload_n F.1 F.2.1 dJ6_bitCount_0f7a4_48 rfl (lv_at hl 0 rfl) ?_
  refine k_bipush F dJ6_bitCount_0f7a4_49 (by decide +kernel) ?_
  refine k_iand F dJ6_bitCount_0f7a4_51 ?_
  exact k_ret F hr hlocks (bc_ok s0 hs) dJ6_bitCount_0f7a4_52

set_option maxHeartbeats 4000000 in
set_option maxRecDepth 100000 in
theorem mX2_pieceAt_ok (l : Launch) (G : gT) (B : Nat → Nat) (P : Nat → Nat → Nat) (σ : Sg) (j : Nat) {n k N : Nat} (hI : Iv σ n k N) (hj : j < k) : Met l yX2_pieceAt wsX2_pieceAt { frames := 0, cells := 0, slots := 0, locals := 0 } (va_Pc [.ref (B 5), .int (iI (j : Int))] (rB G (CW G B P σ k))) (oR (P j 0)) 0 0 (fun _ => False) := by
  refine rd_start (own := RX2) (cc := cX2_pieceAt) (mL := 3) (ret := (some (.object "ChoirPlanner$Piece"))) (by decide) rfl rfl (Nat.le_of_ble_eq_true rfl) ?_
  intro pP eE sS mM args bB meth cC ls F hr hlocks hP hK hl
  obtain ⟨hn, hn12, hk, hk6, hsg, haw, hch, hch1, hch0, htn, hto, htz, hpr, hN, hpz, hle, hlz⟩ := id hI
  have iX2 : ∀ x ∈ wsX20, x ∈ wsX2_pieceAt := by decide +kernel
  have f18 := k_cond F (w := .fieldLink RX2 18 "ChoirPlanner" "pieces" "[LChoirPlanner$Piece;") (by decide +kernel)
  have f93 := k_cond F (w := .fieldLink RX2 93 "ChoirPlanner" "pieceCount" "I") (by decide +kernel)
  have hl : lv_has ls 3 [(0, .ref (B 5)), (1, .int (iI (j : Int)))] := hl
  refine lv_iload_n F.1 F.2.1 dX2_pieceAt_0 rfl (lv_at hl 1 rfl) ?_
  refine k_if_lt F (tgt := 21) dX2_pieceAt_1 (by decide) (by omega) (fun c_1 => absurd c_1 (by omega)) (fun c_1 => ?_)
  refine lv_iload_n F.1 F.2.1 dX2_pieceAt_4 rfl (lv_at hl 1 rfl) ?_
  refine lv_aload_n F.1 F.2.1 dX2_pieceAt_5 rfl (lv_at hl 0 rfl) ?_
  refine k_get F hK hP iX2 5 rfl rfl 2 (by decide) f93 rfl rfl dX2_pieceAt_6 ?_
  refine k_icmp_ge F (tgt := 21) dX2_pieceAt_9 (by decide) (by omega) (by omega) (fun c_2 => absurd c_2 (by omega)) (fun c_2 => ?_)
  refine lv_aload_n F.1 F.2.1 dX2_pieceAt_12 rfl (lv_at hl 0 rfl) ?_
  refine k_get F hK hP iX2 5 rfl rfl 1 (by decide) f18 rfl rfl dX2_pieceAt_13 ?_
  refine lv_iload_n F.1 F.2.1 dX2_pieceAt_16 rfl (lv_at hl 1 rfl) ?_
  refine k_aald F hK hP 6 rfl rfl j (by omega) (by omega) dX2_pieceAt_17 ?_
  refine lv_goto (tgt := 22) F.1 F.2.1 dX2_pieceAt_18 (by decide) ?_
  refine lv_astore_n (lv' := [(2, .ref (P j 0)), (0, .ref (B 5)), (1, .int (iI (j : Int)))]) F.1 F.2.1 dX2_pieceAt_22 rfl hl (by decide) rfl (fun ls hl => ?_)
  refine lv_aload_n F.1 F.2.1 dX2_pieceAt_23 rfl (lv_at hl 0 rfl) ?_
  refine lv_ifnonnull F.1 F.2.1 (tgt := 37) dX2_pieceAt_24 (by decide) ?_
  refine lv_aload_n F.1 F.2.1 dX2_pieceAt_37 rfl (lv_at hl 0 rfl) ?_
  exact k_rret F hr hlocks dX2_pieceAt_38

set_option maxHeartbeats 4000000 in
set_option maxRecDepth 100000 in
theorem mX2_nearestShift (l : Launch) (G : gT) (B : Nat → Nat) (P : Nat → Nat → Nat) (σ : Sg) (i : Nat) (d : Int) {n k N : Nat} (hI : Iv σ n k N) (hi : i ≤ k) : Met l yX2_nearestShift wsX2_nearestShift { frames := 3, cells := 0, slots := 0, locals := 69 } (va_Pc [.ref (B 5), .ref (P i 0), .int (iI d)] (rB G (CW G B P σ k))) (oI (nsC σ i n d)) 0 0 (fun _ => False) := by
  refine rd_start (own := RX2) (cc := cX2_nearestShift) (mL := 6) (ret := (some .int)) (by decide) rfl rfl (Nat.le_of_ble_eq_true rfl) ?_
  intro pP eE sS mM args bB meth cC ls F hr hlocks hP hK hl
  obtain ⟨hn, hn12, hk, hk6, hsg, haw, hch, hch1, hch0, htn, hto, htz, hpr, hN, hpz, hle, hlz⟩ := id hI
  have hs3 : ∀ j, j < n → 0 ≤ σ 4 0 j ∧ σ 4 0 j ≤ σ 5 0 j ∧ σ 5 0 j ≤ 60 := fun j hj => by have := hsg j hj; omega
  have iX2 : ∀ x ∈ wsX20, x ∈ wsX2_nearestShift := by decide +kernel
  have f12 := k_cond F (w := .fieldLink RX2 12 "ChoirPlanner" "roster" "LChoirPlanner$Roster;") (by decide +kernel)
  have hl : lv_has ls 6 [(0, .ref (B 5)), (1, .ref (P i 0)), (2, .int (iI d))] := hl
  refine k_bipush F dX2_nearestShift_0 (by decide +kernel) ?_
  refine lv_istore_n (lv' := [(3, .int (iI (-12))), (0, .ref (B 5)), (1, .ref (P i 0)), (2, .int (iI d))]) F.1 F.2.1 dX2_nearestShift_2 rfl hl (by decide) rfl (fun ls hl => ?_)
  refine k_bipush F dX2_nearestShift_3 (by decide +kernel) ?_
  refine lv_istore (lv' := [(4, .int (iI 12)), (3, .int (iI (-12))), (0, .ref (B 5)), (1, .ref (P i 0)), (2, .int (iI d))]) F.1 F.2.1 dX2_nearestShift_5 hl (by decide) rfl (fun ls hl => ?_)
  refine k_iconst F dX2_nearestShift_7 ?_
  refine lv_istore (lv' := [(5, .int (iI 0)), (4, .int (iI 12)), (3, .int (iI (-12))), (0, .ref (B 5)), (1, .ref (P i 0)), (2, .int (iI d))]) F.1 F.2.1 dX2_nearestShift_8 hl (by decide) rfl (fun ls hl => ?_)
  have J_1 : ∀ v : Nat, v ≤ 4 → ∀ ls : Array Slot, lv_has ls 6 [(3, .int (iI (nlo σ i n d v))), (4, .int (iI (nhi σ i n d v))), (5, .int (iI (v : Int))), (0, .ref (B 5)), (1, .ref (P i 0)), (2, .int (iI d))] → W pP l eE ({ frames := 3, cells := 0, slots := 0, locals := 69 }) sS mM args bB meth cC sS.heap [] 0 0 (MQ bB (oI (nsC σ i n d)) args sS 0 0 (fun _ => False)) (F0 mM 10 ls []) := by
    refine lp_up (4) ?_ ?_
    · intro ls hl
      have b1 := nlo_rg (i := i) (d := d) hs3 (htn i) 4
      have b2 := nhi_rg (i := i) (d := d) hs3 (htn i) 4
      refine lv_iload F.1 F.2.1 dX2_nearestShift_10 (lv_at hl 2 rfl) ?_
      refine k_iconst F dX2_nearestShift_12 ?_
      refine k_icmp_ge F (tgt := 68) dX2_nearestShift_13 (by decide) (by omega) (by decide) (fun c_3 => ?_) (fun c_3 => absurd c_3 (by omega))
      refine lv_iload_n F.1 F.2.1 dX2_nearestShift_68 rfl (lv_at hl 0 rfl) ?_
      refine lv_iload F.1 F.2.1 dX2_nearestShift_69 (lv_at hl 1 rfl) ?_
      refine k_icmp_le F (tgt := 79) dX2_nearestShift_71 (by decide) (by omega) (by omega) (fun c_4 => ?_) (fun c_4 => ?_)
      · skip
        refine lv_iload_n F.1 F.2.1 dX2_nearestShift_79 rfl (lv_at hl 0 rfl) ?_
        refine lv_iload F.1 F.2.1 dX2_nearestShift_80 (lv_at hl 1 rfl) ?_
        refine k_iconst F dX2_nearestShift_82 ?_
        refine k_mmin F hl.1 (k_cond F (w := .methodLink RX2 206 Lib.Math.min.name) (by decide +kernel)) (k_cond F (w := .static Lib.Math.min.name) (by decide +kernel)) (k_cond F (w := .initialized "java/lang/Math") (by decide +kernel)) (k_cond F (w := .code Lib.Math.min.name Lib.Math.min.code 2 (some .int)) (by decide +kernel)) (Nat.le_of_ble_eq_true rfl) (Nat.le_of_ble_eq_true rfl) (Nat.zero_le _) (Nat.zero_le _) (by omega) (by decide) dX2_nearestShift_83 ?_
        refine k_mmax F hl.1 (k_cond F (w := .methodLink RX2 198 Lib.Math.max.name) (by decide +kernel)) (k_cond F (w := .static Lib.Math.max.name) (by decide +kernel)) (k_cond F (w := .initialized "java/lang/Math") (by decide +kernel)) (k_cond F (w := .code Lib.Math.max.name Lib.Math.max.code 2 (some .int)) (by decide +kernel)) (Nat.le_of_ble_eq_true rfl) (Nat.le_of_ble_eq_true rfl) (Nat.zero_le _) (Nat.zero_le _) (by omega) (by omega) dX2_nearestShift_86 ?_
        exact k_ret F hr hlocks (by unfold nsC; first | rw [if_pos (by omega)] | rw [if_neg (by omega)]) dX2_nearestShift_89
      · skip
        refine k_bipush F dX2_nearestShift_74 (by decide +kernel) ?_
        refine lv_goto (tgt := 89) F.1 F.2.1 dX2_nearestShift_76 (by decide) ?_
        exact k_ret F hr hlocks (by unfold nsC; first | rw [if_pos (by omega)] | rw [if_neg (by omega)]) dX2_nearestShift_89
    · intro v hk9 ih ls hl
      have b1 := nlo_rg (i := i) (d := d) hs3 (htn i) v
      have b2 := nhi_rg (i := i) (d := d) hs3 (htn i) v
      have b3 := ftC_rg (σ := σ) (v := (v : Int)) (d := d) (n := n) (fun j hj => by have := hs3 j hj; omega) n (Nat.le_refl n)
      have b4 := ltC_rg (σ := σ) (v := (v : Int)) (d := d) (n := n) (fun j hj => by have := hs3 j hj; omega) n (Nat.le_refl n)
      have b5 := lwC_rg (htn i) v (σ 8 i 0).toNat
      have b6 := hgC_rg (htn i) v (σ 8 i 0).toNat
      refine lv_iload F.1 F.2.1 dX2_nearestShift_10 (lv_at hl 2 rfl) ?_
      refine k_iconst F dX2_nearestShift_12 ?_
      refine k_icmp_ge F (tgt := 68) dX2_nearestShift_13 (by decide) (by omega) (by decide) (fun c_5 => absurd c_5 (by omega)) (fun c_5 => ?_)
      refine lv_iload_n F.1 F.2.1 dX2_nearestShift_16 rfl (lv_at hl 0 rfl) ?_
      refine lv_aload_n F.1 F.2.1 dX2_nearestShift_17 rfl (lv_at hl 3 rfl) ?_
      refine k_get F hK hP iX2 5 rfl rfl 0 (by decide) f12 rfl rfl dX2_nearestShift_18 ?_
      refine lv_iload F.1 F.2.1 dX2_nearestShift_21 (lv_at hl 2 rfl) ?_
      refine lv_iload_n F.1 F.2.1 dX2_nearestShift_23 rfl (lv_at hl 5 rfl) ?_
      refine rd_V F (n := 2) (w0 := []) (mX1_firstTone l G B σ (v : Int) d (by omega) hI) gX2_nearestShift_X1_firstTone rfl rfl rfl (by decide +kernel) ⟨Nat.le_of_ble_eq_true rfl, Nat.le_of_ble_eq_true rfl⟩ hK (CW_R hP) (ci := 1) (q0 := 0) rfl rfl rfl rfl hl.1 (Nat.le_of_ble_eq_true rfl) dX2_nearestShift_24 ⟨Nat.zero_le _, Nat.zero_le _⟩ ?_
      refine lv_aload_n F.1 F.2.1 dX2_nearestShift_27 rfl (lv_at hl 4 rfl) ?_
      refine lv_iload F.1 F.2.1 dX2_nearestShift_28 (lv_at hl 2 rfl) ?_
      refine rd_V F (n := 1) (w0 := []) (mX0_lowestTone l G (P i) (σ 7 i) (σ 10 i) (mff (σ 7 i) (σ 8 i 0)) (σ 8 i 0) (σ 9 i 0) v (by omega) (hch i) (htn i)) gX2_nearestShift_X0_lowestTone rfl rfl rfl (by decide +kernel) ⟨Nat.le_of_ble_eq_true rfl, Nat.le_of_ble_eq_true rfl⟩ hK (CW_P hP i (by omega)) (ci := 0) (q0 := 0) rfl rfl rfl rfl hl.1 (Nat.le_of_ble_eq_true rfl) dX2_nearestShift_30 ⟨Nat.zero_le _, Nat.zero_le _⟩ ?_
      refine k_isub F rfl dX2_nearestShift_33 ?_
      refine k_mmax F hl.1 (k_cond F (w := .methodLink RX2 198 Lib.Math.max.name) (by decide +kernel)) (k_cond F (w := .static Lib.Math.max.name) (by decide +kernel)) (k_cond F (w := .initialized "java/lang/Math") (by decide +kernel)) (k_cond F (w := .code Lib.Math.max.name Lib.Math.max.code 2 (some .int)) (by decide +kernel)) (Nat.le_of_ble_eq_true rfl) (Nat.le_of_ble_eq_true rfl) (Nat.zero_le _) (Nat.zero_le _) (by omega) (by omega) dX2_nearestShift_34 ?_
      refine lv_istore_n (lv' := [(3, .int (iI (max (nlo σ i n d v) ((ftC σ (v : Int) d n) - (lwC (σ 7 i) v (σ 8 i 0).toNat))))), (4, .int (iI (nhi σ i n d v))), (5, .int (iI (v : Int))), (0, .ref (B 5)), (1, .ref (P i 0)), (2, .int (iI d))]) F.1 F.2.1 dX2_nearestShift_37 rfl hl (by decide) rfl (fun ls hl => ?_)
      refine lv_iload F.1 F.2.1 dX2_nearestShift_38 (lv_at hl 1 rfl) ?_
      refine lv_aload_n F.1 F.2.1 dX2_nearestShift_40 rfl (lv_at hl 3 rfl) ?_
      refine k_get F hK hP iX2 5 rfl rfl 0 (by decide) f12 rfl rfl dX2_nearestShift_41 ?_
      refine lv_iload F.1 F.2.1 dX2_nearestShift_44 (lv_at hl 2 rfl) ?_
      refine lv_iload_n F.1 F.2.1 dX2_nearestShift_46 rfl (lv_at hl 5 rfl) ?_
      refine rd_V F (n := 2) (w0 := []) (mX1_lastTone l G B σ (v : Int) d (by omega) hI) gX2_nearestShift_X1_lastTone rfl rfl rfl (by decide +kernel) ⟨Nat.le_of_ble_eq_true rfl, Nat.le_of_ble_eq_true rfl⟩ hK (CW_R hP) (ci := 1) (q0 := 0) rfl rfl rfl rfl hl.1 (Nat.le_of_ble_eq_true rfl) dX2_nearestShift_47 ⟨Nat.zero_le _, Nat.zero_le _⟩ ?_
      refine lv_aload_n F.1 F.2.1 dX2_nearestShift_50 rfl (lv_at hl 4 rfl) ?_
      refine lv_iload F.1 F.2.1 dX2_nearestShift_51 (lv_at hl 2 rfl) ?_
      refine rd_V F (n := 1) (w0 := []) (mX0_highestTone l G (P i) (σ 7 i) (σ 10 i) (mff (σ 7 i) (σ 8 i 0)) (σ 8 i 0) (σ 9 i 0) v (by omega) (hch i) (htn i)) gX2_nearestShift_X0_highestTone rfl rfl rfl (by decide +kernel) ⟨Nat.le_of_ble_eq_true rfl, Nat.le_of_ble_eq_true rfl⟩ hK (CW_P hP i (by omega)) (ci := 0) (q0 := 0) rfl rfl rfl rfl hl.1 (Nat.le_of_ble_eq_true rfl) dX2_nearestShift_53 ⟨Nat.zero_le _, Nat.zero_le _⟩ ?_
      refine k_isub F rfl dX2_nearestShift_56 ?_
      refine k_mmin F hl.1 (k_cond F (w := .methodLink RX2 206 Lib.Math.min.name) (by decide +kernel)) (k_cond F (w := .static Lib.Math.min.name) (by decide +kernel)) (k_cond F (w := .initialized "java/lang/Math") (by decide +kernel)) (k_cond F (w := .code Lib.Math.min.name Lib.Math.min.code 2 (some .int)) (by decide +kernel)) (Nat.le_of_ble_eq_true rfl) (Nat.le_of_ble_eq_true rfl) (Nat.zero_le _) (Nat.zero_le _) (by omega) (by omega) dX2_nearestShift_57 ?_
      refine lv_istore (lv' := [(4, .int (iI (min (nhi σ i n d v) ((ltC σ (v : Int) d n) - (hgC (σ 7 i) v (σ 8 i 0).toNat))))), (3, .int (iI (max (nlo σ i n d v) ((ftC σ (v : Int) d n) - (lwC (σ 7 i) v (σ 8 i 0).toNat))))), (5, .int (iI (v : Int))), (0, .ref (B 5)), (1, .ref (P i 0)), (2, .int (iI d))]) F.1 F.2.1 dX2_nearestShift_60 hl (by decide) rfl (fun ls hl => ?_)
      refine lv_iinc (v := iI ((v : Int) + 1)) (lv' := [(5, .int (iI ((v : Int) + 1))), (4, .int (iI (min (nhi σ i n d v) ((ltC σ (v : Int) d n) - (hgC (σ 7 i) v (σ 8 i 0).toNat))))), (3, .int (iI (max (nlo σ i n d v) ((ftC σ (v : Int) d n) - (lwC (σ 7 i) v (σ 8 i 0).toNat))))), (0, .ref (B 5)), (1, .ref (P i 0)), (2, .int (iI d))]) F.1 F.2.1 dX2_nearestShift_62 hl (k := 2) rfl (iI_add _ _) (by decide) rfl (fun ls hl => ?_)
      refine lv_goto (tgt := 10) F.1 F.2.1 dX2_nearestShift_65 (by decide) ?_
      have e_6 : ((max (nlo σ i n d v) ((ftC σ (v : Int) d n) - (lwC (σ 7 i) v (σ 8 i 0).toNat))) : Int) = nlo σ i n d (v + 1) := rfl
      have e_7 : ((min (nhi σ i n d v) ((ltC σ (v : Int) d n) - (hgC (σ 7 i) v (σ 8 i 0).toNat))) : Int) = nhi σ i n d (v + 1) := rfl
      have e_8 : (((v : Int) + 1) : Int) = ((v + 1 : Nat) : Int) := rfl
      exact ih _ (lv_to (lv_to (lv_to (lv_sub hl [2, 1, 0, 3, 4, 5] rfl) (congrArg (fun x9 : Int => ([(3, .int (iI x9)), (4, .int (iI (min (nhi σ i n d v) ((ltC σ (v : Int) d n) - (hgC (σ 7 i) v (σ 8 i 0).toNat))))), (5, .int (iI ((v : Int) + 1))), (0, .ref (B 5)), (1, .ref (P i 0)), (2, .int (iI d))] : List (Nat × Value))) e_6)) (congrArg (fun x9 : Int => ([(3, .int (iI (nlo σ i n d (v + 1)))), (4, .int (iI x9)), (5, .int (iI ((v : Int) + 1))), (0, .ref (B 5)), (1, .ref (P i 0)), (2, .int (iI d))] : List (Nat × Value))) e_7)) (congrArg (fun x9 : Int => ([(3, .int (iI (nlo σ i n d (v + 1)))), (4, .int (iI (nhi σ i n d (v + 1)))), (5, .int (iI x9)), (0, .ref (B 5)), (1, .ref (P i 0)), (2, .int (iI d))] : List (Nat × Value))) e_8))
  have e_9 : ((-12) : Int) = nlo σ i n d 0 := rfl
  have e_10 : (12 : Int) = nhi σ i n d 0 := rfl
  have e_11 : (0 : Int) = ((0 : Nat) : Int) := rfl
  exact J_1 0 (by omega) _ (lv_to (lv_to (lv_to (lv_sub hl [2, 1, 0, 3, 4, 5] rfl) (congrArg (fun x9 : Int => ([(3, .int (iI x9)), (4, .int (iI 12)), (5, .int (iI 0)), (0, .ref (B 5)), (1, .ref (P i 0)), (2, .int (iI d))] : List (Nat × Value))) e_9)) (congrArg (fun x9 : Int => ([(3, .int (iI (nlo σ i n d 0))), (4, .int (iI x9)), (5, .int (iI 0)), (0, .ref (B 5)), (1, .ref (P i 0)), (2, .int (iI d))] : List (Nat × Value))) e_10)) (congrArg (fun x9 : Int => ([(3, .int (iI (nlo σ i n d 0))), (4, .int (iI (nhi σ i n d 0))), (5, .int (iI x9)), (0, .ref (B 5)), (1, .ref (P i 0)), (2, .int (iI d))] : List (Nat × Value))) e_11))

set_option maxHeartbeats 4000000 in
set_option maxRecDepth 100000 in
theorem mX2_singableSet (l : Launch) (G : gT) (B : Nat → Nat) (P : Nat → Nat → Nat) (σ : Sg) (d : Int) {n k N : Nat} (hI : Iv σ n k N) : Met l yX2_singableSet wsX2_singableSet { frames := 4, cells := 0, slots := 0, locals := 94 } (va_Pc [.ref (B 5), .int (iI d)] (rB G (CW G B P σ k))) (oI (cnS σ n d k)) 0 0 (fun _ => False) := by
  refine rd_start (own := RX2) (cc := cX2_singableSet) (mL := 4) (ret := (some .int)) (by decide) rfl rfl (Nat.le_of_ble_eq_true rfl) ?_
  intro pP eE sS mM args bB meth cC ls F hr hlocks hP hK hl
  obtain ⟨hn, hn12, hk, hk6, hsg, haw, hch, hch1, hch0, htn, hto, htz, hpr, hN, hpz, hle, hlz⟩ := id hI
  have hs3 : ∀ j, j < n → 0 ≤ σ 4 0 j ∧ σ 4 0 j ≤ σ 5 0 j ∧ σ 5 0 j ≤ 60 := fun j hj => by have := hsg j hj; omega
  have iX2 : ∀ x ∈ wsX20, x ∈ wsX2_singableSet := by decide +kernel
  have f93 := k_cond F (w := .fieldLink RX2 93 "ChoirPlanner" "pieceCount" "I") (by decide +kernel)
  have hl : lv_has ls 4 [(0, .ref (B 5)), (1, .int (iI d))] := hl
  refine k_iconst F dX2_singableSet_0 ?_
  refine lv_istore_n (lv' := [(2, .int (iI 0)), (0, .ref (B 5)), (1, .int (iI d))]) F.1 F.2.1 dX2_singableSet_1 rfl hl (by decide) rfl (fun ls hl => ?_)
  refine k_iconst F dX2_singableSet_2 ?_
  refine lv_istore_n (lv' := [(3, .int (iI 0)), (2, .int (iI 0)), (0, .ref (B 5)), (1, .int (iI d))]) F.1 F.2.1 dX2_singableSet_3 rfl hl (by decide) rfl (fun ls hl => ?_)
  have J_1 : ∀ p : Nat, p ≤ k → ∀ ls : Array Slot, lv_has ls 4 [(2, .int (iI (cnS σ n d p))), (3, .int (iI (p : Int))), (0, .ref (B 5)), (1, .int (iI d))] → W pP l eE ({ frames := 4, cells := 0, slots := 0, locals := 94 }) sS mM args bB meth cC sS.heap [] 0 0 (MQ bB (oI (cnS σ n d k)) args sS 0 0 (fun _ => False)) (F0 mM 4 ls []) := by
    refine lp_up (k) ?_ ?_
    · intro ls hl
      refine lv_iload_n F.1 F.2.1 dX2_singableSet_4 rfl (lv_at hl 1 rfl) ?_
      refine lv_aload_n F.1 F.2.1 dX2_singableSet_5 rfl (lv_at hl 2 rfl) ?_
      refine k_get F hK hP iX2 5 rfl rfl 2 (by decide) f93 rfl rfl dX2_singableSet_6 ?_
      refine k_icmp_ge F (tgt := 39) dX2_singableSet_9 (by decide) (by omega) (by omega) (fun c_3 => ?_) (fun c_3 => absurd c_3 (by omega))
      refine lv_iload_n F.1 F.2.1 dX2_singableSet_39 rfl (lv_at hl 0 rfl) ?_
      exact k_ret F hr hlocks rfl dX2_singableSet_40
    · intro p hk9 ih ls hl
      have b1 := nsC_eq (σ := σ) (i := p) (n := n) (d := d) hs3 (htn p) (by have := hch1 p (by omega); omega)
      refine lv_iload_n F.1 F.2.1 dX2_singableSet_4 rfl (lv_at hl 1 rfl) ?_
      refine lv_aload_n F.1 F.2.1 dX2_singableSet_5 rfl (lv_at hl 2 rfl) ?_
      refine k_get F hK hP iX2 5 rfl rfl 2 (by decide) f93 rfl rfl dX2_singableSet_6 ?_
      refine k_icmp_ge F (tgt := 39) dX2_singableSet_9 (by decide) (by omega) (by omega) (fun c_4 => absurd c_4 (by omega)) (fun c_4 => ?_)
      refine lv_aload_n F.1 F.2.1 dX2_singableSet_12 rfl (lv_at hl 2 rfl) ?_
      refine lv_aload_n F.1 F.2.1 dX2_singableSet_13 rfl (lv_at hl 2 rfl) ?_
      refine lv_iload_n F.1 F.2.1 dX2_singableSet_14 rfl (lv_at hl 1 rfl) ?_
      refine rd_VR F (n := 1) (w0 := []) (mX2_pieceAt_ok l G B P σ p hI (by omega)) gX2_singableSet_X2_pieceAt rfl rfl rfl (by decide +kernel) ⟨Nat.le_of_ble_eq_true rfl, Nat.le_of_ble_eq_true rfl⟩ hK hP (ci := 2) (q0 := 5) rfl rfl rfl rfl hl.1 (Nat.le_of_ble_eq_true rfl) dX2_singableSet_15 ⟨Nat.zero_le _, Nat.zero_le _⟩ ?_
      refine lv_iload_n F.1 F.2.1 dX2_singableSet_18 rfl (lv_at hl 3 rfl) ?_
      refine rd_V F (n := 2) (w0 := []) (mX2_nearestShift l G B P σ p d hI (by omega)) gX2_singableSet_X2_nearestShift rfl rfl rfl (by decide +kernel) ⟨Nat.le_of_ble_eq_true rfl, Nat.le_of_ble_eq_true rfl⟩ hK hP (ci := 2) (q0 := 5) rfl rfl rfl rfl hl.1 (Nat.le_of_ble_eq_true rfl) dX2_singableSet_19 ⟨Nat.zero_le _, Nat.zero_le _⟩ ?_
      refine k_bipush F dX2_singableSet_22 (by decide +kernel) ?_
      refine k_icmp_eq F (tgt := 33) dX2_singableSet_24 (by decide) (by omega) (by decide) (fun c_5 => ?_) (fun c_5 => ?_)
      · skip
        refine lv_iinc (v := iI ((p : Int) + 1)) (lv' := [(3, .int (iI ((p : Int) + 1))), (2, .int (iI (cnS σ n d p))), (0, .ref (B 5)), (1, .int (iI d))]) F.1 F.2.1 dX2_singableSet_33 hl (k := 1) rfl (iI_add _ _) (by decide) rfl (fun ls hl => ?_)
        refine lv_goto (tgt := 4) F.1 F.2.1 dX2_singableSet_36 (by decide) ?_
        have e_6 : (cnS σ n d p : Int) = cnS σ n d (p + 1) := by rw [cnS_s]; first | rw [if_neg (by omega)] | rw [if_pos (by omega), orI_0 (cnS_rg σ n d p)]
        have e_7 : (((p : Int) + 1) : Int) = ((p + 1 : Nat) : Int) := rfl
        exact ih _ (lv_to (lv_to (lv_sub hl [1, 0, 2, 3] rfl) (congrArg (fun x9 : Int => ([(2, .int (iI x9)), (3, .int (iI ((p : Int) + 1))), (0, .ref (B 5)), (1, .int (iI d))] : List (Nat × Value))) e_6)) (congrArg (fun x9 : Int => ([(2, .int (iI (cnS σ n d (p + 1)))), (3, .int (iI x9)), (0, .ref (B 5)), (1, .int (iI d))] : List (Nat × Value))) e_7))
      · skip
        refine lv_iload_n F.1 F.2.1 dX2_singableSet_27 rfl (lv_at hl 0 rfl) ?_
        refine k_iconst F dX2_singableSet_28 ?_
        refine lv_iload_n F.1 F.2.1 dX2_singableSet_29 rfl (lv_at hl 1 rfl) ?_
        refine k_ishl F dX2_singableSet_30 ?_
        refine k_ior F dX2_singableSet_31 ?_
        refine lv_istore_n (lv' := [(2, .int (iI (orI (cnS σ n d p) (shlI 1 (p : Int))))), (3, .int (iI (p : Int))), (0, .ref (B 5)), (1, .int (iI d))]) F.1 F.2.1 dX2_singableSet_32 rfl hl (by decide) rfl (fun ls hl => ?_)
        refine lv_iinc (v := iI ((p : Int) + 1)) (lv' := [(3, .int (iI ((p : Int) + 1))), (2, .int (iI (orI (cnS σ n d p) (shlI 1 (p : Int))))), (0, .ref (B 5)), (1, .int (iI d))]) F.1 F.2.1 dX2_singableSet_33 hl (k := 1) rfl (iI_add _ _) (by decide) rfl (fun ls hl => ?_)
        refine lv_goto (tgt := 4) F.1 F.2.1 dX2_singableSet_36 (by decide) ?_
        have e_8 : ((orI (cnS σ n d p) (shlI 1 (p : Int))) : Int) = cnS σ n d (p + 1) := by rw [cnS_s]; first | rw [if_neg (by omega)] | rw [if_pos (by omega), orI_0 (cnS_rg σ n d p)]
        have e_9 : (((p : Int) + 1) : Int) = ((p + 1 : Nat) : Int) := rfl
        exact ih _ (lv_to (lv_to (lv_sub hl [1, 0, 2, 3] rfl) (congrArg (fun x9 : Int => ([(2, .int (iI x9)), (3, .int (iI ((p : Int) + 1))), (0, .ref (B 5)), (1, .int (iI d))] : List (Nat × Value))) e_8)) (congrArg (fun x9 : Int => ([(2, .int (iI (cnS σ n d (p + 1)))), (3, .int (iI x9)), (0, .ref (B 5)), (1, .int (iI d))] : List (Nat × Value))) e_9))
  have e_10 : (0 : Int) = cnS σ n d 0 := rfl
  have e_11 : (0 : Int) = ((0 : Nat) : Int) := rfl
  exact J_1 0 (by omega) _ (lv_to (lv_to (lv_sub hl [1, 0, 2, 3] rfl) (congrArg (fun x9 : Int => ([(2, .int (iI x9)), (3, .int (iI 0)), (0, .ref (B 5)), (1, .int (iI d))] : List (Nat × Value))) e_10)) (congrArg (fun x9 : Int => ([(2, .int (iI (cnS σ n d 0))), (3, .int (iI x9)), (0, .ref (B 5)), (1, .int (iI d))] : List (Nat × Value))) e_11))

set_option maxHeartbeats 4000000 in
set_option maxRecDepth 100000 in
theorem mX2_lengthOf (l : Launch) (G : gT) (B : Nat → Nat) (P : Nat → Nat → Nat) (σ : Sg) (set : Int) {n k N : Nat} (hI : Iv σ n k N) : Met l yX2_lengthOf wsX2_lengthOf { frames := 1, cells := 0, slots := 0, locals := 40 } (va_Pc [.ref (B 5), .int (iI set)] (rB G (CW G B P σ k))) (oI (lnS σ set k)) 0 0 (fun _ => False) := by
  refine rd_start (own := RX2) (cc := cX2_lengthOf) (mL := 4) (ret := (some .int)) (by decide) rfl rfl (Nat.le_of_ble_eq_true rfl) ?_
  intro pP eE sS mM args bB meth cC ls F hr hlocks hP hK hl
  obtain ⟨hn, hn12, hk, hk6, hsg, haw, hch, hch1, hch0, htn, hto, htz, hpr, hN, hpz, hle, hlz⟩ := id hI
  have iX2 : ∀ x ∈ wsX20, x ∈ wsX2_lengthOf := by decide +kernel
  have f93 := k_cond F (w := .fieldLink RX2 93 "ChoirPlanner" "pieceCount" "I") (by decide +kernel)
  have hl : lv_has ls 4 [(0, .ref (B 5)), (1, .int (iI set))] := hl
  refine k_iconst F dX2_lengthOf_0 ?_
  refine lv_istore_n (lv' := [(2, .int (iI 0)), (0, .ref (B 5)), (1, .int (iI set))]) F.1 F.2.1 dX2_lengthOf_1 rfl hl (by decide) rfl (fun ls hl => ?_)
  refine k_iconst F dX2_lengthOf_2 ?_
  refine lv_istore_n (lv' := [(3, .int (iI 0)), (2, .int (iI 0)), (0, .ref (B 5)), (1, .int (iI set))]) F.1 F.2.1 dX2_lengthOf_3 rfl hl (by decide) rfl (fun ls hl => ?_)
  have J_1 : ∀ p : Nat, p ≤ k → ∀ ls : Array Slot, lv_has ls 4 [(2, .int (iI (lnS σ set p))), (3, .int (iI (p : Int))), (0, .ref (B 5)), (1, .int (iI set))] → W pP l eE ({ frames := 1, cells := 0, slots := 0, locals := 40 }) sS mM args bB meth cC sS.heap [] 0 0 (MQ bB (oI (lnS σ set k)) args sS 0 0 (fun _ => False)) (F0 mM 4 ls []) := by
    refine lp_up (k) ?_ ?_
    · intro ls hl
      refine lv_iload_n F.1 F.2.1 dX2_lengthOf_4 rfl (lv_at hl 1 rfl) ?_
      refine lv_aload_n F.1 F.2.1 dX2_lengthOf_5 rfl (lv_at hl 2 rfl) ?_
      refine k_get F hK hP iX2 5 rfl rfl 2 (by decide) f93 rfl rfl dX2_lengthOf_6 ?_
      refine k_icmp_ge F (tgt := 37) dX2_lengthOf_9 (by decide) (by omega) (by omega) (fun c_3 => ?_) (fun c_3 => absurd c_3 (by omega))
      refine lv_iload_n F.1 F.2.1 dX2_lengthOf_37 rfl (lv_at hl 0 rfl) ?_
      exact k_ret F hr hlocks rfl dX2_lengthOf_38
    · intro p hk9 ih ls hl
      have b1 := a1_01 (shrI set p)
      refine lv_iload_n F.1 F.2.1 dX2_lengthOf_4 rfl (lv_at hl 1 rfl) ?_
      refine lv_aload_n F.1 F.2.1 dX2_lengthOf_5 rfl (lv_at hl 2 rfl) ?_
      refine k_get F hK hP iX2 5 rfl rfl 2 (by decide) f93 rfl rfl dX2_lengthOf_6 ?_
      refine k_icmp_ge F (tgt := 37) dX2_lengthOf_9 (by decide) (by omega) (by omega) (fun c_4 => absurd c_4 (by omega)) (fun c_4 => ?_)
      refine lv_iload_n F.1 F.2.1 dX2_lengthOf_12 rfl (lv_at hl 3 rfl) ?_
      refine lv_iload_n F.1 F.2.1 dX2_lengthOf_13 rfl (lv_at hl 1 rfl) ?_
      refine k_ishr F dX2_lengthOf_14 ?_
      refine k_iconst F dX2_lengthOf_15 ?_
      refine k_iand F dX2_lengthOf_16 ?_
      refine k_if_eq F (tgt := 31) dX2_lengthOf_17 (by decide) (iI_rg _) (fun c_5 => ?_) (fun c_5 => ?_)
      · skip
        refine lv_iinc (v := iI ((p : Int) + 1)) (lv' := [(3, .int (iI ((p : Int) + 1))), (2, .int (iI (lnS σ set p))), (0, .ref (B 5)), (1, .int (iI set))]) F.1 F.2.1 dX2_lengthOf_31 hl (k := 1) rfl (iI_add _ _) (by decide) rfl (fun ls hl => ?_)
        refine lv_goto (tgt := 4) F.1 F.2.1 dX2_lengthOf_34 (by decide) ?_
        have e_6 : (lnS σ set p : Int) = lnS σ set (p + 1) := by rw [lnS_s]; rcases b1 with b2 | b2 <;> rw [b2] <;> omega
        have e_7 : (((p : Int) + 1) : Int) = ((p + 1 : Nat) : Int) := rfl
        exact ih _ (lv_to (lv_to (lv_sub hl [1, 0, 2, 3] rfl) (congrArg (fun x9 : Int => ([(2, .int (iI x9)), (3, .int (iI ((p : Int) + 1))), (0, .ref (B 5)), (1, .int (iI set))] : List (Nat × Value))) e_6)) (congrArg (fun x9 : Int => ([(2, .int (iI (lnS σ set (p + 1)))), (3, .int (iI x9)), (0, .ref (B 5)), (1, .int (iI set))] : List (Nat × Value))) e_7))
      · skip
        refine lv_iload_n F.1 F.2.1 dX2_lengthOf_20 rfl (lv_at hl 0 rfl) ?_
        refine lv_aload_n F.1 F.2.1 dX2_lengthOf_21 rfl (lv_at hl 2 rfl) ?_
        refine lv_iload_n F.1 F.2.1 dX2_lengthOf_22 rfl (lv_at hl 1 rfl) ?_
        refine rd_VR F (n := 1) (w0 := []) (mX2_pieceAt_ok l G B P σ p hI (by omega)) gX2_lengthOf_X2_pieceAt rfl rfl rfl (by decide +kernel) ⟨Nat.le_of_ble_eq_true rfl, Nat.le_of_ble_eq_true rfl⟩ hK hP (ci := 2) (q0 := 5) rfl rfl rfl rfl hl.1 (Nat.le_of_ble_eq_true rfl) dX2_lengthOf_23 ⟨Nat.zero_le _, Nat.zero_le _⟩ ?_
        refine rd_V F (n := 0) (w0 := []) (mX0_length l G (P p) (σ 7 p) (σ 10 p) (mff (σ 7 p) (σ 8 p 0)) (σ 8 p 0) (σ 9 p 0)) gX2_lengthOf_X0_length rfl rfl rfl (by decide +kernel) ⟨Nat.le_of_ble_eq_true rfl, Nat.le_of_ble_eq_true rfl⟩ hK (CW_P hP p (by omega)) (ci := 0) (q0 := 0) rfl rfl rfl rfl hl.1 (Nat.le_of_ble_eq_true rfl) dX2_lengthOf_26 ⟨Nat.zero_le _, Nat.zero_le _⟩ ?_
        refine k_iadd F rfl dX2_lengthOf_29 ?_
        refine lv_istore_n (lv' := [(2, .int (iI (lnS σ set p + (σ 9 p 0)))), (3, .int (iI (p : Int))), (0, .ref (B 5)), (1, .int (iI set))]) F.1 F.2.1 dX2_lengthOf_30 rfl hl (by decide) rfl (fun ls hl => ?_)
        refine lv_iinc (v := iI ((p : Int) + 1)) (lv' := [(3, .int (iI ((p : Int) + 1))), (2, .int (iI (lnS σ set p + (σ 9 p 0)))), (0, .ref (B 5)), (1, .int (iI set))]) F.1 F.2.1 dX2_lengthOf_31 hl (k := 1) rfl (iI_add _ _) (by decide) rfl (fun ls hl => ?_)
        refine lv_goto (tgt := 4) F.1 F.2.1 dX2_lengthOf_34 (by decide) ?_
        have e_8 : ((lnS σ set p + (σ 9 p 0)) : Int) = lnS σ set (p + 1) := by rw [lnS_s]; rcases b1 with b2 | b2 <;> rw [b2] <;> omega
        have e_9 : (((p : Int) + 1) : Int) = ((p + 1 : Nat) : Int) := rfl
        exact ih _ (lv_to (lv_to (lv_sub hl [1, 0, 2, 3] rfl) (congrArg (fun x9 : Int => ([(2, .int (iI x9)), (3, .int (iI ((p : Int) + 1))), (0, .ref (B 5)), (1, .int (iI set))] : List (Nat × Value))) e_8)) (congrArg (fun x9 : Int => ([(2, .int (iI (lnS σ set (p + 1)))), (3, .int (iI x9)), (0, .ref (B 5)), (1, .int (iI set))] : List (Nat × Value))) e_9))
  have e_10 : (0 : Int) = lnS σ set 0 := rfl
  have e_11 : (0 : Int) = ((0 : Nat) : Int) := rfl
  exact J_1 0 (by omega) _ (lv_to (lv_to (lv_sub hl [1, 0, 2, 3] rfl) (congrArg (fun x9 : Int => ([(2, .int (iI x9)), (3, .int (iI 0)), (0, .ref (B 5)), (1, .int (iI set))] : List (Nat × Value))) e_10)) (congrArg (fun x9 : Int => ([(2, .int (iI (lnS σ set 0))), (3, .int (iI x9)), (0, .ref (B 5)), (1, .int (iI set))] : List (Nat × Value))) e_11))

set_option maxHeartbeats 4000000 in
set_option maxRecDepth 100000 in
theorem mX2_isBetter (l : Launch) (G : gT) (B : Nat → Nat) (P : Nat → Nat → Nat) (σ : Sg) (s0 o0 : Nat) (hs : s0 < 64) (ho : o0 < 64) {n k N : Nat} (hI : Iv σ n k N) : Met l yX2_isBetter wsX2_isBetter { frames := 2, cells := 0, slots := 0, locals := 63 } (va_Pc [.ref (B 5), .int (iI (s0 : Int)), .int (iI (o0 : Int))] (rB G (CW G B P σ k))) (oI (bI (btr σ k s0 o0))) 0 0 (fun _ => False) := by
  refine rd_start (own := RX2) (cc := cX2_isBetter) (mL := 7) (ret := (some .boolean)) (by decide) rfl rfl (Nat.le_of_ble_eq_true rfl) ?_
  intro pP eE sS mM args bB meth cC ls F hr hlocks hP hK hl
  obtain ⟨hn, hn12, hk, hk6, hsg, haw, hch, hch1, hch0, htn, hto, htz, hpr, hN, hpz, hle, hlz⟩ := id hI
  have b1 := lnS_rg hle (s0 : Int) k
  have b2 := lnS_rg hle (o0 : Int) k
  have b3 := bct_6 s0
  have b4 := bct_6 o0
  have b5 := andI_comm (s0 : Int) (andI (xorI s0 o0) (-(xorI s0 o0)))
  have hl : lv_has ls 7 [(0, .ref (B 5)), (1, .int (iI (s0 : Int))), (2, .int (iI (o0 : Int)))] := hl
  refine lv_aload_n F.1 F.2.1 dX2_isBetter_0 rfl (lv_at hl 0 rfl) ?_
  refine lv_iload_n F.1 F.2.1 dX2_isBetter_1 rfl (lv_at hl 1 rfl) ?_
  refine rd_V F (n := 1) (w0 := []) (mX2_lengthOf l G B P σ (s0 : Int) hI) gX2_isBetter_X2_lengthOf rfl rfl rfl (by decide +kernel) ⟨Nat.le_of_ble_eq_true rfl, Nat.le_of_ble_eq_true rfl⟩ hK hP (ci := 2) (q0 := 5) rfl rfl rfl rfl hl.1 (Nat.le_of_ble_eq_true rfl) dX2_isBetter_2 ⟨Nat.zero_le _, Nat.zero_le _⟩ ?_
  refine lv_aload_n F.1 F.2.1 dX2_isBetter_5 rfl (lv_at hl 0 rfl) ?_
  refine lv_iload_n F.1 F.2.1 dX2_isBetter_6 rfl (lv_at hl 2 rfl) ?_
  refine rd_V F (n := 1) (w0 := []) (mX2_lengthOf l G B P σ (o0 : Int) hI) gX2_isBetter_X2_lengthOf rfl rfl rfl (by decide +kernel) ⟨Nat.le_of_ble_eq_true rfl, Nat.le_of_ble_eq_true rfl⟩ hK hP (ci := 2) (q0 := 5) rfl rfl rfl rfl hl.1 (Nat.le_of_ble_eq_true rfl) dX2_isBetter_7 ⟨Nat.zero_le _, Nat.zero_le _⟩ ?_
  refine k_isub F rfl dX2_isBetter_10 ?_
  refine lv_istore_n (lv' := [(3, .int (iI ((lnS σ (s0 : Int) k) - (lnS σ (o0 : Int) k)))), (0, .ref (B 5)), (1, .int (iI (s0 : Int))), (2, .int (iI (o0 : Int)))]) F.1 F.2.1 dX2_isBetter_11 rfl hl (by decide) rfl (fun ls hl => ?_)
  refine lv_iload_n F.1 F.2.1 dX2_isBetter_12 rfl (lv_at hl 0 rfl) ?_
  refine k_if_eq F (tgt := 26) dX2_isBetter_13 (by decide) (by omega) (fun c_1 => ?_) (fun c_1 => ?_)
  · skip
    refine lv_iload_n F.1 F.2.1 dX2_isBetter_26 rfl (lv_at hl 2 rfl) ?_
    refine rd_S F (n := 1) (w0 := []) (mJ6_bitCount_0f7a4 l G (CW G B P σ k) s0 (by omega)) gX2_isBetter_J6_bitCount_0f7a4 rfl rfl rfl (by decide +kernel) ⟨Nat.le_of_ble_eq_true rfl, Nat.le_of_ble_eq_true rfl⟩ hK hP rfl rfl hl.1 (Nat.le_of_ble_eq_true rfl) dX2_isBetter_27 ⟨Nat.zero_le _, Nat.zero_le _⟩ ?_
    refine lv_iload_n F.1 F.2.1 dX2_isBetter_30 rfl (lv_at hl 3 rfl) ?_
    refine rd_S F (n := 1) (w0 := []) (mJ6_bitCount_0f7a4 l G (CW G B P σ k) o0 (by omega)) gX2_isBetter_J6_bitCount_0f7a4 rfl rfl rfl (by decide +kernel) ⟨Nat.le_of_ble_eq_true rfl, Nat.le_of_ble_eq_true rfl⟩ hK hP rfl rfl hl.1 (Nat.le_of_ble_eq_true rfl) dX2_isBetter_31 ⟨Nat.zero_le _, Nat.zero_le _⟩ ?_
    refine k_isub F rfl dX2_isBetter_34 ?_
    refine lv_istore (lv' := [(4, .int (iI (((bct s0 : Nat) : Int) - ((bct o0 : Nat) : Int)))), (3, .int (iI ((lnS σ (s0 : Int) k) - (lnS σ (o0 : Int) k)))), (0, .ref (B 5)), (1, .int (iI (s0 : Int))), (2, .int (iI (o0 : Int)))]) F.1 F.2.1 dX2_isBetter_35 hl (by decide) rfl (fun ls hl => ?_)
    refine lv_iload F.1 F.2.1 dX2_isBetter_37 (lv_at hl 0 rfl) ?_
    refine k_if_eq F (tgt := 53) dX2_isBetter_39 (by decide) (by omega) (fun c_2 => ?_) (fun c_2 => ?_)
    · skip
      refine lv_iload_n F.1 F.2.1 dX2_isBetter_53 rfl (lv_at hl 3 rfl) ?_
      refine lv_iload_n F.1 F.2.1 dX2_isBetter_54 rfl (lv_at hl 4 rfl) ?_
      refine k_ixor F dX2_isBetter_55 ?_
      refine lv_istore (lv' := [(5, .int (iI (xorI (s0 : Int) (o0 : Int)))), (4, .int (iI (((bct s0 : Nat) : Int) - ((bct o0 : Nat) : Int)))), (3, .int (iI ((lnS σ (s0 : Int) k) - (lnS σ (o0 : Int) k)))), (0, .ref (B 5)), (1, .int (iI (s0 : Int))), (2, .int (iI (o0 : Int)))]) F.1 F.2.1 dX2_isBetter_56 hl (by decide) rfl (fun ls hl => ?_)
      refine lv_iload F.1 F.2.1 dX2_isBetter_58 (lv_at hl 0 rfl) ?_
      refine lv_iload F.1 F.2.1 dX2_isBetter_60 (lv_at hl 0 rfl) ?_
      refine k_ineg F rfl dX2_isBetter_62 ?_
      refine k_iand F dX2_isBetter_63 ?_
      refine lv_istore (lv' := [(6, .int (iI (andI (xorI (s0 : Int) (o0 : Int)) (-(xorI (s0 : Int) (o0 : Int)))))), (5, .int (iI (xorI (s0 : Int) (o0 : Int)))), (4, .int (iI (((bct s0 : Nat) : Int) - ((bct o0 : Nat) : Int)))), (3, .int (iI ((lnS σ (s0 : Int) k) - (lnS σ (o0 : Int) k)))), (0, .ref (B 5)), (1, .int (iI (s0 : Int))), (2, .int (iI (o0 : Int)))]) F.1 F.2.1 dX2_isBetter_64 hl (by decide) rfl (fun ls hl => ?_)
      refine lv_iload_n F.1 F.2.1 dX2_isBetter_66 rfl (lv_at hl 5 rfl) ?_
      refine lv_iload F.1 F.2.1 dX2_isBetter_67 (lv_at hl 0 rfl) ?_
      refine k_iand F dX2_isBetter_69 ?_
      refine k_if_eq F (tgt := 77) dX2_isBetter_70 (by decide) (iI_rg _) (fun c_3 => ?_) (fun c_3 => ?_)
      · skip
        refine k_iconst F dX2_isBetter_77 ?_
        exact k_zret F hr hlocks (bI_f (by omega)).symm (Or.inl rfl) dX2_isBetter_78
      · skip
        refine k_iconst F dX2_isBetter_73 ?_
        refine lv_goto (tgt := 78) F.1 F.2.1 dX2_isBetter_74 (by decide) ?_
        exact k_zret F hr hlocks (bI_t (by omega)).symm (Or.inr rfl) dX2_isBetter_78
    · skip
      refine lv_iload F.1 F.2.1 dX2_isBetter_42 (lv_at hl 0 rfl) ?_
      refine k_if_ge F (tgt := 51) dX2_isBetter_44 (by decide) (by omega) (fun c_4 => ?_) (fun c_4 => ?_)
      · skip
        refine k_iconst F dX2_isBetter_51 ?_
        exact k_zret F hr hlocks (bI_f (by omega)).symm (Or.inl rfl) dX2_isBetter_52
      · skip
        refine k_iconst F dX2_isBetter_47 ?_
        refine lv_goto (tgt := 52) F.1 F.2.1 dX2_isBetter_48 (by decide) ?_
        exact k_zret F hr hlocks (bI_t (by omega)).symm (Or.inr rfl) dX2_isBetter_52
  · skip
    refine lv_iload_n F.1 F.2.1 dX2_isBetter_16 rfl (lv_at hl 0 rfl) ?_
    refine k_if_le F (tgt := 24) dX2_isBetter_17 (by decide) (by omega) (fun c_5 => ?_) (fun c_5 => ?_)
    · skip
      refine k_iconst F dX2_isBetter_24 ?_
      exact k_zret F hr hlocks (bI_f (by omega)).symm (Or.inl rfl) dX2_isBetter_25
    · skip
      refine k_iconst F dX2_isBetter_20 ?_
      refine lv_goto (tgt := 25) F.1 F.2.1 dX2_isBetter_21 (by decide) ?_
      exact k_zret F hr hlocks (bI_t (by omega)).symm (Or.inr rfl) dX2_isBetter_25

set_option maxHeartbeats 4000000 in
set_option maxRecDepth 100000 in
theorem mX2_bestSet (l : Launch) (G : gT) (B : Nat → Nat) (P : Nat → Nat → Nat) (σ : Sg) (d sec : Int) (hsec : 0 ≤ sec ∧ sec ≤ 20000) {n k N : Nat} (hI : Iv σ n k N) : Met l yX2_bestSet wsX2_bestSet { frames := 5, cells := 0, slots := 0, locals := 117 } (va_Pc [.ref (B 5), .int (iI d), .int (iI sec)] (rB G (CW G B P σ k))) (oI (((prg σ n k d sec : Nat) : Int))) 0 0 (fun _ => False) := by
  refine rd_start (own := RX2) (cc := cX2_bestSet) (mL := 6) (ret := (some .int)) (by decide) rfl rfl (Nat.le_of_ble_eq_true rfl) ?_
  intro pP eE sS mM args bB meth cC ls F hr hlocks hP hK hl
  obtain ⟨hn, hn12, hk, hk6, hsg, haw, hch, hch1, hch0, htn, hto, htz, hpr, hN, hpz, hle, hlz⟩ := id hI
  obtain ⟨B2, hB⟩ : ∃ B2 : Nat, B2 = 2 ^ k := ⟨_, rfl⟩
  have hB1 : shlI 1 (σ 2 0 0) = (B2 : Int) := by rw [hk, hB]; exact shl_ok k hk6
  have hB2 := pw_rg k hk6
  rw [← hB] at hB2
  have iX2 : ∀ x ∈ wsX20, x ∈ wsX2_bestSet := by decide +kernel
  have f93 := k_cond F (w := .fieldLink RX2 93 "ChoirPlanner" "pieceCount" "I") (by decide +kernel)
  have hl : lv_has ls 6 [(0, .ref (B 5)), (1, .int (iI d)), (2, .int (iI sec))] := hl
  refine lv_aload_n F.1 F.2.1 dX2_bestSet_0 rfl (lv_at hl 0 rfl) ?_
  refine lv_iload_n F.1 F.2.1 dX2_bestSet_1 rfl (lv_at hl 1 rfl) ?_
  refine rd_V F (n := 1) (w0 := []) (mX2_singableSet l G B P σ d hI) gX2_bestSet_X2_singableSet rfl rfl rfl (by decide +kernel) ⟨Nat.le_of_ble_eq_true rfl, Nat.le_of_ble_eq_true rfl⟩ hK hP (ci := 2) (q0 := 5) rfl rfl rfl rfl hl.1 (Nat.le_of_ble_eq_true rfl) dX2_bestSet_2 ⟨Nat.zero_le _, Nat.zero_le _⟩ ?_
  refine lv_istore_n (lv' := [(3, .int (iI (cnS σ n d k))), (0, .ref (B 5)), (1, .int (iI d)), (2, .int (iI sec))]) F.1 F.2.1 dX2_bestSet_5 rfl hl (by decide) rfl (fun ls hl => ?_)
  refine k_iconst F dX2_bestSet_6 ?_
  refine lv_istore (lv' := [(4, .int (iI 0)), (3, .int (iI (cnS σ n d k))), (0, .ref (B 5)), (1, .int (iI d)), (2, .int (iI sec))]) F.1 F.2.1 dX2_bestSet_7 hl (by decide) rfl (fun ls hl => ?_)
  refine k_iconst F dX2_bestSet_9 ?_
  refine lv_istore (lv' := [(5, .int (iI 1)), (4, .int (iI 0)), (3, .int (iI (cnS σ n d k))), (0, .ref (B 5)), (1, .int (iI d)), (2, .int (iI sec))]) F.1 F.2.1 dX2_bestSet_10 hl (by decide) rfl (fun ls hl => ?_)
  have J_1 : ∀ t : Nat, t ≤ (B2 - 1) → ∀ ls : Array Slot, lv_has ls 6 [(5, .int (iI ((t + 1 : Nat) : Int))), (4, .int (iI ((bsS σ k (cnS σ n d k) sec t : Nat) : Int))), (3, .int (iI (cnS σ n d k))), (0, .ref (B 5)), (1, .int (iI d)), (2, .int (iI sec))] → W pP l eE ({ frames := 5, cells := 0, slots := 0, locals := 117 }) sS mM args bB meth cC sS.heap [] 0 0 (MQ bB (oI (((prg σ n k d sec : Nat) : Int))) args sS 0 0 (fun _ => False)) (F0 mM 12 ls []) := by
    refine lp_up ((B2 - 1)) ?_ ?_
    · intro ls hl
      refine lv_iload F.1 F.2.1 dX2_bestSet_12 (lv_at hl 0 rfl) ?_
      refine k_iconst F dX2_bestSet_14 ?_
      refine lv_aload_n F.1 F.2.1 dX2_bestSet_15 rfl (lv_at hl 3 rfl) ?_
      refine k_get F hK hP iX2 5 rfl rfl 2 (by decide) f93 rfl rfl dX2_bestSet_16 ?_
      refine k_ishl F dX2_bestSet_19 ?_
      refine k_icmp_ge F (tgt := 63) dX2_bestSet_20 (by decide) (by omega) (iI_rg _) (fun c_3 => ?_) (fun c_3 => absurd c_3 (by omega))
      refine lv_iload F.1 F.2.1 dX2_bestSet_63 (lv_at hl 1 rfl) ?_
      exact k_ret F hr hlocks (by rw [hB]) dX2_bestSet_65
    · intro t hk9 ih ls hl
      have b1 := lnS_rg hle ((t + 1 : Nat) : Int) k
      have b2 := bsS_le σ k (cnS σ n d k) sec t
      refine lv_iload F.1 F.2.1 dX2_bestSet_12 (lv_at hl 0 rfl) ?_
      refine k_iconst F dX2_bestSet_14 ?_
      refine lv_aload_n F.1 F.2.1 dX2_bestSet_15 rfl (lv_at hl 3 rfl) ?_
      refine k_get F hK hP iX2 5 rfl rfl 2 (by decide) f93 rfl rfl dX2_bestSet_16 ?_
      refine k_ishl F dX2_bestSet_19 ?_
      refine k_icmp_ge F (tgt := 63) dX2_bestSet_20 (by decide) (by omega) (iI_rg _) (fun c_4 => absurd c_4 (by omega)) (fun c_4 => ?_)
      refine lv_iload F.1 F.2.1 dX2_bestSet_23 (lv_at hl 0 rfl) ?_
      refine lv_iload_n F.1 F.2.1 dX2_bestSet_25 rfl (lv_at hl 2 rfl) ?_
      refine k_iconst F dX2_bestSet_26 ?_
      refine k_ixor F dX2_bestSet_27 ?_
      refine k_iand F dX2_bestSet_28 ?_
      refine k_if_ne F (tgt := 57) dX2_bestSet_29 (by decide) (iI_rg _) (fun c_5 => ?_) (fun c_5 => ?_)
      · skip
        refine lv_iinc (v := iI (((t + 1 : Nat) : Int) + 1)) (lv' := [(5, .int (iI (((t + 1 : Nat) : Int) + 1))), (4, .int (iI ((bsS σ k (cnS σ n d k) sec t : Nat) : Int))), (3, .int (iI (cnS σ n d k))), (0, .ref (B 5)), (1, .int (iI d)), (2, .int (iI sec))]) F.1 F.2.1 dX2_bestSet_57 hl (k := 0) rfl (iI_add _ _) (by decide) rfl (fun ls hl => ?_)
        refine lv_goto (tgt := 12) F.1 F.2.1 dX2_bestSet_60 (by decide) ?_
        have e_6 : ((((t + 1 : Nat) : Int) + 1) : Int) = ((t + 1 + 1 : Nat) : Int) := rfl
        have e_7 : (((bsS σ k (cnS σ n d k) sec t : Nat) : Int) : Int) = ((bsS σ k (cnS σ n d k) sec (t + 1) : Nat) : Int) := by rw [bsS_s]; first | rw [if_pos ⟨⟨by assumption, by assumption⟩, by assumption⟩] | rw [if_neg (fun q => by first | exact absurd q.1.1 (by assumption) | (have := q.1.2; omega) | exact absurd q.2 (by assumption))]
        exact ih _ (lv_to (lv_to (lv_sub hl [0, 1, 2, 3, 4, 5] rfl) (congrArg (fun x9 : Int => ([(5, .int (iI x9)), (4, .int (iI ((bsS σ k (cnS σ n d k) sec t : Nat) : Int))), (3, .int (iI (cnS σ n d k))), (0, .ref (B 5)), (1, .int (iI d)), (2, .int (iI sec))] : List (Nat × Value))) e_6)) (congrArg (fun x9 : Int => ([(5, .int (iI ((t + 1 + 1 : Nat) : Int))), (4, .int (iI x9)), (3, .int (iI (cnS σ n d k))), (0, .ref (B 5)), (1, .int (iI d)), (2, .int (iI sec))] : List (Nat × Value))) e_7))
      · skip
        refine lv_aload_n F.1 F.2.1 dX2_bestSet_32 rfl (lv_at hl 3 rfl) ?_
        refine lv_iload F.1 F.2.1 dX2_bestSet_33 (lv_at hl 0 rfl) ?_
        refine rd_V F (n := 1) (w0 := []) (mX2_lengthOf l G B P σ ((t + 1 : Nat) : Int) hI) gX2_bestSet_X2_lengthOf rfl rfl rfl (by decide +kernel) ⟨Nat.le_of_ble_eq_true rfl, Nat.le_of_ble_eq_true rfl⟩ hK hP (ci := 2) (q0 := 5) rfl rfl rfl rfl hl.1 (Nat.le_of_ble_eq_true rfl) dX2_bestSet_35 ⟨Nat.zero_le _, Nat.zero_le _⟩ ?_
        refine lv_iload_n F.1 F.2.1 dX2_bestSet_38 rfl (lv_at hl 5 rfl) ?_
        refine k_icmp_gt F (tgt := 57) dX2_bestSet_39 (by decide) (by omega) (by omega) (fun c_8 => ?_) (fun c_8 => ?_)
        · skip
          refine lv_iinc (v := iI (((t + 1 : Nat) : Int) + 1)) (lv' := [(5, .int (iI (((t + 1 : Nat) : Int) + 1))), (4, .int (iI ((bsS σ k (cnS σ n d k) sec t : Nat) : Int))), (3, .int (iI (cnS σ n d k))), (0, .ref (B 5)), (1, .int (iI d)), (2, .int (iI sec))]) F.1 F.2.1 dX2_bestSet_57 hl (k := 0) rfl (iI_add _ _) (by decide) rfl (fun ls hl => ?_)
          refine lv_goto (tgt := 12) F.1 F.2.1 dX2_bestSet_60 (by decide) ?_
          have e_9 : ((((t + 1 : Nat) : Int) + 1) : Int) = ((t + 1 + 1 : Nat) : Int) := rfl
          have e_10 : (((bsS σ k (cnS σ n d k) sec t : Nat) : Int) : Int) = ((bsS σ k (cnS σ n d k) sec (t + 1) : Nat) : Int) := by rw [bsS_s]; first | rw [if_pos ⟨⟨by assumption, by assumption⟩, by assumption⟩] | rw [if_neg (fun q => by first | exact absurd q.1.1 (by assumption) | (have := q.1.2; omega) | exact absurd q.2 (by assumption))]
          exact ih _ (lv_to (lv_to (lv_sub hl [0, 1, 2, 3, 4, 5] rfl) (congrArg (fun x9 : Int => ([(5, .int (iI x9)), (4, .int (iI ((bsS σ k (cnS σ n d k) sec t : Nat) : Int))), (3, .int (iI (cnS σ n d k))), (0, .ref (B 5)), (1, .int (iI d)), (2, .int (iI sec))] : List (Nat × Value))) e_9)) (congrArg (fun x9 : Int => ([(5, .int (iI ((t + 1 + 1 : Nat) : Int))), (4, .int (iI x9)), (3, .int (iI (cnS σ n d k))), (0, .ref (B 5)), (1, .int (iI d)), (2, .int (iI sec))] : List (Nat × Value))) e_10))
        · skip
          refine lv_aload_n F.1 F.2.1 dX2_bestSet_42 rfl (lv_at hl 3 rfl) ?_
          refine lv_iload F.1 F.2.1 dX2_bestSet_43 (lv_at hl 0 rfl) ?_
          refine lv_iload F.1 F.2.1 dX2_bestSet_45 (lv_at hl 1 rfl) ?_
          refine rd_V F (n := 2) (w0 := []) (mX2_isBetter l G B P σ (t + 1) (bsS σ k (cnS σ n d k) sec t) (by omega) (by omega) hI) gX2_bestSet_X2_isBetter rfl rfl rfl (by decide +kernel) ⟨Nat.le_of_ble_eq_true rfl, Nat.le_of_ble_eq_true rfl⟩ hK hP (ci := 2) (q0 := 5) rfl rfl rfl rfl hl.1 (Nat.le_of_ble_eq_true rfl) dX2_bestSet_47 ⟨Nat.zero_le _, Nat.zero_le _⟩ ?_
          refine k_ifb_eq F (tgt := 57) dX2_bestSet_50 (by decide) (fun c_11 => ?_) (fun c_11 => ?_)
          · skip
            refine lv_iinc (v := iI (((t + 1 : Nat) : Int) + 1)) (lv' := [(5, .int (iI (((t + 1 : Nat) : Int) + 1))), (4, .int (iI ((bsS σ k (cnS σ n d k) sec t : Nat) : Int))), (3, .int (iI (cnS σ n d k))), (0, .ref (B 5)), (1, .int (iI d)), (2, .int (iI sec))]) F.1 F.2.1 dX2_bestSet_57 hl (k := 0) rfl (iI_add _ _) (by decide) rfl (fun ls hl => ?_)
            refine lv_goto (tgt := 12) F.1 F.2.1 dX2_bestSet_60 (by decide) ?_
            have e_12 : ((((t + 1 : Nat) : Int) + 1) : Int) = ((t + 1 + 1 : Nat) : Int) := rfl
            have e_13 : (((bsS σ k (cnS σ n d k) sec t : Nat) : Int) : Int) = ((bsS σ k (cnS σ n d k) sec (t + 1) : Nat) : Int) := by rw [bsS_s]; first | rw [if_pos ⟨⟨by assumption, by assumption⟩, by assumption⟩] | rw [if_neg (fun q => by first | exact absurd q.1.1 (by assumption) | (have := q.1.2; omega) | exact absurd q.2 (by assumption))]
            exact ih _ (lv_to (lv_to (lv_sub hl [0, 1, 2, 3, 4, 5] rfl) (congrArg (fun x9 : Int => ([(5, .int (iI x9)), (4, .int (iI ((bsS σ k (cnS σ n d k) sec t : Nat) : Int))), (3, .int (iI (cnS σ n d k))), (0, .ref (B 5)), (1, .int (iI d)), (2, .int (iI sec))] : List (Nat × Value))) e_12)) (congrArg (fun x9 : Int => ([(5, .int (iI ((t + 1 + 1 : Nat) : Int))), (4, .int (iI x9)), (3, .int (iI (cnS σ n d k))), (0, .ref (B 5)), (1, .int (iI d)), (2, .int (iI sec))] : List (Nat × Value))) e_13))
          · skip
            refine lv_iload F.1 F.2.1 dX2_bestSet_53 (lv_at hl 0 rfl) ?_
            refine lv_istore (lv' := [(4, .int (iI ((t + 1 : Nat) : Int))), (5, .int (iI ((t + 1 : Nat) : Int))), (3, .int (iI (cnS σ n d k))), (0, .ref (B 5)), (1, .int (iI d)), (2, .int (iI sec))]) F.1 F.2.1 dX2_bestSet_55 hl (by decide) rfl (fun ls hl => ?_)
            refine lv_iinc (v := iI (((t + 1 : Nat) : Int) + 1)) (lv' := [(5, .int (iI (((t + 1 : Nat) : Int) + 1))), (4, .int (iI ((t + 1 : Nat) : Int))), (3, .int (iI (cnS σ n d k))), (0, .ref (B 5)), (1, .int (iI d)), (2, .int (iI sec))]) F.1 F.2.1 dX2_bestSet_57 hl (k := 1) rfl (iI_add _ _) (by decide) rfl (fun ls hl => ?_)
            refine lv_goto (tgt := 12) F.1 F.2.1 dX2_bestSet_60 (by decide) ?_
            have e_14 : ((((t + 1 : Nat) : Int) + 1) : Int) = ((t + 1 + 1 : Nat) : Int) := rfl
            have e_15 : (((t + 1 : Nat) : Int) : Int) = ((bsS σ k (cnS σ n d k) sec (t + 1) : Nat) : Int) := by rw [bsS_s]; first | rw [if_pos ⟨⟨by assumption, by assumption⟩, by assumption⟩] | rw [if_neg (fun q => by first | exact absurd q.1.1 (by assumption) | (have := q.1.2; omega) | exact absurd q.2 (by assumption))]
            exact ih _ (lv_to (lv_to (lv_sub hl [0, 1, 2, 3, 4, 5] rfl) (congrArg (fun x9 : Int => ([(5, .int (iI x9)), (4, .int (iI ((t + 1 : Nat) : Int))), (3, .int (iI (cnS σ n d k))), (0, .ref (B 5)), (1, .int (iI d)), (2, .int (iI sec))] : List (Nat × Value))) e_14)) (congrArg (fun x9 : Int => ([(5, .int (iI ((t + 1 + 1 : Nat) : Int))), (4, .int (iI x9)), (3, .int (iI (cnS σ n d k))), (0, .ref (B 5)), (1, .int (iI d)), (2, .int (iI sec))] : List (Nat × Value))) e_15))
  have e_16 : (1 : Int) = ((0 + 1 : Nat) : Int) := rfl
  have e_17 : (0 : Int) = ((bsS σ k (cnS σ n d k) sec 0 : Nat) : Int) := rfl
  exact J_1 0 (by omega) _ (lv_to (lv_to (lv_sub hl [0, 1, 2, 3, 4, 5] rfl) (congrArg (fun x9 : Int => ([(5, .int (iI x9)), (4, .int (iI 0)), (3, .int (iI (cnS σ n d k))), (0, .ref (B 5)), (1, .int (iI d)), (2, .int (iI sec))] : List (Nat × Value))) e_16)) (congrArg (fun x9 : Int => ([(5, .int (iI ((0 + 1 : Nat) : Int))), (4, .int (iI x9)), (3, .int (iI (cnS σ n d k))), (0, .ref (B 5)), (1, .int (iI d)), (2, .int (iI sec))] : List (Nat × Value))) e_17))
