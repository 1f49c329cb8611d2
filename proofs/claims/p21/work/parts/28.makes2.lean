section KC
variable {p : Program} {l : Launch} {e : Env} {R : Room} {s : State} {m : MethodId} {args : Array Value} {below : List Frame} {meth : Method} {c : Code} {H H0 : Heap} {locs : List Loc} {cells slots : Nat} {Q : State → Prop}
variable {cc : ByteArray} {pc : Nat} {ls : Array Slot} {rest : List Value} {nL : Nat} {Ts : List Cond} {own : String} {A0 : Nat → Prop}
theorem k_new (F : CallFix p m c cc nL s args Ts own) {G : gT} {w : va_W} {C : String} {T : u_T} {N ci index : Nat} (hin : ∀ x ∈ u_ws C T N, x ∈ Ts) (ty : Nat → FieldType) (hty : ∀ k, k < N → parseFieldDescriptor (T k).2.2.1 = some (ty k)) (h1 : Cond.classLink own index C ∈ Ts) (h2 : Cond.instantiable C N ∈ Ts) (h3 : Cond.initialized C ∈ Ts) (hK : gK G s) (hP : gP G w H) (hD : va_D A0 w) (hS : va_S A0 H0 H locs) (hA : ∀ q, H0.size ≤ q → A0 q) (hc : vwCl[ci]? = some (C, T, N)) {fs : List Value} (hfs : ∀ j, j < N → defaultValue (ty j) = vp_V fs j) (hR : cells + 1 ≤ R.cells ∧ slots + N ≤ R.slots) (hdg : decode cc pc = .ok (.new index, 3))
    (kk : ∀ (q : Nat) (H1 : Heap), gP G (w ++ [(q, .inr (ci, fs))]) H1 → va_D A0 (w ++ [(q, .inr (ci, fs))]) → va_S A0 H0 H1 locs → W p l e R s m args below meth c H1 locs (cells + 1) (slots + N) Q (F0 m (pc + 3) ls (.ref q :: rest))) : W p l e R s m args below meth c H locs cells slots Q (F0 m pc ls rest) :=
  va_new F.1 F.2.1 F.2.2.2.2 hin ty hty F.2.2.2.1 (F.2.2.2.2 _ h1) (F.2.2.2.2 _ h2) (F.2.2.2.2 _ h3) hK hP hD hS hA hc hfs hR.1 hR.2 hdg kk
/-- a maker called on a fresh object -/
theorem rn_I (F : CallFix p m c cc nL s args Ts own) {G : gT} {w : va_W} {W2 : (Nat → Nat) → va_W} {y : MethodName} {bytes : ByteArray} {ws ws' : List Cond} {rm : Room} {mL index mc ms q ci : Nat} {fs st0 : List Value}
    (hM : Met l y ws rm (va_Pc [.ref q] (wB G [(q, .inr (ci, fs))] H.size)) (va_Qv (fun a : Nat → Nat => a 0 = q) (fun a t => gP G (W2 a) t.heap ∧ va_D (va_A [(q, .inr (ci, fs))] H.size) (W2 a)) (va_A [(q, .inr (ci, fs))] H.size)) mc ms (va_A [(q, .inr (ci, fs))] H.size))
    (g : GoodIn Ts ws) (hw : ws = .code y bytes mL none :: ws') (hrc : rm.cells = mc) (hrs : rm.slots = ms) (i1 : Cond.initialized y.cls ∈ Ts) (i2 : Cond.methodLink own index y ∈ Ts) (i3 : Cond.instanceMethod y ∈ Ts) (hn : y.name = "<init>") (hd : y.cls ≠ "java/lang/invoke/MethodHandle" ∧ y.cls ≠ "java/lang/invoke/VarHandle" ∧ (parseMethodDescriptor y.desc).map (fun d => d.parameters.length) = some 0) (hR : rm.frames + 1 ≤ R.frames ∧ 8 + (mL + 11) + rm.locals ≤ R.locals)
    (hK : gK G s) (hP : gP G (w ++ [(q, .inr (ci, fs))]) H) (hD : va_D A0 (w ++ [(q, .inr (ci, fs))])) (hS : va_S A0 H0 H locs) (hA : ∀ q, H0.size ≤ q → A0 q) (hst : st0 = .ref q :: rest) (hsz : ls.size = nL) (hW : (rest.map fun v => v.category).sum ≤ 8) (hdg : decode cc pc = .ok (.invokespecial index, 3)) (hf : cells + mc ≤ R.cells ∧ slots + ms ≤ R.slots)
    (kk : ∀ (a : Nat → Nat) (H1 : Heap) (locs1 : List Loc), a 0 = q → gP G (w ++ W2 a) H1 → va_D A0 (w ++ W2 a) → va_S A0 H0 H1 locs1 → W p l e R s m args below meth c H1 locs1 (cells + mc) (slots + ms) Q (F0 m (pc + 3) ls rest)) : W p l e R s m args below meth c H locs cells slots Q (F0 m pc ls st0) := by
  have hPc := (gP_app.mp hP).2
  have hPw := (gP_app.mp hP).1
  have hDi := D_iff.mp hD
  have hnd := hDi.1
  rw [List.map_append] at hnd
  have hdis := (List.nodup_append.mp hnd).2.2
  have hq : A0 q := hDi.2 (q, .inr (ci, fs)) (List.mem_append_right _ List.mem_cons_self)
  have hFc : ∀ x, va_A [(q, .inr (ci, fs))] H.size x → A0 x := by
    intro x h
    rcases A_mem.mp h with h | h
    · have h : x ∈ [q] := h
      rw [List.mem_singleton] at h
      subst h; exact hq
    · exact hA x (Nat.le_trans hS.1 h)
  have hDq : va_D (fun _ => True) [(q, (.inr (ci, fs) : va_E))] := D_iff.mpr ⟨by simp, fun _ _ => trivial⟩
  refine va_callv (va_runI (As := []) (rest := rest) F hM (cwI 0 F.2.2.2.2 g hw hrc hrs (F.2.2.2.2 _ i1) (F.2.2.2.2 _ i2) (F.2.2.2.2 _ i3) hn hd hR) ⟨wB_blind G _ _ _, fun U hU hW => ⟨rfl, by rw [hU], by rw [hU]; exact hPc, va_K.moved hW.alike hK, hDq⟩⟩ rfl rfl hsz hst (lv_room hW) hdg hf) hS (fun q _ h => hFc q h) hFc (fun a t H1 locs1 ht hvm hw hB hz hk hS1 => ?_)
  obtain ⟨hB1, hB2⟩ := hB
  rw [ht] at hB1
  have hin : ∀ x ∈ w, x.1 < H.size ∧ x.1 ≠ q := fun x hx => ⟨(gP_iff.mp hPw x hx).lt, fun z => hdis x.1 (List.mem_map.mpr ⟨x, hx, rfl⟩) q List.mem_cons_self z⟩
  have hno : ∀ x ∈ w, ¬ va_A [(q, (.inr (ci, fs) : va_E))] H.size x.1 := by
    intro x hx h
    rcases A_mem.mp h with h | h
    · have h : x.1 ∈ [q] := h
      rw [List.mem_singleton] at h
      exact (hin x hx).2 h
    · have := (hin x hx).1; omega
  refine kk a H1 locs1 hw (gP_app.mpr ⟨gP_iff.mpr (fun x hx => (gP_iff.mp hPw x hx).kept (hk x.1 (hin x hx).1 (hno x hx))), hB1⟩) (D_iff.mpr ⟨?_, ?_⟩) hS1
  · rw [List.map_append]
    refine List.nodup_append.mpr ⟨(List.nodup_append.mp hnd).1, (D_iff.mp hB2).1, ?_⟩
    intro x hx y hy e
    obtain ⟨x', hx', rfl⟩ := List.mem_map.mp hx
    obtain ⟨y', hy', rfl⟩ := List.mem_map.mp hy
    have h9 := (D_iff.mp hB2).2 y' hy'
    rw [← e] at h9
    exact hno x' hx' h9
  · intro x hx
    rcases List.mem_append.mp hx with h | h
    · exact hDi.2 x (List.mem_append_left _ h)
    · exact hFc x.1 ((D_iff.mp hB2).2 x h)
/-- a maker called on a fresh object -/
theorem rn_IN (F : CallFix p m c cc nL s args Ts own) {G : gT} {w : va_W} {W2 : (Nat → Nat) → va_W} {host : String} {y : MethodName} {bytes : ByteArray} {ws ws' : List Cond} {rm : Room} {mL index mc ms q ci : Nat} {fs st0 : List Value}
    (hM : Met l y ws rm (va_Pc [.ref q] (wB G [(q, .inr (ci, fs))] H.size)) (va_Qv (fun a : Nat → Nat => a 0 = q) (fun a t => gP G (W2 a) t.heap ∧ va_D (va_A [(q, .inr (ci, fs))] H.size) (W2 a)) (va_A [(q, .inr (ci, fs))] H.size)) mc ms (va_A [(q, .inr (ci, fs))] H.size))
    (g : GoodIn Ts ws) (hw : ws = .code y bytes mL none :: ws') (hrc : rm.cells = mc) (hrs : rm.slots = ms) (i1 : Cond.initialized y.cls ∈ Ts) (i2 : va_Nw (.methodLinkNest own index y host) s) (i3 : Cond.instanceMethod y ∈ Ts) (hn : y.name = "<init>") (hd : y.cls ≠ "java/lang/invoke/MethodHandle" ∧ y.cls ≠ "java/lang/invoke/VarHandle" ∧ (parseMethodDescriptor y.desc).map (fun d => d.parameters.length) = some 0) (hR : rm.frames + 1 ≤ R.frames ∧ 8 + (mL + 11) + rm.locals ≤ R.locals)
    (hK : gK G s) (hP : gP G (w ++ [(q, .inr (ci, fs))]) H) (hD : va_D A0 (w ++ [(q, .inr (ci, fs))])) (hS : va_S A0 H0 H locs) (hA : ∀ q, H0.size ≤ q → A0 q) (hst : st0 = .ref q :: rest) (hsz : ls.size = nL) (hW : (rest.map fun v => v.category).sum ≤ 8) (hdg : decode cc pc = .ok (.invokespecial index, 3)) (hf : cells + mc ≤ R.cells ∧ slots + ms ≤ R.slots)
    (kk : ∀ (a : Nat → Nat) (H1 : Heap) (locs1 : List Loc), a 0 = q → gP G (w ++ W2 a) H1 → va_D A0 (w ++ W2 a) → va_S A0 H0 H1 locs1 → W p l e R s m args below meth c H1 locs1 (cells + mc) (slots + ms) Q (F0 m (pc + 3) ls rest)) : W p l e R s m args below meth c H locs cells slots Q (F0 m pc ls st0) := by
  have hPc := (gP_app.mp hP).2
  have hPw := (gP_app.mp hP).1
  have hDi := D_iff.mp hD
  have hnd := hDi.1
  rw [List.map_append] at hnd
  have hdis := (List.nodup_append.mp hnd).2.2
  have hq : A0 q := hDi.2 (q, .inr (ci, fs)) (List.mem_append_right _ List.mem_cons_self)
  have hFc : ∀ x, va_A [(q, .inr (ci, fs))] H.size x → A0 x := by
    intro x h
    rcases A_mem.mp h with h | h
    · have h : x ∈ [q] := h
      rw [List.mem_singleton] at h
      subst h; exact hq
    · exact hA x (Nat.le_trans hS.1 h)
  have hDq : va_D (fun _ => True) [(q, (.inr (ci, fs) : va_E))] := D_iff.mpr ⟨by simp, fun _ _ => trivial⟩
  refine va_callv (va_runIN (As := []) (rest := rest) F hM ⟨va_cnB 0 F.2.2.2.2 g hw hrc hrs i2 (F.2.2.2.2 _ i1) hd hR, hn, F.2.2.2.2 _ i3⟩ ⟨wB_blind G _ _ _, fun U hU hW => ⟨rfl, by rw [hU], by rw [hU]; exact hPc, va_K.moved hW.alike hK, hDq⟩⟩ rfl rfl hsz hst (lv_room hW) hdg hf) hS (fun q _ h => hFc q h) hFc (fun a t H1 locs1 ht hvm hw hB hz hk hS1 => ?_)
  obtain ⟨hB1, hB2⟩ := hB
  rw [ht] at hB1
  have hin : ∀ x ∈ w, x.1 < H.size ∧ x.1 ≠ q := fun x hx => ⟨(gP_iff.mp hPw x hx).lt, fun z => hdis x.1 (List.mem_map.mpr ⟨x, hx, rfl⟩) q List.mem_cons_self z⟩
  have hno : ∀ x ∈ w, ¬ va_A [(q, (.inr (ci, fs) : va_E))] H.size x.1 := by
    intro x hx h
    rcases A_mem.mp h with h | h
    · have h : x.1 ∈ [q] := h
      rw [List.mem_singleton] at h
      exact (hin x hx).2 h
    · have := (hin x hx).1; omega
  refine kk a H1 locs1 hw (gP_app.mpr ⟨gP_iff.mpr (fun x hx => (gP_iff.mp hPw x hx).kept (hk x.1 (hin x hx).1 (hno x hx))), hB1⟩) (D_iff.mpr ⟨?_, ?_⟩) hS1
  · rw [List.map_append]
    refine List.nodup_append.mpr ⟨(List.nodup_append.mp hnd).1, (D_iff.mp hB2).1, ?_⟩
    intro x hx y hy e
    obtain ⟨x', hx', rfl⟩ := List.mem_map.mp hx
    obtain ⟨y', hy', rfl⟩ := List.mem_map.mp hy
    have h9 := (D_iff.mp hB2).2 y' hy'
    rw [← e] at h9
    exact hno x' hx' h9
  · intro x hx
    rcases List.mem_append.mp hx with h | h
    · exact hDi.2 x (List.mem_append_left _ h)
    · exact hFc x.1 ((D_iff.mp hB2).2 x h)
end KC
theorem rfP_up (P : Nat → Nat → Nat) (k : Nat) : va_up (rfP P k) k (some (P k 0)) = rfP P (k + 1) := by
  funext j
  by_cases h : j = k
  · subst h; simp [va_up, rfP]
  · by_cases h2 : j < k
    · simp [va_up, rfP, h, h2, show j < k + 1 by omega]
    · simp [va_up, rfP, h, h2, show ¬ j < k + 1 by omega]
abbrev PN (P : Nat → Nat → Nat) (k : Nat) (a : Nat → Nat) : Nat → Nat → Nat := fun i j => if i = k + 1 then a j else P i j
theorem PL_PN {G : gT} {P : Nat → Nat → Nat} {σ : Sg} {k : Nat} {a : Nat → Nat} : ∀ {j : Nat}, j ≤ k + 1 → PL G (PN P k a) σ j = PL G P σ j
  | 0, _ => rfl
  | j + 1, h => by
    have e : PN P k a j = P j := by funext b; exact if_neg (by omega)
    have e2 : PWi G (PN P k a) σ j = PWi G P σ j := by
      show PW G (PN P k a j) (σ 7 j) (σ 10 j) (mff (σ 7 j) (σ 8 j 0)) (σ 8 j 0) (σ 9 j 0) = _
      rw [e]
    rw [PL_s, PL_s, PL_PN (by omega), e2]
/-- the world behind addPiece -/
theorem CW_next {G : gT} {B : Nat → Nat} {P : Nat → Nat → Nat} {τ ρ : Sg} {k : Nat} {a : Nat → Nat} (h1 : ρ 1 = τ 1) (h3 : ρ 3 = τ 3) (h4 : ρ 4 = τ 4) (h5 : ρ 5 = τ 5) (h6 : ρ 6 = τ 6) (h7 : ρ 7 = τ 7) (h8 : ρ 8 = τ 8) (h9 : ρ 9 = τ 9) (h10 : ρ 10 = τ 10) (z7 : τ 7 (k + 1) = fun _ => 0) (z8 : τ 8 (k + 1) 0 = 0) (z9 : τ 9 (k + 1) 0 = 0) (z10 : τ 10 (k + 1) = fun _ => 0) :
    (RW G B τ ++ ([(B 5, .inr (2, [.ref (B 0), .ref (B 6), .int (iI (ρ 2 0 0)), .ref (a 0)])), (B 6, .inl (G.2.2.1, 6, .inr (.inr (.inr (.inr (rfP P (k + 1)))))))] ++ PL G P τ (k + 1))) ++ PW G a (fun _ => 0) (fun _ => 0) (fun _ => 0) 0 0 = CW G B (PN P k a) ρ (k + 1) := by
  show _ = RW G B ρ ++ (CH G B (PN P k a) ρ (k + 1) ++ (PL G (PN P k a) ρ (k + 1) ++ PWi G (PN P k a) ρ (k + 1)))
  have e1 : PL G (PN P k a) ρ (k + 1) = PL G P τ (k + 1) := by rw [PL_PN (Nat.le_refl _), PL_cong h7 h8 h9 h10]
  have e0 : PN P k a (k + 1) = a := by funext b; exact if_pos rfl
  have e2 : PWi G (PN P k a) ρ (k + 1) = PW G a (fun _ => 0) (fun _ => 0) (fun _ => 0) 0 0 := by
    show PW G (PN P k a (k + 1)) (ρ 7 (k + 1)) (ρ 10 (k + 1)) (mff (ρ 7 (k + 1)) (ρ 8 (k + 1) 0)) (ρ 8 (k + 1) 0) (ρ 9 (k + 1) 0) = _
    rw [e0, h7, h8, h9, h10, z7, z8, z9, z10, mff_0]
  have e3 : RW G B ρ = RW G B τ := by unfold RW; rw [h1, h3, h4, h5, h6]
  have e4 : rfP (PN P k a) (k + 1) = rfP P (k + 1) := by
    funext j
    show (if j < k + 1 then some (PN P k a j 0) else none) = if j < k + 1 then some (P j 0) else none
    by_cases h : j < k + 1
    · rw [if_pos h, if_pos h, show PN P k a j 0 = P j 0 from if_neg (by omega)]
    · rw [if_neg h, if_neg h]
  have e5 : CH G B (PN P k a) ρ (k + 1) = [(B 5, .inr (2, [.ref (B 0), .ref (B 6), .int (iI (ρ 2 0 0)), .ref (a 0)])), (B 6, .inl (G.2.2.1, 6, .inr (.inr (.inr (.inr (rfP P (k + 1)))))))] := by
    show ([(B 5, .inr (2, [.ref (B 0), .ref (B 6), .int (iI (ρ 2 0 0)), .ref (PN P k a (k + 1) 0)])), (B 6, .inl (G.2.2.1, 6, .inr (.inr (.inr (.inr (rfP (PN P k a) (k + 1)))))))] : va_W) = _
    rw [e4, e0]
  rw [e1, e2, e3, e5, List.append_assoc, List.append_assoc]

set_option maxHeartbeats 4000000 in
set_option maxRecDepth 100000 in
theorem mX2_addPiece (l : Launch) (hfl : l.stackTraces = false) (G : gT) (z0 sz0 : Nat) (B : Nat → Nat) (P : Nat → Nat → Nat) (σ : Sg) (x : Int) (hx : -2147483648 ≤ x ∧ x < 2147483648) {n k N : Nat} (hI : Iv σ n k N) : vx_Met l yX2_addPiece wsX2_addPiece { frames := 6, cells := 6, slots := 120, locals := 110 } (va_Pc [.ref (B 5), .int (iI x)] (xW G (CW G B P σ k) z0 sz0)) (va_Qi (fun (r : Int32) (_ : Nat → Nat → Nat) => r = iI (σ 2 0 0) ∧ kPce σ x = 0) (fun Pn t => gP G (CW G B Pn (sPce σ x) (k + 1)) t.heap ∧ va_D (va_A (CW G B P σ k) sz0) (CW G B Pn (sPce σ x) (k + 1))) (va_A (CW G B P σ k) sz0)) (xC (kPce σ x ≠ 0) (en nmA nmS nmS (kPce σ x))) 6 120 (va_A (CW G B P σ k) sz0) := by
  refine x_startW (own := RX2) (cc := cX2_addPiece) (mL := 3) (ret := (some .int)) (Qc := fun AA => va_Qi (fun (r : Int32) (_ : Nat → Nat → Nat) => r = iI (σ 2 0 0) ∧ kPce σ x = 0) (fun Pn t => gP G (CW G B Pn (sPce σ x) (k + 1)) t.heap ∧ va_D AA (CW G B Pn (sPce σ x) (k + 1))) AA) (by decide) rfl rfl (Nat.le_of_ble_eq_true rfl) ?_
  intro pP eE sS mM args bB meth cC ls AA F hr hlocks hxt hP hK hz hD hA hl
  have hS : sF sS sS.heap [] := va_S.rf
  obtain ⟨hn, hn12, hk, hk6, hsg, haw, hch, hch1, hch0, htn, hto, htz, hpr, hN, hpz, hle, hlz⟩ := id hI
  have hs3 : ∀ j, j < n → 0 ≤ σ 4 0 j ∧ σ 4 0 j ≤ σ 5 0 j ∧ σ 5 0 j ≤ 60 := fun j hj => by have := hsg j hj; omega
  have e9 : (σ 2 0 0).toNat = k := by omega
  have e7 : σ 8 (σ 2 0 0).toNat 0 = σ 8 k 0 := by rw [e9]
  have hck := hch k
  have iX0 : ∀ x ∈ wsX00, x ∈ wsX2_addPiece := by decide +kernel
  have iX2 : ∀ x ∈ wsX20, x ∈ wsX2_addPiece := by decide +kernel
  have f18 := k_cond F (w := .fieldLink RX2 18 "ChoirPlanner" "pieces" "[LChoirPlanner$Piece;") (by decide +kernel)
  have f23 := k_cond F (w := .fieldLink RX2 23 "ChoirPlanner" "draft" "LChoirPlanner$Piece;") (by decide +kernel)
  have f93 := k_cond F (w := .fieldLink RX2 93 "ChoirPlanner" "pieceCount" "I") (by decide +kernel)
  have hl : lv_has ls 3 [(0, .ref (B 5)), (1, .int (iI x))] := hl
  refine lv_iload_n F.1 F.2.1 dX2_addPiece_0 rfl (lv_at hl 1 rfl) ?_
  refine k_iconst F dX2_addPiece_1 ?_
  refine k_icmp_lt F (tgt := 12) dX2_addPiece_2 (by decide) (by omega) (by decide) (fun c_1 => ?_) (fun c_1 => ?_)
  · skip
    exact x_throw F hfl hxt hlocks hz hS (ik := 35) (ic := 39) (is := 86) (text := "the length is out of range") (cls := nmA) (by decide +kernel) exA2 exA1 (fun w9 (h9 : w9 ∈ (vx_atS RX2 39 "java/lang/IllegalArgumentException" ["java/lang/RuntimeException", "java/lang/Exception"]).filter goodWord) => by simp only [wsX2_addPiece, List.mem_cons, List.mem_append, h9, or_true, true_or]) (by decide +kernel) (by decide +kernel) (by decide +kernel) hl.1 dX2_addPiece_12 dX2_addPiece_15 dX2_addPiece_16 dX2_addPiece_18 dX2_addPiece_21 ⟨Nat.le_of_ble_eq_true rfl, Nat.le_of_ble_eq_true rfl, Nat.le_of_ble_eq_true rfl, Nat.le_of_ble_eq_true rfl⟩ ⟨Nat.le_of_ble_eq_true rfl, Nat.le_of_ble_eq_true rfl⟩ (en_1 (by unfold kPce; (try simp only [isC, Int.toNat_natCast]); (repeat' split) <;> omega))
  · skip
    refine lv_iload_n F.1 F.2.1 dX2_addPiece_5 rfl (lv_at hl 1 rfl) ?_
    refine k_sipush F dX2_addPiece_6 (by decide +kernel) ?_
    refine k_icmp_le F (tgt := 22) dX2_addPiece_9 (by decide) (by omega) (by decide) (fun c_2 => ?_) (fun c_2 => ?_)
    · skip
      refine lv_aload_n F.1 F.2.1 dX2_addPiece_22 rfl (lv_at hl 0 rfl) ?_
      refine k_get F hK hP iX2 5 rfl rfl 3 (by decide) f23 rfl rfl dX2_addPiece_23 ?_
      refine rd_V F (n := 0) (w0 := []) (mX0_isEmpty l G (P k) (σ 7 k) (σ 10 k) (mff (σ 7 k) (σ 8 k 0)) (σ 8 k 0) (σ 9 k 0) (hch k)) gX2_addPiece_X0_isEmpty rfl rfl rfl (by decide +kernel) ⟨Nat.le_of_ble_eq_true rfl, Nat.le_of_ble_eq_true rfl⟩ hK (CW_P hP k (by omega)) (ci := 0) (q0 := 0) rfl rfl rfl rfl hl.1 (Nat.le_of_ble_eq_true rfl) dX2_addPiece_26 ⟨Nat.zero_le _, Nat.zero_le _⟩ ?_
      refine k_ifb_eq F (tgt := 42) dX2_addPiece_29 (by decide) (fun c_3 => ?_) (fun c_3 => ?_)
      · skip
        refine lv_aload_n F.1 F.2.1 dX2_addPiece_42 rfl (lv_at hl 0 rfl) ?_
        refine k_get F hK hP iX2 5 rfl rfl 2 (by decide) f93 rfl rfl dX2_addPiece_43 ?_
        refine k_bipush F dX2_addPiece_46 (by decide +kernel) ?_
        refine k_icmp_lt F (tgt := 61) dX2_addPiece_48 (by decide) (by omega) (by decide) (fun c_4 => ?_) (fun c_4 => ?_)
        · skip
          refine lv_aload_n F.1 F.2.1 dX2_addPiece_61 rfl (lv_at hl 0 rfl) ?_
          refine k_get F hK hP iX2 5 rfl rfl 2 (by decide) f93 rfl rfl dX2_addPiece_62 ?_
          refine lv_istore_n (lv' := [(2, .int (iI (σ 2 0 0))), (0, .ref (B 5)), (1, .int (iI x))]) F.1 F.2.1 dX2_addPiece_65 rfl hl (by decide) rfl (fun ls hl => ?_)
          refine lv_aload_n F.1 F.2.1 dX2_addPiece_66 rfl (lv_at hl 1 rfl) ?_
          refine k_get F hK hP iX2 5 rfl rfl 3 (by decide) f23 rfl rfl dX2_addPiece_67 ?_
          refine lv_iload_n F.1 F.2.1 dX2_addPiece_70 rfl (lv_at hl 2 rfl) ?_
          refine wv_V F (n := 1) (w := PWi G P σ k) (w' := PW G (P k) (σ 7 k) (σ 10 k) (mff (σ 7 k) (σ 8 k 0)) (σ 8 k 0) x) (wr := CX G B P σ k k) (ws2 := CW G B P (su σ 9 k 0 x) k) (mX0_putLength l G sS.heap.size (P k) (σ 7 k) (σ 10 k) (mff (σ 7 k) (σ 8 k 0)) (σ 8 k 0) (σ 9 k 0) x) gX2_addPiece_X0_putLength rfl rfl rfl (by decide +kernel) ⟨Nat.le_of_ble_eq_true rfl, Nat.le_of_ble_eq_true rfl⟩ hK hP hD (sF_mono hS) hA (CX_perm (Nat.le_refl k)) (CW_piece (τ := (su σ 9 k 0 x)) (Nat.le_refl k) rfl rfl rfl (by simp [su, uI]) rfl (fun j hj => ⟨rfl, rfl, rfl, by rw [su_n _ _ _ _ hj]⟩) rfl rfl rfl rfl rfl rfl) rfl (ci := 0) (q0 := 0) rfl rfl rfl rfl hl.1 (Nat.le_of_ble_eq_true rfl) dX2_addPiece_71 ⟨Nat.zero_le _, Nat.zero_le _⟩ (fun H locs hP hD hS => ?_)
          refine lv_aload_n F.1 F.2.1 dX2_addPiece_74 rfl (lv_at hl 1 rfl) ?_
          refine k_get F hK hP iX2 5 rfl rfl 1 (by decide) f18 rfl rfl dX2_addPiece_75 ?_
          refine lv_iload_n F.1 F.2.1 dX2_addPiece_78 rfl (lv_at hl 0 rfl) ?_
          refine lv_aload_n F.1 F.2.1 dX2_addPiece_79 rfl (lv_at hl 1 rfl) ?_
          refine k_get F hK hP iX2 5 rfl rfl 3 (by decide) f23 rfl rfl dX2_addPiece_80 ?_
          obtain ⟨qk, hqk⟩ := List.getElem?_of_mem (show ((P k 0, .inr (0, [.ref (P k 1), .ref (P k 2), .ref (P k 3), .int (iI ((su σ 9 k 0 x) 8 k 0)), .int (iI ((su σ 9 k 0 x) 9 k 0))])) : Nat × va_E) ∈ CW G B P (su σ 9 k 0 x) k from List.mem_append_right _ (List.mem_append_right _ (PL_mem (Nat.lt_succ_self k) _ List.mem_cons_self)))
          refine va_astq F.1 F.2.1 hK hP hD hS 6 1 qk 0 rfl rfl hqk rfl (iI_in hk (by omega : k < 6) (by omega)) dX2_addPiece_83 (fun H locs hP hD hS => ?_)
          rw [iI_cl hk (by omega), rfP_up] at hP hD
          have hP : gP G ((RW G B (su σ 9 k 0 x) ++ ([(B 5, .inr (2, [.ref (B 0), .ref (B 6), .int (iI (σ 2 0 0)), .ref (P k 0)])), (B 6, .inl (G.2.2.1, 6, .inr (.inr (.inr (.inr (rfP P (k + 1)))))))] ++ PL G P (su σ 9 k 0 x) (k + 1)))) H := hP
          have hD : va_D AA ((RW G B (su σ 9 k 0 x) ++ ([(B 5, .inr (2, [.ref (B 0), .ref (B 6), .int (iI (σ 2 0 0)), .ref (P k 0)])), (B 6, .inl (G.2.2.1, 6, .inr (.inr (.inr (.inr (rfP P (k + 1)))))))] ++ PL G P (su σ 9 k 0 x) (k + 1)))) := hD
          refine lv_aload_n F.1 F.2.1 dX2_addPiece_84 rfl (lv_at hl 1 rfl) ?_
          refine lv_dup F.1 F.2.1 dX2_addPiece_85 rfl ?_
          refine k_get F hK hP iX2 5 rfl rfl 2 (by decide) f93 rfl rfl dX2_addPiece_86 ?_
          refine k_iconst F dX2_addPiece_89 ?_
          refine k_iadd F rfl dX2_addPiece_90 ?_
          refine va_put (D := G.1) (ci := 2) (v := .int (iI (σ 2 0 0 + 1))) (ty := .int) (C := RX2) (T := TX2) (N := 4) F.1 F.2.1 F.2.2.2.2 iX2 tyX2 tyX2_ok nmX2 F.2.2.2.1 hK hP hD hS 5 rfl rfl 2 (by decide) f93 (fun _ h9 => h9) rfl (by decide +kernel) rfl rfl (Nat.le_of_ble_eq_true rfl) dX2_addPiece_91 (fun H locs hP hD hS => ?_)
          have hP : gP G ((RW G B (su σ 9 k 0 x) ++ ([(B 5, .inr (2, [.ref (B 0), .ref (B 6), .int (iI (σ 2 0 0 + 1)), .ref (P k 0)])), (B 6, .inl (G.2.2.1, 6, .inr (.inr (.inr (.inr (rfP P (k + 1)))))))] ++ PL G P (su σ 9 k 0 x) (k + 1)))) H := hP
          have hD : va_D AA ((RW G B (su σ 9 k 0 x) ++ ([(B 5, .inr (2, [.ref (B 0), .ref (B 6), .int (iI (σ 2 0 0 + 1)), .ref (P k 0)])), (B 6, .inl (G.2.2.1, 6, .inr (.inr (.inr (.inr (rfP P (k + 1)))))))] ++ PL G P (su σ 9 k 0 x) (k + 1)))) := hD
          refine lv_aload_n F.1 F.2.1 dX2_addPiece_94 rfl (lv_at hl 1 rfl) ?_
          refine k_new F (C := RX0) (T := TX0) (N := 5) (ci := 0) (fs := [.null, .null, .null, .int (iI 0), .int (iI 0)]) iX0 tyX0 tyX0_ok (by decide +kernel) (by decide +kernel) (by decide +kernel) hK hP hD hS hA rfl (by decide +kernel) ⟨Nat.le_of_ble_eq_true rfl, Nat.le_of_ble_eq_true rfl⟩ dX2_addPiece_95 (fun q1 H hP hD hS => ?_)
          refine lv_dup F.1 F.2.1 dX2_addPiece_98 rfl ?_
          refine rn_IN F (W2 := fun a => PW G a (fun _ => 0) (fun _ => 0) (fun _ => 0) 0 0) (mX0_init l G H.size q1) gX2_addPiece_X0_init_n22 rfl rfl rfl (by decide +kernel) (hz.2.2.2.1 _ nest_22) (by decide +kernel) rfl (by decide +kernel) ⟨Nat.le_of_ble_eq_true rfl, Nat.le_of_ble_eq_true rfl⟩ hK hP hD hS hA rfl hl.1 (Nat.le_of_ble_eq_true rfl) dX2_addPiece_99 ⟨Nat.le_of_ble_eq_true rfl, Nat.le_of_ble_eq_true rfl⟩ (fun a H locs ha hP hD hS => ?_)
          rw [← ha]
          refine va_put (D := G.1) (ci := 2) (v := .ref (a 0)) (ty := (.object "ChoirPlanner$Piece")) (C := RX2) (T := TX2) (N := 4) F.1 F.2.1 F.2.2.2.2 iX2 tyX2 tyX2_ok nmX2 F.2.2.2.1 hK hP hD hS 5 rfl rfl 3 (by decide) f23 (fun _ h9 => h9) rfl (by decide +kernel) rfl rfl (Nat.le_of_ble_eq_true rfl) dX2_addPiece_102 (fun H locs hP hD hS => ?_)
          have hP : gP G ((RW G B (su σ 9 k 0 x) ++ ([(B 5, .inr (2, [.ref (B 0), .ref (B 6), .int (iI (σ 2 0 0 + 1)), .ref (a 0)])), (B 6, .inl (G.2.2.1, 6, .inr (.inr (.inr (.inr (rfP P (k + 1)))))))] ++ PL G P (su σ 9 k 0 x) (k + 1))) ++ PW G a (fun _ => 0) (fun _ => 0) (fun _ => 0) 0 0) H := hP
          have hD : va_D AA ((RW G B (su σ 9 k 0 x) ++ ([(B 5, .inr (2, [.ref (B 0), .ref (B 6), .int (iI (σ 2 0 0 + 1)), .ref (a 0)])), (B 6, .inl (G.2.2.1, 6, .inr (.inr (.inr (.inr (rfP P (k + 1)))))))] ++ PL G P (su σ 9 k 0 x) (k + 1))) ++ PW G a (fun _ => 0) (fun _ => 0) (fun _ => 0) 0 0) := hD
          refine lv_iload_n F.1 F.2.1 dX2_addPiece_105 rfl (lv_at hl 0 rfl) ?_
          have eS : sPce σ x = su (su σ 9 k 0 x) 2 0 0 (σ 2 0 0 + 1) := by simp only [sPce, e9]
          have hw := CW_next (G := G) (B := B) (P := P) (τ := su σ 9 k 0 x) (ρ := su (su σ 9 k 0 x) 2 0 0 (σ 2 0 0 + 1)) (k := k) (a := a) rfl rfl rfl rfl rfl rfl rfl rfl rfl (funext (htz (k + 1) (by omega))) (hch0 (k + 1) (by omega)) (by rw [su_n _ _ _ _ (by omega)]; exact hlz (k + 1) (by omega)) (funext (hpz (k + 1) (by omega)))
          have hP : gP G (CW G B (PN P k a) (sPce σ x) (k + 1)) H := by rw [eS, ← hw]; exact hP
          have hD : va_D AA (CW G B (PN P k a) (sPce σ x) (k + 1)) := by rw [eS, ← hw]; exact hD
          exact W.widen (Nat.le_of_ble_eq_true rfl) (Nat.le_of_ble_eq_true rfl) (vx_ret (W.iret F.1 F.2.1 hr (fun t ht _ => ⟨⟨_, PN P k a, rfl, ⟨rfl, (by unfold kPce; (try simp only [isC, Int.toNat_natCast]); (repeat' split) <;> omega)⟩, by rw [ht]; exact hP, hD⟩, hS.F ht⟩) hS.2.2 dX2_addPiece_106 hlocks))
        · skip
          exact x_throw F hfl hxt hlocks hz hS (ik := 46) (ic := 50) (is := 97) (text := "there are 6 pieces") (cls := nmS) (by decide +kernel) exS2 exS1 (fun w9 (h9 : w9 ∈ (vx_atS RX2 50 "java/lang/IllegalStateException" ["java/lang/RuntimeException", "java/lang/Exception"]).filter goodWord) => by simp only [wsX2_addPiece, List.mem_cons, List.mem_append, h9, or_true, true_or]) (by decide +kernel) (by decide +kernel) (by decide +kernel) hl.1 dX2_addPiece_51 dX2_addPiece_54 dX2_addPiece_55 dX2_addPiece_57 dX2_addPiece_60 ⟨Nat.le_of_ble_eq_true rfl, Nat.le_of_ble_eq_true rfl, Nat.le_of_ble_eq_true rfl, Nat.le_of_ble_eq_true rfl⟩ ⟨Nat.le_of_ble_eq_true rfl, Nat.le_of_ble_eq_true rfl⟩ (en_2 (by unfold kPce; (try simp only [isC, Int.toNat_natCast]); (repeat' split) <;> omega))
      · skip
        exact x_throw F hfl hxt hlocks hz hS (ik := 46) (ic := 50) (is := 91) (text := "the draft is empty") (cls := nmS) (by decide +kernel) exS2 exS1 (fun w9 (h9 : w9 ∈ (vx_atS RX2 50 "java/lang/IllegalStateException" ["java/lang/RuntimeException", "java/lang/Exception"]).filter goodWord) => by simp only [wsX2_addPiece, List.mem_cons, List.mem_append, h9, or_true, true_or]) (by decide +kernel) (by decide +kernel) (by decide +kernel) hl.1 dX2_addPiece_32 dX2_addPiece_35 dX2_addPiece_36 dX2_addPiece_38 dX2_addPiece_41 ⟨Nat.le_of_ble_eq_true rfl, Nat.le_of_ble_eq_true rfl, Nat.le_of_ble_eq_true rfl, Nat.le_of_ble_eq_true rfl⟩ ⟨Nat.le_of_ble_eq_true rfl, Nat.le_of_ble_eq_true rfl⟩ (en_2 (by unfold kPce; (try simp only [isC, Int.toNat_natCast]); (repeat' split) <;> omega))
    · skip
      exact x_throw F hfl hxt hlocks hz hS (ik := 35) (ic := 39) (is := 86) (text := "the length is out of range") (cls := nmA) (by decide +kernel) exA2 exA1 (fun w9 (h9 : w9 ∈ (vx_atS RX2 39 "java/lang/IllegalArgumentException" ["java/lang/RuntimeException", "java/lang/Exception"]).filter goodWord) => by simp only [wsX2_addPiece, List.mem_cons, List.mem_append, h9, or_true, true_or]) (by decide +kernel) (by decide +kernel) (by decide +kernel) hl.1 dX2_addPiece_12 dX2_addPiece_15 dX2_addPiece_16 dX2_addPiece_18 dX2_addPiece_21 ⟨Nat.le_of_ble_eq_true rfl, Nat.le_of_ble_eq_true rfl, Nat.le_of_ble_eq_true rfl, Nat.le_of_ble_eq_true rfl⟩ ⟨Nat.le_of_ble_eq_true rfl, Nat.le_of_ble_eq_true rfl⟩ (en_1 (by unfold kPce; (try simp only [isC, Int.toNat_natCast]); (repeat' split) <;> omega))
