theorem cl0 : (iI 0).toNatClampNeg = 0 := by decide +kernel
theorem kReh0 {σ : Sg} {x t : Int} (h : kReh σ x t = 0) : (0 ≤ x ∧ x ≤ σ 2 0 0 - 1) ∧ 1 ≤ t ∧ t ≤ 30 := by
  unfold kReh at h
  (repeat' split at h) <;> omega

set_option maxHeartbeats 8000000 in
set_option maxRecDepth 100000 in
theorem law_addSinger {p : Program} {l : Launch} {e : Env} {R : Room} {s : State} {m : MethodId} {args : Array Value} {below : List Frame} {meth : Method} {c : Code} {Q : State → Prop} {AA : Nat → Prop} (F : CallFix p m c cL_law 7 s args wsL_law RL) (hfl : l.stackTraces = false) (hRf : 12 ≤ R.frames ∧ 400 ≤ R.locals) {G : gT} {B A : Nat → Nat} {o b L z0 : Nat} {xs : Nat → Int32} (hX : va_X b L xs s s.heap) (hbl : b < s.heap.size) (hbA : ¬ AA b) (hL : L ≤ 2560) (hK : gK G s) (hz : lz z0 s) (hAz : ∀ q, AA q → z0 ≤ q) (hA : ∀ q, s.heap.size ≤ q → AA q) (N : Nat) (hN : 5 * N + 5 ≤ L)
    {H : Heap} {locs : List Loc} {cells slots : Nat} (hc : cells + 8 ≤ R.cells ∧ slots + 200 ≤ R.slots) (f : Nat → Int64) (P : Nat → Nat → Nat) (r0 : Int) (σ : Sg) {n k : Nat} (hI : Iv σ n k N) (hP : gP G ((oC G o f ++ CW G B P σ k) ++ MW G A r0 σ) H) (hD : va_D AA ((oC G o f ++ CW G B P σ k) ++ MW G A r0 σ)) (hS : va_S AA s.heap H locs) {ls : Array Slot} (hl : lv_has ls 7 [(0, .ref b), (1, .ref (B 5)), (2, .ref (A 0)), (3, .ref o), (4, .int (iI ((5 * N : Nat) : Int)))])
    (kk : ∀ (f' : Nat → Int64) (P' : Nat → Nat → Nat) (r' : Int) (σ' : Sg) (n' k' : Nat) (H1 : Heap) (locs1 : List Loc) (ls1 : Array Slot), Iv σ' n' k' (N + 1) → gP G ((oC G o f' ++ CW G B P' σ' k') ++ MW G A r' σ') H1 → va_D AA ((oC G o f' ++ CW G B P' σ' k') ++ MW G A r' σ') → va_S AA s.heap H1 locs1 → lv_has ls1 7 [(0, .ref b), (1, .ref (B 5)), (2, .ref (A 0)), (3, .ref o), (4, .int (iI ((5 * N : Nat) : Int)))] → W p l e R s m args below meth c H1 locs1 (cells + 8) (slots + 200) Q (F0 m 1395 ls1 [])) : W p l e R s m args below meth c H locs cells slots Q (F0 m 124 ls []) := by
  have hN5 : N ≤ 512 := by omega
  refine lv_aload_n F.1 F.2.1 dL_law_124 rfl (lv_at hl 1 rfl) ?_
  refine lv_aload_n F.1 F.2.1 dL_law_125 rfl (lv_at hl 0 rfl) ?_
  refine lv_iload F.1 F.2.1 dL_law_126 (lv_at hl 4 rfl) ?_
  refine k_iconst F dL_law_128 ?_
  refine k_iadd F rfl dL_law_129 ?_
  refine k_sld F hX hbl hbA hS (5 * N + 1) (by omega) (by omega) hL dL_law_130 ?_
  refine lv_aload_n F.1 F.2.1 dL_law_131 rfl (lv_at hl 0 rfl) ?_
  refine lv_iload F.1 F.2.1 dL_law_132 (lv_at hl 4 rfl) ?_
  refine k_iconst F dL_law_134 ?_
  refine k_iadd F rfl dL_law_135 ?_
  refine k_sld F hX hbl hbA hS (5 * N + 2) (by omega) (by omega) hL dL_law_136 ?_
  refine lv_aload_n F.1 F.2.1 dL_law_137 rfl (lv_at hl 0 rfl) ?_
  refine lv_iload F.1 F.2.1 dL_law_138 (lv_at hl 4 rfl) ?_
  refine k_iconst F dL_law_140 ?_
  refine k_iadd F rfl dL_law_141 ?_
  refine k_sld F hX hbl hbA hS (5 * N + 3) (by omega) (by omega) hL dL_law_142 ?_
  refine lv_aload_n F.1 F.2.1 dL_law_143 rfl (lv_at hl 3 rfl) ?_
  refine l_callS F (n := 5) (wr := MW G A r0 σ) (W2 := fun u : Nat → Int64 => oC G o u ++ CW G B P (if kAdd σ ((xs (5 * N + 1)).toInt) ((xs (5 * N + 2)).toInt) ((xs (5 * N + 3)).toInt) = 0 then sAdd σ ((xs (5 * N + 1)).toInt) ((xs (5 * N + 2)).toInt) ((xs (5 * N + 3)).toInt) else σ) k) (mL_addSinger l hfl G z0 H.size o f B P σ ((xs (5 * N + 1)).toInt) ((xs (5 * N + 2)).toInt) ((xs (5 * N + 3)).toInt) (iI_rg _) (iI_rg _) (iI_rg _) hI) gL_law_L_addSinger rfl rfl rfl (by decide +kernel) ⟨Nat.le_trans (Nat.le_of_ble_eq_true rfl) hRf.1, Nat.le_trans (Nat.le_of_ble_eq_true rfl) hRf.2⟩ hK hP hD hz hAz hS hA rfl rfl hl.1 (Nat.le_of_ble_eq_true rfl) dL_law_144 ⟨by omega, by omega⟩ (fun r u H locs hpost hP hD hS => ?_)
  obtain ⟨rfl, hu⟩ := hpost
  have hKr : -2147483648 ≤ kAdd σ ((xs (5 * N + 1)).toInt) ((xs (5 * N + 2)).toInt) ((xs (5 * N + 3)).toInt) ∧ kAdd σ ((xs (5 * N + 1)).toInt) ((xs (5 * N + 2)).toInt) ((xs (5 * N + 3)).toInt) < 2147483648 := by
    unfold kAdd
    (repeat' split) <;> omega
  refine lv_istore (lv' := [(5, .int (iI (kAdd σ ((xs (5 * N + 1)).toInt) ((xs (5 * N + 2)).toInt) ((xs (5 * N + 3)).toInt)))), (0, .ref b), (1, .ref (B 5)), (2, .ref (A 0)), (3, .ref o), (4, .int (iI ((5 * N : Nat) : Int)))]) F.1 F.2.1 dL_law_147 hl (by decide) rfl (fun ls hl => ?_)
  refine lv_aload_n F.1 F.2.1 dL_law_149 rfl (lv_at hl 3 rfl) ?_
  refine lv_aload_n F.1 F.2.1 dL_law_150 rfl (lv_at hl 1 rfl) ?_
  refine lv_iload F.1 F.2.1 dL_law_151 (lv_at hl 5 rfl) ?_
  refine k_iconst F dL_law_153 ?_
  refine k_iadd F rfl dL_law_154 ?_
  refine k_sld F hX hbl hbA hS (5 * N + 1) (by omega) (by omega) hL dL_law_155 ?_
  refine lv_aload_n F.1 F.2.1 dL_law_156 rfl (lv_at hl 1 rfl) ?_
  refine lv_iload F.1 F.2.1 dL_law_157 (lv_at hl 5 rfl) ?_
  refine k_iconst F dL_law_159 ?_
  refine k_iadd F rfl dL_law_160 ?_
  refine k_sld F hX hbl hbA hS (5 * N + 2) (by omega) (by omega) hL dL_law_161 ?_
  refine lv_aload_n F.1 F.2.1 dL_law_162 rfl (lv_at hl 1 rfl) ?_
  refine lv_iload F.1 F.2.1 dL_law_163 (lv_at hl 5 rfl) ?_
  refine k_iconst F dL_law_165 ?_
  refine k_iadd F rfl dL_law_166 ?_
  refine k_sld F hX hbl hbA hS (5 * N + 3) (by omega) (by omega) hL dL_law_167 ?_
  refine wr_V F (n := 3) (w := MW G A r0 σ) (w' := MW G A (kAdd σ ((xs (5 * N + 1)).toInt) ((xs (5 * N + 2)).toInt) ((xs (5 * N + 3)).toInt)) (if kAdd σ ((xs (5 * N + 1)).toInt) ((xs (5 * N + 2)).toInt) ((xs (5 * N + 3)).toInt) = 0 then sAdd σ ((xs (5 * N + 1)).toInt) ((xs (5 * N + 2)).toInt) ((xs (5 * N + 3)).toInt) else σ)) (wr := (oC G o u ++ CW G B P (if kAdd σ ((xs (5 * N + 1)).toInt) ((xs (5 * N + 2)).toInt) ((xs (5 * N + 3)).toInt) = 0 then sAdd σ ((xs (5 * N + 1)).toInt) ((xs (5 * N + 2)).toInt) ((xs (5 * N + 3)).toInt) else σ) k)) (ws2 := (oC G o u ++ CW G B P (if kAdd σ ((xs (5 * N + 1)).toInt) ((xs (5 * N + 2)).toInt) ((xs (5 * N + 3)).toInt) = 0 then sAdd σ ((xs (5 * N + 1)).toInt) ((xs (5 * N + 2)).toInt) ((xs (5 * N + 3)).toInt) else σ) k) ++ MW G A (kAdd σ ((xs (5 * N + 1)).toInt) ((xs (5 * N + 2)).toInt) ((xs (5 * N + 3)).toInt)) (if kAdd σ ((xs (5 * N + 1)).toInt) ((xs (5 * N + 2)).toInt) ((xs (5 * N + 3)).toInt) = 0 then sAdd σ ((xs (5 * N + 1)).toInt) ((xs (5 * N + 2)).toInt) ((xs (5 * N + 3)).toInt) else σ)) (mX3_addSinger l G H.size A r0 σ ((xs (5 * N + 1)).toInt) ((xs (5 * N + 2)).toInt) ((xs (5 * N + 3)).toInt) (iI_rg _) (iI_rg _) (iI_rg _) hI) gL_law_X3_addSinger rfl rfl rfl (by decide +kernel) ⟨Nat.le_trans (Nat.le_of_ble_eq_true rfl) hRf.1, Nat.le_trans (Nat.le_of_ble_eq_true rfl) hRf.2⟩ hK hP hD hS hA List.perm_append_comm List.perm_append_comm rfl (ci := 3) (q0 := 0) rfl rfl rfl rfl hl.1 (Nat.le_of_ble_eq_true rfl) dL_law_168 ⟨by omega, by omega⟩ (fun H locs hP hD hS => ?_)
  refine lv_istore (lv' := [(6, .int (iI (if kAdd σ ((xs (5 * N + 1)).toInt) ((xs (5 * N + 2)).toInt) ((xs (5 * N + 3)).toInt) = 0 then σ 1 0 0 else 0))), (5, .int (iI (kAdd σ ((xs (5 * N + 1)).toInt) ((xs (5 * N + 2)).toInt) ((xs (5 * N + 3)).toInt)))), (0, .ref b), (1, .ref (B 5)), (2, .ref (A 0)), (3, .ref o), (4, .int (iI ((5 * N : Nat) : Int)))]) F.1 F.2.1 dL_law_171 hl (by decide) rfl (fun ls hl => ?_)
  refine lv_aload_n F.1 F.2.1 dL_law_173 rfl (lv_at hl 4 rfl) ?_
  refine rd_V F (n := 0) (w0 := []) (mX3_thrown l G A (kAdd σ ((xs (5 * N + 1)).toInt) ((xs (5 * N + 2)).toInt) ((xs (5 * N + 3)).toInt)) (if kAdd σ ((xs (5 * N + 1)).toInt) ((xs (5 * N + 2)).toInt) ((xs (5 * N + 3)).toInt) = 0 then sAdd σ ((xs (5 * N + 1)).toInt) ((xs (5 * N + 2)).toInt) ((xs (5 * N + 3)).toInt) else σ)) gL_law_X3_thrown rfl rfl rfl (by decide +kernel) ⟨Nat.le_trans (Nat.le_of_ble_eq_true rfl) hRf.1, Nat.le_trans (Nat.le_of_ble_eq_true rfl) hRf.2⟩ hK (gP_app.mp hP).2 (ci := 3) (q0 := 0) rfl rfl rfl rfl hl.1 (Nat.le_of_ble_eq_true rfl) dL_law_174 ⟨by omega, by omega⟩ ?_
  refine lv_iload F.1 F.2.1 dL_law_177 (lv_at hl 1 rfl) ?_
  refine k_icmp_eq F (tgt := 184) dL_law_179 (by decide) hKr hKr (fun _ => ?_) (fun h9 => absurd rfl h9)
  refine lv_iload F.1 F.2.1 dL_law_184 (lv_at hl 1 rfl) ?_
  refine k_if_ne F (tgt := 201) dL_law_186 (by decide) hKr (fun hk0 => ?_) (fun hk0 => ?_)
  · skip
    refine lv_goto (tgt := 1395) F.1 F.2.1 dL_law_201 (by decide) ?_
    have hI2 : Iv (if kAdd σ ((xs (5 * N + 1)).toInt) ((xs (5 * N + 2)).toInt) ((xs (5 * N + 3)).toInt) = 0 then sAdd σ ((xs (5 * N + 1)).toInt) ((xs (5 * N + 2)).toInt) ((xs (5 * N + 3)).toInt) else σ) (if kAdd σ ((xs (5 * N + 1)).toInt) ((xs (5 * N + 2)).toInt) ((xs (5 * N + 3)).toInt) = 0 then n + 1 else n) k (N + 1) := by
      by_cases h0 : kAdd σ ((xs (5 * N + 1)).toInt) ((xs (5 * N + 2)).toInt) ((xs (5 * N + 3)).toInt) = 0
      · rw [if_pos h0, if_pos h0]; exact Iv_up (Iv_add hI h0) (by omega)
      · rw [if_neg h0, if_neg h0]; exact Iv_up hI (by omega)
    refine W.widen (k := cells + 8) (n := slots + 200) (by omega) (by omega) ?_
    exact kk u P (kAdd σ ((xs (5 * N + 1)).toInt) ((xs (5 * N + 2)).toInt) ((xs (5 * N + 3)).toInt)) (if kAdd σ ((xs (5 * N + 1)).toInt) ((xs (5 * N + 2)).toInt) ((xs (5 * N + 3)).toInt) = 0 then sAdd σ ((xs (5 * N + 1)).toInt) ((xs (5 * N + 2)).toInt) ((xs (5 * N + 3)).toInt) else σ) (if kAdd σ ((xs (5 * N + 1)).toInt) ((xs (5 * N + 2)).toInt) ((xs (5 * N + 3)).toInt) = 0 then n + 1 else n) k H locs ls hI2 hP hD hS (lv_sub hl [2, 3, 4, 5, 6] rfl)
  · skip
    refine lv_aload_n F.1 F.2.1 dL_law_189 rfl (lv_at hl 5 rfl) ?_
    refine k_iconst F dL_law_190 ?_
    refine va_lald F.1 F.2.1 hK hP 0 2 rfl rfl (iI_in (k := 0) rfl (by decide) (by decide)) dL_law_191 ?_
    refine lv_iload F.1 F.2.1 dL_law_192 (lv_at hl 0 rfl) ?_
    refine lv_i2l F.1 F.2.1 dL_law_194 rfl ?_
    refine k_lcmpE F (by rw [cl0, hu hk0, if_pos hk0]) dL_law_195 ?_
    refine k_if_eq F (tgt := 201) dL_law_196 (by decide) (by decide) (fun _ => ?_) (fun h9 => absurd rfl h9)
    refine lv_goto (tgt := 1395) F.1 F.2.1 dL_law_201 (by decide) ?_
    have hI2 : Iv (if kAdd σ ((xs (5 * N + 1)).toInt) ((xs (5 * N + 2)).toInt) ((xs (5 * N + 3)).toInt) = 0 then sAdd σ ((xs (5 * N + 1)).toInt) ((xs (5 * N + 2)).toInt) ((xs (5 * N + 3)).toInt) else σ) (if kAdd σ ((xs (5 * N + 1)).toInt) ((xs (5 * N + 2)).toInt) ((xs (5 * N + 3)).toInt) = 0 then n + 1 else n) k (N + 1) := by
      by_cases h0 : kAdd σ ((xs (5 * N + 1)).toInt) ((xs (5 * N + 2)).toInt) ((xs (5 * N + 3)).toInt) = 0
      · rw [if_pos h0, if_pos h0]; exact Iv_up (Iv_add hI h0) (by omega)
      · rw [if_neg h0, if_neg h0]; exact Iv_up hI (by omega)
    refine W.widen (k := cells + 8) (n := slots + 200) (by omega) (by omega) ?_
    exact kk u P (kAdd σ ((xs (5 * N + 1)).toInt) ((xs (5 * N + 2)).toInt) ((xs (5 * N + 3)).toInt)) (if kAdd σ ((xs (5 * N + 1)).toInt) ((xs (5 * N + 2)).toInt) ((xs (5 * N + 3)).toInt) = 0 then sAdd σ ((xs (5 * N + 1)).toInt) ((xs (5 * N + 2)).toInt) ((xs (5 * N + 3)).toInt) else σ) (if kAdd σ ((xs (5 * N + 1)).toInt) ((xs (5 * N + 2)).toInt) ((xs (5 * N + 3)).toInt) = 0 then n + 1 else n) k H locs ls hI2 hP hD hS (lv_sub hl [2, 3, 4, 5, 6] rfl)

set_option maxHeartbeats 8000000 in
set_option maxRecDepth 100000 in
theorem law_tell {p : Program} {l : Launch} {e : Env} {R : Room} {s : State} {m : MethodId} {args : Array Value} {below : List Frame} {meth : Method} {c : Code} {Q : State → Prop} {AA : Nat → Prop} (F : CallFix p m c cL_law 7 s args wsL_law RL) (hfl : l.stackTraces = false) (hRf : 12 ≤ R.frames ∧ 400 ≤ R.locals) {G : gT} {B A : Nat → Nat} {o b L z0 : Nat} {xs : Nat → Int32} (hX : va_X b L xs s s.heap) (hbl : b < s.heap.size) (hbA : ¬ AA b) (hL : L ≤ 2560) (hK : gK G s) (hz : lz z0 s) (hAz : ∀ q, AA q → z0 ≤ q) (hA : ∀ q, s.heap.size ≤ q → AA q) (N : Nat) (hN : 5 * N + 5 ≤ L)
    {H : Heap} {locs : List Loc} {cells slots : Nat} (hc : cells + 8 ≤ R.cells ∧ slots + 200 ≤ R.slots) (f : Nat → Int64) (P : Nat → Nat → Nat) (r0 : Int) (σ : Sg) {n k : Nat} (hI : Iv σ n k N) (hP : gP G ((oC G o f ++ CW G B P σ k) ++ MW G A r0 σ) H) (hD : va_D AA ((oC G o f ++ CW G B P σ k) ++ MW G A r0 σ)) (hS : va_S AA s.heap H locs) {ls : Array Slot} (hl : lv_has ls 7 [(0, .ref b), (1, .ref (B 5)), (2, .ref (A 0)), (3, .ref o), (4, .int (iI ((5 * N : Nat) : Int)))])
    (kk : ∀ (f' : Nat → Int64) (P' : Nat → Nat → Nat) (r' : Int) (σ' : Sg) (n' k' : Nat) (H1 : Heap) (locs1 : List Loc) (ls1 : Array Slot), Iv σ' n' k' (N + 1) → gP G ((oC G o f' ++ CW G B P' σ' k') ++ MW G A r' σ') H1 → va_D AA ((oC G o f' ++ CW G B P' σ' k') ++ MW G A r' σ') → va_S AA s.heap H1 locs1 → lv_has ls1 7 [(0, .ref b), (1, .ref (B 5)), (2, .ref (A 0)), (3, .ref o), (4, .int (iI ((5 * N : Nat) : Int)))] → W p l e R s m args below meth c H1 locs1 (cells + 8) (slots + 200) Q (F0 m 1395 ls1 [])) : W p l e R s m args below meth c H locs cells slots Q (F0 m 204 ls []) := by
  have hN5 : N ≤ 512 := by omega
  refine lv_aload_n F.1 F.2.1 dL_law_204 rfl (lv_at hl 1 rfl) ?_
  refine lv_aload_n F.1 F.2.1 dL_law_205 rfl (lv_at hl 0 rfl) ?_
  refine lv_iload F.1 F.2.1 dL_law_206 (lv_at hl 4 rfl) ?_
  refine k_iconst F dL_law_208 ?_
  refine k_iadd F rfl dL_law_209 ?_
  refine k_sld F hX hbl hbA hS (5 * N + 1) (by omega) (by omega) hL dL_law_210 ?_
  refine lv_aload_n F.1 F.2.1 dL_law_211 rfl (lv_at hl 0 rfl) ?_
  refine lv_iload F.1 F.2.1 dL_law_212 (lv_at hl 4 rfl) ?_
  refine k_iconst F dL_law_214 ?_
  refine k_iadd F rfl dL_law_215 ?_
  refine k_sld F hX hbl hbA hS (5 * N + 2) (by omega) (by omega) hL dL_law_216 ?_
  refine lv_aload_n F.1 F.2.1 dL_law_217 rfl (lv_at hl 0 rfl) ?_
  refine lv_iload F.1 F.2.1 dL_law_218 (lv_at hl 4 rfl) ?_
  refine k_iconst F dL_law_220 ?_
  refine k_iadd F rfl dL_law_221 ?_
  refine k_sld F hX hbl hbA hS (5 * N + 3) (by omega) (by omega) hL dL_law_222 ?_
  refine k_if_eq F (tgt := 230) dL_law_223 (by decide) (iI_rg _) (fun c9 => ?_) (fun c9 => ?_)
  · skip
    refine k_iconst F dL_law_230 ?_
    refine lv_aload_n F.1 F.2.1 dL_law_231 rfl (lv_at hl 3 rfl) ?_
    refine l_callS F (n := 5) (wr := MW G A r0 σ) (W2 := fun u : Nat → Int64 => oC G o u ++ CW G B P (if kTel σ ((xs (5 * N + 1)).toInt) ((xs (5 * N + 2)).toInt) = 0 then sTel σ ((xs (5 * N + 1)).toInt) ((xs (5 * N + 2)).toInt) (0) else σ) k) (mL_tell l hfl G z0 H.size o f B P σ ((xs (5 * N + 1)).toInt) ((xs (5 * N + 2)).toInt) (0) (iI_rg _) (iI_rg _) (Or.inl rfl) hI) gL_law_L_tell rfl rfl rfl (by decide +kernel) ⟨Nat.le_trans (Nat.le_of_ble_eq_true rfl) hRf.1, Nat.le_trans (Nat.le_of_ble_eq_true rfl) hRf.2⟩ hK hP hD hz hAz hS hA rfl rfl hl.1 (Nat.le_of_ble_eq_true rfl) dL_law_232 ⟨by omega, by omega⟩ (fun r u H locs hpost hP hD hS => ?_)
    obtain ⟨rfl, hu⟩ := hpost
    have hKr : -2147483648 ≤ kTel σ ((xs (5 * N + 1)).toInt) ((xs (5 * N + 2)).toInt) ∧ kTel σ ((xs (5 * N + 1)).toInt) ((xs (5 * N + 2)).toInt) < 2147483648 := by
      unfold kTel
      (repeat' split) <;> omega
    refine lv_istore (lv' := [(5, .int (iI (kTel σ ((xs (5 * N + 1)).toInt) ((xs (5 * N + 2)).toInt)))), (0, .ref b), (1, .ref (B 5)), (2, .ref (A 0)), (3, .ref o), (4, .int (iI ((5 * N : Nat) : Int)))]) F.1 F.2.1 dL_law_235 hl (by decide) rfl (fun ls hl => ?_)
    refine lv_aload_n F.1 F.2.1 dL_law_237 rfl (lv_at hl 3 rfl) ?_
    refine lv_aload_n F.1 F.2.1 dL_law_238 rfl (lv_at hl 1 rfl) ?_
    refine lv_iload F.1 F.2.1 dL_law_239 (lv_at hl 5 rfl) ?_
    refine k_iconst F dL_law_241 ?_
    refine k_iadd F rfl dL_law_242 ?_
    refine k_sld F hX hbl hbA hS (5 * N + 1) (by omega) (by omega) hL dL_law_243 ?_
    refine lv_aload_n F.1 F.2.1 dL_law_244 rfl (lv_at hl 1 rfl) ?_
    refine lv_iload F.1 F.2.1 dL_law_245 (lv_at hl 5 rfl) ?_
    refine k_iconst F dL_law_247 ?_
    refine k_iadd F rfl dL_law_248 ?_
    refine k_sld F hX hbl hbA hS (5 * N + 2) (by omega) (by omega) hL dL_law_249 ?_
    refine lv_aload_n F.1 F.2.1 dL_law_250 rfl (lv_at hl 1 rfl) ?_
    refine lv_iload F.1 F.2.1 dL_law_251 (lv_at hl 5 rfl) ?_
    refine k_iconst F dL_law_253 ?_
    refine k_iadd F rfl dL_law_254 ?_
    refine k_sld F hX hbl hbA hS (5 * N + 3) (by omega) (by omega) hL dL_law_255 ?_
    refine k_if_eq F (tgt := 263) dL_law_256 (by decide) (iI_rg _) (fun _ => ?_) (fun h9 => absurd c9 h9)
    refine k_iconst F dL_law_263 ?_
    refine wr_V F (n := 3) (w := MW G A r0 σ) (w' := MW G A (kTel σ ((xs (5 * N + 1)).toInt) ((xs (5 * N + 2)).toInt)) (if kTel σ ((xs (5 * N + 1)).toInt) ((xs (5 * N + 2)).toInt) = 0 then sTel σ ((xs (5 * N + 1)).toInt) ((xs (5 * N + 2)).toInt) (0) else σ)) (wr := (oC G o u ++ CW G B P (if kTel σ ((xs (5 * N + 1)).toInt) ((xs (5 * N + 2)).toInt) = 0 then sTel σ ((xs (5 * N + 1)).toInt) ((xs (5 * N + 2)).toInt) (0) else σ) k)) (ws2 := (oC G o u ++ CW G B P (if kTel σ ((xs (5 * N + 1)).toInt) ((xs (5 * N + 2)).toInt) = 0 then sTel σ ((xs (5 * N + 1)).toInt) ((xs (5 * N + 2)).toInt) (0) else σ) k) ++ MW G A (kTel σ ((xs (5 * N + 1)).toInt) ((xs (5 * N + 2)).toInt)) (if kTel σ ((xs (5 * N + 1)).toInt) ((xs (5 * N + 2)).toInt) = 0 then sTel σ ((xs (5 * N + 1)).toInt) ((xs (5 * N + 2)).toInt) (0) else σ)) (mX3_tell l G H.size A r0 σ ((xs (5 * N + 1)).toInt) ((xs (5 * N + 2)).toInt) (0) (iI_rg _) (iI_rg _) (Or.inl rfl) hI) gL_law_X3_tell rfl rfl rfl (by decide +kernel) ⟨Nat.le_trans (Nat.le_of_ble_eq_true rfl) hRf.1, Nat.le_trans (Nat.le_of_ble_eq_true rfl) hRf.2⟩ hK hP hD hS hA List.perm_append_comm List.perm_append_comm rfl (ci := 3) (q0 := 0) rfl rfl rfl rfl hl.1 (Nat.le_of_ble_eq_true rfl) dL_law_264 ⟨by omega, by omega⟩ (fun H locs hP hD hS => ?_)
    refine lv_istore (lv' := [(6, .int (iI (if kTel σ ((xs (5 * N + 1)).toInt) ((xs (5 * N + 2)).toInt) = 0 then bI (thr (σ 6 0 ((xs (5 * N + 1)).toInt).toNat) ((xs (5 * N + 2)).toInt) = true) else 0))), (5, .int (iI (kTel σ ((xs (5 * N + 1)).toInt) ((xs (5 * N + 2)).toInt)))), (0, .ref b), (1, .ref (B 5)), (2, .ref (A 0)), (3, .ref o), (4, .int (iI ((5 * N : Nat) : Int)))]) F.1 F.2.1 dL_law_267 hl (by decide) rfl (fun ls hl => ?_)
    refine lv_aload_n F.1 F.2.1 dL_law_269 rfl (lv_at hl 4 rfl) ?_
    refine rd_V F (n := 0) (w0 := []) (mX3_thrown l G A (kTel σ ((xs (5 * N + 1)).toInt) ((xs (5 * N + 2)).toInt)) (if kTel σ ((xs (5 * N + 1)).toInt) ((xs (5 * N + 2)).toInt) = 0 then sTel σ ((xs (5 * N + 1)).toInt) ((xs (5 * N + 2)).toInt) (0) else σ)) gL_law_X3_thrown rfl rfl rfl (by decide +kernel) ⟨Nat.le_trans (Nat.le_of_ble_eq_true rfl) hRf.1, Nat.le_trans (Nat.le_of_ble_eq_true rfl) hRf.2⟩ hK (gP_app.mp hP).2 (ci := 3) (q0 := 0) rfl rfl rfl rfl hl.1 (Nat.le_of_ble_eq_true rfl) dL_law_270 ⟨by omega, by omega⟩ ?_
    refine lv_iload F.1 F.2.1 dL_law_273 (lv_at hl 1 rfl) ?_
    refine k_icmp_eq F (tgt := 280) dL_law_275 (by decide) hKr hKr (fun _ => ?_) (fun h9 => absurd rfl h9)
    refine lv_iload F.1 F.2.1 dL_law_280 (lv_at hl 1 rfl) ?_
    refine k_if_ne F (tgt := 304) dL_law_282 (by decide) hKr (fun hk0 => ?_) (fun hk0 => ?_)
    · skip
      refine lv_goto (tgt := 1395) F.1 F.2.1 dL_law_304 (by decide) ?_
      have hI2 : Iv (if kTel σ ((xs (5 * N + 1)).toInt) ((xs (5 * N + 2)).toInt) = 0 then sTel σ ((xs (5 * N + 1)).toInt) ((xs (5 * N + 2)).toInt) (0) else σ) n k (N + 1) := by
        by_cases h0 : kTel σ ((xs (5 * N + 1)).toInt) ((xs (5 * N + 2)).toInt) = 0
        · rw [if_pos h0]; exact Iv_up (Iv_tel hI _ _ _) (by omega)
        · rw [if_neg h0]; exact Iv_up hI (by omega)
      refine W.widen (k := cells + 8) (n := slots + 200) (by omega) (by omega) ?_
      exact kk u P (kTel σ ((xs (5 * N + 1)).toInt) ((xs (5 * N + 2)).toInt)) (if kTel σ ((xs (5 * N + 1)).toInt) ((xs (5 * N + 2)).toInt) = 0 then sTel σ ((xs (5 * N + 1)).toInt) ((xs (5 * N + 2)).toInt) (0) else σ) n k H locs ls hI2 hP hD hS (lv_sub hl [2, 3, 4, 5, 6] rfl)
    · skip
      refine lv_aload_n F.1 F.2.1 dL_law_285 rfl (lv_at hl 5 rfl) ?_
      refine k_iconst F dL_law_286 ?_
      refine va_lald F.1 F.2.1 hK hP 0 2 rfl rfl (iI_in (k := 0) rfl (by decide) (by decide)) dL_law_287 ?_
      refine lv_iload F.1 F.2.1 dL_law_288 (lv_at hl 0 rfl) ?_
      refine k_if_eq F (tgt := 297) dL_law_290 (by decide) (by split <;> first | exact bI_rg _ | decide) (fun c8 => ?_) (fun c8 => ?_)
      · skip
        rw [if_pos hk0] at c8
        refine lv_lconst F.1 F.2.1 (v := 0) dL_law_297 rfl ?_
        refine k_lcmpE F (by rw [cl0, hu hk0, c8]; exact i64_0) dL_law_298 ?_
        refine k_if_eq F (tgt := 304) dL_law_299 (by decide) (by decide) (fun _ => ?_) (fun h9 => absurd rfl h9)
        refine lv_goto (tgt := 1395) F.1 F.2.1 dL_law_304 (by decide) ?_
        have hI2 : Iv (if kTel σ ((xs (5 * N + 1)).toInt) ((xs (5 * N + 2)).toInt) = 0 then sTel σ ((xs (5 * N + 1)).toInt) ((xs (5 * N + 2)).toInt) (0) else σ) n k (N + 1) := by
          by_cases h0 : kTel σ ((xs (5 * N + 1)).toInt) ((xs (5 * N + 2)).toInt) = 0
          · rw [if_pos h0]; exact Iv_up (Iv_tel hI _ _ _) (by omega)
          · rw [if_neg h0]; exact Iv_up hI (by omega)
        refine W.widen (k := cells + 8) (n := slots + 200) (by omega) (by omega) ?_
        exact kk u P (kTel σ ((xs (5 * N + 1)).toInt) ((xs (5 * N + 2)).toInt)) (if kTel σ ((xs (5 * N + 1)).toInt) ((xs (5 * N + 2)).toInt) = 0 then sTel σ ((xs (5 * N + 1)).toInt) ((xs (5 * N + 2)).toInt) (0) else σ) n k H locs ls hI2 hP hD hS (lv_sub hl [2, 3, 4, 5, 6] rfl)
      · skip
        rw [if_pos hk0] at c8
        have c8 := (bI_01 _).resolve_left c8
        refine lv_lconst F.1 F.2.1 (v := 1) dL_law_293 rfl ?_
        refine lv_goto (tgt := 298) F.1 F.2.1 dL_law_294 (by decide) ?_
        refine k_lcmpE F (by rw [cl0, hu hk0, c8]; exact i64_1) dL_law_298 ?_
        refine k_if_eq F (tgt := 304) dL_law_299 (by decide) (by decide) (fun _ => ?_) (fun h9 => absurd rfl h9)
        refine lv_goto (tgt := 1395) F.1 F.2.1 dL_law_304 (by decide) ?_
        have hI2 : Iv (if kTel σ ((xs (5 * N + 1)).toInt) ((xs (5 * N + 2)).toInt) = 0 then sTel σ ((xs (5 * N + 1)).toInt) ((xs (5 * N + 2)).toInt) (0) else σ) n k (N + 1) := by
          by_cases h0 : kTel σ ((xs (5 * N + 1)).toInt) ((xs (5 * N + 2)).toInt) = 0
          · rw [if_pos h0]; exact Iv_up (Iv_tel hI _ _ _) (by omega)
          · rw [if_neg h0]; exact Iv_up hI (by omega)
        refine W.widen (k := cells + 8) (n := slots + 200) (by omega) (by omega) ?_
        exact kk u P (kTel σ ((xs (5 * N + 1)).toInt) ((xs (5 * N + 2)).toInt)) (if kTel σ ((xs (5 * N + 1)).toInt) ((xs (5 * N + 2)).toInt) = 0 then sTel σ ((xs (5 * N + 1)).toInt) ((xs (5 * N + 2)).toInt) (0) else σ) n k H locs ls hI2 hP hD hS (lv_sub hl [2, 3, 4, 5, 6] rfl)
  · skip
    refine k_iconst F dL_law_226 ?_
    refine lv_goto (tgt := 231) F.1 F.2.1 dL_law_227 (by decide) ?_
    refine lv_aload_n F.1 F.2.1 dL_law_231 rfl (lv_at hl 3 rfl) ?_
    refine l_callS F (n := 5) (wr := MW G A r0 σ) (W2 := fun u : Nat → Int64 => oC G o u ++ CW G B P (if kTel σ ((xs (5 * N + 1)).toInt) ((xs (5 * N + 2)).toInt) = 0 then sTel σ ((xs (5 * N + 1)).toInt) ((xs (5 * N + 2)).toInt) (1) else σ) k) (mL_tell l hfl G z0 H.size o f B P σ ((xs (5 * N + 1)).toInt) ((xs (5 * N + 2)).toInt) (1) (iI_rg _) (iI_rg _) (Or.inr rfl) hI) gL_law_L_tell rfl rfl rfl (by decide +kernel) ⟨Nat.le_trans (Nat.le_of_ble_eq_true rfl) hRf.1, Nat.le_trans (Nat.le_of_ble_eq_true rfl) hRf.2⟩ hK hP hD hz hAz hS hA rfl rfl hl.1 (Nat.le_of_ble_eq_true rfl) dL_law_232 ⟨by omega, by omega⟩ (fun r u H locs hpost hP hD hS => ?_)
    obtain ⟨rfl, hu⟩ := hpost
    have hKr : -2147483648 ≤ kTel σ ((xs (5 * N + 1)).toInt) ((xs (5 * N + 2)).toInt) ∧ kTel σ ((xs (5 * N + 1)).toInt) ((xs (5 * N + 2)).toInt) < 2147483648 := by
      unfold kTel
      (repeat' split) <;> omega
    refine lv_istore (lv' := [(5, .int (iI (kTel σ ((xs (5 * N + 1)).toInt) ((xs (5 * N + 2)).toInt)))), (0, .ref b), (1, .ref (B 5)), (2, .ref (A 0)), (3, .ref o), (4, .int (iI ((5 * N : Nat) : Int)))]) F.1 F.2.1 dL_law_235 hl (by decide) rfl (fun ls hl => ?_)
    refine lv_aload_n F.1 F.2.1 dL_law_237 rfl (lv_at hl 3 rfl) ?_
    refine lv_aload_n F.1 F.2.1 dL_law_238 rfl (lv_at hl 1 rfl) ?_
    refine lv_iload F.1 F.2.1 dL_law_239 (lv_at hl 5 rfl) ?_
    refine k_iconst F dL_law_241 ?_
    refine k_iadd F rfl dL_law_242 ?_
    refine k_sld F hX hbl hbA hS (5 * N + 1) (by omega) (by omega) hL dL_law_243 ?_
    refine lv_aload_n F.1 F.2.1 dL_law_244 rfl (lv_at hl 1 rfl) ?_
    refine lv_iload F.1 F.2.1 dL_law_245 (lv_at hl 5 rfl) ?_
    refine k_iconst F dL_law_247 ?_
    refine k_iadd F rfl dL_law_248 ?_
    refine k_sld F hX hbl hbA hS (5 * N + 2) (by omega) (by omega) hL dL_law_249 ?_
    refine lv_aload_n F.1 F.2.1 dL_law_250 rfl (lv_at hl 1 rfl) ?_
    refine lv_iload F.1 F.2.1 dL_law_251 (lv_at hl 5 rfl) ?_
    refine k_iconst F dL_law_253 ?_
    refine k_iadd F rfl dL_law_254 ?_
    refine k_sld F hX hbl hbA hS (5 * N + 3) (by omega) (by omega) hL dL_law_255 ?_
    refine k_if_eq F (tgt := 263) dL_law_256 (by decide) (iI_rg _) (fun h9 => absurd h9 c9) (fun _ => ?_)
    refine k_iconst F dL_law_259 ?_
    refine lv_goto (tgt := 264) F.1 F.2.1 dL_law_260 (by decide) ?_
    refine wr_V F (n := 3) (w := MW G A r0 σ) (w' := MW G A (kTel σ ((xs (5 * N + 1)).toInt) ((xs (5 * N + 2)).toInt)) (if kTel σ ((xs (5 * N + 1)).toInt) ((xs (5 * N + 2)).toInt) = 0 then sTel σ ((xs (5 * N + 1)).toInt) ((xs (5 * N + 2)).toInt) (1) else σ)) (wr := (oC G o u ++ CW G B P (if kTel σ ((xs (5 * N + 1)).toInt) ((xs (5 * N + 2)).toInt) = 0 then sTel σ ((xs (5 * N + 1)).toInt) ((xs (5 * N + 2)).toInt) (1) else σ) k)) (ws2 := (oC G o u ++ CW G B P (if kTel σ ((xs (5 * N + 1)).toInt) ((xs (5 * N + 2)).toInt) = 0 then sTel σ ((xs (5 * N + 1)).toInt) ((xs (5 * N + 2)).toInt) (1) else σ) k) ++ MW G A (kTel σ ((xs (5 * N + 1)).toInt) ((xs (5 * N + 2)).toInt)) (if kTel σ ((xs (5 * N + 1)).toInt) ((xs (5 * N + 2)).toInt) = 0 then sTel σ ((xs (5 * N + 1)).toInt) ((xs (5 * N + 2)).toInt) (1) else σ)) (mX3_tell l G H.size A r0 σ ((xs (5 * N + 1)).toInt) ((xs (5 * N + 2)).toInt) (1) (iI_rg _) (iI_rg _) (Or.inr rfl) hI) gL_law_X3_tell rfl rfl rfl (by decide +kernel) ⟨Nat.le_trans (Nat.le_of_ble_eq_true rfl) hRf.1, Nat.le_trans (Nat.le_of_ble_eq_true rfl) hRf.2⟩ hK hP hD hS hA List.perm_append_comm List.perm_append_comm rfl (ci := 3) (q0 := 0) rfl rfl rfl rfl hl.1 (Nat.le_of_ble_eq_true rfl) dL_law_264 ⟨by omega, by omega⟩ (fun H locs hP hD hS => ?_)
    refine lv_istore (lv' := [(6, .int (iI (if kTel σ ((xs (5 * N + 1)).toInt) ((xs (5 * N + 2)).toInt) = 0 then bI (thr (σ 6 0 ((xs (5 * N + 1)).toInt).toNat) ((xs (5 * N + 2)).toInt) = true) else 0))), (5, .int (iI (kTel σ ((xs (5 * N + 1)).toInt) ((xs (5 * N + 2)).toInt)))), (0, .ref b), (1, .ref (B 5)), (2, .ref (A 0)), (3, .ref o), (4, .int (iI ((5 * N : Nat) : Int)))]) F.1 F.2.1 dL_law_267 hl (by decide) rfl (fun ls hl => ?_)
    refine lv_aload_n F.1 F.2.1 dL_law_269 rfl (lv_at hl 4 rfl) ?_
    refine rd_V F (n := 0) (w0 := []) (mX3_thrown l G A (kTel σ ((xs (5 * N + 1)).toInt) ((xs (5 * N + 2)).toInt)) (if kTel σ ((xs (5 * N + 1)).toInt) ((xs (5 * N + 2)).toInt) = 0 then sTel σ ((xs (5 * N + 1)).toInt) ((xs (5 * N + 2)).toInt) (1) else σ)) gL_law_X3_thrown rfl rfl rfl (by decide +kernel) ⟨Nat.le_trans (Nat.le_of_ble_eq_true rfl) hRf.1, Nat.le_trans (Nat.le_of_ble_eq_true rfl) hRf.2⟩ hK (gP_app.mp hP).2 (ci := 3) (q0 := 0) rfl rfl rfl rfl hl.1 (Nat.le_of_ble_eq_true rfl) dL_law_270 ⟨by omega, by omega⟩ ?_
    refine lv_iload F.1 F.2.1 dL_law_273 (lv_at hl 1 rfl) ?_
    refine k_icmp_eq F (tgt := 280) dL_law_275 (by decide) hKr hKr (fun _ => ?_) (fun h9 => absurd rfl h9)
    refine lv_iload F.1 F.2.1 dL_law_280 (lv_at hl 1 rfl) ?_
    refine k_if_ne F (tgt := 304) dL_law_282 (by decide) hKr (fun hk0 => ?_) (fun hk0 => ?_)
    · skip
      refine lv_goto (tgt := 1395) F.1 F.2.1 dL_law_304 (by decide) ?_
      have hI2 : Iv (if kTel σ ((xs (5 * N + 1)).toInt) ((xs (5 * N + 2)).toInt) = 0 then sTel σ ((xs (5 * N + 1)).toInt) ((xs (5 * N + 2)).toInt) (1) else σ) n k (N + 1) := by
        by_cases h0 : kTel σ ((xs (5 * N + 1)).toInt) ((xs (5 * N + 2)).toInt) = 0
        · rw [if_pos h0]; exact Iv_up (Iv_tel hI _ _ _) (by omega)
        · rw [if_neg h0]; exact Iv_up hI (by omega)
      refine W.widen (k := cells + 8) (n := slots + 200) (by omega) (by omega) ?_
      exact kk u P (kTel σ ((xs (5 * N + 1)).toInt) ((xs (5 * N + 2)).toInt)) (if kTel σ ((xs (5 * N + 1)).toInt) ((xs (5 * N + 2)).toInt) = 0 then sTel σ ((xs (5 * N + 1)).toInt) ((xs (5 * N + 2)).toInt) (1) else σ) n k H locs ls hI2 hP hD hS (lv_sub hl [2, 3, 4, 5, 6] rfl)
    · skip
      refine lv_aload_n F.1 F.2.1 dL_law_285 rfl (lv_at hl 5 rfl) ?_
      refine k_iconst F dL_law_286 ?_
      refine va_lald F.1 F.2.1 hK hP 0 2 rfl rfl (iI_in (k := 0) rfl (by decide) (by decide)) dL_law_287 ?_
      refine lv_iload F.1 F.2.1 dL_law_288 (lv_at hl 0 rfl) ?_
      refine k_if_eq F (tgt := 297) dL_law_290 (by decide) (by split <;> first | exact bI_rg _ | decide) (fun c8 => ?_) (fun c8 => ?_)
      · skip
        rw [if_pos hk0] at c8
        refine lv_lconst F.1 F.2.1 (v := 0) dL_law_297 rfl ?_
        refine k_lcmpE F (by rw [cl0, hu hk0, c8]; exact i64_0) dL_law_298 ?_
        refine k_if_eq F (tgt := 304) dL_law_299 (by decide) (by decide) (fun _ => ?_) (fun h9 => absurd rfl h9)
        refine lv_goto (tgt := 1395) F.1 F.2.1 dL_law_304 (by decide) ?_
        have hI2 : Iv (if kTel σ ((xs (5 * N + 1)).toInt) ((xs (5 * N + 2)).toInt) = 0 then sTel σ ((xs (5 * N + 1)).toInt) ((xs (5 * N + 2)).toInt) (1) else σ) n k (N + 1) := by
          by_cases h0 : kTel σ ((xs (5 * N + 1)).toInt) ((xs (5 * N + 2)).toInt) = 0
          · rw [if_pos h0]; exact Iv_up (Iv_tel hI _ _ _) (by omega)
          · rw [if_neg h0]; exact Iv_up hI (by omega)
        refine W.widen (k := cells + 8) (n := slots + 200) (by omega) (by omega) ?_
        exact kk u P (kTel σ ((xs (5 * N + 1)).toInt) ((xs (5 * N + 2)).toInt)) (if kTel σ ((xs (5 * N + 1)).toInt) ((xs (5 * N + 2)).toInt) = 0 then sTel σ ((xs (5 * N + 1)).toInt) ((xs (5 * N + 2)).toInt) (1) else σ) n k H locs ls hI2 hP hD hS (lv_sub hl [2, 3, 4, 5, 6] rfl)
      · skip
        rw [if_pos hk0] at c8
        have c8 := (bI_01 _).resolve_left c8
        refine lv_lconst F.1 F.2.1 (v := 1) dL_law_293 rfl ?_
        refine lv_goto (tgt := 298) F.1 F.2.1 dL_law_294 (by decide) ?_
        refine k_lcmpE F (by rw [cl0, hu hk0, c8]; exact i64_1) dL_law_298 ?_
        refine k_if_eq F (tgt := 304) dL_law_299 (by decide) (by decide) (fun _ => ?_) (fun h9 => absurd rfl h9)
        refine lv_goto (tgt := 1395) F.1 F.2.1 dL_law_304 (by decide) ?_
        have hI2 : Iv (if kTel σ ((xs (5 * N + 1)).toInt) ((xs (5 * N + 2)).toInt) = 0 then sTel σ ((xs (5 * N + 1)).toInt) ((xs (5 * N + 2)).toInt) (1) else σ) n k (N + 1) := by
          by_cases h0 : kTel σ ((xs (5 * N + 1)).toInt) ((xs (5 * N + 2)).toInt) = 0
          · rw [if_pos h0]; exact Iv_up (Iv_tel hI _ _ _) (by omega)
          · rw [if_neg h0]; exact Iv_up hI (by omega)
        refine W.widen (k := cells + 8) (n := slots + 200) (by omega) (by omega) ?_
        exact kk u P (kTel σ ((xs (5 * N + 1)).toInt) ((xs (5 * N + 2)).toInt)) (if kTel σ ((xs (5 * N + 1)).toInt) ((xs (5 * N + 2)).toInt) = 0 then sTel σ ((xs (5 * N + 1)).toInt) ((xs (5 * N + 2)).toInt) (1) else σ) n k H locs ls hI2 hP hD hS (lv_sub hl [2, 3, 4, 5, 6] rfl)

set_option maxHeartbeats 8000000 in
set_option maxRecDepth 100000 in
theorem law_change {p : Program} {l : Launch} {e : Env} {R : Room} {s : State} {m : MethodId} {args : Array Value} {below : List Frame} {meth : Method} {c : Code} {Q : State → Prop} {AA : Nat → Prop} (F : CallFix p m c cL_law 7 s args wsL_law RL) (hfl : l.stackTraces = false) (hRf : 12 ≤ R.frames ∧ 400 ≤ R.locals) {G : gT} {B A : Nat → Nat} {o b L z0 : Nat} {xs : Nat → Int32} (hX : va_X b L xs s s.heap) (hbl : b < s.heap.size) (hbA : ¬ AA b) (hL : L ≤ 2560) (hK : gK G s) (hz : lz z0 s) (hAz : ∀ q, AA q → z0 ≤ q) (hA : ∀ q, s.heap.size ≤ q → AA q) (N : Nat) (hN : 5 * N + 5 ≤ L)
    {H : Heap} {locs : List Loc} {cells slots : Nat} (hc : cells + 8 ≤ R.cells ∧ slots + 200 ≤ R.slots) (f : Nat → Int64) (P : Nat → Nat → Nat) (r0 : Int) (σ : Sg) {n k : Nat} (hI : Iv σ n k N) (hP : gP G ((oC G o f ++ CW G B P σ k) ++ MW G A r0 σ) H) (hD : va_D AA ((oC G o f ++ CW G B P σ k) ++ MW G A r0 σ)) (hS : va_S AA s.heap H locs) {ls : Array Slot} (hl : lv_has ls 7 [(0, .ref b), (1, .ref (B 5)), (2, .ref (A 0)), (3, .ref o), (4, .int (iI ((5 * N : Nat) : Int)))])
    (kk : ∀ (f' : Nat → Int64) (P' : Nat → Nat → Nat) (r' : Int) (σ' : Sg) (n' k' : Nat) (H1 : Heap) (locs1 : List Loc) (ls1 : Array Slot), Iv σ' n' k' (N + 1) → gP G ((oC G o f' ++ CW G B P' σ' k') ++ MW G A r' σ') H1 → va_D AA ((oC G o f' ++ CW G B P' σ' k') ++ MW G A r' σ') → va_S AA s.heap H1 locs1 → lv_has ls1 7 [(0, .ref b), (1, .ref (B 5)), (2, .ref (A 0)), (3, .ref o), (4, .int (iI ((5 * N : Nat) : Int)))] → W p l e R s m args below meth c H1 locs1 (cells + 8) (slots + 200) Q (F0 m 1395 ls1 [])) : W p l e R s m args below meth c H locs cells slots Q (F0 m 307 ls []) := by
  have hN5 : N ≤ 512 := by omega
  refine lv_aload_n F.1 F.2.1 dL_law_307 rfl (lv_at hl 1 rfl) ?_
  refine lv_aload_n F.1 F.2.1 dL_law_308 rfl (lv_at hl 0 rfl) ?_
  refine lv_iload F.1 F.2.1 dL_law_309 (lv_at hl 4 rfl) ?_
  refine k_iconst F dL_law_311 ?_
  refine k_iadd F rfl dL_law_312 ?_
  refine k_sld F hX hbl hbA hS (5 * N + 1) (by omega) (by omega) hL dL_law_313 ?_
  refine lv_aload_n F.1 F.2.1 dL_law_314 rfl (lv_at hl 0 rfl) ?_
  refine lv_iload F.1 F.2.1 dL_law_315 (lv_at hl 4 rfl) ?_
  refine k_iconst F dL_law_317 ?_
  refine k_iadd F rfl dL_law_318 ?_
  refine k_sld F hX hbl hbA hS (5 * N + 2) (by omega) (by omega) hL dL_law_319 ?_
  refine lv_aload_n F.1 F.2.1 dL_law_320 rfl (lv_at hl 3 rfl) ?_
  refine l_callS F (n := 4) (wr := MW G A r0 σ) (W2 := fun u : Nat → Int64 => oC G o u ++ CW G B P (if kChg σ ((xs (5 * N + 1)).toInt) ((xs (5 * N + 2)).toInt) = 0 then su σ 3 0 ((xs (5 * N + 1)).toInt).toNat ((xs (5 * N + 2)).toInt) else σ) k) (mL_change l hfl G z0 H.size o f B P σ ((xs (5 * N + 1)).toInt) ((xs (5 * N + 2)).toInt) (iI_rg _) (iI_rg _) hI) gL_law_L_change rfl rfl rfl (by decide +kernel) ⟨Nat.le_trans (Nat.le_of_ble_eq_true rfl) hRf.1, Nat.le_trans (Nat.le_of_ble_eq_true rfl) hRf.2⟩ hK hP hD hz hAz hS hA rfl rfl hl.1 (Nat.le_of_ble_eq_true rfl) dL_law_321 ⟨by omega, by omega⟩ (fun r u H locs hpost hP hD hS => ?_)
  obtain ⟨rfl, hu⟩ := hpost
  have hKr : -2147483648 ≤ kChg σ ((xs (5 * N + 1)).toInt) ((xs (5 * N + 2)).toInt) ∧ kChg σ ((xs (5 * N + 1)).toInt) ((xs (5 * N + 2)).toInt) < 2147483648 := by
    unfold kChg
    (repeat' split) <;> omega
  refine lv_istore (lv' := [(5, .int (iI (kChg σ ((xs (5 * N + 1)).toInt) ((xs (5 * N + 2)).toInt)))), (0, .ref b), (1, .ref (B 5)), (2, .ref (A 0)), (3, .ref o), (4, .int (iI ((5 * N : Nat) : Int)))]) F.1 F.2.1 dL_law_324 hl (by decide) rfl (fun ls hl => ?_)
  refine lv_aload_n F.1 F.2.1 dL_law_326 rfl (lv_at hl 3 rfl) ?_
  refine lv_aload_n F.1 F.2.1 dL_law_327 rfl (lv_at hl 1 rfl) ?_
  refine lv_iload F.1 F.2.1 dL_law_328 (lv_at hl 5 rfl) ?_
  refine k_iconst F dL_law_330 ?_
  refine k_iadd F rfl dL_law_331 ?_
  refine k_sld F hX hbl hbA hS (5 * N + 1) (by omega) (by omega) hL dL_law_332 ?_
  refine lv_aload_n F.1 F.2.1 dL_law_333 rfl (lv_at hl 1 rfl) ?_
  refine lv_iload F.1 F.2.1 dL_law_334 (lv_at hl 5 rfl) ?_
  refine k_iconst F dL_law_336 ?_
  refine k_iadd F rfl dL_law_337 ?_
  refine k_sld F hX hbl hbA hS (5 * N + 2) (by omega) (by omega) hL dL_law_338 ?_
  refine wr_V F (n := 2) (w := MW G A r0 σ) (w' := MW G A (kChg σ ((xs (5 * N + 1)).toInt) ((xs (5 * N + 2)).toInt)) (if kChg σ ((xs (5 * N + 1)).toInt) ((xs (5 * N + 2)).toInt) = 0 then su σ 3 0 ((xs (5 * N + 1)).toInt).toNat ((xs (5 * N + 2)).toInt) else σ)) (wr := (oC G o u ++ CW G B P (if kChg σ ((xs (5 * N + 1)).toInt) ((xs (5 * N + 2)).toInt) = 0 then su σ 3 0 ((xs (5 * N + 1)).toInt).toNat ((xs (5 * N + 2)).toInt) else σ) k)) (ws2 := (oC G o u ++ CW G B P (if kChg σ ((xs (5 * N + 1)).toInt) ((xs (5 * N + 2)).toInt) = 0 then su σ 3 0 ((xs (5 * N + 1)).toInt).toNat ((xs (5 * N + 2)).toInt) else σ) k) ++ MW G A (kChg σ ((xs (5 * N + 1)).toInt) ((xs (5 * N + 2)).toInt)) (if kChg σ ((xs (5 * N + 1)).toInt) ((xs (5 * N + 2)).toInt) = 0 then su σ 3 0 ((xs (5 * N + 1)).toInt).toNat ((xs (5 * N + 2)).toInt) else σ)) (mX3_change l G H.size A r0 σ ((xs (5 * N + 1)).toInt) ((xs (5 * N + 2)).toInt) (iI_rg _) (iI_rg _) hI) gL_law_X3_change rfl rfl rfl (by decide +kernel) ⟨Nat.le_trans (Nat.le_of_ble_eq_true rfl) hRf.1, Nat.le_trans (Nat.le_of_ble_eq_true rfl) hRf.2⟩ hK hP hD hS hA List.perm_append_comm List.perm_append_comm rfl (ci := 3) (q0 := 0) rfl rfl rfl rfl hl.1 (Nat.le_of_ble_eq_true rfl) dL_law_339 ⟨by omega, by omega⟩ (fun H locs hP hD hS => ?_)
  refine lv_istore (lv' := [(6, .int (iI (if kChg σ ((xs (5 * N + 1)).toInt) ((xs (5 * N + 2)).toInt) = 0 then σ 3 0 ((xs (5 * N + 1)).toInt).toNat else 0))), (5, .int (iI (kChg σ ((xs (5 * N + 1)).toInt) ((xs (5 * N + 2)).toInt)))), (0, .ref b), (1, .ref (B 5)), (2, .ref (A 0)), (3, .ref o), (4, .int (iI ((5 * N : Nat) : Int)))]) F.1 F.2.1 dL_law_342 hl (by decide) rfl (fun ls hl => ?_)
  refine lv_aload_n F.1 F.2.1 dL_law_344 rfl (lv_at hl 4 rfl) ?_
  refine rd_V F (n := 0) (w0 := []) (mX3_thrown l G A (kChg σ ((xs (5 * N + 1)).toInt) ((xs (5 * N + 2)).toInt)) (if kChg σ ((xs (5 * N + 1)).toInt) ((xs (5 * N + 2)).toInt) = 0 then su σ 3 0 ((xs (5 * N + 1)).toInt).toNat ((xs (5 * N + 2)).toInt) else σ)) gL_law_X3_thrown rfl rfl rfl (by decide +kernel) ⟨Nat.le_trans (Nat.le_of_ble_eq_true rfl) hRf.1, Nat.le_trans (Nat.le_of_ble_eq_true rfl) hRf.2⟩ hK (gP_app.mp hP).2 (ci := 3) (q0 := 0) rfl rfl rfl rfl hl.1 (Nat.le_of_ble_eq_true rfl) dL_law_345 ⟨by omega, by omega⟩ ?_
  refine lv_iload F.1 F.2.1 dL_law_348 (lv_at hl 1 rfl) ?_
  refine k_icmp_eq F (tgt := 355) dL_law_350 (by decide) hKr hKr (fun _ => ?_) (fun h9 => absurd rfl h9)
  refine lv_iload F.1 F.2.1 dL_law_355 (lv_at hl 1 rfl) ?_
  refine k_if_ne F (tgt := 372) dL_law_357 (by decide) hKr (fun hk0 => ?_) (fun hk0 => ?_)
  · skip
    refine lv_goto (tgt := 1395) F.1 F.2.1 dL_law_372 (by decide) ?_
    have hI2 : Iv (if kChg σ ((xs (5 * N + 1)).toInt) ((xs (5 * N + 2)).toInt) = 0 then su σ 3 0 ((xs (5 * N + 1)).toInt).toNat ((xs (5 * N + 2)).toInt) else σ) n k (N + 1) := by
      by_cases h0 : kChg σ ((xs (5 * N + 1)).toInt) ((xs (5 * N + 2)).toInt) = 0
      · rw [if_pos h0]; exact Iv_up (Iv_chg hI h0) (by omega)
      · rw [if_neg h0]; exact Iv_up hI (by omega)
    refine W.widen (k := cells + 8) (n := slots + 200) (by omega) (by omega) ?_
    exact kk u P (kChg σ ((xs (5 * N + 1)).toInt) ((xs (5 * N + 2)).toInt)) (if kChg σ ((xs (5 * N + 1)).toInt) ((xs (5 * N + 2)).toInt) = 0 then su σ 3 0 ((xs (5 * N + 1)).toInt).toNat ((xs (5 * N + 2)).toInt) else σ) n k H locs ls hI2 hP hD hS (lv_sub hl [2, 3, 4, 5, 6] rfl)
  · skip
    refine lv_aload_n F.1 F.2.1 dL_law_360 rfl (lv_at hl 5 rfl) ?_
    refine k_iconst F dL_law_361 ?_
    refine va_lald F.1 F.2.1 hK hP 0 2 rfl rfl (iI_in (k := 0) rfl (by decide) (by decide)) dL_law_362 ?_
    refine lv_iload F.1 F.2.1 dL_law_363 (lv_at hl 0 rfl) ?_
    refine lv_i2l F.1 F.2.1 dL_law_365 rfl ?_
    refine k_lcmpE F (by rw [cl0, hu hk0, if_pos hk0]) dL_law_366 ?_
    refine k_if_eq F (tgt := 372) dL_law_367 (by decide) (by decide) (fun _ => ?_) (fun h9 => absurd rfl h9)
    refine lv_goto (tgt := 1395) F.1 F.2.1 dL_law_372 (by decide) ?_
    have hI2 : Iv (if kChg σ ((xs (5 * N + 1)).toInt) ((xs (5 * N + 2)).toInt) = 0 then su σ 3 0 ((xs (5 * N + 1)).toInt).toNat ((xs (5 * N + 2)).toInt) else σ) n k (N + 1) := by
      by_cases h0 : kChg σ ((xs (5 * N + 1)).toInt) ((xs (5 * N + 2)).toInt) = 0
      · rw [if_pos h0]; exact Iv_up (Iv_chg hI h0) (by omega)
      · rw [if_neg h0]; exact Iv_up hI (by omega)
    refine W.widen (k := cells + 8) (n := slots + 200) (by omega) (by omega) ?_
    exact kk u P (kChg σ ((xs (5 * N + 1)).toInt) ((xs (5 * N + 2)).toInt)) (if kChg σ ((xs (5 * N + 1)).toInt) ((xs (5 * N + 2)).toInt) = 0 then su σ 3 0 ((xs (5 * N + 1)).toInt).toNat ((xs (5 * N + 2)).toInt) else σ) n k H locs ls hI2 hP hD hS (lv_sub hl [2, 3, 4, 5, 6] rfl)

set_option maxHeartbeats 8000000 in
set_option maxRecDepth 100000 in
theorem law_range {p : Program} {l : Launch} {e : Env} {R : Room} {s : State} {m : MethodId} {args : Array Value} {below : List Frame} {meth : Method} {c : Code} {Q : State → Prop} {AA : Nat → Prop} (F : CallFix p m c cL_law 7 s args wsL_law RL) (hfl : l.stackTraces = false) (hRf : 12 ≤ R.frames ∧ 400 ≤ R.locals) {G : gT} {B A : Nat → Nat} {o b L z0 : Nat} {xs : Nat → Int32} (hX : va_X b L xs s s.heap) (hbl : b < s.heap.size) (hbA : ¬ AA b) (hL : L ≤ 2560) (hK : gK G s) (hz : lz z0 s) (hAz : ∀ q, AA q → z0 ≤ q) (hA : ∀ q, s.heap.size ≤ q → AA q) (N : Nat) (hN : 5 * N + 5 ≤ L)
    {H : Heap} {locs : List Loc} {cells slots : Nat} (hc : cells + 8 ≤ R.cells ∧ slots + 200 ≤ R.slots) (f : Nat → Int64) (P : Nat → Nat → Nat) (r0 : Int) (σ : Sg) {n k : Nat} (hI : Iv σ n k N) (hP : gP G ((oC G o f ++ CW G B P σ k) ++ MW G A r0 σ) H) (hD : va_D AA ((oC G o f ++ CW G B P σ k) ++ MW G A r0 σ)) (hS : va_S AA s.heap H locs) {ls : Array Slot} (hl : lv_has ls 7 [(0, .ref b), (1, .ref (B 5)), (2, .ref (A 0)), (3, .ref o), (4, .int (iI ((5 * N : Nat) : Int)))])
    (kk : ∀ (f' : Nat → Int64) (P' : Nat → Nat → Nat) (r' : Int) (σ' : Sg) (n' k' : Nat) (H1 : Heap) (locs1 : List Loc) (ls1 : Array Slot), Iv σ' n' k' (N + 1) → gP G ((oC G o f' ++ CW G B P' σ' k') ++ MW G A r' σ') H1 → va_D AA ((oC G o f' ++ CW G B P' σ' k') ++ MW G A r' σ') → va_S AA s.heap H1 locs1 → lv_has ls1 7 [(0, .ref b), (1, .ref (B 5)), (2, .ref (A 0)), (3, .ref o), (4, .int (iI ((5 * N : Nat) : Int)))] → W p l e R s m args below meth c H1 locs1 (cells + 8) (slots + 200) Q (F0 m 1395 ls1 [])) : W p l e R s m args below meth c H locs cells slots Q (F0 m 375 ls []) := by
  have hN5 : N ≤ 512 := by omega
  refine lv_aload_n F.1 F.2.1 dL_law_375 rfl (lv_at hl 1 rfl) ?_
  refine lv_aload_n F.1 F.2.1 dL_law_376 rfl (lv_at hl 0 rfl) ?_
  refine lv_iload F.1 F.2.1 dL_law_377 (lv_at hl 4 rfl) ?_
  refine k_iconst F dL_law_379 ?_
  refine k_iadd F rfl dL_law_380 ?_
  refine k_sld F hX hbl hbA hS (5 * N + 1) (by omega) (by omega) hL dL_law_381 ?_
  refine lv_aload_n F.1 F.2.1 dL_law_382 rfl (lv_at hl 0 rfl) ?_
  refine lv_iload F.1 F.2.1 dL_law_383 (lv_at hl 4 rfl) ?_
  refine k_iconst F dL_law_385 ?_
  refine k_iadd F rfl dL_law_386 ?_
  refine k_sld F hX hbl hbA hS (5 * N + 2) (by omega) (by omega) hL dL_law_387 ?_
  refine lv_aload_n F.1 F.2.1 dL_law_388 rfl (lv_at hl 3 rfl) ?_
  refine l_callS F (n := 4) (wr := MW G A r0 σ) (W2 := fun u : Nat → Int64 => oC G o u ++ CW G B P σ k) (mL_range l hfl G z0 H.size o f B P σ ((xs (5 * N + 1)).toInt) ((xs (5 * N + 2)).toInt) (iI_rg _) (iI_rg _) hI) gL_law_L_range rfl rfl rfl (by decide +kernel) ⟨Nat.le_trans (Nat.le_of_ble_eq_true rfl) hRf.1, Nat.le_trans (Nat.le_of_ble_eq_true rfl) hRf.2⟩ hK hP hD hz hAz hS hA rfl rfl hl.1 (Nat.le_of_ble_eq_true rfl) dL_law_389 ⟨by omega, by omega⟩ (fun r u H locs hpost hP hD hS => ?_)
  obtain ⟨rfl, hu⟩ := hpost
  have hKr : -2147483648 ≤ kRng ((xs (5 * N + 1)).toInt) ((xs (5 * N + 2)).toInt) ∧ kRng ((xs (5 * N + 1)).toInt) ((xs (5 * N + 2)).toInt) < 2147483648 := by
    unfold kRng
    (repeat' split) <;> omega
  refine lv_istore (lv' := [(5, .int (iI (kRng ((xs (5 * N + 1)).toInt) ((xs (5 * N + 2)).toInt)))), (0, .ref b), (1, .ref (B 5)), (2, .ref (A 0)), (3, .ref o), (4, .int (iI ((5 * N : Nat) : Int)))]) F.1 F.2.1 dL_law_392 hl (by decide) rfl (fun ls hl => ?_)
  refine lv_aload_n F.1 F.2.1 dL_law_394 rfl (lv_at hl 3 rfl) ?_
  refine lv_aload_n F.1 F.2.1 dL_law_395 rfl (lv_at hl 1 rfl) ?_
  refine lv_iload F.1 F.2.1 dL_law_396 (lv_at hl 5 rfl) ?_
  refine k_iconst F dL_law_398 ?_
  refine k_iadd F rfl dL_law_399 ?_
  refine k_sld F hX hbl hbA hS (5 * N + 1) (by omega) (by omega) hL dL_law_400 ?_
  refine lv_aload_n F.1 F.2.1 dL_law_401 rfl (lv_at hl 1 rfl) ?_
  refine lv_iload F.1 F.2.1 dL_law_402 (lv_at hl 5 rfl) ?_
  refine k_iconst F dL_law_404 ?_
  refine k_iadd F rfl dL_law_405 ?_
  refine k_sld F hX hbl hbA hS (5 * N + 2) (by omega) (by omega) hL dL_law_406 ?_
  refine wr_V F (n := 2) (w := MW G A r0 σ) (w' := MW G A (kRng ((xs (5 * N + 1)).toInt) ((xs (5 * N + 2)).toInt)) σ) (wr := (oC G o u ++ CW G B P σ k)) (ws2 := (oC G o u ++ CW G B P σ k) ++ MW G A (kRng ((xs (5 * N + 1)).toInt) ((xs (5 * N + 2)).toInt)) σ) (mX3_range l G H.size A r0 σ ((xs (5 * N + 1)).toInt) ((xs (5 * N + 2)).toInt) (iI_rg _) (iI_rg _) hI) gL_law_X3_range rfl rfl rfl (by decide +kernel) ⟨Nat.le_trans (Nat.le_of_ble_eq_true rfl) hRf.1, Nat.le_trans (Nat.le_of_ble_eq_true rfl) hRf.2⟩ hK hP hD hS hA List.perm_append_comm List.perm_append_comm rfl (ci := 3) (q0 := 0) rfl rfl rfl rfl hl.1 (Nat.le_of_ble_eq_true rfl) dL_law_407 ⟨by omega, by omega⟩ (fun H locs hP hD hS => ?_)
  refine lv_istore (lv' := [(6, .int (iI (if kRng ((xs (5 * N + 1)).toInt) ((xs (5 * N + 2)).toInt) = 0 then vRng σ ((xs (5 * N + 1)).toInt) ((xs (5 * N + 2)).toInt) n else 0))), (5, .int (iI (kRng ((xs (5 * N + 1)).toInt) ((xs (5 * N + 2)).toInt)))), (0, .ref b), (1, .ref (B 5)), (2, .ref (A 0)), (3, .ref o), (4, .int (iI ((5 * N : Nat) : Int)))]) F.1 F.2.1 dL_law_410 hl (by decide) rfl (fun ls hl => ?_)
  refine lv_aload_n F.1 F.2.1 dL_law_412 rfl (lv_at hl 4 rfl) ?_
  refine rd_V F (n := 0) (w0 := []) (mX3_thrown l G A (kRng ((xs (5 * N + 1)).toInt) ((xs (5 * N + 2)).toInt)) σ) gL_law_X3_thrown rfl rfl rfl (by decide +kernel) ⟨Nat.le_trans (Nat.le_of_ble_eq_true rfl) hRf.1, Nat.le_trans (Nat.le_of_ble_eq_true rfl) hRf.2⟩ hK (gP_app.mp hP).2 (ci := 3) (q0 := 0) rfl rfl rfl rfl hl.1 (Nat.le_of_ble_eq_true rfl) dL_law_413 ⟨by omega, by omega⟩ ?_
  refine lv_iload F.1 F.2.1 dL_law_416 (lv_at hl 1 rfl) ?_
  refine k_icmp_eq F (tgt := 423) dL_law_418 (by decide) hKr hKr (fun _ => ?_) (fun h9 => absurd rfl h9)
  refine lv_iload F.1 F.2.1 dL_law_423 (lv_at hl 1 rfl) ?_
  refine k_if_ne F (tgt := 440) dL_law_425 (by decide) hKr (fun hk0 => ?_) (fun hk0 => ?_)
  · skip
    refine lv_goto (tgt := 1395) F.1 F.2.1 dL_law_440 (by decide) ?_
    have hI2 := Iv_up hI (by omega)
    refine W.widen (k := cells + 8) (n := slots + 200) (by omega) (by omega) ?_
    exact kk u P (kRng ((xs (5 * N + 1)).toInt) ((xs (5 * N + 2)).toInt)) σ n k H locs ls hI2 hP hD hS (lv_sub hl [2, 3, 4, 5, 6] rfl)
  · skip
    refine lv_aload_n F.1 F.2.1 dL_law_428 rfl (lv_at hl 5 rfl) ?_
    refine k_iconst F dL_law_429 ?_
    refine va_lald F.1 F.2.1 hK hP 0 2 rfl rfl (iI_in (k := 0) rfl (by decide) (by decide)) dL_law_430 ?_
    refine lv_iload F.1 F.2.1 dL_law_431 (lv_at hl 0 rfl) ?_
    refine lv_i2l F.1 F.2.1 dL_law_433 rfl ?_
    refine k_lcmpE F (by rw [cl0, hu hk0, if_pos hk0]) dL_law_434 ?_
    refine k_if_eq F (tgt := 440) dL_law_435 (by decide) (by decide) (fun _ => ?_) (fun h9 => absurd rfl h9)
    refine lv_goto (tgt := 1395) F.1 F.2.1 dL_law_440 (by decide) ?_
    have hI2 := Iv_up hI (by omega)
    refine W.widen (k := cells + 8) (n := slots + 200) (by omega) (by omega) ?_
    exact kk u P (kRng ((xs (5 * N + 1)).toInt) ((xs (5 * N + 2)).toInt)) σ n k H locs ls hI2 hP hD hS (lv_sub hl [2, 3, 4, 5, 6] rfl)

set_option maxHeartbeats 8000000 in
set_option maxRecDepth 100000 in
theorem law_chord {p : Program} {l : Launch} {e : Env} {R : Room} {s : State} {m : MethodId} {args : Array Value} {below : List Frame} {meth : Method} {c : Code} {Q : State → Prop} {AA : Nat → Prop} (F : CallFix p m c cL_law 7 s args wsL_law RL) (hfl : l.stackTraces = false) (hRf : 12 ≤ R.frames ∧ 400 ≤ R.locals) {G : gT} {B A : Nat → Nat} {o b L z0 : Nat} {xs : Nat → Int32} (hX : va_X b L xs s s.heap) (hbl : b < s.heap.size) (hbA : ¬ AA b) (hL : L ≤ 2560) (hK : gK G s) (hz : lz z0 s) (hAz : ∀ q, AA q → z0 ≤ q) (hA : ∀ q, s.heap.size ≤ q → AA q) (N : Nat) (hN : 5 * N + 5 ≤ L)
    {H : Heap} {locs : List Loc} {cells slots : Nat} (hc : cells + 8 ≤ R.cells ∧ slots + 200 ≤ R.slots) (f : Nat → Int64) (P : Nat → Nat → Nat) (r0 : Int) (σ : Sg) {n k : Nat} (hI : Iv σ n k N) (hP : gP G ((oC G o f ++ CW G B P σ k) ++ MW G A r0 σ) H) (hD : va_D AA ((oC G o f ++ CW G B P σ k) ++ MW G A r0 σ)) (hS : va_S AA s.heap H locs) {ls : Array Slot} (hl : lv_has ls 7 [(0, .ref b), (1, .ref (B 5)), (2, .ref (A 0)), (3, .ref o), (4, .int (iI ((5 * N : Nat) : Int)))])
    (kk : ∀ (f' : Nat → Int64) (P' : Nat → Nat → Nat) (r' : Int) (σ' : Sg) (n' k' : Nat) (H1 : Heap) (locs1 : List Loc) (ls1 : Array Slot), Iv σ' n' k' (N + 1) → gP G ((oC G o f' ++ CW G B P' σ' k') ++ MW G A r' σ') H1 → va_D AA ((oC G o f' ++ CW G B P' σ' k') ++ MW G A r' σ') → va_S AA s.heap H1 locs1 → lv_has ls1 7 [(0, .ref b), (1, .ref (B 5)), (2, .ref (A 0)), (3, .ref o), (4, .int (iI ((5 * N : Nat) : Int)))] → W p l e R s m args below meth c H1 locs1 (cells + 8) (slots + 200) Q (F0 m 1395 ls1 [])) : W p l e R s m args below meth c H locs cells slots Q (F0 m 443 ls []) := by
  have hN5 : N ≤ 512 := by omega
  refine lv_aload_n F.1 F.2.1 dL_law_443 rfl (lv_at hl 1 rfl) ?_
  refine lv_aload_n F.1 F.2.1 dL_law_444 rfl (lv_at hl 0 rfl) ?_
  refine lv_iload F.1 F.2.1 dL_law_445 (lv_at hl 4 rfl) ?_
  refine k_iconst F dL_law_447 ?_
  refine k_iadd F rfl dL_law_448 ?_
  refine k_sld F hX hbl hbA hS (5 * N + 1) (by omega) (by omega) hL dL_law_449 ?_
  refine lv_aload_n F.1 F.2.1 dL_law_450 rfl (lv_at hl 0 rfl) ?_
  refine lv_iload F.1 F.2.1 dL_law_451 (lv_at hl 4 rfl) ?_
  refine k_iconst F dL_law_453 ?_
  refine k_iadd F rfl dL_law_454 ?_
  refine k_sld F hX hbl hbA hS (5 * N + 2) (by omega) (by omega) hL dL_law_455 ?_
  refine lv_aload_n F.1 F.2.1 dL_law_456 rfl (lv_at hl 0 rfl) ?_
  refine lv_iload F.1 F.2.1 dL_law_457 (lv_at hl 4 rfl) ?_
  refine k_iconst F dL_law_459 ?_
  refine k_iadd F rfl dL_law_460 ?_
  refine k_sld F hX hbl hbA hS (5 * N + 3) (by omega) (by omega) hL dL_law_461 ?_
  refine lv_aload_n F.1 F.2.1 dL_law_462 rfl (lv_at hl 0 rfl) ?_
  refine lv_iload F.1 F.2.1 dL_law_463 (lv_at hl 4 rfl) ?_
  refine k_iconst F dL_law_465 ?_
  refine k_iadd F rfl dL_law_466 ?_
  refine k_sld F hX hbl hbA hS (5 * N + 4) (by omega) (by omega) hL dL_law_467 ?_
  refine lv_aload_n F.1 F.2.1 dL_law_468 rfl (lv_at hl 3 rfl) ?_
  refine l_callS F (n := 6) (wr := MW G A r0 σ) (W2 := fun u : Nat → Int64 => oC G o u ++ CW G B P (if kChd σ ((xs (5 * N + 1)).toInt) ((xs (5 * N + 2)).toInt) ((xs (5 * N + 3)).toInt) ((xs (5 * N + 4)).toInt) = 0 then sChd σ ((xs (5 * N + 1)).toInt) ((xs (5 * N + 2)).toInt) ((xs (5 * N + 3)).toInt) ((xs (5 * N + 4)).toInt) else σ) k) (mL_chord l hfl G z0 H.size o f B P σ ((xs (5 * N + 1)).toInt) ((xs (5 * N + 2)).toInt) ((xs (5 * N + 3)).toInt) ((xs (5 * N + 4)).toInt) (iI_rg _) (iI_rg _) (iI_rg _) (iI_rg _) hI) gL_law_L_chord rfl rfl rfl (by decide +kernel) ⟨Nat.le_trans (Nat.le_of_ble_eq_true rfl) hRf.1, Nat.le_trans (Nat.le_of_ble_eq_true rfl) hRf.2⟩ hK hP hD hz hAz hS hA rfl rfl hl.1 (Nat.le_of_ble_eq_true rfl) dL_law_469 ⟨by omega, by omega⟩ (fun r u H locs hpost hP hD hS => ?_)
  obtain ⟨rfl, hu⟩ := hpost
  have hKr : -2147483648 ≤ kChd σ ((xs (5 * N + 1)).toInt) ((xs (5 * N + 2)).toInt) ((xs (5 * N + 3)).toInt) ((xs (5 * N + 4)).toInt) ∧ kChd σ ((xs (5 * N + 1)).toInt) ((xs (5 * N + 2)).toInt) ((xs (5 * N + 3)).toInt) ((xs (5 * N + 4)).toInt) < 2147483648 := by
    unfold kChd
    (repeat' split) <;> omega
  refine lv_istore (lv' := [(5, .int (iI (kChd σ ((xs (5 * N + 1)).toInt) ((xs (5 * N + 2)).toInt) ((xs (5 * N + 3)).toInt) ((xs (5 * N + 4)).toInt)))), (0, .ref b), (1, .ref (B 5)), (2, .ref (A 0)), (3, .ref o), (4, .int (iI ((5 * N : Nat) : Int)))]) F.1 F.2.1 dL_law_472 hl (by decide) rfl (fun ls hl => ?_)
  refine lv_aload_n F.1 F.2.1 dL_law_474 rfl (lv_at hl 3 rfl) ?_
  refine lv_aload_n F.1 F.2.1 dL_law_475 rfl (lv_at hl 1 rfl) ?_
  refine lv_iload F.1 F.2.1 dL_law_476 (lv_at hl 5 rfl) ?_
  refine k_iconst F dL_law_478 ?_
  refine k_iadd F rfl dL_law_479 ?_
  refine k_sld F hX hbl hbA hS (5 * N + 1) (by omega) (by omega) hL dL_law_480 ?_
  refine lv_aload_n F.1 F.2.1 dL_law_481 rfl (lv_at hl 1 rfl) ?_
  refine lv_iload F.1 F.2.1 dL_law_482 (lv_at hl 5 rfl) ?_
  refine k_iconst F dL_law_484 ?_
  refine k_iadd F rfl dL_law_485 ?_
  refine k_sld F hX hbl hbA hS (5 * N + 2) (by omega) (by omega) hL dL_law_486 ?_
  refine lv_aload_n F.1 F.2.1 dL_law_487 rfl (lv_at hl 1 rfl) ?_
  refine lv_iload F.1 F.2.1 dL_law_488 (lv_at hl 5 rfl) ?_
  refine k_iconst F dL_law_490 ?_
  refine k_iadd F rfl dL_law_491 ?_
  refine k_sld F hX hbl hbA hS (5 * N + 3) (by omega) (by omega) hL dL_law_492 ?_
  refine lv_aload_n F.1 F.2.1 dL_law_493 rfl (lv_at hl 1 rfl) ?_
  refine lv_iload F.1 F.2.1 dL_law_494 (lv_at hl 5 rfl) ?_
  refine k_iconst F dL_law_496 ?_
  refine k_iadd F rfl dL_law_497 ?_
  refine k_sld F hX hbl hbA hS (5 * N + 4) (by omega) (by omega) hL dL_law_498 ?_
  refine wr_V F (n := 4) (w := MW G A r0 σ) (w' := MW G A (kChd σ ((xs (5 * N + 1)).toInt) ((xs (5 * N + 2)).toInt) ((xs (5 * N + 3)).toInt) ((xs (5 * N + 4)).toInt)) (if kChd σ ((xs (5 * N + 1)).toInt) ((xs (5 * N + 2)).toInt) ((xs (5 * N + 3)).toInt) ((xs (5 * N + 4)).toInt) = 0 then sChd σ ((xs (5 * N + 1)).toInt) ((xs (5 * N + 2)).toInt) ((xs (5 * N + 3)).toInt) ((xs (5 * N + 4)).toInt) else σ)) (wr := (oC G o u ++ CW G B P (if kChd σ ((xs (5 * N + 1)).toInt) ((xs (5 * N + 2)).toInt) ((xs (5 * N + 3)).toInt) ((xs (5 * N + 4)).toInt) = 0 then sChd σ ((xs (5 * N + 1)).toInt) ((xs (5 * N + 2)).toInt) ((xs (5 * N + 3)).toInt) ((xs (5 * N + 4)).toInt) else σ) k)) (ws2 := (oC G o u ++ CW G B P (if kChd σ ((xs (5 * N + 1)).toInt) ((xs (5 * N + 2)).toInt) ((xs (5 * N + 3)).toInt) ((xs (5 * N + 4)).toInt) = 0 then sChd σ ((xs (5 * N + 1)).toInt) ((xs (5 * N + 2)).toInt) ((xs (5 * N + 3)).toInt) ((xs (5 * N + 4)).toInt) else σ) k) ++ MW G A (kChd σ ((xs (5 * N + 1)).toInt) ((xs (5 * N + 2)).toInt) ((xs (5 * N + 3)).toInt) ((xs (5 * N + 4)).toInt)) (if kChd σ ((xs (5 * N + 1)).toInt) ((xs (5 * N + 2)).toInt) ((xs (5 * N + 3)).toInt) ((xs (5 * N + 4)).toInt) = 0 then sChd σ ((xs (5 * N + 1)).toInt) ((xs (5 * N + 2)).toInt) ((xs (5 * N + 3)).toInt) ((xs (5 * N + 4)).toInt) else σ)) (mX3_chord l G H.size A r0 σ ((xs (5 * N + 1)).toInt) ((xs (5 * N + 2)).toInt) ((xs (5 * N + 3)).toInt) ((xs (5 * N + 4)).toInt) (iI_rg _) (iI_rg _) (iI_rg _) (iI_rg _) hI) gL_law_X3_chord rfl rfl rfl (by decide +kernel) ⟨Nat.le_trans (Nat.le_of_ble_eq_true rfl) hRf.1, Nat.le_trans (Nat.le_of_ble_eq_true rfl) hRf.2⟩ hK hP hD hS hA List.perm_append_comm List.perm_append_comm rfl (ci := 3) (q0 := 0) rfl rfl rfl rfl hl.1 (Nat.le_of_ble_eq_true rfl) dL_law_499 ⟨by omega, by omega⟩ (fun H locs hP hD hS => ?_)
  refine lv_istore (lv' := [(6, .int (iI (if kChd σ ((xs (5 * N + 1)).toInt) ((xs (5 * N + 2)).toInt) ((xs (5 * N + 3)).toInt) ((xs (5 * N + 4)).toInt) = 0 then σ 8 (σ 2 0 0).toNat 0 + 1 else 0))), (5, .int (iI (kChd σ ((xs (5 * N + 1)).toInt) ((xs (5 * N + 2)).toInt) ((xs (5 * N + 3)).toInt) ((xs (5 * N + 4)).toInt)))), (0, .ref b), (1, .ref (B 5)), (2, .ref (A 0)), (3, .ref o), (4, .int (iI ((5 * N : Nat) : Int)))]) F.1 F.2.1 dL_law_502 hl (by decide) rfl (fun ls hl => ?_)
  refine lv_aload_n F.1 F.2.1 dL_law_504 rfl (lv_at hl 4 rfl) ?_
  refine rd_V F (n := 0) (w0 := []) (mX3_thrown l G A (kChd σ ((xs (5 * N + 1)).toInt) ((xs (5 * N + 2)).toInt) ((xs (5 * N + 3)).toInt) ((xs (5 * N + 4)).toInt)) (if kChd σ ((xs (5 * N + 1)).toInt) ((xs (5 * N + 2)).toInt) ((xs (5 * N + 3)).toInt) ((xs (5 * N + 4)).toInt) = 0 then sChd σ ((xs (5 * N + 1)).toInt) ((xs (5 * N + 2)).toInt) ((xs (5 * N + 3)).toInt) ((xs (5 * N + 4)).toInt) else σ)) gL_law_X3_thrown rfl rfl rfl (by decide +kernel) ⟨Nat.le_trans (Nat.le_of_ble_eq_true rfl) hRf.1, Nat.le_trans (Nat.le_of_ble_eq_true rfl) hRf.2⟩ hK (gP_app.mp hP).2 (ci := 3) (q0 := 0) rfl rfl rfl rfl hl.1 (Nat.le_of_ble_eq_true rfl) dL_law_505 ⟨by omega, by omega⟩ ?_
  refine lv_iload F.1 F.2.1 dL_law_508 (lv_at hl 1 rfl) ?_
  refine k_icmp_eq F (tgt := 515) dL_law_510 (by decide) hKr hKr (fun _ => ?_) (fun h9 => absurd rfl h9)
  refine lv_iload F.1 F.2.1 dL_law_515 (lv_at hl 1 rfl) ?_
  refine k_if_ne F (tgt := 532) dL_law_517 (by decide) hKr (fun hk0 => ?_) (fun hk0 => ?_)
  · skip
    refine lv_goto (tgt := 1395) F.1 F.2.1 dL_law_532 (by decide) ?_
    have hI2 : Iv (if kChd σ ((xs (5 * N + 1)).toInt) ((xs (5 * N + 2)).toInt) ((xs (5 * N + 3)).toInt) ((xs (5 * N + 4)).toInt) = 0 then sChd σ ((xs (5 * N + 1)).toInt) ((xs (5 * N + 2)).toInt) ((xs (5 * N + 3)).toInt) ((xs (5 * N + 4)).toInt) else σ) n k (N + 1) := by
      by_cases h0 : kChd σ ((xs (5 * N + 1)).toInt) ((xs (5 * N + 2)).toInt) ((xs (5 * N + 3)).toInt) ((xs (5 * N + 4)).toInt) = 0
      · rw [if_pos h0]; exact Iv_up (Iv_chd hI h0) (by omega)
      · rw [if_neg h0]; exact Iv_up hI (by omega)
    refine W.widen (k := cells + 8) (n := slots + 200) (by omega) (by omega) ?_
    exact kk u P (kChd σ ((xs (5 * N + 1)).toInt) ((xs (5 * N + 2)).toInt) ((xs (5 * N + 3)).toInt) ((xs (5 * N + 4)).toInt)) (if kChd σ ((xs (5 * N + 1)).toInt) ((xs (5 * N + 2)).toInt) ((xs (5 * N + 3)).toInt) ((xs (5 * N + 4)).toInt) = 0 then sChd σ ((xs (5 * N + 1)).toInt) ((xs (5 * N + 2)).toInt) ((xs (5 * N + 3)).toInt) ((xs (5 * N + 4)).toInt) else σ) n k H locs ls hI2 hP hD hS (lv_sub hl [2, 3, 4, 5, 6] rfl)
  · skip
    refine lv_aload_n F.1 F.2.1 dL_law_520 rfl (lv_at hl 5 rfl) ?_
    refine k_iconst F dL_law_521 ?_
    refine va_lald F.1 F.2.1 hK hP 0 2 rfl rfl (iI_in (k := 0) rfl (by decide) (by decide)) dL_law_522 ?_
    refine lv_iload F.1 F.2.1 dL_law_523 (lv_at hl 0 rfl) ?_
    refine lv_i2l F.1 F.2.1 dL_law_525 rfl ?_
    refine k_lcmpE F (by rw [cl0, hu hk0, if_pos hk0]) dL_law_526 ?_
    refine k_if_eq F (tgt := 532) dL_law_527 (by decide) (by decide) (fun _ => ?_) (fun h9 => absurd rfl h9)
    refine lv_goto (tgt := 1395) F.1 F.2.1 dL_law_532 (by decide) ?_
    have hI2 : Iv (if kChd σ ((xs (5 * N + 1)).toInt) ((xs (5 * N + 2)).toInt) ((xs (5 * N + 3)).toInt) ((xs (5 * N + 4)).toInt) = 0 then sChd σ ((xs (5 * N + 1)).toInt) ((xs (5 * N + 2)).toInt) ((xs (5 * N + 3)).toInt) ((xs (5 * N + 4)).toInt) else σ) n k (N + 1) := by
      by_cases h0 : kChd σ ((xs (5 * N + 1)).toInt) ((xs (5 * N + 2)).toInt) ((xs (5 * N + 3)).toInt) ((xs (5 * N + 4)).toInt) = 0
      · rw [if_pos h0]; exact Iv_up (Iv_chd hI h0) (by omega)
      · rw [if_neg h0]; exact Iv_up hI (by omega)
    refine W.widen (k := cells + 8) (n := slots + 200) (by omega) (by omega) ?_
    exact kk u P (kChd σ ((xs (5 * N + 1)).toInt) ((xs (5 * N + 2)).toInt) ((xs (5 * N + 3)).toInt) ((xs (5 * N + 4)).toInt)) (if kChd σ ((xs (5 * N + 1)).toInt) ((xs (5 * N + 2)).toInt) ((xs (5 * N + 3)).toInt) ((xs (5 * N + 4)).toInt) = 0 then sChd σ ((xs (5 * N + 1)).toInt) ((xs (5 * N + 2)).toInt) ((xs (5 * N + 3)).toInt) ((xs (5 * N + 4)).toInt) else σ) n k H locs ls hI2 hP hD hS (lv_sub hl [2, 3, 4, 5, 6] rfl)

set_option maxHeartbeats 8000000 in
set_option maxRecDepth 100000 in
theorem law_addPiece {p : Program} {l : Launch} {e : Env} {R : Room} {s : State} {m : MethodId} {args : Array Value} {below : List Frame} {meth : Method} {c : Code} {Q : State → Prop} {AA : Nat → Prop} (F : CallFix p m c cL_law 7 s args wsL_law RL) (hfl : l.stackTraces = false) (hRf : 12 ≤ R.frames ∧ 400 ≤ R.locals) {G : gT} {B A : Nat → Nat} {o b L z0 : Nat} {xs : Nat → Int32} (hX : va_X b L xs s s.heap) (hbl : b < s.heap.size) (hbA : ¬ AA b) (hL : L ≤ 2560) (hK : gK G s) (hz : lz z0 s) (hAz : ∀ q, AA q → z0 ≤ q) (hA : ∀ q, s.heap.size ≤ q → AA q) (N : Nat) (hN : 5 * N + 5 ≤ L)
    {H : Heap} {locs : List Loc} {cells slots : Nat} (hc : cells + 8 ≤ R.cells ∧ slots + 200 ≤ R.slots) (f : Nat → Int64) (P : Nat → Nat → Nat) (r0 : Int) (σ : Sg) {n k : Nat} (hI : Iv σ n k N) (hP : gP G ((oC G o f ++ CW G B P σ k) ++ MW G A r0 σ) H) (hD : va_D AA ((oC G o f ++ CW G B P σ k) ++ MW G A r0 σ)) (hS : va_S AA s.heap H locs) {ls : Array Slot} (hl : lv_has ls 7 [(0, .ref b), (1, .ref (B 5)), (2, .ref (A 0)), (3, .ref o), (4, .int (iI ((5 * N : Nat) : Int)))])
    (kk : ∀ (f' : Nat → Int64) (P' : Nat → Nat → Nat) (r' : Int) (σ' : Sg) (n' k' : Nat) (H1 : Heap) (locs1 : List Loc) (ls1 : Array Slot), Iv σ' n' k' (N + 1) → gP G ((oC G o f' ++ CW G B P' σ' k') ++ MW G A r' σ') H1 → va_D AA ((oC G o f' ++ CW G B P' σ' k') ++ MW G A r' σ') → va_S AA s.heap H1 locs1 → lv_has ls1 7 [(0, .ref b), (1, .ref (B 5)), (2, .ref (A 0)), (3, .ref o), (4, .int (iI ((5 * N : Nat) : Int)))] → W p l e R s m args below meth c H1 locs1 (cells + 8) (slots + 200) Q (F0 m 1395 ls1 [])) : W p l e R s m args below meth c H locs cells slots Q (F0 m 535 ls []) := by
  have hN5 : N ≤ 512 := by omega
  refine lv_aload_n F.1 F.2.1 dL_law_535 rfl (lv_at hl 1 rfl) ?_
  refine lv_aload_n F.1 F.2.1 dL_law_536 rfl (lv_at hl 0 rfl) ?_
  refine lv_iload F.1 F.2.1 dL_law_537 (lv_at hl 4 rfl) ?_
  refine k_iconst F dL_law_539 ?_
  refine k_iadd F rfl dL_law_540 ?_
  refine k_sld F hX hbl hbA hS (5 * N + 1) (by omega) (by omega) hL dL_law_541 ?_
  refine lv_aload_n F.1 F.2.1 dL_law_542 rfl (lv_at hl 3 rfl) ?_
  refine l_callS F (n := 3) (wr := MW G A r0 σ) (W2 := fun u : (Nat → Int64) × (Nat → Nat → Nat) => oC G o u.1 ++ CW G B u.2 (if kPce σ ((xs (5 * N + 1)).toInt) = 0 then sPce σ ((xs (5 * N + 1)).toInt) else σ) (if kPce σ ((xs (5 * N + 1)).toInt) = 0 then k + 1 else k)) (mL_addPiece l hfl G z0 H.size o f B P σ ((xs (5 * N + 1)).toInt) (iI_rg _) hI) gL_law_L_addPiece rfl rfl rfl (by decide +kernel) ⟨Nat.le_trans (Nat.le_of_ble_eq_true rfl) hRf.1, Nat.le_trans (Nat.le_of_ble_eq_true rfl) hRf.2⟩ hK hP hD hz hAz hS hA rfl rfl hl.1 (Nat.le_of_ble_eq_true rfl) dL_law_543 ⟨by omega, by omega⟩ (fun r u H locs hpost hP hD hS => ?_)
  obtain ⟨rfl, hu⟩ := hpost
  have hKr : -2147483648 ≤ kPce σ ((xs (5 * N + 1)).toInt) ∧ kPce σ ((xs (5 * N + 1)).toInt) < 2147483648 := by
    unfold kPce
    (repeat' split) <;> omega
  refine lv_istore (lv' := [(5, .int (iI (kPce σ ((xs (5 * N + 1)).toInt)))), (0, .ref b), (1, .ref (B 5)), (2, .ref (A 0)), (3, .ref o), (4, .int (iI ((5 * N : Nat) : Int)))]) F.1 F.2.1 dL_law_546 hl (by decide) rfl (fun ls hl => ?_)
  refine lv_aload_n F.1 F.2.1 dL_law_548 rfl (lv_at hl 3 rfl) ?_
  refine lv_aload_n F.1 F.2.1 dL_law_549 rfl (lv_at hl 1 rfl) ?_
  refine lv_iload F.1 F.2.1 dL_law_550 (lv_at hl 5 rfl) ?_
  refine k_iconst F dL_law_552 ?_
  refine k_iadd F rfl dL_law_553 ?_
  refine k_sld F hX hbl hbA hS (5 * N + 1) (by omega) (by omega) hL dL_law_554 ?_
  refine wr_V F (n := 1) (w := MW G A r0 σ) (w' := MW G A (kPce σ ((xs (5 * N + 1)).toInt)) (if kPce σ ((xs (5 * N + 1)).toInt) = 0 then sPce σ ((xs (5 * N + 1)).toInt) else σ)) (wr := (oC G o u.1 ++ CW G B u.2 (if kPce σ ((xs (5 * N + 1)).toInt) = 0 then sPce σ ((xs (5 * N + 1)).toInt) else σ) (if kPce σ ((xs (5 * N + 1)).toInt) = 0 then k + 1 else k))) (ws2 := (oC G o u.1 ++ CW G B u.2 (if kPce σ ((xs (5 * N + 1)).toInt) = 0 then sPce σ ((xs (5 * N + 1)).toInt) else σ) (if kPce σ ((xs (5 * N + 1)).toInt) = 0 then k + 1 else k)) ++ MW G A (kPce σ ((xs (5 * N + 1)).toInt)) (if kPce σ ((xs (5 * N + 1)).toInt) = 0 then sPce σ ((xs (5 * N + 1)).toInt) else σ)) (mX3_addPiece l G H.size A r0 σ ((xs (5 * N + 1)).toInt) (iI_rg _) hI) gL_law_X3_addPiece rfl rfl rfl (by decide +kernel) ⟨Nat.le_trans (Nat.le_of_ble_eq_true rfl) hRf.1, Nat.le_trans (Nat.le_of_ble_eq_true rfl) hRf.2⟩ hK hP hD hS hA List.perm_append_comm List.perm_append_comm rfl (ci := 3) (q0 := 0) rfl rfl rfl rfl hl.1 (Nat.le_of_ble_eq_true rfl) dL_law_555 ⟨by omega, by omega⟩ (fun H locs hP hD hS => ?_)
  refine lv_istore (lv' := [(6, .int (iI (if kPce σ ((xs (5 * N + 1)).toInt) = 0 then σ 2 0 0 else 0))), (5, .int (iI (kPce σ ((xs (5 * N + 1)).toInt)))), (0, .ref b), (1, .ref (B 5)), (2, .ref (A 0)), (3, .ref o), (4, .int (iI ((5 * N : Nat) : Int)))]) F.1 F.2.1 dL_law_558 hl (by decide) rfl (fun ls hl => ?_)
  refine lv_aload_n F.1 F.2.1 dL_law_560 rfl (lv_at hl 4 rfl) ?_
  refine rd_V F (n := 0) (w0 := []) (mX3_thrown l G A (kPce σ ((xs (5 * N + 1)).toInt)) (if kPce σ ((xs (5 * N + 1)).toInt) = 0 then sPce σ ((xs (5 * N + 1)).toInt) else σ)) gL_law_X3_thrown rfl rfl rfl (by decide +kernel) ⟨Nat.le_trans (Nat.le_of_ble_eq_true rfl) hRf.1, Nat.le_trans (Nat.le_of_ble_eq_true rfl) hRf.2⟩ hK (gP_app.mp hP).2 (ci := 3) (q0 := 0) rfl rfl rfl rfl hl.1 (Nat.le_of_ble_eq_true rfl) dL_law_561 ⟨by omega, by omega⟩ ?_
  refine lv_iload F.1 F.2.1 dL_law_564 (lv_at hl 1 rfl) ?_
  refine k_icmp_eq F (tgt := 571) dL_law_566 (by decide) hKr hKr (fun _ => ?_) (fun h9 => absurd rfl h9)
  refine lv_iload F.1 F.2.1 dL_law_571 (lv_at hl 1 rfl) ?_
  refine k_if_ne F (tgt := 588) dL_law_573 (by decide) hKr (fun hk0 => ?_) (fun hk0 => ?_)
  · skip
    refine lv_goto (tgt := 1395) F.1 F.2.1 dL_law_588 (by decide) ?_
    have hI2 : Iv (if kPce σ ((xs (5 * N + 1)).toInt) = 0 then sPce σ ((xs (5 * N + 1)).toInt) else σ) n (if kPce σ ((xs (5 * N + 1)).toInt) = 0 then k + 1 else k) (N + 1) := by
      by_cases h0 : kPce σ ((xs (5 * N + 1)).toInt) = 0
      · rw [if_pos h0, if_pos h0]; exact Iv_up (Iv_pce hI h0) (by omega)
      · rw [if_neg h0, if_neg h0]; exact Iv_up hI (by omega)
    refine W.widen (k := cells + 8) (n := slots + 200) (by omega) (by omega) ?_
    exact kk u.1 u.2 (kPce σ ((xs (5 * N + 1)).toInt)) (if kPce σ ((xs (5 * N + 1)).toInt) = 0 then sPce σ ((xs (5 * N + 1)).toInt) else σ) n (if kPce σ ((xs (5 * N + 1)).toInt) = 0 then k + 1 else k) H locs ls hI2 hP hD hS (lv_sub hl [2, 3, 4, 5, 6] rfl)
  · skip
    refine lv_aload_n F.1 F.2.1 dL_law_576 rfl (lv_at hl 5 rfl) ?_
    refine k_iconst F dL_law_577 ?_
    refine va_lald F.1 F.2.1 hK hP 0 2 rfl rfl (iI_in (k := 0) rfl (by decide) (by decide)) dL_law_578 ?_
    refine lv_iload F.1 F.2.1 dL_law_579 (lv_at hl 0 rfl) ?_
    refine lv_i2l F.1 F.2.1 dL_law_581 rfl ?_
    refine k_lcmpE F (by rw [cl0, hu hk0, if_pos hk0]) dL_law_582 ?_
    refine k_if_eq F (tgt := 588) dL_law_583 (by decide) (by decide) (fun _ => ?_) (fun h9 => absurd rfl h9)
    refine lv_goto (tgt := 1395) F.1 F.2.1 dL_law_588 (by decide) ?_
    have hI2 : Iv (if kPce σ ((xs (5 * N + 1)).toInt) = 0 then sPce σ ((xs (5 * N + 1)).toInt) else σ) n (if kPce σ ((xs (5 * N + 1)).toInt) = 0 then k + 1 else k) (N + 1) := by
      by_cases h0 : kPce σ ((xs (5 * N + 1)).toInt) = 0
      · rw [if_pos h0, if_pos h0]; exact Iv_up (Iv_pce hI h0) (by omega)
      · rw [if_neg h0, if_neg h0]; exact Iv_up hI (by omega)
    refine W.widen (k := cells + 8) (n := slots + 200) (by omega) (by omega) ?_
    exact kk u.1 u.2 (kPce σ ((xs (5 * N + 1)).toInt)) (if kPce σ ((xs (5 * N + 1)).toInt) = 0 then sPce σ ((xs (5 * N + 1)).toInt) else σ) n (if kPce σ ((xs (5 * N + 1)).toInt) = 0 then k + 1 else k) H locs ls hI2 hP hD hS (lv_sub hl [2, 3, 4, 5, 6] rfl)

set_option maxHeartbeats 8000000 in
set_option maxRecDepth 100000 in
theorem law_setTone {p : Program} {l : Launch} {e : Env} {R : Room} {s : State} {m : MethodId} {args : Array Value} {below : List Frame} {meth : Method} {c : Code} {Q : State → Prop} {AA : Nat → Prop} (F : CallFix p m c cL_law 7 s args wsL_law RL) (hfl : l.stackTraces = false) (hRf : 12 ≤ R.frames ∧ 400 ≤ R.locals) {G : gT} {B A : Nat → Nat} {o b L z0 : Nat} {xs : Nat → Int32} (hX : va_X b L xs s s.heap) (hbl : b < s.heap.size) (hbA : ¬ AA b) (hL : L ≤ 2560) (hK : gK G s) (hz : lz z0 s) (hAz : ∀ q, AA q → z0 ≤ q) (hA : ∀ q, s.heap.size ≤ q → AA q) (N : Nat) (hN : 5 * N + 5 ≤ L)
    {H : Heap} {locs : List Loc} {cells slots : Nat} (hc : cells + 8 ≤ R.cells ∧ slots + 200 ≤ R.slots) (f : Nat → Int64) (P : Nat → Nat → Nat) (r0 : Int) (σ : Sg) {n k : Nat} (hI : Iv σ n k N) (hP : gP G ((oC G o f ++ CW G B P σ k) ++ MW G A r0 σ) H) (hD : va_D AA ((oC G o f ++ CW G B P σ k) ++ MW G A r0 σ)) (hS : va_S AA s.heap H locs) {ls : Array Slot} (hl : lv_has ls 7 [(0, .ref b), (1, .ref (B 5)), (2, .ref (A 0)), (3, .ref o), (4, .int (iI ((5 * N : Nat) : Int)))])
    (kk : ∀ (f' : Nat → Int64) (P' : Nat → Nat → Nat) (r' : Int) (σ' : Sg) (n' k' : Nat) (H1 : Heap) (locs1 : List Loc) (ls1 : Array Slot), Iv σ' n' k' (N + 1) → gP G ((oC G o f' ++ CW G B P' σ' k') ++ MW G A r' σ') H1 → va_D AA ((oC G o f' ++ CW G B P' σ' k') ++ MW G A r' σ') → va_S AA s.heap H1 locs1 → lv_has ls1 7 [(0, .ref b), (1, .ref (B 5)), (2, .ref (A 0)), (3, .ref o), (4, .int (iI ((5 * N : Nat) : Int)))] → W p l e R s m args below meth c H1 locs1 (cells + 8) (slots + 200) Q (F0 m 1395 ls1 [])) : W p l e R s m args below meth c H locs cells slots Q (F0 m 591 ls []) := by
  have hN5 : N ≤ 512 := by omega
  refine lv_aload_n F.1 F.2.1 dL_law_591 rfl (lv_at hl 1 rfl) ?_
  refine lv_aload_n F.1 F.2.1 dL_law_592 rfl (lv_at hl 0 rfl) ?_
  refine lv_iload F.1 F.2.1 dL_law_593 (lv_at hl 4 rfl) ?_
  refine k_iconst F dL_law_595 ?_
  refine k_iadd F rfl dL_law_596 ?_
  refine k_sld F hX hbl hbA hS (5 * N + 1) (by omega) (by omega) hL dL_law_597 ?_
  refine lv_aload_n F.1 F.2.1 dL_law_598 rfl (lv_at hl 0 rfl) ?_
  refine lv_iload F.1 F.2.1 dL_law_599 (lv_at hl 4 rfl) ?_
  refine k_iconst F dL_law_601 ?_
  refine k_iadd F rfl dL_law_602 ?_
  refine k_sld F hX hbl hbA hS (5 * N + 2) (by omega) (by omega) hL dL_law_603 ?_
  refine lv_aload_n F.1 F.2.1 dL_law_604 rfl (lv_at hl 0 rfl) ?_
  refine lv_iload F.1 F.2.1 dL_law_605 (lv_at hl 4 rfl) ?_
  refine k_iconst F dL_law_607 ?_
  refine k_iadd F rfl dL_law_608 ?_
  refine k_sld F hX hbl hbA hS (5 * N + 3) (by omega) (by omega) hL dL_law_609 ?_
  refine lv_aload_n F.1 F.2.1 dL_law_610 rfl (lv_at hl 0 rfl) ?_
  refine lv_iload F.1 F.2.1 dL_law_611 (lv_at hl 4 rfl) ?_
  refine k_iconst F dL_law_613 ?_
  refine k_iadd F rfl dL_law_614 ?_
  refine k_sld F hX hbl hbA hS (5 * N + 4) (by omega) (by omega) hL dL_law_615 ?_
  refine lv_aload_n F.1 F.2.1 dL_law_616 rfl (lv_at hl 3 rfl) ?_
  refine l_callS F (n := 6) (wr := MW G A r0 σ) (W2 := fun u : Nat → Int64 => oC G o u ++ CW G B P (if kSet σ ((xs (5 * N + 1)).toInt) ((xs (5 * N + 2)).toInt) ((xs (5 * N + 3)).toInt) ((xs (5 * N + 4)).toInt) = 0 then sSet σ ((xs (5 * N + 1)).toInt) ((xs (5 * N + 2)).toInt) ((xs (5 * N + 3)).toInt) ((xs (5 * N + 4)).toInt) else σ) k) (mL_setTone l hfl G z0 H.size o f B P σ ((xs (5 * N + 1)).toInt) ((xs (5 * N + 2)).toInt) ((xs (5 * N + 3)).toInt) ((xs (5 * N + 4)).toInt) (iI_rg _) (iI_rg _) (iI_rg _) (iI_rg _) hI) gL_law_L_setTone rfl rfl rfl (by decide +kernel) ⟨Nat.le_trans (Nat.le_of_ble_eq_true rfl) hRf.1, Nat.le_trans (Nat.le_of_ble_eq_true rfl) hRf.2⟩ hK hP hD hz hAz hS hA rfl rfl hl.1 (Nat.le_of_ble_eq_true rfl) dL_law_617 ⟨by omega, by omega⟩ (fun r u H locs hpost hP hD hS => ?_)
  obtain ⟨rfl, hu⟩ := hpost
  have hKr : -2147483648 ≤ kSet σ ((xs (5 * N + 1)).toInt) ((xs (5 * N + 2)).toInt) ((xs (5 * N + 3)).toInt) ((xs (5 * N + 4)).toInt) ∧ kSet σ ((xs (5 * N + 1)).toInt) ((xs (5 * N + 2)).toInt) ((xs (5 * N + 3)).toInt) ((xs (5 * N + 4)).toInt) < 2147483648 := by
    unfold kSet
    (repeat' split) <;> omega
  refine lv_istore (lv' := [(5, .int (iI (kSet σ ((xs (5 * N + 1)).toInt) ((xs (5 * N + 2)).toInt) ((xs (5 * N + 3)).toInt) ((xs (5 * N + 4)).toInt)))), (0, .ref b), (1, .ref (B 5)), (2, .ref (A 0)), (3, .ref o), (4, .int (iI ((5 * N : Nat) : Int)))]) F.1 F.2.1 dL_law_620 hl (by decide) rfl (fun ls hl => ?_)
  refine lv_aload_n F.1 F.2.1 dL_law_622 rfl (lv_at hl 3 rfl) ?_
  refine lv_aload_n F.1 F.2.1 dL_law_623 rfl (lv_at hl 1 rfl) ?_
  refine lv_iload F.1 F.2.1 dL_law_624 (lv_at hl 5 rfl) ?_
  refine k_iconst F dL_law_626 ?_
  refine k_iadd F rfl dL_law_627 ?_
  refine k_sld F hX hbl hbA hS (5 * N + 1) (by omega) (by omega) hL dL_law_628 ?_
  refine lv_aload_n F.1 F.2.1 dL_law_629 rfl (lv_at hl 1 rfl) ?_
  refine lv_iload F.1 F.2.1 dL_law_630 (lv_at hl 5 rfl) ?_
  refine k_iconst F dL_law_632 ?_
  refine k_iadd F rfl dL_law_633 ?_
  refine k_sld F hX hbl hbA hS (5 * N + 2) (by omega) (by omega) hL dL_law_634 ?_
  refine lv_aload_n F.1 F.2.1 dL_law_635 rfl (lv_at hl 1 rfl) ?_
  refine lv_iload F.1 F.2.1 dL_law_636 (lv_at hl 5 rfl) ?_
  refine k_iconst F dL_law_638 ?_
  refine k_iadd F rfl dL_law_639 ?_
  refine k_sld F hX hbl hbA hS (5 * N + 3) (by omega) (by omega) hL dL_law_640 ?_
  refine lv_aload_n F.1 F.2.1 dL_law_641 rfl (lv_at hl 1 rfl) ?_
  refine lv_iload F.1 F.2.1 dL_law_642 (lv_at hl 5 rfl) ?_
  refine k_iconst F dL_law_644 ?_
  refine k_iadd F rfl dL_law_645 ?_
  refine k_sld F hX hbl hbA hS (5 * N + 4) (by omega) (by omega) hL dL_law_646 ?_
  refine wr_V F (n := 4) (w := MW G A r0 σ) (w' := MW G A (kSet σ ((xs (5 * N + 1)).toInt) ((xs (5 * N + 2)).toInt) ((xs (5 * N + 3)).toInt) ((xs (5 * N + 4)).toInt)) (if kSet σ ((xs (5 * N + 1)).toInt) ((xs (5 * N + 2)).toInt) ((xs (5 * N + 3)).toInt) ((xs (5 * N + 4)).toInt) = 0 then sSet σ ((xs (5 * N + 1)).toInt) ((xs (5 * N + 2)).toInt) ((xs (5 * N + 3)).toInt) ((xs (5 * N + 4)).toInt) else σ)) (wr := (oC G o u ++ CW G B P (if kSet σ ((xs (5 * N + 1)).toInt) ((xs (5 * N + 2)).toInt) ((xs (5 * N + 3)).toInt) ((xs (5 * N + 4)).toInt) = 0 then sSet σ ((xs (5 * N + 1)).toInt) ((xs (5 * N + 2)).toInt) ((xs (5 * N + 3)).toInt) ((xs (5 * N + 4)).toInt) else σ) k)) (ws2 := (oC G o u ++ CW G B P (if kSet σ ((xs (5 * N + 1)).toInt) ((xs (5 * N + 2)).toInt) ((xs (5 * N + 3)).toInt) ((xs (5 * N + 4)).toInt) = 0 then sSet σ ((xs (5 * N + 1)).toInt) ((xs (5 * N + 2)).toInt) ((xs (5 * N + 3)).toInt) ((xs (5 * N + 4)).toInt) else σ) k) ++ MW G A (kSet σ ((xs (5 * N + 1)).toInt) ((xs (5 * N + 2)).toInt) ((xs (5 * N + 3)).toInt) ((xs (5 * N + 4)).toInt)) (if kSet σ ((xs (5 * N + 1)).toInt) ((xs (5 * N + 2)).toInt) ((xs (5 * N + 3)).toInt) ((xs (5 * N + 4)).toInt) = 0 then sSet σ ((xs (5 * N + 1)).toInt) ((xs (5 * N + 2)).toInt) ((xs (5 * N + 3)).toInt) ((xs (5 * N + 4)).toInt) else σ)) (mX3_setTone l G H.size A r0 σ ((xs (5 * N + 1)).toInt) ((xs (5 * N + 2)).toInt) ((xs (5 * N + 3)).toInt) ((xs (5 * N + 4)).toInt) (iI_rg _) (iI_rg _) (iI_rg _) (iI_rg _) hI) gL_law_X3_setTone rfl rfl rfl (by decide +kernel) ⟨Nat.le_trans (Nat.le_of_ble_eq_true rfl) hRf.1, Nat.le_trans (Nat.le_of_ble_eq_true rfl) hRf.2⟩ hK hP hD hS hA List.perm_append_comm List.perm_append_comm rfl (ci := 3) (q0 := 0) rfl rfl rfl rfl hl.1 (Nat.le_of_ble_eq_true rfl) dL_law_647 ⟨by omega, by omega⟩ (fun H locs hP hD hS => ?_)
  refine lv_istore (lv' := [(6, .int (iI (if kSet σ ((xs (5 * N + 1)).toInt) ((xs (5 * N + 2)).toInt) ((xs (5 * N + 3)).toInt) ((xs (5 * N + 4)).toInt) = 0 then σ 7 ((xs (5 * N + 1)).toInt).toNat (4 * ((xs (5 * N + 2)).toInt).toNat + ((xs (5 * N + 3)).toInt).toNat) else 0))), (5, .int (iI (kSet σ ((xs (5 * N + 1)).toInt) ((xs (5 * N + 2)).toInt) ((xs (5 * N + 3)).toInt) ((xs (5 * N + 4)).toInt)))), (0, .ref b), (1, .ref (B 5)), (2, .ref (A 0)), (3, .ref o), (4, .int (iI ((5 * N : Nat) : Int)))]) F.1 F.2.1 dL_law_650 hl (by decide) rfl (fun ls hl => ?_)
  refine lv_aload_n F.1 F.2.1 dL_law_652 rfl (lv_at hl 4 rfl) ?_
  refine rd_V F (n := 0) (w0 := []) (mX3_thrown l G A (kSet σ ((xs (5 * N + 1)).toInt) ((xs (5 * N + 2)).toInt) ((xs (5 * N + 3)).toInt) ((xs (5 * N + 4)).toInt)) (if kSet σ ((xs (5 * N + 1)).toInt) ((xs (5 * N + 2)).toInt) ((xs (5 * N + 3)).toInt) ((xs (5 * N + 4)).toInt) = 0 then sSet σ ((xs (5 * N + 1)).toInt) ((xs (5 * N + 2)).toInt) ((xs (5 * N + 3)).toInt) ((xs (5 * N + 4)).toInt) else σ)) gL_law_X3_thrown rfl rfl rfl (by decide +kernel) ⟨Nat.le_trans (Nat.le_of_ble_eq_true rfl) hRf.1, Nat.le_trans (Nat.le_of_ble_eq_true rfl) hRf.2⟩ hK (gP_app.mp hP).2 (ci := 3) (q0 := 0) rfl rfl rfl rfl hl.1 (Nat.le_of_ble_eq_true rfl) dL_law_653 ⟨by omega, by omega⟩ ?_
  refine lv_iload F.1 F.2.1 dL_law_656 (lv_at hl 1 rfl) ?_
  refine k_icmp_eq F (tgt := 663) dL_law_658 (by decide) hKr hKr (fun _ => ?_) (fun h9 => absurd rfl h9)
  refine lv_iload F.1 F.2.1 dL_law_663 (lv_at hl 1 rfl) ?_
  refine k_if_ne F (tgt := 680) dL_law_665 (by decide) hKr (fun hk0 => ?_) (fun hk0 => ?_)
  · skip
    refine lv_goto (tgt := 1395) F.1 F.2.1 dL_law_680 (by decide) ?_
    have hI2 : Iv (if kSet σ ((xs (5 * N + 1)).toInt) ((xs (5 * N + 2)).toInt) ((xs (5 * N + 3)).toInt) ((xs (5 * N + 4)).toInt) = 0 then sSet σ ((xs (5 * N + 1)).toInt) ((xs (5 * N + 2)).toInt) ((xs (5 * N + 3)).toInt) ((xs (5 * N + 4)).toInt) else σ) n k (N + 1) := by
      by_cases h0 : kSet σ ((xs (5 * N + 1)).toInt) ((xs (5 * N + 2)).toInt) ((xs (5 * N + 3)).toInt) ((xs (5 * N + 4)).toInt) = 0
      · rw [if_pos h0]; exact Iv_up (Iv_set hI h0) (by omega)
      · rw [if_neg h0]; exact Iv_up hI (by omega)
    refine W.widen (k := cells + 8) (n := slots + 200) (by omega) (by omega) ?_
    exact kk u P (kSet σ ((xs (5 * N + 1)).toInt) ((xs (5 * N + 2)).toInt) ((xs (5 * N + 3)).toInt) ((xs (5 * N + 4)).toInt)) (if kSet σ ((xs (5 * N + 1)).toInt) ((xs (5 * N + 2)).toInt) ((xs (5 * N + 3)).toInt) ((xs (5 * N + 4)).toInt) = 0 then sSet σ ((xs (5 * N + 1)).toInt) ((xs (5 * N + 2)).toInt) ((xs (5 * N + 3)).toInt) ((xs (5 * N + 4)).toInt) else σ) n k H locs ls hI2 hP hD hS (lv_sub hl [2, 3, 4, 5, 6] rfl)
  · skip
    refine lv_aload_n F.1 F.2.1 dL_law_668 rfl (lv_at hl 5 rfl) ?_
    refine k_iconst F dL_law_669 ?_
    refine va_lald F.1 F.2.1 hK hP 0 2 rfl rfl (iI_in (k := 0) rfl (by decide) (by decide)) dL_law_670 ?_
    refine lv_iload F.1 F.2.1 dL_law_671 (lv_at hl 0 rfl) ?_
    refine lv_i2l F.1 F.2.1 dL_law_673 rfl ?_
    refine k_lcmpE F (by rw [cl0, hu hk0, if_pos hk0]) dL_law_674 ?_
    refine k_if_eq F (tgt := 680) dL_law_675 (by decide) (by decide) (fun _ => ?_) (fun h9 => absurd rfl h9)
    refine lv_goto (tgt := 1395) F.1 F.2.1 dL_law_680 (by decide) ?_
    have hI2 : Iv (if kSet σ ((xs (5 * N + 1)).toInt) ((xs (5 * N + 2)).toInt) ((xs (5 * N + 3)).toInt) ((xs (5 * N + 4)).toInt) = 0 then sSet σ ((xs (5 * N + 1)).toInt) ((xs (5 * N + 2)).toInt) ((xs (5 * N + 3)).toInt) ((xs (5 * N + 4)).toInt) else σ) n k (N + 1) := by
      by_cases h0 : kSet σ ((xs (5 * N + 1)).toInt) ((xs (5 * N + 2)).toInt) ((xs (5 * N + 3)).toInt) ((xs (5 * N + 4)).toInt) = 0
      · rw [if_pos h0]; exact Iv_up (Iv_set hI h0) (by omega)
      · rw [if_neg h0]; exact Iv_up hI (by omega)
    refine W.widen (k := cells + 8) (n := slots + 200) (by omega) (by omega) ?_
    exact kk u P (kSet σ ((xs (5 * N + 1)).toInt) ((xs (5 * N + 2)).toInt) ((xs (5 * N + 3)).toInt) ((xs (5 * N + 4)).toInt)) (if kSet σ ((xs (5 * N + 1)).toInt) ((xs (5 * N + 2)).toInt) ((xs (5 * N + 3)).toInt) ((xs (5 * N + 4)).toInt) = 0 then sSet σ ((xs (5 * N + 1)).toInt) ((xs (5 * N + 2)).toInt) ((xs (5 * N + 3)).toInt) ((xs (5 * N + 4)).toInt) else σ) n k H locs ls hI2 hP hD hS (lv_sub hl [2, 3, 4, 5, 6] rfl)

set_option maxHeartbeats 8000000 in
set_option maxRecDepth 100000 in
theorem law_faultsAt {p : Program} {l : Launch} {e : Env} {R : Room} {s : State} {m : MethodId} {args : Array Value} {below : List Frame} {meth : Method} {c : Code} {Q : State → Prop} {AA : Nat → Prop} (F : CallFix p m c cL_law 7 s args wsL_law RL) (hfl : l.stackTraces = false) (hRf : 12 ≤ R.frames ∧ 400 ≤ R.locals) {G : gT} {B A : Nat → Nat} {o b L z0 : Nat} {xs : Nat → Int32} (hX : va_X b L xs s s.heap) (hbl : b < s.heap.size) (hbA : ¬ AA b) (hL : L ≤ 2560) (hK : gK G s) (hz : lz z0 s) (hAz : ∀ q, AA q → z0 ≤ q) (hA : ∀ q, s.heap.size ≤ q → AA q) (N : Nat) (hN : 5 * N + 5 ≤ L)
    {H : Heap} {locs : List Loc} {cells slots : Nat} (hc : cells + 8 ≤ R.cells ∧ slots + 200 ≤ R.slots) (f : Nat → Int64) (P : Nat → Nat → Nat) (r0 : Int) (σ : Sg) {n k : Nat} (hI : Iv σ n k N) (hP : gP G ((oC G o f ++ CW G B P σ k) ++ MW G A r0 σ) H) (hD : va_D AA ((oC G o f ++ CW G B P σ k) ++ MW G A r0 σ)) (hS : va_S AA s.heap H locs) {ls : Array Slot} (hl : lv_has ls 7 [(0, .ref b), (1, .ref (B 5)), (2, .ref (A 0)), (3, .ref o), (4, .int (iI ((5 * N : Nat) : Int)))])
    (kk : ∀ (f' : Nat → Int64) (P' : Nat → Nat → Nat) (r' : Int) (σ' : Sg) (n' k' : Nat) (H1 : Heap) (locs1 : List Loc) (ls1 : Array Slot), Iv σ' n' k' (N + 1) → gP G ((oC G o f' ++ CW G B P' σ' k') ++ MW G A r' σ') H1 → va_D AA ((oC G o f' ++ CW G B P' σ' k') ++ MW G A r' σ') → va_S AA s.heap H1 locs1 → lv_has ls1 7 [(0, .ref b), (1, .ref (B 5)), (2, .ref (A 0)), (3, .ref o), (4, .int (iI ((5 * N : Nat) : Int)))] → W p l e R s m args below meth c H1 locs1 (cells + 8) (slots + 200) Q (F0 m 1395 ls1 [])) : W p l e R s m args below meth c H locs cells slots Q (F0 m 683 ls []) := by
  have hN5 : N ≤ 512 := by omega
  refine lv_aload_n F.1 F.2.1 dL_law_683 rfl (lv_at hl 1 rfl) ?_
  refine lv_aload_n F.1 F.2.1 dL_law_684 rfl (lv_at hl 0 rfl) ?_
  refine lv_iload F.1 F.2.1 dL_law_685 (lv_at hl 4 rfl) ?_
  refine k_iconst F dL_law_687 ?_
  refine k_iadd F rfl dL_law_688 ?_
  refine k_sld F hX hbl hbA hS (5 * N + 1) (by omega) (by omega) hL dL_law_689 ?_
  refine lv_aload_n F.1 F.2.1 dL_law_690 rfl (lv_at hl 0 rfl) ?_
  refine lv_iload F.1 F.2.1 dL_law_691 (lv_at hl 4 rfl) ?_
  refine k_iconst F dL_law_693 ?_
  refine k_iadd F rfl dL_law_694 ?_
  refine k_sld F hX hbl hbA hS (5 * N + 2) (by omega) (by omega) hL dL_law_695 ?_
  refine lv_aload_n F.1 F.2.1 dL_law_696 rfl (lv_at hl 3 rfl) ?_
  refine l_callS F (n := 4) (wr := MW G A r0 σ) (W2 := fun u : Nat → Int64 => oC G o u ++ CW G B P σ k) (mL_faultsAt l hfl G z0 H.size o f B P σ ((xs (5 * N + 1)).toInt) ((xs (5 * N + 2)).toInt) (iI_rg _) (iI_rg _) hI) gL_law_L_faultsAt rfl rfl rfl (by decide +kernel) ⟨Nat.le_trans (Nat.le_of_ble_eq_true rfl) hRf.1, Nat.le_trans (Nat.le_of_ble_eq_true rfl) hRf.2⟩ hK hP hD hz hAz hS hA rfl rfl hl.1 (Nat.le_of_ble_eq_true rfl) dL_law_697 ⟨by omega, by omega⟩ (fun r u H locs hpost hP hD hS => ?_)
  obtain ⟨rfl, hu⟩ := hpost
  have hKr : -2147483648 ≤ kFat σ ((xs (5 * N + 1)).toInt) ((xs (5 * N + 2)).toInt) ∧ kFat σ ((xs (5 * N + 1)).toInt) ((xs (5 * N + 2)).toInt) < 2147483648 := by
    unfold kFat
    (repeat' split) <;> omega
  refine lv_istore (lv' := [(5, .int (iI (kFat σ ((xs (5 * N + 1)).toInt) ((xs (5 * N + 2)).toInt)))), (0, .ref b), (1, .ref (B 5)), (2, .ref (A 0)), (3, .ref o), (4, .int (iI ((5 * N : Nat) : Int)))]) F.1 F.2.1 dL_law_700 hl (by decide) rfl (fun ls hl => ?_)
  refine lv_aload_n F.1 F.2.1 dL_law_702 rfl (lv_at hl 3 rfl) ?_
  refine lv_aload_n F.1 F.2.1 dL_law_703 rfl (lv_at hl 1 rfl) ?_
  refine lv_iload F.1 F.2.1 dL_law_704 (lv_at hl 5 rfl) ?_
  refine k_iconst F dL_law_706 ?_
  refine k_iadd F rfl dL_law_707 ?_
  refine k_sld F hX hbl hbA hS (5 * N + 1) (by omega) (by omega) hL dL_law_708 ?_
  refine lv_aload_n F.1 F.2.1 dL_law_709 rfl (lv_at hl 1 rfl) ?_
  refine lv_iload F.1 F.2.1 dL_law_710 (lv_at hl 5 rfl) ?_
  refine k_iconst F dL_law_712 ?_
  refine k_iadd F rfl dL_law_713 ?_
  refine k_sld F hX hbl hbA hS (5 * N + 2) (by omega) (by omega) hL dL_law_714 ?_
  refine wr_V F (n := 2) (w := MW G A r0 σ) (w' := MW G A (kFat σ ((xs (5 * N + 1)).toInt) ((xs (5 * N + 2)).toInt)) σ) (wr := (oC G o u ++ CW G B P σ k)) (ws2 := (oC G o u ++ CW G B P σ k) ++ MW G A (kFat σ ((xs (5 * N + 1)).toInt) ((xs (5 * N + 2)).toInt)) σ) (mX3_faultsAt l G H.size A r0 σ ((xs (5 * N + 1)).toInt) ((xs (5 * N + 2)).toInt) (iI_rg _) (iI_rg _) hI) gL_law_X3_faultsAt rfl rfl rfl (by decide +kernel) ⟨Nat.le_trans (Nat.le_of_ble_eq_true rfl) hRf.1, Nat.le_trans (Nat.le_of_ble_eq_true rfl) hRf.2⟩ hK hP hD hS hA List.perm_append_comm List.perm_append_comm rfl (ci := 3) (q0 := 0) rfl rfl rfl rfl hl.1 (Nat.le_of_ble_eq_true rfl) dL_law_715 ⟨by omega, by omega⟩ (fun H locs hP hD hS => ?_)
  refine lv_istore (lv' := [(6, .int (iI (if kFat σ ((xs (5 * N + 1)).toInt) ((xs (5 * N + 2)).toInt) = 0 then mvf (σ 7 ((xs (5 * N + 1)).toInt).toNat) ((xs (5 * N + 2)).toInt).toNat else 0))), (5, .int (iI (kFat σ ((xs (5 * N + 1)).toInt) ((xs (5 * N + 2)).toInt)))), (0, .ref b), (1, .ref (B 5)), (2, .ref (A 0)), (3, .ref o), (4, .int (iI ((5 * N : Nat) : Int)))]) F.1 F.2.1 dL_law_718 hl (by decide) rfl (fun ls hl => ?_)
  refine lv_aload_n F.1 F.2.1 dL_law_720 rfl (lv_at hl 4 rfl) ?_
  refine rd_V F (n := 0) (w0 := []) (mX3_thrown l G A (kFat σ ((xs (5 * N + 1)).toInt) ((xs (5 * N + 2)).toInt)) σ) gL_law_X3_thrown rfl rfl rfl (by decide +kernel) ⟨Nat.le_trans (Nat.le_of_ble_eq_true rfl) hRf.1, Nat.le_trans (Nat.le_of_ble_eq_true rfl) hRf.2⟩ hK (gP_app.mp hP).2 (ci := 3) (q0 := 0) rfl rfl rfl rfl hl.1 (Nat.le_of_ble_eq_true rfl) dL_law_721 ⟨by omega, by omega⟩ ?_
  refine lv_iload F.1 F.2.1 dL_law_724 (lv_at hl 1 rfl) ?_
  refine k_icmp_eq F (tgt := 731) dL_law_726 (by decide) hKr hKr (fun _ => ?_) (fun h9 => absurd rfl h9)
  refine lv_iload F.1 F.2.1 dL_law_731 (lv_at hl 1 rfl) ?_
  refine k_if_ne F (tgt := 748) dL_law_733 (by decide) hKr (fun hk0 => ?_) (fun hk0 => ?_)
  · skip
    refine lv_goto (tgt := 1395) F.1 F.2.1 dL_law_748 (by decide) ?_
    have hI2 := Iv_up hI (by omega)
    refine W.widen (k := cells + 8) (n := slots + 200) (by omega) (by omega) ?_
    exact kk u P (kFat σ ((xs (5 * N + 1)).toInt) ((xs (5 * N + 2)).toInt)) σ n k H locs ls hI2 hP hD hS (lv_sub hl [2, 3, 4, 5, 6] rfl)
  · skip
    refine lv_aload_n F.1 F.2.1 dL_law_736 rfl (lv_at hl 5 rfl) ?_
    refine k_iconst F dL_law_737 ?_
    refine va_lald F.1 F.2.1 hK hP 0 2 rfl rfl (iI_in (k := 0) rfl (by decide) (by decide)) dL_law_738 ?_
    refine lv_iload F.1 F.2.1 dL_law_739 (lv_at hl 0 rfl) ?_
    refine lv_i2l F.1 F.2.1 dL_law_741 rfl ?_
    refine k_lcmpE F (by rw [cl0, hu hk0, if_pos hk0]) dL_law_742 ?_
    refine k_if_eq F (tgt := 748) dL_law_743 (by decide) (by decide) (fun _ => ?_) (fun h9 => absurd rfl h9)
    refine lv_goto (tgt := 1395) F.1 F.2.1 dL_law_748 (by decide) ?_
    have hI2 := Iv_up hI (by omega)
    refine W.widen (k := cells + 8) (n := slots + 200) (by omega) (by omega) ?_
    exact kk u P (kFat σ ((xs (5 * N + 1)).toInt) ((xs (5 * N + 2)).toInt)) σ n k H locs ls hI2 hP hD hS (lv_sub hl [2, 3, 4, 5, 6] rfl)

set_option maxHeartbeats 8000000 in
set_option maxRecDepth 100000 in
theorem law_faults {p : Program} {l : Launch} {e : Env} {R : Room} {s : State} {m : MethodId} {args : Array Value} {below : List Frame} {meth : Method} {c : Code} {Q : State → Prop} {AA : Nat → Prop} (F : CallFix p m c cL_law 7 s args wsL_law RL) (hfl : l.stackTraces = false) (hRf : 12 ≤ R.frames ∧ 400 ≤ R.locals) {G : gT} {B A : Nat → Nat} {o b L z0 : Nat} {xs : Nat → Int32} (hX : va_X b L xs s s.heap) (hbl : b < s.heap.size) (hbA : ¬ AA b) (hL : L ≤ 2560) (hK : gK G s) (hz : lz z0 s) (hAz : ∀ q, AA q → z0 ≤ q) (hA : ∀ q, s.heap.size ≤ q → AA q) (N : Nat) (hN : 5 * N + 5 ≤ L)
    {H : Heap} {locs : List Loc} {cells slots : Nat} (hc : cells + 8 ≤ R.cells ∧ slots + 200 ≤ R.slots) (f : Nat → Int64) (P : Nat → Nat → Nat) (r0 : Int) (σ : Sg) {n k : Nat} (hI : Iv σ n k N) (hP : gP G ((oC G o f ++ CW G B P σ k) ++ MW G A r0 σ) H) (hD : va_D AA ((oC G o f ++ CW G B P σ k) ++ MW G A r0 σ)) (hS : va_S AA s.heap H locs) {ls : Array Slot} (hl : lv_has ls 7 [(0, .ref b), (1, .ref (B 5)), (2, .ref (A 0)), (3, .ref o), (4, .int (iI ((5 * N : Nat) : Int)))])
    (kk : ∀ (f' : Nat → Int64) (P' : Nat → Nat → Nat) (r' : Int) (σ' : Sg) (n' k' : Nat) (H1 : Heap) (locs1 : List Loc) (ls1 : Array Slot), Iv σ' n' k' (N + 1) → gP G ((oC G o f' ++ CW G B P' σ' k') ++ MW G A r' σ') H1 → va_D AA ((oC G o f' ++ CW G B P' σ' k') ++ MW G A r' σ') → va_S AA s.heap H1 locs1 → lv_has ls1 7 [(0, .ref b), (1, .ref (B 5)), (2, .ref (A 0)), (3, .ref o), (4, .int (iI ((5 * N : Nat) : Int)))] → W p l e R s m args below meth c H1 locs1 (cells + 8) (slots + 200) Q (F0 m 1395 ls1 [])) : W p l e R s m args below meth c H locs cells slots Q (F0 m 751 ls []) := by
  have hN5 : N ≤ 512 := by omega
  refine lv_aload_n F.1 F.2.1 dL_law_751 rfl (lv_at hl 1 rfl) ?_
  refine lv_aload_n F.1 F.2.1 dL_law_752 rfl (lv_at hl 0 rfl) ?_
  refine lv_iload F.1 F.2.1 dL_law_753 (lv_at hl 4 rfl) ?_
  refine k_iconst F dL_law_755 ?_
  refine k_iadd F rfl dL_law_756 ?_
  refine k_sld F hX hbl hbA hS (5 * N + 1) (by omega) (by omega) hL dL_law_757 ?_
  refine lv_aload_n F.1 F.2.1 dL_law_758 rfl (lv_at hl 3 rfl) ?_
  refine l_callS F (n := 3) (wr := MW G A r0 σ) (W2 := fun u : Nat → Int64 => oC G o u ++ CW G B P σ k) (mL_faults l hfl G z0 H.size o f B P σ ((xs (5 * N + 1)).toInt) (iI_rg _) hI) gL_law_L_faults rfl rfl rfl (by decide +kernel) ⟨Nat.le_trans (Nat.le_of_ble_eq_true rfl) hRf.1, Nat.le_trans (Nat.le_of_ble_eq_true rfl) hRf.2⟩ hK hP hD hz hAz hS hA rfl rfl hl.1 (Nat.le_of_ble_eq_true rfl) dL_law_759 ⟨by omega, by omega⟩ (fun r u H locs hpost hP hD hS => ?_)
  obtain ⟨rfl, hu⟩ := hpost
  have hKr : -2147483648 ≤ kPic σ ((xs (5 * N + 1)).toInt) ∧ kPic σ ((xs (5 * N + 1)).toInt) < 2147483648 := by
    unfold kPic
    (repeat' split) <;> omega
  refine lv_istore (lv' := [(5, .int (iI (kPic σ ((xs (5 * N + 1)).toInt)))), (0, .ref b), (1, .ref (B 5)), (2, .ref (A 0)), (3, .ref o), (4, .int (iI ((5 * N : Nat) : Int)))]) F.1 F.2.1 dL_law_762 hl (by decide) rfl (fun ls hl => ?_)
  refine lv_aload_n F.1 F.2.1 dL_law_764 rfl (lv_at hl 3 rfl) ?_
  refine lv_aload_n F.1 F.2.1 dL_law_765 rfl (lv_at hl 1 rfl) ?_
  refine lv_iload F.1 F.2.1 dL_law_766 (lv_at hl 5 rfl) ?_
  refine k_iconst F dL_law_768 ?_
  refine k_iadd F rfl dL_law_769 ?_
  refine k_sld F hX hbl hbA hS (5 * N + 1) (by omega) (by omega) hL dL_law_770 ?_
  refine wr_V F (n := 1) (w := MW G A r0 σ) (w' := MW G A (kPic σ ((xs (5 * N + 1)).toInt)) σ) (wr := (oC G o u ++ CW G B P σ k)) (ws2 := (oC G o u ++ CW G B P σ k) ++ MW G A (kPic σ ((xs (5 * N + 1)).toInt)) σ) (mX3_faults l G H.size A r0 σ ((xs (5 * N + 1)).toInt) (iI_rg _) hI) gL_law_X3_faults rfl rfl rfl (by decide +kernel) ⟨Nat.le_trans (Nat.le_of_ble_eq_true rfl) hRf.1, Nat.le_trans (Nat.le_of_ble_eq_true rfl) hRf.2⟩ hK hP hD hS hA List.perm_append_comm List.perm_append_comm rfl (ci := 3) (q0 := 0) rfl rfl rfl rfl hl.1 (Nat.le_of_ble_eq_true rfl) dL_law_771 ⟨by omega, by omega⟩ (fun H locs hP hD hS => ?_)
  refine lv_istore (lv' := [(6, .int (iI (if kPic σ ((xs (5 * N + 1)).toInt) = 0 then alf (σ 7 ((xs (5 * N + 1)).toInt).toNat) (σ 8 ((xs (5 * N + 1)).toInt).toNat 0) else 0))), (5, .int (iI (kPic σ ((xs (5 * N + 1)).toInt)))), (0, .ref b), (1, .ref (B 5)), (2, .ref (A 0)), (3, .ref o), (4, .int (iI ((5 * N : Nat) : Int)))]) F.1 F.2.1 dL_law_774 hl (by decide) rfl (fun ls hl => ?_)
  refine lv_aload_n F.1 F.2.1 dL_law_776 rfl (lv_at hl 4 rfl) ?_
  refine rd_V F (n := 0) (w0 := []) (mX3_thrown l G A (kPic σ ((xs (5 * N + 1)).toInt)) σ) gL_law_X3_thrown rfl rfl rfl (by decide +kernel) ⟨Nat.le_trans (Nat.le_of_ble_eq_true rfl) hRf.1, Nat.le_trans (Nat.le_of_ble_eq_true rfl) hRf.2⟩ hK (gP_app.mp hP).2 (ci := 3) (q0 := 0) rfl rfl rfl rfl hl.1 (Nat.le_of_ble_eq_true rfl) dL_law_777 ⟨by omega, by omega⟩ ?_
  refine lv_iload F.1 F.2.1 dL_law_780 (lv_at hl 1 rfl) ?_
  refine k_icmp_eq F (tgt := 787) dL_law_782 (by decide) hKr hKr (fun _ => ?_) (fun h9 => absurd rfl h9)
  refine lv_iload F.1 F.2.1 dL_law_787 (lv_at hl 1 rfl) ?_
  refine k_if_ne F (tgt := 804) dL_law_789 (by decide) hKr (fun hk0 => ?_) (fun hk0 => ?_)
  · skip
    refine lv_goto (tgt := 1395) F.1 F.2.1 dL_law_804 (by decide) ?_
    have hI2 := Iv_up hI (by omega)
    refine W.widen (k := cells + 8) (n := slots + 200) (by omega) (by omega) ?_
    exact kk u P (kPic σ ((xs (5 * N + 1)).toInt)) σ n k H locs ls hI2 hP hD hS (lv_sub hl [2, 3, 4, 5, 6] rfl)
  · skip
    refine lv_aload_n F.1 F.2.1 dL_law_792 rfl (lv_at hl 5 rfl) ?_
    refine k_iconst F dL_law_793 ?_
    refine va_lald F.1 F.2.1 hK hP 0 2 rfl rfl (iI_in (k := 0) rfl (by decide) (by decide)) dL_law_794 ?_
    refine lv_iload F.1 F.2.1 dL_law_795 (lv_at hl 0 rfl) ?_
    refine lv_i2l F.1 F.2.1 dL_law_797 rfl ?_
    refine k_lcmpE F (by rw [cl0, hu hk0, if_pos hk0]) dL_law_798 ?_
    refine k_if_eq F (tgt := 804) dL_law_799 (by decide) (by decide) (fun _ => ?_) (fun h9 => absurd rfl h9)
    refine lv_goto (tgt := 1395) F.1 F.2.1 dL_law_804 (by decide) ?_
    have hI2 := Iv_up hI (by omega)
    refine W.widen (k := cells + 8) (n := slots + 200) (by omega) (by omega) ?_
    exact kk u P (kPic σ ((xs (5 * N + 1)).toInt)) σ n k H locs ls hI2 hP hD hS (lv_sub hl [2, 3, 4, 5, 6] rfl)

set_option maxHeartbeats 8000000 in
set_option maxRecDepth 100000 in
theorem law_leastFaults {p : Program} {l : Launch} {e : Env} {R : Room} {s : State} {m : MethodId} {args : Array Value} {below : List Frame} {meth : Method} {c : Code} {Q : State → Prop} {AA : Nat → Prop} (F : CallFix p m c cL_law 7 s args wsL_law RL) (hfl : l.stackTraces = false) (hRf : 12 ≤ R.frames ∧ 400 ≤ R.locals) {G : gT} {B A : Nat → Nat} {o b L z0 : Nat} {xs : Nat → Int32} (hX : va_X b L xs s s.heap) (hbl : b < s.heap.size) (hbA : ¬ AA b) (hL : L ≤ 2560) (hK : gK G s) (hz : lz z0 s) (hAz : ∀ q, AA q → z0 ≤ q) (hA : ∀ q, s.heap.size ≤ q → AA q) (N : Nat) (hN : 5 * N + 5 ≤ L)
    {H : Heap} {locs : List Loc} {cells slots : Nat} (hc : cells + 8 ≤ R.cells ∧ slots + 200 ≤ R.slots) (f : Nat → Int64) (P : Nat → Nat → Nat) (r0 : Int) (σ : Sg) {n k : Nat} (hI : Iv σ n k N) (hP : gP G ((oC G o f ++ CW G B P σ k) ++ MW G A r0 σ) H) (hD : va_D AA ((oC G o f ++ CW G B P σ k) ++ MW G A r0 σ)) (hS : va_S AA s.heap H locs) {ls : Array Slot} (hl : lv_has ls 7 [(0, .ref b), (1, .ref (B 5)), (2, .ref (A 0)), (3, .ref o), (4, .int (iI ((5 * N : Nat) : Int)))])
    (kk : ∀ (f' : Nat → Int64) (P' : Nat → Nat → Nat) (r' : Int) (σ' : Sg) (n' k' : Nat) (H1 : Heap) (locs1 : List Loc) (ls1 : Array Slot), Iv σ' n' k' (N + 1) → gP G ((oC G o f' ++ CW G B P' σ' k') ++ MW G A r' σ') H1 → va_D AA ((oC G o f' ++ CW G B P' σ' k') ++ MW G A r' σ') → va_S AA s.heap H1 locs1 → lv_has ls1 7 [(0, .ref b), (1, .ref (B 5)), (2, .ref (A 0)), (3, .ref o), (4, .int (iI ((5 * N : Nat) : Int)))] → W p l e R s m args below meth c H1 locs1 (cells + 8) (slots + 200) Q (F0 m 1395 ls1 [])) : W p l e R s m args below meth c H locs cells slots Q (F0 m 807 ls []) := by
  have hN5 : N ≤ 512 := by omega
  refine lv_aload_n F.1 F.2.1 dL_law_807 rfl (lv_at hl 1 rfl) ?_
  refine lv_aload_n F.1 F.2.1 dL_law_808 rfl (lv_at hl 0 rfl) ?_
  refine lv_iload F.1 F.2.1 dL_law_809 (lv_at hl 4 rfl) ?_
  refine k_iconst F dL_law_811 ?_
  refine k_iadd F rfl dL_law_812 ?_
  refine k_sld F hX hbl hbA hS (5 * N + 1) (by omega) (by omega) hL dL_law_813 ?_
  refine lv_aload_n F.1 F.2.1 dL_law_814 rfl (lv_at hl 0 rfl) ?_
  refine lv_iload F.1 F.2.1 dL_law_815 (lv_at hl 4 rfl) ?_
  refine k_iconst F dL_law_817 ?_
  refine k_iadd F rfl dL_law_818 ?_
  refine k_sld F hX hbl hbA hS (5 * N + 2) (by omega) (by omega) hL dL_law_819 ?_
  refine lv_aload_n F.1 F.2.1 dL_law_820 rfl (lv_at hl 0 rfl) ?_
  refine lv_iload F.1 F.2.1 dL_law_821 (lv_at hl 4 rfl) ?_
  refine k_iconst F dL_law_823 ?_
  refine k_iadd F rfl dL_law_824 ?_
  refine k_sld F hX hbl hbA hS (5 * N + 3) (by omega) (by omega) hL dL_law_825 ?_
  refine lv_aload_n F.1 F.2.1 dL_law_826 rfl (lv_at hl 3 rfl) ?_
  refine l_callS F (n := 5) (wr := MW G A r0 σ) (W2 := fun u : Nat → Int64 => oC G o u ++ CW G B P σ k) (mL_leastFaults l hfl G z0 H.size o f B P σ ((xs (5 * N + 1)).toInt) ((xs (5 * N + 2)).toInt) ((xs (5 * N + 3)).toInt) (iI_rg _) (iI_rg _) (iI_rg _) hI) gL_law_L_leastFaults rfl rfl rfl (by decide +kernel) ⟨Nat.le_trans (Nat.le_of_ble_eq_true rfl) hRf.1, Nat.le_trans (Nat.le_of_ble_eq_true rfl) hRf.2⟩ hK hP hD hz hAz hS hA rfl rfl hl.1 (Nat.le_of_ble_eq_true rfl) dL_law_827 ⟨by omega, by omega⟩ (fun r u H locs hpost hP hD hS => ?_)
  obtain ⟨rfl, hu⟩ := hpost
  have hKr : -2147483648 ≤ kLst σ ((xs (5 * N + 1)).toInt) ((xs (5 * N + 2)).toInt) ((xs (5 * N + 3)).toInt) ∧ kLst σ ((xs (5 * N + 1)).toInt) ((xs (5 * N + 2)).toInt) ((xs (5 * N + 3)).toInt) < 2147483648 := by
    unfold kLst
    (repeat' split) <;> omega
  refine lv_istore (lv' := [(5, .int (iI (kLst σ ((xs (5 * N + 1)).toInt) ((xs (5 * N + 2)).toInt) ((xs (5 * N + 3)).toInt)))), (0, .ref b), (1, .ref (B 5)), (2, .ref (A 0)), (3, .ref o), (4, .int (iI ((5 * N : Nat) : Int)))]) F.1 F.2.1 dL_law_830 hl (by decide) rfl (fun ls hl => ?_)
  refine lv_aload_n F.1 F.2.1 dL_law_832 rfl (lv_at hl 3 rfl) ?_
  refine lv_aload_n F.1 F.2.1 dL_law_833 rfl (lv_at hl 1 rfl) ?_
  refine lv_iload F.1 F.2.1 dL_law_834 (lv_at hl 5 rfl) ?_
  refine k_iconst F dL_law_836 ?_
  refine k_iadd F rfl dL_law_837 ?_
  refine k_sld F hX hbl hbA hS (5 * N + 1) (by omega) (by omega) hL dL_law_838 ?_
  refine lv_aload_n F.1 F.2.1 dL_law_839 rfl (lv_at hl 1 rfl) ?_
  refine lv_iload F.1 F.2.1 dL_law_840 (lv_at hl 5 rfl) ?_
  refine k_iconst F dL_law_842 ?_
  refine k_iadd F rfl dL_law_843 ?_
  refine k_sld F hX hbl hbA hS (5 * N + 2) (by omega) (by omega) hL dL_law_844 ?_
  refine lv_aload_n F.1 F.2.1 dL_law_845 rfl (lv_at hl 1 rfl) ?_
  refine lv_iload F.1 F.2.1 dL_law_846 (lv_at hl 5 rfl) ?_
  refine k_iconst F dL_law_848 ?_
  refine k_iadd F rfl dL_law_849 ?_
  refine k_sld F hX hbl hbA hS (5 * N + 3) (by omega) (by omega) hL dL_law_850 ?_
  refine wr_V F (n := 3) (w := MW G A r0 σ) (w' := MW G A (kLst σ ((xs (5 * N + 1)).toInt) ((xs (5 * N + 2)).toInt) ((xs (5 * N + 3)).toInt)) σ) (wr := (oC G o u ++ CW G B P σ k)) (ws2 := (oC G o u ++ CW G B P σ k) ++ MW G A (kLst σ ((xs (5 * N + 1)).toInt) ((xs (5 * N + 2)).toInt) ((xs (5 * N + 3)).toInt)) σ) (mX3_leastFaults l G H.size A r0 σ ((xs (5 * N + 1)).toInt) ((xs (5 * N + 2)).toInt) ((xs (5 * N + 3)).toInt) (iI_rg _) (iI_rg _) (iI_rg _) hI) gL_law_X3_leastFaults rfl rfl rfl (by decide +kernel) ⟨Nat.le_trans (Nat.le_of_ble_eq_true rfl) hRf.1, Nat.le_trans (Nat.le_of_ble_eq_true rfl) hRf.2⟩ hK hP hD hS hA List.perm_append_comm List.perm_append_comm rfl (ci := 3) (q0 := 0) rfl rfl rfl rfl hl.1 (Nat.le_of_ble_eq_true rfl) dL_law_851 ⟨by omega, by omega⟩ (fun H locs hP hD hS => ?_)
  refine lv_istore (lv' := [(6, .int (iI (if kLst σ ((xs (5 * N + 1)).toInt) ((xs (5 * N + 2)).toInt) ((xs (5 * N + 3)).toInt) = 0 then lft (σ 7 ((xs (5 * N + 1)).toInt).toNat) ((xs (5 * N + 2)).toInt).toNat ((xs (5 * N + 3)).toInt).toNat (σ 8 ((xs (5 * N + 1)).toInt).toNat 0) else 0))), (5, .int (iI (kLst σ ((xs (5 * N + 1)).toInt) ((xs (5 * N + 2)).toInt) ((xs (5 * N + 3)).toInt)))), (0, .ref b), (1, .ref (B 5)), (2, .ref (A 0)), (3, .ref o), (4, .int (iI ((5 * N : Nat) : Int)))]) F.1 F.2.1 dL_law_854 hl (by decide) rfl (fun ls hl => ?_)
  refine lv_aload_n F.1 F.2.1 dL_law_856 rfl (lv_at hl 4 rfl) ?_
  refine rd_V F (n := 0) (w0 := []) (mX3_thrown l G A (kLst σ ((xs (5 * N + 1)).toInt) ((xs (5 * N + 2)).toInt) ((xs (5 * N + 3)).toInt)) σ) gL_law_X3_thrown rfl rfl rfl (by decide +kernel) ⟨Nat.le_trans (Nat.le_of_ble_eq_true rfl) hRf.1, Nat.le_trans (Nat.le_of_ble_eq_true rfl) hRf.2⟩ hK (gP_app.mp hP).2 (ci := 3) (q0 := 0) rfl rfl rfl rfl hl.1 (Nat.le_of_ble_eq_true rfl) dL_law_857 ⟨by omega, by omega⟩ ?_
  refine lv_iload F.1 F.2.1 dL_law_860 (lv_at hl 1 rfl) ?_
  refine k_icmp_eq F (tgt := 867) dL_law_862 (by decide) hKr hKr (fun _ => ?_) (fun h9 => absurd rfl h9)
  refine lv_iload F.1 F.2.1 dL_law_867 (lv_at hl 1 rfl) ?_
  refine k_if_ne F (tgt := 884) dL_law_869 (by decide) hKr (fun hk0 => ?_) (fun hk0 => ?_)
  · skip
    refine lv_goto (tgt := 1395) F.1 F.2.1 dL_law_884 (by decide) ?_
    have hI2 := Iv_up hI (by omega)
    refine W.widen (k := cells + 8) (n := slots + 200) (by omega) (by omega) ?_
    exact kk u P (kLst σ ((xs (5 * N + 1)).toInt) ((xs (5 * N + 2)).toInt) ((xs (5 * N + 3)).toInt)) σ n k H locs ls hI2 hP hD hS (lv_sub hl [2, 3, 4, 5, 6] rfl)
  · skip
    refine lv_aload_n F.1 F.2.1 dL_law_872 rfl (lv_at hl 5 rfl) ?_
    refine k_iconst F dL_law_873 ?_
    refine va_lald F.1 F.2.1 hK hP 0 2 rfl rfl (iI_in (k := 0) rfl (by decide) (by decide)) dL_law_874 ?_
    refine lv_iload F.1 F.2.1 dL_law_875 (lv_at hl 0 rfl) ?_
    refine lv_i2l F.1 F.2.1 dL_law_877 rfl ?_
    refine k_lcmpE F (by rw [cl0, hu hk0, if_pos hk0]) dL_law_878 ?_
    refine k_if_eq F (tgt := 884) dL_law_879 (by decide) (by decide) (fun _ => ?_) (fun h9 => absurd rfl h9)
    refine lv_goto (tgt := 1395) F.1 F.2.1 dL_law_884 (by decide) ?_
    have hI2 := Iv_up hI (by omega)
    refine W.widen (k := cells + 8) (n := slots + 200) (by omega) (by omega) ?_
    exact kk u P (kLst σ ((xs (5 * N + 1)).toInt) ((xs (5 * N + 2)).toInt) ((xs (5 * N + 3)).toInt)) σ n k H locs ls hI2 hP hD hS (lv_sub hl [2, 3, 4, 5, 6] rfl)

set_option maxHeartbeats 8000000 in
set_option maxRecDepth 100000 in
theorem law_shift {p : Program} {l : Launch} {e : Env} {R : Room} {s : State} {m : MethodId} {args : Array Value} {below : List Frame} {meth : Method} {c : Code} {Q : State → Prop} {AA : Nat → Prop} (F : CallFix p m c cL_law 7 s args wsL_law RL) (hfl : l.stackTraces = false) (hRf : 12 ≤ R.frames ∧ 400 ≤ R.locals) {G : gT} {B A : Nat → Nat} {o b L z0 : Nat} {xs : Nat → Int32} (hX : va_X b L xs s s.heap) (hbl : b < s.heap.size) (hbA : ¬ AA b) (hL : L ≤ 2560) (hK : gK G s) (hz : lz z0 s) (hAz : ∀ q, AA q → z0 ≤ q) (hA : ∀ q, s.heap.size ≤ q → AA q) (N : Nat) (hN : 5 * N + 5 ≤ L)
    {H : Heap} {locs : List Loc} {cells slots : Nat} (hc : cells + 8 ≤ R.cells ∧ slots + 200 ≤ R.slots) (f : Nat → Int64) (P : Nat → Nat → Nat) (r0 : Int) (σ : Sg) {n k : Nat} (hI : Iv σ n k N) (hP : gP G ((oC G o f ++ CW G B P σ k) ++ MW G A r0 σ) H) (hD : va_D AA ((oC G o f ++ CW G B P σ k) ++ MW G A r0 σ)) (hS : va_S AA s.heap H locs) {ls : Array Slot} (hl : lv_has ls 7 [(0, .ref b), (1, .ref (B 5)), (2, .ref (A 0)), (3, .ref o), (4, .int (iI ((5 * N : Nat) : Int)))])
    (kk : ∀ (f' : Nat → Int64) (P' : Nat → Nat → Nat) (r' : Int) (σ' : Sg) (n' k' : Nat) (H1 : Heap) (locs1 : List Loc) (ls1 : Array Slot), Iv σ' n' k' (N + 1) → gP G ((oC G o f' ++ CW G B P' σ' k') ++ MW G A r' σ') H1 → va_D AA ((oC G o f' ++ CW G B P' σ' k') ++ MW G A r' σ') → va_S AA s.heap H1 locs1 → lv_has ls1 7 [(0, .ref b), (1, .ref (B 5)), (2, .ref (A 0)), (3, .ref o), (4, .int (iI ((5 * N : Nat) : Int)))] → W p l e R s m args below meth c H1 locs1 (cells + 8) (slots + 200) Q (F0 m 1395 ls1 [])) : W p l e R s m args below meth c H locs cells slots Q (F0 m 887 ls []) := by
  have hN5 : N ≤ 512 := by omega
  refine lv_aload_n F.1 F.2.1 dL_law_887 rfl (lv_at hl 1 rfl) ?_
  refine lv_aload_n F.1 F.2.1 dL_law_888 rfl (lv_at hl 0 rfl) ?_
  refine lv_iload F.1 F.2.1 dL_law_889 (lv_at hl 4 rfl) ?_
  refine k_iconst F dL_law_891 ?_
  refine k_iadd F rfl dL_law_892 ?_
  refine k_sld F hX hbl hbA hS (5 * N + 1) (by omega) (by omega) hL dL_law_893 ?_
  refine lv_aload_n F.1 F.2.1 dL_law_894 rfl (lv_at hl 0 rfl) ?_
  refine lv_iload F.1 F.2.1 dL_law_895 (lv_at hl 4 rfl) ?_
  refine k_iconst F dL_law_897 ?_
  refine k_iadd F rfl dL_law_898 ?_
  refine k_sld F hX hbl hbA hS (5 * N + 2) (by omega) (by omega) hL dL_law_899 ?_
  refine lv_aload_n F.1 F.2.1 dL_law_900 rfl (lv_at hl 3 rfl) ?_
  refine l_callS F (n := 4) (wr := MW G A r0 σ) (W2 := fun u : Nat → Int64 => oC G o u ++ CW G B P σ k) (mL_shift l hfl G z0 H.size o f B P σ ((xs (5 * N + 1)).toInt) ((xs (5 * N + 2)).toInt) (iI_rg _) (iI_rg _) hI) gL_law_L_shift rfl rfl rfl (by decide +kernel) ⟨Nat.le_trans (Nat.le_of_ble_eq_true rfl) hRf.1, Nat.le_trans (Nat.le_of_ble_eq_true rfl) hRf.2⟩ hK hP hD hz hAz hS hA rfl rfl hl.1 (Nat.le_of_ble_eq_true rfl) dL_law_901 ⟨by omega, by omega⟩ (fun r u H locs hpost hP hD hS => ?_)
  obtain ⟨rfl, hu⟩ := hpost
  have hKr : -2147483648 ≤ kShf σ n ((xs (5 * N + 1)).toInt) ((xs (5 * N + 2)).toInt) ∧ kShf σ n ((xs (5 * N + 1)).toInt) ((xs (5 * N + 2)).toInt) < 2147483648 := by
    unfold kShf
    (repeat' split) <;> omega
  refine lv_istore (lv' := [(5, .int (iI (kShf σ n ((xs (5 * N + 1)).toInt) ((xs (5 * N + 2)).toInt)))), (0, .ref b), (1, .ref (B 5)), (2, .ref (A 0)), (3, .ref o), (4, .int (iI ((5 * N : Nat) : Int)))]) F.1 F.2.1 dL_law_904 hl (by decide) rfl (fun ls hl => ?_)
  refine lv_aload_n F.1 F.2.1 dL_law_906 rfl (lv_at hl 3 rfl) ?_
  refine lv_aload_n F.1 F.2.1 dL_law_907 rfl (lv_at hl 1 rfl) ?_
  refine lv_iload F.1 F.2.1 dL_law_908 (lv_at hl 5 rfl) ?_
  refine k_iconst F dL_law_910 ?_
  refine k_iadd F rfl dL_law_911 ?_
  refine k_sld F hX hbl hbA hS (5 * N + 1) (by omega) (by omega) hL dL_law_912 ?_
  refine lv_aload_n F.1 F.2.1 dL_law_913 rfl (lv_at hl 1 rfl) ?_
  refine lv_iload F.1 F.2.1 dL_law_914 (lv_at hl 5 rfl) ?_
  refine k_iconst F dL_law_916 ?_
  refine k_iadd F rfl dL_law_917 ?_
  refine k_sld F hX hbl hbA hS (5 * N + 2) (by omega) (by omega) hL dL_law_918 ?_
  refine wr_V F (n := 2) (w := MW G A r0 σ) (w' := MW G A (kShf σ n ((xs (5 * N + 1)).toInt) ((xs (5 * N + 2)).toInt)) σ) (wr := (oC G o u ++ CW G B P σ k)) (ws2 := (oC G o u ++ CW G B P σ k) ++ MW G A (kShf σ n ((xs (5 * N + 1)).toInt) ((xs (5 * N + 2)).toInt)) σ) (mX3_shift l G H.size A r0 σ ((xs (5 * N + 1)).toInt) ((xs (5 * N + 2)).toInt) (iI_rg _) (iI_rg _) hI) gL_law_X3_shift rfl rfl rfl (by decide +kernel) ⟨Nat.le_trans (Nat.le_of_ble_eq_true rfl) hRf.1, Nat.le_trans (Nat.le_of_ble_eq_true rfl) hRf.2⟩ hK hP hD hS hA List.perm_append_comm List.perm_append_comm rfl (ci := 3) (q0 := 0) rfl rfl rfl rfl hl.1 (Nat.le_of_ble_eq_true rfl) dL_law_919 ⟨by omega, by omega⟩ (fun H locs hP hD hS => ?_)
  refine lv_istore (lv' := [(6, .int (iI (if kShf σ n ((xs (5 * N + 1)).toInt) ((xs (5 * N + 2)).toInt) = 0 then shS σ ((xs (5 * N + 1)).toInt).toNat n ((xs (5 * N + 2)).toInt) 13 else 0))), (5, .int (iI (kShf σ n ((xs (5 * N + 1)).toInt) ((xs (5 * N + 2)).toInt)))), (0, .ref b), (1, .ref (B 5)), (2, .ref (A 0)), (3, .ref o), (4, .int (iI ((5 * N : Nat) : Int)))]) F.1 F.2.1 dL_law_922 hl (by decide) rfl (fun ls hl => ?_)
  refine lv_aload_n F.1 F.2.1 dL_law_924 rfl (lv_at hl 4 rfl) ?_
  refine rd_V F (n := 0) (w0 := []) (mX3_thrown l G A (kShf σ n ((xs (5 * N + 1)).toInt) ((xs (5 * N + 2)).toInt)) σ) gL_law_X3_thrown rfl rfl rfl (by decide +kernel) ⟨Nat.le_trans (Nat.le_of_ble_eq_true rfl) hRf.1, Nat.le_trans (Nat.le_of_ble_eq_true rfl) hRf.2⟩ hK (gP_app.mp hP).2 (ci := 3) (q0 := 0) rfl rfl rfl rfl hl.1 (Nat.le_of_ble_eq_true rfl) dL_law_925 ⟨by omega, by omega⟩ ?_
  refine lv_iload F.1 F.2.1 dL_law_928 (lv_at hl 1 rfl) ?_
  refine k_icmp_eq F (tgt := 935) dL_law_930 (by decide) hKr hKr (fun _ => ?_) (fun h9 => absurd rfl h9)
  refine lv_iload F.1 F.2.1 dL_law_935 (lv_at hl 1 rfl) ?_
  refine k_if_ne F (tgt := 952) dL_law_937 (by decide) hKr (fun hk0 => ?_) (fun hk0 => ?_)
  · skip
    refine lv_goto (tgt := 1395) F.1 F.2.1 dL_law_952 (by decide) ?_
    have hI2 := Iv_up hI (by omega)
    refine W.widen (k := cells + 8) (n := slots + 200) (by omega) (by omega) ?_
    exact kk u P (kShf σ n ((xs (5 * N + 1)).toInt) ((xs (5 * N + 2)).toInt)) σ n k H locs ls hI2 hP hD hS (lv_sub hl [2, 3, 4, 5, 6] rfl)
  · skip
    refine lv_aload_n F.1 F.2.1 dL_law_940 rfl (lv_at hl 5 rfl) ?_
    refine k_iconst F dL_law_941 ?_
    refine va_lald F.1 F.2.1 hK hP 0 2 rfl rfl (iI_in (k := 0) rfl (by decide) (by decide)) dL_law_942 ?_
    refine lv_iload F.1 F.2.1 dL_law_943 (lv_at hl 0 rfl) ?_
    refine lv_i2l F.1 F.2.1 dL_law_945 rfl ?_
    refine k_lcmpE F (by rw [cl0, hu hk0, if_pos hk0]) dL_law_946 ?_
    refine k_if_eq F (tgt := 952) dL_law_947 (by decide) (by decide) (fun _ => ?_) (fun h9 => absurd rfl h9)
    refine lv_goto (tgt := 1395) F.1 F.2.1 dL_law_952 (by decide) ?_
    have hI2 := Iv_up hI (by omega)
    refine W.widen (k := cells + 8) (n := slots + 200) (by omega) (by omega) ?_
    exact kk u P (kShf σ n ((xs (5 * N + 1)).toInt) ((xs (5 * N + 2)).toInt)) σ n k H locs ls hI2 hP hD hS (lv_sub hl [2, 3, 4, 5, 6] rfl)

set_option maxHeartbeats 8000000 in
set_option maxRecDepth 100000 in
theorem law_dates {p : Program} {l : Launch} {e : Env} {R : Room} {s : State} {m : MethodId} {args : Array Value} {below : List Frame} {meth : Method} {c : Code} {Q : State → Prop} {AA : Nat → Prop} (F : CallFix p m c cL_law 7 s args wsL_law RL) (hfl : l.stackTraces = false) (hRf : 12 ≤ R.frames ∧ 400 ≤ R.locals) {G : gT} {B A : Nat → Nat} {o b L z0 : Nat} {xs : Nat → Int32} (hX : va_X b L xs s s.heap) (hbl : b < s.heap.size) (hbA : ¬ AA b) (hL : L ≤ 2560) (hK : gK G s) (hz : lz z0 s) (hAz : ∀ q, AA q → z0 ≤ q) (hA : ∀ q, s.heap.size ≤ q → AA q) (N : Nat) (hN : 5 * N + 5 ≤ L)
    {H : Heap} {locs : List Loc} {cells slots : Nat} (hc : cells + 8 ≤ R.cells ∧ slots + 200 ≤ R.slots) (f : Nat → Int64) (P : Nat → Nat → Nat) (r0 : Int) (σ : Sg) {n k : Nat} (hI : Iv σ n k N) (hP : gP G ((oC G o f ++ CW G B P σ k) ++ MW G A r0 σ) H) (hD : va_D AA ((oC G o f ++ CW G B P σ k) ++ MW G A r0 σ)) (hS : va_S AA s.heap H locs) {ls : Array Slot} (hl : lv_has ls 7 [(0, .ref b), (1, .ref (B 5)), (2, .ref (A 0)), (3, .ref o), (4, .int (iI ((5 * N : Nat) : Int)))])
    (kk : ∀ (f' : Nat → Int64) (P' : Nat → Nat → Nat) (r' : Int) (σ' : Sg) (n' k' : Nat) (H1 : Heap) (locs1 : List Loc) (ls1 : Array Slot), Iv σ' n' k' (N + 1) → gP G ((oC G o f' ++ CW G B P' σ' k') ++ MW G A r' σ') H1 → va_D AA ((oC G o f' ++ CW G B P' σ' k') ++ MW G A r' σ') → va_S AA s.heap H1 locs1 → lv_has ls1 7 [(0, .ref b), (1, .ref (B 5)), (2, .ref (A 0)), (3, .ref o), (4, .int (iI ((5 * N : Nat) : Int)))] → W p l e R s m args below meth c H1 locs1 (cells + 8) (slots + 200) Q (F0 m 1395 ls1 [])) : W p l e R s m args below meth c H locs cells slots Q (F0 m 955 ls []) := by
  have hN5 : N ≤ 512 := by omega
  refine lv_aload_n F.1 F.2.1 dL_law_955 rfl (lv_at hl 1 rfl) ?_
  refine lv_aload_n F.1 F.2.1 dL_law_956 rfl (lv_at hl 0 rfl) ?_
  refine lv_iload F.1 F.2.1 dL_law_957 (lv_at hl 4 rfl) ?_
  refine k_iconst F dL_law_959 ?_
  refine k_iadd F rfl dL_law_960 ?_
  refine k_sld F hX hbl hbA hS (5 * N + 1) (by omega) (by omega) hL dL_law_961 ?_
  refine lv_aload_n F.1 F.2.1 dL_law_962 rfl (lv_at hl 3 rfl) ?_
  refine l_callS F (n := 3) (wr := MW G A r0 σ) (W2 := fun u : Nat → Int64 => oC G o u ++ CW G B P σ k) (mL_dates l hfl G z0 H.size o f B P σ ((xs (5 * N + 1)).toInt) (iI_rg _) hI) gL_law_L_dates rfl rfl rfl (by decide +kernel) ⟨Nat.le_trans (Nat.le_of_ble_eq_true rfl) hRf.1, Nat.le_trans (Nat.le_of_ble_eq_true rfl) hRf.2⟩ hK hP hD hz hAz hS hA rfl rfl hl.1 (Nat.le_of_ble_eq_true rfl) dL_law_963 ⟨by omega, by omega⟩ (fun r u H locs hpost hP hD hS => ?_)
  obtain ⟨rfl, hu⟩ := hpost
  have hKr : -2147483648 ≤ kPic σ ((xs (5 * N + 1)).toInt) ∧ kPic σ ((xs (5 * N + 1)).toInt) < 2147483648 := by
    unfold kPic
    (repeat' split) <;> omega
  refine lv_istore (lv' := [(5, .int (iI (kPic σ ((xs (5 * N + 1)).toInt)))), (0, .ref b), (1, .ref (B 5)), (2, .ref (A 0)), (3, .ref o), (4, .int (iI ((5 * N : Nat) : Int)))]) F.1 F.2.1 dL_law_966 hl (by decide) rfl (fun ls hl => ?_)
  refine lv_aload_n F.1 F.2.1 dL_law_968 rfl (lv_at hl 3 rfl) ?_
  refine lv_aload_n F.1 F.2.1 dL_law_969 rfl (lv_at hl 1 rfl) ?_
  refine lv_iload F.1 F.2.1 dL_law_970 (lv_at hl 5 rfl) ?_
  refine k_iconst F dL_law_972 ?_
  refine k_iadd F rfl dL_law_973 ?_
  refine k_sld F hX hbl hbA hS (5 * N + 1) (by omega) (by omega) hL dL_law_974 ?_
  refine wr_V F (n := 1) (w := MW G A r0 σ) (w' := MW G A (kPic σ ((xs (5 * N + 1)).toInt)) σ) (wr := (oC G o u ++ CW G B P σ k)) (ws2 := (oC G o u ++ CW G B P σ k) ++ MW G A (kPic σ ((xs (5 * N + 1)).toInt)) σ) (mX3_dates l G H.size A r0 σ ((xs (5 * N + 1)).toInt) (iI_rg _) hI) gL_law_X3_dates rfl rfl rfl (by decide +kernel) ⟨Nat.le_trans (Nat.le_of_ble_eq_true rfl) hRf.1, Nat.le_trans (Nat.le_of_ble_eq_true rfl) hRf.2⟩ hK hP hD hS hA List.perm_append_comm List.perm_append_comm rfl (ci := 3) (q0 := 0) rfl rfl rfl rfl hl.1 (Nat.le_of_ble_eq_true rfl) dL_law_975 ⟨by omega, by omega⟩ (fun H locs hP hD hS => ?_)
  refine lv_istore (lv' := [(6, .int (iI (if kPic σ ((xs (5 * N + 1)).toInt) = 0 then dtS σ ((xs (5 * N + 1)).toInt).toNat n 31 else 0))), (5, .int (iI (kPic σ ((xs (5 * N + 1)).toInt)))), (0, .ref b), (1, .ref (B 5)), (2, .ref (A 0)), (3, .ref o), (4, .int (iI ((5 * N : Nat) : Int)))]) F.1 F.2.1 dL_law_978 hl (by decide) rfl (fun ls hl => ?_)
  refine lv_aload_n F.1 F.2.1 dL_law_980 rfl (lv_at hl 4 rfl) ?_
  refine rd_V F (n := 0) (w0 := []) (mX3_thrown l G A (kPic σ ((xs (5 * N + 1)).toInt)) σ) gL_law_X3_thrown rfl rfl rfl (by decide +kernel) ⟨Nat.le_trans (Nat.le_of_ble_eq_true rfl) hRf.1, Nat.le_trans (Nat.le_of_ble_eq_true rfl) hRf.2⟩ hK (gP_app.mp hP).2 (ci := 3) (q0 := 0) rfl rfl rfl rfl hl.1 (Nat.le_of_ble_eq_true rfl) dL_law_981 ⟨by omega, by omega⟩ ?_
  refine lv_iload F.1 F.2.1 dL_law_984 (lv_at hl 1 rfl) ?_
  refine k_icmp_eq F (tgt := 991) dL_law_986 (by decide) hKr hKr (fun _ => ?_) (fun h9 => absurd rfl h9)
  refine lv_iload F.1 F.2.1 dL_law_991 (lv_at hl 1 rfl) ?_
  refine k_if_ne F (tgt := 1008) dL_law_993 (by decide) hKr (fun hk0 => ?_) (fun hk0 => ?_)
  · skip
    refine lv_goto (tgt := 1395) F.1 F.2.1 dL_law_1008 (by decide) ?_
    have hI2 := Iv_up hI (by omega)
    refine W.widen (k := cells + 8) (n := slots + 200) (by omega) (by omega) ?_
    exact kk u P (kPic σ ((xs (5 * N + 1)).toInt)) σ n k H locs ls hI2 hP hD hS (lv_sub hl [2, 3, 4, 5, 6] rfl)
  · skip
    refine lv_aload_n F.1 F.2.1 dL_law_996 rfl (lv_at hl 5 rfl) ?_
    refine k_iconst F dL_law_997 ?_
    refine va_lald F.1 F.2.1 hK hP 0 2 rfl rfl (iI_in (k := 0) rfl (by decide) (by decide)) dL_law_998 ?_
    refine lv_iload F.1 F.2.1 dL_law_999 (lv_at hl 0 rfl) ?_
    refine lv_i2l F.1 F.2.1 dL_law_1001 rfl ?_
    refine k_lcmpE F (by rw [cl0, hu hk0, if_pos hk0]) dL_law_1002 ?_
    refine k_if_eq F (tgt := 1008) dL_law_1003 (by decide) (by decide) (fun _ => ?_) (fun h9 => absurd rfl h9)
    refine lv_goto (tgt := 1395) F.1 F.2.1 dL_law_1008 (by decide) ?_
    have hI2 := Iv_up hI (by omega)
    refine W.widen (k := cells + 8) (n := slots + 200) (by omega) (by omega) ?_
    exact kk u P (kPic σ ((xs (5 * N + 1)).toInt)) σ n k H locs ls hI2 hP hD hS (lv_sub hl [2, 3, 4, 5, 6] rfl)

set_option maxHeartbeats 8000000 in
set_option maxRecDepth 100000 in
theorem law_missed {p : Program} {l : Launch} {e : Env} {R : Room} {s : State} {m : MethodId} {args : Array Value} {below : List Frame} {meth : Method} {c : Code} {Q : State → Prop} {AA : Nat → Prop} (F : CallFix p m c cL_law 7 s args wsL_law RL) (hfl : l.stackTraces = false) (hRf : 12 ≤ R.frames ∧ 400 ≤ R.locals) {G : gT} {B A : Nat → Nat} {o b L z0 : Nat} {xs : Nat → Int32} (hX : va_X b L xs s s.heap) (hbl : b < s.heap.size) (hbA : ¬ AA b) (hL : L ≤ 2560) (hK : gK G s) (hz : lz z0 s) (hAz : ∀ q, AA q → z0 ≤ q) (hA : ∀ q, s.heap.size ≤ q → AA q) (N : Nat) (hN : 5 * N + 5 ≤ L)
    {H : Heap} {locs : List Loc} {cells slots : Nat} (hc : cells + 8 ≤ R.cells ∧ slots + 200 ≤ R.slots) (f : Nat → Int64) (P : Nat → Nat → Nat) (r0 : Int) (σ : Sg) {n k : Nat} (hI : Iv σ n k N) (hP : gP G ((oC G o f ++ CW G B P σ k) ++ MW G A r0 σ) H) (hD : va_D AA ((oC G o f ++ CW G B P σ k) ++ MW G A r0 σ)) (hS : va_S AA s.heap H locs) {ls : Array Slot} (hl : lv_has ls 7 [(0, .ref b), (1, .ref (B 5)), (2, .ref (A 0)), (3, .ref o), (4, .int (iI ((5 * N : Nat) : Int)))])
    (kk : ∀ (f' : Nat → Int64) (P' : Nat → Nat → Nat) (r' : Int) (σ' : Sg) (n' k' : Nat) (H1 : Heap) (locs1 : List Loc) (ls1 : Array Slot), Iv σ' n' k' (N + 1) → gP G ((oC G o f' ++ CW G B P' σ' k') ++ MW G A r' σ') H1 → va_D AA ((oC G o f' ++ CW G B P' σ' k') ++ MW G A r' σ') → va_S AA s.heap H1 locs1 → lv_has ls1 7 [(0, .ref b), (1, .ref (B 5)), (2, .ref (A 0)), (3, .ref o), (4, .int (iI ((5 * N : Nat) : Int)))] → W p l e R s m args below meth c H1 locs1 (cells + 8) (slots + 200) Q (F0 m 1395 ls1 [])) : W p l e R s m args below meth c H locs cells slots Q (F0 m 1011 ls []) := by
  have hN5 : N ≤ 512 := by omega
  refine lv_aload_n F.1 F.2.1 dL_law_1011 rfl (lv_at hl 1 rfl) ?_
  refine lv_aload_n F.1 F.2.1 dL_law_1012 rfl (lv_at hl 0 rfl) ?_
  refine lv_iload F.1 F.2.1 dL_law_1013 (lv_at hl 4 rfl) ?_
  refine k_iconst F dL_law_1015 ?_
  refine k_iadd F rfl dL_law_1016 ?_
  refine k_sld F hX hbl hbA hS (5 * N + 1) (by omega) (by omega) hL dL_law_1017 ?_
  refine lv_aload_n F.1 F.2.1 dL_law_1018 rfl (lv_at hl 3 rfl) ?_
  refine l_callS F (n := 3) (wr := MW G A r0 σ) (W2 := fun u : Nat → Int64 => oC G o u ++ CW G B P σ k) (mL_missed l hfl G z0 H.size o f B P σ ((xs (5 * N + 1)).toInt) (iI_rg _) hI) gL_law_L_missed rfl rfl rfl (by decide +kernel) ⟨Nat.le_trans (Nat.le_of_ble_eq_true rfl) hRf.1, Nat.le_trans (Nat.le_of_ble_eq_true rfl) hRf.2⟩ hK hP hD hz hAz hS hA rfl rfl hl.1 (Nat.le_of_ble_eq_true rfl) dL_law_1019 ⟨by omega, by omega⟩ (fun r u H locs hpost hP hD hS => ?_)
  obtain ⟨rfl, hu⟩ := hpost
  have hKr : -2147483648 ≤ kDat ((xs (5 * N + 1)).toInt) ∧ kDat ((xs (5 * N + 1)).toInt) < 2147483648 := by
    unfold kDat
    (repeat' split) <;> omega
  refine lv_istore (lv' := [(5, .int (iI (kDat ((xs (5 * N + 1)).toInt)))), (0, .ref b), (1, .ref (B 5)), (2, .ref (A 0)), (3, .ref o), (4, .int (iI ((5 * N : Nat) : Int)))]) F.1 F.2.1 dL_law_1022 hl (by decide) rfl (fun ls hl => ?_)
  refine lv_aload_n F.1 F.2.1 dL_law_1024 rfl (lv_at hl 3 rfl) ?_
  refine lv_aload_n F.1 F.2.1 dL_law_1025 rfl (lv_at hl 1 rfl) ?_
  refine lv_iload F.1 F.2.1 dL_law_1026 (lv_at hl 5 rfl) ?_
  refine k_iconst F dL_law_1028 ?_
  refine k_iadd F rfl dL_law_1029 ?_
  refine k_sld F hX hbl hbA hS (5 * N + 1) (by omega) (by omega) hL dL_law_1030 ?_
  refine wr_V F (n := 1) (w := MW G A r0 σ) (w' := MW G A (kDat ((xs (5 * N + 1)).toInt)) σ) (wr := (oC G o u ++ CW G B P σ k)) (ws2 := (oC G o u ++ CW G B P σ k) ++ MW G A (kDat ((xs (5 * N + 1)).toInt)) σ) (mX3_missed l G H.size A r0 σ ((xs (5 * N + 1)).toInt) (iI_rg _) hI) gL_law_X3_missed rfl rfl rfl (by decide +kernel) ⟨Nat.le_trans (Nat.le_of_ble_eq_true rfl) hRf.1, Nat.le_trans (Nat.le_of_ble_eq_true rfl) hRf.2⟩ hK hP hD hS hA List.perm_append_comm List.perm_append_comm rfl (ci := 3) (q0 := 0) rfl rfl rfl rfl hl.1 (Nat.le_of_ble_eq_true rfl) dL_law_1031 ⟨by omega, by omega⟩ (fun H locs hP hD hS => ?_)
  refine lv_istore (lv' := [(6, .int (iI (if kDat ((xs (5 * N + 1)).toInt) = 0 then msM σ ((xs (5 * N + 1)).toInt) n n else 0))), (5, .int (iI (kDat ((xs (5 * N + 1)).toInt)))), (0, .ref b), (1, .ref (B 5)), (2, .ref (A 0)), (3, .ref o), (4, .int (iI ((5 * N : Nat) : Int)))]) F.1 F.2.1 dL_law_1034 hl (by decide) rfl (fun ls hl => ?_)
  refine lv_aload_n F.1 F.2.1 dL_law_1036 rfl (lv_at hl 4 rfl) ?_
  refine rd_V F (n := 0) (w0 := []) (mX3_thrown l G A (kDat ((xs (5 * N + 1)).toInt)) σ) gL_law_X3_thrown rfl rfl rfl (by decide +kernel) ⟨Nat.le_trans (Nat.le_of_ble_eq_true rfl) hRf.1, Nat.le_trans (Nat.le_of_ble_eq_true rfl) hRf.2⟩ hK (gP_app.mp hP).2 (ci := 3) (q0 := 0) rfl rfl rfl rfl hl.1 (Nat.le_of_ble_eq_true rfl) dL_law_1037 ⟨by omega, by omega⟩ ?_
  refine lv_iload F.1 F.2.1 dL_law_1040 (lv_at hl 1 rfl) ?_
  refine k_icmp_eq F (tgt := 1047) dL_law_1042 (by decide) hKr hKr (fun _ => ?_) (fun h9 => absurd rfl h9)
  refine lv_iload F.1 F.2.1 dL_law_1047 (lv_at hl 1 rfl) ?_
  refine k_if_ne F (tgt := 1064) dL_law_1049 (by decide) hKr (fun hk0 => ?_) (fun hk0 => ?_)
  · skip
    refine lv_goto (tgt := 1395) F.1 F.2.1 dL_law_1064 (by decide) ?_
    have hI2 := Iv_up hI (by omega)
    refine W.widen (k := cells + 8) (n := slots + 200) (by omega) (by omega) ?_
    exact kk u P (kDat ((xs (5 * N + 1)).toInt)) σ n k H locs ls hI2 hP hD hS (lv_sub hl [2, 3, 4, 5, 6] rfl)
  · skip
    refine lv_aload_n F.1 F.2.1 dL_law_1052 rfl (lv_at hl 5 rfl) ?_
    refine k_iconst F dL_law_1053 ?_
    refine va_lald F.1 F.2.1 hK hP 0 2 rfl rfl (iI_in (k := 0) rfl (by decide) (by decide)) dL_law_1054 ?_
    refine lv_iload F.1 F.2.1 dL_law_1055 (lv_at hl 0 rfl) ?_
    refine lv_i2l F.1 F.2.1 dL_law_1057 rfl ?_
    refine k_lcmpE F (by rw [cl0, hu hk0, if_pos hk0]) dL_law_1058 ?_
    refine k_if_eq F (tgt := 1064) dL_law_1059 (by decide) (by decide) (fun _ => ?_) (fun h9 => absurd rfl h9)
    refine lv_goto (tgt := 1395) F.1 F.2.1 dL_law_1064 (by decide) ?_
    have hI2 := Iv_up hI (by omega)
    refine W.widen (k := cells + 8) (n := slots + 200) (by omega) (by omega) ?_
    exact kk u P (kDat ((xs (5 * N + 1)).toInt)) σ n k H locs ls hI2 hP hD hS (lv_sub hl [2, 3, 4, 5, 6] rfl)

set_option maxHeartbeats 8000000 in
set_option maxRecDepth 100000 in
theorem law_programme {p : Program} {l : Launch} {e : Env} {R : Room} {s : State} {m : MethodId} {args : Array Value} {below : List Frame} {meth : Method} {c : Code} {Q : State → Prop} {AA : Nat → Prop} (F : CallFix p m c cL_law 7 s args wsL_law RL) (hfl : l.stackTraces = false) (hRf : 12 ≤ R.frames ∧ 400 ≤ R.locals) {G : gT} {B A : Nat → Nat} {o b L z0 : Nat} {xs : Nat → Int32} (hX : va_X b L xs s s.heap) (hbl : b < s.heap.size) (hbA : ¬ AA b) (hL : L ≤ 2560) (hK : gK G s) (hz : lz z0 s) (hAz : ∀ q, AA q → z0 ≤ q) (hA : ∀ q, s.heap.size ≤ q → AA q) (N : Nat) (hN : 5 * N + 5 ≤ L)
    {H : Heap} {locs : List Loc} {cells slots : Nat} (hc : cells + 8 ≤ R.cells ∧ slots + 200 ≤ R.slots) (f : Nat → Int64) (P : Nat → Nat → Nat) (r0 : Int) (σ : Sg) {n k : Nat} (hI : Iv σ n k N) (hP : gP G ((oC G o f ++ CW G B P σ k) ++ MW G A r0 σ) H) (hD : va_D AA ((oC G o f ++ CW G B P σ k) ++ MW G A r0 σ)) (hS : va_S AA s.heap H locs) {ls : Array Slot} (hl : lv_has ls 7 [(0, .ref b), (1, .ref (B 5)), (2, .ref (A 0)), (3, .ref o), (4, .int (iI ((5 * N : Nat) : Int)))])
    (kk : ∀ (f' : Nat → Int64) (P' : Nat → Nat → Nat) (r' : Int) (σ' : Sg) (n' k' : Nat) (H1 : Heap) (locs1 : List Loc) (ls1 : Array Slot), Iv σ' n' k' (N + 1) → gP G ((oC G o f' ++ CW G B P' σ' k') ++ MW G A r' σ') H1 → va_D AA ((oC G o f' ++ CW G B P' σ' k') ++ MW G A r' σ') → va_S AA s.heap H1 locs1 → lv_has ls1 7 [(0, .ref b), (1, .ref (B 5)), (2, .ref (A 0)), (3, .ref o), (4, .int (iI ((5 * N : Nat) : Int)))] → W p l e R s m args below meth c H1 locs1 (cells + 8) (slots + 200) Q (F0 m 1395 ls1 [])) : W p l e R s m args below meth c H locs cells slots Q (F0 m 1067 ls []) := by
  have hN5 : N ≤ 512 := by omega
  refine lv_aload_n F.1 F.2.1 dL_law_1067 rfl (lv_at hl 1 rfl) ?_
  refine lv_aload_n F.1 F.2.1 dL_law_1068 rfl (lv_at hl 0 rfl) ?_
  refine lv_iload F.1 F.2.1 dL_law_1069 (lv_at hl 4 rfl) ?_
  refine k_iconst F dL_law_1071 ?_
  refine k_iadd F rfl dL_law_1072 ?_
  refine k_sld F hX hbl hbA hS (5 * N + 1) (by omega) (by omega) hL dL_law_1073 ?_
  refine lv_aload_n F.1 F.2.1 dL_law_1074 rfl (lv_at hl 0 rfl) ?_
  refine lv_iload F.1 F.2.1 dL_law_1075 (lv_at hl 4 rfl) ?_
  refine k_iconst F dL_law_1077 ?_
  refine k_iadd F rfl dL_law_1078 ?_
  refine k_sld F hX hbl hbA hS (5 * N + 2) (by omega) (by omega) hL dL_law_1079 ?_
  refine lv_aload_n F.1 F.2.1 dL_law_1080 rfl (lv_at hl 3 rfl) ?_
  refine l_callS F (n := 4) (wr := MW G A r0 σ) (W2 := fun u : Nat → Int64 => oC G o u ++ CW G B P σ k) (mL_programme l hfl G z0 H.size o f B P σ ((xs (5 * N + 1)).toInt) ((xs (5 * N + 2)).toInt) (iI_rg _) (iI_rg _) hI) gL_law_L_programme rfl rfl rfl (by decide +kernel) ⟨Nat.le_trans (Nat.le_of_ble_eq_true rfl) hRf.1, Nat.le_trans (Nat.le_of_ble_eq_true rfl) hRf.2⟩ hK hP hD hz hAz hS hA rfl rfl hl.1 (Nat.le_of_ble_eq_true rfl) dL_law_1081 ⟨by omega, by omega⟩ (fun r u H locs hpost hP hD hS => ?_)
  obtain ⟨rfl, hu⟩ := hpost
  have hKr : -2147483648 ≤ kPrg ((xs (5 * N + 1)).toInt) ((xs (5 * N + 2)).toInt) ∧ kPrg ((xs (5 * N + 1)).toInt) ((xs (5 * N + 2)).toInt) < 2147483648 := by
    unfold kPrg
    (repeat' split) <;> omega
  refine lv_istore (lv' := [(5, .int (iI (kPrg ((xs (5 * N + 1)).toInt) ((xs (5 * N + 2)).toInt)))), (0, .ref b), (1, .ref (B 5)), (2, .ref (A 0)), (3, .ref o), (4, .int (iI ((5 * N : Nat) : Int)))]) F.1 F.2.1 dL_law_1084 hl (by decide) rfl (fun ls hl => ?_)
  refine lv_aload_n F.1 F.2.1 dL_law_1086 rfl (lv_at hl 3 rfl) ?_
  refine lv_aload_n F.1 F.2.1 dL_law_1087 rfl (lv_at hl 1 rfl) ?_
  refine lv_iload F.1 F.2.1 dL_law_1088 (lv_at hl 5 rfl) ?_
  refine k_iconst F dL_law_1090 ?_
  refine k_iadd F rfl dL_law_1091 ?_
  refine k_sld F hX hbl hbA hS (5 * N + 1) (by omega) (by omega) hL dL_law_1092 ?_
  refine lv_aload_n F.1 F.2.1 dL_law_1093 rfl (lv_at hl 1 rfl) ?_
  refine lv_iload F.1 F.2.1 dL_law_1094 (lv_at hl 5 rfl) ?_
  refine k_iconst F dL_law_1096 ?_
  refine k_iadd F rfl dL_law_1097 ?_
  refine k_sld F hX hbl hbA hS (5 * N + 2) (by omega) (by omega) hL dL_law_1098 ?_
  refine wr_V F (n := 2) (w := MW G A r0 σ) (w' := MW G A (kPrg ((xs (5 * N + 1)).toInt) ((xs (5 * N + 2)).toInt)) σ) (wr := (oC G o u ++ CW G B P σ k)) (ws2 := (oC G o u ++ CW G B P σ k) ++ MW G A (kPrg ((xs (5 * N + 1)).toInt) ((xs (5 * N + 2)).toInt)) σ) (mX3_programme l G H.size A r0 σ ((xs (5 * N + 1)).toInt) ((xs (5 * N + 2)).toInt) (iI_rg _) (iI_rg _) hI) gL_law_X3_programme rfl rfl rfl (by decide +kernel) ⟨Nat.le_trans (Nat.le_of_ble_eq_true rfl) hRf.1, Nat.le_trans (Nat.le_of_ble_eq_true rfl) hRf.2⟩ hK hP hD hS hA List.perm_append_comm List.perm_append_comm rfl (ci := 3) (q0 := 0) rfl rfl rfl rfl hl.1 (Nat.le_of_ble_eq_true rfl) dL_law_1099 ⟨by omega, by omega⟩ (fun H locs hP hD hS => ?_)
  refine lv_istore (lv' := [(6, .int (iI (if kPrg ((xs (5 * N + 1)).toInt) ((xs (5 * N + 2)).toInt) = 0 then ((prg σ n k ((xs (5 * N + 1)).toInt) ((xs (5 * N + 2)).toInt) : Nat) : Int) else 0))), (5, .int (iI (kPrg ((xs (5 * N + 1)).toInt) ((xs (5 * N + 2)).toInt)))), (0, .ref b), (1, .ref (B 5)), (2, .ref (A 0)), (3, .ref o), (4, .int (iI ((5 * N : Nat) : Int)))]) F.1 F.2.1 dL_law_1102 hl (by decide) rfl (fun ls hl => ?_)
  refine lv_aload_n F.1 F.2.1 dL_law_1104 rfl (lv_at hl 4 rfl) ?_
  refine rd_V F (n := 0) (w0 := []) (mX3_thrown l G A (kPrg ((xs (5 * N + 1)).toInt) ((xs (5 * N + 2)).toInt)) σ) gL_law_X3_thrown rfl rfl rfl (by decide +kernel) ⟨Nat.le_trans (Nat.le_of_ble_eq_true rfl) hRf.1, Nat.le_trans (Nat.le_of_ble_eq_true rfl) hRf.2⟩ hK (gP_app.mp hP).2 (ci := 3) (q0 := 0) rfl rfl rfl rfl hl.1 (Nat.le_of_ble_eq_true rfl) dL_law_1105 ⟨by omega, by omega⟩ ?_
  refine lv_iload F.1 F.2.1 dL_law_1108 (lv_at hl 1 rfl) ?_
  refine k_icmp_eq F (tgt := 1115) dL_law_1110 (by decide) hKr hKr (fun _ => ?_) (fun h9 => absurd rfl h9)
  refine lv_iload F.1 F.2.1 dL_law_1115 (lv_at hl 1 rfl) ?_
  refine k_if_ne F (tgt := 1132) dL_law_1117 (by decide) hKr (fun hk0 => ?_) (fun hk0 => ?_)
  · skip
    refine lv_goto (tgt := 1395) F.1 F.2.1 dL_law_1132 (by decide) ?_
    have hI2 := Iv_up hI (by omega)
    refine W.widen (k := cells + 8) (n := slots + 200) (by omega) (by omega) ?_
    exact kk u P (kPrg ((xs (5 * N + 1)).toInt) ((xs (5 * N + 2)).toInt)) σ n k H locs ls hI2 hP hD hS (lv_sub hl [2, 3, 4, 5, 6] rfl)
  · skip
    refine lv_aload_n F.1 F.2.1 dL_law_1120 rfl (lv_at hl 5 rfl) ?_
    refine k_iconst F dL_law_1121 ?_
    refine va_lald F.1 F.2.1 hK hP 0 2 rfl rfl (iI_in (k := 0) rfl (by decide) (by decide)) dL_law_1122 ?_
    refine lv_iload F.1 F.2.1 dL_law_1123 (lv_at hl 0 rfl) ?_
    refine lv_i2l F.1 F.2.1 dL_law_1125 rfl ?_
    refine k_lcmpE F (by rw [cl0, hu hk0, if_pos hk0]) dL_law_1126 ?_
    refine k_if_eq F (tgt := 1132) dL_law_1127 (by decide) (by decide) (fun _ => ?_) (fun h9 => absurd rfl h9)
    refine lv_goto (tgt := 1395) F.1 F.2.1 dL_law_1132 (by decide) ?_
    have hI2 := Iv_up hI (by omega)
    refine W.widen (k := cells + 8) (n := slots + 200) (by omega) (by omega) ?_
    exact kk u P (kPrg ((xs (5 * N + 1)).toInt) ((xs (5 * N + 2)).toInt)) σ n k H locs ls hI2 hP hD hS (lv_sub hl [2, 3, 4, 5, 6] rfl)

set_option maxHeartbeats 8000000 in
set_option maxRecDepth 100000 in
theorem law_duration {p : Program} {l : Launch} {e : Env} {R : Room} {s : State} {m : MethodId} {args : Array Value} {below : List Frame} {meth : Method} {c : Code} {Q : State → Prop} {AA : Nat → Prop} (F : CallFix p m c cL_law 7 s args wsL_law RL) (hfl : l.stackTraces = false) (hRf : 12 ≤ R.frames ∧ 400 ≤ R.locals) {G : gT} {B A : Nat → Nat} {o b L z0 : Nat} {xs : Nat → Int32} (hX : va_X b L xs s s.heap) (hbl : b < s.heap.size) (hbA : ¬ AA b) (hL : L ≤ 2560) (hK : gK G s) (hz : lz z0 s) (hAz : ∀ q, AA q → z0 ≤ q) (hA : ∀ q, s.heap.size ≤ q → AA q) (N : Nat) (hN : 5 * N + 5 ≤ L)
    {H : Heap} {locs : List Loc} {cells slots : Nat} (hc : cells + 8 ≤ R.cells ∧ slots + 200 ≤ R.slots) (f : Nat → Int64) (P : Nat → Nat → Nat) (r0 : Int) (σ : Sg) {n k : Nat} (hI : Iv σ n k N) (hP : gP G ((oC G o f ++ CW G B P σ k) ++ MW G A r0 σ) H) (hD : va_D AA ((oC G o f ++ CW G B P σ k) ++ MW G A r0 σ)) (hS : va_S AA s.heap H locs) {ls : Array Slot} (hl : lv_has ls 7 [(0, .ref b), (1, .ref (B 5)), (2, .ref (A 0)), (3, .ref o), (4, .int (iI ((5 * N : Nat) : Int)))])
    (kk : ∀ (f' : Nat → Int64) (P' : Nat → Nat → Nat) (r' : Int) (σ' : Sg) (n' k' : Nat) (H1 : Heap) (locs1 : List Loc) (ls1 : Array Slot), Iv σ' n' k' (N + 1) → gP G ((oC G o f' ++ CW G B P' σ' k') ++ MW G A r' σ') H1 → va_D AA ((oC G o f' ++ CW G B P' σ' k') ++ MW G A r' σ') → va_S AA s.heap H1 locs1 → lv_has ls1 7 [(0, .ref b), (1, .ref (B 5)), (2, .ref (A 0)), (3, .ref o), (4, .int (iI ((5 * N : Nat) : Int)))] → W p l e R s m args below meth c H1 locs1 (cells + 8) (slots + 200) Q (F0 m 1395 ls1 [])) : W p l e R s m args below meth c H locs cells slots Q (F0 m 1135 ls []) := by
  have hN5 : N ≤ 512 := by omega
  refine lv_aload_n F.1 F.2.1 dL_law_1135 rfl (lv_at hl 1 rfl) ?_
  refine lv_aload_n F.1 F.2.1 dL_law_1136 rfl (lv_at hl 0 rfl) ?_
  refine lv_iload F.1 F.2.1 dL_law_1137 (lv_at hl 4 rfl) ?_
  refine k_iconst F dL_law_1139 ?_
  refine k_iadd F rfl dL_law_1140 ?_
  refine k_sld F hX hbl hbA hS (5 * N + 1) (by omega) (by omega) hL dL_law_1141 ?_
  refine lv_aload_n F.1 F.2.1 dL_law_1142 rfl (lv_at hl 0 rfl) ?_
  refine lv_iload F.1 F.2.1 dL_law_1143 (lv_at hl 4 rfl) ?_
  refine k_iconst F dL_law_1145 ?_
  refine k_iadd F rfl dL_law_1146 ?_
  refine k_sld F hX hbl hbA hS (5 * N + 2) (by omega) (by omega) hL dL_law_1147 ?_
  refine lv_aload_n F.1 F.2.1 dL_law_1148 rfl (lv_at hl 3 rfl) ?_
  refine l_callS F (n := 4) (wr := MW G A r0 σ) (W2 := fun u : Nat → Int64 => oC G o u ++ CW G B P σ k) (mL_duration l hfl G z0 H.size o f B P σ ((xs (5 * N + 1)).toInt) ((xs (5 * N + 2)).toInt) (iI_rg _) (iI_rg _) hI) gL_law_L_duration rfl rfl rfl (by decide +kernel) ⟨Nat.le_trans (Nat.le_of_ble_eq_true rfl) hRf.1, Nat.le_trans (Nat.le_of_ble_eq_true rfl) hRf.2⟩ hK hP hD hz hAz hS hA rfl rfl hl.1 (Nat.le_of_ble_eq_true rfl) dL_law_1149 ⟨by omega, by omega⟩ (fun r u H locs hpost hP hD hS => ?_)
  obtain ⟨rfl, hu⟩ := hpost
  have hKr : -2147483648 ≤ kPrg ((xs (5 * N + 1)).toInt) ((xs (5 * N + 2)).toInt) ∧ kPrg ((xs (5 * N + 1)).toInt) ((xs (5 * N + 2)).toInt) < 2147483648 := by
    unfold kPrg
    (repeat' split) <;> omega
  refine lv_istore (lv' := [(5, .int (iI (kPrg ((xs (5 * N + 1)).toInt) ((xs (5 * N + 2)).toInt)))), (0, .ref b), (1, .ref (B 5)), (2, .ref (A 0)), (3, .ref o), (4, .int (iI ((5 * N : Nat) : Int)))]) F.1 F.2.1 dL_law_1152 hl (by decide) rfl (fun ls hl => ?_)
  refine lv_aload_n F.1 F.2.1 dL_law_1154 rfl (lv_at hl 3 rfl) ?_
  refine lv_aload_n F.1 F.2.1 dL_law_1155 rfl (lv_at hl 1 rfl) ?_
  refine lv_iload F.1 F.2.1 dL_law_1156 (lv_at hl 5 rfl) ?_
  refine k_iconst F dL_law_1158 ?_
  refine k_iadd F rfl dL_law_1159 ?_
  refine k_sld F hX hbl hbA hS (5 * N + 1) (by omega) (by omega) hL dL_law_1160 ?_
  refine lv_aload_n F.1 F.2.1 dL_law_1161 rfl (lv_at hl 1 rfl) ?_
  refine lv_iload F.1 F.2.1 dL_law_1162 (lv_at hl 5 rfl) ?_
  refine k_iconst F dL_law_1164 ?_
  refine k_iadd F rfl dL_law_1165 ?_
  refine k_sld F hX hbl hbA hS (5 * N + 2) (by omega) (by omega) hL dL_law_1166 ?_
  refine wr_V F (n := 2) (w := MW G A r0 σ) (w' := MW G A (kPrg ((xs (5 * N + 1)).toInt) ((xs (5 * N + 2)).toInt)) σ) (wr := (oC G o u ++ CW G B P σ k)) (ws2 := (oC G o u ++ CW G B P σ k) ++ MW G A (kPrg ((xs (5 * N + 1)).toInt) ((xs (5 * N + 2)).toInt)) σ) (mX3_duration l G H.size A r0 σ ((xs (5 * N + 1)).toInt) ((xs (5 * N + 2)).toInt) (iI_rg _) (iI_rg _) hI) gL_law_X3_duration rfl rfl rfl (by decide +kernel) ⟨Nat.le_trans (Nat.le_of_ble_eq_true rfl) hRf.1, Nat.le_trans (Nat.le_of_ble_eq_true rfl) hRf.2⟩ hK hP hD hS hA List.perm_append_comm List.perm_append_comm rfl (ci := 3) (q0 := 0) rfl rfl rfl rfl hl.1 (Nat.le_of_ble_eq_true rfl) dL_law_1167 ⟨by omega, by omega⟩ (fun H locs hP hD hS => ?_)
  refine lv_istore (lv' := [(6, .int (iI (if kPrg ((xs (5 * N + 1)).toInt) ((xs (5 * N + 2)).toInt) = 0 then lnS σ ((prg σ n k ((xs (5 * N + 1)).toInt) ((xs (5 * N + 2)).toInt) : Nat) : Int) k else 0))), (5, .int (iI (kPrg ((xs (5 * N + 1)).toInt) ((xs (5 * N + 2)).toInt)))), (0, .ref b), (1, .ref (B 5)), (2, .ref (A 0)), (3, .ref o), (4, .int (iI ((5 * N : Nat) : Int)))]) F.1 F.2.1 dL_law_1170 hl (by decide) rfl (fun ls hl => ?_)
  refine lv_aload_n F.1 F.2.1 dL_law_1172 rfl (lv_at hl 4 rfl) ?_
  refine rd_V F (n := 0) (w0 := []) (mX3_thrown l G A (kPrg ((xs (5 * N + 1)).toInt) ((xs (5 * N + 2)).toInt)) σ) gL_law_X3_thrown rfl rfl rfl (by decide +kernel) ⟨Nat.le_trans (Nat.le_of_ble_eq_true rfl) hRf.1, Nat.le_trans (Nat.le_of_ble_eq_true rfl) hRf.2⟩ hK (gP_app.mp hP).2 (ci := 3) (q0 := 0) rfl rfl rfl rfl hl.1 (Nat.le_of_ble_eq_true rfl) dL_law_1173 ⟨by omega, by omega⟩ ?_
  refine lv_iload F.1 F.2.1 dL_law_1176 (lv_at hl 1 rfl) ?_
  refine k_icmp_eq F (tgt := 1183) dL_law_1178 (by decide) hKr hKr (fun _ => ?_) (fun h9 => absurd rfl h9)
  refine lv_iload F.1 F.2.1 dL_law_1183 (lv_at hl 1 rfl) ?_
  refine k_if_ne F (tgt := 1200) dL_law_1185 (by decide) hKr (fun hk0 => ?_) (fun hk0 => ?_)
  · skip
    refine lv_goto (tgt := 1395) F.1 F.2.1 dL_law_1200 (by decide) ?_
    have hI2 := Iv_up hI (by omega)
    refine W.widen (k := cells + 8) (n := slots + 200) (by omega) (by omega) ?_
    exact kk u P (kPrg ((xs (5 * N + 1)).toInt) ((xs (5 * N + 2)).toInt)) σ n k H locs ls hI2 hP hD hS (lv_sub hl [2, 3, 4, 5, 6] rfl)
  · skip
    refine lv_aload_n F.1 F.2.1 dL_law_1188 rfl (lv_at hl 5 rfl) ?_
    refine k_iconst F dL_law_1189 ?_
    refine va_lald F.1 F.2.1 hK hP 0 2 rfl rfl (iI_in (k := 0) rfl (by decide) (by decide)) dL_law_1190 ?_
    refine lv_iload F.1 F.2.1 dL_law_1191 (lv_at hl 0 rfl) ?_
    refine lv_i2l F.1 F.2.1 dL_law_1193 rfl ?_
    refine k_lcmpE F (by rw [cl0, hu hk0, if_pos hk0]) dL_law_1194 ?_
    refine k_if_eq F (tgt := 1200) dL_law_1195 (by decide) (by decide) (fun _ => ?_) (fun h9 => absurd rfl h9)
    refine lv_goto (tgt := 1395) F.1 F.2.1 dL_law_1200 (by decide) ?_
    have hI2 := Iv_up hI (by omega)
    refine W.widen (k := cells + 8) (n := slots + 200) (by omega) (by omega) ?_
    exact kk u P (kPrg ((xs (5 * N + 1)).toInt) ((xs (5 * N + 2)).toInt)) σ n k H locs ls hI2 hP hD hS (lv_sub hl [2, 3, 4, 5, 6] rfl)

set_option maxHeartbeats 8000000 in
set_option maxRecDepth 100000 in
theorem law_rehearse {p : Program} {l : Launch} {e : Env} {R : Room} {s : State} {m : MethodId} {args : Array Value} {below : List Frame} {meth : Method} {c : Code} {Q : State → Prop} {AA : Nat → Prop} (F : CallFix p m c cL_law 7 s args wsL_law RL) (hfl : l.stackTraces = false) (hRf : 12 ≤ R.frames ∧ 400 ≤ R.locals) {G : gT} {B A : Nat → Nat} {o b L z0 : Nat} {xs : Nat → Int32} (hX : va_X b L xs s s.heap) (hbl : b < s.heap.size) (hbA : ¬ AA b) (hL : L ≤ 2560) (hK : gK G s) (hz : lz z0 s) (hAz : ∀ q, AA q → z0 ≤ q) (hA : ∀ q, s.heap.size ≤ q → AA q) (N : Nat) (hN : 5 * N + 5 ≤ L)
    {H : Heap} {locs : List Loc} {cells slots : Nat} (hc : cells + 8 ≤ R.cells ∧ slots + 200 ≤ R.slots) (f : Nat → Int64) (P : Nat → Nat → Nat) (r0 : Int) (σ : Sg) {n k : Nat} (hI : Iv σ n k N) (hP : gP G ((oC G o f ++ CW G B P σ k) ++ MW G A r0 σ) H) (hD : va_D AA ((oC G o f ++ CW G B P σ k) ++ MW G A r0 σ)) (hS : va_S AA s.heap H locs) {ls : Array Slot} (hl : lv_has ls 7 [(0, .ref b), (1, .ref (B 5)), (2, .ref (A 0)), (3, .ref o), (4, .int (iI ((5 * N : Nat) : Int)))])
    (kk : ∀ (f' : Nat → Int64) (P' : Nat → Nat → Nat) (r' : Int) (σ' : Sg) (n' k' : Nat) (H1 : Heap) (locs1 : List Loc) (ls1 : Array Slot), Iv σ' n' k' (N + 1) → gP G ((oC G o f' ++ CW G B P' σ' k') ++ MW G A r' σ') H1 → va_D AA ((oC G o f' ++ CW G B P' σ' k') ++ MW G A r' σ') → va_S AA s.heap H1 locs1 → lv_has ls1 7 [(0, .ref b), (1, .ref (B 5)), (2, .ref (A 0)), (3, .ref o), (4, .int (iI ((5 * N : Nat) : Int)))] → W p l e R s m args below meth c H1 locs1 (cells + 8) (slots + 200) Q (F0 m 1395 ls1 [])) : W p l e R s m args below meth c H locs cells slots Q (F0 m 1203 ls []) := by
  have hN5 : N ≤ 512 := by omega
  refine lv_aload_n F.1 F.2.1 dL_law_1203 rfl (lv_at hl 1 rfl) ?_
  refine lv_aload_n F.1 F.2.1 dL_law_1204 rfl (lv_at hl 0 rfl) ?_
  refine lv_iload F.1 F.2.1 dL_law_1205 (lv_at hl 4 rfl) ?_
  refine k_iconst F dL_law_1207 ?_
  refine k_iadd F rfl dL_law_1208 ?_
  refine k_sld F hX hbl hbA hS (5 * N + 1) (by omega) (by omega) hL dL_law_1209 ?_
  refine lv_aload_n F.1 F.2.1 dL_law_1210 rfl (lv_at hl 0 rfl) ?_
  refine lv_iload F.1 F.2.1 dL_law_1211 (lv_at hl 4 rfl) ?_
  refine k_iconst F dL_law_1213 ?_
  refine k_iadd F rfl dL_law_1214 ?_
  refine k_sld F hX hbl hbA hS (5 * N + 2) (by omega) (by omega) hL dL_law_1215 ?_
  refine lv_aload_n F.1 F.2.1 dL_law_1216 rfl (lv_at hl 3 rfl) ?_
  refine l_callS F (n := 4) (wr := MW G A r0 σ) (W2 := fun u : Nat → Int64 => oC G o u ++ CW G B P (if kReh σ ((xs (5 * N + 1)).toInt) ((xs (5 * N + 2)).toInt) = 0 then (rhS σ ((xs (5 * N + 1)).toInt).toNat ((xs (5 * N + 2)).toInt).toNat) else σ) k) (mL_rehearse l hfl G z0 H.size o f B P σ ((xs (5 * N + 1)).toInt) ((xs (5 * N + 2)).toInt) (iI_rg _) (iI_rg _) hI hN5) gL_law_L_rehearse rfl rfl rfl (by decide +kernel) ⟨Nat.le_trans (Nat.le_of_ble_eq_true rfl) hRf.1, Nat.le_trans (Nat.le_of_ble_eq_true rfl) hRf.2⟩ hK hP hD hz hAz hS hA rfl rfl hl.1 (Nat.le_of_ble_eq_true rfl) dL_law_1217 ⟨by omega, by omega⟩ (fun r u H locs hpost hP hD hS => ?_)
  obtain ⟨rfl, hu⟩ := hpost
  have hKr : -2147483648 ≤ kReh σ ((xs (5 * N + 1)).toInt) ((xs (5 * N + 2)).toInt) ∧ kReh σ ((xs (5 * N + 1)).toInt) ((xs (5 * N + 2)).toInt) < 2147483648 := by
    unfold kReh
    (repeat' split) <;> omega
  refine lv_istore (lv' := [(5, .int (iI (kReh σ ((xs (5 * N + 1)).toInt) ((xs (5 * N + 2)).toInt)))), (0, .ref b), (1, .ref (B 5)), (2, .ref (A 0)), (3, .ref o), (4, .int (iI ((5 * N : Nat) : Int)))]) F.1 F.2.1 dL_law_1220 hl (by decide) rfl (fun ls hl => ?_)
  refine lv_aload_n F.1 F.2.1 dL_law_1222 rfl (lv_at hl 3 rfl) ?_
  refine lv_aload_n F.1 F.2.1 dL_law_1223 rfl (lv_at hl 1 rfl) ?_
  refine lv_iload F.1 F.2.1 dL_law_1224 (lv_at hl 5 rfl) ?_
  refine k_iconst F dL_law_1226 ?_
  refine k_iadd F rfl dL_law_1227 ?_
  refine k_sld F hX hbl hbA hS (5 * N + 1) (by omega) (by omega) hL dL_law_1228 ?_
  refine lv_aload_n F.1 F.2.1 dL_law_1229 rfl (lv_at hl 1 rfl) ?_
  refine lv_iload F.1 F.2.1 dL_law_1230 (lv_at hl 5 rfl) ?_
  refine k_iconst F dL_law_1232 ?_
  refine k_iadd F rfl dL_law_1233 ?_
  refine k_sld F hX hbl hbA hS (5 * N + 2) (by omega) (by omega) hL dL_law_1234 ?_
  refine wr_V F (n := 2) (w := MW G A r0 σ) (w' := MW G A (kReh σ ((xs (5 * N + 1)).toInt) ((xs (5 * N + 2)).toInt)) (if kReh σ ((xs (5 * N + 1)).toInt) ((xs (5 * N + 2)).toInt) = 0 then (rhS σ ((xs (5 * N + 1)).toInt).toNat ((xs (5 * N + 2)).toInt).toNat) else σ)) (wr := (oC G o u ++ CW G B P (if kReh σ ((xs (5 * N + 1)).toInt) ((xs (5 * N + 2)).toInt) = 0 then (rhS σ ((xs (5 * N + 1)).toInt).toNat ((xs (5 * N + 2)).toInt).toNat) else σ) k)) (ws2 := (oC G o u ++ CW G B P (if kReh σ ((xs (5 * N + 1)).toInt) ((xs (5 * N + 2)).toInt) = 0 then (rhS σ ((xs (5 * N + 1)).toInt).toNat ((xs (5 * N + 2)).toInt).toNat) else σ) k) ++ MW G A (kReh σ ((xs (5 * N + 1)).toInt) ((xs (5 * N + 2)).toInt)) (if kReh σ ((xs (5 * N + 1)).toInt) ((xs (5 * N + 2)).toInt) = 0 then (rhS σ ((xs (5 * N + 1)).toInt).toNat ((xs (5 * N + 2)).toInt).toNat) else σ)) (mX3_rehearse l G H.size A r0 σ ((xs (5 * N + 1)).toInt) ((xs (5 * N + 2)).toInt) (iI_rg _) (iI_rg _) hI hN5) gL_law_X3_rehearse rfl rfl rfl (by decide +kernel) ⟨Nat.le_trans (Nat.le_of_ble_eq_true rfl) hRf.1, Nat.le_trans (Nat.le_of_ble_eq_true rfl) hRf.2⟩ hK hP hD hS hA List.perm_append_comm List.perm_append_comm rfl (ci := 3) (q0 := 0) rfl rfl rfl rfl hl.1 (Nat.le_of_ble_eq_true rfl) dL_law_1235 ⟨by omega, by omega⟩ (fun H locs hP hD hS => ?_)
  refine lv_istore (lv' := [(6, .int (iI (if kReh σ ((xs (5 * N + 1)).toInt) ((xs (5 * N + 2)).toInt) = 0 then wsm (rhS σ ((xs (5 * N + 1)).toInt).toNat ((xs (5 * N + 2)).toInt).toNat) ((xs (5 * N + 1)).toInt).toNat ((rhS σ ((xs (5 * N + 1)).toInt).toNat ((xs (5 * N + 2)).toInt).toNat) 8 ((xs (5 * N + 1)).toInt).toNat 0).toNat else 0))), (5, .int (iI (kReh σ ((xs (5 * N + 1)).toInt) ((xs (5 * N + 2)).toInt)))), (0, .ref b), (1, .ref (B 5)), (2, .ref (A 0)), (3, .ref o), (4, .int (iI ((5 * N : Nat) : Int)))]) F.1 F.2.1 dL_law_1238 hl (by decide) rfl (fun ls hl => ?_)
  refine lv_aload_n F.1 F.2.1 dL_law_1240 rfl (lv_at hl 4 rfl) ?_
  refine rd_V F (n := 0) (w0 := []) (mX3_thrown l G A (kReh σ ((xs (5 * N + 1)).toInt) ((xs (5 * N + 2)).toInt)) (if kReh σ ((xs (5 * N + 1)).toInt) ((xs (5 * N + 2)).toInt) = 0 then (rhS σ ((xs (5 * N + 1)).toInt).toNat ((xs (5 * N + 2)).toInt).toNat) else σ)) gL_law_X3_thrown rfl rfl rfl (by decide +kernel) ⟨Nat.le_trans (Nat.le_of_ble_eq_true rfl) hRf.1, Nat.le_trans (Nat.le_of_ble_eq_true rfl) hRf.2⟩ hK (gP_app.mp hP).2 (ci := 3) (q0 := 0) rfl rfl rfl rfl hl.1 (Nat.le_of_ble_eq_true rfl) dL_law_1241 ⟨by omega, by omega⟩ ?_
  refine lv_iload F.1 F.2.1 dL_law_1244 (lv_at hl 1 rfl) ?_
  refine k_icmp_eq F (tgt := 1251) dL_law_1246 (by decide) hKr hKr (fun _ => ?_) (fun h9 => absurd rfl h9)
  refine lv_iload F.1 F.2.1 dL_law_1251 (lv_at hl 1 rfl) ?_
  refine k_if_ne F (tgt := 1268) dL_law_1253 (by decide) hKr (fun hk0 => ?_) (fun hk0 => ?_)
  · skip
    refine lv_goto (tgt := 1395) F.1 F.2.1 dL_law_1268 (by decide) ?_
    have hI2 : Iv (if kReh σ ((xs (5 * N + 1)).toInt) ((xs (5 * N + 2)).toInt) = 0 then (rhS σ ((xs (5 * N + 1)).toInt).toNat ((xs (5 * N + 2)).toInt).toNat) else σ) n k (N + 1) := by
      by_cases h0 : kReh σ ((xs (5 * N + 1)).toInt) ((xs (5 * N + 2)).toInt) = 0
      · rw [if_pos h0]
        have h1 := kReh0 h0
        have h2 := hI.2.2.1
        exact (Iv_rhS hI hN5 (by omega) _ (by omega)).1
      · rw [if_neg h0]; exact Iv_up hI (by omega)
    refine W.widen (k := cells + 8) (n := slots + 200) (by omega) (by omega) ?_
    exact kk u P (kReh σ ((xs (5 * N + 1)).toInt) ((xs (5 * N + 2)).toInt)) (if kReh σ ((xs (5 * N + 1)).toInt) ((xs (5 * N + 2)).toInt) = 0 then (rhS σ ((xs (5 * N + 1)).toInt).toNat ((xs (5 * N + 2)).toInt).toNat) else σ) n k H locs ls hI2 hP hD hS (lv_sub hl [2, 3, 4, 5, 6] rfl)
  · skip
    refine lv_aload_n F.1 F.2.1 dL_law_1256 rfl (lv_at hl 5 rfl) ?_
    refine k_iconst F dL_law_1257 ?_
    refine va_lald F.1 F.2.1 hK hP 0 2 rfl rfl (iI_in (k := 0) rfl (by decide) (by decide)) dL_law_1258 ?_
    refine lv_iload F.1 F.2.1 dL_law_1259 (lv_at hl 0 rfl) ?_
    refine lv_i2l F.1 F.2.1 dL_law_1261 rfl ?_
    refine k_lcmpE F (by rw [cl0, hu hk0, if_pos hk0]) dL_law_1262 ?_
    refine k_if_eq F (tgt := 1268) dL_law_1263 (by decide) (by decide) (fun _ => ?_) (fun h9 => absurd rfl h9)
    refine lv_goto (tgt := 1395) F.1 F.2.1 dL_law_1268 (by decide) ?_
    have hI2 : Iv (if kReh σ ((xs (5 * N + 1)).toInt) ((xs (5 * N + 2)).toInt) = 0 then (rhS σ ((xs (5 * N + 1)).toInt).toNat ((xs (5 * N + 2)).toInt).toNat) else σ) n k (N + 1) := by
      by_cases h0 : kReh σ ((xs (5 * N + 1)).toInt) ((xs (5 * N + 2)).toInt) = 0
      · rw [if_pos h0]
        have h1 := kReh0 h0
        have h2 := hI.2.2.1
        exact (Iv_rhS hI hN5 (by omega) _ (by omega)).1
      · rw [if_neg h0]; exact Iv_up hI (by omega)
    refine W.widen (k := cells + 8) (n := slots + 200) (by omega) (by omega) ?_
    exact kk u P (kReh σ ((xs (5 * N + 1)).toInt) ((xs (5 * N + 2)).toInt)) (if kReh σ ((xs (5 * N + 1)).toInt) ((xs (5 * N + 2)).toInt) = 0 then (rhS σ ((xs (5 * N + 1)).toInt).toNat ((xs (5 * N + 2)).toInt).toNat) else σ) n k H locs ls hI2 hP hD hS (lv_sub hl [2, 3, 4, 5, 6] rfl)

set_option maxHeartbeats 8000000 in
set_option maxRecDepth 100000 in
theorem law_weakness {p : Program} {l : Launch} {e : Env} {R : Room} {s : State} {m : MethodId} {args : Array Value} {below : List Frame} {meth : Method} {c : Code} {Q : State → Prop} {AA : Nat → Prop} (F : CallFix p m c cL_law 7 s args wsL_law RL) (hfl : l.stackTraces = false) (hRf : 12 ≤ R.frames ∧ 400 ≤ R.locals) {G : gT} {B A : Nat → Nat} {o b L z0 : Nat} {xs : Nat → Int32} (hX : va_X b L xs s s.heap) (hbl : b < s.heap.size) (hbA : ¬ AA b) (hL : L ≤ 2560) (hK : gK G s) (hz : lz z0 s) (hAz : ∀ q, AA q → z0 ≤ q) (hA : ∀ q, s.heap.size ≤ q → AA q) (N : Nat) (hN : 5 * N + 5 ≤ L)
    {H : Heap} {locs : List Loc} {cells slots : Nat} (hc : cells + 8 ≤ R.cells ∧ slots + 200 ≤ R.slots) (f : Nat → Int64) (P : Nat → Nat → Nat) (r0 : Int) (σ : Sg) {n k : Nat} (hI : Iv σ n k N) (hP : gP G ((oC G o f ++ CW G B P σ k) ++ MW G A r0 σ) H) (hD : va_D AA ((oC G o f ++ CW G B P σ k) ++ MW G A r0 σ)) (hS : va_S AA s.heap H locs) {ls : Array Slot} (hl : lv_has ls 7 [(0, .ref b), (1, .ref (B 5)), (2, .ref (A 0)), (3, .ref o), (4, .int (iI ((5 * N : Nat) : Int)))])
    (kk : ∀ (f' : Nat → Int64) (P' : Nat → Nat → Nat) (r' : Int) (σ' : Sg) (n' k' : Nat) (H1 : Heap) (locs1 : List Loc) (ls1 : Array Slot), Iv σ' n' k' (N + 1) → gP G ((oC G o f' ++ CW G B P' σ' k') ++ MW G A r' σ') H1 → va_D AA ((oC G o f' ++ CW G B P' σ' k') ++ MW G A r' σ') → va_S AA s.heap H1 locs1 → lv_has ls1 7 [(0, .ref b), (1, .ref (B 5)), (2, .ref (A 0)), (3, .ref o), (4, .int (iI ((5 * N : Nat) : Int)))] → W p l e R s m args below meth c H1 locs1 (cells + 8) (slots + 200) Q (F0 m 1395 ls1 [])) : W p l e R s m args below meth c H locs cells slots Q (F0 m 1271 ls []) := by
  have hN5 : N ≤ 512 := by omega
  refine lv_aload_n F.1 F.2.1 dL_law_1271 rfl (lv_at hl 1 rfl) ?_
  refine lv_aload_n F.1 F.2.1 dL_law_1272 rfl (lv_at hl 0 rfl) ?_
  refine lv_iload F.1 F.2.1 dL_law_1273 (lv_at hl 4 rfl) ?_
  refine k_iconst F dL_law_1275 ?_
  refine k_iadd F rfl dL_law_1276 ?_
  refine k_sld F hX hbl hbA hS (5 * N + 1) (by omega) (by omega) hL dL_law_1277 ?_
  refine lv_aload_n F.1 F.2.1 dL_law_1278 rfl (lv_at hl 0 rfl) ?_
  refine lv_iload F.1 F.2.1 dL_law_1279 (lv_at hl 4 rfl) ?_
  refine k_iconst F dL_law_1281 ?_
  refine k_iadd F rfl dL_law_1282 ?_
  refine k_sld F hX hbl hbA hS (5 * N + 2) (by omega) (by omega) hL dL_law_1283 ?_
  refine lv_aload_n F.1 F.2.1 dL_law_1284 rfl (lv_at hl 3 rfl) ?_
  refine l_callS F (n := 4) (wr := MW G A r0 σ) (W2 := fun u : Nat → Int64 => oC G o u ++ CW G B P σ k) (mL_weakness l hfl G z0 H.size o f B P σ ((xs (5 * N + 1)).toInt) ((xs (5 * N + 2)).toInt) (iI_rg _) (iI_rg _) hI hN5) gL_law_L_weakness rfl rfl rfl (by decide +kernel) ⟨Nat.le_trans (Nat.le_of_ble_eq_true rfl) hRf.1, Nat.le_trans (Nat.le_of_ble_eq_true rfl) hRf.2⟩ hK hP hD hz hAz hS hA rfl rfl hl.1 (Nat.le_of_ble_eq_true rfl) dL_law_1285 ⟨by omega, by omega⟩ (fun r u H locs hpost hP hD hS => ?_)
  obtain ⟨rfl, hu⟩ := hpost
  have hKr : -2147483648 ≤ kFat σ ((xs (5 * N + 1)).toInt) ((xs (5 * N + 2)).toInt) ∧ kFat σ ((xs (5 * N + 1)).toInt) ((xs (5 * N + 2)).toInt) < 2147483648 := by
    unfold kFat
    (repeat' split) <;> omega
  refine lv_istore (lv' := [(5, .int (iI (kFat σ ((xs (5 * N + 1)).toInt) ((xs (5 * N + 2)).toInt)))), (0, .ref b), (1, .ref (B 5)), (2, .ref (A 0)), (3, .ref o), (4, .int (iI ((5 * N : Nat) : Int)))]) F.1 F.2.1 dL_law_1288 hl (by decide) rfl (fun ls hl => ?_)
  refine lv_aload_n F.1 F.2.1 dL_law_1290 rfl (lv_at hl 3 rfl) ?_
  refine lv_aload_n F.1 F.2.1 dL_law_1291 rfl (lv_at hl 1 rfl) ?_
  refine lv_iload F.1 F.2.1 dL_law_1292 (lv_at hl 5 rfl) ?_
  refine k_iconst F dL_law_1294 ?_
  refine k_iadd F rfl dL_law_1295 ?_
  refine k_sld F hX hbl hbA hS (5 * N + 1) (by omega) (by omega) hL dL_law_1296 ?_
  refine lv_aload_n F.1 F.2.1 dL_law_1297 rfl (lv_at hl 1 rfl) ?_
  refine lv_iload F.1 F.2.1 dL_law_1298 (lv_at hl 5 rfl) ?_
  refine k_iconst F dL_law_1300 ?_
  refine k_iadd F rfl dL_law_1301 ?_
  refine k_sld F hX hbl hbA hS (5 * N + 2) (by omega) (by omega) hL dL_law_1302 ?_
  refine wr_V F (n := 2) (w := MW G A r0 σ) (w' := MW G A (kFat σ ((xs (5 * N + 1)).toInt) ((xs (5 * N + 2)).toInt)) σ) (wr := (oC G o u ++ CW G B P σ k)) (ws2 := (oC G o u ++ CW G B P σ k) ++ MW G A (kFat σ ((xs (5 * N + 1)).toInt) ((xs (5 * N + 2)).toInt)) σ) (mX3_weakness l G H.size A r0 σ ((xs (5 * N + 1)).toInt) ((xs (5 * N + 2)).toInt) (iI_rg _) (iI_rg _) hI) gL_law_X3_weakness rfl rfl rfl (by decide +kernel) ⟨Nat.le_trans (Nat.le_of_ble_eq_true rfl) hRf.1, Nat.le_trans (Nat.le_of_ble_eq_true rfl) hRf.2⟩ hK hP hD hS hA List.perm_append_comm List.perm_append_comm rfl (ci := 3) (q0 := 0) rfl rfl rfl rfl hl.1 (Nat.le_of_ble_eq_true rfl) dL_law_1303 ⟨by omega, by omega⟩ (fun H locs hP hD hS => ?_)
  refine lv_istore (lv' := [(6, .int (iI (if kFat σ ((xs (5 * N + 1)).toInt) ((xs (5 * N + 2)).toInt) = 0 then wkS σ ((xs (5 * N + 1)).toInt).toNat ((xs (5 * N + 2)).toInt).toNat else 0))), (5, .int (iI (kFat σ ((xs (5 * N + 1)).toInt) ((xs (5 * N + 2)).toInt)))), (0, .ref b), (1, .ref (B 5)), (2, .ref (A 0)), (3, .ref o), (4, .int (iI ((5 * N : Nat) : Int)))]) F.1 F.2.1 dL_law_1306 hl (by decide) rfl (fun ls hl => ?_)
  refine lv_aload_n F.1 F.2.1 dL_law_1308 rfl (lv_at hl 4 rfl) ?_
  refine rd_V F (n := 0) (w0 := []) (mX3_thrown l G A (kFat σ ((xs (5 * N + 1)).toInt) ((xs (5 * N + 2)).toInt)) σ) gL_law_X3_thrown rfl rfl rfl (by decide +kernel) ⟨Nat.le_trans (Nat.le_of_ble_eq_true rfl) hRf.1, Nat.le_trans (Nat.le_of_ble_eq_true rfl) hRf.2⟩ hK (gP_app.mp hP).2 (ci := 3) (q0 := 0) rfl rfl rfl rfl hl.1 (Nat.le_of_ble_eq_true rfl) dL_law_1309 ⟨by omega, by omega⟩ ?_
  refine lv_iload F.1 F.2.1 dL_law_1312 (lv_at hl 1 rfl) ?_
  refine k_icmp_eq F (tgt := 1319) dL_law_1314 (by decide) hKr hKr (fun _ => ?_) (fun h9 => absurd rfl h9)
  refine lv_iload F.1 F.2.1 dL_law_1319 (lv_at hl 1 rfl) ?_
  refine k_if_ne F (tgt := 1336) dL_law_1321 (by decide) hKr (fun hk0 => ?_) (fun hk0 => ?_)
  · skip
    refine lv_goto (tgt := 1395) F.1 F.2.1 dL_law_1336 (by decide) ?_
    have hI2 := Iv_up hI (by omega)
    refine W.widen (k := cells + 8) (n := slots + 200) (by omega) (by omega) ?_
    exact kk u P (kFat σ ((xs (5 * N + 1)).toInt) ((xs (5 * N + 2)).toInt)) σ n k H locs ls hI2 hP hD hS (lv_sub hl [2, 3, 4, 5, 6] rfl)
  · skip
    refine lv_aload_n F.1 F.2.1 dL_law_1324 rfl (lv_at hl 5 rfl) ?_
    refine k_iconst F dL_law_1325 ?_
    refine va_lald F.1 F.2.1 hK hP 0 2 rfl rfl (iI_in (k := 0) rfl (by decide) (by decide)) dL_law_1326 ?_
    refine lv_iload F.1 F.2.1 dL_law_1327 (lv_at hl 0 rfl) ?_
    refine lv_i2l F.1 F.2.1 dL_law_1329 rfl ?_
    refine k_lcmpE F (by rw [cl0, hu hk0, if_pos hk0]) dL_law_1330 ?_
    refine k_if_eq F (tgt := 1336) dL_law_1331 (by decide) (by decide) (fun _ => ?_) (fun h9 => absurd rfl h9)
    refine lv_goto (tgt := 1395) F.1 F.2.1 dL_law_1336 (by decide) ?_
    have hI2 := Iv_up hI (by omega)
    refine W.widen (k := cells + 8) (n := slots + 200) (by omega) (by omega) ?_
    exact kk u P (kFat σ ((xs (5 * N + 1)).toInt) ((xs (5 * N + 2)).toInt)) σ n k H locs ls hI2 hP hD hS (lv_sub hl [2, 3, 4, 5, 6] rfl)

set_option maxHeartbeats 8000000 in
set_option maxRecDepth 100000 in
theorem law_weakest {p : Program} {l : Launch} {e : Env} {R : Room} {s : State} {m : MethodId} {args : Array Value} {below : List Frame} {meth : Method} {c : Code} {Q : State → Prop} {AA : Nat → Prop} (F : CallFix p m c cL_law 7 s args wsL_law RL) (hfl : l.stackTraces = false) (hRf : 12 ≤ R.frames ∧ 400 ≤ R.locals) {G : gT} {B A : Nat → Nat} {o b L z0 : Nat} {xs : Nat → Int32} (hX : va_X b L xs s s.heap) (hbl : b < s.heap.size) (hbA : ¬ AA b) (hL : L ≤ 2560) (hK : gK G s) (hz : lz z0 s) (hAz : ∀ q, AA q → z0 ≤ q) (hA : ∀ q, s.heap.size ≤ q → AA q) (N : Nat) (hN : 5 * N + 5 ≤ L)
    {H : Heap} {locs : List Loc} {cells slots : Nat} (hc : cells + 8 ≤ R.cells ∧ slots + 200 ≤ R.slots) (f : Nat → Int64) (P : Nat → Nat → Nat) (r0 : Int) (σ : Sg) {n k : Nat} (hI : Iv σ n k N) (hP : gP G ((oC G o f ++ CW G B P σ k) ++ MW G A r0 σ) H) (hD : va_D AA ((oC G o f ++ CW G B P σ k) ++ MW G A r0 σ)) (hS : va_S AA s.heap H locs) {ls : Array Slot} (hl : lv_has ls 7 [(0, .ref b), (1, .ref (B 5)), (2, .ref (A 0)), (3, .ref o), (4, .int (iI ((5 * N : Nat) : Int)))])
    (kk : ∀ (f' : Nat → Int64) (P' : Nat → Nat → Nat) (r' : Int) (σ' : Sg) (n' k' : Nat) (H1 : Heap) (locs1 : List Loc) (ls1 : Array Slot), Iv σ' n' k' (N + 1) → gP G ((oC G o f' ++ CW G B P' σ' k') ++ MW G A r' σ') H1 → va_D AA ((oC G o f' ++ CW G B P' σ' k') ++ MW G A r' σ') → va_S AA s.heap H1 locs1 → lv_has ls1 7 [(0, .ref b), (1, .ref (B 5)), (2, .ref (A 0)), (3, .ref o), (4, .int (iI ((5 * N : Nat) : Int)))] → W p l e R s m args below meth c H1 locs1 (cells + 8) (slots + 200) Q (F0 m 1395 ls1 [])) : W p l e R s m args below meth c H locs cells slots Q (F0 m 1339 ls []) := by
  have hN5 : N ≤ 512 := by omega
  refine lv_aload_n F.1 F.2.1 dL_law_1339 rfl (lv_at hl 1 rfl) ?_
  refine lv_aload_n F.1 F.2.1 dL_law_1340 rfl (lv_at hl 0 rfl) ?_
  refine lv_iload F.1 F.2.1 dL_law_1341 (lv_at hl 4 rfl) ?_
  refine k_iconst F dL_law_1343 ?_
  refine k_iadd F rfl dL_law_1344 ?_
  refine k_sld F hX hbl hbA hS (5 * N + 1) (by omega) (by omega) hL dL_law_1345 ?_
  refine lv_aload_n F.1 F.2.1 dL_law_1346 rfl (lv_at hl 3 rfl) ?_
  refine l_callS F (n := 3) (wr := MW G A r0 σ) (W2 := fun u : Nat → Int64 => oC G o u ++ CW G B P σ k) (mL_weakest l hfl G z0 H.size o f B P σ ((xs (5 * N + 1)).toInt) (iI_rg _) hI hN5) gL_law_L_weakest rfl rfl rfl (by decide +kernel) ⟨Nat.le_trans (Nat.le_of_ble_eq_true rfl) hRf.1, Nat.le_trans (Nat.le_of_ble_eq_true rfl) hRf.2⟩ hK hP hD hz hAz hS hA rfl rfl hl.1 (Nat.le_of_ble_eq_true rfl) dL_law_1347 ⟨by omega, by omega⟩ (fun r u H locs hpost hP hD hS => ?_)
  obtain ⟨rfl, hu⟩ := hpost
  have hKr : -2147483648 ≤ kPic σ ((xs (5 * N + 1)).toInt) ∧ kPic σ ((xs (5 * N + 1)).toInt) < 2147483648 := by
    unfold kPic
    (repeat' split) <;> omega
  refine lv_istore (lv' := [(5, .int (iI (kPic σ ((xs (5 * N + 1)).toInt)))), (0, .ref b), (1, .ref (B 5)), (2, .ref (A 0)), (3, .ref o), (4, .int (iI ((5 * N : Nat) : Int)))]) F.1 F.2.1 dL_law_1350 hl (by decide) rfl (fun ls hl => ?_)
  refine lv_aload_n F.1 F.2.1 dL_law_1352 rfl (lv_at hl 3 rfl) ?_
  refine lv_aload_n F.1 F.2.1 dL_law_1353 rfl (lv_at hl 1 rfl) ?_
  refine lv_iload F.1 F.2.1 dL_law_1354 (lv_at hl 5 rfl) ?_
  refine k_iconst F dL_law_1356 ?_
  refine k_iadd F rfl dL_law_1357 ?_
  refine k_sld F hX hbl hbA hS (5 * N + 1) (by omega) (by omega) hL dL_law_1358 ?_
  refine wr_V F (n := 1) (w := MW G A r0 σ) (w' := MW G A (kPic σ ((xs (5 * N + 1)).toInt)) σ) (wr := (oC G o u ++ CW G B P σ k)) (ws2 := (oC G o u ++ CW G B P σ k) ++ MW G A (kPic σ ((xs (5 * N + 1)).toInt)) σ) (mX3_weakest l G H.size A r0 σ ((xs (5 * N + 1)).toInt) (iI_rg _) hI) gL_law_X3_weakest rfl rfl rfl (by decide +kernel) ⟨Nat.le_trans (Nat.le_of_ble_eq_true rfl) hRf.1, Nat.le_trans (Nat.le_of_ble_eq_true rfl) hRf.2⟩ hK hP hD hS hA List.perm_append_comm List.perm_append_comm rfl (ci := 3) (q0 := 0) rfl rfl rfl rfl hl.1 (Nat.le_of_ble_eq_true rfl) dL_law_1359 ⟨by omega, by omega⟩ (fun H locs hP hD hS => ?_)
  refine lv_istore (lv' := [(6, .int (iI (if kPic σ ((xs (5 * N + 1)).toInt) = 0 then ((wkq σ ((xs (5 * N + 1)).toInt).toNat : Nat) : Int) else 0))), (5, .int (iI (kPic σ ((xs (5 * N + 1)).toInt)))), (0, .ref b), (1, .ref (B 5)), (2, .ref (A 0)), (3, .ref o), (4, .int (iI ((5 * N : Nat) : Int)))]) F.1 F.2.1 dL_law_1362 hl (by decide) rfl (fun ls hl => ?_)
  refine lv_aload_n F.1 F.2.1 dL_law_1364 rfl (lv_at hl 4 rfl) ?_
  refine rd_V F (n := 0) (w0 := []) (mX3_thrown l G A (kPic σ ((xs (5 * N + 1)).toInt)) σ) gL_law_X3_thrown rfl rfl rfl (by decide +kernel) ⟨Nat.le_trans (Nat.le_of_ble_eq_true rfl) hRf.1, Nat.le_trans (Nat.le_of_ble_eq_true rfl) hRf.2⟩ hK (gP_app.mp hP).2 (ci := 3) (q0 := 0) rfl rfl rfl rfl hl.1 (Nat.le_of_ble_eq_true rfl) dL_law_1365 ⟨by omega, by omega⟩ ?_
  refine lv_iload F.1 F.2.1 dL_law_1368 (lv_at hl 1 rfl) ?_
  refine k_icmp_eq F (tgt := 1375) dL_law_1370 (by decide) hKr hKr (fun _ => ?_) (fun h9 => absurd rfl h9)
  refine lv_iload F.1 F.2.1 dL_law_1375 (lv_at hl 1 rfl) ?_
  refine k_if_ne F (tgt := 1392) dL_law_1377 (by decide) hKr (fun hk0 => ?_) (fun hk0 => ?_)
  · skip
    refine lv_goto (tgt := 1395) F.1 F.2.1 dL_law_1392 (by decide) ?_
    have hI2 := Iv_up hI (by omega)
    refine W.widen (k := cells + 8) (n := slots + 200) (by omega) (by omega) ?_
    exact kk u P (kPic σ ((xs (5 * N + 1)).toInt)) σ n k H locs ls hI2 hP hD hS (lv_sub hl [2, 3, 4, 5, 6] rfl)
  · skip
    refine lv_aload_n F.1 F.2.1 dL_law_1380 rfl (lv_at hl 5 rfl) ?_
    refine k_iconst F dL_law_1381 ?_
    refine va_lald F.1 F.2.1 hK hP 0 2 rfl rfl (iI_in (k := 0) rfl (by decide) (by decide)) dL_law_1382 ?_
    refine lv_iload F.1 F.2.1 dL_law_1383 (lv_at hl 0 rfl) ?_
    refine lv_i2l F.1 F.2.1 dL_law_1385 rfl ?_
    refine k_lcmpE F (by rw [cl0, hu hk0, if_pos hk0]) dL_law_1386 ?_
    refine k_if_eq F (tgt := 1392) dL_law_1387 (by decide) (by decide) (fun _ => ?_) (fun h9 => absurd rfl h9)
    refine lv_goto (tgt := 1395) F.1 F.2.1 dL_law_1392 (by decide) ?_
    have hI2 := Iv_up hI (by omega)
    refine W.widen (k := cells + 8) (n := slots + 200) (by omega) (by omega) ?_
    exact kk u P (kPic σ ((xs (5 * N + 1)).toInt)) σ n k H locs ls hI2 hP hD hS (lv_sub hl [2, 3, 4, 5, 6] rfl)
