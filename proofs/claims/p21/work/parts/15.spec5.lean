/-! what each call is: refused how, answer, state behind -/
abbrev isC (σ : Sg) (x y : Int) : Prop := 0 ≤ x ∧ x ≤ σ 2 0 0 - 1 ∧ 0 ≤ y ∧ y ≤ σ 8 x.toNat 0 - 1
def kAdd (σ : Sg) (v lo hi : Int) : Int := if ¬ ((0 ≤ v ∧ v ≤ 3) ∧ (0 ≤ lo ∧ lo ≤ 60) ∧ lo ≤ hi ∧ hi ≤ 60) then 1 else if σ 1 0 0 = 12 then 2 else 0
abbrev sAdd (σ : Sg) (v lo hi : Int) : Sg := su (su (su (su σ 3 0 (σ 1 0 0).toNat v) 4 0 (σ 1 0 0).toNat lo) 5 0 (σ 1 0 0).toNat hi) 1 0 0 (σ 1 0 0 + 1)
def kTel (σ : Sg) (x d : Int) : Int := if ¬ (0 ≤ x ∧ x ≤ σ 1 0 0 - 1) then 1 else if 0 ≤ d ∧ d ≤ 30 then 0 else 2
abbrev sTel (σ : Sg) (x d t : Int) : Sg := su σ 6 0 x.toNat (if t = 0 then orI (σ 6 0 x.toNat) (shlI 1 d) else andI (σ 6 0 x.toNat) (xorI (shlI 1 d) (-1)))
def kChg (σ : Sg) (x v : Int) : Int := if ¬ (0 ≤ x ∧ x ≤ σ 1 0 0 - 1) then 1 else if 0 ≤ v ∧ v ≤ 3 then 0 else 2
def kRng (v d : Int) : Int := if (0 ≤ v ∧ v ≤ 3) ∧ 0 ≤ d ∧ d ≤ 30 then 0 else 1
abbrev vRng (σ : Sg) (v d : Int) (n : Nat) : Int := if laA σ v d n < foM σ v d n then -1 else 100 * foM σ v d n + laA σ v d n
def kChd (σ : Sg) (a b c d : Int) : Int := if ¬ ((0 ≤ a ∧ a ≤ 60) ∧ (0 ≤ b ∧ b ≤ a) ∧ (0 ≤ c ∧ c ≤ b) ∧ 0 ≤ d ∧ d ≤ c) then 1 else if σ 8 (σ 2 0 0).toNat 0 = 16 then 2 else 0
abbrev sChd (σ : Sg) (a b c d : Int) : Sg :=
  su (su (su (su (su σ 7 (σ 2 0 0).toNat (4 * (σ 8 (σ 2 0 0).toNat 0).toNat) a) 7 (σ 2 0 0).toNat (4 * (σ 8 (σ 2 0 0).toNat 0).toNat + 1) b) 7 (σ 2 0 0).toNat (4 * (σ 8 (σ 2 0 0).toNat 0).toNat + 2) c) 7 (σ 2 0 0).toNat (4 * (σ 8 (σ 2 0 0).toNat 0).toNat + 3) d) 8 (σ 2 0 0).toNat 0 (σ 8 (σ 2 0 0).toNat 0 + 1)
def kPce (σ : Sg) (x : Int) : Int := if ¬ (1 ≤ x ∧ x ≤ 3600) then 1 else if 0 < σ 8 (σ 2 0 0).toNat 0 ∧ σ 2 0 0 < 6 then 0 else 2
abbrev sPce (σ : Sg) (x : Int) : Sg := su (su σ 9 (σ 2 0 0).toNat 0 x) 2 0 0 (σ 2 0 0 + 1)
def kSet (σ : Sg) (x y v t : Int) : Int := if ¬ isC σ x y then 1 else if ¬ ((0 ≤ v ∧ v ≤ 3) ∧ 0 ≤ t ∧ t ≤ 60) then 2 else if flr (σ 7 x.toNat) y.toNat v.toNat ≤ t ∧ t ≤ clg (σ 7 x.toNat) y.toNat v.toNat then 0 else 3
abbrev sSet (σ : Sg) (x y v t : Int) : Sg := su σ 7 x.toNat (4 * y.toNat + v.toNat) t
def kFat (σ : Sg) (x y : Int) : Int := if isC σ x y then 0 else 1
def kPic (σ : Sg) (x : Int) : Int := if 0 ≤ x ∧ x ≤ σ 2 0 0 - 1 then 0 else 1
def kLst (σ : Sg) (x y v : Int) : Int := if ¬ (isC σ x y ∧ 0 < y ∧ y < σ 8 x.toNat 0 - 1) then 1 else if 0 ≤ v ∧ v ≤ 3 then 0 else 2
def kShf (σ : Sg) (n : Nat) (x d : Int) : Int := if ¬ (0 ≤ x ∧ x ≤ σ 2 0 0 - 1) then 1 else if ¬ (0 ≤ d ∧ d ≤ 30) then 2 else if shS σ x.toNat n d 13 = 99 then 3 else 0
def dtS (σ : Sg) (i n : Nat) : Nat → Int
  | 0 => 0
  | d + 1 => dtS σ i n d + (if shS σ i n (d : Int) 13 = 99 then 0 else 1)
theorem dtS_s (σ : Sg) (i n d : Nat) : dtS σ i n (d + 1) = dtS σ i n d + (if shS σ i n (d : Int) 13 = 99 then 0 else 1) := rfl
def kDat (d : Int) : Int := if 0 ≤ d ∧ d ≤ 30 then 0 else 1
def msM (σ : Sg) (d : Int) (n : Nat) : Nat → Int
  | 0 => 0
  | k + 1 => msM σ d n k + (if ¬ thr (σ 6 0 k) d = true ∧ foM σ (σ 3 0 k) d n = 61 then 1 else 0)
theorem msM_s (σ : Sg) (d : Int) (n k : Nat) : msM σ d n (k + 1) = msM σ d n k + (if ¬ thr (σ 6 0 k) d = true ∧ foM σ (σ 3 0 k) d n = 61 then 1 else 0) := rfl
def kPrg (d x : Int) : Int := if (0 ≤ d ∧ d ≤ 30) ∧ 0 ≤ x ∧ x ≤ 20000 then 0 else 1
abbrev prg (σ : Sg) (n k : Nat) (d x : Int) : Nat := bsS σ k (cnS σ n d k) x (2 ^ k - 1)
def kReh (σ : Sg) (x t : Int) : Int := if ¬ (0 ≤ x ∧ x ≤ σ 2 0 0 - 1) then 1 else if 1 ≤ t ∧ t ≤ 30 then 0 else 2
/-- a piece's practice behind some rehearsals -/
def rh1 (σ : Sg) (i : Nat) : Sg := su σ 10 i (wkq σ i) (σ 10 i (wkq σ i) + 4)
def rhS (σ : Sg) (i : Nat) : Nat → Sg
  | 0 => σ
  | q + 1 => rh1 (rhS σ i q) i
/-- a row set anew -/
def sr (σ : Sg) (k i : Nat) (f : Nat → Int) : Sg := fun a b => if a = k then (if b = i then f else σ a b) else σ a b
theorem sr_at (σ : Sg) (k i : Nat) (f : Nat → Int) : sr σ k i f k i = f := by simp [sr]
theorem sr_k {σ : Sg} {k i : Nat} {f : Nat → Int} {a : Nat} (h : a ≠ k) : sr σ k i f a = σ a := by funext b; simp [sr, h]
theorem sr_i {σ : Sg} {k i : Nat} {f : Nat → Int} {b : Nat} (h : b ≠ i) : sr σ k i f k b = σ k b := by simp [sr, h]
theorem sr_self (σ : Sg) (k i : Nat) : sr σ k i (σ k i) = σ := by
  funext a b
  simp only [sr]
  split
  · split
    · subst_vars; rfl
    · rfl
  · rfl
theorem sr_fl7 (σ : Sg) (i j : Nat) (t : Nat → Int) (v : Int) (h : j < 64) : (fun q => sr σ 7 i (uI t j v) 7 (q / 64) (q % 64)) = uI (fun q => sr σ 7 i t 7 (q / 64) (q % 64)) (64 * i + j) v := by
  funext q
  by_cases hq : q = 64 * i + j
  · subst hq
    rw [uI_s, show (64 * i + j) / 64 = i by omega, show (64 * i + j) % 64 = j by omega, sr_at, uI_s]
  · rw [uI_n hq]
    by_cases hi : q / 64 = i
    · rw [hi, sr_at, sr_at, uI_n (by omega)]
    · rw [sr_i hi, sr_i hi]
theorem su_at (σ : Sg) (k i j : Nat) (v : Int) : su σ k i j v k i = uI (σ k i) j v := by simp [su]
theorem su_k {σ : Sg} {k i j : Nat} {v : Int} {a : Nat} (h : a ≠ k) : su σ k i j v a = σ a := by funext b; simp [su, h]
theorem su_i {σ : Sg} {k i j : Nat} {v : Int} {b : Nat} (h : b ≠ i) : su σ k i j v k b = σ k b := by simp [su, h]
theorem fl7 (σ : Sg) (i j : Nat) (v : Int) (h : j < 64) : (fun q => su σ 7 i j v 7 (q / 64) (q % 64)) = uI (fun q => σ 7 (q / 64) (q % 64)) (64 * i + j) v := by
  funext q
  by_cases hq : q = 64 * i + j
  · subst hq
    rw [uI_s, show (64 * i + j) / 64 = i by omega, show (64 * i + j) % 64 = j by omega, su_at, uI_s]
  · rw [uI_n hq]
    by_cases hi : q / 64 = i
    · rw [hi, su_at, uI_n (by omega)]
    · rw [su_i hi]
theorem fl10 (σ : Sg) (i j : Nat) (v : Int) (h : j < 16) : (fun q => su σ 10 i j v 10 (q / 16) (q % 16)) = uI (fun q => σ 10 (q / 16) (q % 16)) (16 * i + j) v := by
  funext q
  by_cases hq : q = 16 * i + j
  · subst hq
    rw [uI_s, show (16 * i + j) / 16 = i by omega, show (16 * i + j) % 16 = j by omega, su_at, uI_s]
  · rw [uI_n hq]
    by_cases hi : q / 16 = i
    · rw [hi, su_at, uI_n (by omega)]
    · rw [su_i hi]
theorem fl8 (σ : Sg) (k i : Nat) (v : Int) : (fun q => su σ k i 0 v k q 0) = uI (fun q => σ k q 0) i v := by
  funext q
  by_cases hi : q = i
  · subst hi; rw [su_at, uI_s, uI_s]
  · rw [su_i hi, uI_n hi]
theorem MW_of {G : gT} {A : Nat → Nat} {r0 : Int} {σ : Sg} {f3 f4 f5 f6 f7 f8 f9 f10 : Nat → Int} {s1 s2 : Int} {H : Heap} (h1 : σ 1 0 0 = s1) (h2 : σ 2 0 0 = s2) (h3 : σ 3 0 = f3) (h4 : σ 4 0 = f4) (h5 : σ 5 0 = f5) (h6 : σ 6 0 = f6) (h7 : (fun q => σ 7 (q / 64) (q % 64)) = f7) (h8 : (fun q => σ 8 q 0) = f8) (h9 : (fun q => σ 9 q 0) = f9) (h10 : (fun q => σ 10 (q / 16) (q % 16)) = f10)
    (hP : gP G [(A 0, .inr (3, [.int (iI r0), .int (iI s1), .ref (A 1), .ref (A 2), .ref (A 3), .ref (A 4), .int (iI s2), .ref (A 5), .ref (A 6), .ref (A 7), .ref (A 8)])), (A 1, .inl (G.2.1, 12, .inl (ia f3))), (A 2, .inl (G.2.1, 12, .inl (ia f4))), (A 3, .inl (G.2.1, 12, .inl (ia f5))), (A 4, .inl (G.2.1, 12, .inl (ia f6))), (A 5, .inl (G.2.1, 448, .inl (ia f7))), (A 6, .inl (G.2.1, 7, .inl (ia f8))), (A 7, .inl (G.2.1, 6, .inl (ia f9))), (A 8, .inl (G.2.1, 96, .inl (ia f10)))] H) : gP G (MW G A r0 σ) H := by
  subst h1; subst h2; subst h3; subst h4; subst h5; subst h6; subst h7; subst h8; subst h9; subst h10
  exact hP
theorem fl7e (σ : Sg) (i j : Nat) (v : Int) {q0 : Nat} (h : j < 64) (e : q0 = 64 * i + j) : (fun q => su σ 7 i j v 7 (q / 64) (q % 64)) = uI (fun q => σ 7 (q / 64) (q % 64)) q0 v := by rw [e]; exact fl7 σ i j v h
theorem fl10e (σ : Sg) (i j : Nat) (v : Int) {q0 : Nat} (h : j < 16) (e : q0 = 16 * i + j) : (fun q => su σ 10 i j v 10 (q / 16) (q % 16)) = uI (fun q => σ 10 (q / 16) (q % 16)) q0 v := by rw [e]; exact fl10 σ i j v h
theorem sr_fl7e (σ : Sg) (i j : Nat) (t : Nat → Int) (v : Int) {q0 : Nat} (h : j < 64) (e : q0 = 64 * i + j) : (fun q => sr σ 7 i (uI t j v) 7 (q / 64) (q % 64)) = uI (fun q => sr σ 7 i t 7 (q / 64) (q % 64)) q0 v := by rw [e]; exact sr_fl7 σ i j t v h
theorem kPrg0 {d x : Int} (h : kPrg d x = 0) : (0 ≤ d ∧ d ≤ 30) ∧ 0 ≤ x ∧ x ≤ 20000 := by
  unfold kPrg at h
  split at h
  · assumption
  · omega
theorem kPrg_01 (d x : Int) : kPrg d x = 0 ∨ kPrg d x = 1 := by
  unfold kPrg
  split
  · exact Or.inl rfl
  · exact Or.inr rfl
theorem Iv_sr {σ : Sg} {n k N : Nat} (hI : Iv σ n k N) {i : Nat} (hi : i < k) {t : Nat → Int} (ht : ∀ j, 0 ≤ t j ∧ t j ≤ 60) (ho : ∀ c, t (4 * c + 3) ≤ t (4 * c + 2) ∧ t (4 * c + 2) ≤ t (4 * c + 1) ∧ t (4 * c + 1) ≤ t (4 * c)) : Iv (sr σ 7 i t) n k N := by
  obtain ⟨hn, hn12, hk, hk6, hsg, haw, hch, hch1, hch0, htn, hto, htz, hpr, hN, hpz, hle, hlz⟩ := hI
  have e : ∀ a, a ≠ 7 → sr σ 7 i t a = σ a := fun a h => sr_k h
  refine ⟨hn, hn12, hk, hk6, hsg, haw, hch, hch1, hch0, fun b j => ?_, fun b c => ?_, fun b hb j => ?_, hpr, hN, hpz, hle, hlz⟩
  · by_cases q : b = i
    · subst q; rw [sr_at]; exact ht j
    · rw [sr_i q]; exact htn b j
  · by_cases q : b = i
    · subst q; rw [sr_at]; exact ho c
    · rw [sr_i q]; exact hto b c
  · rw [sr_i (by omega)]; exact htz b hb j
theorem Iv_rh1 {σ : Sg} {n k M : Nat} (b : Int) (h1 : Iv σ n k M) (hb : ∀ i j, σ 10 i j ≤ b) (hM : b + 4 ≤ 120 * M) {i : Nat} (hi : i < k) : Iv (rh1 σ i) n k M ∧ ∀ a j, rh1 σ i 10 a j ≤ b + 4 := by
  obtain ⟨hn, hn12, hk, hk6, hsg, haw, hch, hch1, hch0, htn, hto, htz, hpr, hN, hpz, hle, hlz⟩ := h1
  have hv : ∀ a j, (rh1 σ i 10 a j = σ 10 a j ∨ rh1 σ i 10 a j = σ 10 a j + 4) ∧ (a ≠ i → rh1 σ i 10 a j = σ 10 a j) := by
    intro a j
    unfold rh1
    by_cases q : a = i
    · subst q
      rw [su_at]
      refine ⟨?_, fun z => absurd rfl z⟩
      by_cases q2 : j = wkq σ a
      · subst q2; rw [uI_s]; exact Or.inr rfl
      · rw [uI_n q2]; exact Or.inl rfl
    · rw [su_i q]
      exact ⟨Or.inl rfl, fun _ => rfl⟩
  refine ⟨⟨hn, hn12, hk, hk6, hsg, haw, hch, hch1, hch0, htn, hto, htz, fun a j => ?_, hN, fun a ha j => ?_, hle, hlz⟩, fun a j => ?_⟩
  · have h2 := (hv a j).1
    have h3 := hpr a j
    have h4 := hb a j
    omega
  · rw [(hv a j).2 (by omega)]; exact hpz a ha j
  · have h2 := (hv a j).1
    have h4 := hb a j
    omega
theorem Iv_rhS {σ : Sg} {n k N : Nat} (hI : Iv σ n k N) (hN5 : N ≤ 512) {i : Nat} (hi : i < k) : ∀ q : Nat, q ≤ 30 → Iv (rhS σ i q) n k (N + 1) ∧ ∀ a j, rhS σ i q 10 a j ≤ 120 * (N : Int) + 4 * (q : Int)
  | 0, _ => by
    obtain ⟨hn, hn12, hk, hk6, hsg, haw, hch, hch1, hch0, htn, hto, htz, hpr, hN, hpz, hle, hlz⟩ := hI
    exact ⟨⟨hn, hn12, hk, hk6, hsg, haw, hch, hch1, hch0, htn, hto, htz, fun a j => by have := hpr a j; show 0 ≤ σ 10 a j ∧ σ 10 a j ≤ _; omega, by omega, hpz, hle, hlz⟩, fun a j => by have := hpr a j; show σ 10 a j ≤ _; omega⟩
  | q + 1, hq => by
    obtain ⟨h1, h2⟩ := Iv_rhS hI hN5 hi q (by omega)
    obtain ⟨h3, h4⟩ := Iv_rh1 (120 * (N : Int) + 4 * (q : Int)) h1 h2 (by omega) hi
    exact ⟨h3, fun a j => by have := h4 a j; show rh1 (rhS σ i q) i 10 a j ≤ _; omega⟩
theorem Iv_ch {σ : Sg} {n k N : Nat} (hI : Iv σ n k N) (i : Nat) : 0 ≤ σ 8 i 0 ∧ σ 8 i 0 ≤ 16 := hI.2.2.2.2.2.2.1 i
theorem Iv_pr {σ : Sg} {n k N : Nat} (hI : Iv σ n k N) (i j : Nat) : 0 ≤ σ 10 i j ∧ σ 10 i j ≤ 72000 := by
  obtain ⟨hn, hn12, hk, hk6, hsg, haw, hch, hch1, hch0, htn, hto, htz, hpr, hN, hpz, hle, hlz⟩ := hI
  have := hpr i j
  omega
