/-! what the law asks of one choir -/
theorem fin_22 (t : Nat → Int) (c a : Nat) : ∀ d, 0 ≤ fin t c a d ∧ fin t c a d ≤ 3 * d
  | 0 => by simp [fin]
  | d + 1 => by
    have h := fin_22 t c a d
    rw [fin_s]
    split <;> omega
theorem mvf_22 (t : Nat → Int) (c : Nat) : 0 ≤ mvf t c ∧ mvf t c ≤ 22 := by
  cases c with
  | zero => simp [mvf]
  | succ c =>
    have h0 := fin_22 t c 0 (3 - 0)
    have h1 := fin_22 t c 1 (3 - 1)
    have h2 := fin_22 t c 2 (3 - 2)
    have h3 := fin_22 t c 3 (3 - 3)
    have l : ∀ a, 0 ≤ lpf t c a ∧ lpf t c a ≤ 1 := by intro a; unfold lpf; split <;> omega
    have l0 := l 0
    have l1 := l 1
    have l2 := l 2
    have l3 := l 3
    rw [mvf_s, fou_s, fou_s, fou_s, fou_s]
    show 0 ≤ 0 + lpf t c 0 + fin t c 0 (3 - 0) + lpf t c 1 + fin t c 1 (3 - 1) + lpf t c 2 + fin t c 2 (3 - 2) + lpf t c 3 + fin t c 3 (3 - 3) ∧ 0 + lpf t c 0 + fin t c 0 (3 - 0) + lpf t c 1 + fin t c 1 (3 - 1) + lpf t c 2 + fin t c 2 (3 - 2) + lpf t c 3 + fin t c 3 (3 - 3) ≤ 22
    omega
def fsS (t : Nat → Int) : Nat → Int
  | 0 => 0
  | q + 1 => fsS t q + mvf t q
theorem fsS_s (t : Nat → Int) (q : Nat) : fsS t (q + 1) = fsS t q + mvf t q := rfl
theorem fsS_afs (t : Nat → Int) : ∀ q, fsS t (q + 1) = afs t q
  | 0 => rfl
  | q + 1 => by rw [fsS_s, fsS_afs t q, afs_s]
theorem fsS_alf (t : Nat → Int) (z : Int) : alf t z = fsS t z.toNat := by
  unfold alf
  by_cases q : z.toNat = 0
  · rw [q]; rfl
  · obtain ⟨j, hj⟩ : ∃ j, z.toNat = j + 1 := ⟨z.toNat - 1, by omega⟩
    rw [hj, fsS_afs]; rfl
theorem fsS_rg (t : Nat → Int) : ∀ q, 0 ≤ fsS t q ∧ fsS t q ≤ 22 * q
  | 0 => by simp [fsS]
  | q + 1 => by
    have h1 := fsS_rg t q
    have h2 := mvf_22 t q
    rw [fsS_s]
    omega
/-- the most of the weaknesses -/
def moS (σ : Sg) (i : Nat) : Nat → Int
  | 0 => 0
  | q + 1 => if moS σ i q < wkS σ i q then wkS σ i q else moS σ i q
theorem moS_s (σ : Sg) (i q : Nat) : moS σ i (q + 1) = if moS σ i q < wkS σ i q then wkS σ i q else moS σ i q := rfl
theorem moS_wkt {σ : Sg} {i : Nat} (h : ∀ c, 0 ≤ σ 10 i c) : ∀ q, moS σ i (q + 1) = wkS σ i (wkt σ i q)
  | 0 => by
    have := wkS_rg (h 0)
    rw [moS_s]
    show (if (0 : Int) < wkS σ i 0 then wkS σ i 0 else 0) = wkS σ i 0
    split <;> omega
  | q + 1 => by
    rw [moS_s, moS_wkt h q, wkt_s]
    split <;> rfl
theorem moS_wkq {σ : Sg} {i : Nat} (h : ∀ c, 0 ≤ σ 10 i c) (h1 : 1 ≤ σ 8 i 0) : wkS σ i (wkq σ i) = moS σ i (σ 8 i 0).toNat := by
  obtain ⟨j, hj⟩ : ∃ j, (σ 8 i 0).toNat = j + 1 := ⟨(σ 8 i 0).toNat - 1, by omega⟩
  unfold wkq
  rw [hj, moS_wkt h]; rfl
theorem moS_rg {σ : Sg} {i : Nat} (h : ∀ c, 0 ≤ σ 10 i c) : ∀ q, 0 ≤ moS σ i q ∧ moS σ i q ≤ 210
  | 0 => by simp [moS]
  | q + 1 => by
    have h1 := moS_rg h q
    have h2 := wkS_rg (h q)
    rw [moS_s]
    split <;> omega
theorem wkq_lt {σ : Sg} {i : Nat} (h1 : 1 ≤ σ 8 i 0) : ((wkq σ i : Nat) : Int) < σ 8 i 0 := by
  have := wkt_le σ i ((σ 8 i 0).toNat - 1)
  unfold wkq
  omega
/-! shifts and dates -/
theorem sh_99 {σ : Sg} {n k N : Nat} (hI : Iv σ n k N) {i : Nat} (hi : i < k) (d : Int) : shS σ i n d 13 = 99 ∨ (-12 ≤ shS σ i n d 13 ∧ shS σ i n d 13 ≤ 12) := by
  obtain ⟨hn, hn12, hk, hk6, hsg, haw, hch, hch1, hch0, htn, hto, htz, hpr, hN, hpz, hle, hlz⟩ := hI
  have h1 := hch1 i hi
  rcases nsC_eq (σ := σ) (i := i) (n := n) (d := d) (fun j hj => by have := hsg j hj; omega) (htn i) (by omega) with h | h
  · exact Or.inl h.1
  · exact Or.inr (by omega)
def shV (σ : Sg) (i : Nat) (d : Int) : Int := if shS σ i (σ 1 0 0).toNat d 13 = 99 then -2000000003 else shS σ i (σ 1 0 0).toNat d 13
theorem shV_rg {σ : Sg} {N : Nat} (hI : Jv σ N) {i : Nat} (hi : (i : Int) < σ 2 0 0) (d : Int) : (shV σ i d = -2000000003 ∧ shS σ i (σ 1 0 0).toNat d 13 = 99) ∨ (-12 ≤ shV σ i d ∧ shV σ i d ≤ 12 ∧ shS σ i (σ 1 0 0).toNat d 13 ≠ 99) := by
  have h := sh_99 hI (i := i) (by omega) d
  unfold shV
  split
  · exact Or.inl ⟨rfl, by assumption⟩
  · right; omega
theorem shV_an {σ : Sg} {i : Nat} {x d : Int} (hi : (i : Int) < σ 2 0 0) (hx : x = i) (hd : 0 ≤ d ∧ d ≤ 30) : an (kShf σ (σ 1 0 0).toNat x d) (shS σ x.toNat (σ 1 0 0).toNat d 13) (-2000000001) (-2000000002) (-2000000003) = shV σ i d := by
  subst hx
  have e : kShf σ (σ 1 0 0).toNat (i : Int) d = if shS σ i (σ 1 0 0).toNat d 13 = 99 then 3 else 0 := by
    unfold kShf
    rw [if_neg (by omega), if_neg (by omega)]; rfl
  rw [e]
  unfold shV
  split
  · exact an_3 rfl
  · exact an_0 rfl
theorem dtS_rg (σ : Sg) (i n : Nat) : ∀ d, 0 ≤ dtS σ i n d ∧ dtS σ i n d ≤ d
  | 0 => by simp [dtS]
  | d + 1 => by
    have := dtS_rg σ i n d
    rw [dtS_s]
    split <;> omega
theorem dtS_1 {σ : Sg} {i n q : Nat} (h : shS σ i n (q : Int) 13 ≠ 99) : ∀ d, q < d → 1 ≤ dtS σ i n d
  | 0, hd => by omega
  | d + 1, hd => by
    have h1 := dtS_rg σ i n d
    rw [dtS_s]
    by_cases e : q = d
    · subst e; rw [if_neg h]; omega
    · have := dtS_1 h d (by omega)
      split <;> omega
theorem dtS_2 {σ : Sg} {i n q : Nat} (h : shS σ i n (q : Int) 13 = 99) : ∀ d, q < d → dtS σ i n d < d
  | 0, hd => by omega
  | d + 1, hd => by
    have h1 := dtS_rg σ i n d
    rw [dtS_s]
    by_cases e : q = d
    · subst e; rw [if_pos h]; omega
    · have := dtS_2 h d (by omega)
      split <;> omega
/-! programmes -/
theorem lnS_6 {σ : Sg} {n k N : Nat} (hI : Iv σ n k N) (s : Int) : lnS σ s 6 = lnS σ s k := by
  obtain ⟨hn, hn12, hk, hk6, hsg, haw, hch, hch1, hch0, htn, hto, htz, hpr, hN, hpz, hle, hlz⟩ := hI
  have h : ∀ q, k + q ≤ 6 → lnS σ s (k + q) = lnS σ s k := by
    intro q
    induction q with
    | zero => intro _; rfl
    | succ q ih =>
      intro hq
      rw [← Nat.add_assoc, lnS_s, ih (by omega), hlz (k + q) (by omega)]; omega
  have := h (6 - k) (by omega)
  rwa [show k + (6 - k) = 6 by omega] at this
theorem andI_0l (x : Int) : andI 0 x = 0 := by
  unfold andI
  rw [iI_0, Int32.zero_and]; rfl
theorem shr_0 (q : Nat) (h : q < 6) : shrI 0 (q : Int) = 0 := by
  have h2 : ∀ j : Fin 6, shrI 0 ((j : Nat) : Int) = 0 := by decide +kernel
  exact h2 ⟨q, h⟩
theorem lnS_0 (σ : Sg) : ∀ q, q ≤ 6 → lnS σ 0 q = 0
  | 0, _ => rfl
  | q + 1, h => by rw [lnS_s, lnS_0 σ q (by omega), shr_0 q (by omega), andI_0l]; omega
/-- a set that may be taken -/
abbrev may (σ : Sg) (k : Nat) (can sec : Int) (s : Nat) : Prop := andI (s : Int) (xorI can (-1)) = 0 ∧ lnS σ (s : Int) k ≤ sec
theorem bsS_may {σ : Sg} {k : Nat} (hk : k ≤ 6) {can sec : Int} (h0 : 0 ≤ sec) : ∀ m, may σ k can sec (bsS σ k can sec m)
  | 0 => ⟨andI_0l _, by have := lnS_0 σ k hk; show lnS σ ((0 : Nat) : Int) k ≤ sec; rw [show ((0 : Nat) : Int) = 0 from rfl]; omega⟩
  | m + 1 => by
    have h := bsS_may hk (σ := σ) (can := can) h0 m
    rw [bsS_s]
    split
    · rename_i q; exact q.1
    · exact h
theorem bsS_opt {σ : Sg} {k : Nat} (hk : k ≤ 6) {can sec : Int} (h0 : 0 ≤ sec) : ∀ m o, o ≤ m → may σ k can sec o → lnS σ (o : Int) k < lnS σ ((bsS σ k can sec m : Nat) : Int) k ∨ (lnS σ (o : Int) k = lnS σ ((bsS σ k can sec m : Nat) : Int) k ∧ bct (bsS σ k can sec m) ≤ bct o)
  | 0, o, ho, hm => by
    have : o = 0 := by omega
    subst this
    exact Or.inr ⟨rfl, Nat.le_refl _⟩
  | m + 1, o, ho, hm => by
    have hb := bsS_may hk (σ := σ) (can := can) h0 m
    have h9 : ∀ o, o ≤ m → may σ k can sec o → _ := bsS_opt hk (σ := σ) (can := can) h0 m
    rw [bsS_s]
    split
    · rename_i q
      have q2 := q.2
      simp only [btr] at q2
      by_cases e : o = m + 1
      · subst e; exact Or.inr ⟨rfl, Nat.le_refl _⟩
      · have h3 := h9 o (by omega) hm
        rcases q2 with q2 | ⟨q2, q3⟩
        · left; omega
        · rcases h3 with h3 | ⟨h3, h4⟩
          · left; omega
          · right
            refine ⟨by omega, ?_⟩
            rcases q3 with q3 | ⟨q3, _⟩ <;> omega
    · rename_i q
      by_cases e : o = m + 1
      · subst e
        have q2 : ¬ btr σ k (m + 1) (bsS σ k can sec m) := fun z => q ⟨hm, z⟩
        simp only [btr] at q2
        omega
      · exact h9 o (by omega) hm
/-! the least faults -/
theorem tqs_1 (tn : Nat → Int) (i : Nat) (lo : Int) (q : Nat) : tqs tn i lo (q + 1) = uI tn i (lo + (q : Int)) := rfl
theorem lfS_le (tn : Nat → Int) (i : Nat) (lo sz : Int) : ∀ n, lfS tn i lo sz n ≤ alf tn sz ∧ ∀ q, q < n → lfS tn i lo sz n ≤ alf (uI tn i (lo + (q : Int))) sz
  | 0 => ⟨Int.le_refl _, fun q h => by omega⟩
  | n + 1 => by
    obtain ⟨h1, h2⟩ := lfS_le tn i lo sz n
    show min (lfS tn i lo sz n) (alf (tqs tn i lo (n + 1)) sz) ≤ _ ∧ ∀ q, q < n + 1 → min (lfS tn i lo sz n) (alf (tqs tn i lo (n + 1)) sz) ≤ _
    rw [tqs_1]
    refine ⟨by omega, fun q hq => ?_⟩
    by_cases e : q = n
    · subst e; omega
    · have := h2 q (by omega); omega
theorem lfS_at (tn : Nat → Int) (i : Nat) (lo sz : Int) : ∀ n, lfS tn i lo sz n = alf tn sz ∨ ∃ q, q < n ∧ lfS tn i lo sz n = alf (uI tn i (lo + (q : Int))) sz
  | 0 => Or.inl rfl
  | n + 1 => by
    show min (lfS tn i lo sz n) (alf (tqs tn i lo (n + 1)) sz) = _ ∨ ∃ q, q < n + 1 ∧ min (lfS tn i lo sz n) (alf (tqs tn i lo (n + 1)) sz) = _
    rw [tqs_1]
    by_cases e : alf (uI tn i (lo + (n : Int))) sz ≤ lfS tn i lo sz n
    · exact Or.inr ⟨n, by omega, by omega⟩
    · rcases lfS_at tn i lo sz n with h | ⟨q, h1, h2⟩
      · left; omega
      · exact Or.inr ⟨q, by omega, by omega⟩
/-- least faults: none less, some tone meets them -/
theorem lft_le {tn : Nat → Int} {c v : Nat} (sz : Int) {x : Int} (h1 : flr tn c v ≤ x) (h2 : x ≤ clg tn c v) : lft tn c v sz ≤ alf (uI tn (4 * c + v) x) sz := by
  have h := (lfS_le tn (4 * c + v) (flr tn c v) sz (clg tn c v - flr tn c v + 1).toNat).2 (x - flr tn c v).toNat (by omega)
  rwa [show flr tn c v + (((x - flr tn c v).toNat : Nat) : Int) = x by omega] at h
theorem lft_cur (tn : Nat → Int) (c v : Nat) (sz : Int) : lft tn c v sz ≤ alf tn sz := (lfS_le tn (4 * c + v) (flr tn c v) sz (clg tn c v - flr tn c v + 1).toNat).1
theorem lft_at {tn : Nat → Int} {c v : Nat} (sz : Int) (h1 : flr tn c v ≤ tn (4 * c + v)) (h2 : tn (4 * c + v) ≤ clg tn c v) : ∃ x, flr tn c v ≤ x ∧ x ≤ clg tn c v ∧ alf (uI tn (4 * c + v) x) sz = lft tn c v sz := by
  rcases lfS_at tn (4 * c + v) (flr tn c v) sz (clg tn c v - flr tn c v + 1).toNat with h | ⟨q, h3, h4⟩
  · exact ⟨tn (4 * c + v), h1, h2, by rw [uI_self]; exact h.symm⟩
  · exact ⟨flr tn c v + (q : Int), by omega, by omega, h4.symm⟩
theorem flr_put (tn : Nat → Int) (c v : Nat) (x : Int) : flr (uI tn (4 * c + v) x) c v = flr tn c v := by
  unfold flr
  rw [uI_n (by omega)]
theorem clg_put (tn : Nat → Int) {c v : Nat} (x : Int) : clg (uI tn (4 * c + v) x) c v = clg tn c v := by
  unfold clg
  split
  · rfl
  · rw [uI_n (by omega)]
theorem lft_put {tn : Nat → Int} {c v : Nat} (sz : Int) (h1 : flr tn c v ≤ tn (4 * c + v)) (h2 : tn (4 * c + v) ≤ clg tn c v) {x : Int} (h3 : flr tn c v ≤ x) (h4 : x ≤ clg tn c v) : lft (uI tn (4 * c + v) x) c v sz = lft tn c v sz := by
  have e1 := flr_put tn c v x
  have e2 := clg_put tn (c := c) (v := v) x
  obtain ⟨y, y1, y2, y3⟩ := lft_at sz h1 h2
  obtain ⟨w, w1, w2, w3⟩ := lft_at (tn := uI tn (4 * c + v) x) (c := c) (v := v) sz (by rw [e1, uI_s]; exact h3) (by rw [e2, uI_s]; exact h4)
  rw [uI_uI] at w3
  rw [e1] at w1
  rw [e2] at w2
  have a1 := lft_le (tn := uI tn (4 * c + v) x) (c := c) (v := v) sz (by rw [e1]; exact y1) (by rw [e2]; exact y2)
  rw [uI_uI] at a1
  have a2 := lft_le sz w1 w2
  omega
theorem t_fc {σ : Sg} {n k N : Nat} (hI : Iv σ n k N) (i c : Nat) {v : Nat} (hv : v < 4) : flr (σ 7 i) c v ≤ σ 7 i (4 * c + v) ∧ σ 7 i (4 * c + v) ≤ clg (σ 7 i) c v := by
  obtain ⟨hn, hn12, hk, hk6, hsg, haw, hch, hch1, hch0, htn, hto, htz, hpr, hN, hpz, hle, hlz⟩ := hI
  have h1 := htn i (4 * c + v)
  have h2 : ∀ {a b : Nat}, a ≤ b → b < 4 → σ 7 i (4 * c + b) ≤ σ 7 i (4 * c + a) := fun h3 h4 => t_ord (hto i) h3 h4
  constructor
  · unfold flr
    split
    · omega
    · exact h2 (by omega) (by omega)
  · unfold clg
    split
    · omega
    · exact h2 (by omega) (by omega)
/-! a rehearsal -/
theorem rh1_wk {σ : Sg} {i c : Nat} : wkS (rh1 σ i) i c = if c = wkq σ i then (if wkS σ i c < 4 then 0 else wkS σ i c - 4) else wkS σ i c := by
  have e7 : rh1 σ i 7 = σ 7 := su_k (by decide)
  have e10 : rh1 σ i 10 i c = if c = wkq σ i then σ 10 i c + 4 else σ 10 i c := by
    unfold rh1
    rw [su_at]
    unfold uI
    split
    · rename_i q; rw [q]
    · rfl
  unfold wkS
  rw [e7, e10]
  (repeat' split) <;> omega
theorem rh1_ws {σ : Sg} {i : Nat} : ∀ c, wsm (rh1 σ i) i c = wsm σ i c - (if wkq σ i < c then (if wkS σ i (wkq σ i) < 4 then wkS σ i (wkq σ i) else 4) else 0)
  | 0 => by simp [wsm]
  | c + 1 => by
    rw [wsm_s, wsm_s, rh1_ws c, rh1_wk]
    by_cases e : c = wkq σ i
    · have a1 : ¬ wkq σ i < c := by omega
      have a2 : wkq σ i < c + 1 := by omega
      rw [if_pos e, if_neg a1, if_pos a2, e]
      split <;> omega
    · rw [if_neg e]
      by_cases e2 : wkq σ i < c
      · have a2 : wkq σ i < c + 1 := by omega
        rw [if_pos e2, if_pos a2]; omega
      · have a2 : ¬ wkq σ i < c + 1 := by omega
        rw [if_neg e2, if_neg a2]; omega
theorem Jv_rhS {σ : Sg} {N : Nat} (hI : Jv σ N) (hN5 : N ≤ 500) {i : Nat} (hi : (i : Int) < σ 2 0 0) {q : Nat} (hq : q ≤ 30) : Jv (rhS σ i q) (N + 1) := by
  have h := (Iv_rhS hI (by omega) (i := i) (by omega) q hq).1
  have e1 := rhS_k (σ := σ) (i := i) q 1 (by decide)
  have e2 := rhS_k (σ := σ) (i := i) q 2 (by decide)
  show Iv (rhS σ i q) (rhS σ i q 1 0 0).toNat (rhS σ i q 2 0 0).toNat (N + 1)
  rw [e1, e2]; exact h
theorem Jv_put {σ : Sg} {N : Nat} (hI : Jv σ N) {i c v : Nat} (hi : (i : Int) < σ 2 0 0) (hc : (c : Int) < σ 8 i 0) (hv : v < 4) {x : Int} (h0 : 0 ≤ x ∧ x ≤ 60) (h1 : flr (σ 7 i) c v ≤ x) (h2 : x ≤ clg (σ 7 i) c v) : Jv (su σ 7 i (4 * c + v) x) N :=
  Iv_set hI (x := (i : Int)) (y := (c : Int)) (v := (v : Int)) (t := x) (by
    unfold kSet
    simp only [Int.toNat_natCast]
    rw [if_neg (fun z => z ⟨by omega, by omega, by omega, by simp only [Int.toNat_natCast]; omega⟩), if_neg (fun z => z (by omega)), if_pos ⟨h1, h2⟩])
theorem su_me (σ : Sg) (k i j : Nat) : su σ k i j (σ k i j) = σ := by
  funext a b
  simp only [su]
  split
  · split
    · subst_vars; exact uI_self _ _
    · rfl
  · rfl
theorem su_su (σ : Sg) (k i j : Nat) (x y : Int) : su (su σ k i j x) k i j y = su σ k i j y := by
  funext a b
  simp only [su]
  split
  · split
    · exact uI_uI _ _ _ _
    · rfl
  · rfl
