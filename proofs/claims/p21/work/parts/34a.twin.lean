/-! a choir some tones higher: t' is t but for u, over the first z chords -/
def Sh (u : Int) (z : Nat) (t t' : Nat → Int) : Prop := ∀ q, q < 4 * z → t' q = t q + u
theorem stp_sh {u : Int} {z : Nat} {t t' : Nat → Int} (h : Sh u z t t') {c v : Nat} (hc : c + 1 < z) (hv : v < 4) : stp t' c v = stp t c v := by
  have h1 := h (4 * (c + 1) + v) (by omega)
  have h2 := h (4 * c + v) (by omega)
  unfold stp
  omega
theorem prl_sh {u : Int} {z : Nat} {t t' : Nat → Int} (h : Sh u z t t') {c a b : Nat} (hc : c + 1 < z) (ha : a < 4) (hb : b < 4) : prl t' c a b ↔ prl t c a b := by
  have h1 := h (4 * (c + 1) + a) (by omega)
  have h2 := h (4 * (c + 1) + b) (by omega)
  have h3 := stp_sh h hc ha
  have h4 := stp_sh h hc hb
  have h5 : t' (4 * (c + 1) + a) - t' (4 * (c + 1) + b) = t (4 * (c + 1) + a) - t (4 * (c + 1) + b) := by omega
  unfold prl
  rw [h3, h4, h5]
theorem fin_sh {u : Int} {z : Nat} {t t' : Nat → Int} (h : Sh u z t t') {c a : Nat} (hc : c + 1 < z) : ∀ d, a + d < 4 → fin t' c a d = fin t c a d
  | 0, _ => rfl
  | d + 1, hd => by
    have h1 := prl_sh h (a := a) (b := a + 1 + d) hc (by omega) (by omega)
    rw [fin_s, fin_s, fin_sh h hc d (by omega)]
    by_cases q : prl t c a (a + 1 + d)
    · rw [if_pos q, if_pos (h1.mpr q)]
    · rw [if_neg q, if_neg (fun z => q (h1.mp z))]
theorem fou_sh {u : Int} {z : Nat} {t t' : Nat → Int} (h : Sh u z t t') {c : Nat} (hc : c + 1 < z) : ∀ a, a ≤ 4 → fou t' c a = fou t c a
  | 0, _ => rfl
  | a + 1, ha => by
    rw [fou_s, fou_s, fou_sh h hc a (by omega), fin_sh h hc (3 - a) (by omega)]
    unfold lpf
    rw [stp_sh h hc (by omega)]
theorem mvf_sh {u : Int} {z : Nat} {t t' : Nat → Int} (h : Sh u z t t') : ∀ c, c < z → mvf t' c = mvf t c
  | 0, _ => rfl
  | c + 1, hc => by rw [mvf_s, mvf_s, fou_sh h hc 4 (Nat.le_refl _)]
theorem afs_sh {u : Int} {z : Nat} {t t' : Nat → Int} (h : Sh u z t t') : ∀ c, c < z → afs t' c = afs t c
  | 0, _ => rfl
  | c + 1, hc => by rw [afs_s, afs_s, afs_sh h c (by omega), mvf_sh h (c + 1) hc]
theorem alf_sh {u z : Int} {t t' : Nat → Int} (h : Sh u z.toNat t t') : alf t' z = alf t z := by
  unfold alf
  by_cases q : z.toNat = 0
  · rw [q]; rfl
  · exact afs_sh h _ (by omega)
def Tw (u : Int) (σ τ : Sg) : Prop :=
  τ 1 0 0 = σ 1 0 0 ∧ τ 2 0 0 = σ 2 0 0 ∧ (∀ j, τ 3 0 j = σ 3 0 j) ∧ (∀ j : Nat, (j : Int) < σ 1 0 0 → τ 4 0 j = σ 4 0 j + u ∧ τ 5 0 j = σ 5 0 j + u) ∧ (∀ j, τ 6 0 j = σ 6 0 j) ∧
  (∀ i, Sh u (σ 8 i 0).toNat (σ 7 i) (τ 7 i)) ∧ (∀ i, τ 8 i 0 = σ 8 i 0) ∧ (∀ i, τ 9 i 0 = σ 9 i 0) ∧ (∀ i j, τ 10 i j = σ 10 i j)
theorem Tw_0 (u : Int) : Tw u (fun _ _ _ => 0) (fun _ _ _ => 0) := ⟨rfl, rfl, fun _ => rfl, fun j h => absurd h (by show ¬ ((j : Int) < 0); omega), fun _ => rfl, fun i q h => absurd h (by simp), fun _ => rfl, fun _ => rfl, fun _ _ => rfl⟩
/-- the singers' rows are in order -/
abbrev Or45 (σ : Sg) (n : Nat) : Prop := ∀ j, j < n → 0 ≤ σ 4 0 j ∧ σ 4 0 j ≤ σ 5 0 j ∧ σ 5 0 j ≤ 60
theorem Iv_45 {σ : Sg} {n k N : Nat} (hI : Iv σ n k N) : Or45 σ n := fun j hj => by have := hI.2.2.2.2.1 j hj; omega
theorem sgs_tw {u : Int} {σ τ : Sg} (h : Tw u σ τ) (v d : Int) (k : Nat) : sgs τ v d k = sgs σ v d k := by
  unfold sgs
  rw [h.2.2.1 k, h.2.2.2.2.1 k]
theorem fo_tw {u : Int} (hu : 0 ≤ u) {σ τ : Sg} (h : Tw u σ τ) {v d : Int} {n : Nat} (hn : σ 1 0 0 = n) (h1 : Or45 σ n) (h2 : Or45 τ n) : ∀ k, k ≤ n → (foA σ v d k = -1 ∧ laA σ v d k = 60 ∧ foA τ v d k = -1 ∧ laA τ v d k = 60) ∨ (0 ≤ foA σ v d k ∧ foA τ v d k = foA σ v d k + u ∧ laA τ v d k = laA σ v d k + u)
  | 0, _ => Or.inl ⟨rfl, rfl, rfl, rfl⟩
  | k + 1, hk => by
    have h3 := fo_tw hu h (v := v) (d := d) hn h1 h2 k (by omega)
    have h4 := h1 k (by omega)
    have h5 := h2 k (by omega)
    have h6 := h.2.2.2.1 k (by omega)
    rw [foA_s, laA_s, foA_s, laA_s, sgs_tw h]
    by_cases q : sgs σ v d k = true
    · right
      simp only [q, true_and]
      rcases h3 with ⟨a1, a2, a3, a4⟩ | ⟨a1, a2, a3⟩
      · rw [a1, a2, a3, a4]
        (repeat' split) <;> omega
      · rw [a2, a3]
        (repeat' split) <;> omega
    · rw [if_neg (fun z => q z.1), if_neg (fun z => q z.1), if_neg (fun z => q z.1), if_neg (fun z => q z.1)]
      exact h3
theorem vRng_tw {u : Int} (hu : 0 ≤ u) {σ τ : Sg} (h : Tw u σ τ) {v d : Int} {n : Nat} (hn : σ 1 0 0 = n) (h1 : Or45 σ n) (h2 : Or45 τ n) : -1 ≤ vRng σ v d n ∧ vRng σ v d n ≤ 6060 ∧ vRng τ v d n = if vRng σ v d n < 0 then -1 else vRng σ v d n + 101 * u := by
  have h3 := fo_tw hu h (v := v) (d := d) hn h1 h2 n (Nat.le_refl n)
  have h4 := laA_rg (σ := σ) (v := v) (d := d) (n := n) (fun j hj => by have := h1 j hj; omega) n (Nat.le_refl n)
  have h5 := foA_rg (σ := σ) (v := v) (d := d) (n := n) (fun j hj => by have := h1 j hj; omega) n (Nat.le_refl n)
  unfold vRng foM
  rcases h3 with ⟨a1, a2, a3, a4⟩ | ⟨a1, a2, a3⟩
  · rw [a1, a2, a3, a4]; simp
  · rw [a2, a3, if_neg (by omega : ¬ foA σ v d n < 0), if_neg (by omega : ¬ foA σ v d n + u < 0)]
    refine ⟨?_, ?_, ?_⟩ <;> (repeat' split) <;> omega
theorem foM_tw {u : Int} (hu : 0 ≤ u) {σ τ : Sg} (h : Tw u σ τ) {v d : Int} {n : Nat} (hn : σ 1 0 0 = n) (h1 : Or45 σ n) (h2 : Or45 τ n) : foM τ v d n = 61 ↔ foM σ v d n = 61 := by
  have h3 := fo_tw hu h (v := v) (d := d) hn h1 h2 n (Nat.le_refl n)
  have h5 := foA_rg (σ := σ) (v := v) (d := d) (n := n) (fun j hj => by have := h1 j hj; omega) n (Nat.le_refl n)
  have h6 := foA_rg (σ := τ) (v := v) (d := d) (n := n) (fun j hj => by have := h2 j hj; omega) n (Nat.le_refl n)
  unfold foM
  (repeat' split) <;> omega
theorem msM_tw {u : Int} (hu : 0 ≤ u) {σ τ : Sg} (h : Tw u σ τ) {d : Int} {n : Nat} (hn : σ 1 0 0 = n) (h1 : Or45 σ n) (h2 : Or45 τ n) : ∀ k, msM τ d n k = msM σ d n k
  | 0 => rfl
  | k + 1 => by
    have h3 := foM_tw hu h (v := σ 3 0 k) (d := d) hn h1 h2
    rw [msM_s, msM_s, msM_tw hu h hn h1 h2 k, h.2.2.1 k, h.2.2.2.2.1 k]
    by_cases q : ¬ thr (σ 6 0 k) d = true ∧ foM σ (σ 3 0 k) d n = 61
    · rw [if_pos q, if_pos ⟨q.1, h3.mpr q.2⟩]
    · rw [if_neg q, if_neg (fun z => q ⟨z.1, h3.mp z.2⟩)]
theorem ftc_tw {u : Int} (hu : 0 ≤ u) {σ τ : Sg} (h : Tw u σ τ) {d x : Int} {n i v : Nat} (hv : v < 4) (b : Bool) (hn : σ 1 0 0 = n) (h1 : Or45 σ n) (h2 : Or45 τ n) (c : Nat) (hc : c ≤ (σ 8 i 0).toNat) : ftc τ i v x (foM τ (v : Int) d n) (laA τ (v : Int) d n) b c = ftc σ i v x (foM σ (v : Int) d n) (laA σ (v : Int) d n) b c := by
  have h3 := fo_tw hu h (v := (v : Int)) (d := d) hn h1 h2 n (Nat.le_refl n)
  rw [Bool.eq_iff_iff, ftc_iff, ftc_iff]
  refine and_congr_right (fun _ => ?_)
  have h4 : ∀ q, q < c → τ 7 i (4 * q + v) = σ 7 i (4 * q + v) + u := fun q hq => h.2.2.2.2.2.1 i (4 * q + v) (by omega)
  unfold foM
  rcases h3 with ⟨a1, a2, a3, a4⟩ | ⟨a1, a2, a3⟩
  · rw [a1, a2, a3, a4]
    constructor
    · intro hq q hl; have := hq q hl; simp at this; omega
    · intro hq q hl; have := hq q hl; simp at this; omega
  · rw [a2, a3, if_neg (by omega : ¬ foA σ v d n < 0), if_neg (by omega : ¬ foA σ v d n + u < 0)]
    constructor
    · intro hq q hl; have := hq q hl; have := h4 q hl; omega
    · intro hq q hl; have := hq q hl; have := h4 q hl; omega
theorem ftv_tw {u : Int} (hu : 0 ≤ u) {σ τ : Sg} (h : Tw u σ τ) {d x : Int} {n i : Nat} (hn : σ 1 0 0 = n) (h1 : Or45 σ n) (h2 : Or45 τ n) : ∀ v, v ≤ 4 → ftv τ i n d x v = ftv σ i n d x v
  | 0, _ => rfl
  | v + 1, hv => by
    rw [ftv_s, ftv_s, ftv_tw hu h hn h1 h2 v (by omega), h.2.2.2.2.2.2.1 i, ftc_tw hu h (by omega) _ hn h1 h2 _ (Nat.le_refl _)]
theorem shS_tw {u : Int} (hu : 0 ≤ u) {σ τ : Sg} (h : Tw u σ τ) {d : Int} {n i : Nat} (hn : σ 1 0 0 = n) (h1 : Or45 σ n) (h2 : Or45 τ n) : ∀ r, shS τ i n d r = shS σ i n d r
  | 0 => rfl
  | r + 1 => by rw [shS_s, shS_s, shS_tw hu h hn h1 h2 r, ftv_tw hu h hn h1 h2 4 (Nat.le_refl _), ftv_tw hu h hn h1 h2 4 (Nat.le_refl _)]
theorem cnS_tw {u : Int} (hu : 0 ≤ u) {σ τ : Sg} (h : Tw u σ τ) {d : Int} {n : Nat} (hn : σ 1 0 0 = n) (h1 : Or45 σ n) (h2 : Or45 τ n) : ∀ p, cnS τ n d p = cnS σ n d p
  | 0 => rfl
  | p + 1 => by rw [cnS_s, cnS_s, cnS_tw hu h hn h1 h2 p, shS_tw hu h hn h1 h2]
theorem lnS_tw {u : Int} {σ τ : Sg} (h : Tw u σ τ) (s : Int) : ∀ p, lnS τ s p = lnS σ s p
  | 0 => rfl
  | p + 1 => by rw [lnS_s, lnS_s, lnS_tw h s p, h.2.2.2.2.2.2.2.1 p]
theorem bsS_tw {u : Int} {σ τ : Sg} (h : Tw u σ τ) (k : Nat) (can sec : Int) : ∀ s, bsS τ k can sec s = bsS σ k can sec s
  | 0 => rfl
  | s + 1 => by
    rw [bsS_s, bsS_s, bsS_tw h k can sec s]
    simp only [btr, lnS_tw h]
theorem prg_tw {u : Int} (hu : 0 ≤ u) {σ τ : Sg} (h : Tw u σ τ) {d x : Int} {n : Nat} (hn : σ 1 0 0 = n) (h1 : Or45 σ n) (h2 : Or45 τ n) (k : Nat) : prg τ n k d x = prg σ n k d x := by
  unfold prg
  rw [cnS_tw hu h hn h1 h2, bsS_tw h]
theorem wkS_tw {u : Int} {σ τ : Sg} (h : Tw u σ τ) {i c : Nat} (hc : (c : Int) < σ 8 i 0) : wkS τ i c = wkS σ i c := by
  unfold wkS
  rw [mvf_sh (h.2.2.2.2.2.1 i) c (by omega), h.2.2.2.2.2.2.2.2 i c]
theorem wkt_tw {u : Int} {σ τ : Sg} (h : Tw u σ τ) {i : Nat} : ∀ c : Nat, (c : Int) < σ 8 i 0 → wkt τ i c = wkt σ i c
  | 0, _ => rfl
  | c + 1, hc => by
    have h1 := wkt_le σ i c
    rw [wkt_s, wkt_s, wkt_tw h c (by omega), wkS_tw h (by omega), wkS_tw h (by omega)]
theorem wkq_tw {u : Int} {σ τ : Sg} (h : Tw u σ τ) {i : Nat} (h0 : 0 ≤ σ 8 i 0) : wkq τ i = wkq σ i := by
  unfold wkq
  rw [h.2.2.2.2.2.2.1 i]
  by_cases q : σ 8 i 0 = 0
  · rw [q]; rfl
  · exact wkt_tw h _ (by omega)
theorem wsm_tw {u : Int} {σ τ : Sg} (h : Tw u σ τ) {i : Nat} : ∀ c : Nat, (c : Int) ≤ σ 8 i 0 → wsm τ i c = wsm σ i c
  | 0, _ => rfl
  | c + 1, hc => by rw [wsm_s, wsm_s, wsm_tw h c (by omega), wkS_tw h (by omega)]
/-! what the acts do to both -/
theorem Tw_add {u : Int} {σ τ : Sg} (h : Tw u σ τ) (h0 : 0 ≤ σ 1 0 0) (v lo hi : Int) : Tw u (sAdd σ v lo hi) (sAdd τ v (lo + u) (hi + u)) := by
  obtain ⟨t1, t2, t3, t45, t6, t7, t8, t9, t10⟩ := h
  have e : (τ 1 0 0).toNat = (σ 1 0 0).toNat := by rw [t1]
  refine ⟨?_, t2, fun j => ?_, fun j hj => ?_, t6, t7, t8, t9, t10⟩
  · show τ 1 0 0 + 1 = σ 1 0 0 + 1; rw [t1]
  · show uI (τ 3 0) (τ 1 0 0).toNat v j = uI (σ 3 0) (σ 1 0 0).toNat v j
    rw [e]; unfold uI; split
    · rfl
    · exact t3 j
  · have hj : (j : Int) < σ 1 0 0 + 1 := hj
    show uI (τ 4 0) (τ 1 0 0).toNat (lo + u) j = uI (σ 4 0) (σ 1 0 0).toNat lo j + u ∧ uI (τ 5 0) (τ 1 0 0).toNat (hi + u) j = uI (σ 5 0) (σ 1 0 0).toNat hi j + u
    rw [e]; unfold uI; split
    · exact ⟨rfl, rfl⟩
    · exact t45 j (by omega)
theorem Tw_tel {u : Int} {σ τ : Sg} (h : Tw u σ τ) (x d t : Int) : Tw u (sTel σ x d t) (sTel τ x d t) := by
  obtain ⟨t1, t2, t3, t45, t6, t7, t8, t9, t10⟩ := h
  refine ⟨t1, t2, t3, t45, fun j => ?_, t7, t8, t9, t10⟩
  show uI (τ 6 0) x.toNat _ j = uI (σ 6 0) x.toNat _ j
  rw [t6 x.toNat]; unfold uI; split
  · rfl
  · exact t6 j
theorem Tw_chg {u : Int} {σ τ : Sg} (h : Tw u σ τ) (x : Nat) (v : Int) : Tw u (su σ 3 0 x v) (su τ 3 0 x v) := by
  obtain ⟨t1, t2, t3, t45, t6, t7, t8, t9, t10⟩ := h
  refine ⟨t1, t2, fun j => ?_, t45, t6, t7, t8, t9, t10⟩
  show uI (τ 3 0) x v j = uI (σ 3 0) x v j
  unfold uI; split
  · rfl
  · exact t3 j
theorem Tw_pce {u : Int} {σ τ : Sg} (h : Tw u σ τ) (x : Int) : Tw u (sPce σ x) (sPce τ x) := by
  obtain ⟨t1, t2, t3, t45, t6, t7, t8, t9, t10⟩ := h
  refine ⟨t1, ?_, t3, t45, t6, t7, t8, fun i => ?_, t10⟩
  · show τ 2 0 0 + 1 = σ 2 0 0 + 1; rw [t2]
  · show su τ 9 (τ 2 0 0).toNat 0 x 9 i 0 = su σ 9 (σ 2 0 0).toNat 0 x 9 i 0
    rw [t2]
    by_cases q : i = (σ 2 0 0).toNat
    · subst q; rw [su_s, su_s, uI_s, uI_s]
    · rw [su_n _ _ _ _ q, su_n _ _ _ _ q]; exact t9 i
theorem sh_put {u : Int} {z : Nat} {t t' : Nat → Int} (h : Sh u z t t') (q : Nat) (x : Int) : Sh u z (uI t q x) (uI t' q (x + u)) := by
  intro j hj
  unfold uI; split
  · rfl
  · exact h j hj
theorem Tw_set {u : Int} {σ τ : Sg} (h : Tw u σ τ) (i q : Nat) (x : Int) : Tw u (su σ 7 i q x) (su τ 7 i q (x + u)) := by
  obtain ⟨t1, t2, t3, t45, t6, t7, t8, t9, t10⟩ := h
  refine ⟨t1, t2, t3, t45, t6, fun j => ?_, t8, t9, t10⟩
  show Sh u (σ 8 j 0).toNat _ _
  by_cases e : j = i
  · subst e; rw [su_s, su_s]; exact sh_put (t7 j) _ _
  · rw [su_n _ _ _ _ e, su_n _ _ _ _ e]; exact t7 j
theorem Tw_chd {u : Int} {σ τ : Sg} (h : Tw u σ τ) (h0 : 0 ≤ σ 8 (σ 2 0 0).toNat 0) (a b c d : Int) : Tw u (sChd σ a b c d) (sChd τ (a + u) (b + u) (c + u) (d + u)) := by
  have e2 : τ 2 0 0 = σ 2 0 0 := h.2.1
  have e8 : τ 8 (σ 2 0 0).toNat 0 = σ 8 (σ 2 0 0).toNat 0 := h.2.2.2.2.2.2.1 _
  unfold sChd
  rw [e2, e8]
  generalize hk : (σ 2 0 0).toNat = k at *
  obtain ⟨z, hz⟩ : ∃ z : Nat, σ 8 k 0 = (z : Int) := ⟨(σ 8 k 0).toNat, by omega⟩
  rw [hz, Int.toNat_natCast]
  obtain ⟨t1, t2, t3, t45, t6, t7, t8, t9, t10⟩ := h
  refine ⟨t1, t2, t3, t45, t6, fun j => ?_, fun j => ?_, t9, t10⟩
  · by_cases e : j = k
    · subst e
      have h7 : ∀ (ρ : Sg) (a b c d : Int), su (su (su (su (su ρ 7 j (4 * z) a) 7 j (4 * z + 1) b) 7 j (4 * z + 2) c) 7 j (4 * z + 3) d) 8 j 0 ((z : Int) + 1) 7 j = uI (uI (uI (uI (ρ 7 j) (4 * z) a) (4 * z + 1) b) (4 * z + 2) c) (4 * z + 3) d := by intro ρ a b c d; simp [su]
      have h8 : ∀ (ρ : Sg) (a b c d : Int), su (su (su (su (su ρ 7 j (4 * z) a) 7 j (4 * z + 1) b) 7 j (4 * z + 2) c) 7 j (4 * z + 3) d) 8 j 0 ((z : Int) + 1) 8 j 0 = (z : Int) + 1 := by intro ρ a b c d; simp [su, uI]
      rw [h7, h7, h8]
      intro q hq
      have hq : q < 4 * (z + 1) := by omega
      have h9 := t7 j q
      rw [hz, Int.toNat_natCast] at h9
      unfold uI
      (repeat' split) <;> first | rfl | (exact h9 (by omega))
    · have h7 : ∀ (ρ : Sg) (a b c d : Int), su (su (su (su (su ρ 7 k (4 * z) a) 7 k (4 * z + 1) b) 7 k (4 * z + 2) c) 7 k (4 * z + 3) d) 8 k 0 ((z : Int) + 1) 7 j = ρ 7 j := by intro ρ a b c d; simp [su, e]
      have h8 : ∀ (ρ : Sg) (a b c d : Int), su (su (su (su (su ρ 7 k (4 * z) a) 7 k (4 * z + 1) b) 7 k (4 * z + 2) c) 7 k (4 * z + 3) d) 8 k 0 ((z : Int) + 1) 8 j 0 = ρ 8 j 0 := by intro ρ a b c d; simp [su, e]
      rw [h7, h7, h8]
      exact t7 j
  · show su (su (su (su (su τ 7 k (4 * z) (a + u)) 7 k (4 * z + 1) (b + u)) 7 k (4 * z + 2) (c + u)) 7 k (4 * z + 3) (d + u)) 8 k 0 ((z : Int) + 1) 8 j 0 = su (su (su (su (su σ 7 k (4 * z) a) 7 k (4 * z + 1) b) 7 k (4 * z + 2) c) 7 k (4 * z + 3) d) 8 k 0 ((z : Int) + 1) 8 j 0
    by_cases e : j = k
    · subst e; rw [su_s, su_s, uI_s, uI_s]
    · rw [su_n _ _ _ _ e, su_n _ _ _ _ e]; exact t8 j
theorem Tw_rh1 {u : Int} {σ τ : Sg} (h : Tw u σ τ) {i : Nat} (h0 : 0 ≤ σ 8 i 0) : Tw u (rh1 σ i) (rh1 τ i) := by
  have e := wkq_tw h h0
  obtain ⟨t1, t2, t3, t45, t6, t7, t8, t9, t10⟩ := h
  refine ⟨t1, t2, t3, t45, t6, t7, t8, t9, fun j q => ?_⟩
  unfold rh1
  rw [e, t10 i]
  by_cases e : j = i
  · subst e; rw [su_s, su_s]; unfold uI; split
    · rfl
    · exact t10 j q
  · rw [su_n _ _ _ _ e, su_n _ _ _ _ e]; exact t10 j q
theorem Tw_rhS {u : Int} {σ τ : Sg} (h : Tw u σ τ) {i : Nat} (h0 : 0 ≤ σ 8 i 0) : ∀ q, Tw u (rhS σ i q) (rhS τ i q) ∧ rhS σ i q 8 = σ 8
  | 0 => ⟨h, rfl⟩
  | q + 1 => by
    obtain ⟨h1, h2⟩ := Tw_rhS h h0 q
    exact ⟨Tw_rh1 h1 (by rw [h2]; exact h0), h2⟩
