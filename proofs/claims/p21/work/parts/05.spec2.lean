/-! tones, moves, faults: t is the row of a piece's tones, four a chord -/
theorem tn_ix (σ : Sg) (i j : Nat) (h : j < 64) : σ 7 ((64 * i + j) / 64) ((64 * i + j) % 64) = σ 7 i j := by
  rw [show (64 * i + j) / 64 = i by omega, show (64 * i + j) % 64 = j by omega]
theorem tn_ix4 (σ : Sg) (i c v : Nat) (h : 4 * c + v < 64) : σ 7 ((64 * i + 4 * c + v) / 64) ((64 * i + 4 * c + v) % 64) = σ 7 i (4 * c + v) := by
  rw [show (64 * i + 4 * c + v) / 64 = i by omega, show (64 * i + 4 * c + v) % 64 = 4 * c + v by omega]
theorem pr_ix (σ : Sg) (i j : Nat) (h : j < 16) : σ 10 ((16 * i + j) / 16) ((16 * i + j) % 16) = σ 10 i j := by
  rw [show (16 * i + j) / 16 = i by omega, show (16 * i + j) % 16 = j by omega]
/-- the step of voice v into chord c + 1 -/
abbrev stp (t : Nat → Int) (c v : Nat) : Int := t (4 * (c + 1) + v) - t (4 * c + v)
/-- a told parallel of the voices a and b in the move into chord c + 1 -/
abbrev prl (t : Nat → Int) (c a b : Nat) : Prop := stp t c a ≠ 0 ∧ stp t c a = stp t c b ∧ ((t (4 * (c + 1) + a) - t (4 * (c + 1) + b)) % 12 = 0 ∨ (t (4 * (c + 1) + a) - t (4 * (c + 1) + b)) % 12 = 7)
def fin (t : Nat → Int) (c a : Nat) : Nat → Int
  | 0 => 0
  | d + 1 => fin t c a d + (if prl t c a (a + 1 + d) then 3 else 0)
abbrev lpf (t : Nat → Int) (c a : Nat) : Int := if -7 ≤ stp t c a ∧ stp t c a ≤ 7 then 0 else 1
def fou (t : Nat → Int) (c : Nat) : Nat → Int
  | 0 => 0
  | a + 1 => fou t c a + lpf t c a + fin t c a (3 - a)
/-- the faults of the move into a chord -/
def mvf (t : Nat → Int) : Nat → Int
  | 0 => 0
  | c + 1 => fou t c 4
theorem fin_s (t : Nat → Int) (c a d : Nat) : fin t c a (d + 1) = fin t c a d + (if prl t c a (a + 1 + d) then 3 else 0) := rfl
theorem fou_s (t : Nat → Int) (c a : Nat) : fou t c (a + 1) = fou t c a + lpf t c a + fin t c a (3 - a) := rfl
theorem mvf_s (t : Nat → Int) (c : Nat) : mvf t (c + 1) = fou t c 4 := rfl
theorem fin_rg (t : Nat → Int) (c a : Nat) : ∀ d, 0 ≤ fin t c a d ∧ fin t c a d ≤ 3 * d
  | 0 => by simp [fin]
  | d + 1 => by
    have h := fin_rg t c a d
    rw [fin_s]
    split <;> omega
theorem fou_rg (t : Nat → Int) (c : Nat) : ∀ a, 0 ≤ fou t c a ∧ fou t c a ≤ 10 * a
  | 0 => by simp [fou]
  | a + 1 => by
    have h := fou_rg t c a
    have h2 := fin_rg t c a (3 - a)
    rw [fou_s]
    unfold lpf
    split <;> omega
theorem mvf_rg (t : Nat → Int) (c : Nat) : 0 ≤ mvf t c ∧ mvf t c ≤ 40 := by
  cases c with
  | zero => simp [mvf]
  | succ c => have h := fou_rg t c 4; rw [mvf_s]; omega
/-- the faults of the first moves -/
def afs (t : Nat → Int) : Nat → Int
  | 0 => 0
  | c + 1 => afs t c + mvf t (c + 1)
theorem afs_s (t : Nat → Int) (c : Nat) : afs t (c + 1) = afs t c + mvf t (c + 1) := rfl
theorem afs_rg (t : Nat → Int) : ∀ c, 0 ≤ afs t c ∧ afs t c ≤ 40 * c
  | 0 => by simp [afs]
  | c + 1 => by
    have h := afs_rg t c
    have h2 := mvf_rg t (c + 1)
    rw [afs_s]
    omega
/-- a piece's faults, of z chords -/
abbrev alf (t : Nat → Int) (z : Int) : Int := afs t (z.toNat - 1)
theorem t_ord {t : Nat → Int} (h : ∀ c, t (4 * c + 3) ≤ t (4 * c + 2) ∧ t (4 * c + 2) ≤ t (4 * c + 1) ∧ t (4 * c + 1) ≤ t (4 * c)) {c a b : Nat} (hab : a ≤ b) (hb : b < 4) : t (4 * c + b) ≤ t (4 * c + a) := by
  have h1 : t (4 * c + 3) ≤ t (4 * c + 2) ∧ t (4 * c + 2) ≤ t (4 * c + 1) ∧ t (4 * c + 1) ≤ t (4 * c + 0) := h c
  have ha : a = 0 ∨ a = 1 ∨ a = 2 ∨ a = 3 := by omega
  have hb : b = 0 ∨ b = 1 ∨ b = 2 ∨ b = 3 := by omega
  rcases ha with rfl | rfl | rfl | rfl <;> rcases hb with rfl | rfl | rfl | rfl <;> omega
abbrev flr (tn : Nat → Int) (c v : Nat) : Int := if v = 3 then 0 else tn (4 * c + (v + 1))
abbrev clg (tn : Nat → Int) (c v : Nat) : Int := if v = 0 then 60 else tn (4 * c + (v - 1))
/-! transposing, as the reference finds it -/
def ftc (σ : Sg) (i v : Nat) (x fo la : Int) (b : Bool) : Nat → Bool
  | 0 => b
  | c + 1 => ftc σ i v x fo la b c && decide (fo ≤ σ 7 i (4 * c + v) + x ∧ σ 7 i (4 * c + v) + x ≤ la)
def ftv (σ : Sg) (i n : Nat) (d x : Int) : Nat → Bool
  | 0 => true
  | v + 1 => ftc σ i v x (foM σ v d n) (laA σ v d n) (ftv σ i n d x v) (σ 8 i 0).toNat
theorem ftc_s (σ : Sg) (i v : Nat) (x fo la : Int) (b : Bool) (c : Nat) : ftc σ i v x fo la b (c + 1) = (ftc σ i v x fo la b c && decide (fo ≤ σ 7 i (4 * c + v) + x ∧ σ 7 i (4 * c + v) + x ≤ la)) := rfl
theorem ftv_s (σ : Sg) (i n : Nat) (d x : Int) (v : Nat) : ftv σ i n d x (v + 1) = ftc σ i v x (foM σ v d n) (laA σ v d n) (ftv σ i n d x v) (σ 8 i 0).toNat := rfl
/-- the nearest shift with r tries left -/
def shS (σ : Sg) (i n : Nat) (d : Int) : Nat → Int
  | 0 => 99
  | r + 1 => if ftv σ i n d (-(12 - (r : Int))) 4 = true then -(12 - (r : Int)) else if ftv σ i n d (12 - (r : Int)) 4 = true then 12 - (r : Int) else shS σ i n d r
theorem shS_s (σ : Sg) (i n : Nat) (d : Int) (r : Nat) : shS σ i n d (r + 1) = if ftv σ i n d (-(12 - (r : Int))) 4 = true then -(12 - (r : Int)) else if ftv σ i n d (12 - (r : Int)) 4 = true then 12 - (r : Int) else shS σ i n d r := rfl
theorem shS_rg (σ : Sg) (i n : Nat) (d : Int) : ∀ r, r ≤ 13 → -12 ≤ shS σ i n d r ∧ shS σ i n d r ≤ 99
  | 0, _ => by simp [shS]
  | r + 1, hr => by
    have h := shS_rg σ i n d r (by omega)
    rw [shS_s]
    split
    · omega
    · split <;> omega
theorem shS_q (σ : Sg) (i n : Nat) (d : Int) {q : Nat} (hq : q ≤ 12) : shS σ i n d (13 - q) = if ftv σ i n d (-(q : Int)) 4 = true then -(q : Int) else if ftv σ i n d (q : Int) 4 = true then (q : Int) else shS σ i n d (13 - (q + 1)) := by
  rw [show 13 - q = (12 - q) + 1 by omega, shS_s, show (12 - ((12 - q : Nat) : Int)) = (q : Int) by omega, show 13 - (q + 1) = 12 - q by omega]
theorem foM_rg {σ : Sg} {v d : Int} {n : Nat} (h : ∀ j, j < n → 0 ≤ σ 4 0 j ∧ σ 4 0 j ≤ 60) : 0 ≤ foM σ v d n ∧ foM σ v d n ≤ 61 := by
  have h1 := foA_rg (v := v) (d := d) h n (Nat.le_refl n)
  unfold foM
  split <;> omega
/-! sets of pieces -/
theorem shl_ok : ∀ k : Nat, k ≤ 6 → shlI 1 (k : Int) = ((2 ^ k : Nat) : Int) := by
  intro k hk
  have h : ∀ j : Fin 7, shlI 1 ((j : Nat) : Int) = ((2 ^ (j : Nat) : Nat) : Int) := by decide +kernel
  exact h ⟨k, by omega⟩
theorem pw_rg : ∀ k : Nat, k ≤ 6 → 1 ≤ 2 ^ k ∧ 2 ^ k ≤ 64 := by
  intro k hk
  have h : ∀ j : Fin 7, 1 ≤ 2 ^ (j : Nat) ∧ 2 ^ (j : Nat) ≤ 64 := by decide
  exact h ⟨k, by omega⟩
def lnS (σ : Sg) (set : Int) : Nat → Int
  | 0 => 0
  | p + 1 => lnS σ set p + andI (shrI set p) 1 * σ 9 p 0
theorem lnS_s (σ : Sg) (set : Int) (p : Nat) : lnS σ set (p + 1) = lnS σ set p + andI (shrI set p) 1 * σ 9 p 0 := rfl
theorem a1_01 (x : Int) : andI x 1 = 0 ∨ andI x 1 = 1 := by
  unfold andI
  obtain ⟨j, hj, e⟩ := pk_andE (iI x) (m := iI 1) 1 (by decide +kernel)
  rw [e]
  have : j = 0 ∨ j = 1 := by omega
  rcases this with rfl | rfl
  · left; decide +kernel
  · right; decide +kernel
theorem lnS_rg {σ : Sg} (h : ∀ i, 0 ≤ σ 9 i 0 ∧ σ 9 i 0 ≤ 3600) (set : Int) : ∀ p, 0 ≤ lnS σ set p ∧ lnS σ set p ≤ 3600 * p
  | 0 => by simp [lnS]
  | p + 1 => by
    have h1 := lnS_rg h set p
    have h2 := h p
    rw [lnS_s]
    rcases a1_01 (shrI set p) with e | e <;> rw [e] <;> omega
/-- how many of six bits are set -/
def bct (s : Nat) : Nat := s % 2 + s / 2 % 2 + s / 4 % 2 + s / 8 % 2 + s / 16 % 2 + s / 32 % 2
def rst (s : Nat) : Nat → Int
  | 0 => s
  | r + 1 => andI (rst s r) (rst s r - 1)
theorem rst_s (s r : Nat) : rst s (r + 1) = andI (rst s r) (rst s r - 1) := rfl
theorem rst_ok : ∀ s, s < 64 → rst s (bct s) = 0 ∧ ∀ r, r < 7 → r < bct s → rst s r ≠ 0 := by decide +kernel
theorem bct_6 (s : Nat) : bct s ≤ 6 := by unfold bct; omega
theorem rst_rg (s : Nat) (hs : s < 64) : ∀ r, -2147483648 ≤ rst s r ∧ rst s r < 2147483648
  | 0 => by simp only [rst]; omega
  | r + 1 => by rw [rst_s]; exact iI_rg _
/-- whether a set is better than another one -/
abbrev btr (σ : Sg) (k : Nat) (s o : Nat) : Prop := 0 < lnS σ s k - lnS σ o k ∨ lnS σ s k - lnS σ o k = 0 ∧ (0 < (bct o : Int) - bct s ∨ (bct o : Int) - bct s = 0 ∧ andI (andI (xorI s o) (-(xorI s o))) s ≠ 0)
/-- the pieces that can be sung -/
def cnS (σ : Sg) (n : Nat) (d : Int) : Nat → Int
  | 0 => 0
  | p + 1 => orI (cnS σ n d p) (if shS σ p n d 13 = 99 then 0 else shlI 1 p)
theorem cnS_s (σ : Sg) (n : Nat) (d : Int) (p : Nat) : cnS σ n d (p + 1) = orI (cnS σ n d p) (if shS σ p n d 13 = 99 then 0 else shlI 1 p) := rfl
/-- the best set of those up to s -/
def bsS (σ : Sg) (k : Nat) (can sec : Int) : Nat → Nat
  | 0 => 0
  | s + 1 => if (andI ((s + 1 : Nat) : Int) (xorI can (-1)) = 0 ∧ lnS σ ((s + 1 : Nat) : Int) k ≤ sec) ∧ btr σ k (s + 1) (bsS σ k can sec s) then s + 1 else bsS σ k can sec s
theorem bsS_s (σ : Sg) (k : Nat) (can sec : Int) (s : Nat) : bsS σ k can sec (s + 1) = if (andI ((s + 1 : Nat) : Int) (xorI can (-1)) = 0 ∧ lnS σ ((s + 1 : Nat) : Int) k ≤ sec) ∧ btr σ k (s + 1) (bsS σ k can sec s) then s + 1 else bsS σ k can sec s := rfl
theorem bsS_le (σ : Sg) (k : Nat) (can sec : Int) : ∀ s, bsS σ k can sec s ≤ s
  | 0 => Nat.le_refl 0
  | s + 1 => by
    have h := bsS_le σ k can sec s
    rw [bsS_s]
    split <;> omega
/-! rehearsals -/
def wkS (σ : Sg) (i c : Nat) : Int := if 0 < 10 + 5 * mvf (σ 7 i) c - σ 10 i c then 10 + 5 * mvf (σ 7 i) c - σ 10 i c else 0
def wkt (σ : Sg) (i : Nat) : Nat → Nat
  | 0 => 0
  | c + 1 => if wkS σ i (wkt σ i c) < wkS σ i (c + 1) then c + 1 else wkt σ i c
theorem wkt_s (σ : Sg) (i c : Nat) : wkt σ i (c + 1) = if wkS σ i (wkt σ i c) < wkS σ i (c + 1) then c + 1 else wkt σ i c := rfl
theorem wkt_le (σ : Sg) (i : Nat) : ∀ c, wkt σ i c ≤ c
  | 0 => Nat.le_refl 0
  | c + 1 => by
    have h := wkt_le σ i c
    rw [wkt_s]
    split <;> omega
abbrev wkq (σ : Sg) (i : Nat) : Nat := wkt σ i ((σ 8 i 0).toNat - 1)
theorem wkS_rg {σ : Sg} {i c : Nat} (h : 0 ≤ σ 10 i c) : 0 ≤ wkS σ i c ∧ wkS σ i c ≤ 210 := by
  have h2 := mvf_rg (σ 7 i) c
  unfold wkS
  split <;> omega
def wsm (σ : Sg) (i : Nat) : Nat → Int
  | 0 => 0
  | c + 1 => wsm σ i c + wkS σ i c
theorem wsm_s (σ : Sg) (i c : Nat) : wsm σ i (c + 1) = wsm σ i c + wkS σ i c := rfl
theorem wsm_rg {σ : Sg} {i : Nat} (h : ∀ c, 0 ≤ σ 10 i c) : ∀ c, 0 ≤ wsm σ i c ∧ wsm σ i c ≤ 210 * c
  | 0 => by simp [wsm]
  | c + 1 => by
    have h1 := wsm_rg h c
    have h2 := wkS_rg (h c)
    rw [wsm_s]
    omega
