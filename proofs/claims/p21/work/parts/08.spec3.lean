/-! the class's roster and pieces -/
abbrev RW (G : gT) (B : Nat → Nat) (σ : Sg) : va_W := [(B 0, .inr (1, [.ref (B 1), .ref (B 2), .ref (B 3), .ref (B 4), .int (iI (σ 1 0 0))])), (B 1, .inl (G.2.1, 12, .inl (ia (σ 3 0)))), (B 2, .inl (G.2.1, 12, .inl (ia (σ 4 0)))), (B 3, .inl (G.2.1, 12, .inl (ia (σ 5 0)))), (B 4, .inl (G.2.1, 12, .inl (ia (σ 6 0))))]
abbrev PW (G : gT) (a : Nat → Nat) (tn pr mf : Nat → Int) (sz sc : Int) : va_W := [(a 0, .inr (0, [.ref (a 1), .ref (a 2), .ref (a 3), .int (iI sz), .int (iI sc)])), (a 1, .inl (G.2.1, 64, .inl (ia tn))), (a 2, .inl (G.2.1, 16, .inl (ia pr))), (a 3, .inl (G.2.1, 16, .inl (ia mf)))]
def ftC (σ : Sg) (v d : Int) : Nat → Int
  | 0 => 0
  | k + 1 => if sgs σ v d k = true then max (ftC σ v d k) (σ 4 0 k) else ftC σ v d k
def ltC (σ : Sg) (v d : Int) : Nat → Int
  | 0 => -1
  | k + 1 => if sgs σ v d k = true then (if ltC σ v d k < 0 then σ 5 0 k else min (ltC σ v d k) (σ 5 0 k)) else ltC σ v d k
theorem ftC_s (σ : Sg) (v d : Int) (k : Nat) : ftC σ v d (k + 1) = if sgs σ v d k = true then max (ftC σ v d k) (σ 4 0 k) else ftC σ v d k := rfl
theorem ltC_s (σ : Sg) (v d : Int) (k : Nat) : ltC σ v d (k + 1) = if sgs σ v d k = true then (if ltC σ v d k < 0 then σ 5 0 k else min (ltC σ v d k) (σ 5 0 k)) else ltC σ v d k := rfl
theorem ftC_rg {σ : Sg} {v d : Int} {n : Nat} (h : ∀ j, j < n → 0 ≤ σ 4 0 j ∧ σ 4 0 j ≤ 60) : ∀ k, k ≤ n → 0 ≤ ftC σ v d k ∧ ftC σ v d k ≤ 60
  | 0, _ => by simp [ftC]
  | k + 1, hk => by
    have h1 := ftC_rg (v := v) (d := d) h k (by omega)
    have h2 := h k (by omega)
    rw [ftC_s]
    split <;> omega
theorem ltC_rg {σ : Sg} {v d : Int} {n : Nat} (h : ∀ j, j < n → 0 ≤ σ 5 0 j ∧ σ 5 0 j ≤ 60) : ∀ k, k ≤ n → -1 ≤ ltC σ v d k ∧ ltC σ v d k ≤ 60
  | 0, _ => by simp [ltC]
  | k + 1, hk => by
    have h1 := ltC_rg (v := v) (d := d) h k (by omega)
    have h2 := h k (by omega)
    rw [ltC_s]
    split
    · split <;> omega
    · omega
def msC (σ : Sg) (d : Int) (n : Nat) : Nat → Int
  | 0 => 0
  | k + 1 => msC σ d n k + (if ¬ thr (σ 6 0 k) d = true ∧ ltC σ (σ 3 0 k) d n < 0 then 1 else 0)
theorem msC_s (σ : Sg) (d : Int) (n k : Nat) : msC σ d n (k + 1) = msC σ d n k + (if ¬ thr (σ 6 0 k) d = true ∧ ltC σ (σ 3 0 k) d n < 0 then 1 else 0) := rfl
theorem irem12 {z : Int} (h : 0 ≤ z ∧ z < 2147483648) : iI z - iI z / iI 12 * iI 12 = iI (z % 12) := by
  obtain ⟨j, rfl⟩ : ∃ j : Nat, z = (j : Int) := ⟨z.toNat, by omega⟩
  have e : ((j : Int) % 12) = ((j % 12 : Nat) : Int) := by omega
  rw [e, iI_nat, iI_nat, show iI 12 = nI 12 from iI_nat 12]
  exact pk_rem (by omega) (by omega) (by omega)
def lwC (tn : Nat → Int) (v : Nat) : Nat → Int
  | 0 => 60
  | c + 1 => min (lwC tn v c) (tn (4 * c + v))
def hgC (tn : Nat → Int) (v : Nat) : Nat → Int
  | 0 => 0
  | c + 1 => max (hgC tn v c) (tn (4 * c + v))
theorem lwC_rg {tn : Nat → Int} (h : ∀ j, 0 ≤ tn j ∧ tn j ≤ 60) (v : Nat) : ∀ c, 0 ≤ lwC tn v c ∧ lwC tn v c ≤ 60
  | 0 => by simp [lwC]
  | c + 1 => by
    have h1 := lwC_rg h v c
    have h2 := h (4 * c + v)
    show 0 ≤ min (lwC tn v c) (tn (4 * c + v)) ∧ min (lwC tn v c) (tn (4 * c + v)) ≤ 60
    omega
theorem hgC_rg {tn : Nat → Int} (h : ∀ j, 0 ≤ tn j ∧ tn j ≤ 60) (v : Nat) : ∀ c, 0 ≤ hgC tn v c ∧ hgC tn v c ≤ 60
  | 0 => by simp [hgC]
  | c + 1 => by
    have h1 := hgC_rg h v c
    have h2 := h (4 * c + v)
    show 0 ≤ max (hgC tn v c) (tn (4 * c + v)) ∧ max (hgC tn v c) (tn (4 * c + v)) ≤ 60
    omega
/-- sums over the moves' faults as kept -/
def fsC (mf : Nat → Int) : Nat → Int
  | 0 => 0
  | c + 1 => fsC mf c + mf (c + 1)
abbrev wkC (mf pr : Nat → Int) (c : Nat) : Int := max 0 (10 + 5 * mf c - pr c)
def wsC (mf pr : Nat → Int) : Nat → Int
  | 0 => 0
  | c + 1 => wsC mf pr c + wkC mf pr c
theorem wsC_rg {mf pr : Nat → Int} (h : ∀ c, 0 ≤ mf c ∧ mf c ≤ 40) (h2 : ∀ c, 0 ≤ pr c ∧ pr c ≤ 70000) : ∀ c, 0 ≤ wsC mf pr c ∧ wsC mf pr c ≤ 210 * c
  | 0 => by simp [wsC]
  | c + 1 => by
    have h3 := wsC_rg h h2 c
    have h4 := h c
    have h5 := h2 c
    show 0 ≤ wsC mf pr c + max 0 (10 + 5 * mf c - pr c) ∧ wsC mf pr c + max 0 (10 + 5 * mf c - pr c) ≤ 210 * ((c + 1 : Nat) : Int)
    omega
def wcC (mf pr : Nat → Int) : Nat → Nat
  | 0 => 0
  | c + 1 => if wkC mf pr (wcC mf pr c) < wkC mf pr (c + 1) then c + 1 else wcC mf pr c
theorem wcC_s (mf pr : Nat → Int) (c : Nat) : wcC mf pr (c + 1) = if wkC mf pr (wcC mf pr c) < wkC mf pr (c + 1) then c + 1 else wcC mf pr c := rfl
theorem wcC_le (mf pr : Nat → Int) : ∀ c, wcC mf pr c ≤ c
  | 0 => Nat.le_refl 0
  | c + 1 => by
    have h := wcC_le mf pr c
    rw [wcC_s]
    split <;> omega
theorem stp_rg {t : Nat → Int} (h : ∀ j, 0 ≤ t j ∧ t j ≤ 60) (c v : Nat) : -60 ≤ stp t c v ∧ stp t c v ≤ 60 := by
  have h1 := h (4 * (c + 1) + v)
  have h2 := h (4 * c + v)
  unfold stp
  omega
theorem wkC_rg {mf pr : Nat → Int} {c : Nat} (h : 0 ≤ mf c ∧ mf c ≤ 40) (h2 : 0 ≤ pr c ∧ pr c ≤ 70000) : 0 ≤ wkC mf pr c ∧ wkC mf pr c ≤ 210 := by unfold wkC; omega
