/-! ===== ancestors: what both ways of looking find ===== -/
theorem WF.pd {σ : SG} (h : WF σ) : ∀ j : Nat, (j : Int) < σ 0 0 → σ 2 j < j := fun j hj => by have := h.par hj; omega
theorem An_self (p : Nat → Int) (k : Nat) : An p k k = true := by
  unfold An
  simp only [anc]
  rw [if_neg (by omega)]
  simp
theorem An_le {p : Nat → Int} {n : Int} (hp : ∀ j : Nat, (j : Int) < n → p j < j) (x : Int) : ∀ (d : Nat) (k : Int), k < d → k < n → An p x k = true → x ≤ k ∧ 0 ≤ x := by
  intro d
  induction d with
  | zero =>
    intro k h1 h2 h
    rw [An_neg p x (by omega)] at h
    cases h
  | succ d ih =>
    intro k h1 h2 h
    by_cases h0 : k < 0
    · rw [An_neg p x h0] at h; cases h
    · obtain ⟨j, rfl⟩ : ∃ j : Nat, k = (j : Int) := ⟨k.toNat, by omega⟩
      rw [An_s p x hp h2, Bool.or_eq_true] at h
      rcases h with h | h
      · have := of_decide_eq_true h
        omega
      · have h3 := hp j h2
        have := ih (p j) (by omega) (by omega) h
        omega
theorem An_bars {σ : SG} (hW : WF σ) (x : Nat) : ∀ (d : Nat) (k : Nat), k < d → (k : Int) < σ 0 0 → An (σ 2) x k = true → σ 1 x = σ 1 k := by
  intro d
  induction d with
  | zero => intro k h; omega
  | succ d ih =>
    intro k h1 h2 h
    rw [An_s (σ 2) x hW.pd h2, Bool.or_eq_true] at h
    rcases h with h | h
    · have := of_decide_eq_true h
      rw [show x = k by omega]
    · rcases hW.par h2 with hp | ⟨hp1, hp2, hp3⟩
      · rw [hp, An_neg _ _ (by decide)] at h; cases h
      · rw [← hp3]
        refine ih (σ 2 k).toNat (by omega) (by omega) ?_
        rw [Int.toNat_of_nonneg hp1]; exact h
theorem bs_of {p : Nat → Int} {i j : Int} {x : Nat} : ∀ n : Nat, x < n → An p x i = true → An p x j = true → (∀ y : Nat, x < y → y < n → ¬ (An p y i = true ∧ An p y j = true)) → bs p i j n = x := by
  intro n
  induction n with
  | zero => intro h; omega
  | succ n ih =>
    intro h h1 h2 h3
    by_cases e : n = x
    · subst e
      exact if_pos ⟨h1, h2⟩
    · rw [bs_s, if_neg (h3 n (by omega) (by omega))]
      exact ih (by omega) h1 h2 (fun y hy hy2 => h3 y hy (by omega))
theorem bs_none {p : Nat → Int} {i j : Int} : ∀ n : Nat, (∀ y : Nat, y < n → ¬ (An p y i = true ∧ An p y j = true)) → bs p i j n = -1 := by
  intro n
  induction n with
  | zero => intro _; rfl
  | succ n ih =>
    intro h
    rw [bs_s, if_neg (h n (by omega))]
    exact ih (fun y hy => h y (by omega))
theorem bs_an {p : Nat → Int} {i j : Int} {x : Nat} : ∀ n : Nat, bs p i j n = x → An p x i = true ∧ An p x j = true := by
  intro n
  induction n with
  | zero => intro h; have : (-1 : Int) = x := h; omega
  | succ n ih =>
    intro h
    rw [bs_s] at h
    split at h
    · rename_i hc
      rw [show x = n by omega]
      exact hc
    · exact ih h
/-- the base, as an address -/
def cmA (σ : SG) (a : AD) (i j : Nat) : Option Nat := if bs (σ 2) i j (σ 0 0).toNat < 0 then none else some (a 8 (bs (σ 2) i j (σ 0 0).toNat).toNat)
/-! ===== sums of faults, as the class adds them ===== -/
def wfr (w : Nat → Int) (r n : Nat) (u lo : Nat → Int) (f : Nat) : Nat → Int
  | 0 => 0
  | j + 1 => wfr w r n u lo f j + w r * ft r n u lo (f + j)
def wfs (w : Nat → Int) (n : Nat) (u lo : Nat → Int) (f m : Nat) : Nat → Int
  | 0 => 0
  | r + 1 => wfs w n u lo f m r + wfr w r n u lo f m
theorem wfr_r {w : Nat → Int} (hw : ∀ r, 0 ≤ w r ∧ w r ≤ 50) (r n : Nat) (u lo : Nat → Int) (f : Nat) : ∀ j : Nat, 0 ≤ wfr w r n u lo f j ∧ wfr w r n u lo f j ≤ 100 * (j : Int) := by
  intro j
  induction j with
  | zero => simp [wfr]
  | succ j ih =>
    unfold wfr
    have h1 := hw r
    have h2 := ft_r r n u lo (f + j)
    have h3 : 0 ≤ w r * ft r n u lo (f + j) := Int.mul_nonneg h1.1 h2.1
    have h4 : w r * ft r n u lo (f + j) ≤ 50 * 2 := Int.mul_le_mul h1.2 h2.2 h2.1 (by decide)
    omega
theorem wfs_r {w : Nat → Int} (hw : ∀ r, 0 ≤ w r ∧ w r ≤ 50) (n : Nat) (u lo : Nat → Int) (f m : Nat) (hm : m ≤ 12) : ∀ r : Nat, 0 ≤ wfs w n u lo f m r ∧ wfs w n u lo f m r ≤ 1200 * (r : Int) := by
  intro r
  induction r with
  | zero => simp [wfs]
  | succ r ih =>
    unfold wfs
    have h1 := wfr_r hw r n u lo f m
    omega
/-- the same sum, bar by bar -/
def cb (w : Nat → Int) (n : Nat) (u lo : Nat → Int) (b : Nat) : Int := w 0 * ft 0 n u lo b + w 1 * ft 1 n u lo b + w 2 * ft 2 n u lo b + w 3 * ft 3 n u lo b + w 4 * ft 4 n u lo b + w 5 * ft 5 n u lo b
def cbs (w : Nat → Int) (n : Nat) (u lo : Nat → Int) (f : Nat) : Nat → Int
  | 0 => 0
  | j + 1 => cbs w n u lo f j + cb w n u lo (f + j)
theorem wfs_cbs (w : Nat → Int) (n : Nat) (u lo : Nat → Int) (f : Nat) : ∀ m : Nat, wfs w n u lo f m 6 = cbs w n u lo f m := by
  intro m
  induction m with
  | zero => rfl
  | succ m ih =>
    simp only [wfs, wfr, cbs, cb] at ih ⊢
    omega
theorem cs_cbs (w : Nat → Int) (n : Nat) (u lo : Nat → Int) : ∀ m : Nat, cs w n u lo (6 * m) = cbs w n u lo 0 m := by
  intro m
  induction m with
  | zero => rfl
  | succ m ih =>
    have e : 6 * (m + 1) = 6 * m + 1 + 1 + 1 + 1 + 1 + 1 := by omega
    rw [e]
    simp only [cs, cbs, cb]
    rw [ih]
    have m0 : (6 * m) % 6 = 0 := by omega
    have m1 : (6 * m + 1) % 6 = 1 := by omega
    have m2 : (6 * m + 1 + 1) % 6 = 2 := by omega
    have m3 : (6 * m + 1 + 1 + 1) % 6 = 3 := by omega
    have m4 : (6 * m + 1 + 1 + 1 + 1) % 6 = 4 := by omega
    have m5 : (6 * m + 1 + 1 + 1 + 1 + 1) % 6 = 5 := by omega
    have d0 : (6 * m) / 6 = 0 + m := by omega
    have d1 : (6 * m + 1) / 6 = 0 + m := by omega
    have d2 : (6 * m + 1 + 1) / 6 = 0 + m := by omega
    have d3 : (6 * m + 1 + 1 + 1) / 6 = 0 + m := by omega
    have d4 : (6 * m + 1 + 1 + 1 + 1) / 6 = 0 + m := by omega
    have d5 : (6 * m + 1 + 1 + 1 + 1 + 1) / 6 = 0 + m := by omega
    rw [m0, m1, m2, m3, m4, m5, d0, d1, d2, d3, d4, d5]
    omega
theorem wfs_CS {σ : SG} {k : Nat} {u lo : Nat → Int} (h : ∀ b : Nat, b < (σ 1 k).toNat → u b = NU σ k b ∧ lo b = NL σ k b) : wfs (σ 6) (σ 1 k).toNat u lo 0 (σ 1 k).toNat 6 = CS σ k := by
  rw [wfs_cbs, ← cs_cbs]
  unfold CS
  exact cs_cong h _ (Nat.le_refl _)
def c3B (u1 l1 u2 l2 u3 l3 : Nat → Int) : Nat → Bool := fun b => decide (¬ Sb u1 l1 u2 l2 b ∧ ¬ Sb u1 l1 u3 l3 b ∧ ¬ Sb u2 l2 u3 l3 b)
