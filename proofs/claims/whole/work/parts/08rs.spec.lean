/-! ===== what the rules find: the mathematics of both sides ===== -/
def dz (a b : Int) : Int := if b ≤ a then a - b else b - a
theorem dz_0 {a b : Int} : dz a b = 0 ↔ a = b := by unfold dz; split <;> omega
theorem dz_c (a b : Int) : dz a b = dz b a := by unfold dz; split <;> split <;> omega
theorem dz_r {a b : Int} (ha : 0 ≤ a ∧ a ≤ 40) (hb : 0 ≤ b ∧ b ≤ 40) : 0 ≤ dz a b ∧ dz a b ≤ 40 := by unfold dz; split <;> omega
def iv (u lo : Nat → Int) (b : Nat) : Int := dz (u b) (lo b) % 12
theorem iv_r (u lo : Nat → Int) (b : Nat) : 0 ≤ iv u lo b ∧ iv u lo b ≤ 11 := by unfold iv; omega
def Nt (u : Nat → Int) : Prop := ∀ j, 0 ≤ u j ∧ u j ≤ 40
abbrev P7 (x : Int) : Prop := x = 0 ∨ x = 7
abbrev D0 (u lo : Nat → Int) (b : Nat) : Prop := iv u lo b = 1 ∨ iv u lo b = 2 ∨ iv u lo b = 5 ∨ iv u lo b = 6 ∨ iv u lo b = 10 ∨ iv u lo b = 11
abbrev D1 (u lo : Nat → Int) (b : Nat) : Prop := 1 ≤ b ∧ ¬ u b = u (b - 1) ∧ ¬ lo b = lo (b - 1) ∧ iv u lo b = iv u lo (b - 1) ∧ P7 (iv u lo b)
def F2 (u lo : Nat → Int) (b : Nat) : Int := if 1 ≤ b then pz (9 < dz (u b) (u (b - 1))) + pz (9 < dz (lo b) (lo (b - 1))) else 0
abbrev D3 (u lo : Nat → Int) (b : Nat) : Prop := u b < lo b
def F4 (n : Nat) (u lo : Nat → Int) (b : Nat) : Int := if P7 (iv u lo b) then 0 else pz (b = 0) + pz (b + 1 = n)
abbrev D5 (u : Nat → Int) (b : Nat) : Prop := 2 ≤ b ∧ u b = u (b - 1) ∧ u (b - 1) = u (b - 2)
def ft (r n : Nat) (u lo : Nat → Int) (b : Nat) : Int := match r with
  | 0 => pz (D0 u lo b)
  | 1 => pz (D1 u lo b)
  | 2 => F2 u lo b
  | 3 => pz (D3 u lo b)
  | 4 => F4 n u lo b
  | _ => pz (D5 u b)
theorem pz_b (P : Prop) [Decidable P] : 0 ≤ pz P ∧ pz P ≤ 1 := by unfold pz; split <;> decide
theorem ft_r (r n : Nat) (u lo : Nat → Int) (b : Nat) : 0 ≤ ft r n u lo b ∧ ft r n u lo b ≤ 2 := by
  unfold ft
  split
  · have := pz_b (D0 u lo b); omega
  · have := pz_b (D1 u lo b); omega
  · unfold F2
    split
    · have h1 := pz_b (9 < dz (u b) (u (b - 1)))
      have h2 := pz_b (9 < dz (lo b) (lo (b - 1)))
      omega
    · omega
  · have := pz_b (D3 u lo b); omega
  · unfold F4
    split
    · omega
    · have h1 := pz_b (b = 0)
      have h2 := pz_b (b + 1 = n)
      omega
  · have := pz_b (D5 u b); omega
/-- the way of a voice up to a bar -/
def wy (w : Nat → Int) : Nat → Int
  | 0 => 0
  | 1 => 0
  | k + 2 => wy w (k + 1) + dz (w (k + 1)) (w k)
theorem wy_s (w : Nat → Int) {k : Nat} (h : 1 ≤ k) : wy w (k + 1) = wy w k + dz (w k) (w (k - 1)) := by
  match k, h with
  | k + 1, _ => rfl
theorem wy_r {w : Nat → Int} (hw : Nt w) : ∀ j : Nat, 0 ≤ wy w j ∧ wy w j ≤ 40 * (j : Int) := by
  intro j
  induction j with
  | zero => simp [wy]
  | succ j ih =>
    by_cases h : 1 ≤ j
    · rw [wy_s w h]
      have h1 := dz_r (hw j) (hw (j - 1))
      omega
    · have h0 : j = 0 := by omega
      subst h0
      simp [wy]
/-! ===== a score's cells ===== -/
def ScP (g : gG) (q a b : Nat) (n : Int) (u lo : Nat → Int) (H : Heap) : Prop :=
  va_at g.1 vwCl (q, .inr (1, [.int (zi n), .ref a, .ref b])) H ∧ va_at g.1 vwCl (a, .inl (g.2.1, 12, .inl (fun j => zi (u j)))) H ∧ va_at g.1 vwCl (b, .inl (g.2.1, 12, .inl (fun j => zi (lo j)))) H
