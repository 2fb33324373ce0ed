/-! ===== the class's cells: addresses a kind place: 1 itself, 2 versions, 3 copies, 4 weights, 5 6 7 the trial score, 8 a version, 9 10 11 its score, 12 a copy, 13 its row ===== -/
abbrev AD : Type := Nat → Nat → Nat
def dOk (σ : SG) (i j : Nat) : Prop := ((1 ≤ i ∧ i ≤ 7) ∧ j = 0) ∨ ((8 ≤ i ∧ i ≤ 11) ∧ (j : Int) < σ 0 0) ∨ ((12 ≤ i ∧ i ≤ 13) ∧ (j : Int) < σ 8 0)
def vsF (σ : SG) (a : AD) : Nat → Option Nat := fun k => if (k : Int) < σ 0 0 then some (a 8 k) else none
def csF (σ : SG) (a : AD) : Nat → Option Nat := fun k => if (k : Int) < σ 8 0 then some (a 12 k) else none
def paV (σ : SG) (a : AD) (k : Nat) : Option Nat := if σ 2 k < 0 then none else some (a 8 (σ 2 k).toNat)
abbrev deskO (σ : SG) (a : AD) : Nat × va_E := (a 1 0, .inr (3, [.ref (a 2 0), .int (zi (σ 0 0)), .ref (a 3 0), .int (zi (σ 8 0)), .ref (a 4 0), .int (zi (σ 7 0)), .ref (a 5 0)]))
abbrev vsO (g : gG) (σ : SG) (a : AD) : Nat × va_E := (a 2 0, .inl (g.2.2.2.1, 30, .inr (.inr (.inr (.inr (vsF σ a))))))
abbrev csO (g : gG) (σ : SG) (a : AD) : Nat × va_E := (a 3 0, .inl (g.2.2.2.2, 20, .inr (.inr (.inr (.inr (csF σ a))))))
abbrev wtO (g : gG) (σ : SG) (a : AD) : Nat × va_E := (a 4 0, .inl (g.2.1, 6, .inl (fun j9 => zi (σ 6 j9))))
abbrev verO (σ : SG) (a : AD) (k : Nat) : Nat × va_E := (a 8 k, .inr (2, [.int (zi (k : Int)), va_rf (paV σ a k), .ref (a 9 k), .int (zi (σ 3 k)), .int (zi (σ 4 k))]))
abbrev copO (σ : SG) (a : AD) (k : Nat) : Nat × va_E := (a 12 k, .inr (0, [.int (zi (σ 10 k)), .int (zi (σ 9 k)), .ref (a 13 k), .int (zi (σ 12 k))]))
abbrev rowO (g : gG) (a : AD) (k : Nat) (t : Nat → Int) : Nat × va_E := (a 13 k, .inl (g.2.1, 12, .inl (fun j9 => zi (t j9))))
def DVk (g : gG) (σ : SG) (a : AD) (H : Heap) (k : Nat) : Prop := va_at g.1 vwCl (verO σ a k) H ∧ ∃ u lo : Nat → Int, ScP g (a 9 k) (a 10 k) (a 11 k) (σ 1 k) u lo H ∧ Nt u ∧ Nt lo ∧ ∀ b : Nat, (b : Int) < σ 1 k → u b = NU σ k b ∧ lo b = NL σ k b
def DCk (g : gG) (σ : SG) (a : AD) (H : Heap) (k : Nat) : Prop := va_at g.1 vwCl (copO σ a k) H ∧ ∃ t : Nat → Int, va_at g.1 vwCl (rowO g a k t) H ∧ Nt t ∧ ∀ b : Nat, (b : Int) < σ 9 k → t b = σ 11 (12 * k + b)
def DTr (g : gG) (a : AD) (H : Heap) : Prop := ∃ (n : Int) (u lo : Nat → Int), ScP g (a 5 0) (a 6 0) (a 7 0) n u lo H ∧ Nt u ∧ Nt lo
def dInj (σ : SG) (a : AD) : Prop := ∀ i j i' j' : Nat, dOk σ i j → dOk σ i' j' → a i j = a i' j' → i = i' ∧ j = j'
def DI (g : gG) (σ : SG) (a : AD) (H : Heap) : Prop := va_at g.1 vwCl (deskO σ a) H ∧ va_at g.1 vwCl (vsO g σ a) H ∧ va_at g.1 vwCl (csO g σ a) H ∧ va_at g.1 vwCl (wtO g σ a) H ∧ DTr g a H ∧ (∀ k : Nat, (k : Int) < σ 0 0 → DVk g σ a H k) ∧ (∀ k : Nat, (k : Int) < σ 8 0 → DCk g σ a H k) ∧ dInj σ a
theorem DI.ob {g : gG} {σ : SG} {a : AD} {H : Heap} (h : DI g σ a H) : va_at g.1 vwCl (deskO σ a) H := h.1
theorem DI.vs {g : gG} {σ : SG} {a : AD} {H : Heap} (h : DI g σ a H) : va_at g.1 vwCl (vsO g σ a) H := h.2.1
theorem DI.cs {g : gG} {σ : SG} {a : AD} {H : Heap} (h : DI g σ a H) : va_at g.1 vwCl (csO g σ a) H := h.2.2.1
theorem DI.wt {g : gG} {σ : SG} {a : AD} {H : Heap} (h : DI g σ a H) : va_at g.1 vwCl (wtO g σ a) H := h.2.2.2.1
theorem DI.tr {g : gG} {σ : SG} {a : AD} {H : Heap} (h : DI g σ a H) : DTr g a H := h.2.2.2.2.1
theorem DI.vk {g : gG} {σ : SG} {a : AD} {H : Heap} (h : DI g σ a H) {k : Nat} (hk : (k : Int) < σ 0 0) : DVk g σ a H k := h.2.2.2.2.2.1 k hk
theorem DI.ck {g : gG} {σ : SG} {a : AD} {H : Heap} (h : DI g σ a H) {k : Nat} (hk : (k : Int) < σ 8 0) : DCk g σ a H k := h.2.2.2.2.2.2.1 k hk
theorem DI.inj {g : gG} {σ : SG} {a : AD} {H : Heap} (h : DI g σ a H) : dInj σ a := h.2.2.2.2.2.2.2
theorem DI.lt {g : gG} {σ : SG} {a : AD} {H : Heap} (h : DI g σ a H) {i j : Nat} (hv : dOk σ i j) : a i j < H.size := by
  rcases hv with ⟨⟨h1, h2⟩, rfl⟩ | ⟨⟨h1, h2⟩, h3⟩ | ⟨⟨h1, h2⟩, h3⟩
  · obtain ⟨n, u, lo, hT, -, -⟩ := h.tr
    rcases (show i = 1 ∨ i = 2 ∨ i = 3 ∨ i = 4 ∨ i = 5 ∨ i = 6 ∨ i = 7 by omega) with rfl | rfl | rfl | rfl | rfl | rfl | rfl
    · exact h.ob.lt
    · exact h.vs.lt
    · exact h.cs.lt
    · exact h.wt.lt
    · exact hT.lt.1
    · exact hT.lt.2.1
    · exact hT.lt.2.2
  · obtain ⟨hV, u, lo, hT, -⟩ := h.vk h3
    rcases (show i = 8 ∨ i = 9 ∨ i = 10 ∨ i = 11 by omega) with rfl | rfl | rfl | rfl
    · exact hV.lt
    · exact hT.lt.1
    · exact hT.lt.2.1
    · exact hT.lt.2.2
  · obtain ⟨hV, t, hT, -⟩ := h.ck h3
    rcases (show i = 12 ∨ i = 13 by omega) with rfl | rfl
    · exact hV.lt
    · exact hT.lt
def Ow (σ : SG) (a : AD) (q : Nat) : Prop := ∃ i j : Nat, dOk σ i j ∧ q = a i j
def dA (σ : SG) (a : AD) (sz : Nat) (q : Nat) : Prop := Ow σ a q ∨ sz ≤ q
theorem dOk_0 (σ : SG) {i : Nat} (h : 1 ≤ i ∧ i ≤ 7) : dOk σ i 0 := Or.inl ⟨h, rfl⟩
theorem dOk_v {σ : SG} {i k : Nat} (h : 8 ≤ i ∧ i ≤ 11) (hk : (k : Int) < σ 0 0) : dOk σ i k := Or.inr (Or.inl ⟨h, hk⟩)
theorem dOk_c {σ : SG} {i k : Nat} (h : 12 ≤ i ∧ i ≤ 13) (hk : (k : Int) < σ 8 0) : dOk σ i k := Or.inr (Or.inr ⟨h, hk⟩)
/-- two scores with the same notes have the same faults -/
theorem iv_cong {u lo u' lo' : Nat → Int} {b : Nat} (h1 : u b = u' b) (h2 : lo b = lo' b) : iv u lo b = iv u' lo' b := by unfold iv; rw [h1, h2]
theorem ft_cong {r n : Nat} {u lo u' lo' : Nat → Int} (h : ∀ b, b < n → u b = u' b ∧ lo b = lo' b) {b : Nat} (hb : b < n) : ft r n u lo b = ft r n u' lo' b := by
  have h0 := h b hb
  have h1 := h (b - 1) (by omega)
  have h2 := h (b - 2) (by omega)
  have e0 := iv_cong h0.1 h0.2
  have e1 := iv_cong h1.1 h1.2
  unfold ft
  split
  · exact pz_c (by unfold D0; rw [e0])
  · exact pz_c (by unfold D1; rw [e0, e1, h0.1, h0.2, h1.1, h1.2])
  · unfold F2; rw [h0.1, h0.2, h1.1, h1.2]
  · exact pz_c (by unfold D3; rw [h0.1, h0.2])
  · unfold F4; rw [e0]
  · exact pz_c (by unfold D5; rw [h0.1, h1.1, h2.1])
theorem cs_cong {w : Nat → Int} {n : Nat} {u lo u' lo' : Nat → Int} (h : ∀ b, b < n → u b = u' b ∧ lo b = lo' b) : ∀ k, k ≤ 6 * n → cs w n u lo k = cs w n u' lo' k := by
  intro k
  induction k with
  | zero => intro _; rfl
  | succ k ih =>
    intro hk
    unfold cs
    rw [ih (by omega), ft_cong h (by omega)]
theorem wy_cong {w w' : Nat → Int} : ∀ k : Nat, (∀ b, b < k → w b = w' b) → wy w k = wy w' k := by
  intro k
  induction k with
  | zero => intro _; rfl
  | succ k ih =>
    intro h
    by_cases hk : 1 ≤ k
    · rw [wy_s w hk, wy_s w' hk, ih (fun b hb => h b (by omega)), h k (by omega), h (k - 1) (by omega)]
    · have : k = 0 := by omega
      subst this
      rfl
