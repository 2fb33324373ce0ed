/-! ===== what the calls make of the state ===== -/
def opB (σ : SG) (N : Nat) (b : Int) : SG := sup (sfl (sup (sup σ 1 N b) 2 N (-1)) 5 (24 * N) 24 (fun _ => 20)) 0 0 ((N + 1 : Nat) : Int)
def opK (σ : SG) (N k : Nat) : SG := sup (sup (sfl (sup (sup σ 1 N (σ 1 k)) 2 N (k : Int)) 5 (24 * N) 24 (fun i => σ 5 (i - 24 * N + 24 * k))) 3 k 1) 0 0 ((N + 1 : Nat) : Int)
theorem WF.setN {σ : SG} (h : WF σ) {i : Nat} {x : Int} (hx : 0 ≤ x ∧ x ≤ 40) : WF (sup σ 5 i x) := by
  refine ⟨h.1, h.2.1, h.2.2.1, h.2.2.2.1, fun j => ?_, h.2.2.2.2.2⟩
  rw [sup_eq]
  unfold va_up
  split
  · exact hx
  · exact h.note j
theorem WF.setF {σ : SG} (h : WF σ) {k : Nat} (hk : (k : Int) < σ 0 0) : WF (sup σ 3 k 1) := by
  refine ⟨h.1, h.2.1, h.2.2.1, fun j => ?_, h.2.2.2.2⟩
  have h1 := h.flag j
  rw [sup_eq]
  show (va_up (σ 3) k 1 j = 0 ∨ va_up (σ 3) k 1 j = 1) ∧ (σ 4 j = 0 ∨ σ 4 j = 1) ∧ (σ 0 0 ≤ j → va_up (σ 3) k 1 j = 0 ∧ σ 4 j = 0)
  unfold va_up
  split
  · rename_i e
    subst e
    exact ⟨Or.inr rfl, h1.2.1, fun h2 => by omega⟩
  · exact h1
theorem WF.opB {σ : SG} (h : WF σ) {N : Nat} (hN : σ 0 0 = (N : Int)) (hN1 : N < 30) {b : Int} (hb : 1 ≤ b ∧ b ≤ 12) : WF (opB σ N b) := by
  refine ⟨?_, fun k hk => ?_, fun k hk => ?_, fun k => ?_, fun j => ?_, h.2.2.2.2.2⟩
  · show 0 ≤ ((N + 1 : Nat) : Int) ∧ ((N + 1 : Nat) : Int) ≤ 30
    omega
  · show 1 ≤ va_up (σ 1) N b k ∧ va_up (σ 1) N b k ≤ 12
    have hk : (k : Int) < ((N + 1 : Nat) : Int) := hk
    unfold va_up
    split
    · exact hb
    · exact h.bars (by omega)
  · have hk : (k : Int) < ((N + 1 : Nat) : Int) := hk
    show va_up (σ 2) N (-1) k = -1 ∨ (0 ≤ va_up (σ 2) N (-1) k ∧ va_up (σ 2) N (-1) k < k ∧ va_up (σ 1) N b (va_up (σ 2) N (-1) k).toNat = va_up (σ 1) N b k)
    by_cases e : k = N
    · left; unfold va_up; rw [if_pos e]
    · have e1 : va_up (σ 2) N (-1) k = σ 2 k := if_neg e
      have e2 : va_up (σ 1) N b k = σ 1 k := if_neg e
      rw [e1, e2]
      rcases h.par (k := k) (by omega) with h1 | ⟨h1, h2, h3⟩
      · exact Or.inl h1
      · refine Or.inr ⟨h1, h2, ?_⟩
        have e3 : va_up (σ 1) N b (σ 2 k).toNat = σ 1 (σ 2 k).toNat := if_neg (by omega)
        rw [e3, h3]
  · have h1 := h.flag k
    show (σ 3 k = 0 ∨ σ 3 k = 1) ∧ (σ 4 k = 0 ∨ σ 4 k = 1) ∧ (((N + 1 : Nat) : Int) ≤ k → σ 3 k = 0 ∧ σ 4 k = 0)
    exact ⟨h1.1, h1.2.1, fun h2 => h1.2.2 (by omega)⟩
  · show 0 ≤ sfl (sup (sup σ 1 N b) 2 N (-1)) 5 (24 * N) 24 (fun _ => 20) 5 j ∧ sfl (sup (sup σ 1 N b) 2 N (-1)) 5 (24 * N) 24 (fun _ => 20) 5 j ≤ 40
    by_cases e : 24 * N ≤ j ∧ j < 24 * N + 24
    · rw [sfl_in _ _ _ _ _ e]; decide
    · rw [sfl_out _ _ _ _ _ (by omega)]; exact h.note j
theorem WF.opK {σ : SG} (h : WF σ) {N k : Nat} (hN : σ 0 0 = (N : Int)) (hN1 : N < 30) (hk : k < N) : WF (opK σ N k) := by
  refine ⟨?_, fun i hi => ?_, fun i hi => ?_, fun i => ?_, fun j => ?_, h.2.2.2.2.2⟩
  · show 0 ≤ ((N + 1 : Nat) : Int) ∧ ((N + 1 : Nat) : Int) ≤ 30
    omega
  · have hi : (i : Int) < ((N + 1 : Nat) : Int) := hi
    show 1 ≤ va_up (σ 1) N (σ 1 k) i ∧ va_up (σ 1) N (σ 1 k) i ≤ 12
    unfold va_up
    split
    · exact h.bars (by omega)
    · exact h.bars (by omega)
  · have hi : (i : Int) < ((N + 1 : Nat) : Int) := hi
    show va_up (σ 2) N k i = -1 ∨ (0 ≤ va_up (σ 2) N k i ∧ va_up (σ 2) N k i < i ∧ va_up (σ 1) N (σ 1 k) (va_up (σ 2) N k i).toNat = va_up (σ 1) N (σ 1 k) i)
    by_cases e : i = N
    · subst e
      right
      have e1 : va_up (σ 2) i k i = k := if_pos rfl
      have e2 : va_up (σ 1) i (σ 1 k) i = σ 1 k := if_pos rfl
      have e3 : va_up (σ 1) i (σ 1 k) k = σ 1 k := if_neg (by omega)
      rw [e1, e2, Int.toNat_natCast, e3]
      omega
    · have e1 : va_up (σ 2) N k i = σ 2 i := if_neg e
      have e2 : va_up (σ 1) N (σ 1 k) i = σ 1 i := if_neg e
      rw [e1, e2]
      rcases h.par (k := i) (by omega) with h1 | ⟨h1, h2, h3⟩
      · exact Or.inl h1
      · refine Or.inr ⟨h1, h2, ?_⟩
        have e3 : va_up (σ 1) N (σ 1 k) (σ 2 i).toNat = σ 1 (σ 2 i).toNat := if_neg (by omega)
        rw [e3, h3]
  · have h1 := h.flag i
    show (va_up (σ 3) k 1 i = 0 ∨ va_up (σ 3) k 1 i = 1) ∧ (σ 4 i = 0 ∨ σ 4 i = 1) ∧ (((N + 1 : Nat) : Int) ≤ i → va_up (σ 3) k 1 i = 0 ∧ σ 4 i = 0)
    unfold va_up
    split
    · exact ⟨Or.inr rfl, h1.2.1, fun h2 => by omega⟩
    · exact ⟨h1.1, h1.2.1, fun h2 => h1.2.2 (by omega)⟩
  · show 0 ≤ sfl (sup (sup σ 1 N (σ 1 k)) 2 N (k : Int)) 5 (24 * N) 24 (fun i => σ 5 (i - 24 * N + 24 * k)) 5 j ∧ sfl (sup (sup σ 1 N (σ 1 k)) 2 N (k : Int)) 5 (24 * N) 24 (fun i => σ 5 (i - 24 * N + 24 * k)) 5 j ≤ 40
    by_cases e : 24 * N ≤ j ∧ j < 24 * N + 24
    · rw [sfl_in _ _ _ _ _ e]; exact h.note _
    · rw [sfl_out _ _ _ _ _ (by omega)]; exact h.note j
/-- bar by bar, where cond says so, the notes of another version go into the new one -/
def mgf (S : SG) (ν : Nat → Int) (N o : Nat) (cond : Nat → Bool) : Nat → SG
  | 0 => S
  | k + 1 => if cond k = true then sup (sup (mgf S ν N o cond k) 5 (24 * N + k) (ν (24 * o + k))) 5 (24 * N + 12 + k) (ν (24 * o + 12 + k)) else mgf S ν N o cond k
theorem mgf_ne (S : SG) (ν : Nat → Int) (N o : Nat) (cond : Nat → Bool) {f : Nat} (hf : f ≠ 5) : ∀ k, mgf S ν N o cond k f = S f := by
  intro k
  induction k with
  | zero => rfl
  | succ k ih =>
    unfold mgf
    split
    · rw [sup_ne _ _ _ hf, sup_ne _ _ _ hf, ih]
    · exact ih
theorem mgf_lt (S : SG) (ν : Nat → Int) (N o : Nat) (cond : Nat → Bool) {j : Nat} (hj : j < 24 * N) : ∀ k, mgf S ν N o cond k 5 j = S 5 j := by
  intro k
  induction k with
  | zero => rfl
  | succ k ih =>
    unfold mgf
    split
    · rw [sup_eq]
      unfold va_up
      rw [if_neg (by omega), sup_eq]
      unfold va_up
      rw [if_neg (by omega), ih]
    · exact ih
theorem WF.mgf {S : SG} (h : WF S) {ν : Nat → Int} (hν : ∀ j, 0 ≤ ν j ∧ ν j ≤ 40) (N o : Nat) (cond : Nat → Bool) : ∀ k, WF (mgf S ν N o cond k) := by
  intro k
  induction k with
  | zero => exact h
  | succ k ih =>
    show WF (if cond k = true then _ else _)
    split
    · exact (ih.setN (hν _)).setN (hν _)
    · exact ih
theorem mgf_t (S : SG) (ν : Nat → Int) (N o : Nat) (cond : Nat → Bool) (k : Nat) (h : cond k = true) : sup (sup (mgf S ν N o cond k) 5 (24 * N + k) (ν (24 * o + k))) 5 (24 * N + 12 + k) (ν (24 * o + 12 + k)) = mgf S ν N o cond (k + 1) := (if_pos h).symm
theorem mgf_f (S : SG) (ν : Nat → Int) (N o : Nat) (cond : Nat → Bool) (k : Nat) (h : ¬ cond k = true) : mgf S ν N o cond k = mgf S ν N o cond (k + 1) := (if_neg h).symm
def alB (σ : SG) (i j : Nat) : Nat → Bool := fun b => decide (Al σ i j b)
def opM (σ : SG) (N i o bn : Nat) : SG := mgf (sup (opK σ N i) 3 o 1) (σ 5) N o (alB σ i bn) (σ 1 i).toNat
theorem opK_lt {σ : SG} {N k j : Nat} (hj : j < 24 * N) : opK σ N k 5 j = σ 5 j := by
  show sfl (sup (sup σ 1 N (σ 1 k)) 2 N (k : Int)) 5 (24 * N) 24 (fun i => σ 5 (i - 24 * N + 24 * k)) 5 j = σ 5 j
  rw [sfl_out _ _ _ _ _ (by omega)]
  rfl
theorem Al_lt {σ T : SG} {N : Nat} (hT : ∀ j, j < 24 * N → T 5 j = σ 5 j) {i j b : Nat} (hi : i < N) (hj : j < N) (hb : b < 12) : Al T i j b ↔ Al σ i j b := by
  unfold Al NU NL
  rw [hT _ (by omega), hT _ (by omega), hT _ (by omega), hT _ (by omega)]
/-! sets -/
theorem sset_t (f : Nat → Bool) (k : Nat) (h : f k = true) : sset f k ||| bt1 k = sset f (k + 1) := (if_pos h).symm
theorem sset_f (f : Nat → Bool) (k : Nat) (h : ¬ f k = true) : sset f k ||| zi 0 = sset f (k + 1) := (or_0 _).trans (if_neg h).symm
def cfB (σ : SG) (i j bn : Nat) : Nat → Bool := fun b => decide (¬ Al σ i j b ∧ ¬ Al σ i bn b ∧ ¬ Al σ j bn b)
def faB (σ : SG) : Nat → Bool := fun k => decide (σ 4 k = 1 ∧ MK σ k < σ 7 0)
def dfB (σ : SG) (c k : Nat) : Nat → Bool := fun b => decide (¬ σ 11 (12 * c + b) = NV σ k (σ 10 c).toNat b)
def cnt (f : Nat → Bool) : Nat → Int
  | 0 => 0
  | k + 1 => cnt f k + pz (f k = true)
theorem cnt_r (f : Nat → Bool) : ∀ k : Nat, 0 ≤ cnt f k ∧ cnt f k ≤ k := by
  intro k
  induction k with
  | zero => simp [cnt]
  | succ k ih =>
    unfold cnt
    have := pz_b (f k = true)
    omega
def opP (σ : SG) (k v C : Nat) : SG := sup (sfl (sup (sup (sup σ 3 k 1) 9 C (σ 1 k)) 10 C (v : Int)) 11 (12 * C) (σ 1 k).toNat (fun i => NV σ k v (i - 12 * C))) 8 0 ((C + 1 : Nat) : Int)
def opS (σ : SG) (c k : Nat) : SG := sup (sfl σ 11 (12 * c) (σ 1 k).toNat (fun i => NV σ k (σ 10 c).toNat (i - 12 * c))) 12 c (σ 12 c + cnt (dfB σ c k) (σ 1 k).toNat)
/-! the best note: the first tone of least costs -/
def bst (c : Nat → Int) : Nat → Nat
  | 0 => 0
  | k + 1 => if c (k + 1) < c (bst c k) then k + 1 else bst c k
def opN (σ : SG) (k v b : Nat) (x : Int) : SG := sup σ 5 (24 * k + 12 * v + b) x
theorem bst_r (c : Nat → Int) : ∀ k, bst c k ≤ k := by
  intro k
  induction k with
  | zero => exact Nat.le_refl 0
  | succ k ih =>
    unfold bst
    split <;> omega
def cst (σ : SG) (k v b : Nat) : Nat → Int := fun t => CS (opN σ k v b (t : Int)) k
/-- how much a voice moves, as a float -/
def MV (σ : SG) (k v : Nat) : UInt32 := if σ 1 k = 1 then FP.fconst0 else FP.fdiv (FP.i2f (zi (wy (NV σ k v) (σ 1 k).toNat))) (FP.i2f (zi (σ 1 k - 1)))
theorem opN_opN (σ : SG) (k v b : Nat) (x y : Int) : opN (opN σ k v b x) k v b y = opN σ k v b y := by
  unfold opN
  funext f j
  unfold sup
  split
  · rename_i e
    unfold va_up
    rw [if_pos rfl]
    split
    · rfl
    · rfl
  · rfl
theorem opN_id (σ : SG) (k v b : Nat) {x : Int} (h : x = σ 5 (24 * k + 12 * v + b)) : opN σ k v b x = σ := by
  unfold opN
  funext f j
  unfold sup
  split
  · rename_i e
    subst e
    unfold va_up
    split
    · rename_i e
      subst e
      exact h
    · rfl
  · rfl
