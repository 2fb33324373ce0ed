/-! ===== the state of both sides, by fields: 0 versions, 1 bars, 2 parent, 3 isFixed, 4 hasPassed, 5 notes, 6 weight, 7 pass, 8 copies, 9 longs, 10 voiceOf, 11 printed, 12 slips ===== -/
abbrev SG : Type := Nat → Nat → Int
def sup (σ : SG) (f i : Nat) (x : Int) : SG := fun f' => if f' = f then va_up (σ f) i x else σ f'
theorem sup_eq (σ : SG) (f i : Nat) (x : Int) : sup σ f i x f = va_up (σ f) i x := if_pos rfl
theorem sup_ne (σ : SG) {f f' : Nat} (i : Nat) (x : Int) (h : f' ≠ f) : sup σ f i x f' = σ f' := if_neg h
def NU (σ : SG) (k : Nat) : Nat → Int := fun b => σ 5 (24 * k + b)
def NL (σ : SG) (k : Nat) : Nat → Int := fun b => σ 5 (24 * k + 12 + b)
def NV (σ : SG) (k v : Nat) : Nat → Int := fun b => σ 5 (24 * k + 12 * v + b)
theorem NV_0 (σ : SG) (k : Nat) : NV σ k 0 = NU σ k := by funext b; simp [NV, NU]
theorem NV_1 (σ : SG) (k : Nat) : NV σ k 1 = NL σ k := by funext b; simp [NV, NL]
/-- what holds of the state at all times -/
def WF (σ : SG) : Prop := (0 ≤ σ 0 0 ∧ σ 0 0 ≤ 30) ∧ (∀ k : Nat, (k : Int) < σ 0 0 → 1 ≤ σ 1 k ∧ σ 1 k ≤ 12) ∧ (∀ k : Nat, (k : Int) < σ 0 0 → σ 2 k = -1 ∨ (0 ≤ σ 2 k ∧ σ 2 k < k ∧ σ 1 (σ 2 k).toNat = σ 1 k)) ∧ (∀ k : Nat, (σ 3 k = 0 ∨ σ 3 k = 1) ∧ (σ 4 k = 0 ∨ σ 4 k = 1) ∧ (σ 0 0 ≤ k → σ 3 k = 0 ∧ σ 4 k = 0)) ∧ (∀ j : Nat, 0 ≤ σ 5 j ∧ σ 5 j ≤ 40) ∧ (∀ r : Nat, 0 ≤ σ 6 r ∧ σ 6 r ≤ 50) ∧ (0 ≤ σ 7 0 ∧ σ 7 0 ≤ 100) ∧ (0 ≤ σ 8 0 ∧ σ 8 0 ≤ 20) ∧ (∀ c : Nat, (c : Int) < σ 8 0 → (1 ≤ σ 9 c ∧ σ 9 c ≤ 12) ∧ (σ 10 c = 0 ∨ σ 10 c = 1)) ∧ (∀ j : Nat, 0 ≤ σ 11 j ∧ σ 11 j ≤ 40)
theorem WF.n {σ : SG} (h : WF σ) : 0 ≤ σ 0 0 ∧ σ 0 0 ≤ 30 := h.1
theorem WF.bars {σ : SG} (h : WF σ) {k : Nat} (hk : (k : Int) < σ 0 0) : 1 ≤ σ 1 k ∧ σ 1 k ≤ 12 := h.2.1 k hk
theorem WF.par {σ : SG} (h : WF σ) {k : Nat} (hk : (k : Int) < σ 0 0) : σ 2 k = -1 ∨ (0 ≤ σ 2 k ∧ σ 2 k < k ∧ σ 1 (σ 2 k).toNat = σ 1 k) := h.2.2.1 k hk
theorem WF.flag {σ : SG} (h : WF σ) (k : Nat) : (σ 3 k = 0 ∨ σ 3 k = 1) ∧ (σ 4 k = 0 ∨ σ 4 k = 1) ∧ (σ 0 0 ≤ k → σ 3 k = 0 ∧ σ 4 k = 0) := h.2.2.2.1 k
theorem WF.note {σ : SG} (h : WF σ) (j : Nat) : 0 ≤ σ 5 j ∧ σ 5 j ≤ 40 := h.2.2.2.2.1 j
theorem WF.wt {σ : SG} (h : WF σ) (r : Nat) : 0 ≤ σ 6 r ∧ σ 6 r ≤ 50 := h.2.2.2.2.2.1 r
theorem WF.pass {σ : SG} (h : WF σ) : 0 ≤ σ 7 0 ∧ σ 7 0 ≤ 100 := h.2.2.2.2.2.2.1
theorem WF.cn {σ : SG} (h : WF σ) : 0 ≤ σ 8 0 ∧ σ 8 0 ≤ 20 := h.2.2.2.2.2.2.2.1
theorem WF.cp {σ : SG} (h : WF σ) {c : Nat} (hc : (c : Int) < σ 8 0) : (1 ≤ σ 9 c ∧ σ 9 c ≤ 12) ∧ (σ 10 c = 0 ∨ σ 10 c = 1) := h.2.2.2.2.2.2.2.2.1 c hc
theorem WF.pr {σ : SG} (h : WF σ) (j : Nat) : 0 ≤ σ 11 j ∧ σ 11 j ≤ 40 := h.2.2.2.2.2.2.2.2.2 j
theorem WF.u {σ : SG} (h : WF σ) (k : Nat) : Nt (NU σ k) := fun j => h.note _
theorem WF.lo {σ : SG} (h : WF σ) (k : Nat) : Nt (NL σ k) := fun j => h.note _
theorem WF.v {σ : SG} (h : WF σ) (k v : Nat) : Nt (NV σ k v) := fun j => h.note _
abbrev IsV (σ : SG) (z : Int) : Prop := 0 ≤ z ∧ z < σ 0 0
abbrev IsN (σ : SG) (z v b : Int) : Prop := (0 ≤ z ∧ z < σ 0 0) ∧ (0 ≤ v ∧ v ≤ 1) ∧ 0 ≤ b ∧ b < σ 1 z.toNat
abbrev IsC (σ : SG) (z : Int) : Prop := 0 ≤ z ∧ z < σ 8 0
/-! ancestors -/
def anc (p : Nat → Int) (x : Int) : Nat → Int → Bool
  | 0, _ => false
  | d + 1, k => if k < 0 then false else (decide (k = x) || anc p x d (p k.toNat))
def An (p : Nat → Int) (x k : Int) : Bool := anc p x (k.toNat + 1) k
theorem anc_fuel (p : Nat → Int) (x : Int) (n : Int) (hp : ∀ j : Nat, (j : Int) < n → p j < j) : ∀ (d e : Nat) (k : Int), k < d → k < e → k < n → anc p x d k = anc p x e k := by
  intro d
  induction d with
  | zero =>
    intro e k hd he hn
    cases e with
    | zero => rfl
    | succ e => simp only [anc]; rw [if_pos (by omega)]
  | succ d ih =>
    intro e k hd he hn
    cases e with
    | zero => simp only [anc]; rw [if_pos (by omega)]
    | succ e =>
      simp only [anc]
      by_cases h : k < 0
      · rw [if_pos h, if_pos h]
      · rw [if_neg h, if_neg h]
        have h1 := hp k.toNat (by omega)
        rw [ih e (p k.toNat) (by omega) (by omega) (by omega)]
theorem An_neg (p : Nat → Int) (x : Int) {k : Int} (h : k < 0) : An p x k = false := by
  unfold An; simp only [anc]; rw [if_pos h]
theorem An_s (p : Nat → Int) (x : Int) {n : Int} (hp : ∀ j : Nat, (j : Int) < n → p j < j) {k : Nat} (h : (k : Int) < n) : An p x k = (decide ((k : Int) = x) || An p x (p k)) := by
  have h1 := hp k h
  unfold An
  rw [Int.toNat_natCast]
  conv => lhs; unfold anc
  rw [if_neg (by omega), Int.toNat_natCast]
  by_cases h0 : p k < 0
  · have e1 : anc p x k (p k) = false := by
      cases k with
      | zero => rfl
      | succ k => simp only [anc]; rw [if_pos h0]
    have e2 : anc p x ((p k).toNat + 1) (p k) = false := by simp only [anc]; rw [if_pos h0]
    rw [e1, e2]
  · rw [anc_fuel p x n hp k ((p k).toNat + 1) (p k) h1 (by omega) (by omega)]
def bs (p : Nat → Int) (one other : Int) : Nat → Int
  | 0 => -1
  | k + 1 => if An p k one = true ∧ An p k other = true then (k : Int) else bs p one other k
theorem bs_s (p : Nat → Int) (one other : Int) (k : Nat) : bs p one other (k + 1) = if An p k one = true ∧ An p k other = true then (k : Int) else bs p one other k := rfl
theorem bs_r (p : Nat → Int) (one other : Int) : ∀ k : Nat, -1 ≤ bs p one other k ∧ bs p one other k < k := by
  intro k
  induction k with
  | zero => simp [bs]
  | succ k ih =>
    unfold bs
    split
    · omega
    · omega
/-! sets of bars and versions -/
def bt1 (k : Nat) : Int32 := zi 1 <<< (zi (k : Int) &&& 31)
def sset (f : Nat → Bool) : Nat → Int32
  | 0 => zi 0
  | k + 1 => if f k = true then sset f k ||| bt1 k else sset f k
theorem or_0 (x : Int32) : x ||| zi 0 = x := by
  apply Int32.toBitVec_inj.mp
  simp [zi]
abbrev Al (σ : SG) (i j b : Nat) : Prop := NU σ i b = NU σ j b ∧ NL σ i b = NL σ j b
/-! costs, as the reference adds them -/
def cs (w : Nat → Int) (n : Nat) (u lo : Nat → Int) : Nat → Int
  | 0 => 0
  | k + 1 => cs w n u lo k + w (k % 6) * ft (k % 6) n u lo (k / 6)
theorem cs_r {w : Nat → Int} (hw : ∀ r, 0 ≤ w r ∧ w r ≤ 50) (n : Nat) (u lo : Nat → Int) : ∀ k : Nat, 0 ≤ cs w n u lo k ∧ cs w n u lo k ≤ 100 * (k : Int) := by
  intro k
  induction k with
  | zero => simp [cs]
  | succ k ih =>
    unfold cs
    have h1 := hw (k % 6)
    have h2 := ft_r (k % 6) n u lo (k / 6)
    have h3 : 0 ≤ w (k % 6) * ft (k % 6) n u lo (k / 6) := Int.mul_nonneg h1.1 h2.1
    have h4 : w (k % 6) * ft (k % 6) n u lo (k / 6) ≤ 50 * 2 := Int.mul_le_mul h1.2 h2.2 h2.1 (by decide)
    omega
def CS (σ : SG) (k : Nat) : Int := cs (σ 6) (σ 1 k).toNat (NU σ k) (NL σ k) (6 * (σ 1 k).toNat)
theorem CS_r {σ : SG} (h : WF σ) {k : Nat} (hk : (k : Int) < σ 0 0) : 0 ≤ CS σ k ∧ CS σ k ≤ 7200 := by
  have h1 := cs_r h.wt (σ 1 k).toNat (NU σ k) (NL σ k) (6 * (σ 1 k).toNat)
  have h2 := h.bars hk
  unfold CS
  omega
def MK (σ : SG) (k : Nat) : Int := if 100 < CS σ k then 0 else 100 - CS σ k
theorem MK_r {σ : SG} (h : WF σ) {k : Nat} (hk : (k : Int) < σ 0 0) : 0 ≤ MK σ k ∧ MK σ k ≤ 100 := by
  have := CS_r h hk
  unfold MK
  split <;> omega
/-! ===== the reference's cells ===== -/
abbrev MWs (g : gG) (ad : Nat → Nat) (σ : SG) (th : Int) : va_W := [(ad 0, .inr (4, [.int (zi (σ 0 0)), .ref (ad 1), .ref (ad 2), .ref (ad 3), .ref (ad 4), .ref (ad 5), .ref (ad 6), .int (zi (σ 7 0)), .int (zi (σ 8 0)), .ref (ad 7), .ref (ad 8), .ref (ad 9), .ref (ad 10), .int (zi th)])), (ad 1, .inl (g.2.1, 30, .inl (fun j => zi (σ 1 j)))), (ad 2, .inl (g.2.1, 30, .inl (fun j => zi (σ 2 j)))), (ad 3, .inl (g.2.2.1, 30, .inl (fun j => zi (σ 3 j)))), (ad 4, .inl (g.2.2.1, 30, .inl (fun j => zi (σ 4 j)))), (ad 5, .inl (g.2.1, 720, .inl (fun j => zi (σ 5 j)))), (ad 6, .inl (g.2.1, 6, .inl (fun j => zi (σ 6 j)))), (ad 7, .inl (g.2.1, 20, .inl (fun j => zi (σ 9 j)))), (ad 8, .inl (g.2.1, 20, .inl (fun j => zi (σ 10 j)))), (ad 9, .inl (g.2.1, 240, .inl (fun j => zi (σ 11 j)))), (ad 10, .inl (g.2.1, 20, .inl (fun j => zi (σ 12 j))))]
def MP (g : gG) (ad : Nat → Nat) (σ : SG) (th : Int) (H : Heap) : Prop := va_P g.1 vwCl (MWs g ad σ th) H
def Dst (ad : Nat → Nat) : Prop := ∀ i j : Nat, i < 11 → j < 11 → ad i = ad j → i = j
theorem MW_map (g : gG) (ad : Nat → Nat) (σ : SG) (th : Int) : (MWs g ad σ th).map Prod.fst = (List.range 11).map ad := rfl
theorem MW_at (g : gG) (ad : Nat → Nat) (σ : SG) (th : Int) {i : Nat} {q : Nat × va_E} (h : (MWs g ad σ th)[i]? = some q) : i < 11 ∧ q.1 = ad i := by
  have h1 : ((MWs g ad σ th).map Prod.fst)[i]? = some q.1 := by rw [List.getElem?_map, h]; rfl
  rw [MW_map, List.getElem?_map] at h1
  have hi : i < 11 := (List.getElem?_eq_some_iff.mp h).1
  rw [List.getElem?_range hi] at h1
  exact ⟨hi, (Option.some.inj h1).symm⟩
theorem MW_fr {g : gG} {ad : Nat → Nat} {σ σ' : SG} {th th' : Int} {sz sz' : Nat} (h : sz' ≤ sz) : ∀ q, va_A (MWs g ad σ th) sz q → va_A (MWs g ad σ' th') sz' q := by
  rintro q (⟨k, e, hk⟩ | hq)
  · obtain ⟨hi, hq⟩ := MW_at g ad σ th hk
    have h2 : k < (MWs g ad σ' th').length := hi
    have h3 := MW_at g ad σ' th' (List.getElem?_eq_getElem h2)
    refine Or.inl ⟨k, ((MWs g ad σ' th')[k]).2, ?_⟩
    rw [List.getElem?_eq_getElem h2]
    congr 1
    exact Prod.ext (h3.2.trans hq.symm) rfl
  · exact Or.inr (Nat.le_trans h hq)
theorem MW_D {g : gG} {ad : Nat → Nat} (hd : Dst ad) (σ σ' : SG) (th th' : Int) (sz : Nat) : va_D (va_A (MWs g ad σ' th') sz) (MWs g ad σ th) := by
  refine ⟨fun i j x y hi hj hxy => ?_, fun k q hk => ?_⟩
  · obtain ⟨a1, a2⟩ := MW_at g ad σ th hi
    obtain ⟨b1, b2⟩ := MW_at g ad σ th hj
    exact hd i j a1 b1 (a2.symm.trans (hxy.trans b2))
  · exact MW_fr (Nat.le_refl sz) q.1 (va_A.in (sz := sz) hk)
