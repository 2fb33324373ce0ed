/-! ===== the best note: only a note's own bar and the two behind it count ===== -/
def tuB (v : Int) (b : Nat) (u : Nat → Int) (t : Int) : Nat → Int := if v = 0 then va_up u b t else u
def tlB (v : Int) (b : Nat) (lo : Nat → Int) (t : Int) : Nat → Int := if v = 0 then lo else va_up lo b t
def tuS (v : Int) (b : Nat) (u : Nat → Int) : Nat → Nat → Int
  | 0 => u
  | j + 1 => tuB v b u (j : Int)
def tlS (v : Int) (b : Nat) (lo : Nat → Int) : Nat → Nat → Int
  | 0 => lo
  | j + 1 => tlB v b lo (j : Int)
theorem va_up_up (f : Nat → Int) (b : Nat) (x y : Int) : va_up (va_up f b x) b y = va_up f b y := by
  funext j
  by_cases e : j = b
  · subst e; rw [va_up_s, va_up_s]
  · rw [va_up_o e, va_up_o e, va_up_o e]
theorem su0 {v : Int} (h : v = 0) (b : Nat) (u lo : Nat → Int) (j : Nat) : tuS v b u (j + 1) = va_up (tuS v b u j) b (j : Int) ∧ tlS v b lo (j + 1) = tlS v b lo j := by
  cases j with
  | zero => exact ⟨if_pos h, if_pos h⟩
  | succ j =>
    refine ⟨?_, ?_⟩
    · show (if v = 0 then va_up u b ((j + 1 : Nat) : Int) else u) = va_up (if v = 0 then va_up u b (j : Int) else u) b ((j + 1 : Nat) : Int)
      rw [if_pos h, if_pos h, va_up_up]
    · show (if v = 0 then lo else va_up lo b ((j + 1 : Nat) : Int)) = if v = 0 then lo else va_up lo b (j : Int)
      rw [if_pos h, if_pos h]
theorem su1 {v : Int} (h : ¬ v = 0) (b : Nat) (u lo : Nat → Int) (j : Nat) : tuS v b u (j + 1) = tuS v b u j ∧ tlS v b lo (j + 1) = va_up (tlS v b lo j) b (j : Int) := by
  cases j with
  | zero => exact ⟨if_neg h, if_neg h⟩
  | succ j =>
    refine ⟨?_, ?_⟩
    · show (if v = 0 then va_up u b ((j + 1 : Nat) : Int) else u) = if v = 0 then va_up u b (j : Int) else u
      rw [if_neg h, if_neg h]
    · show (if v = 0 then lo else va_up lo b ((j + 1 : Nat) : Int)) = va_up (if v = 0 then lo else va_up lo b (j : Int)) b ((j + 1 : Nat) : Int)
      rw [if_neg h, if_neg h, va_up_up]
theorem Nt.up' {u : Nat → Int} (hu : Nt u) (b : Nat) {t : Int} (ht : 0 ≤ t ∧ t ≤ 40) : Nt (va_up u b t) := fun x => by
  by_cases e : x = b
  · subst e; rw [va_up_s]; exact ht
  · rw [va_up_o e]; exact hu x
theorem tuS_Nt {v : Int} {b : Nat} {u : Nat → Int} (hu : Nt u) {j : Nat} (hj : j ≤ 41) : Nt (tuS v b u j) := by
  cases j with
  | zero => exact hu
  | succ j =>
    show Nt (if v = 0 then va_up u b (j : Int) else u)
    split
    · exact hu.up' b (by omega)
    · exact hu
theorem tlS_Nt {v : Int} {b : Nat} {lo : Nat → Int} (hu : Nt lo) {j : Nat} (hj : j ≤ 41) : Nt (tlS v b lo j) := by
  cases j with
  | zero => exact hu
  | succ j =>
    show Nt (if v = 0 then lo else va_up lo b (j : Int))
    split
    · exact hu
    · exact hu.up' b (by omega)
/-- what a tone costs, in the bars that it touches -/
def btC (σ : SG) (v : Int) (b nb mm : Nat) (u lo : Nat → Int) : Nat → Int := fun t => wfs (σ 6) nb (tuS v b u (t + 1)) (tlS v b lo (t + 1)) b mm 6
def bsB (c : Nat → Int) : Nat → Nat
  | 0 => 0
  | j + 1 => bst c j
def lsB (c : Nat → Int) : Nat → Int
  | 0 => 0
  | j + 1 => c (bst c j)
theorem bst_tt {c : Nat → Int} {j : Nat} (h : (j : Int) = 0 ∨ c j < lsB c j) : bst c j = j := by
  cases j with
  | zero => rfl
  | succ j =>
    rcases h with h | h
    · omega
    · exact if_pos h
theorem bst_ff {c : Nat → Int} {j : Nat} (h0 : ¬ (j : Int) = 0) (h : ¬ c j < lsB c j) : bst c j = bsB c j := by
  cases j with
  | zero => exact absurd rfl h0
  | succ j => exact if_neg h
theorem bsB_t {c : Nat → Int} {j : Nat} (h : (j : Int) = 0 ∨ c j < lsB c j) : (j : Int) = ((bsB c (j + 1) : Nat) : Int) := by
  show (j : Int) = ((bst c j : Nat) : Int)
  rw [bst_tt h]
theorem lsB_t {c : Nat → Int} {j : Nat} (h : (j : Int) = 0 ∨ c j < lsB c j) : c j = lsB c (j + 1) := by
  show c j = c (bst c j)
  rw [bst_tt h]
theorem bsB_f {c : Nat → Int} {j : Nat} (h0 : ¬ (j : Int) = 0) (h : ¬ c j < lsB c j) : bsB c j = bsB c (j + 1) := (bst_ff h0 h).symm
theorem lsB_f {c : Nat → Int} {j : Nat} (h0 : ¬ (j : Int) = 0) (h : ¬ c j < lsB c j) : lsB c j = lsB c (j + 1) := by
  show lsB c j = c (bst c j)
  rw [bst_ff h0 h]
  cases j with
  | zero => exact absurd rfl h0
  | succ j => rfl
theorem bst_shift {c c' : Nat → Int} {K : Int} : ∀ k : Nat, (∀ t, t ≤ k → c t = c' t + K) → bst c k = bst c' k := by
  intro k
  induction k with
  | zero => intro _; rfl
  | succ k ih =>
    intro h
    have e := ih (fun t ht => h t (by omega))
    have r := bst_r c' k
    unfold bst
    rw [e, h (k + 1) (by omega), h (bst c' k) (by omega)]
    by_cases hc : c' (k + 1) < c' (bst c' k)
    · rw [if_pos hc, if_pos (by omega)]
    · rw [if_neg hc, if_neg (by omega)]
theorem ft_cong1 {r n : Nat} {u lo u' lo' : Nat → Int} {b : Nat} (h : ∀ x, x ≤ b → b ≤ x + 2 → u x = u' x ∧ lo x = lo' x) : ft r n u lo b = ft r n u' lo' b := by
  have h0 := h b (by omega) (by omega)
  have h1 := h (b - 1) (by omega) (by omega)
  have h2 := h (b - 2) (by omega) (by omega)
  have e0 := iv_cong h0.1 h0.2
  have e1 := iv_cong h1.1 h1.2
  unfold ft
  split
  · exact pz_c (by unfold D0; rw [e0])
  · exact pz_c (by unfold D1; rw [e0, e1, h0.1, h0.2, h1.1, h1.2])
  · unfold F2; rw [h0.1, h0.2, h1.1, h1.2]
  · exact pz_c (by unfold D3; rw [h0.1, h0.2])
  · unfold F4; rw [e0]
  · exact pz_c (by unfold D5; rw [h0.1, h1.1, h2.1])
theorem cb_cong1 {w : Nat → Int} {n : Nat} {u lo u' lo' : Nat → Int} {b : Nat} (h : ∀ x, x ≤ b → b ≤ x + 2 → u x = u' x ∧ lo x = lo' x) : cb w n u lo b = cb w n u' lo' b := by
  unfold cb
  rw [ft_cong1 h, ft_cong1 h, ft_cong1 h, ft_cong1 h, ft_cong1 h, ft_cong1 h]
theorem cbs_add (w : Nat → Int) (n : Nat) (u lo : Nat → Int) (f m1 : Nat) : ∀ m2 : Nat, cbs w n u lo f (m1 + m2) = cbs w n u lo f m1 + cbs w n u lo (f + m1) m2 := by
  intro m2
  induction m2 with
  | zero => simp [cbs]
  | succ m2 ih =>
    show cbs w n u lo f (m1 + m2) + cb w n u lo (f + (m1 + m2)) = _ + (cbs w n u lo (f + m1) m2 + cb w n u lo (f + m1 + m2))
    rw [ih, show f + (m1 + m2) = f + m1 + m2 by omega]
    omega
theorem cbs_cong1 {w : Nat → Int} {n : Nat} {u lo u' lo' : Nat → Int} {f : Nat} : ∀ m : Nat, (∀ x, f ≤ x → x < f + m → cb w n u lo x = cb w n u' lo' x) → cbs w n u lo f m = cbs w n u' lo' f m := by
  intro m
  induction m with
  | zero => intro _; rfl
  | succ m ih =>
    intro h
    show cbs w n u lo f m + cb w n u lo (f + m) = cbs w n u' lo' f m + cb w n u' lo' (f + m)
    rw [ih (fun x h1 h2 => h x h1 (by omega)), h (f + m) (by omega) (by omega)]
theorem best_eq {σ : SG} {k v b nb mm : Nat} {uk lk tu tl : Nat → Int} (hv : v ≤ 1) (hnb : σ 1 k = (nb : Int)) (hnb12 : nb ≤ 12) (hb : b < nb) (hmm : (b + 3 ≤ nb ∧ mm = 3) ∨ (nb < b + 3 ∧ b + mm = nb)) (hek : ∀ x : Nat, (x : Int) < σ 1 k → uk x = NU σ k x ∧ lk x = NL σ k x) : bst (btC σ (v : Int) b nb mm (mx nb uk tu) (mx nb lk tl)) 40 = bst (cst σ k v b) 40 := by
  refine (bst_shift (K := cbs (σ 6) nb (NU σ k) (NL σ k) 0 b + cbs (σ 6) nb (NU σ k) (NL σ k) (b + mm) (nb - (b + mm))) 40 (fun t ht => ?_)).symm
  have hU : ∀ y : Nat, y < 12 → NU (opN σ k v b (t : Int)) k y = (if v = 0 ∧ y = b then (t : Int) else NU σ k y) ∧ NL (opN σ k v b (t : Int)) k y = (if v = 1 ∧ y = b then (t : Int) else NL σ k y) := by
    intro y hy
    have h0 := NV_opN (σ := σ) (k := k) (x := (t : Int)) hv (show b < 12 by omega) k 0 y (by omega) hy
    have h1 := NV_opN (σ := σ) (k := k) (x := (t : Int)) hv (show b < 12 by omega) k 1 y (by omega) hy
    rw [NV_0, NV_0] at h0
    rw [NV_1, NV_1] at h1
    rw [h0, h1]
    constructor
    · by_cases e : v = 0 ∧ y = b
      · rw [if_pos e, if_pos (by omega)]
      · rw [if_neg e, if_neg (by omega)]
    · by_cases e : v = 1 ∧ y = b
      · rw [if_pos e, if_pos (by omega)]
      · rw [if_neg e, if_neg (by omega)]
  have hne : ∀ y : Nat, y < 12 → y ≠ b → NU (opN σ k v b (t : Int)) k y = NU σ k y ∧ NL (opN σ k v b (t : Int)) k y = NL σ k y := by
    intro y hy hyb
    have h := hU y hy
    rw [if_neg (by omega), if_neg (by omega)] at h
    exact h
  have e0 : cst σ k v b t = cbs (σ 6) nb (NU (opN σ k v b (t : Int)) k) (NL (opN σ k v b (t : Int)) k) 0 nb := by
    show cs (σ 6) (σ 1 k).toNat _ _ (6 * (σ 1 k).toNat) = _
    rw [hnb, Int.toNat_natCast]
    exact cs_cbs _ _ _ _ _
  rw [e0]
  have e1 : nb = b + (mm + (nb - (b + mm))) := by omega
  have s1 : cbs (σ 6) nb (NU (opN σ k v b (t : Int)) k) (NL (opN σ k v b (t : Int)) k) 0 nb = cbs (σ 6) nb (NU (opN σ k v b (t : Int)) k) (NL (opN σ k v b (t : Int)) k) 0 b + (cbs (σ 6) nb (NU (opN σ k v b (t : Int)) k) (NL (opN σ k v b (t : Int)) k) b mm + cbs (σ 6) nb (NU (opN σ k v b (t : Int)) k) (NL (opN σ k v b (t : Int)) k) (b + mm) (nb - (b + mm))) := by
    have h := cbs_add (σ 6) nb (NU (opN σ k v b (t : Int)) k) (NL (opN σ k v b (t : Int)) k) 0 b (mm + (nb - (b + mm)))
    rw [← e1, Nat.zero_add, cbs_add] at h
    exact h
  rw [s1]
  have p1 : cbs (σ 6) nb (NU (opN σ k v b (t : Int)) k) (NL (opN σ k v b (t : Int)) k) 0 b = cbs (σ 6) nb (NU σ k) (NL σ k) 0 b := cbs_cong1 b (fun x h1 h2 => cb_cong1 (fun y hy1 hy2 => hne y (by omega) (by omega)))
  have p3 : cbs (σ 6) nb (NU (opN σ k v b (t : Int)) k) (NL (opN σ k v b (t : Int)) k) (b + mm) (nb - (b + mm)) = cbs (σ 6) nb (NU σ k) (NL σ k) (b + mm) (nb - (b + mm)) := cbs_cong1 _ (fun x h1 h2 => cb_cong1 (fun y hy1 hy2 => hne y (by omega) (by omega)))
  have p2 : btC σ (v : Int) b nb mm (mx nb uk tu) (mx nb lk tl) t = cbs (σ 6) nb (NU (opN σ k v b (t : Int)) k) (NL (opN σ k v b (t : Int)) k) b mm := by
    show wfs (σ 6) nb (tuB (v : Int) b (mx nb uk tu) (t : Int)) (tlB (v : Int) b (mx nb lk tl) (t : Int)) b mm 6 = _
    rw [wfs_cbs]
    refine cbs_cong1 mm (fun x h1 h2 => cb_cong1 (fun y hy1 hy2 => ?_))
    have hk := hek y (by omega)
    have h := hU y (by omega)
    rw [h.1, h.2]
    unfold tuB tlB
    by_cases e : (v : Int) = 0
    · rw [if_pos e, if_pos e, if_neg (c := v = 1 ∧ y = b) (by omega), mx_in _ _ (by omega)]
      refine ⟨?_, hk.2⟩
      by_cases e2 : y = b
      · subst e2; rw [va_up_s, if_pos (by omega)]
      · rw [va_up_o e2, mx_in _ _ (by omega), if_neg (by omega)]; exact hk.1
    · rw [if_neg e, if_neg e, if_neg (c := v = 0 ∧ y = b) (by omega), mx_in _ _ (by omega)]
      refine ⟨hk.1, ?_⟩
      by_cases e2 : y = b
      · subst e2; rw [va_up_s, if_pos (by omega)]
      · rw [va_up_o e2, mx_in _ _ (by omega), if_neg (by omega)]; exact hk.2
  rw [p1, p3, p2]
  omega
