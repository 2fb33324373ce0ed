/-! ===== the class's state after merge ===== -/
theorem mgf_at (S : SG) (ν : Nat → Int) (N o : Nat) (cond : Nat → Bool) {x : Nat} (hx : x < 12) : ∀ k, k ≤ 12 → mgf S ν N o cond k 5 (24 * N + x) = (if x < k ∧ cond x = true then ν (24 * o + x) else S 5 (24 * N + x)) ∧ mgf S ν N o cond k 5 (24 * N + 12 + x) = (if x < k ∧ cond x = true then ν (24 * o + 12 + x) else S 5 (24 * N + 12 + x)) := by
  intro k
  induction k with
  | zero => intro _; rw [if_neg (by omega), if_neg (by omega)]; exact ⟨rfl, rfl⟩
  | succ k ih =>
    intro hk
    have ih := ih (by omega)
    unfold mgf
    by_cases hc : cond k = true
    · rw [if_pos hc, sup_eq]
      by_cases e : x = k
      · subst e
        rw [if_pos ⟨by omega, hc⟩, if_pos ⟨by omega, hc⟩]
        refine ⟨?_, va_up_s⟩
        rw [va_up_o (by omega), sup_eq]
        exact va_up_s
      · rw [va_up_o (by omega), va_up_o (by omega), sup_eq, va_up_o (by omega), va_up_o (by omega), ih.1, ih.2]
        by_cases h : x < k ∧ cond x = true
        · have h2 : x < k + 1 ∧ cond x = true := ⟨by omega, h.2⟩
          rw [if_pos h, if_pos h, if_pos h2, if_pos h2]
          exact ⟨rfl, rfl⟩
        · have h2 : ¬ (x < k + 1 ∧ cond x = true) := fun h2 => h ⟨by omega, h2.2⟩
          rw [if_neg h, if_neg h, if_neg h2, if_neg h2]
          exact ⟨rfl, rfl⟩
    · rw [if_neg hc, ih.1, ih.2]
      by_cases h : x < k ∧ cond x = true
      · have h2 : x < k + 1 ∧ cond x = true := ⟨by omega, h.2⟩
        rw [if_pos h, if_pos h, if_pos h2, if_pos h2]
        exact ⟨rfl, rfl⟩
      · have h2 : ¬ (x < k + 1 ∧ cond x = true) := fun h2 => by
          by_cases e : x = k
          · subst e; exact hc h2.2
          · exact h ⟨by omega, h2.2⟩
        rw [if_neg h, if_neg h, if_neg h2, if_neg h2]
        exact ⟨rfl, rfl⟩
theorem opM_ne {σ : SG} {N i o bn f : Nat} (hf : f ≠ 5) : opM σ N i o bn f = sup (opK σ N i) 3 o 1 f := mgf_ne _ _ _ _ _ hf _
theorem opM_lt {σ : SG} {N i o bn j : Nat} (hj : j < 24 * N) : opM σ N i o bn 5 j = σ 5 j := by
  unfold opM
  rw [mgf_lt _ _ _ _ _ hj]
  exact opK_lt hj
theorem opM_NU {σ : SG} {N i o bn x : Nat} (hx : x < 12) (hn : (σ 1 i).toNat ≤ 12) (hxn : x < (σ 1 i).toNat) : NU (opM σ N i o bn) N x = (if alB σ i bn x = true then NU σ o x else NU σ i x) ∧ NL (opM σ N i o bn) N x = (if alB σ i bn x = true then NL σ o x else NL σ i x) := by
  have h := mgf_at (sup (opK σ N i) 3 o 1) (σ 5) N o (alB σ i bn) hx _ hn
  have hk := opK_NU (σ := σ) (N := N) (k := i) hx
  refine ⟨h.1.trans ?_, h.2.trans ?_⟩
  · by_cases hc : alB σ i bn x = true
    · rw [if_pos hc, if_pos ⟨hxn, hc⟩]; rfl
    · rw [if_neg hc, if_neg (fun h => hc h.2)]; exact hk.1
  · by_cases hc : alB σ i bn x = true
    · rw [if_pos hc, if_pos ⟨hxn, hc⟩]; rfl
    · rw [if_neg hc, if_neg (fun h => hc h.2)]; exact hk.2
theorem DI.merge {g : gG} {σ : SG} {a : AD} {H0 H : Heap} {locs : List Loc} {N i j bn nb q s u l : Nat} {uu ll ui li uj lj ub lb : Nat → Int} (hI : DI g σ a H0) (hW : WF σ) (hN : σ 0 0 = (N : Int)) (hi : i < N) (hj : j < N) (hS : va_S (va_A [deskO σ a, vsO g σ a, verO σ a i, verO σ a j] H0.size) H0 H locs) (hnb : σ 1 i = (nb : Int)) (ejb : σ 1 j = (nb : Int)) (ebb : σ 1 bn = (nb : Int)) (hnb12 : nb ≤ 12)
    (hnq : H0.size ≤ q ∧ H0.size ≤ s ∧ H0.size ≤ u ∧ H0.size ≤ l) (hnd : [q, s, u, l].Nodup)
    (hob : va_at g.1 vwCl (a 1 0, .inr (3, [.ref (a 2 0), .int (zi ((N + 1 : Nat) : Int)), .ref (a 3 0), .int (zi (σ 8 0)), .ref (a 4 0), .int (zi (σ 7 0)), .ref (a 5 0)])) H)
    (hvs : va_at g.1 vwCl (a 2 0, .inl (g.2.2.2.1, 30, .inr (.inr (.inr (.inr (va_up (vsF σ a) N (some q))))))) H)
    (hfi : va_at g.1 vwCl (a 8 i, .inr (2, [.int (zi (i : Int)), va_rf (paV σ a i), .ref (a 9 i), .int (zi 1), .int (zi (σ 4 i))])) H)
    (hfj : va_at g.1 vwCl (a 8 j, .inr (2, [.int (zi (j : Int)), va_rf (paV σ a j), .ref (a 9 j), .int (zi 1), .int (zi (σ 4 j))])) H)
    (hnv : va_at g.1 vwCl (q, .inr (2, [.int (zi (N : Int)), .ref (a 8 i), .ref s, .int (zi 0), .int (zi 0)])) H)
    (hsc : ScP g s u l (σ 1 i) uu ll H) (huu : uu = mgv (sbB ui li ub lb) uj (mx nb ui (fun _ => 0)) nb) (hll : ll = mgv (sbB ui li ub lb) lj (mx nb li (fun _ => 0)) nb) (hui : Nt ui) (hli : Nt li) (huj : Nt uj) (hlj : Nt lj)
    (eki : ∀ b : Nat, (b : Int) < σ 1 i → ui b = NU σ i b ∧ li b = NL σ i b) (ekj : ∀ b : Nat, (b : Int) < σ 1 j → uj b = NU σ j b ∧ lj b = NL σ j b) (ekb : ∀ b : Nat, (b : Int) < σ 1 bn → ub b = NU σ bn b ∧ lb b = NL σ bn b) :
    DI g (opM σ N i j bn) (adV a N q s u l) H ∧ DE σ a (opM σ N i j bn) (adV a N q s u l) H0.size := by
  have hfl := hW.flag N
  have h3 : ∀ k : Nat, opM σ N i j bn 3 k = va_up (va_up (σ 3) i 1) j 1 k := fun k => by rw [opM_ne (by decide)]; rfl
  have e1N : opM σ N i j bn 1 N = σ 1 i := by rw [opM_ne (by decide)]; exact va_up_s
  have e2N : opM σ N i j bn 2 N = (i : Int) := by rw [opM_ne (by decide)]; exact va_up_s
  refine DI.addV (Fs := [i, j]) (po := some (a 8 i)) hI hN hS (fun x hx => ?_) (fun k hk => ?_) (by rw [opM_ne (by decide)]; rfl) (fun k hk => by rw [opM_ne (by decide)]; exact va_up_o (by omega)) (fun k hk => by rw [opM_ne (by decide)]; exact va_up_o (by omega)) (fun k hk hn => ?_) (fun k _ => by rw [opM_ne (by decide)]; rfl) (fun x hx => opM_lt hx) (by rw [opM_ne (by decide)]; rfl) (by rw [opM_ne (by decide)]; rfl) (by rw [opM_ne (by decide)]; rfl) (by rw [opM_ne (by decide)]; rfl) (by rw [opM_ne (by decide)]; rfl) (by rw [opM_ne (by decide)]; rfl) (by rw [opM_ne (by decide)]; rfl) ?_ (by rw [opM_ne (by decide)]; exact (hfl.2.2 (by omega)).2) (fun k hk => hW.pd k (by omega)) (fun k hk => (hW.bars (by omega)).2) hnq hnd hob hvs (fun k hk => ?_) hnv ?_ ?_ (uu := uu) (ll := ll) ?_ ?_ ?_ (fun x hx => ?_)
  · have hx : x ∈ [a 1 0, a 2 0, a 8 i, a 8 j] := hx
    simp only [List.mem_cons, List.not_mem_nil, or_false] at hx
    rcases hx with h | h | h | h
    · exact Or.inl h
    · exact Or.inr (Or.inl h)
    · exact Or.inr (Or.inr ⟨i, by simp, h⟩)
    · exact Or.inr (Or.inr ⟨j, by simp, h⟩)
  · simp only [List.mem_cons, List.not_mem_nil, or_false] at hk
    omega
  · simp only [List.mem_cons, List.not_mem_nil, or_false, not_or] at hn
    have ei : k ≠ i := hn.1
    have ej : k ≠ j := hn.2
    rw [h3, va_up_o ej, va_up_o ei]
  · rw [h3, va_up_o (by omega), va_up_o (by omega)]
    exact (hfl.2.2 (by omega)).1
  · simp only [List.mem_cons, List.not_mem_nil, or_false] at hk
    have e3 : opM σ N i j bn 3 k = 1 := by
      rw [h3]
      by_cases e : k = j
      · subst e; exact va_up_s
      · rw [va_up_o e]
        have e : k = i := by omega
        subst e
        exact va_up_s
    rw [e3]
    rcases hk with e | e
    · rw [e]; exact hfi
    · rw [e]; exact hfj
  · rw [e2N, if_neg (by omega), Int.toNat_natCast]
  · rw [e2N]; omega
  · rw [e1N]; exact hsc
  · rw [huu]; exact mgv_Nt _ huj (hui.mx (Nt.c (by decide)) _) _
  · rw [hll]; exact mgv_Nt _ hlj (hli.mx (Nt.c (by decide)) _) _
  · rw [e1N] at hx
    have e := opM_NU (σ := σ) (N := N) (i := i) (o := j) (bn := bn) (x := x) (by omega) (by omega) (by omega)
    have ai := eki x (by omega)
    have aj := ekj x (by omega)
    have ab := ekb x (by omega)
    have ec : sbB ui li ub lb x = alB σ i bn x := by
      unfold sbB alB Sb Al
      rw [ai.1, ai.2, ab.1, ab.2]
    rw [e.1, e.2, huu, hll, mgv_at, mgv_at, ec, mx_in _ _ (by omega), mx_in _ _ (by omega), ai.1, ai.2, aj.1, aj.2]
    by_cases hc : alB σ i bn x = true
    · rw [if_pos hc, if_pos hc, if_pos ⟨by omega, hc⟩, if_pos ⟨by omega, hc⟩]
      exact ⟨rfl, rfl⟩
    · rw [if_neg hc, if_neg hc, if_neg (fun h => hc h.2), if_neg (fun h => hc h.2)]
      exact ⟨rfl, rfl⟩
