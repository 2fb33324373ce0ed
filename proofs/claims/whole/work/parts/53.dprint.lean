/-! ===== a copy comes ===== -/
def adC (a : AD) (C q r : Nat) : AD := fun i j => if (12 ≤ i ∧ i ≤ 13) ∧ j = C then (if i = 12 then q else r) else a i j
theorem adC_o {a : AD} {C q r i j : Nat} (h : ¬ ((12 ≤ i ∧ i ≤ 13) ∧ j = C)) : adC a C q r i j = a i j := if_neg h
theorem adC_12 {a : AD} {C q r : Nat} : adC a C q r 12 C = q := if_pos ⟨by decide, rfl⟩
theorem adC_13 {a : AD} {C q r : Nat} : adC a C q r 13 C = r := if_pos ⟨by decide, rfl⟩
theorem DI.print {g : gG} {σ : SG} {a : AD} {H0 H : Heap} {locs : List Loc} {C k v q r nb : Nat} {w : Nat → Int} (hI : DI g σ a H0) (hC : σ 8 0 = (C : Int)) (hk : (k : Int) < σ 0 0) (hS : va_S (va_A [deskO σ a, csO g σ a, verO σ a k] H0.size) H0 H locs) (h12 : σ 12 C = 0) (hb12 : ∀ c : Nat, (c : Int) < σ 8 0 → σ 9 c ≤ 12) (hnb : σ 1 k = (nb : Int)) (hnb12 : nb ≤ 12)
    (hnq : H0.size ≤ q ∧ H0.size ≤ r) (hqr : q ≠ r)
    (hob : va_at g.1 vwCl (a 1 0, .inr (3, [.ref (a 2 0), .int (zi (σ 0 0)), .ref (a 3 0), .int (zi ((C + 1 : Nat) : Int)), .ref (a 4 0), .int (zi (σ 7 0)), .ref (a 5 0)])) H)
    (hcs : va_at g.1 vwCl (a 3 0, .inl (g.2.2.2.2, 20, .inr (.inr (.inr (.inr (va_up (csF σ a) C (some q))))))) H)
    (hfx : va_at g.1 vwCl (a 8 k, .inr (2, [.int (zi (k : Int)), va_rf (paV σ a k), .ref (a 9 k), .int (zi 1), .int (zi (σ 4 k))])) H)
    (hcv : va_at g.1 vwCl (q, .inr (0, [.int (zi (v : Int)), .int (zi (σ 1 k)), .ref r, .int (zi 0)])) H)
    (hrow : va_at g.1 vwCl (r, .inl (g.2.1, 12, .inl (fun j9 => zi (mx nb w (fun _ => 0) j9)))) H) (hw : Nt w) (hwn : ∀ b : Nat, (b : Int) < σ 1 k → w b = NV σ k v b) :
    DI g (opP σ k v C) (adC a C q r) H ∧ DE σ a (opP σ k v C) (adC a C q r) H0.size := by
  have e0 : opP σ k v C 0 = σ 0 := rfl
  have e1 : opP σ k v C 1 = σ 1 := rfl
  have e2 : opP σ k v C 2 = σ 2 := rfl
  have e3 : opP σ k v C 3 = va_up (σ 3) k 1 := rfl
  have e4 : opP σ k v C 4 = σ 4 := rfl
  have e5 : opP σ k v C 5 = σ 5 := rfl
  have e6 : opP σ k v C 6 = σ 6 := rfl
  have e7 : opP σ k v C 7 = σ 7 := rfl
  have e8 : opP σ k v C 8 0 = ((C + 1 : Nat) : Int) := rfl
  have e9 : opP σ k v C 9 = va_up (σ 9) C (σ 1 k) := rfl
  have e10 : opP σ k v C 10 = va_up (σ 10) C (v : Int) := rfl
  have e12 : opP σ k v C 12 = σ 12 := rfl
  have e11 : opP σ k v C 11 = sfl (sup (sup (sup σ 3 k 1) 9 C (σ 1 k)) 10 C (v : Int)) 11 (12 * C) (σ 1 k).toNat (fun i => NV σ k v (i - 12 * C)) 11 := rfl
  generalize opP σ k v C = σ' at *
  have hkk : ∀ {i j : Nat}, dOk σ i j → ¬ (i = 1 ∧ j = 0) → ¬ (i = 3 ∧ j = 0) → ¬ (i = 8 ∧ j = k) → H[a i j]? = H0[a i j]? := fun {i j} hv h1 h2 h3 => hI.keep hS hv (fun hm => by
    have hm : a i j ∈ [a 1 0, a 3 0, a 8 k] := hm
    simp only [List.mem_cons, List.not_mem_nil, or_false] at hm
    rcases hm with h | h | h
    · exact dNe hI.inj hv (dOk_0 σ (i := 1) (by omega)) h1 h
    · exact dNe hI.inj hv (dOk_0 σ (i := 3) (by omega)) h2 h
    · exact dNe hI.inj hv (dOk_v (i := 8) (by omega) hk) h3 h)
  have ao : ∀ i j : Nat, ¬ ((12 ≤ i ∧ i ≤ 13) ∧ j = C) → adC a C q r i j = a i j := fun i j h => adC_o h
  have hold : ∀ i j : Nat, dOk σ' i j → ¬ ((12 ≤ i ∧ i ≤ 13) ∧ j = C) → dOk σ i j := by
    intro i j h hn
    unfold dOk at h ⊢
    rw [e0, e8] at h
    omega
  have hnew : ∀ i : Nat, (12 ≤ i ∧ i ≤ 13) → H0.size ≤ adC a C q r i C := by
    intro i hi
    rcases (show i = 12 ∨ i = 13 by omega) with rfl | rfl
    · rw [adC_12]; exact hnq.1
    · rw [adC_13]; exact hnq.2
  have hpv : ∀ j : Nat, paV σ' (adC a C q r) j = paV σ a j := by
    intro j
    unfold paV
    rw [e2, ao 8 _ (by omega)]
  refine ⟨⟨?_, ?_, ?_, ?_, ?_, fun j h => ?_, fun c h => ?_, ?_⟩, ?_, ?_⟩
  · unfold deskO
    rw [ao 1 0 (by omega), ao 2 0 (by omega), ao 3 0 (by omega), ao 4 0 (by omega), ao 5 0 (by omega), e0, e8, e7]
    exact hob
  · unfold vsO
    rw [ao 2 0 (by omega)]
    have e : vsF σ' (adC a C q r) = vsF σ a := by
      funext j
      unfold vsF
      rw [e0, ao 8 j (by omega)]
    rw [e]
    exact hI.vs.kept (hkk (dOk_0 σ (by omega)) (by omega) (by omega) (by omega))
  · unfold csO
    rw [ao 3 0 (by omega)]
    have e : csF σ' (adC a C q r) = va_up (csF σ a) C (some q) := by
      funext j
      show (if (j : Int) < σ' 8 0 then some (adC a C q r 12 j) else none) = if j = C then some q else (if (j : Int) < σ 8 0 then some (a 12 j) else none)
      rw [e8]
      by_cases h : j = C
      · subst h
        rw [if_pos (by omega), if_pos rfl, adC_12]
      · rw [if_neg h, ao 12 j (by omega), hC]
        by_cases h2 : j < C
        · rw [if_pos (by omega), if_pos (by omega)]
        · rw [if_neg (by omega), if_neg (by omega)]
    rw [e]
    exact hcs
  · unfold wtO
    rw [ao 4 0 (by omega), e6]
    exact hI.wt.kept (hkk (dOk_0 σ (by omega)) (by omega) (by omega) (by omega))
  · exact hI.tr.mv (fun i h1 h2 => ao i 0 (by omega)) (fun i h1 h2 => hkk (dOk_0 σ (by omega)) (by omega) (by omega) (by omega))
  · have hj : (j : Int) < σ 0 0 := by rw [← e0]; exact h
    have hV := hI.vk hj
    have hnote : ∀ b : Nat, (b : Int) < σ 1 j → NU σ' j b = NU σ j b ∧ NL σ' j b = NL σ j b := fun b _ => by unfold NU NL; rw [e5]; exact ⟨rfl, rfl⟩
    by_cases hf : j = k
    · subst hf
      refine .mk ?_ (hV.sc.mv (fun i h1 h2 => ao i j (by omega)) (fun i h1 h2 => hkk (dOk_v (by omega) hj) (by omega) (by omega) (by omega)) (by rw [e1]) hnote)
      unfold verO
      rw [ao 8 j (by omega), ao 9 j (by omega), hpv j, e4, e3, va_up_s]
      exact hfx
    · exact hV.mv (fun i h1 h2 => ao i j (by omega)) (fun i h1 h2 => hkk (dOk_v (by omega) hj) (by omega) (by omega) (fun hh => hf hh.2)) (hpv j) (by rw [e1]) (by rw [e3, va_up_o hf]) (by rw [e4]) hnote
  · by_cases hc : c = C
    · subst hc
      refine ⟨?_, mx nb w (fun _ => 0), ?_, hw.mx (Nt.c (by decide)) _, fun b hb => ?_⟩
      · unfold copO
        rw [adC_12, adC_13, e10, e9, e12, h12, va_up_s, va_up_s]
        exact hcv
      · unfold rowO
        rw [adC_13]
        exact hrow
      · rw [e9, va_up_s] at hb
        rw [e11, sfl_in _ _ _ _ _ (by omega), mx_in _ _ (by omega), hwn b hb]
        congr 1
        omega
    · have h' : (c : Int) < σ 8 0 := by rw [e8] at h; omega
      refine (hI.ck h').mv (fun i h1 h2 => ao i c (by omega)) (fun i h1 h2 => hkk (dOk_c (by omega) h') (by omega) (by omega) (by omega)) (by rw [e9, va_up_o hc]) (by rw [e10, va_up_o hc]) (by rw [e12]) (fun b hb => ?_)
      have hb9 : σ 9 c ≤ 12 := by
        exact hb12 c h'
      rw [e11, sfl_out _ _ _ _ _ (by omega)]
      rfl
  · intro i j i' j' h1 h2 h
    by_cases c1 : (12 ≤ i ∧ i ≤ 13) ∧ j = C
    · by_cases c2 : (12 ≤ i' ∧ i' ≤ 13) ∧ j' = C
      · obtain ⟨c1, rfl⟩ := c1
        obtain ⟨c2, rfl⟩ := c2
        rcases (show i = 12 ∨ i = 13 by omega) with rfl | rfl <;> rcases (show i' = 12 ∨ i' = 13 by omega) with rfl | rfl <;> simp only [adC_12, adC_13] at h <;> first | exact ⟨rfl, rfl⟩ | (exfalso; omega)
      · have := hI.lt (hold i' j' h2 c2)
        have h3 := hnew i c1.1
        rw [show adC a C q r i C = adC a C q r i' j' by rw [← h, c1.2], ao i' j' c2] at h3
        omega
    · by_cases c2 : (12 ≤ i' ∧ i' ≤ 13) ∧ j' = C
      · have := hI.lt (hold i j h1 c1)
        have h3 := hnew i' c2.1
        rw [show adC a C q r i' C = adC a C q r i j by rw [h, c2.2], ao i j c1] at h3
        omega
      · rw [ao i j c1, ao i' j' c2] at h
        exact hI.inj i j i' j' (hold i j h1 c1) (hold i' j' h2 c2) h
  · exact ao 1 0 (by omega)
  · rintro x ⟨i, j, h1, rfl⟩
    by_cases c1 : (12 ≤ i ∧ i ≤ 13) ∧ j = C
    · right
      rw [c1.2]
      exact hnew i c1.1
    · left
      exact ⟨i, j, hold i j h1 c1, ao i j c1⟩
