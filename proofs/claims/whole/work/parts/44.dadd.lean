/-! ===== a version comes ===== -/
def adV (a : AD) (N q s u l : Nat) : AD := fun i j => if (8 ≤ i ∧ i ≤ 11) ∧ j = N then (if i = 8 then q else if i = 9 then s else if i = 10 then u else l) else a i j
theorem adV_o {a : AD} {N q s u l i j : Nat} (h : ¬ ((8 ≤ i ∧ i ≤ 11) ∧ j = N)) : adV a N q s u l i j = a i j := if_neg h
theorem adV_8 {a : AD} {N q s u l : Nat} : adV a N q s u l 8 N = q := if_pos ⟨by decide, rfl⟩
theorem adV_9 {a : AD} {N q s u l : Nat} : adV a N q s u l 9 N = s := if_pos ⟨by decide, rfl⟩
theorem adV_10 {a : AD} {N q s u l : Nat} : adV a N q s u l 10 N = u := if_pos ⟨by decide, rfl⟩
theorem adV_11 {a : AD} {N q s u l : Nat} : adV a N q s u l 11 N = l := if_pos ⟨by decide, rfl⟩
theorem DI.addV {g : gG} {σ σ' : SG} {a : AD} {H0 H : Heap} {locs : List Loc} {w0 : va_W} {N q s u l : Nat} {Fs : List Nat} {po : Option Nat} {uu ll : Nat → Int} (hI : DI g σ a H0) (hN : σ 0 0 = (N : Int)) (hS : va_S (va_A w0 H0.size) H0 H locs) (hw0 : ∀ x, x ∈ w0.map Prod.fst → x = a 1 0 ∨ x = a 2 0 ∨ ∃ k, k ∈ Fs ∧ x = a 8 k) (hFs : ∀ k, k ∈ Fs → k < N)
    (e0 : σ' 0 0 = ((N + 1 : Nat) : Int)) (e1 : ∀ k, k < N → σ' 1 k = σ 1 k) (e2 : ∀ k, k < N → σ' 2 k = σ 2 k) (e3 : ∀ k, k < N → k ∉ Fs → σ' 3 k = σ 3 k) (e4 : ∀ k, k < N → σ' 4 k = σ 4 k) (e5 : ∀ j, j < 24 * N → σ' 5 j = σ 5 j) (e6 : σ' 6 = σ 6) (e7 : σ' 7 0 = σ 7 0) (e8 : σ' 8 0 = σ 8 0) (e9 : σ' 9 = σ 9) (e10 : σ' 10 = σ 10) (e11 : σ' 11 = σ 11) (e12 : σ' 12 = σ 12) (eN3 : σ' 3 N = 0) (eN4 : σ' 4 N = 0)
    (hpar : ∀ k : Nat, k < N → σ 2 k < k) (hb12 : ∀ k : Nat, k < N → σ 1 k ≤ 12)
    (hnq : H0.size ≤ q ∧ H0.size ≤ s ∧ H0.size ≤ u ∧ H0.size ≤ l) (hnd : [q, s, u, l].Nodup)
    (hob : va_at g.1 vwCl (a 1 0, .inr (3, [.ref (a 2 0), .int (zi ((N + 1 : Nat) : Int)), .ref (a 3 0), .int (zi (σ 8 0)), .ref (a 4 0), .int (zi (σ 7 0)), .ref (a 5 0)])) H)
    (hvs : va_at g.1 vwCl (a 2 0, .inl (g.2.2.2.1, 30, .inr (.inr (.inr (.inr (va_up (vsF σ a) N (some q))))))) H)
    (hfx : ∀ k, k ∈ Fs → va_at g.1 vwCl (a 8 k, .inr (2, [.int (zi (k : Int)), va_rf (paV σ a k), .ref (a 9 k), .int (zi (σ' 3 k)), .int (zi (σ 4 k))])) H)
    (hnv : va_at g.1 vwCl (q, .inr (2, [.int (zi (N : Int)), va_rf po, .ref s, .int (zi 0), .int (zi 0)])) H) (hpo : po = if σ' 2 N < 0 then none else some (a 8 (σ' 2 N).toNat)) (hpo2 : σ' 2 N < N)
    (hsc : ScP g s u l (σ' 1 N) uu ll H) (hu : Nt uu) (hl : Nt ll) (hc : ∀ b : Nat, (b : Int) < σ' 1 N → uu b = NU σ' N b ∧ ll b = NL σ' N b) :
    DI g σ' (adV a N q s u l) H ∧ DE σ a σ' (adV a N q s u l) H0.size := by
  have hk : ∀ {i j : Nat}, dOk σ i j → ¬ (i = 1 ∧ j = 0) → ¬ (i = 2 ∧ j = 0) → ¬ (i = 8 ∧ j ∈ Fs) → H[a i j]? = H0[a i j]? := fun {i j} hv h1 h2 h3 => hI.keep hS hv (fun hm => by
    rcases hw0 _ hm with h | h | ⟨k, hk1, h⟩
    · exact dNe hI.inj hv (dOk_0 σ (i := 1) (by omega)) h1 h
    · exact dNe hI.inj hv (dOk_0 σ (i := 2) (by omega)) h2 h
    · have := hFs k hk1
      exact dNe hI.inj hv (dOk_v (i := 8) (by omega) (by omega)) (fun hh => h3 ⟨hh.1, by rw [hh.2]; exact hk1⟩) h)
  have ao : ∀ i j : Nat, ¬ ((8 ≤ i ∧ i ≤ 11) ∧ j = N) → adV a N q s u l i j = a i j := fun i j h => adV_o h
  have hold : ∀ i j : Nat, dOk σ' i j → ¬ ((8 ≤ i ∧ i ≤ 11) ∧ j = N) → dOk σ i j := by
    intro i j h hn
    unfold dOk at h ⊢
    rw [e0, e8] at h
    omega
  have hnew : ∀ i : Nat, (8 ≤ i ∧ i ≤ 11) → H0.size ≤ adV a N q s u l i N := by
    intro i hi
    rcases (show i = 8 ∨ i = 9 ∨ i = 10 ∨ i = 11 by omega) with rfl | rfl | rfl | rfl
    · rw [adV_8]; exact hnq.1
    · rw [adV_9]; exact hnq.2.1
    · rw [adV_10]; exact hnq.2.2.1
    · rw [adV_11]; exact hnq.2.2.2
  have hpv : ∀ k : Nat, k < N → paV σ' (adV a N q s u l) k = paV σ a k := by
    intro k hk1
    have := hpar k hk1
    unfold paV
    rw [e2 k hk1]
    split
    · rfl
    · rw [ao 8 _ (by omega)]
  refine ⟨⟨?_, ?_, ?_, ?_, ?_, fun k h => ?_, fun k h => ?_, ?_⟩, ?_, ?_⟩
  · unfold deskO
    rw [ao 1 0 (by omega), ao 2 0 (by omega), ao 3 0 (by omega), ao 4 0 (by omega), ao 5 0 (by omega), e0, e8, e7]
    exact hob
  · unfold vsO
    rw [ao 2 0 (by omega)]
    have e : vsF σ' (adV a N q s u l) = va_up (vsF σ a) N (some q) := by
      funext k
      show (if (k : Int) < σ' 0 0 then some (adV a N q s u l 8 k) else none) = if k = N then some q else (if (k : Int) < σ 0 0 then some (a 8 k) else none)
      rw [e0]
      by_cases h : k = N
      · subst h
        rw [if_pos (by omega), if_pos rfl, adV_8]
      · rw [if_neg h, ao 8 k (by omega), hN]
        by_cases h2 : k < N
        · rw [if_pos (by omega), if_pos (by omega)]
        · rw [if_neg (by omega), if_neg (by omega)]
    rw [e]
    exact hvs
  · unfold csO
    rw [ao 3 0 (by omega)]
    have e : csF σ' (adV a N q s u l) = csF σ a := by
      funext k
      unfold csF
      rw [e8, ao 12 k (by omega)]
    rw [e]
    exact hI.cs.kept (hk (dOk_0 σ (by omega)) (by omega) (by omega) (by omega))
  · unfold wtO
    rw [ao 4 0 (by omega), e6]
    exact hI.wt.kept (hk (dOk_0 σ (by omega)) (by omega) (by omega) (by omega))
  · exact hI.tr.mv (fun i h1 h2 => ao i 0 (by omega)) (fun i h1 h2 => hk (dOk_0 σ (by omega)) (by omega) (by omega) (by omega))
  · by_cases e : k = N
    · subst e
      refine .mk ?_ ⟨uu, ll, ?_, hu, hl, hc⟩
      · unfold verO
        have ep : paV σ' (adV a k q s u l) k = po := by
          unfold paV
          rw [hpo]
          split
          · rfl
          · rw [ao 8 _ (by omega)]
        rw [adV_8, adV_9, ep, eN3, eN4]
        exact hnv
      · rw [adV_9, adV_10, adV_11]
        exact hsc
    · have hk1 : k < N := by omega
      have hV := hI.vk (k := k) (by omega)
      have hb := hb12 k hk1
      have hnote : ∀ b : Nat, (b : Int) < σ 1 k → NU σ' k b = NU σ k b ∧ NL σ' k b = NL σ k b := fun b hb2 => ⟨e5 _ (by omega), e5 _ (by omega)⟩
      by_cases hf : k ∈ Fs
      · refine .mk ?_ (hV.sc.mv (fun i h1 h2 => ao i k (by omega)) (fun i h1 h2 => hk (dOk_v (by omega) (by omega)) (by omega) (by omega) (by omega)) (e1 k hk1) hnote)
        unfold verO
        rw [ao 8 k (by omega), ao 9 k (by omega), hpv k hk1, e4 k hk1]
        exact hfx k hf
      · exact hV.mv (fun i h1 h2 => ao i k (by omega)) (fun i h1 h2 => hk (dOk_v (by omega) (by omega)) (by omega) (by omega) (fun hh => hf hh.2)) (hpv k hk1) (e1 k hk1) (e3 k hk1 hf) (e4 k hk1) hnote
  · have h' : (k : Int) < σ 8 0 := by rw [← e8]; exact h
    exact (hI.ck h').mv (fun i h1 h2 => ao i k (by omega)) (fun i h1 h2 => hk (dOk_c (by omega) h') (by omega) (by omega) (by omega)) (by rw [e9]) (by rw [e10]) (by rw [e12]) (fun b _ => by rw [e11])
  · intro i j i' j' h1 h2 h
    by_cases c1 : (8 ≤ i ∧ i ≤ 11) ∧ j = N
    · by_cases c2 : (8 ≤ i' ∧ i' ≤ 11) ∧ j' = N
      · obtain ⟨c1, rfl⟩ := c1
        obtain ⟨c2, rfl⟩ := c2
        simp only [List.nodup_cons, List.mem_cons, List.not_mem_nil, or_false, not_or] at hnd
        rcases (show i = 8 ∨ i = 9 ∨ i = 10 ∨ i = 11 by omega) with rfl | rfl | rfl | rfl <;> rcases (show i' = 8 ∨ i' = 9 ∨ i' = 10 ∨ i' = 11 by omega) with rfl | rfl | rfl | rfl <;> simp only [adV_8, adV_9, adV_10, adV_11] at h <;> first | exact ⟨rfl, rfl⟩ | (exfalso; omega)
      · have := hI.lt (hold i' j' h2 c2)
        have h3 := hnew i c1.1
        rw [show adV a N q s u l i N = adV a N q s u l i' j' by rw [← h, c1.2], ao i' j' c2] at h3
        omega
    · by_cases c2 : (8 ≤ i' ∧ i' ≤ 11) ∧ j' = N
      · have := hI.lt (hold i j h1 c1)
        have h3 := hnew i' c2.1
        rw [show adV a N q s u l i' N = adV a N q s u l i j by rw [h, c2.2], ao i j c1] at h3
        omega
      · rw [ao i j c1, ao i' j' c2] at h
        exact hI.inj i j i' j' (hold i j h1 c1) (hold i' j' h2 c2) h
  · exact ao 1 0 (by omega)
  · rintro x ⟨i, j, h1, rfl⟩
    by_cases c1 : (8 ≤ i ∧ i ≤ 11) ∧ j = N
    · right
      rw [c1.2]
      exact hnew i c1.1
    · left
      exact ⟨i, j, hold i j h1 c1, ao i j c1⟩
