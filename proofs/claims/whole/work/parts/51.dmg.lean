set_option maxHeartbeats 4000000 in
set_option maxRecDepth 100000 in
theorem c_X3_merge_0 (l : Launch) (g : gG) (σ : SG) (a : AD) (hW : WF σ) (i : Nat) (hi : (i : Int) < σ 0 0) (zi1 : Int) (hzi : zi1 = (i : Int)) (j : Nat) (hj : (j : Int) < σ 0 0) (zj : Int) (hzj : zj = (j : Int)) (hne : i ≠ j) (bn : Nat) (hbn : bs (σ 2) i j (σ 0 0).toNat = (bn : Int)) (N : Nat) (hN : σ 0 0 = (N : Int)) (hnf : N < 30)  (sz : Nat) : DW l yX3_merge wsX3_merge ({ frames := 4, cells := 4, slots := 32, locals := 92 }) g [.int (zi (zi1)), .int (zi (zj))] sz σ a (opM σ N i j bn) ((N : Int)) 4 32 := by
  refine ZM.ofW (cc := cX3_merge) (maxL := 7) (ret := (some .int)) (by decide) rfl (Nat.le_of_ble_eq_true rfl) ?_
  intro p e s m below meth c ls hx hb hr hml hown hts hlk hP hK hl hin
  obtain ⟨rfl, hI⟩ := hP
  have hn := hW.n
  have hn := hW.n
  have hbr := bs_r (σ 2) i j (σ 0 0).toNat
  have hbk : (bn : Int) < σ 0 0 := by omega
  have hcm : cmA σ a i j = some (a 8 bn) := by unfold cmA; rw [hbn, if_neg (by omega), Int.toNat_natCast]
  have hbi := hW.bars hi
  obtain ⟨ui, li, hsi, nui, nli, eqi⟩ := (hI.vk hi).2
  obtain ⟨uj, lj, hsj, nuj, nlj, eqj⟩ := (hI.vk hj).2
  obtain ⟨ubn, lbn, hsbn, nubn, nlbn, eqbn⟩ := (hI.vk hbk).2
  have han := bs_an _ hbn
  have b1 := An_bars hW bn (i + 1) i (by omega) hi han.1
  have b2 := An_bars hW bn (j + 1) j (by omega) hj han.2
  obtain ⟨nb, hnb⟩ : ∃ nb : Nat, σ 1 i = (nb : Int) := ⟨(σ 1 i).toNat, by omega⟩
  have hnb12 : nb ≤ 12 := by omega
  have nd01 : (a 1 0) ≠ (a 2 0) := dNe hI.inj (dOk_0 σ (i := 1) (by omega)) (dOk_0 σ (i := 2) (by omega)) (by omega)
  have nd02 : (a 1 0) ≠ (a 8 i) := dNe hI.inj (dOk_0 σ (i := 1) (by omega)) (dOk_v (i := 8) (by omega) hi) (by omega)
  have nd03 : (a 1 0) ≠ (a 8 j) := dNe hI.inj (dOk_0 σ (i := 1) (by omega)) (dOk_v (i := 8) (by omega) hj) (by omega)
  have nd12 : (a 2 0) ≠ (a 8 i) := dNe hI.inj (dOk_0 σ (i := 2) (by omega)) (dOk_v (i := 8) (by omega) hi) (by omega)
  have nd13 : (a 2 0) ≠ (a 8 j) := dNe hI.inj (dOk_0 σ (i := 2) (by omega)) (dOk_v (i := 8) (by omega) hj) (by omega)
  have nd23 : (a 8 i) ≠ (a 8 j) := dNe hI.inj (dOk_v (i := 8) (by omega) hi) (dOk_v (i := 8) (by omega) hj) (by omega)
  have hP := z_cons hI.ob (z_cons hI.vs (z_cons (hI.vk hi).1 (z_cons (hI.vk hj).1 z_nil)))
  have hP : va_P g.1 vwCl [((a 1 0), .inr (3, [.ref (a 2 0), .int (zi (σ 0 0)), .ref (a 3 0), .int (zi (σ 8 0)), .ref (a 4 0), .int (zi (σ 7 0)), .ref (a 5 0)])), ((a 2 0), .inl (g.2.2.2.1, 30, .inr (.inr (.inr (.inr (vsF σ a)))))), ((a 8 i), .inr (2, [.int (zi ((i : Int))), va_rf (paV σ a i), .ref (a 9 i), .int (zi (σ 3 i)), .int (zi (σ 4 i))])), ((a 8 j), .inr (2, [.int (zi ((j : Int))), va_rf (paV σ a j), .ref (a 9 j), .int (zi (σ 3 j)), .int (zi (σ 4 j))]))] s.heap := hP
  have hD : va_D (va_A [((a 1 0), .inr (3, [.ref (a 2 0), .int (zi (σ 0 0)), .ref (a 3 0), .int (zi (σ 8 0)), .ref (a 4 0), .int (zi (σ 7 0)), .ref (a 5 0)])), ((a 2 0), .inl (g.2.2.2.1, 30, .inr (.inr (.inr (.inr (vsF σ a)))))), ((a 8 i), .inr (2, [.int (zi ((i : Int))), va_rf (paV σ a i), .ref (a 9 i), .int (zi (σ 3 i)), .int (zi (σ 4 i))])), ((a 8 j), .inr (2, [.int (zi ((j : Int))), va_rf (paV σ a j), .ref (a 9 j), .int (zi (σ 3 j)), .int (zi (σ 4 j))]))] s.heap.size) [((a 1 0), .inr (3, [.ref (a 2 0), .int (zi (σ 0 0)), .ref (a 3 0), .int (zi (σ 8 0)), .ref (a 4 0), .int (zi (σ 7 0)), .ref (a 5 0)])), ((a 2 0), .inl (g.2.2.2.1, 30, .inr (.inr (.inr (.inr (vsF σ a)))))), ((a 8 i), .inr (2, [.int (zi ((i : Int))), va_rf (paV σ a i), .ref (a 9 i), .int (zi (σ 3 i)), .int (zi (σ 4 i))])), ((a 8 j), .inr (2, [.int (zi ((j : Int))), va_rf (paV σ a j), .ref (a 9 j), .int (zi (σ 3 j)), .int (zi (σ 4 j))]))] := z_Dn (by simp [nd01, nd02, nd03, nd12, nd13, nd23])
  have hS : va_S (va_A [((a 1 0), .inr (3, [.ref (a 2 0), .int (zi (σ 0 0)), .ref (a 3 0), .int (zi (σ 8 0)), .ref (a 4 0), .int (zi (σ 7 0)), .ref (a 5 0)])), ((a 2 0), .inl (g.2.2.2.1, 30, .inr (.inr (.inr (.inr (vsF σ a)))))), ((a 8 i), .inr (2, [.int (zi ((i : Int))), va_rf (paV σ a i), .ref (a 9 i), .int (zi (σ 3 i)), .int (zi (σ 4 i))])), ((a 8 j), .inr (2, [.int (zi ((j : Int))), va_rf (paV σ a j), .ref (a 9 j), .int (zi (σ 3 j)), .int (zi (σ 4 j))]))] s.heap.size) s.heap s.heap [] := va_S.rf
  have hA : ∀ x9 : Nat, s.heap.size ≤ x9 → (va_A [((a 1 0), .inr (3, [.ref (a 2 0), .int (zi (σ 0 0)), .ref (a 3 0), .int (zi (σ 8 0)), .ref (a 4 0), .int (zi (σ 7 0)), .ref (a 5 0)])), ((a 2 0), .inl (g.2.2.2.1, 30, .inr (.inr (.inr (.inr (vsF σ a)))))), ((a 8 i), .inr (2, [.int (zi ((i : Int))), va_rf (paV σ a i), .ref (a 9 i), .int (zi (σ 3 i)), .int (zi (σ 4 i))])), ((a 8 j), .inr (2, [.int (zi ((j : Int))), va_rf (paV σ a j), .ref (a 9 j), .int (zi (σ 3 j)), .int (zi (σ 4 j))]))] s.heap.size) x9 := fun _ h => Or.inr h
  have hown : s.vm.findClass RX3 = some m.cls := hown
  have hl : lv_has ls 7 [(0, .ref (a 1 0)), (1, .int (zi (zi1))), (2, .int (zi (zj)))] := hl
  have hiX2 : ∀ w ∈ u_ws RX2 TX2 5, w ∈ wsX3_merge := by decide +kernel
  have hfA : ∀ x9, va_A [((a 1 0), .inr (3, [.ref (a 2 0), .int (zi (σ 0 0)), .ref (a 3 0), .int (zi (σ 8 0)), .ref (a 4 0), .int (zi (σ 7 0)), .ref (a 5 0)])), ((a 2 0), .inl (g.2.2.2.1, 30, .inr (.inr (.inr (.inr (vsF σ a)))))), ((a 8 i), .inr (2, [.int (zi ((i : Int))), va_rf (paV σ a i), .ref (a 9 i), .int (zi (σ 3 i)), .int (zi (σ 4 i))])), ((a 8 j), .inr (2, [.int (zi ((j : Int))), va_rf (paV σ a j), .ref (a 9 j), .int (zi (σ 3 j)), .int (zi (σ 4 j))]))] s.heap.size x9 → dA σ a s.heap.size x9 := dA_of (fun x9 h9 => by
    simp only [List.map, List.mem_cons, List.not_mem_nil, or_false] at h9
    rcases h9 with rfl | rfl | rfl | rfl
    · exact ⟨1, 0, (dOk_0 σ (i := 1) (by omega)), rfl⟩
    · exact ⟨2, 0, (dOk_0 σ (i := 2) (by omega)), rfl⟩
    · exact ⟨8, i, (dOk_v (i := 8) (by omega) hi), rfl⟩
    · exact ⟨8, j, (dOk_v (i := 8) (by omega) hj), rfl⟩)
  have n9i : ¬ (va_A [((a 1 0), .inr (3, [.ref (a 2 0), .int (zi (σ 0 0)), .ref (a 3 0), .int (zi (σ 8 0)), .ref (a 4 0), .int (zi (σ 7 0)), .ref (a 5 0)])), ((a 2 0), .inl (g.2.2.2.1, 30, .inr (.inr (.inr (.inr (vsF σ a)))))), ((a 8 i), .inr (2, [.int (zi ((i : Int))), va_rf (paV σ a i), .ref (a 9 i), .int (zi (σ 3 i)), .int (zi (σ 4 i))])), ((a 8 j), .inr (2, [.int (zi ((j : Int))), va_rf (paV σ a j), .ref (a 9 j), .int (zi (σ 3 j)), .int (zi (σ 4 j))]))] s.heap.size) (a 9 i) := z_nA (hI.lt (dOk_v (i := 9) (by omega) hi)) (fun h9 => by
    simp only [List.map, List.mem_cons, List.not_mem_nil, or_false] at h9
    rcases h9 with h9 | h9 | h9 | h9
    · exact dNe hI.inj (dOk_v (i := 9) (by omega) hi) (dOk_0 σ (i := 1) (by omega)) (by omega) h9
    · exact dNe hI.inj (dOk_v (i := 9) (by omega) hi) (dOk_0 σ (i := 2) (by omega)) (by omega) h9
    · exact dNe hI.inj (dOk_v (i := 9) (by omega) hi) (dOk_v (i := 8) (by omega) hi) (by omega) h9
    · exact dNe hI.inj (dOk_v (i := 9) (by omega) hi) (dOk_v (i := 8) (by omega) hj) (by omega) h9)
  have n10i : ¬ (va_A [((a 1 0), .inr (3, [.ref (a 2 0), .int (zi (σ 0 0)), .ref (a 3 0), .int (zi (σ 8 0)), .ref (a 4 0), .int (zi (σ 7 0)), .ref (a 5 0)])), ((a 2 0), .inl (g.2.2.2.1, 30, .inr (.inr (.inr (.inr (vsF σ a)))))), ((a 8 i), .inr (2, [.int (zi ((i : Int))), va_rf (paV σ a i), .ref (a 9 i), .int (zi (σ 3 i)), .int (zi (σ 4 i))])), ((a 8 j), .inr (2, [.int (zi ((j : Int))), va_rf (paV σ a j), .ref (a 9 j), .int (zi (σ 3 j)), .int (zi (σ 4 j))]))] s.heap.size) (a 10 i) := z_nA (hI.lt (dOk_v (i := 10) (by omega) hi)) (fun h9 => by
    simp only [List.map, List.mem_cons, List.not_mem_nil, or_false] at h9
    rcases h9 with h9 | h9 | h9 | h9
    · exact dNe hI.inj (dOk_v (i := 10) (by omega) hi) (dOk_0 σ (i := 1) (by omega)) (by omega) h9
    · exact dNe hI.inj (dOk_v (i := 10) (by omega) hi) (dOk_0 σ (i := 2) (by omega)) (by omega) h9
    · exact dNe hI.inj (dOk_v (i := 10) (by omega) hi) (dOk_v (i := 8) (by omega) hi) (by omega) h9
    · exact dNe hI.inj (dOk_v (i := 10) (by omega) hi) (dOk_v (i := 8) (by omega) hj) (by omega) h9)
  have n11i : ¬ (va_A [((a 1 0), .inr (3, [.ref (a 2 0), .int (zi (σ 0 0)), .ref (a 3 0), .int (zi (σ 8 0)), .ref (a 4 0), .int (zi (σ 7 0)), .ref (a 5 0)])), ((a 2 0), .inl (g.2.2.2.1, 30, .inr (.inr (.inr (.inr (vsF σ a)))))), ((a 8 i), .inr (2, [.int (zi ((i : Int))), va_rf (paV σ a i), .ref (a 9 i), .int (zi (σ 3 i)), .int (zi (σ 4 i))])), ((a 8 j), .inr (2, [.int (zi ((j : Int))), va_rf (paV σ a j), .ref (a 9 j), .int (zi (σ 3 j)), .int (zi (σ 4 j))]))] s.heap.size) (a 11 i) := z_nA (hI.lt (dOk_v (i := 11) (by omega) hi)) (fun h9 => by
    simp only [List.map, List.mem_cons, List.not_mem_nil, or_false] at h9
    rcases h9 with h9 | h9 | h9 | h9
    · exact dNe hI.inj (dOk_v (i := 11) (by omega) hi) (dOk_0 σ (i := 1) (by omega)) (by omega) h9
    · exact dNe hI.inj (dOk_v (i := 11) (by omega) hi) (dOk_0 σ (i := 2) (by omega)) (by omega) h9
    · exact dNe hI.inj (dOk_v (i := 11) (by omega) hi) (dOk_v (i := 8) (by omega) hi) (by omega) h9
    · exact dNe hI.inj (dOk_v (i := 11) (by omega) hi) (dOk_v (i := 8) (by omega) hj) (by omega) h9)
  have n9j : ¬ (va_A [((a 1 0), .inr (3, [.ref (a 2 0), .int (zi (σ 0 0)), .ref (a 3 0), .int (zi (σ 8 0)), .ref (a 4 0), .int (zi (σ 7 0)), .ref (a 5 0)])), ((a 2 0), .inl (g.2.2.2.1, 30, .inr (.inr (.inr (.inr (vsF σ a)))))), ((a 8 i), .inr (2, [.int (zi ((i : Int))), va_rf (paV σ a i), .ref (a 9 i), .int (zi (σ 3 i)), .int (zi (σ 4 i))])), ((a 8 j), .inr (2, [.int (zi ((j : Int))), va_rf (paV σ a j), .ref (a 9 j), .int (zi (σ 3 j)), .int (zi (σ 4 j))]))] s.heap.size) (a 9 j) := z_nA (hI.lt (dOk_v (i := 9) (by omega) hj)) (fun h9 => by
    simp only [List.map, List.mem_cons, List.not_mem_nil, or_false] at h9
    rcases h9 with h9 | h9 | h9 | h9
    · exact dNe hI.inj (dOk_v (i := 9) (by omega) hj) (dOk_0 σ (i := 1) (by omega)) (by omega) h9
    · exact dNe hI.inj (dOk_v (i := 9) (by omega) hj) (dOk_0 σ (i := 2) (by omega)) (by omega) h9
    · exact dNe hI.inj (dOk_v (i := 9) (by omega) hj) (dOk_v (i := 8) (by omega) hi) (by omega) h9
    · exact dNe hI.inj (dOk_v (i := 9) (by omega) hj) (dOk_v (i := 8) (by omega) hj) (by omega) h9)
  have n10j : ¬ (va_A [((a 1 0), .inr (3, [.ref (a 2 0), .int (zi (σ 0 0)), .ref (a 3 0), .int (zi (σ 8 0)), .ref (a 4 0), .int (zi (σ 7 0)), .ref (a 5 0)])), ((a 2 0), .inl (g.2.2.2.1, 30, .inr (.inr (.inr (.inr (vsF σ a)))))), ((a 8 i), .inr (2, [.int (zi ((i : Int))), va_rf (paV σ a i), .ref (a 9 i), .int (zi (σ 3 i)), .int (zi (σ 4 i))])), ((a 8 j), .inr (2, [.int (zi ((j : Int))), va_rf (paV σ a j), .ref (a 9 j), .int (zi (σ 3 j)), .int (zi (σ 4 j))]))] s.heap.size) (a 10 j) := z_nA (hI.lt (dOk_v (i := 10) (by omega) hj)) (fun h9 => by
    simp only [List.map, List.mem_cons, List.not_mem_nil, or_false] at h9
    rcases h9 with h9 | h9 | h9 | h9
    · exact dNe hI.inj (dOk_v (i := 10) (by omega) hj) (dOk_0 σ (i := 1) (by omega)) (by omega) h9
    · exact dNe hI.inj (dOk_v (i := 10) (by omega) hj) (dOk_0 σ (i := 2) (by omega)) (by omega) h9
    · exact dNe hI.inj (dOk_v (i := 10) (by omega) hj) (dOk_v (i := 8) (by omega) hi) (by omega) h9
    · exact dNe hI.inj (dOk_v (i := 10) (by omega) hj) (dOk_v (i := 8) (by omega) hj) (by omega) h9)
  have n11j : ¬ (va_A [((a 1 0), .inr (3, [.ref (a 2 0), .int (zi (σ 0 0)), .ref (a 3 0), .int (zi (σ 8 0)), .ref (a 4 0), .int (zi (σ 7 0)), .ref (a 5 0)])), ((a 2 0), .inl (g.2.2.2.1, 30, .inr (.inr (.inr (.inr (vsF σ a)))))), ((a 8 i), .inr (2, [.int (zi ((i : Int))), va_rf (paV σ a i), .ref (a 9 i), .int (zi (σ 3 i)), .int (zi (σ 4 i))])), ((a 8 j), .inr (2, [.int (zi ((j : Int))), va_rf (paV σ a j), .ref (a 9 j), .int (zi (σ 3 j)), .int (zi (σ 4 j))]))] s.heap.size) (a 11 j) := z_nA (hI.lt (dOk_v (i := 11) (by omega) hj)) (fun h9 => by
    simp only [List.map, List.mem_cons, List.not_mem_nil, or_false] at h9
    rcases h9 with h9 | h9 | h9 | h9
    · exact dNe hI.inj (dOk_v (i := 11) (by omega) hj) (dOk_0 σ (i := 1) (by omega)) (by omega) h9
    · exact dNe hI.inj (dOk_v (i := 11) (by omega) hj) (dOk_0 σ (i := 2) (by omega)) (by omega) h9
    · exact dNe hI.inj (dOk_v (i := 11) (by omega) hj) (dOk_v (i := 8) (by omega) hi) (by omega) h9
    · exact dNe hI.inj (dOk_v (i := 11) (by omega) hj) (dOk_v (i := 8) (by omega) hj) (by omega) h9)
  have n9bn : ¬ (va_A [((a 1 0), .inr (3, [.ref (a 2 0), .int (zi (σ 0 0)), .ref (a 3 0), .int (zi (σ 8 0)), .ref (a 4 0), .int (zi (σ 7 0)), .ref (a 5 0)])), ((a 2 0), .inl (g.2.2.2.1, 30, .inr (.inr (.inr (.inr (vsF σ a)))))), ((a 8 i), .inr (2, [.int (zi ((i : Int))), va_rf (paV σ a i), .ref (a 9 i), .int (zi (σ 3 i)), .int (zi (σ 4 i))])), ((a 8 j), .inr (2, [.int (zi ((j : Int))), va_rf (paV σ a j), .ref (a 9 j), .int (zi (σ 3 j)), .int (zi (σ 4 j))]))] s.heap.size) (a 9 bn) := z_nA (hI.lt (dOk_v (i := 9) (by omega) hbk)) (fun h9 => by
    simp only [List.map, List.mem_cons, List.not_mem_nil, or_false] at h9
    rcases h9 with h9 | h9 | h9 | h9
    · exact dNe hI.inj (dOk_v (i := 9) (by omega) hbk) (dOk_0 σ (i := 1) (by omega)) (by omega) h9
    · exact dNe hI.inj (dOk_v (i := 9) (by omega) hbk) (dOk_0 σ (i := 2) (by omega)) (by omega) h9
    · exact dNe hI.inj (dOk_v (i := 9) (by omega) hbk) (dOk_v (i := 8) (by omega) hi) (by omega) h9
    · exact dNe hI.inj (dOk_v (i := 9) (by omega) hbk) (dOk_v (i := 8) (by omega) hj) (by omega) h9)
  have n10bn : ¬ (va_A [((a 1 0), .inr (3, [.ref (a 2 0), .int (zi (σ 0 0)), .ref (a 3 0), .int (zi (σ 8 0)), .ref (a 4 0), .int (zi (σ 7 0)), .ref (a 5 0)])), ((a 2 0), .inl (g.2.2.2.1, 30, .inr (.inr (.inr (.inr (vsF σ a)))))), ((a 8 i), .inr (2, [.int (zi ((i : Int))), va_rf (paV σ a i), .ref (a 9 i), .int (zi (σ 3 i)), .int (zi (σ 4 i))])), ((a 8 j), .inr (2, [.int (zi ((j : Int))), va_rf (paV σ a j), .ref (a 9 j), .int (zi (σ 3 j)), .int (zi (σ 4 j))]))] s.heap.size) (a 10 bn) := z_nA (hI.lt (dOk_v (i := 10) (by omega) hbk)) (fun h9 => by
    simp only [List.map, List.mem_cons, List.not_mem_nil, or_false] at h9
    rcases h9 with h9 | h9 | h9 | h9
    · exact dNe hI.inj (dOk_v (i := 10) (by omega) hbk) (dOk_0 σ (i := 1) (by omega)) (by omega) h9
    · exact dNe hI.inj (dOk_v (i := 10) (by omega) hbk) (dOk_0 σ (i := 2) (by omega)) (by omega) h9
    · exact dNe hI.inj (dOk_v (i := 10) (by omega) hbk) (dOk_v (i := 8) (by omega) hi) (by omega) h9
    · exact dNe hI.inj (dOk_v (i := 10) (by omega) hbk) (dOk_v (i := 8) (by omega) hj) (by omega) h9)
  have n11bn : ¬ (va_A [((a 1 0), .inr (3, [.ref (a 2 0), .int (zi (σ 0 0)), .ref (a 3 0), .int (zi (σ 8 0)), .ref (a 4 0), .int (zi (σ 7 0)), .ref (a 5 0)])), ((a 2 0), .inl (g.2.2.2.1, 30, .inr (.inr (.inr (.inr (vsF σ a)))))), ((a 8 i), .inr (2, [.int (zi ((i : Int))), va_rf (paV σ a i), .ref (a 9 i), .int (zi (σ 3 i)), .int (zi (σ 4 i))])), ((a 8 j), .inr (2, [.int (zi ((j : Int))), va_rf (paV σ a j), .ref (a 9 j), .int (zi (σ 3 j)), .int (zi (σ 4 j))]))] s.heap.size) (a 11 bn) := z_nA (hI.lt (dOk_v (i := 11) (by omega) hbk)) (fun h9 => by
    simp only [List.map, List.mem_cons, List.not_mem_nil, or_false] at h9
    rcases h9 with h9 | h9 | h9 | h9
    · exact dNe hI.inj (dOk_v (i := 11) (by omega) hbk) (dOk_0 σ (i := 1) (by omega)) (by omega) h9
    · exact dNe hI.inj (dOk_v (i := 11) (by omega) hbk) (dOk_0 σ (i := 2) (by omega)) (by omega) h9
    · exact dNe hI.inj (dOk_v (i := 11) (by omega) hbk) (dOk_v (i := 8) (by omega) hi) (by omega) h9
    · exact dNe hI.inj (dOk_v (i := 11) (by omega) hbk) (dOk_v (i := 8) (by omega) hj) (by omega) h9)
  refine lv_aload_n hx hb dX3_merge_0 rfl (lv_at hl 0 rfl) ?_
  refine lv_iload_n hx hb dX3_merge_1 rfl (lv_at hl 1 rfl) ?_
  refine rq_V (rest := []) (As := [.int (zi (zi1))]) ⟨hx, hb, hml, hown, hts⟩ (c_X3_findVersion l g σ a hW i hi (zi1) (by omega)) (cwV 1 hts gX3_merge_X3_findVersion rfl rfl rfl (by decide +kernel) ⟨Nat.le_of_ble_eq_true rfl, Nat.le_of_ble_eq_true rfl⟩) (z_recv hK (hP 0 _ rfl) rfl) hI hK rfl hl.1 rfl (Nat.le_of_ble_eq_true rfl) dX3_merge_2 ⟨Nat.le_of_ble_eq_true rfl, Nat.le_of_ble_eq_true rfl⟩ ?_
  refine lv_astore_n (lv' := [(3, .ref (a 8 i)), (0, .ref (a 1 0)), (1, .int (zi (zi1))), (2, .int (zi (zj)))]) hx hb dX3_merge_5 rfl hl (by decide) rfl (fun ls hl => ?_)
  refine lv_aload_n hx hb dX3_merge_6 rfl (lv_at hl 1 rfl) ?_
  refine lv_iload_n hx hb dX3_merge_7 rfl (lv_at hl 3 rfl) ?_
  refine rq_V (rest := []) (As := [.int (zi (zj))]) ⟨hx, hb, hml, hown, hts⟩ (c_X3_findVersion l g σ a hW j hj (zj) (by omega)) (cwV 1 hts gX3_merge_X3_findVersion rfl rfl rfl (by decide +kernel) ⟨Nat.le_of_ble_eq_true rfl, Nat.le_of_ble_eq_true rfl⟩) (z_recv hK (hP 0 _ rfl) rfl) hI hK rfl hl.1 rfl (Nat.le_of_ble_eq_true rfl) dX3_merge_8 ⟨Nat.le_of_ble_eq_true rfl, Nat.le_of_ble_eq_true rfl⟩ ?_
  refine lv_astore (lv' := [(4, .ref (a 8 j)), (3, .ref (a 8 i)), (0, .ref (a 1 0)), (1, .int (zi (zi1))), (2, .int (zi (zj)))]) hx hb dX3_merge_11 hl (by decide) rfl (fun ls hl => ?_)
  refine lv_iload_n hx hb dX3_merge_13 rfl (lv_at hl 3 rfl) ?_
  refine lv_iload_n hx hb dX3_merge_14 rfl (lv_at hl 4 rfl) ?_
  refine z_icmp_ne (tgt := 28) hx hb dX3_merge_15 (by decide) (by omega) (by omega) (fun h15 => ?_) (fun h15 => ?_)
  ·
    refine lv_aload_n hx hb dX3_merge_28 rfl (lv_at hl 1 rfl) ?_
    refine lv_aload hx hb dX3_merge_29 (lv_at hl 0 rfl) ?_
    refine rq_S (rest := []) (As := [.ref (a 8 i), .ref (a 8 j)]) ⟨hx, hb, hml, hown, hts⟩ (c_X3_commonAncestor l g σ a hW i j hi hj) (cwS 2 hts gX3_merge_X3_commonAncestor rfl rfl rfl (by decide +kernel) ⟨Nat.le_of_ble_eq_true rfl, Nat.le_of_ble_eq_true rfl⟩) hI hK rfl hl.1 rfl (Nat.le_of_ble_eq_true rfl) dX3_merge_31 ⟨Nat.le_of_ble_eq_true rfl, Nat.le_of_ble_eq_true rfl⟩ ?_
    rw [show cmA σ a i j = some (a 8 bn) from hcm]
    refine lv_astore (lv' := [(5, .ref (a 8 bn)), (4, .ref (a 8 j)), (3, .ref (a 8 i)), (0, .ref (a 1 0)), (1, .int (zi (zi1))), (2, .int (zi (zj)))]) hx hb dX3_merge_34 hl (by decide) rfl (fun ls hl => ?_)
    refine lv_aload hx hb dX3_merge_36 (lv_at hl 0 rfl) ?_
    refine lv_ifnonnull (tgt := 51) hx hb dX3_merge_38 (by decide) ?_
    refine lv_aload_n hx hb dX3_merge_51 rfl (lv_at hl 3 rfl) ?_
    refine lv_aload_n hx hb dX3_merge_52 rfl (lv_at hl 2 rfl) ?_
    have hS0 := hS
    refine wr_V (rest := []) (As := [.ref (a 8 i)]) ⟨hx, hb, hml, hown, hts⟩ (c_X3_addVersion_r l g σ a (a 8 i) N hN hnf nd01 _) (cwV 1 hts gX3_merge_X3_addVersion rfl rfl rfl (by decide +kernel) ⟨Nat.le_of_ble_eq_true rfl, Nat.le_of_ble_eq_true rfl⟩) (z_recv hK (hP 0 _ rfl) rfl) (hP.sub [0, 1] rfl) trivial hK rfl hl.1 rfl (Nat.le_of_ble_eq_true rfl) dX3_merge_53 ⟨Nat.le_of_ble_eq_true rfl, Nat.le_of_ble_eq_true rfl⟩ hS (va_free hD hS hA [0, 1] rfl) (fun u53 q53 H1 locs hP1 hD1 hz1 hk1 hS => ?_)
    obtain ⟨s9, u9, l9⟩ := u53
    obtain ⟨hP, hD⟩ := va_join (wr := [((a 8 i), .inr (2, [.int (zi ((i : Int))), va_rf (paV σ a i), .ref (a 9 i), .int (zi (σ 3 i)), .int (zi (σ 4 i))])), ((a 8 j), .inr (2, [.int (zi ((j : Int))), va_rf (paV σ a j), .ref (a 9 j), .int (zi (σ 3 j)), .int (zi (σ 4 j))]))]) (w1 := [((a 1 0), .inr (3, [.ref (a 2 0), .int (zi (((N + 1 : Nat) : Int))), .ref (a 3 0), .int (zi (σ 8 0)), .ref (a 4 0), .int (zi (σ 7 0)), .ref (a 5 0)])), ((a 2 0), .inl (g.2.2.2.1, 30, .inr (.inr (.inr (.inr (va_up (vsF σ a) N (some q53))))))), (q53, .inr (2, [.int (zi ((N : Int))), .ref (a 8 i), .ref s9, .int (zi (0)), .int (zi (0))])), (s9, .inr (1, [.int (zi (0)), .ref u9, .ref l9])), (u9, .inl (g.2.1, 12, .inl (fun j9 => zi ((fun _ => 0) j9)))), (l9, .inl (g.2.1, 12, .inl (fun j9 => zi ((fun _ => 0) j9))))]) hP hD [0, 1] [2, 3] rfl rfl (by decide) (by decide) hk1 (va_free hD hS0 hA [0, 1] rfl) hP1 hD1
    generalize H1 = H at hP hS ⊢
    have hP : va_P g.1 vwCl [((a 8 i), .inr (2, [.int (zi ((i : Int))), va_rf (paV σ a i), .ref (a 9 i), .int (zi (σ 3 i)), .int (zi (σ 4 i))])), ((a 8 j), .inr (2, [.int (zi ((j : Int))), va_rf (paV σ a j), .ref (a 9 j), .int (zi (σ 3 j)), .int (zi (σ 4 j))])), ((a 1 0), .inr (3, [.ref (a 2 0), .int (zi (((N + 1 : Nat) : Int))), .ref (a 3 0), .int (zi (σ 8 0)), .ref (a 4 0), .int (zi (σ 7 0)), .ref (a 5 0)])), ((a 2 0), .inl (g.2.2.2.1, 30, .inr (.inr (.inr (.inr (va_up (vsF σ a) N (some q53))))))), (q53, .inr (2, [.int (zi ((N : Int))), .ref (a 8 i), .ref s9, .int (zi (0)), .int (zi (0))])), (s9, .inr (1, [.int (zi (0)), .ref u9, .ref l9])), (u9, .inl (g.2.1, 12, .inl (fun j9 => zi ((fun _ => 0) j9)))), (l9, .inl (g.2.1, 12, .inl (fun j9 => zi ((fun _ => 0) j9))))] H := hP
    have hD : va_D (va_A [((a 1 0), .inr (3, [.ref (a 2 0), .int (zi (σ 0 0)), .ref (a 3 0), .int (zi (σ 8 0)), .ref (a 4 0), .int (zi (σ 7 0)), .ref (a 5 0)])), ((a 2 0), .inl (g.2.2.2.1, 30, .inr (.inr (.inr (.inr (vsF σ a)))))), ((a 8 i), .inr (2, [.int (zi ((i : Int))), va_rf (paV σ a i), .ref (a 9 i), .int (zi (σ 3 i)), .int (zi (σ 4 i))])), ((a 8 j), .inr (2, [.int (zi ((j : Int))), va_rf (paV σ a j), .ref (a 9 j), .int (zi (σ 3 j)), .int (zi (σ 4 j))]))] s.heap.size) [((a 8 i), .inr (2, [.int (zi ((i : Int))), va_rf (paV σ a i), .ref (a 9 i), .int (zi (σ 3 i)), .int (zi (σ 4 i))])), ((a 8 j), .inr (2, [.int (zi ((j : Int))), va_rf (paV σ a j), .ref (a 9 j), .int (zi (σ 3 j)), .int (zi (σ 4 j))])), ((a 1 0), .inr (3, [.ref (a 2 0), .int (zi (((N + 1 : Nat) : Int))), .ref (a 3 0), .int (zi (σ 8 0)), .ref (a 4 0), .int (zi (σ 7 0)), .ref (a 5 0)])), ((a 2 0), .inl (g.2.2.2.1, 30, .inr (.inr (.inr (.inr (va_up (vsF σ a) N (some q53))))))), (q53, .inr (2, [.int (zi ((N : Int))), .ref (a 8 i), .ref s9, .int (zi (0)), .int (zi (0))])), (s9, .inr (1, [.int (zi (0)), .ref u9, .ref l9])), (u9, .inl (g.2.1, 12, .inl (fun j9 => zi ((fun _ => 0) j9)))), (l9, .inl (g.2.1, 12, .inl (fun j9 => zi ((fun _ => 0) j9))))] := hD
    refine W.widen (k := 4) (n := 32) (by omega) (by omega) ?_
    have nwS : s.heap.size ≤ s9 := z_new hD (i := 5) rfl (fun h9 => by
      simp only [List.map, List.mem_cons, List.not_mem_nil, or_false] at h9
      rcases h9 with h9 | h9 | h9 | h9
      · exact z_ap hD (i := 5) (j := 2) rfl rfl (by decide) h9
      · exact z_ap hD (i := 5) (j := 3) rfl rfl (by decide) h9
      · exact z_ap hD (i := 5) (j := 0) rfl rfl (by decide) h9
      · exact z_ap hD (i := 5) (j := 1) rfl rfl (by decide) h9)
    have nwU : s.heap.size ≤ u9 := z_new hD (i := 6) rfl (fun h9 => by
      simp only [List.map, List.mem_cons, List.not_mem_nil, or_false] at h9
      rcases h9 with h9 | h9 | h9 | h9
      · exact z_ap hD (i := 6) (j := 2) rfl rfl (by decide) h9
      · exact z_ap hD (i := 6) (j := 3) rfl rfl (by decide) h9
      · exact z_ap hD (i := 6) (j := 0) rfl rfl (by decide) h9
      · exact z_ap hD (i := 6) (j := 1) rfl rfl (by decide) h9)
    have nwL : s.heap.size ≤ l9 := z_new hD (i := 7) rfl (fun h9 => by
      simp only [List.map, List.mem_cons, List.not_mem_nil, or_false] at h9
      rcases h9 with h9 | h9 | h9 | h9
      · exact z_ap hD (i := 7) (j := 2) rfl rfl (by decide) h9
      · exact z_ap hD (i := 7) (j := 3) rfl rfl (by decide) h9
      · exact z_ap hD (i := 7) (j := 0) rfl rfl (by decide) h9
      · exact z_ap hD (i := 7) (j := 1) rfl rfl (by decide) h9)
    refine lv_astore (lv' := [(6, .ref q53), (5, .ref (a 8 bn)), (4, .ref (a 8 j)), (3, .ref (a 8 i)), (0, .ref (a 1 0)), (1, .int (zi (zi1))), (2, .int (zi (zj)))]) hx hb dX3_merge_56 hl (by decide) rfl (fun ls hl => ?_)
    refine lv_aload hx hb dX3_merge_58 (lv_at hl 0 rfl) ?_
    refine z_getN (C := RX2) (T := TX2) (N := 5) (ref := "HarmoniumDesk$Version") (host := RX3) hx hb hts hiX2 hown hK (hP 4 _ rfl) rfl 2 (by decide) (by decide +kernel) rfl rfl dX3_merge_60 ?_
    refine lv_aload_n hx hb dX3_merge_63 rfl (lv_at hl 3 rfl) ?_
    refine z_getN (C := RX2) (T := TX2) (N := 5) (ref := "HarmoniumDesk$Version") (host := RX3) hx hb hts hiX2 hown hK (hP 0 _ rfl) rfl 2 (by decide) (by decide +kernel) rfl rfl dX3_merge_64 ?_
    refine lv_aload hx hb dX3_merge_67 (lv_at hl 2 rfl) ?_
    refine z_getN (C := RX2) (T := TX2) (N := 5) (ref := "HarmoniumDesk$Version") (host := RX3) hx hb hts hiX2 hown hK (hP 1 _ rfl) rfl 2 (by decide) (by decide +kernel) rfl rfl dX3_merge_69 ?_
    have hB9 : va_at g.1 vwCl (verO σ a bn) H := by
      by_cases e1 : bn = i
      · rw [e1]; exact hP 0 _ rfl
      · by_cases e2 : bn = j
        · rw [e2]; exact hP 1 _ rfl
        · exact z_stay (hI.vk hbk).1 hS (z_nA (hI.lt (dOk_v (i := 8) (by omega) hbk)) (fun h9 => by
            simp only [List.map, List.mem_cons, List.not_mem_nil, or_false] at h9
            rcases h9 with h9 | h9 | h9 | h9
            · exact dNe hI.inj (dOk_v (i := 8) (by omega) hbk) (dOk_0 σ (i := 1) (by omega)) (by omega) h9
            · exact dNe hI.inj (dOk_v (i := 8) (by omega) hbk) (dOk_0 σ (i := 2) (by omega)) (by omega) h9
            · exact dNe hI.inj (dOk_v (i := 8) (by omega) hbk) (dOk_v (i := 8) (by omega) hi) (by omega) h9
            · exact dNe hI.inj (dOk_v (i := 8) (by omega) hbk) (dOk_v (i := 8) (by omega) hj) (by omega) h9))
    refine lv_aload hx hb dX3_merge_72 (lv_at hl 1 rfl) ?_
    refine z_getN (C := RX2) (T := TX2) (N := 5) (ref := "HarmoniumDesk$Version") (host := RX3) hx hb hts hiX2 hown hK hB9 rfl 2 (by decide) (by decide +kernel) rfl rfl dX3_merge_74 ?_
    have hd9 : D3s s9 u9 l9 := ⟨z_ap hD (i := 5) (j := 6) rfl rfl (by decide), z_ap hD (i := 5) (j := 7) rfl rfl (by decide), z_ap hD (i := 6) (j := 7) rfl rfl (by decide)⟩
    have hap9 : ∀ x, x < s.heap.size → x ∉ [s9, u9, l9] := fun x hx h9 => by
      simp only [List.mem_cons, List.not_mem_nil, or_false] at h9
      have nw1 := nwS; have nw2 := nwU; have nw3 := nwL
      omega
    have hS0 := hS
    refine wv_S (rest := []) (As := [.ref s9, .ref (a 9 i), .ref (a 9 j), .ref (a 9 bn)]) ⟨hx, hb, hml, hown, hts⟩ (c_X3_mergeInto l g s9 u9 l9 0 (fun _ => 0) (fun _ => 0) hd9 (a 9 i) (a 10 i) (a 11 i) (σ 1 i) ui li nui nli ⟨hap9 _ hsi.lt.1, hap9 _ hsi.lt.2.1, hap9 _ hsi.lt.2.2⟩ (a 9 j) (a 10 j) (a 11 j) (σ 1 j) uj lj nuj nlj ⟨hap9 _ hsj.lt.1, hap9 _ hsj.lt.2.1, hap9 _ hsj.lt.2.2⟩ (a 9 bn) (a 10 bn) (a 11 bn) (σ 1 bn) ubn lbn nubn nlbn ⟨hap9 _ hsbn.lt.1, hap9 _ hsbn.lt.2.1, hap9 _ hsbn.lt.2.2⟩ nb hnb hnb12 _) (cwS 4 hts gX3_merge_X3_mergeInto rfl rfl rfl (by decide +kernel) ⟨Nat.le_of_ble_eq_true rfl, Nat.le_of_ble_eq_true rfl⟩) (hP.sub [5, 6, 7] rfl) ⟨hsi.stay hS n9i n10i n11i, hsj.stay hS n9j n10j n11j, hsbn.stay hS n9bn n10bn n11bn⟩ hK rfl hl.1 rfl (Nat.le_of_ble_eq_true rfl) dX3_merge_77 ⟨Nat.le_of_ble_eq_true rfl, Nat.le_of_ble_eq_true rfl⟩ hS (va_free hD hS hA [5, 6, 7] rfl) (fun H1 locs hP1 hz1 hk1 hS => ?_)
    have hD1 : ∀ z9, va_D (va_A [(s9, .inr (1, [.int (zi (0)), .ref u9, .ref l9])), (u9, .inl (g.2.1, 12, .inl (fun j9 => zi ((fun _ => 0) j9)))), (l9, .inl (g.2.1, 12, .inl (fun j9 => zi ((fun _ => 0) j9))))] z9) [(s9, .inr (1, [.int (zi (σ 1 i)), .ref u9, .ref l9])), (u9, .inl (g.2.1, 12, .inl (fun j9 => zi ((mgv (sbB ui li ubn lbn) uj (mx nb ui (fun _ => 0)) nb) j9)))), (l9, .inl (g.2.1, 12, .inl (fun j9 => zi ((mgv (sbB ui li ubn lbn) lj (mx nb li (fun _ => 0)) nb) j9))))] := fun _ => z_D (hD.sub (ws' := [(s9, .inr (1, [.int (zi (0)), .ref u9, .ref l9])), (u9, .inl (g.2.1, 12, .inl (fun j9 => zi ((fun _ => 0) j9)))), (l9, .inl (g.2.1, 12, .inl (fun j9 => zi ((fun _ => 0) j9))))]) [5, 6, 7] (by decide) rfl).self rfl
    obtain ⟨hP, hD⟩ := va_join (wr := [((a 8 i), .inr (2, [.int (zi ((i : Int))), va_rf (paV σ a i), .ref (a 9 i), .int (zi (σ 3 i)), .int (zi (σ 4 i))])), ((a 8 j), .inr (2, [.int (zi ((j : Int))), va_rf (paV σ a j), .ref (a 9 j), .int (zi (σ 3 j)), .int (zi (σ 4 j))])), ((a 1 0), .inr (3, [.ref (a 2 0), .int (zi (((N + 1 : Nat) : Int))), .ref (a 3 0), .int (zi (σ 8 0)), .ref (a 4 0), .int (zi (σ 7 0)), .ref (a 5 0)])), ((a 2 0), .inl (g.2.2.2.1, 30, .inr (.inr (.inr (.inr (va_up (vsF σ a) N (some q53))))))), (q53, .inr (2, [.int (zi ((N : Int))), .ref (a 8 i), .ref s9, .int (zi (0)), .int (zi (0))]))]) (w1 := [(s9, .inr (1, [.int (zi (σ 1 i)), .ref u9, .ref l9])), (u9, .inl (g.2.1, 12, .inl (fun j9 => zi ((mgv (sbB ui li ubn lbn) uj (mx nb ui (fun _ => 0)) nb) j9)))), (l9, .inl (g.2.1, 12, .inl (fun j9 => zi ((mgv (sbB ui li ubn lbn) lj (mx nb li (fun _ => 0)) nb) j9))))]) hP hD [5, 6, 7] [0, 1, 2, 3, 4] rfl rfl (by decide) (by decide) hk1 (va_free hD hS0 hA [5, 6, 7] rfl) hP1 (hD1 _)
    generalize H1 = H at hP hS ⊢
    have hP : va_P g.1 vwCl [((a 8 i), .inr (2, [.int (zi ((i : Int))), va_rf (paV σ a i), .ref (a 9 i), .int (zi (σ 3 i)), .int (zi (σ 4 i))])), ((a 8 j), .inr (2, [.int (zi ((j : Int))), va_rf (paV σ a j), .ref (a 9 j), .int (zi (σ 3 j)), .int (zi (σ 4 j))])), ((a 1 0), .inr (3, [.ref (a 2 0), .int (zi (((N + 1 : Nat) : Int))), .ref (a 3 0), .int (zi (σ 8 0)), .ref (a 4 0), .int (zi (σ 7 0)), .ref (a 5 0)])), ((a 2 0), .inl (g.2.2.2.1, 30, .inr (.inr (.inr (.inr (va_up (vsF σ a) N (some q53))))))), (q53, .inr (2, [.int (zi ((N : Int))), .ref (a 8 i), .ref s9, .int (zi (0)), .int (zi (0))])), (s9, .inr (1, [.int (zi (σ 1 i)), .ref u9, .ref l9])), (u9, .inl (g.2.1, 12, .inl (fun j9 => zi ((mgv (sbB ui li ubn lbn) uj (mx nb ui (fun _ => 0)) nb) j9)))), (l9, .inl (g.2.1, 12, .inl (fun j9 => zi ((mgv (sbB ui li ubn lbn) lj (mx nb li (fun _ => 0)) nb) j9))))] H := hP
    have hD : va_D (va_A [((a 1 0), .inr (3, [.ref (a 2 0), .int (zi (σ 0 0)), .ref (a 3 0), .int (zi (σ 8 0)), .ref (a 4 0), .int (zi (σ 7 0)), .ref (a 5 0)])), ((a 2 0), .inl (g.2.2.2.1, 30, .inr (.inr (.inr (.inr (vsF σ a)))))), ((a 8 i), .inr (2, [.int (zi ((i : Int))), va_rf (paV σ a i), .ref (a 9 i), .int (zi (σ 3 i)), .int (zi (σ 4 i))])), ((a 8 j), .inr (2, [.int (zi ((j : Int))), va_rf (paV σ a j), .ref (a 9 j), .int (zi (σ 3 j)), .int (zi (σ 4 j))]))] s.heap.size) [((a 8 i), .inr (2, [.int (zi ((i : Int))), va_rf (paV σ a i), .ref (a 9 i), .int (zi (σ 3 i)), .int (zi (σ 4 i))])), ((a 8 j), .inr (2, [.int (zi ((j : Int))), va_rf (paV σ a j), .ref (a 9 j), .int (zi (σ 3 j)), .int (zi (σ 4 j))])), ((a 1 0), .inr (3, [.ref (a 2 0), .int (zi (((N + 1 : Nat) : Int))), .ref (a 3 0), .int (zi (σ 8 0)), .ref (a 4 0), .int (zi (σ 7 0)), .ref (a 5 0)])), ((a 2 0), .inl (g.2.2.2.1, 30, .inr (.inr (.inr (.inr (va_up (vsF σ a) N (some q53))))))), (q53, .inr (2, [.int (zi ((N : Int))), .ref (a 8 i), .ref s9, .int (zi (0)), .int (zi (0))])), (s9, .inr (1, [.int (zi (σ 1 i)), .ref u9, .ref l9])), (u9, .inl (g.2.1, 12, .inl (fun j9 => zi ((mgv (sbB ui li ubn lbn) uj (mx nb ui (fun _ => 0)) nb) j9)))), (l9, .inl (g.2.1, 12, .inl (fun j9 => zi ((mgv (sbB ui li ubn lbn) lj (mx nb li (fun _ => 0)) nb) j9))))] := hD
    refine lv_aload_n hx hb dX3_merge_80 rfl (lv_at hl 3 rfl) ?_
    refine z_iconst hx hb dX3_merge_81 ?_
    refine z_putN (v := .int (zi (1))) (C := RX2) (T := TX2) (N := 5) (ref := "HarmoniumDesk$Version") (host := RX3) hx hb hts hiX2 tyX2 tyX2_ok nmX2 hown hK hP hD hS 0 rfl rfl 3 (by decide) (by decide +kernel) rfl rfl rfl rfl (Nat.le_of_ble_eq_true rfl) dX3_merge_82 (fun H locs hP hD hS => ?_)
    have hP : va_P g.1 vwCl [((a 8 i), .inr (2, [.int (zi ((i : Int))), va_rf (paV σ a i), .ref (a 9 i), .int (zi (1)), .int (zi (σ 4 i))])), ((a 8 j), .inr (2, [.int (zi ((j : Int))), va_rf (paV σ a j), .ref (a 9 j), .int (zi (σ 3 j)), .int (zi (σ 4 j))])), ((a 1 0), .inr (3, [.ref (a 2 0), .int (zi (((N + 1 : Nat) : Int))), .ref (a 3 0), .int (zi (σ 8 0)), .ref (a 4 0), .int (zi (σ 7 0)), .ref (a 5 0)])), ((a 2 0), .inl (g.2.2.2.1, 30, .inr (.inr (.inr (.inr (va_up (vsF σ a) N (some q53))))))), (q53, .inr (2, [.int (zi ((N : Int))), .ref (a 8 i), .ref s9, .int (zi (0)), .int (zi (0))])), (s9, .inr (1, [.int (zi (σ 1 i)), .ref u9, .ref l9])), (u9, .inl (g.2.1, 12, .inl (fun j9 => zi ((mgv (sbB ui li ubn lbn) uj (mx nb ui (fun _ => 0)) nb) j9)))), (l9, .inl (g.2.1, 12, .inl (fun j9 => zi ((mgv (sbB ui li ubn lbn) lj (mx nb li (fun _ => 0)) nb) j9))))] H := hP
    have hD : va_D (va_A [((a 1 0), .inr (3, [.ref (a 2 0), .int (zi (σ 0 0)), .ref (a 3 0), .int (zi (σ 8 0)), .ref (a 4 0), .int (zi (σ 7 0)), .ref (a 5 0)])), ((a 2 0), .inl (g.2.2.2.1, 30, .inr (.inr (.inr (.inr (vsF σ a)))))), ((a 8 i), .inr (2, [.int (zi ((i : Int))), va_rf (paV σ a i), .ref (a 9 i), .int (zi (σ 3 i)), .int (zi (σ 4 i))])), ((a 8 j), .inr (2, [.int (zi ((j : Int))), va_rf (paV σ a j), .ref (a 9 j), .int (zi (σ 3 j)), .int (zi (σ 4 j))]))] s.heap.size) [((a 8 i), .inr (2, [.int (zi ((i : Int))), va_rf (paV σ a i), .ref (a 9 i), .int (zi (1)), .int (zi (σ 4 i))])), ((a 8 j), .inr (2, [.int (zi ((j : Int))), va_rf (paV σ a j), .ref (a 9 j), .int (zi (σ 3 j)), .int (zi (σ 4 j))])), ((a 1 0), .inr (3, [.ref (a 2 0), .int (zi (((N + 1 : Nat) : Int))), .ref (a 3 0), .int (zi (σ 8 0)), .ref (a 4 0), .int (zi (σ 7 0)), .ref (a 5 0)])), ((a 2 0), .inl (g.2.2.2.1, 30, .inr (.inr (.inr (.inr (va_up (vsF σ a) N (some q53))))))), (q53, .inr (2, [.int (zi ((N : Int))), .ref (a 8 i), .ref s9, .int (zi (0)), .int (zi (0))])), (s9, .inr (1, [.int (zi (σ 1 i)), .ref u9, .ref l9])), (u9, .inl (g.2.1, 12, .inl (fun j9 => zi ((mgv (sbB ui li ubn lbn) uj (mx nb ui (fun _ => 0)) nb) j9)))), (l9, .inl (g.2.1, 12, .inl (fun j9 => zi ((mgv (sbB ui li ubn lbn) lj (mx nb li (fun _ => 0)) nb) j9))))] := hD
    refine lv_aload hx hb dX3_merge_85 (lv_at hl 2 rfl) ?_
    refine z_iconst hx hb dX3_merge_87 ?_
    refine z_putN (v := .int (zi (1))) (C := RX2) (T := TX2) (N := 5) (ref := "HarmoniumDesk$Version") (host := RX3) hx hb hts hiX2 tyX2 tyX2_ok nmX2 hown hK hP hD hS 1 rfl rfl 3 (by decide) (by decide +kernel) rfl rfl rfl rfl (Nat.le_of_ble_eq_true rfl) dX3_merge_88 (fun H locs hP hD hS => ?_)
    have hP : va_P g.1 vwCl [((a 8 i), .inr (2, [.int (zi ((i : Int))), va_rf (paV σ a i), .ref (a 9 i), .int (zi (1)), .int (zi (σ 4 i))])), ((a 8 j), .inr (2, [.int (zi ((j : Int))), va_rf (paV σ a j), .ref (a 9 j), .int (zi (1)), .int (zi (σ 4 j))])), ((a 1 0), .inr (3, [.ref (a 2 0), .int (zi (((N + 1 : Nat) : Int))), .ref (a 3 0), .int (zi (σ 8 0)), .ref (a 4 0), .int (zi (σ 7 0)), .ref (a 5 0)])), ((a 2 0), .inl (g.2.2.2.1, 30, .inr (.inr (.inr (.inr (va_up (vsF σ a) N (some q53))))))), (q53, .inr (2, [.int (zi ((N : Int))), .ref (a 8 i), .ref s9, .int (zi (0)), .int (zi (0))])), (s9, .inr (1, [.int (zi (σ 1 i)), .ref u9, .ref l9])), (u9, .inl (g.2.1, 12, .inl (fun j9 => zi ((mgv (sbB ui li ubn lbn) uj (mx nb ui (fun _ => 0)) nb) j9)))), (l9, .inl (g.2.1, 12, .inl (fun j9 => zi ((mgv (sbB ui li ubn lbn) lj (mx nb li (fun _ => 0)) nb) j9))))] H := hP
    have hD : va_D (va_A [((a 1 0), .inr (3, [.ref (a 2 0), .int (zi (σ 0 0)), .ref (a 3 0), .int (zi (σ 8 0)), .ref (a 4 0), .int (zi (σ 7 0)), .ref (a 5 0)])), ((a 2 0), .inl (g.2.2.2.1, 30, .inr (.inr (.inr (.inr (vsF σ a)))))), ((a 8 i), .inr (2, [.int (zi ((i : Int))), va_rf (paV σ a i), .ref (a 9 i), .int (zi (σ 3 i)), .int (zi (σ 4 i))])), ((a 8 j), .inr (2, [.int (zi ((j : Int))), va_rf (paV σ a j), .ref (a 9 j), .int (zi (σ 3 j)), .int (zi (σ 4 j))]))] s.heap.size) [((a 8 i), .inr (2, [.int (zi ((i : Int))), va_rf (paV σ a i), .ref (a 9 i), .int (zi (1)), .int (zi (σ 4 i))])), ((a 8 j), .inr (2, [.int (zi ((j : Int))), va_rf (paV σ a j), .ref (a 9 j), .int (zi (1)), .int (zi (σ 4 j))])), ((a 1 0), .inr (3, [.ref (a 2 0), .int (zi (((N + 1 : Nat) : Int))), .ref (a 3 0), .int (zi (σ 8 0)), .ref (a 4 0), .int (zi (σ 7 0)), .ref (a 5 0)])), ((a 2 0), .inl (g.2.2.2.1, 30, .inr (.inr (.inr (.inr (va_up (vsF σ a) N (some q53))))))), (q53, .inr (2, [.int (zi ((N : Int))), .ref (a 8 i), .ref s9, .int (zi (0)), .int (zi (0))])), (s9, .inr (1, [.int (zi (σ 1 i)), .ref u9, .ref l9])), (u9, .inl (g.2.1, 12, .inl (fun j9 => zi ((mgv (sbB ui li ubn lbn) uj (mx nb ui (fun _ => 0)) nb) j9)))), (l9, .inl (g.2.1, 12, .inl (fun j9 => zi ((mgv (sbB ui li ubn lbn) lj (mx nb li (fun _ => 0)) nb) j9))))] := hD
    refine lv_aload hx hb dX3_merge_91 (lv_at hl 0 rfl) ?_
    refine z_getN (C := RX2) (T := TX2) (N := 5) (ref := "HarmoniumDesk$Version") (host := RX3) hx hb hts hiX2 hown hK (hP 4 _ rfl) rfl 0 (by decide) (by decide +kernel) rfl rfl dX3_merge_93 ?_
    have nw0 : s.heap.size ≤ q53 := z_new hD (i := 4) rfl (fun h9 => by
      simp only [List.map, List.mem_cons, List.not_mem_nil, or_false] at h9
      rcases h9 with h9 | h9 | h9 | h9
      · exact z_ap hD (i := 4) (j := 2) rfl rfl (by decide) h9
      · exact z_ap hD (i := 4) (j := 3) rfl rfl (by decide) h9
      · exact z_ap hD (i := 4) (j := 0) rfl rfl (by decide) h9
      · exact z_ap hD (i := 4) (j := 1) rfl rfl (by decide) h9)
    have nw1 : s.heap.size ≤ s9 := z_new hD (i := 5) rfl (fun h9 => by
      simp only [List.map, List.mem_cons, List.not_mem_nil, or_false] at h9
      rcases h9 with h9 | h9 | h9 | h9
      · exact z_ap hD (i := 5) (j := 2) rfl rfl (by decide) h9
      · exact z_ap hD (i := 5) (j := 3) rfl rfl (by decide) h9
      · exact z_ap hD (i := 5) (j := 0) rfl rfl (by decide) h9
      · exact z_ap hD (i := 5) (j := 1) rfl rfl (by decide) h9)
    have nw2 : s.heap.size ≤ u9 := z_new hD (i := 6) rfl (fun h9 => by
      simp only [List.map, List.mem_cons, List.not_mem_nil, or_false] at h9
      rcases h9 with h9 | h9 | h9 | h9
      · exact z_ap hD (i := 6) (j := 2) rfl rfl (by decide) h9
      · exact z_ap hD (i := 6) (j := 3) rfl rfl (by decide) h9
      · exact z_ap hD (i := 6) (j := 0) rfl rfl (by decide) h9
      · exact z_ap hD (i := 6) (j := 1) rfl rfl (by decide) h9)
    have nw3 : s.heap.size ≤ l9 := z_new hD (i := 7) rfl (fun h9 => by
      simp only [List.map, List.mem_cons, List.not_mem_nil, or_false] at h9
      rcases h9 with h9 | h9 | h9 | h9
      · exact z_ap hD (i := 7) (j := 2) rfl rfl (by decide) h9
      · exact z_ap hD (i := 7) (j := 3) rfl rfl (by decide) h9
      · exact z_ap hD (i := 7) (j := 0) rfl rfl (by decide) h9
      · exact z_ap hD (i := 7) (j := 1) rfl rfl (by decide) h9)
    have nx01 : q53 ≠ s9 := z_ap hD (i := 4) (j := 5) rfl rfl (by decide)
    have nx02 : q53 ≠ u9 := z_ap hD (i := 4) (j := 6) rfl rfl (by decide)
    have nx03 : q53 ≠ l9 := z_ap hD (i := 4) (j := 7) rfl rfl (by decide)
    have nx12 : s9 ≠ u9 := z_ap hD (i := 5) (j := 6) rfl rfl (by decide)
    have nx13 : s9 ≠ l9 := z_ap hD (i := 5) (j := 7) rfl rfl (by decide)
    have nx23 : u9 ≠ l9 := z_ap hD (i := 6) (j := 7) rfl rfl (by decide)
    have hnd : [q53, s9, u9, l9].Nodup := by simp [nx01, nx02, nx03, nx12, nx13, nx23]
    have hB := DI.merge (bn := bn) hI hW hN (by omega) (by omega) hS hnb (by omega) (by omega) hnb12 ⟨nw0, nw1, nw2, nw3⟩ hnd (hP 2 _ rfl) (hP 3 _ rfl) (hP 0 _ rfl) (hP 1 _ rfl) (hP 4 _ rfl) ⟨hP 5 _ rfl, hP 6 _ rfl, hP 7 _ rfl⟩ rfl rfl nui nli nuj nlj eqi eqj eqbn
    exact z_dwret (adV a N q53 s9 u9 l9) hx hb hr hlk dX3_merge_96 (rfl) (hB.1) (hB.2) hfA hS
  · exfalso; omega
