set_option maxHeartbeats 4000000 in
set_option maxRecDepth 100000 in
theorem c_X3_best_0 (l : Launch) (g : gG) (σ : SG) (a : AD) (hW : WF σ) (k : Nat) (hk : (k : Int) < σ 0 0) (zk : Int) (hzk : zk = (k : Int)) (v : Nat) (hv1 : v ≤ 1) (zv : Int) (hzv : zv = (v : Int)) (b : Nat) (hbb : (b : Int) < σ 1 k) (zb : Int) (hzb : zb = (b : Int))  (sz : Nat) : DW l yX3_best wsX3_best ({ frames := 6, cells := 0, slots := 0, locals := 143 }) g [.int (zi (zk)), .int (zi (zv)), .int (zi (zb))] sz σ a (σ) (((bst (cst σ k v b) 40 : Nat) : Int)) 0 0 := by
  refine ZM.ofW (cc := cX3_best) (maxL := 5) (ret := (some .int)) (by decide) rfl (Nat.le_of_ble_eq_true rfl) ?_
  intro p e s m below meth c ls hx hb hr hml hown hts hlk hP hK hl hin
  obtain ⟨rfl, hI⟩ := hP
  have hn := hW.n
  have hbk := hW.bars hk
  obtain ⟨uk, lk, hsk, nuk, nlk, eqk⟩ := (hI.vk hk).2
  obtain ⟨tn, tu, tl, hst, ntu, ntl⟩ := hI.tr
  obtain ⟨nb, hnb⟩ : ∃ nb : Nat, σ 1 k = (nb : Int) := ⟨(σ 1 k).toNat, by omega⟩
  have hnb12 : nb ≤ 12 := by omega
  obtain ⟨mm, hmm⟩ : ∃ mm : Nat, (b + 3 ≤ nb ∧ mm = 3) ∨ (nb < b + 3 ∧ b + mm = nb) := by
    by_cases h : b + 3 ≤ nb
    · exact ⟨3, Or.inl ⟨h, rfl⟩⟩
    · exact ⟨nb - b, Or.inr ⟨by omega, by omega⟩⟩
  have nd01 : (a 5 0) ≠ (a 6 0) := dNe hI.inj (dOk_0 σ (i := 5) (by omega)) (dOk_0 σ (i := 6) (by omega)) (by omega)
  have nd02 : (a 5 0) ≠ (a 7 0) := dNe hI.inj (dOk_0 σ (i := 5) (by omega)) (dOk_0 σ (i := 7) (by omega)) (by omega)
  have nd12 : (a 6 0) ≠ (a 7 0) := dNe hI.inj (dOk_0 σ (i := 6) (by omega)) (dOk_0 σ (i := 7) (by omega)) (by omega)
  have hP := hst.W
  have hP : va_P g.1 vwCl [((a 5 0), .inr (1, [.int (zi (tn)), .ref (a 6 0), .ref (a 7 0)])), ((a 6 0), .inl (g.2.1, 12, .inl (fun j9 => zi ((tu) j9)))), ((a 7 0), .inl (g.2.1, 12, .inl (fun j9 => zi ((tl) j9))))] s.heap := hP
  have hD : va_D (va_A [((a 5 0), .inr (1, [.int (zi (tn)), .ref (a 6 0), .ref (a 7 0)])), ((a 6 0), .inl (g.2.1, 12, .inl (fun j9 => zi ((tu) j9)))), ((a 7 0), .inl (g.2.1, 12, .inl (fun j9 => zi ((tl) j9))))] s.heap.size) [((a 5 0), .inr (1, [.int (zi (tn)), .ref (a 6 0), .ref (a 7 0)])), ((a 6 0), .inl (g.2.1, 12, .inl (fun j9 => zi ((tu) j9)))), ((a 7 0), .inl (g.2.1, 12, .inl (fun j9 => zi ((tl) j9))))] := z_Dn (by simp [nd01, nd02, nd12])
  have hS : va_S (va_A [((a 5 0), .inr (1, [.int (zi (tn)), .ref (a 6 0), .ref (a 7 0)])), ((a 6 0), .inl (g.2.1, 12, .inl (fun j9 => zi ((tu) j9)))), ((a 7 0), .inl (g.2.1, 12, .inl (fun j9 => zi ((tl) j9))))] s.heap.size) s.heap s.heap [] := va_S.rf
  have hA : ∀ x9 : Nat, s.heap.size ≤ x9 → (va_A [((a 5 0), .inr (1, [.int (zi (tn)), .ref (a 6 0), .ref (a 7 0)])), ((a 6 0), .inl (g.2.1, 12, .inl (fun j9 => zi ((tu) j9)))), ((a 7 0), .inl (g.2.1, 12, .inl (fun j9 => zi ((tl) j9))))] s.heap.size) x9 := fun _ h => Or.inr h
  have hown : s.vm.findClass RX3 = some m.cls := hown
  have hl : lv_has ls 5 [(0, .ref (a 1 0)), (1, .int (zi (zk))), (2, .int (zi (zv))), (3, .int (zi (zb)))] := hl
  have hiX2 : ∀ w ∈ u_ws RX2 TX2 5, w ∈ wsX3_best := by decide +kernel
  have hiX3 : ∀ w ∈ u_ws RX3 TX3 7, w ∈ wsX3_best := by decide +kernel
  have hfA : ∀ x9, va_A [((a 5 0), .inr (1, [.int (zi (tn)), .ref (a 6 0), .ref (a 7 0)])), ((a 6 0), .inl (g.2.1, 12, .inl (fun j9 => zi ((tu) j9)))), ((a 7 0), .inl (g.2.1, 12, .inl (fun j9 => zi ((tl) j9))))] s.heap.size x9 → dA σ a s.heap.size x9 := dA_of (fun x9 h9 => by
    simp only [List.map, List.mem_cons, List.not_mem_nil, or_false] at h9
    rcases h9 with rfl | rfl | rfl
    · exact ⟨5, 0, (dOk_0 σ (i := 5) (by omega)), rfl⟩
    · exact ⟨6, 0, (dOk_0 σ (i := 6) (by omega)), rfl⟩
    · exact ⟨7, 0, (dOk_0 σ (i := 7) (by omega)), rfl⟩)
  have n8 : ¬ (va_A [((a 5 0), .inr (1, [.int (zi (tn)), .ref (a 6 0), .ref (a 7 0)])), ((a 6 0), .inl (g.2.1, 12, .inl (fun j9 => zi ((tu) j9)))), ((a 7 0), .inl (g.2.1, 12, .inl (fun j9 => zi ((tl) j9))))] s.heap.size) (a 8 k) := z_nA (hI.lt (dOk_v (i := 8) (by omega) hk)) (fun h9 => by
    simp only [List.map, List.mem_cons, List.not_mem_nil, or_false] at h9
    rcases h9 with h9 | h9 | h9
    · exact dNe hI.inj (dOk_v (i := 8) (by omega) hk) (dOk_0 σ (i := 5) (by omega)) (by omega) h9
    · exact dNe hI.inj (dOk_v (i := 8) (by omega) hk) (dOk_0 σ (i := 6) (by omega)) (by omega) h9
    · exact dNe hI.inj (dOk_v (i := 8) (by omega) hk) (dOk_0 σ (i := 7) (by omega)) (by omega) h9)
  have nD : ¬ (va_A [((a 5 0), .inr (1, [.int (zi (tn)), .ref (a 6 0), .ref (a 7 0)])), ((a 6 0), .inl (g.2.1, 12, .inl (fun j9 => zi ((tu) j9)))), ((a 7 0), .inl (g.2.1, 12, .inl (fun j9 => zi ((tl) j9))))] s.heap.size) (a 1 0) := z_nA (hI.lt (dOk_0 σ (i := 1) (by omega))) (fun h9 => by
    simp only [List.map, List.mem_cons, List.not_mem_nil, or_false] at h9
    rcases h9 with h9 | h9 | h9
    · exact dNe hI.inj (dOk_0 σ (i := 1) (by omega)) (dOk_0 σ (i := 5) (by omega)) (by omega) h9
    · exact dNe hI.inj (dOk_0 σ (i := 1) (by omega)) (dOk_0 σ (i := 6) (by omega)) (by omega) h9
    · exact dNe hI.inj (dOk_0 σ (i := 1) (by omega)) (dOk_0 σ (i := 7) (by omega)) (by omega) h9)
  have nW : ¬ (va_A [((a 5 0), .inr (1, [.int (zi (tn)), .ref (a 6 0), .ref (a 7 0)])), ((a 6 0), .inl (g.2.1, 12, .inl (fun j9 => zi ((tu) j9)))), ((a 7 0), .inl (g.2.1, 12, .inl (fun j9 => zi ((tl) j9))))] s.heap.size) (a 4 0) := z_nA (hI.lt (dOk_0 σ (i := 4) (by omega))) (fun h9 => by
    simp only [List.map, List.mem_cons, List.not_mem_nil, or_false] at h9
    rcases h9 with h9 | h9 | h9
    · exact dNe hI.inj (dOk_0 σ (i := 4) (by omega)) (dOk_0 σ (i := 5) (by omega)) (by omega) h9
    · exact dNe hI.inj (dOk_0 σ (i := 4) (by omega)) (dOk_0 σ (i := 6) (by omega)) (by omega) h9
    · exact dNe hI.inj (dOk_0 σ (i := 4) (by omega)) (dOk_0 σ (i := 7) (by omega)) (by omega) h9)
  have n9 : ¬ (va_A [((a 5 0), .inr (1, [.int (zi (tn)), .ref (a 6 0), .ref (a 7 0)])), ((a 6 0), .inl (g.2.1, 12, .inl (fun j9 => zi ((tu) j9)))), ((a 7 0), .inl (g.2.1, 12, .inl (fun j9 => zi ((tl) j9))))] s.heap.size) (a 9 k) := z_nA (hI.lt (dOk_v (i := 9) (by omega) hk)) (fun h9 => by
    simp only [List.map, List.mem_cons, List.not_mem_nil, or_false] at h9
    rcases h9 with h9 | h9 | h9
    · exact dNe hI.inj (dOk_v (i := 9) (by omega) hk) (dOk_0 σ (i := 5) (by omega)) (by omega) h9
    · exact dNe hI.inj (dOk_v (i := 9) (by omega) hk) (dOk_0 σ (i := 6) (by omega)) (by omega) h9
    · exact dNe hI.inj (dOk_v (i := 9) (by omega) hk) (dOk_0 σ (i := 7) (by omega)) (by omega) h9)
  have hp9 : (a 9 k) ∉ [a 5 0, a 6 0, a 7 0] := fun h9 => by
    simp only [List.mem_cons, List.not_mem_nil, or_false] at h9
    rcases h9 with h9 | h9 | h9
    · exact dNe hI.inj (dOk_v (i := 9) (by omega) hk) (dOk_0 σ (i := 5) (by omega)) (by omega) h9
    · exact dNe hI.inj (dOk_v (i := 9) (by omega) hk) (dOk_0 σ (i := 6) (by omega)) (by omega) h9
    · exact dNe hI.inj (dOk_v (i := 9) (by omega) hk) (dOk_0 σ (i := 7) (by omega)) (by omega) h9
  have n10 : ¬ (va_A [((a 5 0), .inr (1, [.int (zi (tn)), .ref (a 6 0), .ref (a 7 0)])), ((a 6 0), .inl (g.2.1, 12, .inl (fun j9 => zi ((tu) j9)))), ((a 7 0), .inl (g.2.1, 12, .inl (fun j9 => zi ((tl) j9))))] s.heap.size) (a 10 k) := z_nA (hI.lt (dOk_v (i := 10) (by omega) hk)) (fun h9 => by
    simp only [List.map, List.mem_cons, List.not_mem_nil, or_false] at h9
    rcases h9 with h9 | h9 | h9
    · exact dNe hI.inj (dOk_v (i := 10) (by omega) hk) (dOk_0 σ (i := 5) (by omega)) (by omega) h9
    · exact dNe hI.inj (dOk_v (i := 10) (by omega) hk) (dOk_0 σ (i := 6) (by omega)) (by omega) h9
    · exact dNe hI.inj (dOk_v (i := 10) (by omega) hk) (dOk_0 σ (i := 7) (by omega)) (by omega) h9)
  have hp10 : (a 10 k) ∉ [a 5 0, a 6 0, a 7 0] := fun h9 => by
    simp only [List.mem_cons, List.not_mem_nil, or_false] at h9
    rcases h9 with h9 | h9 | h9
    · exact dNe hI.inj (dOk_v (i := 10) (by omega) hk) (dOk_0 σ (i := 5) (by omega)) (by omega) h9
    · exact dNe hI.inj (dOk_v (i := 10) (by omega) hk) (dOk_0 σ (i := 6) (by omega)) (by omega) h9
    · exact dNe hI.inj (dOk_v (i := 10) (by omega) hk) (dOk_0 σ (i := 7) (by omega)) (by omega) h9
  have n11 : ¬ (va_A [((a 5 0), .inr (1, [.int (zi (tn)), .ref (a 6 0), .ref (a 7 0)])), ((a 6 0), .inl (g.2.1, 12, .inl (fun j9 => zi ((tu) j9)))), ((a 7 0), .inl (g.2.1, 12, .inl (fun j9 => zi ((tl) j9))))] s.heap.size) (a 11 k) := z_nA (hI.lt (dOk_v (i := 11) (by omega) hk)) (fun h9 => by
    simp only [List.map, List.mem_cons, List.not_mem_nil, or_false] at h9
    rcases h9 with h9 | h9 | h9
    · exact dNe hI.inj (dOk_v (i := 11) (by omega) hk) (dOk_0 σ (i := 5) (by omega)) (by omega) h9
    · exact dNe hI.inj (dOk_v (i := 11) (by omega) hk) (dOk_0 σ (i := 6) (by omega)) (by omega) h9
    · exact dNe hI.inj (dOk_v (i := 11) (by omega) hk) (dOk_0 σ (i := 7) (by omega)) (by omega) h9)
  have hp11 : (a 11 k) ∉ [a 5 0, a 6 0, a 7 0] := fun h9 => by
    simp only [List.mem_cons, List.not_mem_nil, or_false] at h9
    rcases h9 with h9 | h9 | h9
    · exact dNe hI.inj (dOk_v (i := 11) (by omega) hk) (dOk_0 σ (i := 5) (by omega)) (by omega) h9
    · exact dNe hI.inj (dOk_v (i := 11) (by omega) hk) (dOk_0 σ (i := 6) (by omega)) (by omega) h9
    · exact dNe hI.inj (dOk_v (i := 11) (by omega) hk) (dOk_0 σ (i := 7) (by omega)) (by omega) h9
  have hpD : (a 1 0) ∉ [a 5 0, a 6 0, a 7 0] := fun h9 => by
    simp only [List.mem_cons, List.not_mem_nil, or_false] at h9
    rcases h9 with h9 | h9 | h9
    · exact dNe hI.inj (dOk_0 σ (i := 1) (by omega)) (dOk_0 σ (i := 5) (by omega)) (by omega) h9
    · exact dNe hI.inj (dOk_0 σ (i := 1) (by omega)) (dOk_0 σ (i := 6) (by omega)) (by omega) h9
    · exact dNe hI.inj (dOk_0 σ (i := 1) (by omega)) (dOk_0 σ (i := 7) (by omega)) (by omega) h9
  have hpW : (a 4 0) ∉ [a 5 0, a 6 0, a 7 0] := fun h9 => by
    simp only [List.mem_cons, List.not_mem_nil, or_false] at h9
    rcases h9 with h9 | h9 | h9
    · exact dNe hI.inj (dOk_0 σ (i := 4) (by omega)) (dOk_0 σ (i := 5) (by omega)) (by omega) h9
    · exact dNe hI.inj (dOk_0 σ (i := 4) (by omega)) (dOk_0 σ (i := 6) (by omega)) (by omega) h9
    · exact dNe hI.inj (dOk_0 σ (i := 4) (by omega)) (dOk_0 σ (i := 7) (by omega)) (by omega) h9
  refine lv_aload_n hx hb dX3_best_0 rfl (lv_at hl 0 rfl) ?_
  refine lv_iload_n hx hb dX3_best_1 rfl (lv_at hl 1 rfl) ?_
  refine rq_V (rest := []) (As := [.int (zi (zk))]) ⟨hx, hb, hml, hown, hts⟩ (c_X3_findVersion l g σ a hW k hk (zk) (by omega)) (cwV 1 hts gX3_best_X3_findVersion rfl rfl rfl (by decide +kernel) ⟨Nat.le_of_ble_eq_true rfl, Nat.le_of_ble_eq_true rfl⟩) (z_recv hK (z_stay hI.ob hS nD) rfl) hI hK rfl hl.1 rfl (Nat.le_of_ble_eq_true rfl) dX3_best_2 ⟨Nat.le_of_ble_eq_true rfl, Nat.le_of_ble_eq_true rfl⟩ ?_
  refine lv_astore (lv' := [(4, .ref (a 8 k)), (0, .ref (a 1 0)), (1, .int (zi (zk))), (2, .int (zi (zv))), (3, .int (zi (zb)))]) hx hb dX3_best_5 hl (by decide) rfl (fun ls hl => ?_)
  refine lv_iload_n hx hb dX3_best_7 rfl (lv_at hl 3 rfl) ?_
  refine rv_S (rest := []) (As := [.int (zi (zv))]) ⟨hx, hb, hml, hown, hts⟩ (c_X3_checkVoice l g (zv) (by omega)) (cwS 1 hts gX3_best_X3_checkVoice rfl rfl rfl (by decide +kernel) ⟨Nat.le_of_ble_eq_true rfl, Nat.le_of_ble_eq_true rfl⟩) trivial hK rfl hl.1 rfl (Nat.le_of_ble_eq_true rfl) dX3_best_8 ⟨Nat.le_of_ble_eq_true rfl, Nat.le_of_ble_eq_true rfl⟩ ?_
  refine lv_aload hx hb dX3_best_11 (lv_at hl 0 rfl) ?_
  refine lv_iload_n hx hb dX3_best_13 rfl (lv_at hl 4 rfl) ?_
  refine rv_S (rest := []) (As := [.ref (a 8 k), .int (zi (zb))]) ⟨hx, hb, hml, hown, hts⟩ (c_X3_checkBar l g σ a hW k hk b hbb (zb) (by omega)) (cwS 2 hts gX3_best_X3_checkBar rfl rfl rfl (by decide +kernel) ⟨Nat.le_of_ble_eq_true rfl, Nat.le_of_ble_eq_true rfl⟩) hI hK rfl hl.1 rfl (Nat.le_of_ble_eq_true rfl) dX3_best_14 ⟨Nat.le_of_ble_eq_true rfl, Nat.le_of_ble_eq_true rfl⟩ ?_
  refine lv_aload_n hx hb dX3_best_17 rfl (lv_at hl 1 rfl) ?_
  refine z_get (C := RX3) (T := TX3) (N := 7) hx hb hts hiX3 hown hK (z_stay hI.ob hS nD) rfl 6 (by decide) (hts (.fieldLink RX3 38 "HarmoniumDesk" "trial" "LHarmoniumDesk$Score;") (by decide +kernel)) rfl rfl dX3_best_18 ?_
  refine lv_aload hx hb dX3_best_21 (lv_at hl 0 rfl) ?_
  refine z_getN (C := RX2) (T := TX2) (N := 5) (ref := "HarmoniumDesk$Version") (host := RX3) hx hb hts hiX2 hown hK (z_stay (hI.vk hk).1 hS n8) rfl 2 (by decide) (by decide +kernel) rfl rfl dX3_best_23 ?_
  have hS0 := hS
  refine wv_V (rest := []) (As := [.ref (a 9 k)]) ⟨hx, hb, hml, hown, hts⟩ (c_X1_takeAll l g (a 5 0) (a 6 0) (a 7 0) tn tu tl ⟨nd01, nd02, nd12⟩ (a 9 k) (a 10 k) (a 11 k) (σ 1 k) uk lk nuk nlk ⟨hp9, hp10, hp11⟩ nb hnb hnb12 _) (cwV 1 hts gX3_best_X1_takeAll rfl rfl rfl (by decide +kernel) ⟨Nat.le_of_ble_eq_true rfl, Nat.le_of_ble_eq_true rfl⟩) (z_recv hK (hP 0 _ rfl) rfl) (hP.sub [0, 1, 2] rfl) (hsk.stay hS n9 n10 n11) hK rfl hl.1 rfl (Nat.le_of_ble_eq_true rfl) dX3_best_26 ⟨Nat.le_of_ble_eq_true rfl, Nat.le_of_ble_eq_true rfl⟩ hS (va_free hD hS hA [0, 1, 2] rfl) (fun H1 locs hP1 hz1 hk1 hS => ?_)
  have hD1 : ∀ z9, va_D (va_A [((a 5 0), .inr (1, [.int (zi (tn)), .ref (a 6 0), .ref (a 7 0)])), ((a 6 0), .inl (g.2.1, 12, .inl (fun j9 => zi ((tu) j9)))), ((a 7 0), .inl (g.2.1, 12, .inl (fun j9 => zi ((tl) j9))))] z9) [((a 5 0), .inr (1, [.int (zi (σ 1 k)), .ref (a 6 0), .ref (a 7 0)])), ((a 6 0), .inl (g.2.1, 12, .inl (fun j9 => zi ((mx nb uk tu) j9)))), ((a 7 0), .inl (g.2.1, 12, .inl (fun j9 => zi ((mx nb lk tl) j9))))] := fun _ => z_D (hD.sub (ws' := [((a 5 0), .inr (1, [.int (zi (tn)), .ref (a 6 0), .ref (a 7 0)])), ((a 6 0), .inl (g.2.1, 12, .inl (fun j9 => zi ((tu) j9)))), ((a 7 0), .inl (g.2.1, 12, .inl (fun j9 => zi ((tl) j9))))]) [0, 1, 2] (by decide) rfl).self rfl
  obtain ⟨hP, hD⟩ := va_join (wr := []) (w1 := [((a 5 0), .inr (1, [.int (zi (σ 1 k)), .ref (a 6 0), .ref (a 7 0)])), ((a 6 0), .inl (g.2.1, 12, .inl (fun j9 => zi ((mx nb uk tu) j9)))), ((a 7 0), .inl (g.2.1, 12, .inl (fun j9 => zi ((mx nb lk tl) j9))))]) hP hD [0, 1, 2] [] rfl rfl (by decide) (by decide) hk1 (va_free hD hS0 hA [0, 1, 2] rfl) hP1 (hD1 _)
  generalize H1 = H at hP hS ⊢
  have hP : va_P g.1 vwCl [((a 5 0), .inr (1, [.int (zi (σ 1 k)), .ref (a 6 0), .ref (a 7 0)])), ((a 6 0), .inl (g.2.1, 12, .inl (fun j9 => zi ((mx nb uk tu) j9)))), ((a 7 0), .inl (g.2.1, 12, .inl (fun j9 => zi ((mx nb lk tl) j9))))] H := hP
  have hD : va_D (va_A [((a 5 0), .inr (1, [.int (zi (tn)), .ref (a 6 0), .ref (a 7 0)])), ((a 6 0), .inl (g.2.1, 12, .inl (fun j9 => zi ((tu) j9)))), ((a 7 0), .inl (g.2.1, 12, .inl (fun j9 => zi ((tl) j9))))] s.heap.size) [((a 5 0), .inr (1, [.int (zi (σ 1 k)), .ref (a 6 0), .ref (a 7 0)])), ((a 6 0), .inl (g.2.1, 12, .inl (fun j9 => zi ((mx nb uk tu) j9)))), ((a 7 0), .inl (g.2.1, 12, .inl (fun j9 => zi ((mx nb lk tl) j9))))] := hD
  refine lv_aload_n hx hb dX3_best_29 rfl (lv_at hl 1 rfl) ?_
  refine lv_iload_n hx hb dX3_best_30 rfl (lv_at hl 3 rfl) ?_
  refine lv_iload_n hx hb dX3_best_31 rfl (lv_at hl 4 rfl) ?_
  have hS0 := hS
  refine wni_V (rest := []) (As := [.int (zi (zv)), .int (zi (zb))]) ⟨hx, hb, hml, hown, hts⟩ (c_X3_bestTone l g σ a (σ 1 k) (mx nb uk tu) (mx nb lk tl) ⟨nd01, nd02, nd12⟩ hpD hpW hW.wt (nuk.mx ntu _) (nlk.mx ntl _) (zv) (by omega) nb hnb hnb12 b (by omega) (zb) (by omega) mm hmm _) (cwV 2 hts gX3_best_X3_bestTone rfl rfl rfl (by decide +kernel) ⟨Nat.le_of_ble_eq_true rfl, Nat.le_of_ble_eq_true rfl⟩) (z_recv hK (z_stay hI.ob hS nD) rfl) (hP.sub [0, 1, 2] rfl) ⟨z_stay hI.ob hS nD, z_stay hI.wt hS nW⟩ hK rfl hl.1 rfl (Nat.le_of_ble_eq_true rfl) dX3_best_32 ⟨Nat.le_of_ble_eq_true rfl, Nat.le_of_ble_eq_true rfl⟩ hS (va_free hD hS hA [0, 1, 2] rfl) (fun u32 H1 locs hP1 hD1 hz1 hk1 hS => ?_)
  obtain ⟨hP, hD⟩ := va_join (wr := []) (w1 := [((a 5 0), .inr (1, [.int (zi (σ 1 k)), .ref (a 6 0), .ref (a 7 0)])), ((a 6 0), .inl (g.2.1, 12, .inl (fun j9 => zi ((tuS zv b (mx nb uk tu) (41)) j9)))), ((a 7 0), .inl (g.2.1, 12, .inl (fun j9 => zi ((tlS zv b (mx nb lk tl) (41)) j9))))]) hP hD [0, 1, 2] [] rfl rfl (by decide) (by decide) hk1 (va_free hD hS0 hA [0, 1, 2] rfl) hP1 hD1
  generalize H1 = H at hP hS ⊢
  have hP : va_P g.1 vwCl [((a 5 0), .inr (1, [.int (zi (σ 1 k)), .ref (a 6 0), .ref (a 7 0)])), ((a 6 0), .inl (g.2.1, 12, .inl (fun j9 => zi ((tuS zv b (mx nb uk tu) (41)) j9)))), ((a 7 0), .inl (g.2.1, 12, .inl (fun j9 => zi ((tlS zv b (mx nb lk tl) (41)) j9))))] H := hP
  have hD : va_D (va_A [((a 5 0), .inr (1, [.int (zi (tn)), .ref (a 6 0), .ref (a 7 0)])), ((a 6 0), .inl (g.2.1, 12, .inl (fun j9 => zi ((tu) j9)))), ((a 7 0), .inl (g.2.1, 12, .inl (fun j9 => zi ((tl) j9))))] s.heap.size) [((a 5 0), .inr (1, [.int (zi (σ 1 k)), .ref (a 6 0), .ref (a 7 0)])), ((a 6 0), .inl (g.2.1, 12, .inl (fun j9 => zi ((tuS zv b (mx nb uk tu) (41)) j9)))), ((a 7 0), .inl (g.2.1, 12, .inl (fun j9 => zi ((tlS zv b (mx nb lk tl) (41)) j9))))] := hD
  exact z_dwret (a) hx hb hr hlk dX3_best_35 (by rw [hzv, best_eq hv1 hnb hnb12 (by omega) hmm eqk]) (DI.best hI hS ⟨hP 0 _ rfl, hP 1 _ rfl, hP 2 _ rfl⟩ (tuS_Nt (nuk.mx ntu _) (by omega)) (tlS_Nt (nlk.mx ntl _) (by omega))) (DE_same rfl rfl) hfA hS
