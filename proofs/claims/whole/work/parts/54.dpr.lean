set_option maxHeartbeats 4000000 in
set_option maxRecDepth 100000 in
theorem c_X3_print_0 (l : Launch) (g : gG) (σ : SG) (a : AD) (hW : WF σ) (k : Nat) (hk : (k : Int) < σ 0 0) (zk : Int) (hzk : zk = (k : Int)) (v : Nat) (hv1 : v ≤ 1) (zv : Int) (hzv : zv = (v : Int)) (C : Nat) (hC : σ 8 0 = (C : Int)) (hCf : C < 20) (h12 : σ 12 C = 0) (sz : Nat) : DW l yX3_print wsX3_print ({ frames := 4, cells := 2, slots := 16, locals := 90 }) g [.int (zi (zk)), .int (zi (zv))] sz σ a (opP σ k v C) ((C : Int)) 2 16 := by
  refine ZM.ofW (cc := cX3_print) (maxL := 5) (ret := (some .int)) (by decide) rfl (Nat.le_of_ble_eq_true rfl) ?_
  intro p e s m below meth c ls hx hb hr hml hown hts hlk hP hK hl hin
  obtain ⟨rfl, hI⟩ := hP
  have hn := hW.n
  have hbk := hW.bars hk
  have hcn := hW.cn
  obtain ⟨uk, lk, hsk, nuk, nlk, eqk⟩ := (hI.vk hk).2
  have hve : ∀ b : Nat, (b : Int) < σ 1 k → ((v : Int) = 0 → NV σ k v b = uk b) ∧ (¬ (v : Int) = 0 → NV σ k v b = lk b) := fun b hb => ⟨fun h => by rw [show v = 0 by omega, NV_0]; exact ((eqk b hb).1).symm, fun h => by rw [show v = 1 by omega, NV_1]; exact ((eqk b hb).2).symm⟩
  obtain ⟨nb, hnb⟩ : ∃ nb : Nat, σ 1 k = (nb : Int) := ⟨(σ 1 k).toNat, by omega⟩
  have hnb12 : nb ≤ 12 := by omega
  have nd01 : (a 1 0) ≠ (a 3 0) := dNe hI.inj (dOk_0 σ (i := 1) (by omega)) (dOk_0 σ (i := 3) (by omega)) (by omega)
  have nd02 : (a 1 0) ≠ (a 8 k) := dNe hI.inj (dOk_0 σ (i := 1) (by omega)) (dOk_v (i := 8) (by omega) hk) (by omega)
  have nd12 : (a 3 0) ≠ (a 8 k) := dNe hI.inj (dOk_0 σ (i := 3) (by omega)) (dOk_v (i := 8) (by omega) hk) (by omega)
  have hP := z_cons hI.ob (z_cons hI.cs (z_cons (hI.vk hk).1 z_nil))
  have hP : va_P g.1 vwCl [((a 1 0), .inr (3, [.ref (a 2 0), .int (zi (σ 0 0)), .ref (a 3 0), .int (zi (σ 8 0)), .ref (a 4 0), .int (zi (σ 7 0)), .ref (a 5 0)])), ((a 3 0), .inl (g.2.2.2.2, 20, .inr (.inr (.inr (.inr (csF σ a)))))), ((a 8 k), .inr (2, [.int (zi ((k : Int))), va_rf (paV σ a k), .ref (a 9 k), .int (zi (σ 3 k)), .int (zi (σ 4 k))]))] s.heap := hP
  have hD : va_D (va_A [((a 1 0), .inr (3, [.ref (a 2 0), .int (zi (σ 0 0)), .ref (a 3 0), .int (zi (σ 8 0)), .ref (a 4 0), .int (zi (σ 7 0)), .ref (a 5 0)])), ((a 3 0), .inl (g.2.2.2.2, 20, .inr (.inr (.inr (.inr (csF σ a)))))), ((a 8 k), .inr (2, [.int (zi ((k : Int))), va_rf (paV σ a k), .ref (a 9 k), .int (zi (σ 3 k)), .int (zi (σ 4 k))]))] s.heap.size) [((a 1 0), .inr (3, [.ref (a 2 0), .int (zi (σ 0 0)), .ref (a 3 0), .int (zi (σ 8 0)), .ref (a 4 0), .int (zi (σ 7 0)), .ref (a 5 0)])), ((a 3 0), .inl (g.2.2.2.2, 20, .inr (.inr (.inr (.inr (csF σ a)))))), ((a 8 k), .inr (2, [.int (zi ((k : Int))), va_rf (paV σ a k), .ref (a 9 k), .int (zi (σ 3 k)), .int (zi (σ 4 k))]))] := z_Dn (by simp [nd01, nd02, nd12])
  have hS : va_S (va_A [((a 1 0), .inr (3, [.ref (a 2 0), .int (zi (σ 0 0)), .ref (a 3 0), .int (zi (σ 8 0)), .ref (a 4 0), .int (zi (σ 7 0)), .ref (a 5 0)])), ((a 3 0), .inl (g.2.2.2.2, 20, .inr (.inr (.inr (.inr (csF σ a)))))), ((a 8 k), .inr (2, [.int (zi ((k : Int))), va_rf (paV σ a k), .ref (a 9 k), .int (zi (σ 3 k)), .int (zi (σ 4 k))]))] s.heap.size) s.heap s.heap [] := va_S.rf
  have hA : ∀ x9 : Nat, s.heap.size ≤ x9 → (va_A [((a 1 0), .inr (3, [.ref (a 2 0), .int (zi (σ 0 0)), .ref (a 3 0), .int (zi (σ 8 0)), .ref (a 4 0), .int (zi (σ 7 0)), .ref (a 5 0)])), ((a 3 0), .inl (g.2.2.2.2, 20, .inr (.inr (.inr (.inr (csF σ a)))))), ((a 8 k), .inr (2, [.int (zi ((k : Int))), va_rf (paV σ a k), .ref (a 9 k), .int (zi (σ 3 k)), .int (zi (σ 4 k))]))] s.heap.size) x9 := fun _ h => Or.inr h
  have hown : s.vm.findClass RX3 = some m.cls := hown
  have hl : lv_has ls 5 [(0, .ref (a 1 0)), (1, .int (zi (zk))), (2, .int (zi (zv)))] := hl
  have hiX2 : ∀ w ∈ u_ws RX2 TX2 5, w ∈ wsX3_print := by decide +kernel
  have hfA : ∀ x9, va_A [((a 1 0), .inr (3, [.ref (a 2 0), .int (zi (σ 0 0)), .ref (a 3 0), .int (zi (σ 8 0)), .ref (a 4 0), .int (zi (σ 7 0)), .ref (a 5 0)])), ((a 3 0), .inl (g.2.2.2.2, 20, .inr (.inr (.inr (.inr (csF σ a)))))), ((a 8 k), .inr (2, [.int (zi ((k : Int))), va_rf (paV σ a k), .ref (a 9 k), .int (zi (σ 3 k)), .int (zi (σ 4 k))]))] s.heap.size x9 → dA σ a s.heap.size x9 := dA_of (fun x9 h9 => by
    simp only [List.map, List.mem_cons, List.not_mem_nil, or_false] at h9
    rcases h9 with rfl | rfl | rfl
    · exact ⟨1, 0, (dOk_0 σ (i := 1) (by omega)), rfl⟩
    · exact ⟨3, 0, (dOk_0 σ (i := 3) (by omega)), rfl⟩
    · exact ⟨8, k, (dOk_v (i := 8) (by omega) hk), rfl⟩)
  have n9 : ¬ (va_A [((a 1 0), .inr (3, [.ref (a 2 0), .int (zi (σ 0 0)), .ref (a 3 0), .int (zi (σ 8 0)), .ref (a 4 0), .int (zi (σ 7 0)), .ref (a 5 0)])), ((a 3 0), .inl (g.2.2.2.2, 20, .inr (.inr (.inr (.inr (csF σ a)))))), ((a 8 k), .inr (2, [.int (zi ((k : Int))), va_rf (paV σ a k), .ref (a 9 k), .int (zi (σ 3 k)), .int (zi (σ 4 k))]))] s.heap.size) (a 9 k) := z_nA (hI.lt (dOk_v (i := 9) (by omega) hk)) (fun h9 => by
    simp only [List.map, List.mem_cons, List.not_mem_nil, or_false] at h9
    rcases h9 with h9 | h9 | h9
    · exact dNe hI.inj (dOk_v (i := 9) (by omega) hk) (dOk_0 σ (i := 1) (by omega)) (by omega) h9
    · exact dNe hI.inj (dOk_v (i := 9) (by omega) hk) (dOk_0 σ (i := 3) (by omega)) (by omega) h9
    · exact dNe hI.inj (dOk_v (i := 9) (by omega) hk) (dOk_v (i := 8) (by omega) hk) (by omega) h9)
  have hp9 : a 9 k ∉ [a 1 0, a 3 0] := fun h9 => by
    simp only [List.mem_cons, List.not_mem_nil, or_false] at h9
    rcases h9 with h9 | h9
    · exact dNe hI.inj (dOk_v (i := 9) (by omega) hk) (dOk_0 σ (i := 1) (by omega)) (by omega) h9
    · exact dNe hI.inj (dOk_v (i := 9) (by omega) hk) (dOk_0 σ (i := 3) (by omega)) (by omega) h9
  have n10 : ¬ (va_A [((a 1 0), .inr (3, [.ref (a 2 0), .int (zi (σ 0 0)), .ref (a 3 0), .int (zi (σ 8 0)), .ref (a 4 0), .int (zi (σ 7 0)), .ref (a 5 0)])), ((a 3 0), .inl (g.2.2.2.2, 20, .inr (.inr (.inr (.inr (csF σ a)))))), ((a 8 k), .inr (2, [.int (zi ((k : Int))), va_rf (paV σ a k), .ref (a 9 k), .int (zi (σ 3 k)), .int (zi (σ 4 k))]))] s.heap.size) (a 10 k) := z_nA (hI.lt (dOk_v (i := 10) (by omega) hk)) (fun h9 => by
    simp only [List.map, List.mem_cons, List.not_mem_nil, or_false] at h9
    rcases h9 with h9 | h9 | h9
    · exact dNe hI.inj (dOk_v (i := 10) (by omega) hk) (dOk_0 σ (i := 1) (by omega)) (by omega) h9
    · exact dNe hI.inj (dOk_v (i := 10) (by omega) hk) (dOk_0 σ (i := 3) (by omega)) (by omega) h9
    · exact dNe hI.inj (dOk_v (i := 10) (by omega) hk) (dOk_v (i := 8) (by omega) hk) (by omega) h9)
  have hp10 : a 10 k ∉ [a 1 0, a 3 0] := fun h9 => by
    simp only [List.mem_cons, List.not_mem_nil, or_false] at h9
    rcases h9 with h9 | h9
    · exact dNe hI.inj (dOk_v (i := 10) (by omega) hk) (dOk_0 σ (i := 1) (by omega)) (by omega) h9
    · exact dNe hI.inj (dOk_v (i := 10) (by omega) hk) (dOk_0 σ (i := 3) (by omega)) (by omega) h9
  have n11 : ¬ (va_A [((a 1 0), .inr (3, [.ref (a 2 0), .int (zi (σ 0 0)), .ref (a 3 0), .int (zi (σ 8 0)), .ref (a 4 0), .int (zi (σ 7 0)), .ref (a 5 0)])), ((a 3 0), .inl (g.2.2.2.2, 20, .inr (.inr (.inr (.inr (csF σ a)))))), ((a 8 k), .inr (2, [.int (zi ((k : Int))), va_rf (paV σ a k), .ref (a 9 k), .int (zi (σ 3 k)), .int (zi (σ 4 k))]))] s.heap.size) (a 11 k) := z_nA (hI.lt (dOk_v (i := 11) (by omega) hk)) (fun h9 => by
    simp only [List.map, List.mem_cons, List.not_mem_nil, or_false] at h9
    rcases h9 with h9 | h9 | h9
    · exact dNe hI.inj (dOk_v (i := 11) (by omega) hk) (dOk_0 σ (i := 1) (by omega)) (by omega) h9
    · exact dNe hI.inj (dOk_v (i := 11) (by omega) hk) (dOk_0 σ (i := 3) (by omega)) (by omega) h9
    · exact dNe hI.inj (dOk_v (i := 11) (by omega) hk) (dOk_v (i := 8) (by omega) hk) (by omega) h9)
  have hp11 : a 11 k ∉ [a 1 0, a 3 0] := fun h9 => by
    simp only [List.mem_cons, List.not_mem_nil, or_false] at h9
    rcases h9 with h9 | h9
    · exact dNe hI.inj (dOk_v (i := 11) (by omega) hk) (dOk_0 σ (i := 1) (by omega)) (by omega) h9
    · exact dNe hI.inj (dOk_v (i := 11) (by omega) hk) (dOk_0 σ (i := 3) (by omega)) (by omega) h9
  refine lv_aload_n hx hb dX3_print_0 rfl (lv_at hl 0 rfl) ?_
  refine lv_iload_n hx hb dX3_print_1 rfl (lv_at hl 1 rfl) ?_
  refine rq_V (rest := []) (As := [.int (zi (zk))]) ⟨hx, hb, hml, hown, hts⟩ (c_X3_findVersion l g σ a hW k hk (zk) (by omega)) (cwV 1 hts gX3_print_X3_findVersion rfl rfl rfl (by decide +kernel) ⟨Nat.le_of_ble_eq_true rfl, Nat.le_of_ble_eq_true rfl⟩) (z_recv hK (hP 0 _ rfl) rfl) hI hK rfl hl.1 rfl (Nat.le_of_ble_eq_true rfl) dX3_print_2 ⟨Nat.le_of_ble_eq_true rfl, Nat.le_of_ble_eq_true rfl⟩ ?_
  refine lv_astore_n (lv' := [(3, .ref (a 8 k)), (0, .ref (a 1 0)), (1, .int (zi (zk))), (2, .int (zi (zv)))]) hx hb dX3_print_5 rfl hl (by decide) rfl (fun ls hl => ?_)
  refine lv_iload_n hx hb dX3_print_6 rfl (lv_at hl 3 rfl) ?_
  refine rv_S (rest := []) (As := [.int (zi (zv))]) ⟨hx, hb, hml, hown, hts⟩ (c_X3_checkVoice l g (zv) (by omega)) (cwS 1 hts gX3_print_X3_checkVoice rfl rfl rfl (by decide +kernel) ⟨Nat.le_of_ble_eq_true rfl, Nat.le_of_ble_eq_true rfl⟩) trivial hK rfl hl.1 rfl (Nat.le_of_ble_eq_true rfl) dX3_print_7 ⟨Nat.le_of_ble_eq_true rfl, Nat.le_of_ble_eq_true rfl⟩ ?_
  refine lv_aload_n hx hb dX3_print_10 rfl (lv_at hl 1 rfl) ?_
  refine lv_iload_n hx hb dX3_print_11 rfl (lv_at hl 3 rfl) ?_
  refine lv_aload_n hx hb dX3_print_12 rfl (lv_at hl 0 rfl) ?_
  refine z_getN (C := RX2) (T := TX2) (N := 5) (ref := "HarmoniumDesk$Version") (host := RX3) hx hb hts hiX2 hown hK (hP 2 _ rfl) rfl 2 (by decide) (by decide +kernel) rfl rfl dX3_print_13 ?_
  have hS0 := hS
  refine wni_V (rest := []) (As := [.int (zi (zv)), .ref (a 9 k)]) ⟨hx, hb, hml, hown, hts⟩ (c_X3_addCopy l g σ a C hC hCf nd01 (zv) (by omega) (a 9 k) (a 10 k) (a 11 k) (σ 1 k) uk lk nuk nlk ⟨hp9, hp10, hp11⟩ (if (v : Int) = 0 then uk else lk) (fun h => if_pos (by omega)) (fun h => if_neg (by omega)) nb hnb hnb12 _) (cwV 2 hts gX3_print_X3_addCopy rfl rfl rfl (by decide +kernel) ⟨Nat.le_of_ble_eq_true rfl, Nat.le_of_ble_eq_true rfl⟩) (z_recv hK (hP 0 _ rfl) rfl) (hP.sub [0, 1] rfl) (hsk.stay hS n9 n10 n11) hK rfl hl.1 rfl (Nat.le_of_ble_eq_true rfl) dX3_print_16 ⟨Nat.le_of_ble_eq_true rfl, Nat.le_of_ble_eq_true rfl⟩ hS (va_free hD hS hA [0, 1] rfl) (fun u16 H1 locs hP1 hD1 hz1 hk1 hS => ?_)
  obtain ⟨q9, r9⟩ := u16
  obtain ⟨hP, hD⟩ := va_join (wr := [((a 8 k), .inr (2, [.int (zi ((k : Int))), va_rf (paV σ a k), .ref (a 9 k), .int (zi (σ 3 k)), .int (zi (σ 4 k))]))]) (w1 := [((a 1 0), .inr (3, [.ref (a 2 0), .int (zi (σ 0 0)), .ref (a 3 0), .int (zi (((C + 1 : Nat) : Int))), .ref (a 4 0), .int (zi (σ 7 0)), .ref (a 5 0)])), ((a 3 0), .inl (g.2.2.2.2, 20, .inr (.inr (.inr (.inr (va_up (csF σ a) C (some q9))))))), (q9, .inr (0, [.int (zi (zv)), .int (zi (σ 1 k)), .ref r9, .int (zi (0))])), (r9, .inl (g.2.1, 12, .inl (fun j9 => zi ((mx nb (if (v : Int) = 0 then uk else lk) (fun _ => 0)) j9))))]) hP hD [0, 1] [2] rfl rfl (by decide) (by decide) hk1 (va_free hD hS0 hA [0, 1] rfl) hP1 hD1
  generalize H1 = H at hP hS ⊢
  have hP : va_P g.1 vwCl [((a 8 k), .inr (2, [.int (zi ((k : Int))), va_rf (paV σ a k), .ref (a 9 k), .int (zi (σ 3 k)), .int (zi (σ 4 k))])), ((a 1 0), .inr (3, [.ref (a 2 0), .int (zi (σ 0 0)), .ref (a 3 0), .int (zi (((C + 1 : Nat) : Int))), .ref (a 4 0), .int (zi (σ 7 0)), .ref (a 5 0)])), ((a 3 0), .inl (g.2.2.2.2, 20, .inr (.inr (.inr (.inr (va_up (csF σ a) C (some q9))))))), (q9, .inr (0, [.int (zi (zv)), .int (zi (σ 1 k)), .ref r9, .int (zi (0))])), (r9, .inl (g.2.1, 12, .inl (fun j9 => zi ((mx nb (if (v : Int) = 0 then uk else lk) (fun _ => 0)) j9))))] H := hP
  have hD : va_D (va_A [((a 1 0), .inr (3, [.ref (a 2 0), .int (zi (σ 0 0)), .ref (a 3 0), .int (zi (σ 8 0)), .ref (a 4 0), .int (zi (σ 7 0)), .ref (a 5 0)])), ((a 3 0), .inl (g.2.2.2.2, 20, .inr (.inr (.inr (.inr (csF σ a)))))), ((a 8 k), .inr (2, [.int (zi ((k : Int))), va_rf (paV σ a k), .ref (a 9 k), .int (zi (σ 3 k)), .int (zi (σ 4 k))]))] s.heap.size) [((a 8 k), .inr (2, [.int (zi ((k : Int))), va_rf (paV σ a k), .ref (a 9 k), .int (zi (σ 3 k)), .int (zi (σ 4 k))])), ((a 1 0), .inr (3, [.ref (a 2 0), .int (zi (σ 0 0)), .ref (a 3 0), .int (zi (((C + 1 : Nat) : Int))), .ref (a 4 0), .int (zi (σ 7 0)), .ref (a 5 0)])), ((a 3 0), .inl (g.2.2.2.2, 20, .inr (.inr (.inr (.inr (va_up (csF σ a) C (some q9))))))), (q9, .inr (0, [.int (zi (zv)), .int (zi (σ 1 k)), .ref r9, .int (zi (0))])), (r9, .inl (g.2.1, 12, .inl (fun j9 => zi ((mx nb (if (v : Int) = 0 then uk else lk) (fun _ => 0)) j9))))] := hD
  refine W.widen (k := 2) (n := 16) (by omega) (by omega) ?_
  refine lv_istore (lv' := [(4, .int (zi ((C : Int)))), (3, .ref (a 8 k)), (0, .ref (a 1 0)), (1, .int (zi (zk))), (2, .int (zi (zv)))]) hx hb dX3_print_19 hl (by decide) rfl (fun ls hl => ?_)
  refine lv_aload_n hx hb dX3_print_21 rfl (lv_at hl 1 rfl) ?_
  refine z_iconst hx hb dX3_print_22 ?_
  refine z_putN (v := .int (zi (1))) (C := RX2) (T := TX2) (N := 5) (ref := "HarmoniumDesk$Version") (host := RX3) hx hb hts hiX2 tyX2 tyX2_ok nmX2 hown hK hP hD hS 0 rfl rfl 3 (by decide) (by decide +kernel) rfl rfl rfl rfl (Nat.le_of_ble_eq_true rfl) dX3_print_23 (fun H locs hP hD hS => ?_)
  have hP : va_P g.1 vwCl [((a 8 k), .inr (2, [.int (zi ((k : Int))), va_rf (paV σ a k), .ref (a 9 k), .int (zi (1)), .int (zi (σ 4 k))])), ((a 1 0), .inr (3, [.ref (a 2 0), .int (zi (σ 0 0)), .ref (a 3 0), .int (zi (((C + 1 : Nat) : Int))), .ref (a 4 0), .int (zi (σ 7 0)), .ref (a 5 0)])), ((a 3 0), .inl (g.2.2.2.2, 20, .inr (.inr (.inr (.inr (va_up (csF σ a) C (some q9))))))), (q9, .inr (0, [.int (zi (zv)), .int (zi (σ 1 k)), .ref r9, .int (zi (0))])), (r9, .inl (g.2.1, 12, .inl (fun j9 => zi ((mx nb (if (v : Int) = 0 then uk else lk) (fun _ => 0)) j9))))] H := hP
  have hD : va_D (va_A [((a 1 0), .inr (3, [.ref (a 2 0), .int (zi (σ 0 0)), .ref (a 3 0), .int (zi (σ 8 0)), .ref (a 4 0), .int (zi (σ 7 0)), .ref (a 5 0)])), ((a 3 0), .inl (g.2.2.2.2, 20, .inr (.inr (.inr (.inr (csF σ a)))))), ((a 8 k), .inr (2, [.int (zi ((k : Int))), va_rf (paV σ a k), .ref (a 9 k), .int (zi (σ 3 k)), .int (zi (σ 4 k))]))] s.heap.size) [((a 8 k), .inr (2, [.int (zi ((k : Int))), va_rf (paV σ a k), .ref (a 9 k), .int (zi (1)), .int (zi (σ 4 k))])), ((a 1 0), .inr (3, [.ref (a 2 0), .int (zi (σ 0 0)), .ref (a 3 0), .int (zi (((C + 1 : Nat) : Int))), .ref (a 4 0), .int (zi (σ 7 0)), .ref (a 5 0)])), ((a 3 0), .inl (g.2.2.2.2, 20, .inr (.inr (.inr (.inr (va_up (csF σ a) C (some q9))))))), (q9, .inr (0, [.int (zi (zv)), .int (zi (σ 1 k)), .ref r9, .int (zi (0))])), (r9, .inl (g.2.1, 12, .inl (fun j9 => zi ((mx nb (if (v : Int) = 0 then uk else lk) (fun _ => 0)) j9))))] := hD
  refine lv_iload hx hb dX3_print_26 (lv_at hl 0 rfl) ?_
  have nqr : q9 ≠ r9 := z_ap hD (i := 3) (j := 4) rfl rfl (by decide)
  have nw3 : s.heap.size ≤ q9 := z_new hD (i := 3) rfl (fun h9 => by
    simp only [List.map, List.mem_cons, List.not_mem_nil, or_false] at h9
    rcases h9 with h9 | h9 | h9
    · exact z_ap hD (i := 3) (j := 1) rfl rfl (by decide) h9
    · exact z_ap hD (i := 3) (j := 2) rfl rfl (by decide) h9
    · exact z_ap hD (i := 3) (j := 0) rfl rfl (by decide) h9)
  have nw4 : s.heap.size ≤ r9 := z_new hD (i := 4) rfl (fun h9 => by
    simp only [List.map, List.mem_cons, List.not_mem_nil, or_false] at h9
    rcases h9 with h9 | h9 | h9
    · exact z_ap hD (i := 4) (j := 1) rfl rfl (by decide) h9
    · exact z_ap hD (i := 4) (j := 2) rfl rfl (by decide) h9
    · exact z_ap hD (i := 4) (j := 0) rfl rfl (by decide) h9)
  have hB := DI.print (v := v) hI hC hk hS h12 (fun c hc => (hW.cp hc).1.2) hnb hnb12 ⟨nw3, nw4⟩ nqr (hP 1 _ rfl) (hP 2 _ rfl) (hP 0 _ rfl) (by rw [← hzv]; exact hP 3 _ rfl) (hP 4 _ rfl) (by split; exact nuk; exact nlk) (fun b hb => by
    by_cases h : (v : Int) = 0
    · rw [if_pos h]; exact ((hve b hb).1 h).symm
    · rw [if_neg h]; exact ((hve b hb).2 h).symm)
  exact z_dwret (adC a C q9 r9) hx hb hr hlk dX3_print_28 (rfl) (hB.1) (hB.2) hfA hS
