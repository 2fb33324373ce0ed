set_option maxHeartbeats 4000000 in
set_option maxRecDepth 100000 in
theorem c_X3_slip_0 (l : Launch) (g : gG) (σ : SG) (a : AD) (hW : WF σ) (c1 : Nat) (hc : (c1 : Int) < σ 8 0) (zc : Int) (hzc : zc = (c1 : Int)) (k : Nat) (hk : (k : Int) < σ 0 0) (zk : Int) (hzk : zk = (k : Int)) (hln : σ 1 k = σ 9 c1) (sz : Nat) : DW l yX3_slip wsX3_slip ({ frames := 2, cells := 0, slots := 0, locals := 46 }) g [.int (zi (zc)), .int (zi (zk))] sz σ a (opS σ c1 k) (cnt (dfB σ c1 k) (σ 1 k).toNat) 0 0 := by
  refine ZM.ofW (cc := cX3_slip) (maxL := 6) (ret := (some .int)) (by decide) rfl (Nat.le_of_ble_eq_true rfl) ?_
  intro p e s m below meth c ls hx hb hr hml hown hts hlk hP hK hl hin
  obtain ⟨rfl, hI⟩ := hP
  have hn := hW.n
  have hbk := hW.bars hk
  have hcn := hW.cn
  have hcp := hW.cp hc
  obtain ⟨uk, lk, hsk, nuk, nlk, eqk⟩ := (hI.vk hk).2
  obtain ⟨t1, hr1, nt1, eqt⟩ := (hI.ck hc).2
  have hwn : ∀ b : Nat, (b : Int) < σ 1 k → (if σ 10 c1 = 0 then uk else lk) b = NV σ k (σ 10 c1).toNat b := fun b hb => by
    have e2 := eqk b hb
    rcases hcp.2 with h | h
    · rw [if_pos h, show (σ 10 c1).toNat = 0 by omega, NV_0]; exact e2.1
    · rw [if_neg (by omega), show (σ 10 c1).toNat = 1 by omega, NV_1]; exact e2.2
  have hds : sset (dB (if σ 10 c1 = 0 then uk else lk) t1) (σ 1 k).toNat = sset (dfB σ c1 k) (σ 1 k).toNat := sset_cong _ (fun b hb => by
    have e1 := eqt b (by omega)
    have e3 := hwn b (by omega)
    unfold dB dfB
    rw [e1, e3])
  have nd01 : (a 12 c1) ≠ (a 13 c1) := dNe hI.inj (dOk_c (i := 12) (by omega) hc) (dOk_c (i := 13) (by omega) hc) (by omega)
  have hP := z_cons (hI.ck hc).1 (z_cons hr1 z_nil)
  have hP : va_P g.1 vwCl [((a 12 c1), .inr (0, [.int (zi (σ 10 c1)), .int (zi (σ 9 c1)), .ref (a 13 c1), .int (zi (σ 12 c1))])), ((a 13 c1), .inl (g.2.1, 12, .inl (fun j9 => zi ((t1) j9))))] s.heap := hP
  have hD : va_D (va_A [((a 12 c1), .inr (0, [.int (zi (σ 10 c1)), .int (zi (σ 9 c1)), .ref (a 13 c1), .int (zi (σ 12 c1))])), ((a 13 c1), .inl (g.2.1, 12, .inl (fun j9 => zi ((t1) j9))))] s.heap.size) [((a 12 c1), .inr (0, [.int (zi (σ 10 c1)), .int (zi (σ 9 c1)), .ref (a 13 c1), .int (zi (σ 12 c1))])), ((a 13 c1), .inl (g.2.1, 12, .inl (fun j9 => zi ((t1) j9))))] := z_Dn (by simp [nd01])
  have hS : va_S (va_A [((a 12 c1), .inr (0, [.int (zi (σ 10 c1)), .int (zi (σ 9 c1)), .ref (a 13 c1), .int (zi (σ 12 c1))])), ((a 13 c1), .inl (g.2.1, 12, .inl (fun j9 => zi ((t1) j9))))] s.heap.size) s.heap s.heap [] := va_S.rf
  have hA : ∀ x9 : Nat, s.heap.size ≤ x9 → (va_A [((a 12 c1), .inr (0, [.int (zi (σ 10 c1)), .int (zi (σ 9 c1)), .ref (a 13 c1), .int (zi (σ 12 c1))])), ((a 13 c1), .inl (g.2.1, 12, .inl (fun j9 => zi ((t1) j9))))] s.heap.size) x9 := fun _ h => Or.inr h
  have hown : s.vm.findClass RX3 = some m.cls := hown
  have hl : lv_has ls 6 [(0, .ref (a 1 0)), (1, .int (zi (zc))), (2, .int (zi (zk)))] := hl
  have hiX0 : ∀ w ∈ u_ws RX0 TX0 4, w ∈ wsX3_slip := by decide +kernel
  have hiX2 : ∀ w ∈ u_ws RX2 TX2 5, w ∈ wsX3_slip := by decide +kernel
  have hfA : ∀ x9, va_A [((a 12 c1), .inr (0, [.int (zi (σ 10 c1)), .int (zi (σ 9 c1)), .ref (a 13 c1), .int (zi (σ 12 c1))])), ((a 13 c1), .inl (g.2.1, 12, .inl (fun j9 => zi ((t1) j9))))] s.heap.size x9 → dA σ a s.heap.size x9 := dA_of (fun x9 h9 => by
    simp only [List.map, List.mem_cons, List.not_mem_nil, or_false] at h9
    rcases h9 with rfl | rfl
    · exact ⟨12, c1, (dOk_c (i := 12) (by omega) hc), rfl⟩
    · exact ⟨13, c1, (dOk_c (i := 13) (by omega) hc), rfl⟩)
  have n8 : ¬ (va_A [((a 12 c1), .inr (0, [.int (zi (σ 10 c1)), .int (zi (σ 9 c1)), .ref (a 13 c1), .int (zi (σ 12 c1))])), ((a 13 c1), .inl (g.2.1, 12, .inl (fun j9 => zi ((t1) j9))))] s.heap.size) (a 8 k) := z_nA (hI.lt (dOk_v (i := 8) (by omega) hk)) (fun h9 => by
    simp only [List.map, List.mem_cons, List.not_mem_nil, or_false] at h9
    rcases h9 with h9 | h9
    · exact dNe hI.inj (dOk_v (i := 8) (by omega) hk) (dOk_c (i := 12) (by omega) hc) (by omega) h9
    · exact dNe hI.inj (dOk_v (i := 8) (by omega) hk) (dOk_c (i := 13) (by omega) hc) (by omega) h9)
  have nD : ¬ (va_A [((a 12 c1), .inr (0, [.int (zi (σ 10 c1)), .int (zi (σ 9 c1)), .ref (a 13 c1), .int (zi (σ 12 c1))])), ((a 13 c1), .inl (g.2.1, 12, .inl (fun j9 => zi ((t1) j9))))] s.heap.size) (a 1 0) := z_nA (hI.lt (dOk_0 σ (i := 1) (by omega))) (fun h9 => by
    simp only [List.map, List.mem_cons, List.not_mem_nil, or_false] at h9
    rcases h9 with h9 | h9
    · exact dNe hI.inj (dOk_0 σ (i := 1) (by omega)) (dOk_c (i := 12) (by omega) hc) (by omega) h9
    · exact dNe hI.inj (dOk_0 σ (i := 1) (by omega)) (dOk_c (i := 13) (by omega) hc) (by omega) h9)
  have n9 : ¬ (va_A [((a 12 c1), .inr (0, [.int (zi (σ 10 c1)), .int (zi (σ 9 c1)), .ref (a 13 c1), .int (zi (σ 12 c1))])), ((a 13 c1), .inl (g.2.1, 12, .inl (fun j9 => zi ((t1) j9))))] s.heap.size) (a 9 k) := z_nA (hI.lt (dOk_v (i := 9) (by omega) hk)) (fun h9 => by
    simp only [List.map, List.mem_cons, List.not_mem_nil, or_false] at h9
    rcases h9 with h9 | h9
    · exact dNe hI.inj (dOk_v (i := 9) (by omega) hk) (dOk_c (i := 12) (by omega) hc) (by omega) h9
    · exact dNe hI.inj (dOk_v (i := 9) (by omega) hk) (dOk_c (i := 13) (by omega) hc) (by omega) h9)
  have hp9 : a 9 k ∉ [a 12 c1, a 13 c1] := fun h9 => by
    simp only [List.mem_cons, List.not_mem_nil, or_false] at h9
    rcases h9 with h9 | h9
    · exact dNe hI.inj (dOk_v (i := 9) (by omega) hk) (dOk_c (i := 12) (by omega) hc) (by omega) h9
    · exact dNe hI.inj (dOk_v (i := 9) (by omega) hk) (dOk_c (i := 13) (by omega) hc) (by omega) h9
  have n10 : ¬ (va_A [((a 12 c1), .inr (0, [.int (zi (σ 10 c1)), .int (zi (σ 9 c1)), .ref (a 13 c1), .int (zi (σ 12 c1))])), ((a 13 c1), .inl (g.2.1, 12, .inl (fun j9 => zi ((t1) j9))))] s.heap.size) (a 10 k) := z_nA (hI.lt (dOk_v (i := 10) (by omega) hk)) (fun h9 => by
    simp only [List.map, List.mem_cons, List.not_mem_nil, or_false] at h9
    rcases h9 with h9 | h9
    · exact dNe hI.inj (dOk_v (i := 10) (by omega) hk) (dOk_c (i := 12) (by omega) hc) (by omega) h9
    · exact dNe hI.inj (dOk_v (i := 10) (by omega) hk) (dOk_c (i := 13) (by omega) hc) (by omega) h9)
  have hp10 : a 10 k ∉ [a 12 c1, a 13 c1] := fun h9 => by
    simp only [List.mem_cons, List.not_mem_nil, or_false] at h9
    rcases h9 with h9 | h9
    · exact dNe hI.inj (dOk_v (i := 10) (by omega) hk) (dOk_c (i := 12) (by omega) hc) (by omega) h9
    · exact dNe hI.inj (dOk_v (i := 10) (by omega) hk) (dOk_c (i := 13) (by omega) hc) (by omega) h9
  have n11 : ¬ (va_A [((a 12 c1), .inr (0, [.int (zi (σ 10 c1)), .int (zi (σ 9 c1)), .ref (a 13 c1), .int (zi (σ 12 c1))])), ((a 13 c1), .inl (g.2.1, 12, .inl (fun j9 => zi ((t1) j9))))] s.heap.size) (a 11 k) := z_nA (hI.lt (dOk_v (i := 11) (by omega) hk)) (fun h9 => by
    simp only [List.map, List.mem_cons, List.not_mem_nil, or_false] at h9
    rcases h9 with h9 | h9
    · exact dNe hI.inj (dOk_v (i := 11) (by omega) hk) (dOk_c (i := 12) (by omega) hc) (by omega) h9
    · exact dNe hI.inj (dOk_v (i := 11) (by omega) hk) (dOk_c (i := 13) (by omega) hc) (by omega) h9)
  have hp11 : a 11 k ∉ [a 12 c1, a 13 c1] := fun h9 => by
    simp only [List.mem_cons, List.not_mem_nil, or_false] at h9
    rcases h9 with h9 | h9
    · exact dNe hI.inj (dOk_v (i := 11) (by omega) hk) (dOk_c (i := 12) (by omega) hc) (by omega) h9
    · exact dNe hI.inj (dOk_v (i := 11) (by omega) hk) (dOk_c (i := 13) (by omega) hc) (by omega) h9
  refine lv_aload_n hx hb dX3_slip_0 rfl (lv_at hl 0 rfl) ?_
  refine lv_iload_n hx hb dX3_slip_1 rfl (lv_at hl 1 rfl) ?_
  refine rq_V (rest := []) (As := [.int (zi (zc))]) ⟨hx, hb, hml, hown, hts⟩ (c_X3_findCopy l g σ a hW c1 hc (zc) (by omega)) (cwV 1 hts gX3_slip_X3_findCopy rfl rfl rfl (by decide +kernel) ⟨Nat.le_of_ble_eq_true rfl, Nat.le_of_ble_eq_true rfl⟩) (z_recv hK (z_stay hI.ob hS nD) rfl) hI hK rfl hl.1 rfl (Nat.le_of_ble_eq_true rfl) dX3_slip_2 ⟨Nat.le_of_ble_eq_true rfl, Nat.le_of_ble_eq_true rfl⟩ ?_
  refine lv_astore_n (lv' := [(3, .ref (a 12 c1)), (0, .ref (a 1 0)), (1, .int (zi (zc))), (2, .int (zi (zk)))]) hx hb dX3_slip_5 rfl hl (by decide) rfl (fun ls hl => ?_)
  refine lv_aload_n hx hb dX3_slip_6 rfl (lv_at hl 1 rfl) ?_
  refine lv_iload_n hx hb dX3_slip_7 rfl (lv_at hl 3 rfl) ?_
  refine rq_V (rest := []) (As := [.int (zi (zk))]) ⟨hx, hb, hml, hown, hts⟩ (c_X3_findVersion l g σ a hW k hk (zk) (by omega)) (cwV 1 hts gX3_slip_X3_findVersion rfl rfl rfl (by decide +kernel) ⟨Nat.le_of_ble_eq_true rfl, Nat.le_of_ble_eq_true rfl⟩) (z_recv hK (z_stay hI.ob hS nD) rfl) hI hK rfl hl.1 rfl (Nat.le_of_ble_eq_true rfl) dX3_slip_8 ⟨Nat.le_of_ble_eq_true rfl, Nat.le_of_ble_eq_true rfl⟩ ?_
  refine lv_astore (lv' := [(4, .ref (a 8 k)), (3, .ref (a 12 c1)), (0, .ref (a 1 0)), (1, .int (zi (zc))), (2, .int (zi (zk)))]) hx hb dX3_slip_11 hl (by decide) rfl (fun ls hl => ?_)
  refine lv_aload_n hx hb dX3_slip_13 rfl (lv_at hl 1 rfl) ?_
  refine lv_aload hx hb dX3_slip_14 (lv_at hl 0 rfl) ?_
  refine rv_S (rest := []) (As := [.ref (a 12 c1), .ref (a 8 k)]) ⟨hx, hb, hml, hown, hts⟩ (c_X3_checkAsManyBars l g σ a hW c1 hc k hk hln) (cwS 2 hts gX3_slip_X3_checkAsManyBars rfl rfl rfl (by decide +kernel) ⟨Nat.le_of_ble_eq_true rfl, Nat.le_of_ble_eq_true rfl⟩) hI hK rfl hl.1 rfl (Nat.le_of_ble_eq_true rfl) dX3_slip_16 ⟨Nat.le_of_ble_eq_true rfl, Nat.le_of_ble_eq_true rfl⟩ ?_
  refine lv_aload_n hx hb dX3_slip_19 rfl (lv_at hl 1 rfl) ?_
  refine lv_aload hx hb dX3_slip_20 (lv_at hl 0 rfl) ?_
  refine z_getN (C := RX2) (T := TX2) (N := 5) (ref := "HarmoniumDesk$Version") (host := RX3) hx hb hts hiX2 hown hK (z_stay (hI.vk hk).1 hS n8) rfl 2 (by decide) (by decide +kernel) rfl rfl dX3_slip_22 ?_
  refine ro_V (rest := []) (As := [.ref (a 9 k)]) ⟨hx, hb, hml, hown, hts⟩ (c_X0_differingBars l g (a 12 c1) (a 13 c1) (σ 10 c1) (σ 9 c1) (σ 12 c1) (by omega) t1 nt1 (a 9 k) (a 10 k) (a 11 k) (σ 1 k) uk lk nuk nlk (if σ 10 c1 = 0 then uk else lk) (fun h => if_pos h) (fun h => if_neg h) (σ 1 k).toNat (by omega) (by omega)) (cwV 1 hts gX3_slip_X0_differingBars rfl rfl rfl (by decide +kernel) ⟨Nat.le_of_ble_eq_true rfl, Nat.le_of_ble_eq_true rfl⟩) (z_recv hK (hP 0 _ rfl) rfl) ⟨(hI.ck hc).1, hr1, hsk⟩ hK rfl hl.1 rfl (Nat.le_of_ble_eq_true rfl) dX3_slip_25 ⟨Nat.le_of_ble_eq_true rfl, Nat.le_of_ble_eq_true rfl⟩ ?_
  refine ro_S (rest := []) (As := [.int (zi ((sset (dB (if σ 10 c1 = 0 then uk else lk) t1) (σ 1 k).toNat).toInt))]) ⟨hx, hb, hml, hown, hts⟩ (c_J6_bitCount l g ((sset (dB (if σ 10 c1 = 0 then uk else lk) t1) (σ 1 k).toNat).toInt) (cnt (dfB σ c1 k) (σ 1 k).toNat) (by rw [hds]; exact bc_set _ (by omega))) (va_cwS 1 hts gX3_slip_J6_bitCount_0f7a4 rfl rfl rfl (by decide +kernel) ⟨Nat.le_of_ble_eq_true rfl, Nat.le_of_ble_eq_true rfl⟩) trivial hK rfl hl.1 rfl (Nat.le_of_ble_eq_true rfl) dX3_slip_28 ⟨Nat.le_of_ble_eq_true rfl, Nat.le_of_ble_eq_true rfl⟩ ?_
  refine lv_istore (lv' := [(5, .int (zi (cnt (dfB σ c1 k) (σ 1 k).toNat))), (4, .ref (a 8 k)), (3, .ref (a 12 c1)), (0, .ref (a 1 0)), (1, .int (zi (zc))), (2, .int (zi (zk)))]) hx hb dX3_slip_31 hl (by decide) rfl (fun ls hl => ?_)
  refine lv_aload_n hx hb dX3_slip_33 rfl (lv_at hl 2 rfl) ?_
  refine lv_aload hx hb dX3_slip_34 (lv_at hl 1 rfl) ?_
  refine z_getN (C := RX2) (T := TX2) (N := 5) (ref := "HarmoniumDesk$Version") (host := RX3) hx hb hts hiX2 hown hK (z_stay (hI.vk hk).1 hS n8) rfl 2 (by decide) (by decide +kernel) rfl rfl dX3_slip_36 ?_
  have hS0 := hS
  refine wv_V (rest := []) (As := [.ref (a 9 k)]) ⟨hx, hb, hml, hown, hts⟩ (c_X0_takeVoice l g (a 12 c1) (a 13 c1) (σ 10 c1) (σ 9 c1) (σ 12 c1) (by omega) t1 nd01 (a 9 k) (a 10 k) (a 11 k) (σ 1 k) uk lk nuk nlk ⟨hp9, hp10, hp11⟩ (if σ 10 c1 = 0 then uk else lk) (fun h => if_pos h) (fun h => if_neg h) (σ 9 c1).toNat (by omega) (by omega) _) (cwV 1 hts gX3_slip_X0_takeVoice rfl rfl rfl (by decide +kernel) ⟨Nat.le_of_ble_eq_true rfl, Nat.le_of_ble_eq_true rfl⟩) (z_recv hK (hP 0 _ rfl) rfl) (hP.sub [0, 1] rfl) (hsk.stay hS n9 n10 n11) hK rfl hl.1 rfl (Nat.le_of_ble_eq_true rfl) dX3_slip_39 ⟨Nat.le_of_ble_eq_true rfl, Nat.le_of_ble_eq_true rfl⟩ hS (va_free hD hS hA [0, 1] rfl) (fun H1 locs hP1 hz1 hk1 hS => ?_)
  have hD1 : ∀ z9, va_D (va_A [((a 12 c1), .inr (0, [.int (zi (σ 10 c1)), .int (zi (σ 9 c1)), .ref (a 13 c1), .int (zi (σ 12 c1))])), ((a 13 c1), .inl (g.2.1, 12, .inl (fun j9 => zi ((t1) j9))))] z9) [((a 12 c1), .inr (0, [.int (zi (σ 10 c1)), .int (zi (σ 9 c1)), .ref (a 13 c1), .int (zi (σ 12 c1))])), ((a 13 c1), .inl (g.2.1, 12, .inl (fun j9 => zi ((mx (σ 9 c1).toNat (if σ 10 c1 = 0 then uk else lk) t1) j9))))] := fun _ => z_D (hD.sub (ws' := [((a 12 c1), .inr (0, [.int (zi (σ 10 c1)), .int (zi (σ 9 c1)), .ref (a 13 c1), .int (zi (σ 12 c1))])), ((a 13 c1), .inl (g.2.1, 12, .inl (fun j9 => zi ((t1) j9))))]) [0, 1] (by decide) rfl).self rfl
  obtain ⟨hP, hD⟩ := va_join (wr := []) (w1 := [((a 12 c1), .inr (0, [.int (zi (σ 10 c1)), .int (zi (σ 9 c1)), .ref (a 13 c1), .int (zi (σ 12 c1))])), ((a 13 c1), .inl (g.2.1, 12, .inl (fun j9 => zi ((mx (σ 9 c1).toNat (if σ 10 c1 = 0 then uk else lk) t1) j9))))]) hP hD [0, 1] [] rfl rfl (by decide) (by decide) hk1 (va_free hD hS0 hA [0, 1] rfl) hP1 (hD1 _)
  generalize H1 = H at hP hS ⊢
  have hP : va_P g.1 vwCl [((a 12 c1), .inr (0, [.int (zi (σ 10 c1)), .int (zi (σ 9 c1)), .ref (a 13 c1), .int (zi (σ 12 c1))])), ((a 13 c1), .inl (g.2.1, 12, .inl (fun j9 => zi ((mx (σ 9 c1).toNat (if σ 10 c1 = 0 then uk else lk) t1) j9))))] H := hP
  have hD : va_D (va_A [((a 12 c1), .inr (0, [.int (zi (σ 10 c1)), .int (zi (σ 9 c1)), .ref (a 13 c1), .int (zi (σ 12 c1))])), ((a 13 c1), .inl (g.2.1, 12, .inl (fun j9 => zi ((t1) j9))))] s.heap.size) [((a 12 c1), .inr (0, [.int (zi (σ 10 c1)), .int (zi (σ 9 c1)), .ref (a 13 c1), .int (zi (σ 12 c1))])), ((a 13 c1), .inl (g.2.1, 12, .inl (fun j9 => zi ((mx (σ 9 c1).toNat (if σ 10 c1 = 0 then uk else lk) t1) j9))))] := hD
  refine lv_aload_n hx hb dX3_slip_42 rfl (lv_at hl 2 rfl) ?_
  refine lv_dup hx hb dX3_slip_43 rfl ?_
  refine z_getN (C := RX0) (T := TX0) (N := 4) (ref := "HarmoniumDesk$Copy") (host := RX3) hx hb hts hiX0 hown hK (hP 0 _ rfl) rfl 3 (by decide) (by decide +kernel) rfl rfl dX3_slip_44 ?_
  refine lv_iload hx hb dX3_slip_47 (lv_at hl 0 rfl) ?_
  refine z_iadd hx hb dX3_slip_49 ?_
  refine z_putN (v := .int (zi ((σ 12 c1) + (cnt (dfB σ c1 k) (σ 1 k).toNat)))) (C := RX0) (T := TX0) (N := 4) (ref := "HarmoniumDesk$Copy") (host := RX3) hx hb hts hiX0 tyX0 tyX0_ok nmX0 hown hK hP hD hS 0 rfl rfl 3 (by decide) (by decide +kernel) rfl rfl rfl rfl (Nat.le_of_ble_eq_true rfl) dX3_slip_50 (fun H locs hP hD hS => ?_)
  have hP : va_P g.1 vwCl [((a 12 c1), .inr (0, [.int (zi (σ 10 c1)), .int (zi (σ 9 c1)), .ref (a 13 c1), .int (zi ((σ 12 c1) + (cnt (dfB σ c1 k) (σ 1 k).toNat)))])), ((a 13 c1), .inl (g.2.1, 12, .inl (fun j9 => zi ((mx (σ 9 c1).toNat (if σ 10 c1 = 0 then uk else lk) t1) j9))))] H := hP
  have hD : va_D (va_A [((a 12 c1), .inr (0, [.int (zi (σ 10 c1)), .int (zi (σ 9 c1)), .ref (a 13 c1), .int (zi (σ 12 c1))])), ((a 13 c1), .inl (g.2.1, 12, .inl (fun j9 => zi ((t1) j9))))] s.heap.size) [((a 12 c1), .inr (0, [.int (zi (σ 10 c1)), .int (zi (σ 9 c1)), .ref (a 13 c1), .int (zi ((σ 12 c1) + (cnt (dfB σ c1 k) (σ 1 k).toNat)))])), ((a 13 c1), .inl (g.2.1, 12, .inl (fun j9 => zi ((mx (σ 9 c1).toNat (if σ 10 c1 = 0 then uk else lk) t1) j9))))] := hD
  refine lv_iload hx hb dX3_slip_53 (lv_at hl 0 rfl) ?_
  exact z_dwret (a) hx hb hr hlk dX3_slip_55 (rfl) (DI.slip (t := t1) (w := (if σ 10 c1 = 0 then uk else lk)) hI hc (fun c9 h9 => (hW.cp h9).1.2) hS hln (nb := (σ 9 c1).toNat) (by omega) (hP 0 _ rfl) (hP 1 _ rfl) (by split; exact nuk; exact nlk) nt1 (fun b hb => hwn b (by omega))) (DE_same rfl rfl) hfA hS
