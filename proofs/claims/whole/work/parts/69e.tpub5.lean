/-! ===== the Desk's calls that throw behind calls that go well ===== -/
set_option maxHeartbeats 4000000 in
set_option maxRecDepth 100000 in
theorem c_X3_merge_x2 (l : Launch) (hfl : l.stackTraces = false) (g : gG) (σ : SG) (a : AD) (hW : WF σ) (i : Nat) (hi : (i : Int) < σ 0 0) (zi1 : Int) (hzi : zi1 = (i : Int)) (z : Int) (hz : zr z) (hbad : ¬ (0 ≤ z ∧ z < σ 0 0)) : XT l yX3_merge wsX3_merge ({ frames := 7, cells := 1, slots := 6, locals := 112 }) g [.ref (a 1 0), .int (zi (zi1)), .int (zi (z))] (DI g σ a) eI := by
  refine ZT.ofW (cc := cX3_merge) (maxL := 7) (ret := (some .int)) (by decide) rfl (Nat.le_of_ble_eq_true rfl) ?_
  intro p e s m below meth c ls hx hb hr hml hown hts hlk hte hP hK hT hl
  have hown : s.vm.findClass RX3 = some m.cls := hown
  have hl : lv_has ls 7 [(0, .ref (a 1 0)), (1, .int (zi (zi1))), (2, .int (zi (z)))] := hl
  have hn := hW.n
  refine lv_aload_n hx hb dX3_merge_0 rfl (lv_at hl 0 rfl) ?_
  refine lv_iload_n hx hb dX3_merge_1 rfl (lv_at hl 1 rfl) ?_
  refine rq_V (rest := []) (As := [.int (zi (zi1))]) ⟨hx, hb, hml, hown, hts⟩ (c_X3_findVersion l g σ a hW i hi (zi1) (by omega)) (cwV 1 hts gX3_merge_X3_findVersion rfl rfl rfl (by decide +kernel) ⟨Nat.le_of_ble_eq_true rfl, Nat.le_of_ble_eq_true rfl⟩) (z_recv hK hP.ob rfl) hP hK rfl hl.1 rfl (Nat.le_of_ble_eq_true rfl) dX3_merge_2 ⟨Nat.zero_le _, Nat.zero_le _⟩ ?_
  refine lv_astore_n (lv' := [(3, .ref (a 8 i)), (0, .ref (a 1 0)), (1, .int (zi (zi1))), (2, .int (zi (z)))]) hx hb dX3_merge_5 rfl hl (by decide) rfl (fun ls hl => ?_)
  refine lv_aload_n hx hb dX3_merge_6 rfl (lv_at hl 1 rfl) ?_
  refine lv_iload_n hx hb dX3_merge_7 rfl (lv_at hl 3 rfl) ?_
  exact zx_V (rest := []) (As := [.int (zi (z))]) ⟨hx, hb, hml, hown, hts⟩ (c_X3_findVersion_x l hfl g σ a hW (z) hz hbad) (cwV 1 hts gX3_merge_X3_findVersion rfl rfl rfl (by decide +kernel) ⟨Nat.le_of_ble_eq_true rfl, Nat.le_of_ble_eq_true rfl⟩) (z_recv hK hP.ob rfl) hP hK hT rfl hl.1 rfl (Nat.le_of_ble_eq_true rfl) dX3_merge_8 ⟨Nat.le_of_ble_eq_true rfl, Nat.le_of_ble_eq_true rfl⟩ hte hlk

set_option maxHeartbeats 4000000 in
set_option maxRecDepth 100000 in
theorem c_X3_base_x2 (l : Launch) (hfl : l.stackTraces = false) (g : gG) (σ : SG) (a : AD) (hW : WF σ) (i : Nat) (hi : (i : Int) < σ 0 0) (zi1 : Int) (hzi : zi1 = (i : Int)) (z : Int) (hz : zr z) (hbad : ¬ (0 ≤ z ∧ z < σ 0 0)) : XT l yX3_base wsX3_base ({ frames := 7, cells := 1, slots := 6, locals := 112 }) g [.ref (a 1 0), .int (zi (zi1)), .int (zi (z))] (DI g σ a) eI := by
  refine ZT.ofW (cc := cX3_base) (maxL := 4) (ret := (some .int)) (by decide) rfl (Nat.le_of_ble_eq_true rfl) ?_
  intro p e s m below meth c ls hx hb hr hml hown hts hlk hte hP hK hT hl
  have hown : s.vm.findClass RX3 = some m.cls := hown
  have hl : lv_has ls 4 [(0, .ref (a 1 0)), (1, .int (zi (zi1))), (2, .int (zi (z)))] := hl
  have hn := hW.n
  refine lv_aload_n hx hb dX3_base_0 rfl (lv_at hl 0 rfl) ?_
  refine lv_iload_n hx hb dX3_base_1 rfl (lv_at hl 1 rfl) ?_
  refine rq_V (rest := []) (As := [.int (zi (zi1))]) ⟨hx, hb, hml, hown, hts⟩ (c_X3_findVersion l g σ a hW i hi (zi1) (by omega)) (cwV 1 hts gX3_base_X3_findVersion rfl rfl rfl (by decide +kernel) ⟨Nat.le_of_ble_eq_true rfl, Nat.le_of_ble_eq_true rfl⟩) (z_recv hK hP.ob rfl) hP hK rfl hl.1 rfl (Nat.le_of_ble_eq_true rfl) dX3_base_2 ⟨Nat.zero_le _, Nat.zero_le _⟩ ?_
  refine lv_aload_n hx hb dX3_base_5 rfl (lv_at hl 0 rfl) ?_
  refine lv_iload_n hx hb dX3_base_6 rfl (lv_at hl 2 rfl) ?_
  exact zx_V (rest := [.ref (a 8 i)]) (As := [.int (zi (z))]) ⟨hx, hb, hml, hown, hts⟩ (c_X3_findVersion_x l hfl g σ a hW (z) hz hbad) (cwV 1 hts gX3_base_X3_findVersion rfl rfl rfl (by decide +kernel) ⟨Nat.le_of_ble_eq_true rfl, Nat.le_of_ble_eq_true rfl⟩) (z_recv hK hP.ob rfl) hP hK hT rfl hl.1 rfl (Nat.le_of_ble_eq_true rfl) dX3_base_7 ⟨Nat.le_of_ble_eq_true rfl, Nat.le_of_ble_eq_true rfl⟩ hte hlk

set_option maxHeartbeats 4000000 in
set_option maxRecDepth 100000 in
theorem c_X3_conflicts_x2 (l : Launch) (hfl : l.stackTraces = false) (g : gG) (σ : SG) (a : AD) (hW : WF σ) (i : Nat) (hi : (i : Int) < σ 0 0) (zi1 : Int) (hzi : zi1 = (i : Int)) (z : Int) (hz : zr z) (hbad : ¬ (0 ≤ z ∧ z < σ 0 0)) : XT l yX3_conflicts wsX3_conflicts ({ frames := 7, cells := 1, slots := 6, locals := 112 }) g [.ref (a 1 0), .int (zi (zi1)), .int (zi (z))] (DI g σ a) eI := by
  refine ZT.ofW (cc := cX3_conflicts) (maxL := 6) (ret := (some .int)) (by decide) rfl (Nat.le_of_ble_eq_true rfl) ?_
  intro p e s m below meth c ls hx hb hr hml hown hts hlk hte hP hK hT hl
  have hown : s.vm.findClass RX3 = some m.cls := hown
  have hl : lv_has ls 6 [(0, .ref (a 1 0)), (1, .int (zi (zi1))), (2, .int (zi (z)))] := hl
  have hn := hW.n
  refine lv_aload_n hx hb dX3_conflicts_0 rfl (lv_at hl 0 rfl) ?_
  refine lv_iload_n hx hb dX3_conflicts_1 rfl (lv_at hl 1 rfl) ?_
  refine rq_V (rest := []) (As := [.int (zi (zi1))]) ⟨hx, hb, hml, hown, hts⟩ (c_X3_findVersion l g σ a hW i hi (zi1) (by omega)) (cwV 1 hts gX3_conflicts_X3_findVersion rfl rfl rfl (by decide +kernel) ⟨Nat.le_of_ble_eq_true rfl, Nat.le_of_ble_eq_true rfl⟩) (z_recv hK hP.ob rfl) hP hK rfl hl.1 rfl (Nat.le_of_ble_eq_true rfl) dX3_conflicts_2 ⟨Nat.zero_le _, Nat.zero_le _⟩ ?_
  refine lv_astore_n (lv' := [(3, .ref (a 8 i)), (0, .ref (a 1 0)), (1, .int (zi (zi1))), (2, .int (zi (z)))]) hx hb dX3_conflicts_5 rfl hl (by decide) rfl (fun ls hl => ?_)
  refine lv_aload_n hx hb dX3_conflicts_6 rfl (lv_at hl 1 rfl) ?_
  refine lv_iload_n hx hb dX3_conflicts_7 rfl (lv_at hl 3 rfl) ?_
  exact zx_V (rest := []) (As := [.int (zi (z))]) ⟨hx, hb, hml, hown, hts⟩ (c_X3_findVersion_x l hfl g σ a hW (z) hz hbad) (cwV 1 hts gX3_conflicts_X3_findVersion rfl rfl rfl (by decide +kernel) ⟨Nat.le_of_ble_eq_true rfl, Nat.le_of_ble_eq_true rfl⟩) (z_recv hK hP.ob rfl) hP hK hT rfl hl.1 rfl (Nat.le_of_ble_eq_true rfl) dX3_conflicts_8 ⟨Nat.le_of_ble_eq_true rfl, Nat.le_of_ble_eq_true rfl⟩ hte hlk

set_option maxHeartbeats 4000000 in
set_option maxRecDepth 100000 in
theorem c_X3_errata_x2 (l : Launch) (hfl : l.stackTraces = false) (g : gG) (σ : SG) (a : AD) (hW : WF σ) (c1 : Nat) (hc : (c1 : Int) < σ 8 0) (zc : Int) (hzc : zc = (c1 : Int)) (z : Int) (hz : zr z) (hbad : ¬ (0 ≤ z ∧ z < σ 0 0)) : XT l yX3_errata wsX3_errata ({ frames := 7, cells := 1, slots := 6, locals := 112 }) g [.ref (a 1 0), .int (zi (zc)), .int (zi (z))] (DI g σ a) eI := by
  refine ZT.ofW (cc := cX3_errata) (maxL := 5) (ret := (some .int)) (by decide) rfl (Nat.le_of_ble_eq_true rfl) ?_
  intro p e s m below meth c ls hx hb hr hml hown hts hlk hte hP hK hT hl
  have hown : s.vm.findClass RX3 = some m.cls := hown
  have hl : lv_has ls 5 [(0, .ref (a 1 0)), (1, .int (zi (zc))), (2, .int (zi (z)))] := hl
  have hn := hW.n
  have hcn := hW.cn
  refine lv_aload_n hx hb dX3_errata_0 rfl (lv_at hl 0 rfl) ?_
  refine lv_iload_n hx hb dX3_errata_1 rfl (lv_at hl 1 rfl) ?_
  refine rq_V (rest := []) (As := [.int (zi (zc))]) ⟨hx, hb, hml, hown, hts⟩ (c_X3_findCopy l g σ a hW c1 hc (zc) (by omega)) (cwV 1 hts gX3_errata_X3_findCopy rfl rfl rfl (by decide +kernel) ⟨Nat.le_of_ble_eq_true rfl, Nat.le_of_ble_eq_true rfl⟩) (z_recv hK hP.ob rfl) hP hK rfl hl.1 rfl (Nat.le_of_ble_eq_true rfl) dX3_errata_2 ⟨Nat.zero_le _, Nat.zero_le _⟩ ?_
  refine lv_astore_n (lv' := [(3, .ref (a 12 c1)), (0, .ref (a 1 0)), (1, .int (zi (zc))), (2, .int (zi (z)))]) hx hb dX3_errata_5 rfl hl (by decide) rfl (fun ls hl => ?_)
  refine lv_aload_n hx hb dX3_errata_6 rfl (lv_at hl 1 rfl) ?_
  refine lv_iload_n hx hb dX3_errata_7 rfl (lv_at hl 3 rfl) ?_
  exact zx_V (rest := []) (As := [.int (zi (z))]) ⟨hx, hb, hml, hown, hts⟩ (c_X3_findVersion_x l hfl g σ a hW (z) hz hbad) (cwV 1 hts gX3_errata_X3_findVersion rfl rfl rfl (by decide +kernel) ⟨Nat.le_of_ble_eq_true rfl, Nat.le_of_ble_eq_true rfl⟩) (z_recv hK hP.ob rfl) hP hK hT rfl hl.1 rfl (Nat.le_of_ble_eq_true rfl) dX3_errata_8 ⟨Nat.le_of_ble_eq_true rfl, Nat.le_of_ble_eq_true rfl⟩ hte hlk

set_option maxHeartbeats 4000000 in
set_option maxRecDepth 100000 in
theorem c_X3_slip_x2 (l : Launch) (hfl : l.stackTraces = false) (g : gG) (σ : SG) (a : AD) (hW : WF σ) (c1 : Nat) (hc : (c1 : Int) < σ 8 0) (zc : Int) (hzc : zc = (c1 : Int)) (z : Int) (hz : zr z) (hbad : ¬ (0 ≤ z ∧ z < σ 0 0)) : XT l yX3_slip wsX3_slip ({ frames := 7, cells := 1, slots := 6, locals := 112 }) g [.ref (a 1 0), .int (zi (zc)), .int (zi (z))] (DI g σ a) eI := by
  refine ZT.ofW (cc := cX3_slip) (maxL := 6) (ret := (some .int)) (by decide) rfl (Nat.le_of_ble_eq_true rfl) ?_
  intro p e s m below meth c ls hx hb hr hml hown hts hlk hte hP hK hT hl
  have hown : s.vm.findClass RX3 = some m.cls := hown
  have hl : lv_has ls 6 [(0, .ref (a 1 0)), (1, .int (zi (zc))), (2, .int (zi (z)))] := hl
  have hn := hW.n
  have hcn := hW.cn
  refine lv_aload_n hx hb dX3_slip_0 rfl (lv_at hl 0 rfl) ?_
  refine lv_iload_n hx hb dX3_slip_1 rfl (lv_at hl 1 rfl) ?_
  refine rq_V (rest := []) (As := [.int (zi (zc))]) ⟨hx, hb, hml, hown, hts⟩ (c_X3_findCopy l g σ a hW c1 hc (zc) (by omega)) (cwV 1 hts gX3_slip_X3_findCopy rfl rfl rfl (by decide +kernel) ⟨Nat.le_of_ble_eq_true rfl, Nat.le_of_ble_eq_true rfl⟩) (z_recv hK hP.ob rfl) hP hK rfl hl.1 rfl (Nat.le_of_ble_eq_true rfl) dX3_slip_2 ⟨Nat.zero_le _, Nat.zero_le _⟩ ?_
  refine lv_astore_n (lv' := [(3, .ref (a 12 c1)), (0, .ref (a 1 0)), (1, .int (zi (zc))), (2, .int (zi (z)))]) hx hb dX3_slip_5 rfl hl (by decide) rfl (fun ls hl => ?_)
  refine lv_aload_n hx hb dX3_slip_6 rfl (lv_at hl 1 rfl) ?_
  refine lv_iload_n hx hb dX3_slip_7 rfl (lv_at hl 3 rfl) ?_
  exact zx_V (rest := []) (As := [.int (zi (z))]) ⟨hx, hb, hml, hown, hts⟩ (c_X3_findVersion_x l hfl g σ a hW (z) hz hbad) (cwV 1 hts gX3_slip_X3_findVersion rfl rfl rfl (by decide +kernel) ⟨Nat.le_of_ble_eq_true rfl, Nat.le_of_ble_eq_true rfl⟩) (z_recv hK hP.ob rfl) hP hK hT rfl hl.1 rfl (Nat.le_of_ble_eq_true rfl) dX3_slip_8 ⟨Nat.le_of_ble_eq_true rfl, Nat.le_of_ble_eq_true rfl⟩ hte hlk

set_option maxHeartbeats 4000000 in
set_option maxRecDepth 100000 in
theorem c_X3_errata_x3 (l : Launch) (hfl : l.stackTraces = false) (g : gG) (σ : SG) (a : AD) (hW : WF σ) (c1 : Nat) (hc : (c1 : Int) < σ 8 0) (zc : Int) (hzc : zc = (c1 : Int)) (k : Nat) (hk : (k : Int) < σ 0 0) (zk : Int) (hzk : zk = (k : Int)) (hln : ¬ σ 1 k = σ 9 c1) : XT l yX3_errata wsX3_errata ({ frames := 7, cells := 1, slots := 6, locals := 111 }) g [.ref (a 1 0), .int (zi (zc)), .int (zi (zk))] (DI g σ a) eS := by
  refine ZT.ofW (cc := cX3_errata) (maxL := 5) (ret := (some .int)) (by decide) rfl (Nat.le_of_ble_eq_true rfl) ?_
  intro p e s m below meth c ls hx hb hr hml hown hts hlk hte hP hK hT hl
  have hown : s.vm.findClass RX3 = some m.cls := hown
  have hl : lv_has ls 5 [(0, .ref (a 1 0)), (1, .int (zi (zc))), (2, .int (zi (zk)))] := hl
  have hn := hW.n
  have hbk := hW.bars hk
  obtain ⟨uk, lk, hsk, nuk, nlk, eqk⟩ := (hP.vk hk).2
  have hcn := hW.cn
  refine lv_aload_n hx hb dX3_errata_0 rfl (lv_at hl 0 rfl) ?_
  refine lv_iload_n hx hb dX3_errata_1 rfl (lv_at hl 1 rfl) ?_
  refine rq_V (rest := []) (As := [.int (zi (zc))]) ⟨hx, hb, hml, hown, hts⟩ (c_X3_findCopy l g σ a hW c1 hc (zc) (by omega)) (cwV 1 hts gX3_errata_X3_findCopy rfl rfl rfl (by decide +kernel) ⟨Nat.le_of_ble_eq_true rfl, Nat.le_of_ble_eq_true rfl⟩) (z_recv hK hP.ob rfl) hP hK rfl hl.1 rfl (Nat.le_of_ble_eq_true rfl) dX3_errata_2 ⟨Nat.zero_le _, Nat.zero_le _⟩ ?_
  refine lv_astore_n (lv' := [(3, .ref (a 12 c1)), (0, .ref (a 1 0)), (1, .int (zi (zc))), (2, .int (zi (zk)))]) hx hb dX3_errata_5 rfl hl (by decide) rfl (fun ls hl => ?_)
  refine lv_aload_n hx hb dX3_errata_6 rfl (lv_at hl 1 rfl) ?_
  refine lv_iload_n hx hb dX3_errata_7 rfl (lv_at hl 3 rfl) ?_
  refine rq_V (rest := []) (As := [.int (zi (zk))]) ⟨hx, hb, hml, hown, hts⟩ (c_X3_findVersion l g σ a hW k hk (zk) (by omega)) (cwV 1 hts gX3_errata_X3_findVersion rfl rfl rfl (by decide +kernel) ⟨Nat.le_of_ble_eq_true rfl, Nat.le_of_ble_eq_true rfl⟩) (z_recv hK hP.ob rfl) hP hK rfl hl.1 rfl (Nat.le_of_ble_eq_true rfl) dX3_errata_8 ⟨Nat.zero_le _, Nat.zero_le _⟩ ?_
  refine lv_astore (lv' := [(4, .ref (a 8 k)), (3, .ref (a 12 c1)), (0, .ref (a 1 0)), (1, .int (zi (zc))), (2, .int (zi (zk)))]) hx hb dX3_errata_11 hl (by decide) rfl (fun ls hl => ?_)
  refine lv_aload_n hx hb dX3_errata_13 rfl (lv_at hl 1 rfl) ?_
  refine lv_aload hx hb dX3_errata_14 (lv_at hl 0 rfl) ?_
  exact zx_S (rest := []) (As := [.ref (a 12 c1), .ref (a 8 k)]) ⟨hx, hb, hml, hown, hts⟩ (c_X3_checkAsManyBars_x l hfl g σ a hW c1 hc k hk hln) (cwS 2 hts gX3_errata_X3_checkAsManyBars rfl rfl rfl (by decide +kernel) ⟨Nat.le_of_ble_eq_true rfl, Nat.le_of_ble_eq_true rfl⟩) hP hK hT rfl hl.1 rfl (Nat.le_of_ble_eq_true rfl) dX3_errata_16 ⟨Nat.le_of_ble_eq_true rfl, Nat.le_of_ble_eq_true rfl⟩ hte hlk

set_option maxHeartbeats 4000000 in
set_option maxRecDepth 100000 in
theorem c_X3_slip_x3 (l : Launch) (hfl : l.stackTraces = false) (g : gG) (σ : SG) (a : AD) (hW : WF σ) (c1 : Nat) (hc : (c1 : Int) < σ 8 0) (zc : Int) (hzc : zc = (c1 : Int)) (k : Nat) (hk : (k : Int) < σ 0 0) (zk : Int) (hzk : zk = (k : Int)) (hln : ¬ σ 1 k = σ 9 c1) : XT l yX3_slip wsX3_slip ({ frames := 7, cells := 1, slots := 6, locals := 111 }) g [.ref (a 1 0), .int (zi (zc)), .int (zi (zk))] (DI g σ a) eS := by
  refine ZT.ofW (cc := cX3_slip) (maxL := 6) (ret := (some .int)) (by decide) rfl (Nat.le_of_ble_eq_true rfl) ?_
  intro p e s m below meth c ls hx hb hr hml hown hts hlk hte hP hK hT hl
  have hown : s.vm.findClass RX3 = some m.cls := hown
  have hl : lv_has ls 6 [(0, .ref (a 1 0)), (1, .int (zi (zc))), (2, .int (zi (zk)))] := hl
  have hn := hW.n
  have hbk := hW.bars hk
  obtain ⟨uk, lk, hsk, nuk, nlk, eqk⟩ := (hP.vk hk).2
  have hcn := hW.cn
  refine lv_aload_n hx hb dX3_slip_0 rfl (lv_at hl 0 rfl) ?_
  refine lv_iload_n hx hb dX3_slip_1 rfl (lv_at hl 1 rfl) ?_
  refine rq_V (rest := []) (As := [.int (zi (zc))]) ⟨hx, hb, hml, hown, hts⟩ (c_X3_findCopy l g σ a hW c1 hc (zc) (by omega)) (cwV 1 hts gX3_slip_X3_findCopy rfl rfl rfl (by decide +kernel) ⟨Nat.le_of_ble_eq_true rfl, Nat.le_of_ble_eq_true rfl⟩) (z_recv hK hP.ob rfl) hP hK rfl hl.1 rfl (Nat.le_of_ble_eq_true rfl) dX3_slip_2 ⟨Nat.zero_le _, Nat.zero_le _⟩ ?_
  refine lv_astore_n (lv' := [(3, .ref (a 12 c1)), (0, .ref (a 1 0)), (1, .int (zi (zc))), (2, .int (zi (zk)))]) hx hb dX3_slip_5 rfl hl (by decide) rfl (fun ls hl => ?_)
  refine lv_aload_n hx hb dX3_slip_6 rfl (lv_at hl 1 rfl) ?_
  refine lv_iload_n hx hb dX3_slip_7 rfl (lv_at hl 3 rfl) ?_
  refine rq_V (rest := []) (As := [.int (zi (zk))]) ⟨hx, hb, hml, hown, hts⟩ (c_X3_findVersion l g σ a hW k hk (zk) (by omega)) (cwV 1 hts gX3_slip_X3_findVersion rfl rfl rfl (by decide +kernel) ⟨Nat.le_of_ble_eq_true rfl, Nat.le_of_ble_eq_true rfl⟩) (z_recv hK hP.ob rfl) hP hK rfl hl.1 rfl (Nat.le_of_ble_eq_true rfl) dX3_slip_8 ⟨Nat.zero_le _, Nat.zero_le _⟩ ?_
  refine lv_astore (lv' := [(4, .ref (a 8 k)), (3, .ref (a 12 c1)), (0, .ref (a 1 0)), (1, .int (zi (zc))), (2, .int (zi (zk)))]) hx hb dX3_slip_11 hl (by decide) rfl (fun ls hl => ?_)
  refine lv_aload_n hx hb dX3_slip_13 rfl (lv_at hl 1 rfl) ?_
  refine lv_aload hx hb dX3_slip_14 (lv_at hl 0 rfl) ?_
  exact zx_S (rest := []) (As := [.ref (a 12 c1), .ref (a 8 k)]) ⟨hx, hb, hml, hown, hts⟩ (c_X3_checkAsManyBars_x l hfl g σ a hW c1 hc k hk hln) (cwS 2 hts gX3_slip_X3_checkAsManyBars rfl rfl rfl (by decide +kernel) ⟨Nat.le_of_ble_eq_true rfl, Nat.le_of_ble_eq_true rfl⟩) hP hK hT rfl hl.1 rfl (Nat.le_of_ble_eq_true rfl) dX3_slip_16 ⟨Nat.le_of_ble_eq_true rfl, Nat.le_of_ble_eq_true rfl⟩ hte hlk
