/-! ===== the Desk's calls that throw: the first number is no version or no copy ===== -/
set_option maxHeartbeats 4000000 in
set_option maxRecDepth 100000 in
theorem c_X3_mark_x1 (l : Launch) (hfl : l.stackTraces = false) (g : gG) (σ : SG) (a : AD) (hW : WF σ) (z1 : Int) (hz : zr z1) (hbad : ¬ (0 ≤ z1 ∧ z1 < σ 0 0)) : XT l yX3_mark wsX3_mark ({ frames := 7, cells := 1, slots := 6, locals := 120 }) g [.ref (a 1 0), .int (zi z1)] (DI g σ a) eI := by
  refine ZT.ofW (cc := cX3_mark) (maxL := 2) (ret := (some .int)) (by decide) rfl (Nat.le_of_ble_eq_true rfl) ?_
  intro p e s m below meth c ls hx hb hr hml hown hts hlk hte hP hK hT hl
  have hown : s.vm.findClass RX3 = some m.cls := hown
  have hl : lv_has ls 2 [(0, .ref (a 1 0)), (1, .int (zi z1))] := hl
  refine lv_aload_n hx hb dX3_mark_0 rfl (lv_at hl 0 rfl) ?_
  refine lv_aload_n hx hb dX3_mark_1 rfl (lv_at hl 0 rfl) ?_
  refine lv_iload_n hx hb dX3_mark_2 rfl (lv_at hl 1 rfl) ?_
  exact zx_V (rest := [.ref (a 1 0)]) (As := [.int (zi z1)]) ⟨hx, hb, hml, hown, hts⟩ (c_X3_findVersion_x l hfl g σ a hW z1 hz hbad) (cwV 1 hts gX3_mark_X3_findVersion rfl rfl rfl (by decide +kernel) ⟨Nat.le_of_ble_eq_true rfl, Nat.le_of_ble_eq_true rfl⟩) (z_recv hK hP.ob rfl) hP hK hT rfl hl.1 rfl (Nat.le_of_ble_eq_true rfl) dX3_mark_3 ⟨Nat.le_of_ble_eq_true rfl, Nat.le_of_ble_eq_true rfl⟩ hte hlk
set_option maxHeartbeats 4000000 in
set_option maxRecDepth 100000 in
theorem c_X3_handIn_x1 (l : Launch) (hfl : l.stackTraces = false) (g : gG) (σ : SG) (a : AD) (hW : WF σ) (z1 : Int) (hz : zr z1) (hbad : ¬ (0 ≤ z1 ∧ z1 < σ 0 0)) : XT l yX3_handIn wsX3_handIn ({ frames := 7, cells := 1, slots := 6, locals := 120 }) g [.ref (a 1 0), .int (zi z1)] (DI g σ a) eI := by
  refine ZT.ofW (cc := cX3_handIn) (maxL := 3) (ret := (some .boolean)) (by decide) rfl (Nat.le_of_ble_eq_true rfl) ?_
  intro p e s m below meth c ls hx hb hr hml hown hts hlk hte hP hK hT hl
  have hown : s.vm.findClass RX3 = some m.cls := hown
  have hl : lv_has ls 3 [(0, .ref (a 1 0)), (1, .int (zi z1))] := hl
  refine lv_aload_n hx hb dX3_handIn_0 rfl (lv_at hl 0 rfl) ?_
  refine lv_iload_n hx hb dX3_handIn_1 rfl (lv_at hl 1 rfl) ?_
  exact zx_V (rest := []) (As := [.int (zi z1)]) ⟨hx, hb, hml, hown, hts⟩ (c_X3_findVersion_x l hfl g σ a hW z1 hz hbad) (cwV 1 hts gX3_handIn_X3_findVersion rfl rfl rfl (by decide +kernel) ⟨Nat.le_of_ble_eq_true rfl, Nat.le_of_ble_eq_true rfl⟩) (z_recv hK hP.ob rfl) hP hK hT rfl hl.1 rfl (Nat.le_of_ble_eq_true rfl) dX3_handIn_2 ⟨Nat.le_of_ble_eq_true rfl, Nat.le_of_ble_eq_true rfl⟩ hte hlk
set_option maxHeartbeats 4000000 in
set_option maxRecDepth 100000 in
theorem c_X3_branch_x1 (l : Launch) (hfl : l.stackTraces = false) (g : gG) (σ : SG) (a : AD) (hW : WF σ) (z1 : Int) (hz : zr z1) (hbad : ¬ (0 ≤ z1 ∧ z1 < σ 0 0)) : XT l yX3_branch wsX3_branch ({ frames := 7, cells := 1, slots := 6, locals := 120 }) g [.ref (a 1 0), .int (zi z1)] (DI g σ a) eI := by
  refine ZT.ofW (cc := cX3_branch) (maxL := 4) (ret := (some .int)) (by decide) rfl (Nat.le_of_ble_eq_true rfl) ?_
  intro p e s m below meth c ls hx hb hr hml hown hts hlk hte hP hK hT hl
  have hown : s.vm.findClass RX3 = some m.cls := hown
  have hl : lv_has ls 4 [(0, .ref (a 1 0)), (1, .int (zi z1))] := hl
  refine lv_aload_n hx hb dX3_branch_0 rfl (lv_at hl 0 rfl) ?_
  refine lv_iload_n hx hb dX3_branch_1 rfl (lv_at hl 1 rfl) ?_
  exact zx_V (rest := []) (As := [.int (zi z1)]) ⟨hx, hb, hml, hown, hts⟩ (c_X3_findVersion_x l hfl g σ a hW z1 hz hbad) (cwV 1 hts gX3_branch_X3_findVersion rfl rfl rfl (by decide +kernel) ⟨Nat.le_of_ble_eq_true rfl, Nat.le_of_ble_eq_true rfl⟩) (z_recv hK hP.ob rfl) hP hK hT rfl hl.1 rfl (Nat.le_of_ble_eq_true rfl) dX3_branch_2 ⟨Nat.le_of_ble_eq_true rfl, Nat.le_of_ble_eq_true rfl⟩ hte hlk
set_option maxHeartbeats 4000000 in
set_option maxRecDepth 100000 in
theorem c_X3_setNote_x1 (l : Launch) (hfl : l.stackTraces = false) (g : gG) (σ : SG) (a : AD) (hW : WF σ) (z1 z2 z3 z4 : Int) (hz : zr z1) (hbad : ¬ (0 ≤ z1 ∧ z1 < σ 0 0)) : XT l yX3_setNote wsX3_setNote ({ frames := 7, cells := 1, slots := 6, locals := 120 }) g [.ref (a 1 0), .int (zi z1), .int (zi z2), .int (zi z3), .int (zi z4)] (DI g σ a) eI := by
  refine ZT.ofW (cc := cX3_setNote) (maxL := 7) (ret := (some .int)) (by decide) rfl (Nat.le_of_ble_eq_true rfl) ?_
  intro p e s m below meth c ls hx hb hr hml hown hts hlk hte hP hK hT hl
  have hown : s.vm.findClass RX3 = some m.cls := hown
  have hl : lv_has ls 7 [(0, .ref (a 1 0)), (1, .int (zi z1)), (2, .int (zi z2)), (3, .int (zi z3)), (4, .int (zi z4))] := hl
  refine lv_aload_n hx hb dX3_setNote_0 rfl (lv_at hl 0 rfl) ?_
  refine lv_iload_n hx hb dX3_setNote_1 rfl (lv_at hl 1 rfl) ?_
  exact zx_V (rest := []) (As := [.int (zi z1)]) ⟨hx, hb, hml, hown, hts⟩ (c_X3_findVersion_x l hfl g σ a hW z1 hz hbad) (cwV 1 hts gX3_setNote_X3_findVersion rfl rfl rfl (by decide +kernel) ⟨Nat.le_of_ble_eq_true rfl, Nat.le_of_ble_eq_true rfl⟩) (z_recv hK hP.ob rfl) hP hK hT rfl hl.1 rfl (Nat.le_of_ble_eq_true rfl) dX3_setNote_2 ⟨Nat.le_of_ble_eq_true rfl, Nat.le_of_ble_eq_true rfl⟩ hte hlk
set_option maxHeartbeats 4000000 in
set_option maxRecDepth 100000 in
theorem c_X3_note_x1 (l : Launch) (hfl : l.stackTraces = false) (g : gG) (σ : SG) (a : AD) (hW : WF σ) (z1 z2 z3 : Int) (hz : zr z1) (hbad : ¬ (0 ≤ z1 ∧ z1 < σ 0 0)) : XT l yX3_note wsX3_note ({ frames := 7, cells := 1, slots := 6, locals := 120 }) g [.ref (a 1 0), .int (zi z1), .int (zi z2), .int (zi z3)] (DI g σ a) eI := by
  refine ZT.ofW (cc := cX3_note) (maxL := 5) (ret := (some .int)) (by decide) rfl (Nat.le_of_ble_eq_true rfl) ?_
  intro p e s m below meth c ls hx hb hr hml hown hts hlk hte hP hK hT hl
  have hown : s.vm.findClass RX3 = some m.cls := hown
  have hl : lv_has ls 5 [(0, .ref (a 1 0)), (1, .int (zi z1)), (2, .int (zi z2)), (3, .int (zi z3))] := hl
  refine lv_aload_n hx hb dX3_note_0 rfl (lv_at hl 0 rfl) ?_
  refine lv_iload_n hx hb dX3_note_1 rfl (lv_at hl 1 rfl) ?_
  exact zx_V (rest := []) (As := [.int (zi z1)]) ⟨hx, hb, hml, hown, hts⟩ (c_X3_findVersion_x l hfl g σ a hW z1 hz hbad) (cwV 1 hts gX3_note_X3_findVersion rfl rfl rfl (by decide +kernel) ⟨Nat.le_of_ble_eq_true rfl, Nat.le_of_ble_eq_true rfl⟩) (z_recv hK hP.ob rfl) hP hK hT rfl hl.1 rfl (Nat.le_of_ble_eq_true rfl) dX3_note_2 ⟨Nat.le_of_ble_eq_true rfl, Nat.le_of_ble_eq_true rfl⟩ hte hlk
set_option maxHeartbeats 4000000 in
set_option maxRecDepth 100000 in
theorem c_X3_faults_x1 (l : Launch) (hfl : l.stackTraces = false) (g : gG) (σ : SG) (a : AD) (hW : WF σ) (z1 z2 z3 : Int) (hz : zr z1) (hbad : ¬ (0 ≤ z1 ∧ z1 < σ 0 0)) : XT l yX3_faults wsX3_faults ({ frames := 7, cells := 1, slots := 6, locals := 120 }) g [.ref (a 1 0), .int (zi z1), .int (zi z2), .int (zi z3)] (DI g σ a) eI := by
  refine ZT.ofW (cc := cX3_faults) (maxL := 5) (ret := (some .int)) (by decide) rfl (Nat.le_of_ble_eq_true rfl) ?_
  intro p e s m below meth c ls hx hb hr hml hown hts hlk hte hP hK hT hl
  have hown : s.vm.findClass RX3 = some m.cls := hown
  have hl : lv_has ls 5 [(0, .ref (a 1 0)), (1, .int (zi z1)), (2, .int (zi z2)), (3, .int (zi z3))] := hl
  refine lv_aload_n hx hb dX3_faults_0 rfl (lv_at hl 0 rfl) ?_
  refine lv_iload_n hx hb dX3_faults_1 rfl (lv_at hl 1 rfl) ?_
  exact zx_V (rest := []) (As := [.int (zi z1)]) ⟨hx, hb, hml, hown, hts⟩ (c_X3_findVersion_x l hfl g σ a hW z1 hz hbad) (cwV 1 hts gX3_faults_X3_findVersion rfl rfl rfl (by decide +kernel) ⟨Nat.le_of_ble_eq_true rfl, Nat.le_of_ble_eq_true rfl⟩) (z_recv hK hP.ob rfl) hP hK hT rfl hl.1 rfl (Nat.le_of_ble_eq_true rfl) dX3_faults_2 ⟨Nat.le_of_ble_eq_true rfl, Nat.le_of_ble_eq_true rfl⟩ hte hlk
set_option maxHeartbeats 4000000 in
set_option maxRecDepth 100000 in
theorem c_X3_best_x1 (l : Launch) (hfl : l.stackTraces = false) (g : gG) (σ : SG) (a : AD) (hW : WF σ) (z1 z2 z3 : Int) (hz : zr z1) (hbad : ¬ (0 ≤ z1 ∧ z1 < σ 0 0)) : XT l yX3_best wsX3_best ({ frames := 7, cells := 1, slots := 6, locals := 120 }) g [.ref (a 1 0), .int (zi z1), .int (zi z2), .int (zi z3)] (DI g σ a) eI := by
  refine ZT.ofW (cc := cX3_best) (maxL := 5) (ret := (some .int)) (by decide) rfl (Nat.le_of_ble_eq_true rfl) ?_
  intro p e s m below meth c ls hx hb hr hml hown hts hlk hte hP hK hT hl
  have hown : s.vm.findClass RX3 = some m.cls := hown
  have hl : lv_has ls 5 [(0, .ref (a 1 0)), (1, .int (zi z1)), (2, .int (zi z2)), (3, .int (zi z3))] := hl
  refine lv_aload_n hx hb dX3_best_0 rfl (lv_at hl 0 rfl) ?_
  refine lv_iload_n hx hb dX3_best_1 rfl (lv_at hl 1 rfl) ?_
  exact zx_V (rest := []) (As := [.int (zi z1)]) ⟨hx, hb, hml, hown, hts⟩ (c_X3_findVersion_x l hfl g σ a hW z1 hz hbad) (cwV 1 hts gX3_best_X3_findVersion rfl rfl rfl (by decide +kernel) ⟨Nat.le_of_ble_eq_true rfl, Nat.le_of_ble_eq_true rfl⟩) (z_recv hK hP.ob rfl) hP hK hT rfl hl.1 rfl (Nat.le_of_ble_eq_true rfl) dX3_best_2 ⟨Nat.le_of_ble_eq_true rfl, Nat.le_of_ble_eq_true rfl⟩ hte hlk
set_option maxHeartbeats 4000000 in
set_option maxRecDepth 100000 in
theorem c_X3_movement_x1 (l : Launch) (hfl : l.stackTraces = false) (g : gG) (σ : SG) (a : AD) (hW : WF σ) (z1 z2 : Int) (hz : zr z1) (hbad : ¬ (0 ≤ z1 ∧ z1 < σ 0 0)) : XT l yX3_movement wsX3_movement ({ frames := 7, cells := 1, slots := 6, locals := 120 }) g [.ref (a 1 0), .int (zi z1), .int (zi z2)] (DI g σ a) eI := by
  refine ZT.ofW (cc := cX3_movement) (maxL := 5) (ret := (some .float)) (by decide) rfl (Nat.le_of_ble_eq_true rfl) ?_
  intro p e s m below meth c ls hx hb hr hml hown hts hlk hte hP hK hT hl
  have hown : s.vm.findClass RX3 = some m.cls := hown
  have hl : lv_has ls 5 [(0, .ref (a 1 0)), (1, .int (zi z1)), (2, .int (zi z2))] := hl
  refine lv_aload_n hx hb dX3_movement_0 rfl (lv_at hl 0 rfl) ?_
  refine lv_iload_n hx hb dX3_movement_1 rfl (lv_at hl 1 rfl) ?_
  exact zx_V (rest := []) (As := [.int (zi z1)]) ⟨hx, hb, hml, hown, hts⟩ (c_X3_findVersion_x l hfl g σ a hW z1 hz hbad) (cwV 1 hts gX3_movement_X3_findVersion rfl rfl rfl (by decide +kernel) ⟨Nat.le_of_ble_eq_true rfl, Nat.le_of_ble_eq_true rfl⟩) (z_recv hK hP.ob rfl) hP hK hT rfl hl.1 rfl (Nat.le_of_ble_eq_true rfl) dX3_movement_2 ⟨Nat.le_of_ble_eq_true rfl, Nat.le_of_ble_eq_true rfl⟩ hte hlk
set_option maxHeartbeats 4000000 in
set_option maxRecDepth 100000 in
theorem c_X3_print_x1 (l : Launch) (hfl : l.stackTraces = false) (g : gG) (σ : SG) (a : AD) (hW : WF σ) (z1 z2 : Int) (hz : zr z1) (hbad : ¬ (0 ≤ z1 ∧ z1 < σ 0 0)) : XT l yX3_print wsX3_print ({ frames := 7, cells := 1, slots := 6, locals := 120 }) g [.ref (a 1 0), .int (zi z1), .int (zi z2)] (DI g σ a) eI := by
  refine ZT.ofW (cc := cX3_print) (maxL := 5) (ret := (some .int)) (by decide) rfl (Nat.le_of_ble_eq_true rfl) ?_
  intro p e s m below meth c ls hx hb hr hml hown hts hlk hte hP hK hT hl
  have hown : s.vm.findClass RX3 = some m.cls := hown
  have hl : lv_has ls 5 [(0, .ref (a 1 0)), (1, .int (zi z1)), (2, .int (zi z2))] := hl
  refine lv_aload_n hx hb dX3_print_0 rfl (lv_at hl 0 rfl) ?_
  refine lv_iload_n hx hb dX3_print_1 rfl (lv_at hl 1 rfl) ?_
  exact zx_V (rest := []) (As := [.int (zi z1)]) ⟨hx, hb, hml, hown, hts⟩ (c_X3_findVersion_x l hfl g σ a hW z1 hz hbad) (cwV 1 hts gX3_print_X3_findVersion rfl rfl rfl (by decide +kernel) ⟨Nat.le_of_ble_eq_true rfl, Nat.le_of_ble_eq_true rfl⟩) (z_recv hK hP.ob rfl) hP hK hT rfl hl.1 rfl (Nat.le_of_ble_eq_true rfl) dX3_print_2 ⟨Nat.le_of_ble_eq_true rfl, Nat.le_of_ble_eq_true rfl⟩ hte hlk
set_option maxHeartbeats 4000000 in
set_option maxRecDepth 100000 in
theorem c_X3_merge_x1 (l : Launch) (hfl : l.stackTraces = false) (g : gG) (σ : SG) (a : AD) (hW : WF σ) (z1 z2 : Int) (hz : zr z1) (hbad : ¬ (0 ≤ z1 ∧ z1 < σ 0 0)) : XT l yX3_merge wsX3_merge ({ frames := 7, cells := 1, slots := 6, locals := 120 }) g [.ref (a 1 0), .int (zi z1), .int (zi z2)] (DI g σ a) eI := by
  refine ZT.ofW (cc := cX3_merge) (maxL := 7) (ret := (some .int)) (by decide) rfl (Nat.le_of_ble_eq_true rfl) ?_
  intro p e s m below meth c ls hx hb hr hml hown hts hlk hte hP hK hT hl
  have hown : s.vm.findClass RX3 = some m.cls := hown
  have hl : lv_has ls 7 [(0, .ref (a 1 0)), (1, .int (zi z1)), (2, .int (zi z2))] := hl
  refine lv_aload_n hx hb dX3_merge_0 rfl (lv_at hl 0 rfl) ?_
  refine lv_iload_n hx hb dX3_merge_1 rfl (lv_at hl 1 rfl) ?_
  exact zx_V (rest := []) (As := [.int (zi z1)]) ⟨hx, hb, hml, hown, hts⟩ (c_X3_findVersion_x l hfl g σ a hW z1 hz hbad) (cwV 1 hts gX3_merge_X3_findVersion rfl rfl rfl (by decide +kernel) ⟨Nat.le_of_ble_eq_true rfl, Nat.le_of_ble_eq_true rfl⟩) (z_recv hK hP.ob rfl) hP hK hT rfl hl.1 rfl (Nat.le_of_ble_eq_true rfl) dX3_merge_2 ⟨Nat.le_of_ble_eq_true rfl, Nat.le_of_ble_eq_true rfl⟩ hte hlk
set_option maxHeartbeats 4000000 in
set_option maxRecDepth 100000 in
theorem c_X3_base_x1 (l : Launch) (hfl : l.stackTraces = false) (g : gG) (σ : SG) (a : AD) (hW : WF σ) (z1 z2 : Int) (hz : zr z1) (hbad : ¬ (0 ≤ z1 ∧ z1 < σ 0 0)) : XT l yX3_base wsX3_base ({ frames := 7, cells := 1, slots := 6, locals := 120 }) g [.ref (a 1 0), .int (zi z1), .int (zi z2)] (DI g σ a) eI := by
  refine ZT.ofW (cc := cX3_base) (maxL := 4) (ret := (some .int)) (by decide) rfl (Nat.le_of_ble_eq_true rfl) ?_
  intro p e s m below meth c ls hx hb hr hml hown hts hlk hte hP hK hT hl
  have hown : s.vm.findClass RX3 = some m.cls := hown
  have hl : lv_has ls 4 [(0, .ref (a 1 0)), (1, .int (zi z1)), (2, .int (zi z2))] := hl
  refine lv_aload_n hx hb dX3_base_0 rfl (lv_at hl 0 rfl) ?_
  refine lv_iload_n hx hb dX3_base_1 rfl (lv_at hl 1 rfl) ?_
  exact zx_V (rest := []) (As := [.int (zi z1)]) ⟨hx, hb, hml, hown, hts⟩ (c_X3_findVersion_x l hfl g σ a hW z1 hz hbad) (cwV 1 hts gX3_base_X3_findVersion rfl rfl rfl (by decide +kernel) ⟨Nat.le_of_ble_eq_true rfl, Nat.le_of_ble_eq_true rfl⟩) (z_recv hK hP.ob rfl) hP hK hT rfl hl.1 rfl (Nat.le_of_ble_eq_true rfl) dX3_base_2 ⟨Nat.le_of_ble_eq_true rfl, Nat.le_of_ble_eq_true rfl⟩ hte hlk
set_option maxHeartbeats 4000000 in
set_option maxRecDepth 100000 in
theorem c_X3_conflicts_x1 (l : Launch) (hfl : l.stackTraces = false) (g : gG) (σ : SG) (a : AD) (hW : WF σ) (z1 z2 : Int) (hz : zr z1) (hbad : ¬ (0 ≤ z1 ∧ z1 < σ 0 0)) : XT l yX3_conflicts wsX3_conflicts ({ frames := 7, cells := 1, slots := 6, locals := 120 }) g [.ref (a 1 0), .int (zi z1), .int (zi z2)] (DI g σ a) eI := by
  refine ZT.ofW (cc := cX3_conflicts) (maxL := 6) (ret := (some .int)) (by decide) rfl (Nat.le_of_ble_eq_true rfl) ?_
  intro p e s m below meth c ls hx hb hr hml hown hts hlk hte hP hK hT hl
  have hown : s.vm.findClass RX3 = some m.cls := hown
  have hl : lv_has ls 6 [(0, .ref (a 1 0)), (1, .int (zi z1)), (2, .int (zi z2))] := hl
  refine lv_aload_n hx hb dX3_conflicts_0 rfl (lv_at hl 0 rfl) ?_
  refine lv_iload_n hx hb dX3_conflicts_1 rfl (lv_at hl 1 rfl) ?_
  exact zx_V (rest := []) (As := [.int (zi z1)]) ⟨hx, hb, hml, hown, hts⟩ (c_X3_findVersion_x l hfl g σ a hW z1 hz hbad) (cwV 1 hts gX3_conflicts_X3_findVersion rfl rfl rfl (by decide +kernel) ⟨Nat.le_of_ble_eq_true rfl, Nat.le_of_ble_eq_true rfl⟩) (z_recv hK hP.ob rfl) hP hK hT rfl hl.1 rfl (Nat.le_of_ble_eq_true rfl) dX3_conflicts_2 ⟨Nat.le_of_ble_eq_true rfl, Nat.le_of_ble_eq_true rfl⟩ hte hlk
set_option maxHeartbeats 4000000 in
set_option maxRecDepth 100000 in
theorem c_X3_slips_x1 (l : Launch) (hfl : l.stackTraces = false) (g : gG) (σ : SG) (a : AD) (hW : WF σ) (z1 : Int) (hz : zr z1) (hbad : ¬ (0 ≤ z1 ∧ z1 < σ 8 0)) : XT l yX3_slips wsX3_slips ({ frames := 7, cells := 1, slots := 6, locals := 120 }) g [.ref (a 1 0), .int (zi z1)] (DI g σ a) eI := by
  refine ZT.ofW (cc := cX3_slips) (maxL := 2) (ret := (some .int)) (by decide) rfl (Nat.le_of_ble_eq_true rfl) ?_
  intro p e s m below meth c ls hx hb hr hml hown hts hlk hte hP hK hT hl
  have hown : s.vm.findClass RX3 = some m.cls := hown
  have hl : lv_has ls 2 [(0, .ref (a 1 0)), (1, .int (zi z1))] := hl
  refine lv_aload_n hx hb dX3_slips_0 rfl (lv_at hl 0 rfl) ?_
  refine lv_iload_n hx hb dX3_slips_1 rfl (lv_at hl 1 rfl) ?_
  exact zx_V (rest := []) (As := [.int (zi z1)]) ⟨hx, hb, hml, hown, hts⟩ (c_X3_findCopy_x l hfl g σ a hW z1 hz hbad) (cwV 1 hts gX3_slips_X3_findCopy rfl rfl rfl (by decide +kernel) ⟨Nat.le_of_ble_eq_true rfl, Nat.le_of_ble_eq_true rfl⟩) (z_recv hK hP.ob rfl) hP hK hT rfl hl.1 rfl (Nat.le_of_ble_eq_true rfl) dX3_slips_2 ⟨Nat.le_of_ble_eq_true rfl, Nat.le_of_ble_eq_true rfl⟩ hte hlk
set_option maxHeartbeats 4000000 in
set_option maxRecDepth 100000 in
theorem c_X3_errata_x1 (l : Launch) (hfl : l.stackTraces = false) (g : gG) (σ : SG) (a : AD) (hW : WF σ) (z1 z2 : Int) (hz : zr z1) (hbad : ¬ (0 ≤ z1 ∧ z1 < σ 8 0)) : XT l yX3_errata wsX3_errata ({ frames := 7, cells := 1, slots := 6, locals := 120 }) g [.ref (a 1 0), .int (zi z1), .int (zi z2)] (DI g σ a) eI := by
  refine ZT.ofW (cc := cX3_errata) (maxL := 5) (ret := (some .int)) (by decide) rfl (Nat.le_of_ble_eq_true rfl) ?_
  intro p e s m below meth c ls hx hb hr hml hown hts hlk hte hP hK hT hl
  have hown : s.vm.findClass RX3 = some m.cls := hown
  have hl : lv_has ls 5 [(0, .ref (a 1 0)), (1, .int (zi z1)), (2, .int (zi z2))] := hl
  refine lv_aload_n hx hb dX3_errata_0 rfl (lv_at hl 0 rfl) ?_
  refine lv_iload_n hx hb dX3_errata_1 rfl (lv_at hl 1 rfl) ?_
  exact zx_V (rest := []) (As := [.int (zi z1)]) ⟨hx, hb, hml, hown, hts⟩ (c_X3_findCopy_x l hfl g σ a hW z1 hz hbad) (cwV 1 hts gX3_errata_X3_findCopy rfl rfl rfl (by decide +kernel) ⟨Nat.le_of_ble_eq_true rfl, Nat.le_of_ble_eq_true rfl⟩) (z_recv hK hP.ob rfl) hP hK hT rfl hl.1 rfl (Nat.le_of_ble_eq_true rfl) dX3_errata_2 ⟨Nat.le_of_ble_eq_true rfl, Nat.le_of_ble_eq_true rfl⟩ hte hlk
set_option maxHeartbeats 4000000 in
set_option maxRecDepth 100000 in
theorem c_X3_slip_x1 (l : Launch) (hfl : l.stackTraces = false) (g : gG) (σ : SG) (a : AD) (hW : WF σ) (z1 z2 : Int) (hz : zr z1) (hbad : ¬ (0 ≤ z1 ∧ z1 < σ 8 0)) : XT l yX3_slip wsX3_slip ({ frames := 7, cells := 1, slots := 6, locals := 120 }) g [.ref (a 1 0), .int (zi z1), .int (zi z2)] (DI g σ a) eI := by
  refine ZT.ofW (cc := cX3_slip) (maxL := 6) (ret := (some .int)) (by decide) rfl (Nat.le_of_ble_eq_true rfl) ?_
  intro p e s m below meth c ls hx hb hr hml hown hts hlk hte hP hK hT hl
  have hown : s.vm.findClass RX3 = some m.cls := hown
  have hl : lv_has ls 6 [(0, .ref (a 1 0)), (1, .int (zi z1)), (2, .int (zi z2))] := hl
  refine lv_aload_n hx hb dX3_slip_0 rfl (lv_at hl 0 rfl) ?_
  refine lv_iload_n hx hb dX3_slip_1 rfl (lv_at hl 1 rfl) ?_
  exact zx_V (rest := []) (As := [.int (zi z1)]) ⟨hx, hb, hml, hown, hts⟩ (c_X3_findCopy_x l hfl g σ a hW z1 hz hbad) (cwV 1 hts gX3_slip_X3_findCopy rfl rfl rfl (by decide +kernel) ⟨Nat.le_of_ble_eq_true rfl, Nat.le_of_ble_eq_true rfl⟩) (z_recv hK hP.ob rfl) hP hK hT rfl hl.1 rfl (Nat.le_of_ble_eq_true rfl) dX3_slip_2 ⟨Nat.le_of_ble_eq_true rfl, Nat.le_of_ble_eq_true rfl⟩ hte hlk
