/-! ===== the Desk's calls that throw ===== -/
set_option maxHeartbeats 4000000 in
set_option maxRecDepth 100000 in
theorem c_X3_mark_1 (l : Launch) (hfl : l.stackTraces = false) (g : gG) (σ : SG) (a : AD) (hW : WF σ) (z : Int) (hz : zr z) (hbad : ¬ (0 ≤ z ∧ z < σ 0 0)) : XT l yX3_mark wsX3_mark ({ frames := 7, cells := 1, slots := 6, locals := 112 }) g [.ref (a 1 0), .int (zi z)] (DI g σ a) eI := by
  refine ZT.ofW (cc := cX3_mark) (maxL := 2) (ret := (some .int)) (by decide) rfl (Nat.le_of_ble_eq_true rfl) ?_
  intro p e s m below meth c ls hx hb hr hml hown hts hlk hte hP hK hT hl
  have hown : s.vm.findClass RX3 = some m.cls := hown
  have hl : lv_has ls 2 [(0, .ref (a 1 0)), (1, .int (zi z))] := hl
  refine lv_aload_n hx hb dX3_mark_0 rfl (lv_at hl 0 rfl) ?_
  refine lv_aload_n hx hb dX3_mark_1 rfl (lv_at hl 0 rfl) ?_
  refine lv_iload_n hx hb dX3_mark_2 rfl (lv_at hl 1 rfl) ?_
  exact zx_V (rest := [.ref (a 1 0)]) (As := [.int (zi z)]) ⟨hx, hb, hml, hown, hts⟩ (c_X3_findVersion_x l hfl g σ a hW z hz hbad) (cwV 1 hts gX3_mark_X3_findVersion rfl rfl rfl (by decide +kernel) ⟨Nat.le_of_ble_eq_true rfl, Nat.le_of_ble_eq_true rfl⟩) (z_recv hK hP.ob rfl) hP hK hT rfl hl.1 rfl (Nat.le_of_ble_eq_true rfl) dX3_mark_3 ⟨Nat.le_of_ble_eq_true rfl, Nat.le_of_ble_eq_true rfl⟩ hte hlk
