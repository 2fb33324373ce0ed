/-! ===== the Desk's calls that throw: a voice, a bar, a rule, a tone, a bound ===== -/
set_option maxHeartbeats 4000000 in
set_option maxRecDepth 100000 in
theorem c_X3_note_xv (l : Launch) (hfl : l.stackTraces = false) (g : gG) (σ : SG) (a : AD) (hW : WF σ) (k : Nat) (hk : (k : Int) < σ 0 0) (zk : Int) (hzk : zk = (k : Int)) (v : Int) (hv : zr v) (hbad : ¬ (0 ≤ v ∧ v ≤ 1)) (b : Int) : XT l yX3_note wsX3_note ({ frames := 7, cells := 1, slots := 6, locals := 110 }) g [.ref (a 1 0), .int (zi (zk)), .int (zi (v)), .int (zi (b))] (DI g σ a) eI := by
  refine ZT.ofW (cc := cX3_note) (maxL := 5) (ret := (some .int)) (by decide) rfl (Nat.le_of_ble_eq_true rfl) ?_
  intro p e s m below meth c ls hx hb hr hml hown hts hlk hte hP hK hT hl
  have hown : s.vm.findClass RX3 = some m.cls := hown
  have hl : lv_has ls 5 [(0, .ref (a 1 0)), (1, .int (zi (zk))), (2, .int (zi (v))), (3, .int (zi (b)))] := hl
  have hn := hW.n
  have hbk := hW.bars hk
  obtain ⟨uk, lk, hsk, nuk, nlk, eqk⟩ := (hP.vk hk).2
  refine lv_aload_n hx hb dX3_note_0 rfl (lv_at hl 0 rfl) ?_
  refine lv_iload_n hx hb dX3_note_1 rfl (lv_at hl 1 rfl) ?_
  refine rq_V (rest := []) (As := [.int (zi (zk))]) ⟨hx, hb, hml, hown, hts⟩ (c_X3_findVersion l g σ a hW k hk (zk) (by omega)) (cwV 1 hts gX3_note_X3_findVersion rfl rfl rfl (by decide +kernel) ⟨Nat.le_of_ble_eq_true rfl, Nat.le_of_ble_eq_true rfl⟩) (z_recv hK hP.ob rfl) hP hK rfl hl.1 rfl (Nat.le_of_ble_eq_true rfl) dX3_note_2 ⟨Nat.zero_le _, Nat.zero_le _⟩ ?_
  refine lv_astore (lv' := [(4, .ref (a 8 k)), (0, .ref (a 1 0)), (1, .int (zi (zk))), (2, .int (zi (v))), (3, .int (zi (b)))]) hx hb dX3_note_5 hl (by decide) rfl (fun ls hl => ?_)
  refine lv_iload_n hx hb dX3_note_7 rfl (lv_at hl 3 rfl) ?_
  exact zx_S (rest := []) (As := [.int (zi (v))]) ⟨hx, hb, hml, hown, hts⟩ (c_X3_checkVoice_x l hfl g (v) hv hbad) (cwS 1 hts gX3_note_X3_checkVoice rfl rfl rfl (by decide +kernel) ⟨Nat.le_of_ble_eq_true rfl, Nat.le_of_ble_eq_true rfl⟩) trivial hK hT rfl hl.1 rfl (Nat.le_of_ble_eq_true rfl) dX3_note_8 ⟨Nat.le_of_ble_eq_true rfl, Nat.le_of_ble_eq_true rfl⟩ hte hlk

set_option maxHeartbeats 4000000 in
set_option maxRecDepth 100000 in
theorem c_X3_setNote_xv (l : Launch) (hfl : l.stackTraces = false) (g : gG) (σ : SG) (a : AD) (hW : WF σ) (k : Nat) (hk : (k : Int) < σ 0 0) (zk : Int) (hzk : zk = (k : Int)) (v : Int) (hv : zr v) (hbad : ¬ (0 ≤ v ∧ v ≤ 1)) (b t : Int) : XT l yX3_setNote wsX3_setNote ({ frames := 7, cells := 1, slots := 6, locals := 110 }) g [.ref (a 1 0), .int (zi (zk)), .int (zi (v)), .int (zi (b)), .int (zi (t))] (DI g σ a) eI := by
  refine ZT.ofW (cc := cX3_setNote) (maxL := 7) (ret := (some .int)) (by decide) rfl (Nat.le_of_ble_eq_true rfl) ?_
  intro p e s m below meth c ls hx hb hr hml hown hts hlk hte hP hK hT hl
  have hown : s.vm.findClass RX3 = some m.cls := hown
  have hl : lv_has ls 7 [(0, .ref (a 1 0)), (1, .int (zi (zk))), (2, .int (zi (v))), (3, .int (zi (b))), (4, .int (zi (t)))] := hl
  have hn := hW.n
  have hbk := hW.bars hk
  obtain ⟨uk, lk, hsk, nuk, nlk, eqk⟩ := (hP.vk hk).2
  refine lv_aload_n hx hb dX3_setNote_0 rfl (lv_at hl 0 rfl) ?_
  refine lv_iload_n hx hb dX3_setNote_1 rfl (lv_at hl 1 rfl) ?_
  refine rq_V (rest := []) (As := [.int (zi (zk))]) ⟨hx, hb, hml, hown, hts⟩ (c_X3_findVersion l g σ a hW k hk (zk) (by omega)) (cwV 1 hts gX3_setNote_X3_findVersion rfl rfl rfl (by decide +kernel) ⟨Nat.le_of_ble_eq_true rfl, Nat.le_of_ble_eq_true rfl⟩) (z_recv hK hP.ob rfl) hP hK rfl hl.1 rfl (Nat.le_of_ble_eq_true rfl) dX3_setNote_2 ⟨Nat.zero_le _, Nat.zero_le _⟩ ?_
  refine lv_astore (lv' := [(5, .ref (a 8 k)), (0, .ref (a 1 0)), (1, .int (zi (zk))), (2, .int (zi (v))), (3, .int (zi (b))), (4, .int (zi (t)))]) hx hb dX3_setNote_5 hl (by decide) rfl (fun ls hl => ?_)
  refine lv_iload_n hx hb dX3_setNote_7 rfl (lv_at hl 3 rfl) ?_
  exact zx_S (rest := []) (As := [.int (zi (v))]) ⟨hx, hb, hml, hown, hts⟩ (c_X3_checkVoice_x l hfl g (v) hv hbad) (cwS 1 hts gX3_setNote_X3_checkVoice rfl rfl rfl (by decide +kernel) ⟨Nat.le_of_ble_eq_true rfl, Nat.le_of_ble_eq_true rfl⟩) trivial hK hT rfl hl.1 rfl (Nat.le_of_ble_eq_true rfl) dX3_setNote_8 ⟨Nat.le_of_ble_eq_true rfl, Nat.le_of_ble_eq_true rfl⟩ hte hlk

set_option maxHeartbeats 4000000 in
set_option maxRecDepth 100000 in
theorem c_X3_best_xv (l : Launch) (hfl : l.stackTraces = false) (g : gG) (σ : SG) (a : AD) (hW : WF σ) (k : Nat) (hk : (k : Int) < σ 0 0) (zk : Int) (hzk : zk = (k : Int)) (v : Int) (hv : zr v) (hbad : ¬ (0 ≤ v ∧ v ≤ 1)) (b : Int) : XT l yX3_best wsX3_best ({ frames := 7, cells := 1, slots := 6, locals := 110 }) g [.ref (a 1 0), .int (zi (zk)), .int (zi (v)), .int (zi (b))] (DI g σ a) eI := by
  refine ZT.ofW (cc := cX3_best) (maxL := 5) (ret := (some .int)) (by decide) rfl (Nat.le_of_ble_eq_true rfl) ?_
  intro p e s m below meth c ls hx hb hr hml hown hts hlk hte hP hK hT hl
  have hown : s.vm.findClass RX3 = some m.cls := hown
  have hl : lv_has ls 5 [(0, .ref (a 1 0)), (1, .int (zi (zk))), (2, .int (zi (v))), (3, .int (zi (b)))] := hl
  have hn := hW.n
  have hbk := hW.bars hk
  obtain ⟨uk, lk, hsk, nuk, nlk, eqk⟩ := (hP.vk hk).2
  refine lv_aload_n hx hb dX3_best_0 rfl (lv_at hl 0 rfl) ?_
  refine lv_iload_n hx hb dX3_best_1 rfl (lv_at hl 1 rfl) ?_
  refine rq_V (rest := []) (As := [.int (zi (zk))]) ⟨hx, hb, hml, hown, hts⟩ (c_X3_findVersion l g σ a hW k hk (zk) (by omega)) (cwV 1 hts gX3_best_X3_findVersion rfl rfl rfl (by decide +kernel) ⟨Nat.le_of_ble_eq_true rfl, Nat.le_of_ble_eq_true rfl⟩) (z_recv hK hP.ob rfl) hP hK rfl hl.1 rfl (Nat.le_of_ble_eq_true rfl) dX3_best_2 ⟨Nat.zero_le _, Nat.zero_le _⟩ ?_
  refine lv_astore (lv' := [(4, .ref (a 8 k)), (0, .ref (a 1 0)), (1, .int (zi (zk))), (2, .int (zi (v))), (3, .int (zi (b)))]) hx hb dX3_best_5 hl (by decide) rfl (fun ls hl => ?_)
  refine lv_iload_n hx hb dX3_best_7 rfl (lv_at hl 3 rfl) ?_
  exact zx_S (rest := []) (As := [.int (zi (v))]) ⟨hx, hb, hml, hown, hts⟩ (c_X3_checkVoice_x l hfl g (v) hv hbad) (cwS 1 hts gX3_best_X3_checkVoice rfl rfl rfl (by decide +kernel) ⟨Nat.le_of_ble_eq_true rfl, Nat.le_of_ble_eq_true rfl⟩) trivial hK hT rfl hl.1 rfl (Nat.le_of_ble_eq_true rfl) dX3_best_8 ⟨Nat.le_of_ble_eq_true rfl, Nat.le_of_ble_eq_true rfl⟩ hte hlk

set_option maxHeartbeats 4000000 in
set_option maxRecDepth 100000 in
theorem c_X3_movement_xv (l : Launch) (hfl : l.stackTraces = false) (g : gG) (σ : SG) (a : AD) (hW : WF σ) (k : Nat) (hk : (k : Int) < σ 0 0) (zk : Int) (hzk : zk = (k : Int)) (v : Int) (hv : zr v) (hbad : ¬ (0 ≤ v ∧ v ≤ 1))  : XT l yX3_movement wsX3_movement ({ frames := 7, cells := 1, slots := 6, locals := 110 }) g [.ref (a 1 0), .int (zi (zk)), .int (zi (v))] (DI g σ a) eI := by
  refine ZT.ofW (cc := cX3_movement) (maxL := 5) (ret := (some .float)) (by decide) rfl (Nat.le_of_ble_eq_true rfl) ?_
  intro p e s m below meth c ls hx hb hr hml hown hts hlk hte hP hK hT hl
  have hown : s.vm.findClass RX3 = some m.cls := hown
  have hl : lv_has ls 5 [(0, .ref (a 1 0)), (1, .int (zi (zk))), (2, .int (zi (v)))] := hl
  have hn := hW.n
  have hbk := hW.bars hk
  obtain ⟨uk, lk, hsk, nuk, nlk, eqk⟩ := (hP.vk hk).2
  refine lv_aload_n hx hb dX3_movement_0 rfl (lv_at hl 0 rfl) ?_
  refine lv_iload_n hx hb dX3_movement_1 rfl (lv_at hl 1 rfl) ?_
  refine rq_V (rest := []) (As := [.int (zi (zk))]) ⟨hx, hb, hml, hown, hts⟩ (c_X3_findVersion l g σ a hW k hk (zk) (by omega)) (cwV 1 hts gX3_movement_X3_findVersion rfl rfl rfl (by decide +kernel) ⟨Nat.le_of_ble_eq_true rfl, Nat.le_of_ble_eq_true rfl⟩) (z_recv hK hP.ob rfl) hP hK rfl hl.1 rfl (Nat.le_of_ble_eq_true rfl) dX3_movement_2 ⟨Nat.zero_le _, Nat.zero_le _⟩ ?_
  refine lv_astore_n (lv' := [(3, .ref (a 8 k)), (0, .ref (a 1 0)), (1, .int (zi (zk))), (2, .int (zi (v)))]) hx hb dX3_movement_5 rfl hl (by decide) rfl (fun ls hl => ?_)
  refine lv_iload_n hx hb dX3_movement_6 rfl (lv_at hl 3 rfl) ?_
  exact zx_S (rest := []) (As := [.int (zi (v))]) ⟨hx, hb, hml, hown, hts⟩ (c_X3_checkVoice_x l hfl g (v) hv hbad) (cwS 1 hts gX3_movement_X3_checkVoice rfl rfl rfl (by decide +kernel) ⟨Nat.le_of_ble_eq_true rfl, Nat.le_of_ble_eq_true rfl⟩) trivial hK hT rfl hl.1 rfl (Nat.le_of_ble_eq_true rfl) dX3_movement_7 ⟨Nat.le_of_ble_eq_true rfl, Nat.le_of_ble_eq_true rfl⟩ hte hlk

set_option maxHeartbeats 4000000 in
set_option maxRecDepth 100000 in
theorem c_X3_print_xv (l : Launch) (hfl : l.stackTraces = false) (g : gG) (σ : SG) (a : AD) (hW : WF σ) (k : Nat) (hk : (k : Int) < σ 0 0) (zk : Int) (hzk : zk = (k : Int)) (v : Int) (hv : zr v) (hbad : ¬ (0 ≤ v ∧ v ≤ 1))  : XT l yX3_print wsX3_print ({ frames := 7, cells := 1, slots := 6, locals := 110 }) g [.ref (a 1 0), .int (zi (zk)), .int (zi (v))] (DI g σ a) eI := by
  refine ZT.ofW (cc := cX3_print) (maxL := 5) (ret := (some .int)) (by decide) rfl (Nat.le_of_ble_eq_true rfl) ?_
  intro p e s m below meth c ls hx hb hr hml hown hts hlk hte hP hK hT hl
  have hown : s.vm.findClass RX3 = some m.cls := hown
  have hl : lv_has ls 5 [(0, .ref (a 1 0)), (1, .int (zi (zk))), (2, .int (zi (v)))] := hl
  have hn := hW.n
  have hbk := hW.bars hk
  obtain ⟨uk, lk, hsk, nuk, nlk, eqk⟩ := (hP.vk hk).2
  refine lv_aload_n hx hb dX3_print_0 rfl (lv_at hl 0 rfl) ?_
  refine lv_iload_n hx hb dX3_print_1 rfl (lv_at hl 1 rfl) ?_
  refine rq_V (rest := []) (As := [.int (zi (zk))]) ⟨hx, hb, hml, hown, hts⟩ (c_X3_findVersion l g σ a hW k hk (zk) (by omega)) (cwV 1 hts gX3_print_X3_findVersion rfl rfl rfl (by decide +kernel) ⟨Nat.le_of_ble_eq_true rfl, Nat.le_of_ble_eq_true rfl⟩) (z_recv hK hP.ob rfl) hP hK rfl hl.1 rfl (Nat.le_of_ble_eq_true rfl) dX3_print_2 ⟨Nat.zero_le _, Nat.zero_le _⟩ ?_
  refine lv_astore_n (lv' := [(3, .ref (a 8 k)), (0, .ref (a 1 0)), (1, .int (zi (zk))), (2, .int (zi (v)))]) hx hb dX3_print_5 rfl hl (by decide) rfl (fun ls hl => ?_)
  refine lv_iload_n hx hb dX3_print_6 rfl (lv_at hl 3 rfl) ?_
  exact zx_S (rest := []) (As := [.int (zi (v))]) ⟨hx, hb, hml, hown, hts⟩ (c_X3_checkVoice_x l hfl g (v) hv hbad) (cwS 1 hts gX3_print_X3_checkVoice rfl rfl rfl (by decide +kernel) ⟨Nat.le_of_ble_eq_true rfl, Nat.le_of_ble_eq_true rfl⟩) trivial hK hT rfl hl.1 rfl (Nat.le_of_ble_eq_true rfl) dX3_print_7 ⟨Nat.le_of_ble_eq_true rfl, Nat.le_of_ble_eq_true rfl⟩ hte hlk

set_option maxHeartbeats 4000000 in
set_option maxRecDepth 100000 in
theorem c_X3_note_xb (l : Launch) (hfl : l.stackTraces = false) (g : gG) (σ : SG) (a : AD) (hW : WF σ) (k : Nat) (hk : (k : Int) < σ 0 0) (zk : Int) (hzk : zk = (k : Int)) (v : Nat) (hv1 : v ≤ 1) (zv : Int) (hzv : zv = (v : Int)) (b : Int) (hb9 : zr b) (hbad : ¬ (0 ≤ b ∧ b < σ 1 k))  : XT l yX3_note wsX3_note ({ frames := 7, cells := 1, slots := 6, locals := 111 }) g [.ref (a 1 0), .int (zi (zk)), .int (zi (zv)), .int (zi (b))] (DI g σ a) eI := by
  refine ZT.ofW (cc := cX3_note) (maxL := 5) (ret := (some .int)) (by decide) rfl (Nat.le_of_ble_eq_true rfl) ?_
  intro p e s m below meth c ls hx hb hr hml hown hts hlk hte hP hK hT hl
  have hown : s.vm.findClass RX3 = some m.cls := hown
  have hl : lv_has ls 5 [(0, .ref (a 1 0)), (1, .int (zi (zk))), (2, .int (zi (zv))), (3, .int (zi (b)))] := hl
  have hn := hW.n
  have hbk := hW.bars hk
  obtain ⟨uk, lk, hsk, nuk, nlk, eqk⟩ := (hP.vk hk).2
  refine lv_aload_n hx hb dX3_note_0 rfl (lv_at hl 0 rfl) ?_
  refine lv_iload_n hx hb dX3_note_1 rfl (lv_at hl 1 rfl) ?_
  refine rq_V (rest := []) (As := [.int (zi (zk))]) ⟨hx, hb, hml, hown, hts⟩ (c_X3_findVersion l g σ a hW k hk (zk) (by omega)) (cwV 1 hts gX3_note_X3_findVersion rfl rfl rfl (by decide +kernel) ⟨Nat.le_of_ble_eq_true rfl, Nat.le_of_ble_eq_true rfl⟩) (z_recv hK hP.ob rfl) hP hK rfl hl.1 rfl (Nat.le_of_ble_eq_true rfl) dX3_note_2 ⟨Nat.zero_le _, Nat.zero_le _⟩ ?_
  refine lv_astore (lv' := [(4, .ref (a 8 k)), (0, .ref (a 1 0)), (1, .int (zi (zk))), (2, .int (zi (zv))), (3, .int (zi (b)))]) hx hb dX3_note_5 hl (by decide) rfl (fun ls hl => ?_)
  refine lv_iload_n hx hb dX3_note_7 rfl (lv_at hl 3 rfl) ?_
  refine rv_S (rest := []) (As := [.int (zi (zv))]) ⟨hx, hb, hml, hown, hts⟩ (c_X3_checkVoice l g (zv) (by omega)) (cwS 1 hts gX3_note_X3_checkVoice rfl rfl rfl (by decide +kernel) ⟨Nat.le_of_ble_eq_true rfl, Nat.le_of_ble_eq_true rfl⟩) trivial hK rfl hl.1 rfl (Nat.le_of_ble_eq_true rfl) dX3_note_8 ⟨Nat.zero_le _, Nat.zero_le _⟩ ?_
  refine lv_aload hx hb dX3_note_11 (lv_at hl 0 rfl) ?_
  refine lv_iload_n hx hb dX3_note_13 rfl (lv_at hl 4 rfl) ?_
  exact zx_S (rest := []) (As := [.ref (a 8 k), .int (zi (b))]) ⟨hx, hb, hml, hown, hts⟩ (c_X3_checkBar_x l hfl g σ a hW k hk (b) hb9 hbad) (cwS 2 hts gX3_note_X3_checkBar rfl rfl rfl (by decide +kernel) ⟨Nat.le_of_ble_eq_true rfl, Nat.le_of_ble_eq_true rfl⟩) hP hK hT rfl hl.1 rfl (Nat.le_of_ble_eq_true rfl) dX3_note_14 ⟨Nat.le_of_ble_eq_true rfl, Nat.le_of_ble_eq_true rfl⟩ hte hlk

set_option maxHeartbeats 4000000 in
set_option maxRecDepth 100000 in
theorem c_X3_setNote_xb (l : Launch) (hfl : l.stackTraces = false) (g : gG) (σ : SG) (a : AD) (hW : WF σ) (k : Nat) (hk : (k : Int) < σ 0 0) (zk : Int) (hzk : zk = (k : Int)) (v : Nat) (hv1 : v ≤ 1) (zv : Int) (hzv : zv = (v : Int)) (b : Int) (hb9 : zr b) (hbad : ¬ (0 ≤ b ∧ b < σ 1 k)) (t : Int) : XT l yX3_setNote wsX3_setNote ({ frames := 7, cells := 1, slots := 6, locals := 111 }) g [.ref (a 1 0), .int (zi (zk)), .int (zi (zv)), .int (zi (b)), .int (zi (t))] (DI g σ a) eI := by
  refine ZT.ofW (cc := cX3_setNote) (maxL := 7) (ret := (some .int)) (by decide) rfl (Nat.le_of_ble_eq_true rfl) ?_
  intro p e s m below meth c ls hx hb hr hml hown hts hlk hte hP hK hT hl
  have hown : s.vm.findClass RX3 = some m.cls := hown
  have hl : lv_has ls 7 [(0, .ref (a 1 0)), (1, .int (zi (zk))), (2, .int (zi (zv))), (3, .int (zi (b))), (4, .int (zi (t)))] := hl
  have hn := hW.n
  have hbk := hW.bars hk
  obtain ⟨uk, lk, hsk, nuk, nlk, eqk⟩ := (hP.vk hk).2
  refine lv_aload_n hx hb dX3_setNote_0 rfl (lv_at hl 0 rfl) ?_
  refine lv_iload_n hx hb dX3_setNote_1 rfl (lv_at hl 1 rfl) ?_
  refine rq_V (rest := []) (As := [.int (zi (zk))]) ⟨hx, hb, hml, hown, hts⟩ (c_X3_findVersion l g σ a hW k hk (zk) (by omega)) (cwV 1 hts gX3_setNote_X3_findVersion rfl rfl rfl (by decide +kernel) ⟨Nat.le_of_ble_eq_true rfl, Nat.le_of_ble_eq_true rfl⟩) (z_recv hK hP.ob rfl) hP hK rfl hl.1 rfl (Nat.le_of_ble_eq_true rfl) dX3_setNote_2 ⟨Nat.zero_le _, Nat.zero_le _⟩ ?_
  refine lv_astore (lv' := [(5, .ref (a 8 k)), (0, .ref (a 1 0)), (1, .int (zi (zk))), (2, .int (zi (zv))), (3, .int (zi (b))), (4, .int (zi (t)))]) hx hb dX3_setNote_5 hl (by decide) rfl (fun ls hl => ?_)
  refine lv_iload_n hx hb dX3_setNote_7 rfl (lv_at hl 3 rfl) ?_
  refine rv_S (rest := []) (As := [.int (zi (zv))]) ⟨hx, hb, hml, hown, hts⟩ (c_X3_checkVoice l g (zv) (by omega)) (cwS 1 hts gX3_setNote_X3_checkVoice rfl rfl rfl (by decide +kernel) ⟨Nat.le_of_ble_eq_true rfl, Nat.le_of_ble_eq_true rfl⟩) trivial hK rfl hl.1 rfl (Nat.le_of_ble_eq_true rfl) dX3_setNote_8 ⟨Nat.zero_le _, Nat.zero_le _⟩ ?_
  refine lv_aload hx hb dX3_setNote_11 (lv_at hl 0 rfl) ?_
  refine lv_iload_n hx hb dX3_setNote_13 rfl (lv_at hl 4 rfl) ?_
  exact zx_S (rest := []) (As := [.ref (a 8 k), .int (zi (b))]) ⟨hx, hb, hml, hown, hts⟩ (c_X3_checkBar_x l hfl g σ a hW k hk (b) hb9 hbad) (cwS 2 hts gX3_setNote_X3_checkBar rfl rfl rfl (by decide +kernel) ⟨Nat.le_of_ble_eq_true rfl, Nat.le_of_ble_eq_true rfl⟩) hP hK hT rfl hl.1 rfl (Nat.le_of_ble_eq_true rfl) dX3_setNote_14 ⟨Nat.le_of_ble_eq_true rfl, Nat.le_of_ble_eq_true rfl⟩ hte hlk

set_option maxHeartbeats 4000000 in
set_option maxRecDepth 100000 in
theorem c_X3_best_xb (l : Launch) (hfl : l.stackTraces = false) (g : gG) (σ : SG) (a : AD) (hW : WF σ) (k : Nat) (hk : (k : Int) < σ 0 0) (zk : Int) (hzk : zk = (k : Int)) (v : Nat) (hv1 : v ≤ 1) (zv : Int) (hzv : zv = (v : Int)) (b : Int) (hb9 : zr b) (hbad : ¬ (0 ≤ b ∧ b < σ 1 k))  : XT l yX3_best wsX3_best ({ frames := 7, cells := 1, slots := 6, locals := 111 }) g [.ref (a 1 0), .int (zi (zk)), .int (zi (zv)), .int (zi (b))] (DI g σ a) eI := by
  refine ZT.ofW (cc := cX3_best) (maxL := 5) (ret := (some .int)) (by decide) rfl (Nat.le_of_ble_eq_true rfl) ?_
  intro p e s m below meth c ls hx hb hr hml hown hts hlk hte hP hK hT hl
  have hown : s.vm.findClass RX3 = some m.cls := hown
  have hl : lv_has ls 5 [(0, .ref (a 1 0)), (1, .int (zi (zk))), (2, .int (zi (zv))), (3, .int (zi (b)))] := hl
  have hn := hW.n
  have hbk := hW.bars hk
  obtain ⟨uk, lk, hsk, nuk, nlk, eqk⟩ := (hP.vk hk).2
  refine lv_aload_n hx hb dX3_best_0 rfl (lv_at hl 0 rfl) ?_
  refine lv_iload_n hx hb dX3_best_1 rfl (lv_at hl 1 rfl) ?_
  refine rq_V (rest := []) (As := [.int (zi (zk))]) ⟨hx, hb, hml, hown, hts⟩ (c_X3_findVersion l g σ a hW k hk (zk) (by omega)) (cwV 1 hts gX3_best_X3_findVersion rfl rfl rfl (by decide +kernel) ⟨Nat.le_of_ble_eq_true rfl, Nat.le_of_ble_eq_true rfl⟩) (z_recv hK hP.ob rfl) hP hK rfl hl.1 rfl (Nat.le_of_ble_eq_true rfl) dX3_best_2 ⟨Nat.zero_le _, Nat.zero_le _⟩ ?_
  refine lv_astore (lv' := [(4, .ref (a 8 k)), (0, .ref (a 1 0)), (1, .int (zi (zk))), (2, .int (zi (zv))), (3, .int (zi (b)))]) hx hb dX3_best_5 hl (by decide) rfl (fun ls hl => ?_)
  refine lv_iload_n hx hb dX3_best_7 rfl (lv_at hl 3 rfl) ?_
  refine rv_S (rest := []) (As := [.int (zi (zv))]) ⟨hx, hb, hml, hown, hts⟩ (c_X3_checkVoice l g (zv) (by omega)) (cwS 1 hts gX3_best_X3_checkVoice rfl rfl rfl (by decide +kernel) ⟨Nat.le_of_ble_eq_true rfl, Nat.le_of_ble_eq_true rfl⟩) trivial hK rfl hl.1 rfl (Nat.le_of_ble_eq_true rfl) dX3_best_8 ⟨Nat.zero_le _, Nat.zero_le _⟩ ?_
  refine lv_aload hx hb dX3_best_11 (lv_at hl 0 rfl) ?_
  refine lv_iload_n hx hb dX3_best_13 rfl (lv_at hl 4 rfl) ?_
  exact zx_S (rest := []) (As := [.ref (a 8 k), .int (zi (b))]) ⟨hx, hb, hml, hown, hts⟩ (c_X3_checkBar_x l hfl g σ a hW k hk (b) hb9 hbad) (cwS 2 hts gX3_best_X3_checkBar rfl rfl rfl (by decide +kernel) ⟨Nat.le_of_ble_eq_true rfl, Nat.le_of_ble_eq_true rfl⟩) hP hK hT rfl hl.1 rfl (Nat.le_of_ble_eq_true rfl) dX3_best_14 ⟨Nat.le_of_ble_eq_true rfl, Nat.le_of_ble_eq_true rfl⟩ hte hlk

set_option maxHeartbeats 4000000 in
set_option maxRecDepth 100000 in
theorem c_X3_faults_xb (l : Launch) (hfl : l.stackTraces = false) (g : gG) (σ : SG) (a : AD) (hW : WF σ) (k : Nat) (hk : (k : Int) < σ 0 0) (zk : Int) (hzk : zk = (k : Int)) (b : Int) (hb9 : zr b) (hbad : ¬ (0 ≤ b ∧ b < σ 1 k)) (r : Int) : XT l yX3_faults wsX3_faults ({ frames := 7, cells := 1, slots := 6, locals := 111 }) g [.ref (a 1 0), .int (zi (zk)), .int (zi (b)), .int (zi (r))] (DI g σ a) eI := by
  refine ZT.ofW (cc := cX3_faults) (maxL := 5) (ret := (some .int)) (by decide) rfl (Nat.le_of_ble_eq_true rfl) ?_
  intro p e s m below meth c ls hx hb hr hml hown hts hlk hte hP hK hT hl
  have hown : s.vm.findClass RX3 = some m.cls := hown
  have hl : lv_has ls 5 [(0, .ref (a 1 0)), (1, .int (zi (zk))), (2, .int (zi (b))), (3, .int (zi (r)))] := hl
  have hn := hW.n
  have hbk := hW.bars hk
  obtain ⟨uk, lk, hsk, nuk, nlk, eqk⟩ := (hP.vk hk).2
  refine lv_aload_n hx hb dX3_faults_0 rfl (lv_at hl 0 rfl) ?_
  refine lv_iload_n hx hb dX3_faults_1 rfl (lv_at hl 1 rfl) ?_
  refine rq_V (rest := []) (As := [.int (zi (zk))]) ⟨hx, hb, hml, hown, hts⟩ (c_X3_findVersion l g σ a hW k hk (zk) (by omega)) (cwV 1 hts gX3_faults_X3_findVersion rfl rfl rfl (by decide +kernel) ⟨Nat.le_of_ble_eq_true rfl, Nat.le_of_ble_eq_true rfl⟩) (z_recv hK hP.ob rfl) hP hK rfl hl.1 rfl (Nat.le_of_ble_eq_true rfl) dX3_faults_2 ⟨Nat.zero_le _, Nat.zero_le _⟩ ?_
  refine lv_astore (lv' := [(4, .ref (a 8 k)), (0, .ref (a 1 0)), (1, .int (zi (zk))), (2, .int (zi (b))), (3, .int (zi (r)))]) hx hb dX3_faults_5 hl (by decide) rfl (fun ls hl => ?_)
  refine lv_aload hx hb dX3_faults_7 (lv_at hl 0 rfl) ?_
  refine lv_iload_n hx hb dX3_faults_9 rfl (lv_at hl 3 rfl) ?_
  exact zx_S (rest := []) (As := [.ref (a 8 k), .int (zi (b))]) ⟨hx, hb, hml, hown, hts⟩ (c_X3_checkBar_x l hfl g σ a hW k hk (b) hb9 hbad) (cwS 2 hts gX3_faults_X3_checkBar rfl rfl rfl (by decide +kernel) ⟨Nat.le_of_ble_eq_true rfl, Nat.le_of_ble_eq_true rfl⟩) hP hK hT rfl hl.1 rfl (Nat.le_of_ble_eq_true rfl) dX3_faults_10 ⟨Nat.le_of_ble_eq_true rfl, Nat.le_of_ble_eq_true rfl⟩ hte hlk
