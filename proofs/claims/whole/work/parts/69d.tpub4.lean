/-! ===== the Desk's calls that throw by themselves ===== -/
theorem GI_A_X3_begin : ∀ w ∈ (vx_atS RX3 46 eA nTH).filter goodWord, w ∈ wsX3_begin := by decide +kernel
set_option maxHeartbeats 4000000 in
set_option maxRecDepth 100000 in
theorem c_X3_begin_1 (l : Launch) (hfl : l.stackTraces = false) (g : gG) (σ : SG) (a : AD) (hW : WF σ) (z : Int) (hz : zr z) (hbad : ¬ (1 ≤ z ∧ z ≤ 12)) : XT l yX3_begin wsX3_begin ({ frames := 6, cells := 1, slots := 6, locals := 90 }) g [.ref (a 1 0), .int (zi (z))] (DI g σ a) eA := by
  refine ZT.ofW (cc := cX3_begin) (maxL := 3) (ret := (some .int)) (by decide) rfl (Nat.le_of_ble_eq_true rfl) ?_
  intro p e s m below meth c ls hx hb hr hml hown hts hlk hte hP hK hT hl
  have hown : s.vm.findClass RX3 = some m.cls := hown
  have hl : lv_has ls 3 [(0, .ref (a 1 0)), (1, .int (zi (z)))] := hl
  have h1gA : ∀ w ∈ (vx_atS RX3 46 eA nTH).filter goodWord, w.before ([.ref (a 1 0), .int (zi (z))] : List Value).toArray s = true := fun w hw => hts w (GI_A_X3_begin w hw)
  have hclA := hts (.classLink RX3 42 eA) (by decide +kernel)
  have hiniA := hts (.initialized eA) (by decide +kernel)
  refine lv_iload_n hx hb dX3_begin_0 rfl (lv_at hl 1 rfl) ?_
  refine z_iconst hx hb dX3_begin_1 ?_
  refine z_icmp_lt (tgt := 11) hx hb dX3_begin_2 (by decide) (by omega) (by omega) (fun h2 => ?_) (fun h2 => ?_)
  ·
    exact z_thr hx hb hfl hml hl hown (by decide +kernel) hlk hte hT (is := 44) (by decide) hclA hiniA h1gA TW.h2A TW.hgA dX3_begin_11 dX3_begin_14 dX3_begin_15 dX3_begin_17 dX3_begin_20 (by decide) rfl
  ·
    refine lv_iload_n hx hb dX3_begin_5 rfl (lv_at hl 1 rfl) ?_
    refine z_bipush hx hb dX3_begin_6 (by decide) ?_
    refine z_icmp_le (tgt := 21) hx hb dX3_begin_8 (by decide) (by omega) (by omega) (fun h8 => ?_) (fun h8 => ?_)
    · exfalso; omega
    ·
      exact z_thr hx hb hfl hml hl hown (by decide +kernel) hlk hte hT (is := 44) (by decide) hclA hiniA h1gA TW.h2A TW.hgA dX3_begin_11 dX3_begin_14 dX3_begin_15 dX3_begin_17 dX3_begin_20 (by decide) rfl

theorem GI_I_X3_setWeight : ∀ w ∈ (vx_atS RX3 118 eI nTH).filter goodWord, w ∈ wsX3_setWeight := by decide +kernel
set_option maxHeartbeats 4000000 in
set_option maxRecDepth 100000 in
theorem c_X3_setWeight_1 (l : Launch) (hfl : l.stackTraces = false) (g : gG) (σ : SG) (a : AD) (hW : WF σ) (z t : Int) (hz : zr z) (ht : zr t) (hbad : ¬ (0 ≤ z ∧ z ≤ 5)) : XT l yX3_setWeight wsX3_setWeight ({ frames := 6, cells := 1, slots := 6, locals := 90 }) g [.ref (a 1 0), .int (zi (z)), .int (zi (t))] (DI g σ a) eI := by
  refine ZT.ofW (cc := cX3_setWeight) (maxL := 4) (ret := (some .int)) (by decide) rfl (Nat.le_of_ble_eq_true rfl) ?_
  intro p e s m below meth c ls hx hb hr hml hown hts hlk hte hP hK hT hl
  have hown : s.vm.findClass RX3 = some m.cls := hown
  have hl : lv_has ls 4 [(0, .ref (a 1 0)), (1, .int (zi (z))), (2, .int (zi (t)))] := hl
  have h1gI : ∀ w ∈ (vx_atS RX3 118 eI nTH).filter goodWord, w.before ([.ref (a 1 0), .int (zi (z)), .int (zi (t))] : List Value).toArray s = true := fun w hw => hts w (GI_I_X3_setWeight w hw)
  have hclI := hts (.classLink RX3 114 eI) (by decide +kernel)
  have hiniI := hts (.initialized eI) (by decide +kernel)
  have hiX3 : ∀ w ∈ u_ws RX3 TX3 7, w ∈ wsX3_setWeight := by decide +kernel
  refine lv_iload_n hx hb dX3_setWeight_0 rfl (lv_at hl 1 rfl) ?_
  refine z_if_lt (tgt := 13) hx hb dX3_setWeight_1 (by decide) (by omega) (fun h1 => ?_) (fun h1 => ?_)
  ·
    exact z_thr hx hb hfl hml hl hown (by decide +kernel) hlk hte hT (is := 116) (by decide) hclI hiniI h1gI TW.h2I TW.hgI dX3_setWeight_13 dX3_setWeight_16 dX3_setWeight_17 dX3_setWeight_19 dX3_setWeight_22 (by decide) rfl
  ·
    refine lv_iload_n hx hb dX3_setWeight_4 rfl (lv_at hl 1 rfl) ?_
    refine lv_aload_n hx hb dX3_setWeight_5 rfl (lv_at hl 0 rfl) ?_
    refine z_get (C := RX3) (T := TX3) (N := 7) hx hb hts hiX3 hown hK hP.ob rfl 4 (by decide) (hts (.fieldLink RX3 28 "HarmoniumDesk" "weights" "[I") (by decide +kernel)) rfl rfl dX3_setWeight_6 ?_
    refine z_alen hx hb hK hP.wt 0 rfl dX3_setWeight_9 ?_
    refine z_icmp_lt (tgt := 23) hx hb dX3_setWeight_10 (by decide) (by omega) (by omega) (fun h10 => ?_) (fun h10 => ?_)
    · exfalso; omega
    ·
      exact z_thr hx hb hfl hml hl hown (by decide +kernel) hlk hte hT (is := 116) (by decide) hclI hiniI h1gI TW.h2I TW.hgI dX3_setWeight_13 dX3_setWeight_16 dX3_setWeight_17 dX3_setWeight_19 dX3_setWeight_22 (by decide) rfl
