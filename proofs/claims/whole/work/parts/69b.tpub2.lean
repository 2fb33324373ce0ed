/-! ===== a pass mark out of its range ===== -/
theorem TW.h2A : ∀ w ∈ (vx_atS RX3 46 eA nTH).filter (fun w => !goodWord w), w ∈ TWb := by decide +kernel
theorem TW.hgA : ∀ w ∈ Cond.classLink RX3 42 eA :: Cond.initialized eA :: vx_atS RX3 46 eA nTH, vx_ot w = true := by decide +kernel
set_option maxHeartbeats 4000000 in
set_option maxRecDepth 100000 in
theorem c_X3_setPass_1 (l : Launch) (hfl : l.stackTraces = false) (g : gG) (σ : SG) (a : AD) (z : Int) (hz : zr z) (hbad : ¬ (0 ≤ z ∧ z ≤ 100)) : XT l yX3_setPass wsX3_setPass ({ frames := 6, cells := 1, slots := 6, locals := 90 }) g [.ref (a 1 0), .int (zi z)] (DI g σ a) eA := by
  refine ZT.ofW (cc := cX3_setPass) (maxL := 3) (ret := (some .int)) (by decide) rfl (Nat.le_of_ble_eq_true rfl) ?_
  intro p e s m below meth c ls hx hb hr hml hown hts hlk hte hP hK hT hl
  have hown : s.vm.findClass RX3 = some m.cls := hown
  have hl : lv_has ls 3 [(0, .ref (a 1 0)), (1, .int (zi z))] := hl
  have h1g : ∀ w ∈ (vx_atS RX3 46 eA nTH).filter goodWord, w.before ([.ref (a 1 0), .int (zi z)] : List Value).toArray s = true := fun w hw => hts w (List.mem_cons_of_mem _ (List.mem_append_right _ hw))
  have hcl := hts (.classLink RX3 42 eA) (by decide +kernel)
  have hini := hts (.initialized eA) (by decide +kernel)
  have done : W p l e { frames := 6, cells := 1, slots := 6, locals := 90 } s m ([.ref (a 1 0), .int (zi z)] : List Value).toArray below meth c s.heap [] 0 0 (vx_MQ below (fun _ _ _ _ => False) (XE eA) ([.ref (a 1 0), .int (zi z)] : List Value).toArray s 1 6 (fun _ => False)) (F0 m 10 ls []) := z_thr hx hb hfl hml hl hown (by decide +kernel) hlk hte hT (is := 121) (by decide) hcl hini h1g TW.h2A TW.hgA dX3_setPass_10 dX3_setPass_13 dX3_setPass_14 dX3_setPass_16 dX3_setPass_19 (by decide) rfl
  refine lv_iload_n hx hb dX3_setPass_0 rfl (lv_at hl 1 rfl) ?_
  refine z_if_lt (tgt := 10) hx hb dX3_setPass_1 (by decide) hz (fun h1 => done) (fun h1 => ?_)
  refine lv_iload_n hx hb dX3_setPass_4 rfl (lv_at hl 1 rfl) ?_
  refine z_bipush hx hb dX3_setPass_5 (by decide) ?_
  refine z_icmp_le (tgt := 20) hx hb dX3_setPass_7 (by decide) hz (by decide) (fun h7 => ?_) (fun h7 => done)
  exfalso; omega
