/-! ===== the Desk's helpers throw ===== -/
theorem TW.h2S : ∀ w ∈ (vx_atS RX3 89 eS nTH).filter (fun w => !goodWord w), w ∈ TWb := by decide +kernel
theorem TW.hgS : ∀ w ∈ Cond.classLink RX3 85 eS :: Cond.initialized eS :: vx_atS RX3 89 eS nTH, vx_ot w = true := by decide +kernel
set_option maxHeartbeats 4000000 in
set_option maxRecDepth 100000 in
theorem c_X3_findCopy_x (l : Launch) (hfl : l.stackTraces = false) (g : gG) (σ : SG) (a : AD) (hW : WF σ) (z : Int) (hz : zr z) (hbad : ¬ (0 ≤ z ∧ z < σ 8 0)) : XT l yX3_findCopy wsX3_findCopy ({ frames := 6, cells := 1, slots := 6, locals := 90 }) g [.ref (a 1 0), .int (zi z)] (DI g σ a) eI := by
  refine ZT.ofW (cc := cX3_findCopy) (maxL := 3) (ret := (some (.object "HarmoniumDesk$Copy"))) (by decide) rfl (Nat.le_of_ble_eq_true rfl) ?_
  intro p e s m below meth c ls hx hb hr hml hown hts hlk hte hP hK hT hl
  have hown : s.vm.findClass RX3 = some m.cls := hown
  have hl : lv_has ls 3 [(0, .ref (a 1 0)), (1, .int (zi z))] := hl
  have hiX3 : ∀ w ∈ u_ws RX3 TX3 7, w ∈ wsX3_findCopy := by decide +kernel
  have hn := hW.cn
  have h1g : ∀ w ∈ (vx_atS RX3 118 eI nTH).filter goodWord, w.before ([.ref (a 1 0), .int (zi z)] : List Value).toArray s = true := fun w hw => hts w (List.mem_cons_of_mem _ (List.mem_append_right _ hw))
  have hcl := hts (.classLink RX3 114 eI) (by decide +kernel)
  have hini := hts (.initialized eI) (by decide +kernel)
  refine lv_iload_n hx hb dX3_findCopy_0 rfl (lv_at hl 1 rfl) ?_
  refine z_if_lt (tgt := 13) hx hb dX3_findCopy_1 (by decide) hz (fun h1 => ?_) (fun h1 => ?_)
  · exact z_thr hx hb hfl hml hl hown (by decide +kernel) hlk hte hT (is := 171) (by decide) hcl hini h1g TW.h2I TW.hgI dX3_findCopy_13 dX3_findCopy_16 dX3_findCopy_17 dX3_findCopy_19 dX3_findCopy_22 (by decide) rfl
  · refine lv_iload_n hx hb dX3_findCopy_4 rfl (lv_at hl 1 rfl) ?_
    refine lv_aload_n hx hb dX3_findCopy_5 rfl (lv_at hl 0 rfl) ?_
    refine z_get (C := RX3) (T := TX3) (N := 7) hx hb hts hiX3 hown hK hP.ob rfl 2 (by decide) (hts (.fieldLink RX3 21 "HarmoniumDesk" "copies" "[LHarmoniumDesk$Copy;") (by decide +kernel)) rfl rfl dX3_findCopy_6 ?_
    refine z_alen hx hb hK hP.cs 3 rfl dX3_findCopy_9 ?_
    refine z_icmp_lt (tgt := 23) hx hb dX3_findCopy_10 (by decide) hz (by omega) (fun h10 => ?_) (fun h10 => ?_)
    · refine lv_aload_n hx hb dX3_findCopy_23 rfl (lv_at hl 0 rfl) ?_
      refine z_get (C := RX3) (T := TX3) (N := 7) hx hb hts hiX3 hown hK hP.ob rfl 2 (by decide) (hts (.fieldLink RX3 21 "HarmoniumDesk" "copies" "[LHarmoniumDesk$Copy;") (by decide +kernel)) rfl rfl dX3_findCopy_24 ?_
      refine lv_iload_n hx hb dX3_findCopy_27 rfl (lv_at hl 1 rfl) ?_
      refine z_aldq hx hb hK hP.cs 3 rfl z.toNat (by omega) (by omega) (by decide) (o := none) (if_neg (by omega)) dX3_findCopy_28 ?_
      refine lv_astore_nN (lv' := [(2, .null), (0, .ref (a 1 0)), (1, .int (zi z))]) hx hb dX3_findCopy_29 rfl hl (by decide) rfl (fun ls hl => ?_)
      refine lv_aload_nN hx hb dX3_findCopy_30 rfl (lv_at hl 0 rfl) ?_
      refine lv_ifnonnullN hx hb dX3_findCopy_31 ?_
      exact z_thr hx hb hfl hml hl hown (by decide +kernel) hlk hte hT (is := 171) (by decide) hcl hini h1g TW.h2I TW.hgI dX3_findCopy_34 dX3_findCopy_37 dX3_findCopy_38 dX3_findCopy_40 dX3_findCopy_43 (by decide) rfl
    · exact z_thr hx hb hfl hml hl hown (by decide +kernel) hlk hte hT (is := 171) (by decide) hcl hini h1g TW.h2I TW.hgI dX3_findCopy_13 dX3_findCopy_16 dX3_findCopy_17 dX3_findCopy_19 dX3_findCopy_22 (by decide) rfl
set_option maxHeartbeats 4000000 in
set_option maxRecDepth 100000 in
theorem c_X3_checkVoice_x (l : Launch) (hfl : l.stackTraces = false) (g : gG) (z : Int) (hz : zr z) (hbad : ¬ (0 ≤ z ∧ z ≤ 1)) : XT l yX3_checkVoice wsX3_checkVoice ({ frames := 6, cells := 1, slots := 6, locals := 90 }) g [.int (zi z)] (fun _ => True) eI := by
  refine ZT.ofW (cc := cX3_checkVoice) (maxL := 1) (ret := none) (by decide) rfl (Nat.le_of_ble_eq_true rfl) ?_
  intro p e s m below meth c ls hx hb hr hml hown hts hlk hte hP hK hT hl
  have hown : s.vm.findClass RX3 = some m.cls := hown
  have hl : lv_has ls 1 [(0, .int (zi z))] := hl
  have h1g : ∀ w ∈ (vx_atS RX3 118 eI nTH).filter goodWord, w.before ([.int (zi z)] : List Value).toArray s = true := fun w hw => hts w (List.mem_cons_of_mem _ (List.mem_append_right _ hw))
  have hcl := hts (.classLink RX3 114 eI) (by decide +kernel)
  have hini := hts (.initialized eI) (by decide +kernel)
  refine lv_iload_n hx hb dX3_checkVoice_0 rfl (lv_at hl 0 rfl) ?_
  refine z_if_lt (tgt := 9) hx hb dX3_checkVoice_1 (by decide) hz (fun h1 => ?_) (fun h1 => ?_)
  · exact z_thr hx hb hfl hml hl hown (by decide +kernel) hlk hte hT (is := 173) (by decide) hcl hini h1g TW.h2I TW.hgI dX3_checkVoice_9 dX3_checkVoice_12 dX3_checkVoice_13 dX3_checkVoice_15 dX3_checkVoice_18 (by decide) rfl
  · refine lv_iload_n hx hb dX3_checkVoice_4 rfl (lv_at hl 0 rfl) ?_
    refine z_iconst hx hb dX3_checkVoice_5 ?_
    refine z_icmp_lt (tgt := 19) hx hb dX3_checkVoice_6 (by decide) hz (by decide) (fun h10 => ?_) (fun h10 => ?_)
    · exfalso; omega
    · exact z_thr hx hb hfl hml hl hown (by decide +kernel) hlk hte hT (is := 173) (by decide) hcl hini h1g TW.h2I TW.hgI dX3_checkVoice_9 dX3_checkVoice_12 dX3_checkVoice_13 dX3_checkVoice_15 dX3_checkVoice_18 (by decide) rfl
set_option maxHeartbeats 4000000 in
set_option maxRecDepth 100000 in
theorem c_X3_addVersion_x (l : Launch) (hfl : l.stackTraces = false) (g : gG) (σ : SG) (a : AD) (hW : WF σ) (v : Value) (hv : lv_args 0 [.ref (a 1 0), v] = [(0, .ref (a 1 0)), (1, v)]) (hsl : (lg_sl [.ref (a 1 0), v]).length ≤ 3) (hfull : σ 0 0 = 30) : XT l yX3_addVersion wsX3_addVersion ({ frames := 6, cells := 1, slots := 6, locals := 90 }) g [.ref (a 1 0), v] (DI g σ a) eS := by
  refine ZT.ofW (cc := cX3_addVersion) (maxL := 3) (ret := (some (.object "HarmoniumDesk$Version"))) (by decide) rfl hsl ?_
  intro p e s m below meth c ls hx hb hr hml hown hts hlk hte hP hK hT hl
  have hown : s.vm.findClass RX3 = some m.cls := hown
  have hl : lv_has ls 3 [(0, .ref (a 1 0)), (1, v)] := by rw [hv] at hl; exact hl
  have h1g : ∀ w ∈ (vx_atS RX3 89 eS nTH).filter goodWord, w.before ([.ref (a 1 0), v] : List Value).toArray s = true := fun w hw => hts w (List.mem_cons_of_mem _ (List.mem_append_right _ hw))
  have hcl := hts (.classLink RX3 85 eS) (by decide +kernel)
  have hini := hts (.initialized eS) (by decide +kernel)
  have hiX3 : ∀ w ∈ u_ws RX3 TX3 7, w ∈ wsX3_addVersion := by decide +kernel
  refine lv_aload_n hx hb dX3_addVersion_0 rfl (lv_at hl 0 rfl) ?_
  refine z_get (C := RX3) (T := TX3) (N := 7) hx hb hts hiX3 hown hK hP.ob rfl 1 (by decide) (hts (.fieldLink RX3 15 "HarmoniumDesk" "versionCount" "I") (by decide +kernel)) rfl rfl dX3_addVersion_1 ?_
  refine z_if_lt (tgt := 19) hx hb dX3_addVersion_4 (by decide) (by omega) (fun h1 => ?_) (fun h1 => ?_)
  · exfalso; omega
  · refine lv_aload_n hx hb dX3_addVersion_7 rfl (lv_at hl 0 rfl) ?_
    refine z_get (C := RX3) (T := TX3) (N := 7) hx hb hts hiX3 hown hK hP.ob rfl 1 (by decide) (hts (.fieldLink RX3 15 "HarmoniumDesk" "versionCount" "I") (by decide +kernel)) rfl rfl dX3_addVersion_8 ?_
    refine lv_aload_n hx hb dX3_addVersion_11 rfl (lv_at hl 0 rfl) ?_
    refine z_get (C := RX3) (T := TX3) (N := 7) hx hb hts hiX3 hown hK hP.ob rfl 0 (by decide) (hts (.fieldLink RX3 11 "HarmoniumDesk" "versions" "[LHarmoniumDesk$Version;") (by decide +kernel)) rfl rfl dX3_addVersion_12 ?_
    refine z_alen hx hb hK hP.vs 2 rfl dX3_addVersion_15 ?_
    refine z_icmp_lt (tgt := 29) hx hb dX3_addVersion_16 (by decide) (by omega) (by omega) (fun h10 => ?_) (fun h10 => ?_)
    · exfalso; omega
    · exact z_thr hx hb hfl hml hl hown (by decide +kernel) hlk hte hT (is := 180) (by decide) hcl hini h1g TW.h2S TW.hgS dX3_addVersion_19 dX3_addVersion_22 dX3_addVersion_23 dX3_addVersion_25 dX3_addVersion_28 (by decide) rfl
