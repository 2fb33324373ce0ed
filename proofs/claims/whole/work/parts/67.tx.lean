/-! ===== the Desk's helpers throw ===== -/
theorem TW.h2S : ∀ w ∈ (vx_atS RX3 89 eS nTH).filter (fun w => !goodWord w), w ∈ TWb := by decide +kernel
theorem TW.hgS : ∀ w ∈ Cond.classLink RX3 85 eS :: Cond.initialized eS :: vx_atS RX3 89 eS nTH, vx_ot w = true := by decide +kernel
set_option maxHeartbeats 4000000 in
set_option maxRecDepth 100000 in
theorem c_X3_findCopy_x (l : Launch) (hfl : l.stackTraces = false) (g : gG) (σ : SG) (a : AD) (hW : WF σ) (z : Int) (hz : zr z) (hbad : ¬ (0 ≤ z ∧ z < σ 8 0)) : XT l yX3_findCopy wsX3_findCopy ({ frames := 6, cells := 1, slots := 6, locals := 90 }) g [.ref (a 1 0), .int (zi z)] (DI g σ a) eI := by
  refine ZT.ofW (cc := cX3_findCopy) (maxL := 3) (ret := (some (.object "HarmoniumDesk$Copy"))) (by decide) rfl (Nat.le_of_ble_eq_true rfl) ?_
  intro p e s m below meth c ls hx hb hr hml hown hts hlk hte hP hK hT hl
  have hown : s.vm.findClass RX3 = some m.cls := hown
  have hl : lv_has ls 3 [(0, .ref (a 1 0)), (1, .int (zi z))] := hl
  have hiX3 : ∀ w ∈ u_ws RX3 TX3 7, w ∈ wsX3_findCopy := by decide +kernel
  have hn := hW.cn
  have h1g : ∀ w ∈ (vx_atS RX3 118 eI nTH).filter goodWord, w.before ([.ref (a 1 0), .int (zi z)] : List Value).toArray s = true := fun w hw => hts w (List.mem_cons_of_mem _ (List.mem_append_right _ hw))
  have hcl := hts (.classLink RX3 114 eI) (by decide +kernel)
  have hini := hts (.initialized eI) (by decide +kernel)
  refine lv_iload_n hx hb dX3_findCopy_0 rfl (lv_at hl 1 rfl) ?_
  refine z_if_lt (tgt := 13) hx hb dX3_findCopy_1 (by decide) hz (fun h1 => ?_) (fun h1 => ?_)
  · exact z_thr hx hb hfl hml hl hown (by decide +kernel) hlk hte hT (is := 171) (by decide) hcl hini h1g TW.h2I TW.hgI dX3_findCopy_13 dX3_findCopy_16 dX3_findCopy_17 dX3_findCopy_19 dX3_findCopy_22 (by decide) rfl
  · refine lv_iload_n hx hb dX3_findCopy_4 rfl (lv_at hl 1 rfl) ?_
    refine lv_aload_n hx hb dX3_findCopy_5 rfl (lv_at hl 0 rfl) ?_
    refine z_get (C := RX3) (T := TX3) (N := 7) hx hb hts hiX3 hown hK hP.ob rfl 2 (by decide) (hts (.fieldLink RX3 21 "HarmoniumDesk" "copies" "[LHarmoniumDesk$Copy;") (by decide +kernel)) rfl rfl dX3_findCopy_6 ?_
    refine z_alen hx hb hK hP.cs 3 rfl dX3_findCopy_9 ?_
    refine z_icmp_lt (tgt := 23) hx hb dX3_findCopy_10 (by decide) hz (by omega) (fun h10 => ?_) (fun h10 => ?_)
    · refine lv_aload_n hx hb dX3_findCopy_23 rfl (lv_at hl 0 rfl) ?_
      refine z_get (C := RX3) (T := TX3) (N := 7) hx hb hts hiX3 hown hK hP.ob rfl 2 (by decide) (hts (.fieldLink RX3 21 "HarmoniumDesk" "copies" "[LHarmoniumDesk$Copy;") (by decide +kernel)) rfl rfl dX3_findCopy_24 ?_
      refine lv_iload_n hx hb dX3_findCopy_27 rfl (lv_at hl 1 rfl) ?_
      refine z_aldq hx hb hK hP.cs 3 rfl z.toNat (by omega) (by omega) (by decide) (o := none) (if_neg (by omega)) dX3_findCopy_28 ?_
      refine lv_astore_nN (lv' := [(2, .null), (0, .ref (a 1 0)), (1, .int (zi z))]) hx hb dX3_findCopy_29 rfl hl (by decide) rfl (fun ls hl => ?_)
      refine lv_aload_nN hx hb dX3_findCopy_30 rfl (lv_at hl 0 rfl) ?_
      refine lv_ifnonnullN hx hb dX3_findCopy_31 ?_
      exact z_thr hx hb hfl hml hl hown (by decide +kernel) hlk hte hT (is := 171) (by decide) hcl hini h1g TW.h2I TW.hgI dX3_findCopy_34 dX3_findCopy_37 dX3_findCopy_38 dX3_findCopy_40 dX3_findCopy_43 (by decide) rfl
    · exact z_thr hx hb hfl hml hl hown (by decide +kernel) hlk hte hT (is := 171) (by decide) hcl hini h1g TW.h2I TW.hgI dX3_findCopy_13 dX3_findCopy_16 dX3_findCopy_17 dX3_findCopy_19 dX3_findCopy_22 (by decide) rfl
set_option maxHeartbeats 4000000 in
set_option maxRecDepth 100000 in
theorem c_X3_checkVoice_x (l : Launch) (hfl : l.stackTraces = false) (g : gG) (z : Int) (hz : zr z) (hbad : ¬ (0 ≤ z ∧ z ≤ 1)) : XT l yX3_checkVoice wsX3_checkVoice ({ frames := 6, cells := 1, slots := 6, locals := 90 }) g [.int (zi z)] (fun _ => True) eI := by
  refine ZT.ofW (cc := cX3_checkVoice) (maxL := 1) (ret := none) (by decide) rfl (Nat.le_of_ble_eq_true rfl) ?_
  intro p e s m below meth c ls hx hb hr hml hown hts hlk hte hP hK hT hl
  have hown : s.vm.findClass RX3 = some m.cls := hown
  have hl : lv_has ls 1 [(0, .int (zi z))] := hl
  have h1g : ∀ w ∈ (vx_atS RX3 118 eI nTH).filter goodWord, w.before ([.int (zi z)] : List Value).toArray s = true := fun w hw => hts w (List.mem_cons_of_mem _ (List.mem_append_right _ hw))
  have hcl := hts (.classLink RX3 114 eI) (by decide +kernel)
  have hini := hts (.initialized eI) (by decide +kernel)
  refine lv_iload_n hx hb dX3_checkVoice_0 rfl (lv_at hl 0 rfl) ?_
  refine z_if_lt (tgt := 9) hx hb dX3_checkVoice_1 (by decide) hz (fun h1 => ?_) (fun h1 => ?_)
  · exact z_thr hx hb hfl hml hl hown (by decide +kernel) hlk hte hT (is := 173) (by decide) hcl hini h1g TW.h2I TW.hgI dX3_checkVoice_9 dX3_checkVoice_12 dX3_checkVoice_13 dX3_checkVoice_15 dX3_checkVoice_18 (by decide) rfl
  · refine lv_iload_n hx hb dX3_checkVoice_4 rfl (lv_at hl 0 rfl) ?_
    refine z_iconst hx hb dX3_checkVoice_5 ?_
    refine z_icmp_lt (tgt := 19) hx hb dX3_checkVoice_6 (by decide) hz (by decide) (fun h10 => ?_) (fun h10 => ?_)
    · exfalso; omega
    · exact z_thr hx hb hfl hml hl hown (by decide +kernel) hlk hte hT (is := 173) (by decide) hcl hini h1g TW.h2I TW.hgI dX3_checkVoice_9 dX3_checkVoice_12 dX3_checkVoice_13 dX3_checkVoice_15 dX3_checkVoice_18 (by decide) rfl
set_option maxHeartbeats 4000000 in
set_option maxRecDepth 100000 in
theorem c_X3_addVersion_x (l : Launch) (hfl : l.stackTraces = false) (g : gG) (σ : SG) (a : AD) (hW : WF σ) (v : Value) (hv : lv_args 0 [.ref (a 1 0), v] = [(0, .ref (a 1 0)), (1, v)]) (hsl : (lg_sl [.ref (a 1 0), v]).length ≤ 3) (hfull : σ 0 0 = 30) : XT l yX3_addVersion wsX3_addVersion ({ frames := 6, cells := 1, slots := 6, locals := 90 }) g [.ref (a 1 0), v] (DI g σ a) eS := by
  refine ZT.ofW (cc := cX3_addVersion) (maxL := 3) (ret := (some (.object "HarmoniumDesk$Version"))) (by decide) rfl hsl ?_
  intro p e s m below meth c ls hx hb hr hml hown hts hlk hte hP hK hT hl
  have hown : s.vm.findClass RX3 = some m.cls := hown
  have hl : lv_has ls 3 [(0, .ref (a 1 0)), (1, v)] := by rw [hv] at hl; exact hl
  have h1g : ∀ w ∈ (vx_atS RX3 89 eS nTH).filter goodWord, w.before ([.ref (a 1 0), v] : List Value).toArray s = true := fun w hw => hts w (List.mem_cons_of_mem _ (List.mem_append_right _ hw))
  have hcl := hts (.classLink RX3 85 eS) (by decide +kernel)
  have hini := hts (.initialized eS) (by decide +kernel)
  have hiX3 : ∀ w ∈ u_ws RX3 TX3 7, w ∈ wsX3_addVersion := by decide +kernel
  refine lv_aload_n hx hb dX3_addVersion_0 rfl (lv_at hl 0 rfl) ?_
  refine z_get (C := RX3) (T := TX3) (N := 7) hx hb hts hiX3 hown hK hP.ob rfl 1 (by decide) (hts (.fieldLink RX3 15 "HarmoniumDesk" "versionCount" "I") (by decide +kernel)) rfl rfl dX3_addVersion_1 ?_
  refine z_if_lt (tgt := 19) hx hb dX3_addVersion_4 (by decide) (by omega) (fun h1 => ?_) (fun h1 => ?_)
  · exfalso; omega
  · refine lv_aload_n hx hb dX3_addVersion_7 rfl (lv_at hl 0 rfl) ?_
    refine z_get (C := RX3) (T := TX3) (N := 7) hx hb hts hiX3 hown hK hP.ob rfl 1 (by decide) (hts (.fieldLink RX3 15 "HarmoniumDesk" "versionCount" "I") (by decide +kernel)) rfl rfl dX3_addVersion_8 ?_
    refine lv_aload_n hx hb dX3_addVersion_11 rfl (lv_at hl 0 rfl) ?_
    refine z_get (C := RX3) (T := TX3) (N := 7) hx hb hts hiX3 hown hK hP.ob rfl 0 (by decide) (hts (.fieldLink RX3 11 "HarmoniumDesk" "versions" "[LHarmoniumDesk$Version;") (by decide +kernel)) rfl rfl dX3_addVersion_12 ?_
    refine z_alen hx hb hK hP.vs 2 rfl dX3_addVersion_15 ?_
    refine z_icmp_lt (tgt := 29) hx hb dX3_addVersion_16 (by decide) (by omega) (by omega) (fun h10 => ?_) (fun h10 => ?_)
    · exfalso; omega
    · exact z_thr hx hb hfl hml hl hown (by decide +kernel) hlk hte hT (is := 180) (by decide) hcl hini h1g TW.h2S TW.hgS dX3_addVersion_19 dX3_addVersion_22 dX3_addVersion_23 dX3_addVersion_25 dX3_addVersion_28 (by decide) rfl
set_option maxHeartbeats 4000000 in
set_option maxRecDepth 100000 in
theorem c_X3_checkBar_x (l : Launch) (hfl : l.stackTraces = false) (g : gG) (σ : SG) (a : AD) (hW : WF σ) (k : Nat) (hk : (k : Int) < σ 0 0) (z : Int) (hz : zr z) (hbad : ¬ (0 ≤ z ∧ z < σ 1 k)) : XT l yX3_checkBar wsX3_checkBar ({ frames := 6, cells := 1, slots := 6, locals := 90 }) g [.ref (a 8 k), .int (zi z)] (DI g σ a) eI := by
  refine ZT.ofW (cc := cX3_checkBar) (maxL := 2) (ret := none) (by decide) rfl (Nat.le_of_ble_eq_true rfl) ?_
  intro p e s m below meth c ls hx hb hr hml hown hts hlk hte hP hK hT hl
  have hown : s.vm.findClass RX3 = some m.cls := hown
  have hl : lv_has ls 2 [(0, .ref (a 8 k)), (1, .int (zi z))] := hl
  have h1g : ∀ w ∈ (vx_atS RX3 118 eI nTH).filter goodWord, w.before ([.ref (a 8 k), .int (zi z)] : List Value).toArray s = true := fun w hw => hts w (List.mem_cons_of_mem _ (List.mem_append_right _ hw))
  have hcl := hts (.classLink RX3 114 eI) (by decide +kernel)
  have hini := hts (.initialized eI) (by decide +kernel)
  have hiX1 : ∀ w ∈ u_ws RX1 TX1 3, w ∈ wsX3_checkBar := by decide +kernel
  have hiX2 : ∀ w ∈ u_ws RX2 TX2 5, w ∈ wsX3_checkBar := by decide +kernel
  have hn := hW.n
  have hbk := hW.bars hk
  obtain ⟨uk, lk, hsk, nuk, nlk, eqk⟩ := (hP.vk hk).2
  refine lv_iload_n hx hb dX3_checkBar_0 rfl (lv_at hl 1 rfl) ?_
  refine z_if_lt (tgt := 15) hx hb dX3_checkBar_1 (by decide) (by omega) (fun h1 => ?_) (fun h1 => ?_)
  · exact z_thr hx hb hfl hml hl hown (by decide +kernel) hlk hte hT (is := 175) (by decide) hcl hini h1g TW.h2I TW.hgI dX3_checkBar_15 dX3_checkBar_18 dX3_checkBar_19 dX3_checkBar_21 dX3_checkBar_24 (by decide) rfl
  ·
    refine lv_iload_n hx hb dX3_checkBar_4 rfl (lv_at hl 1 rfl) ?_
    refine lv_aload_n hx hb dX3_checkBar_5 rfl (lv_at hl 0 rfl) ?_
    refine z_getN (C := RX2) (T := TX2) (N := 5) (ref := "HarmoniumDesk$Version") (host := RX3) hx hb hts hiX2 hown hK (hP.vk hk).1 rfl 2 (by decide) (by decide +kernel) rfl rfl dX3_checkBar_6 ?_
    refine z_getN (C := RX1) (T := TX1) (N := 3) (ref := "HarmoniumDesk$Score") (host := RX3) hx hb hts hiX1 hown hK hsk.1 rfl 0 (by decide) (by decide +kernel) rfl rfl dX3_checkBar_9 ?_
    refine z_icmp_lt (tgt := 25) hx hb dX3_checkBar_12 (by decide) (by omega) (by omega) (fun h12 => ?_) (fun h12 => ?_)
    ·
      exfalso; omega
    · exact z_thr hx hb hfl hml hl hown (by decide +kernel) hlk hte hT (is := 175) (by decide) hcl hini h1g TW.h2I TW.hgI dX3_checkBar_15 dX3_checkBar_18 dX3_checkBar_19 dX3_checkBar_21 dX3_checkBar_24 (by decide) rfl
set_option maxHeartbeats 4000000 in
set_option maxRecDepth 100000 in
theorem c_X3_checkAsManyBars_x (l : Launch) (hfl : l.stackTraces = false) (g : gG) (σ : SG) (a : AD) (hW : WF σ) (c1 : Nat) (hc : (c1 : Int) < σ 8 0) (k : Nat) (hk : (k : Int) < σ 0 0) (hln : ¬ σ 1 k = σ 9 c1) : XT l yX3_checkAsManyBars wsX3_checkAsManyBars ({ frames := 6, cells := 1, slots := 6, locals := 90 }) g [.ref (a 12 c1), .ref (a 8 k)] (DI g σ a) eS := by
  refine ZT.ofW (cc := cX3_checkAsManyBars) (maxL := 2) (ret := none) (by decide) rfl (Nat.le_of_ble_eq_true rfl) ?_
  intro p e s m below meth c ls hx hb hr hml hown hts hlk hte hP hK hT hl
  have hown : s.vm.findClass RX3 = some m.cls := hown
  have hl : lv_has ls 2 [(0, .ref (a 12 c1)), (1, .ref (a 8 k))] := hl
  have h1g : ∀ w ∈ (vx_atS RX3 89 eS nTH).filter goodWord, w.before ([.ref (a 12 c1), .ref (a 8 k)] : List Value).toArray s = true := fun w hw => hts w (List.mem_cons_of_mem _ (List.mem_append_right _ hw))
  have hcl := hts (.classLink RX3 85 eS) (by decide +kernel)
  have hini := hts (.initialized eS) (by decide +kernel)
  have hiX0 : ∀ w ∈ u_ws RX0 TX0 4, w ∈ wsX3_checkAsManyBars := by decide +kernel
  have hiX1 : ∀ w ∈ u_ws RX1 TX1 3, w ∈ wsX3_checkAsManyBars := by decide +kernel
  have hiX2 : ∀ w ∈ u_ws RX2 TX2 5, w ∈ wsX3_checkAsManyBars := by decide +kernel
  have hn := hW.n
  have hbk := hW.bars hk
  have hcp := hW.cp hc
  obtain ⟨uk, lk, hsk, nuk, nlk, eqk⟩ := (hP.vk hk).2
  refine lv_aload_n hx hb dX3_checkAsManyBars_0 rfl (lv_at hl 0 rfl) ?_
  refine z_getN (C := RX0) (T := TX0) (N := 4) (ref := "HarmoniumDesk$Copy") (host := RX3) hx hb hts hiX0 hown hK (hP.ck hc).1 rfl 1 (by decide) (by decide +kernel) rfl rfl dX3_checkAsManyBars_1 ?_
  refine lv_aload_n hx hb dX3_checkAsManyBars_4 rfl (lv_at hl 1 rfl) ?_
  refine z_getN (C := RX2) (T := TX2) (N := 5) (ref := "HarmoniumDesk$Version") (host := RX3) hx hb hts hiX2 hown hK (hP.vk hk).1 rfl 2 (by decide) (by decide +kernel) rfl rfl dX3_checkAsManyBars_5 ?_
  refine z_getN (C := RX1) (T := TX1) (N := 3) (ref := "HarmoniumDesk$Score") (host := RX3) hx hb hts hiX1 hown hK hsk.1 rfl 0 (by decide) (by decide +kernel) rfl rfl dX3_checkAsManyBars_8 ?_
  refine z_icmp_eq (tgt := 24) hx hb dX3_checkAsManyBars_11 (by decide) (by omega) (by omega) (fun h11 => ?_) (fun h11 => ?_)
  ·
    exfalso; omega
  · exact z_thr hx hb hfl hml hl hown (by decide +kernel) hlk hte hT (is := 178) (by decide) hcl hini h1g TW.h2S TW.hgS dX3_checkAsManyBars_14 dX3_checkAsManyBars_17 dX3_checkAsManyBars_18 dX3_checkAsManyBars_20 dX3_checkAsManyBars_23 (by decide) rfl
set_option maxHeartbeats 4000000 in
set_option maxRecDepth 100000 in
theorem c_X3_addCopy_x (l : Launch) (hfl : l.stackTraces = false) (g : gG) (σ : SG) (a : AD) (hW : WF σ) (v : Int) (q2 : Nat) (hfull : σ 8 0 = 20) : XT l yX3_addCopy wsX3_addCopy ({ frames := 6, cells := 1, slots := 6, locals := 90 }) g [.ref (a 1 0), .int (zi v), .ref q2] (DI g σ a) eS := by
  refine ZT.ofW (cc := cX3_addCopy) (maxL := 4) (ret := (some .int)) (by decide) rfl (Nat.le_of_ble_eq_true rfl) ?_
  intro p e s m below meth c ls hx hb hr hml hown hts hlk hte hP hK hT hl
  have hown : s.vm.findClass RX3 = some m.cls := hown
  have hl : lv_has ls 4 [(0, .ref (a 1 0)), (1, .int (zi v)), (2, .ref q2)] := hl
  have h1g : ∀ w ∈ (vx_atS RX3 89 eS nTH).filter goodWord, w.before ([.ref (a 1 0), .int (zi v), .ref q2] : List Value).toArray s = true := fun w hw => hts w (List.mem_cons_of_mem _ (List.mem_append_right _ hw))
  have hcl := hts (.classLink RX3 85 eS) (by decide +kernel)
  have hini := hts (.initialized eS) (by decide +kernel)
  have hiX3 : ∀ w ∈ u_ws RX3 TX3 7, w ∈ wsX3_addCopy := by decide +kernel
  refine lv_aload_n hx hb dX3_addCopy_0 rfl (lv_at hl 0 rfl) ?_
  refine z_get (C := RX3) (T := TX3) (N := 7) hx hb hts hiX3 hown hK hP.ob rfl 3 (by decide) (hts (.fieldLink RX3 25 "HarmoniumDesk" "copyCount" "I") (by decide +kernel)) rfl rfl dX3_addCopy_1 ?_
  refine lv_istore_n (lv' := [(3, .int (zi (σ 8 0))), (0, .ref (a 1 0)), (1, .int (zi v)), (2, .ref q2)]) hx hb dX3_addCopy_4 rfl hl (by decide) rfl (fun ls hl => ?_)
  refine lv_iload_n hx hb dX3_addCopy_5 rfl (lv_at hl 0 rfl) ?_
  refine z_if_lt (tgt := 18) hx hb dX3_addCopy_6 (by decide) (by omega) (fun h1 => ?_) (fun h1 => ?_)
  · exfalso; omega
  · refine lv_iload_n hx hb dX3_addCopy_9 rfl (lv_at hl 0 rfl) ?_
    refine lv_aload_n hx hb dX3_addCopy_10 rfl (lv_at hl 1 rfl) ?_
    refine z_get (C := RX3) (T := TX3) (N := 7) hx hb hts hiX3 hown hK hP.ob rfl 2 (by decide) (hts (.fieldLink RX3 21 "HarmoniumDesk" "copies" "[LHarmoniumDesk$Copy;") (by decide +kernel)) rfl rfl dX3_addCopy_11 ?_
    refine z_alen hx hb hK hP.cs 3 rfl dX3_addCopy_14 ?_
    refine z_icmp_lt (tgt := 28) hx hb dX3_addCopy_15 (by decide) (by omega) (by omega) (fun h10 => ?_) (fun h10 => ?_)
    · exfalso; omega
    · exact z_thr hx hb hfl hml hl hown (by decide +kernel) hlk hte hT (is := 185) (by decide) hcl hini h1g TW.h2S TW.hgS dX3_addCopy_18 dX3_addCopy_21 dX3_addCopy_22 dX3_addCopy_24 dX3_addCopy_27 (by decide) rfl
