/-! ===== the Desk's calls that throw by themselves, and a full desk ===== -/
theorem GI_A_X3_setWeight : ∀ w ∈ (vx_atS RX3 46 eA nTH).filter goodWord, w ∈ wsX3_setWeight := by decide +kernel
set_option maxHeartbeats 4000000 in
set_option maxRecDepth 100000 in
theorem c_X3_setWeight_2 (l : Launch) (hfl : l.stackTraces = false) (g : gG) (σ : SG) (a : AD) (hW : WF σ) (z t : Int) (hg : 0 ≤ z ∧ z ≤ 5) (ht : zr t) (hbad : ¬ (0 ≤ t ∧ t ≤ 50))  : XT l yX3_setWeight wsX3_setWeight ({ frames := 6, cells := 1, slots := 6, locals := 90 }) g [.ref (a 1 0), .int (zi (z)), .int (zi (t))] (DI g σ a) eA := by
  refine ZT.ofW (cc := cX3_setWeight) (maxL := 4) (ret := (some .int)) (by decide) rfl (Nat.le_of_ble_eq_true rfl) ?_
  intro p e s m below meth c ls hx hb hr hml hown hts hlk hte hP hK hT hl
  have hown : s.vm.findClass RX3 = some m.cls := hown
  have hl : lv_has ls 4 [(0, .ref (a 1 0)), (1, .int (zi (z))), (2, .int (zi (t)))] := hl
  have h1gA : ∀ w ∈ (vx_atS RX3 46 eA nTH).filter goodWord, w.before ([.ref (a 1 0), .int (zi (z)), .int (zi (t))] : List Value).toArray s = true := fun w hw => hts w (GI_A_X3_setWeight w hw)
  have hclA := hts (.classLink RX3 42 eA) (by decide +kernel)
  have hiniA := hts (.initialized eA) (by decide +kernel)
  have hiX3 : ∀ w ∈ u_ws RX3 TX3 7, w ∈ wsX3_setWeight := by decide +kernel
  refine lv_iload_n hx hb dX3_setWeight_0 rfl (lv_at hl 1 rfl) ?_
  refine z_if_lt (tgt := 13) hx hb dX3_setWeight_1 (by decide) (by omega) (fun h1 => ?_) (fun h1 => ?_)
  · exfalso; omega
  ·
    refine lv_iload_n hx hb dX3_setWeight_4 rfl (lv_at hl 1 rfl) ?_
    refine lv_aload_n hx hb dX3_setWeight_5 rfl (lv_at hl 0 rfl) ?_
    refine z_get (C := RX3) (T := TX3) (N := 7) hx hb hts hiX3 hown hK hP.ob rfl 4 (by decide) (hts (.fieldLink RX3 28 "HarmoniumDesk" "weights" "[I") (by decide +kernel)) rfl rfl dX3_setWeight_6 ?_
    refine z_alen hx hb hK hP.wt 0 rfl dX3_setWeight_9 ?_
    refine z_icmp_lt (tgt := 23) hx hb dX3_setWeight_10 (by decide) (by omega) (by omega) (fun h10 => ?_) (fun h10 => ?_)
    ·
      refine lv_iload_n hx hb dX3_setWeight_23 rfl (lv_at hl 2 rfl) ?_
      refine z_if_lt (tgt := 33) hx hb dX3_setWeight_24 (by decide) (by omega) (fun h24 => ?_) (fun h24 => ?_)
      ·
        exact z_thr hx hb hfl hml hl hown (by decide +kernel) hlk hte hT (is := 119) (by decide) hclA hiniA h1gA TW.h2A TW.hgA dX3_setWeight_33 dX3_setWeight_36 dX3_setWeight_37 dX3_setWeight_39 dX3_setWeight_42 (by decide) rfl
      ·
        refine lv_iload_n hx hb dX3_setWeight_27 rfl (lv_at hl 2 rfl) ?_
        refine z_bipush hx hb dX3_setWeight_28 (by decide) ?_
        refine z_icmp_le (tgt := 43) hx hb dX3_setWeight_30 (by decide) (by omega) (by omega) (fun h30 => ?_) (fun h30 => ?_)
        · exfalso; omega
        ·
          exact z_thr hx hb hfl hml hl hown (by decide +kernel) hlk hte hT (is := 119) (by decide) hclA hiniA h1gA TW.h2A TW.hgA dX3_setWeight_33 dX3_setWeight_36 dX3_setWeight_37 dX3_setWeight_39 dX3_setWeight_42 (by decide) rfl
    · exfalso; omega

theorem GI_A_X3_setNote : ∀ w ∈ (vx_atS RX3 46 eA nTH).filter goodWord, w ∈ wsX3_setNote := by decide +kernel
set_option maxHeartbeats 4000000 in
set_option maxRecDepth 100000 in
theorem c_X3_setNote_2 (l : Launch) (hfl : l.stackTraces = false) (g : gG) (σ : SG) (a : AD) (hW : WF σ) (k : Nat) (hk : (k : Int) < σ 0 0) (zk : Int) (hzk : zk = (k : Int)) (v : Nat) (hv1 : v ≤ 1) (zv : Int) (hzv : zv = (v : Int)) (b : Nat) (hbb : (b : Int) < σ 1 k) (zb : Int) (hzb : zb = (b : Int)) (t : Int) (ht : zr t) (hbad : ¬ (0 ≤ t ∧ t ≤ 40)) : XT l yX3_setNote wsX3_setNote ({ frames := 6, cells := 1, slots := 6, locals := 90 }) g [.ref (a 1 0), .int (zi (zk)), .int (zi (zv)), .int (zi (zb)), .int (zi (t))] (DI g σ a) eA := by
  refine ZT.ofW (cc := cX3_setNote) (maxL := 7) (ret := (some .int)) (by decide) rfl (Nat.le_of_ble_eq_true rfl) ?_
  intro p e s m below meth c ls hx hb hr hml hown hts hlk hte hP hK hT hl
  have hown : s.vm.findClass RX3 = some m.cls := hown
  have hl : lv_has ls 7 [(0, .ref (a 1 0)), (1, .int (zi (zk))), (2, .int (zi (zv))), (3, .int (zi (zb))), (4, .int (zi (t)))] := hl
  have h1gA : ∀ w ∈ (vx_atS RX3 46 eA nTH).filter goodWord, w.before ([.ref (a 1 0), .int (zi (zk)), .int (zi (zv)), .int (zi (zb)), .int (zi (t))] : List Value).toArray s = true := fun w hw => hts w (GI_A_X3_setNote w hw)
  have hclA := hts (.classLink RX3 42 eA) (by decide +kernel)
  have hiniA := hts (.initialized eA) (by decide +kernel)
  have hn := hW.n
  have hbk := hW.bars hk
  obtain ⟨uk, lk, hsk, nuk, nlk, eqk⟩ := (hP.vk hk).2
  refine lv_aload_n hx hb dX3_setNote_0 rfl (lv_at hl 0 rfl) ?_
  refine lv_iload_n hx hb dX3_setNote_1 rfl (lv_at hl 1 rfl) ?_
  refine rq_V (rest := []) (As := [.int (zi (zk))]) ⟨hx, hb, hml, hown, hts⟩ (c_X3_findVersion l g σ a hW k hk (zk) (by omega)) (cwV 1 hts gX3_setNote_X3_findVersion rfl rfl rfl (by decide +kernel) ⟨Nat.le_of_ble_eq_true rfl, Nat.le_of_ble_eq_true rfl⟩) (z_recv hK hP.ob rfl) hP hK rfl hl.1 rfl (Nat.le_of_ble_eq_true rfl) dX3_setNote_2 ⟨Nat.zero_le _, Nat.zero_le _⟩ ?_
  refine lv_astore (lv' := [(5, .ref (a 8 k)), (0, .ref (a 1 0)), (1, .int (zi (zk))), (2, .int (zi (zv))), (3, .int (zi (zb))), (4, .int (zi (t)))]) hx hb dX3_setNote_5 hl (by decide) rfl (fun ls hl => ?_)
  refine lv_iload_n hx hb dX3_setNote_7 rfl (lv_at hl 3 rfl) ?_
  refine rv_S (rest := []) (As := [.int (zi (zv))]) ⟨hx, hb, hml, hown, hts⟩ (c_X3_checkVoice l g (zv) (by omega)) (cwS 1 hts gX3_setNote_X3_checkVoice rfl rfl rfl (by decide +kernel) ⟨Nat.le_of_ble_eq_true rfl, Nat.le_of_ble_eq_true rfl⟩) trivial hK rfl hl.1 rfl (Nat.le_of_ble_eq_true rfl) dX3_setNote_8 ⟨Nat.zero_le _, Nat.zero_le _⟩ ?_
  refine lv_aload hx hb dX3_setNote_11 (lv_at hl 0 rfl) ?_
  refine lv_iload_n hx hb dX3_setNote_13 rfl (lv_at hl 4 rfl) ?_
  refine rv_S (rest := []) (As := [.ref (a 8 k), .int (zi (zb))]) ⟨hx, hb, hml, hown, hts⟩ (c_X3_checkBar l g σ a hW k hk b hbb (zb) (by omega)) (cwS 2 hts gX3_setNote_X3_checkBar rfl rfl rfl (by decide +kernel) ⟨Nat.le_of_ble_eq_true rfl, Nat.le_of_ble_eq_true rfl⟩) hP hK rfl hl.1 rfl (Nat.le_of_ble_eq_true rfl) dX3_setNote_14 ⟨Nat.zero_le _, Nat.zero_le _⟩ ?_
  refine lv_iload hx hb dX3_setNote_17 (lv_at hl 5 rfl) ?_
  refine z_if_lt (tgt := 29) hx hb dX3_setNote_19 (by decide) (by omega) (fun h19 => ?_) (fun h19 => ?_)
  ·
    exact z_thr hx hb hfl hml hl hown (by decide +kernel) hlk hte hT (is := 83) (by decide) hclA hiniA h1gA TW.h2A TW.hgA dX3_setNote_29 dX3_setNote_32 dX3_setNote_33 dX3_setNote_35 dX3_setNote_38 (by decide) rfl
  ·
    refine lv_iload hx hb dX3_setNote_22 (lv_at hl 5 rfl) ?_
    refine z_bipush hx hb dX3_setNote_24 (by decide) ?_
    refine z_icmp_le (tgt := 39) hx hb dX3_setNote_26 (by decide) (by omega) (by omega) (fun h26 => ?_) (fun h26 => ?_)
    · exfalso; omega
    ·
      exact z_thr hx hb hfl hml hl hown (by decide +kernel) hlk hte hT (is := 83) (by decide) hclA hiniA h1gA TW.h2A TW.hgA dX3_setNote_29 dX3_setNote_32 dX3_setNote_33 dX3_setNote_35 dX3_setNote_38 (by decide) rfl

theorem GI_S_X3_setNote : ∀ w ∈ (vx_atS RX3 89 eS nTH).filter goodWord, w ∈ wsX3_setNote := by decide +kernel
set_option maxHeartbeats 4000000 in
set_option maxRecDepth 100000 in
theorem c_X3_setNote_3 (l : Launch) (hfl : l.stackTraces = false) (g : gG) (σ : SG) (a : AD) (hW : WF σ) (k : Nat) (hk : (k : Int) < σ 0 0) (zk : Int) (hzk : zk = (k : Int)) (v : Nat) (hv1 : v ≤ 1) (zv : Int) (hzv : zv = (v : Int)) (b : Nat) (hbb : (b : Int) < σ 1 k) (zb : Int) (hzb : zb = (b : Int)) (t : Int) (hg : 0 ≤ t ∧ t ≤ 40) (hbad : σ 3 k = 1) : XT l yX3_setNote wsX3_setNote ({ frames := 6, cells := 1, slots := 6, locals := 90 }) g [.ref (a 1 0), .int (zi (zk)), .int (zi (zv)), .int (zi (zb)), .int (zi (t))] (DI g σ a) eS := by
  refine ZT.ofW (cc := cX3_setNote) (maxL := 7) (ret := (some .int)) (by decide) rfl (Nat.le_of_ble_eq_true rfl) ?_
  intro p e s m below meth c ls hx hb hr hml hown hts hlk hte hP hK hT hl
  have hown : s.vm.findClass RX3 = some m.cls := hown
  have hl : lv_has ls 7 [(0, .ref (a 1 0)), (1, .int (zi (zk))), (2, .int (zi (zv))), (3, .int (zi (zb))), (4, .int (zi (t)))] := hl
  have h1gS : ∀ w ∈ (vx_atS RX3 89 eS nTH).filter goodWord, w.before ([.ref (a 1 0), .int (zi (zk)), .int (zi (zv)), .int (zi (zb)), .int (zi (t))] : List Value).toArray s = true := fun w hw => hts w (GI_S_X3_setNote w hw)
  have hclS := hts (.classLink RX3 85 eS) (by decide +kernel)
  have hiniS := hts (.initialized eS) (by decide +kernel)
  have hiX2 : ∀ w ∈ u_ws RX2 TX2 5, w ∈ wsX3_setNote := by decide +kernel
  have hn := hW.n
  have hbk := hW.bars hk
  obtain ⟨uk, lk, hsk, nuk, nlk, eqk⟩ := (hP.vk hk).2
  refine lv_aload_n hx hb dX3_setNote_0 rfl (lv_at hl 0 rfl) ?_
  refine lv_iload_n hx hb dX3_setNote_1 rfl (lv_at hl 1 rfl) ?_
  refine rq_V (rest := []) (As := [.int (zi (zk))]) ⟨hx, hb, hml, hown, hts⟩ (c_X3_findVersion l g σ a hW k hk (zk) (by omega)) (cwV 1 hts gX3_setNote_X3_findVersion rfl rfl rfl (by decide +kernel) ⟨Nat.le_of_ble_eq_true rfl, Nat.le_of_ble_eq_true rfl⟩) (z_recv hK hP.ob rfl) hP hK rfl hl.1 rfl (Nat.le_of_ble_eq_true rfl) dX3_setNote_2 ⟨Nat.zero_le _, Nat.zero_le _⟩ ?_
  refine lv_astore (lv' := [(5, .ref (a 8 k)), (0, .ref (a 1 0)), (1, .int (zi (zk))), (2, .int (zi (zv))), (3, .int (zi (zb))), (4, .int (zi (t)))]) hx hb dX3_setNote_5 hl (by decide) rfl (fun ls hl => ?_)
  refine lv_iload_n hx hb dX3_setNote_7 rfl (lv_at hl 3 rfl) ?_
  refine rv_S (rest := []) (As := [.int (zi (zv))]) ⟨hx, hb, hml, hown, hts⟩ (c_X3_checkVoice l g (zv) (by omega)) (cwS 1 hts gX3_setNote_X3_checkVoice rfl rfl rfl (by decide +kernel) ⟨Nat.le_of_ble_eq_true rfl, Nat.le_of_ble_eq_true rfl⟩) trivial hK rfl hl.1 rfl (Nat.le_of_ble_eq_true rfl) dX3_setNote_8 ⟨Nat.zero_le _, Nat.zero_le _⟩ ?_
  refine lv_aload hx hb dX3_setNote_11 (lv_at hl 0 rfl) ?_
  refine lv_iload_n hx hb dX3_setNote_13 rfl (lv_at hl 4 rfl) ?_
  refine rv_S (rest := []) (As := [.ref (a 8 k), .int (zi (zb))]) ⟨hx, hb, hml, hown, hts⟩ (c_X3_checkBar l g σ a hW k hk b hbb (zb) (by omega)) (cwS 2 hts gX3_setNote_X3_checkBar rfl rfl rfl (by decide +kernel) ⟨Nat.le_of_ble_eq_true rfl, Nat.le_of_ble_eq_true rfl⟩) hP hK rfl hl.1 rfl (Nat.le_of_ble_eq_true rfl) dX3_setNote_14 ⟨Nat.zero_le _, Nat.zero_le _⟩ ?_
  refine lv_iload hx hb dX3_setNote_17 (lv_at hl 5 rfl) ?_
  refine z_if_lt (tgt := 29) hx hb dX3_setNote_19 (by decide) (by omega) (fun h19 => ?_) (fun h19 => ?_)
  · exfalso; omega
  ·
    refine lv_iload hx hb dX3_setNote_22 (lv_at hl 5 rfl) ?_
    refine z_bipush hx hb dX3_setNote_24 (by decide) ?_
    refine z_icmp_le (tgt := 39) hx hb dX3_setNote_26 (by decide) (by omega) (by omega) (fun h26 => ?_) (fun h26 => ?_)
    ·
      refine lv_aload hx hb dX3_setNote_39 (lv_at hl 0 rfl) ?_
      refine z_getN (C := RX2) (T := TX2) (N := 5) (ref := "HarmoniumDesk$Version") (host := RX3) hx hb hts hiX2 hown hK (hP.vk hk).1 rfl 3 (by decide) (by decide +kernel) rfl rfl dX3_setNote_41 ?_
      refine z_if_eq (tgt := 57) hx hb dX3_setNote_44 (by decide) (by omega) (fun h44 => ?_) (fun h44 => ?_)
      · exfalso; omega
      ·
        exact z_thr hx hb hfl hml hl hown (by decide +kernel) hlk hte hT (is := 87) (by decide) hclS hiniS h1gS TW.h2S TW.hgS dX3_setNote_47 dX3_setNote_50 dX3_setNote_51 dX3_setNote_53 dX3_setNote_56 (by decide) rfl
    · exfalso; omega

theorem GI_I_X3_faults : ∀ w ∈ (vx_atS RX3 118 eI nTH).filter goodWord, w ∈ wsX3_faults := by decide +kernel
set_option maxHeartbeats 4000000 in
set_option maxRecDepth 100000 in
theorem c_X3_faults_xr (l : Launch) (hfl : l.stackTraces = false) (g : gG) (σ : SG) (a : AD) (hW : WF σ) (k : Nat) (hk : (k : Int) < σ 0 0) (zk : Int) (hzk : zk = (k : Int)) (b : Nat) (hbb : (b : Int) < σ 1 k) (zb : Int) (hzb : zb = (b : Int)) (r : Int) (hr9 : zr r) (hbad : ¬ (0 ≤ r ∧ r ≤ 5)) : XT l yX3_faults wsX3_faults ({ frames := 6, cells := 1, slots := 6, locals := 90 }) g [.ref (a 1 0), .int (zi (zk)), .int (zi (zb)), .int (zi (r))] (DI g σ a) eI := by
  refine ZT.ofW (cc := cX3_faults) (maxL := 5) (ret := (some .int)) (by decide) rfl (Nat.le_of_ble_eq_true rfl) ?_
  intro p e s m below meth c ls hx hb hr hml hown hts hlk hte hP hK hT hl
  have hown : s.vm.findClass RX3 = some m.cls := hown
  have hl : lv_has ls 5 [(0, .ref (a 1 0)), (1, .int (zi (zk))), (2, .int (zi (zb))), (3, .int (zi (r)))] := hl
  have h1gI : ∀ w ∈ (vx_atS RX3 118 eI nTH).filter goodWord, w.before ([.ref (a 1 0), .int (zi (zk)), .int (zi (zb)), .int (zi (r))] : List Value).toArray s = true := fun w hw => hts w (GI_I_X3_faults w hw)
  have hclI := hts (.classLink RX3 114 eI) (by decide +kernel)
  have hiniI := hts (.initialized eI) (by decide +kernel)
  have hn := hW.n
  have hbk := hW.bars hk
  obtain ⟨uk, lk, hsk, nuk, nlk, eqk⟩ := (hP.vk hk).2
  refine lv_aload_n hx hb dX3_faults_0 rfl (lv_at hl 0 rfl) ?_
  refine lv_iload_n hx hb dX3_faults_1 rfl (lv_at hl 1 rfl) ?_
  refine rq_V (rest := []) (As := [.int (zi (zk))]) ⟨hx, hb, hml, hown, hts⟩ (c_X3_findVersion l g σ a hW k hk (zk) (by omega)) (cwV 1 hts gX3_faults_X3_findVersion rfl rfl rfl (by decide +kernel) ⟨Nat.le_of_ble_eq_true rfl, Nat.le_of_ble_eq_true rfl⟩) (z_recv hK hP.ob rfl) hP hK rfl hl.1 rfl (Nat.le_of_ble_eq_true rfl) dX3_faults_2 ⟨Nat.zero_le _, Nat.zero_le _⟩ ?_
  refine lv_astore (lv' := [(4, .ref (a 8 k)), (0, .ref (a 1 0)), (1, .int (zi (zk))), (2, .int (zi (zb))), (3, .int (zi (r)))]) hx hb dX3_faults_5 hl (by decide) rfl (fun ls hl => ?_)
  refine lv_aload hx hb dX3_faults_7 (lv_at hl 0 rfl) ?_
  refine lv_iload_n hx hb dX3_faults_9 rfl (lv_at hl 3 rfl) ?_
  refine rv_S (rest := []) (As := [.ref (a 8 k), .int (zi (zb))]) ⟨hx, hb, hml, hown, hts⟩ (c_X3_checkBar l g σ a hW k hk b hbb (zb) (by omega)) (cwS 2 hts gX3_faults_X3_checkBar rfl rfl rfl (by decide +kernel) ⟨Nat.le_of_ble_eq_true rfl, Nat.le_of_ble_eq_true rfl⟩) hP hK rfl hl.1 rfl (Nat.le_of_ble_eq_true rfl) dX3_faults_10 ⟨Nat.zero_le _, Nat.zero_le _⟩ ?_
  refine lv_iload_n hx hb dX3_faults_13 rfl (lv_at hl 4 rfl) ?_
  refine z_if_lt (tgt := 23) hx hb dX3_faults_14 (by decide) (by omega) (fun h14 => ?_) (fun h14 => ?_)
  ·
    exact z_thr hx hb hfl hml hl hown (by decide +kernel) hlk hte hT (is := 116) (by decide) hclI hiniI h1gI TW.h2I TW.hgI dX3_faults_23 dX3_faults_26 dX3_faults_27 dX3_faults_29 dX3_faults_32 (by decide) rfl
  ·
    refine lv_iload_n hx hb dX3_faults_17 rfl (lv_at hl 4 rfl) ?_
    refine z_bipush hx hb dX3_faults_18 (by decide) ?_
    refine z_icmp_lt (tgt := 33) hx hb dX3_faults_20 (by decide) (by omega) (by omega) (fun h20 => ?_) (fun h20 => ?_)
    · exfalso; omega
    ·
      exact z_thr hx hb hfl hml hl hown (by decide +kernel) hlk hte hT (is := 116) (by decide) hclI hiniI h1gI TW.h2I TW.hgI dX3_faults_23 dX3_faults_26 dX3_faults_27 dX3_faults_29 dX3_faults_32 (by decide) rfl

theorem GI_A_X3_merge : ∀ w ∈ (vx_atS RX3 46 eA nTH).filter goodWord, w ∈ wsX3_merge := by decide +kernel
set_option maxHeartbeats 4000000 in
set_option maxRecDepth 100000 in
theorem c_X3_merge_2 (l : Launch) (hfl : l.stackTraces = false) (g : gG) (σ : SG) (a : AD) (hW : WF σ) (k : Nat) (hk : (k : Int) < σ 0 0) (zk : Int) (hzk : zk = (k : Int)) (zj : Int) (hzj : zj = (k : Int)) : XT l yX3_merge wsX3_merge ({ frames := 6, cells := 1, slots := 6, locals := 90 }) g [.ref (a 1 0), .int (zi (zk)), .int (zi (zj))] (DI g σ a) eA := by
  refine ZT.ofW (cc := cX3_merge) (maxL := 7) (ret := (some .int)) (by decide) rfl (Nat.le_of_ble_eq_true rfl) ?_
  intro p e s m below meth c ls hx hb hr hml hown hts hlk hte hP hK hT hl
  have hown : s.vm.findClass RX3 = some m.cls := hown
  have hl : lv_has ls 7 [(0, .ref (a 1 0)), (1, .int (zi (zk))), (2, .int (zi (zj)))] := hl
  have h1gA : ∀ w ∈ (vx_atS RX3 46 eA nTH).filter goodWord, w.before ([.ref (a 1 0), .int (zi (zk)), .int (zi (zj))] : List Value).toArray s = true := fun w hw => hts w (GI_A_X3_merge w hw)
  have hclA := hts (.classLink RX3 42 eA) (by decide +kernel)
  have hiniA := hts (.initialized eA) (by decide +kernel)
  have hn := hW.n
  have hcn := hW.cn
  refine lv_aload_n hx hb dX3_merge_0 rfl (lv_at hl 0 rfl) ?_
  refine lv_iload_n hx hb dX3_merge_1 rfl (lv_at hl 1 rfl) ?_
  refine rq_V (rest := []) (As := [.int (zi (zk))]) ⟨hx, hb, hml, hown, hts⟩ (c_X3_findVersion l g σ a hW k hk (zk) (by omega)) (cwV 1 hts gX3_merge_X3_findVersion rfl rfl rfl (by decide +kernel) ⟨Nat.le_of_ble_eq_true rfl, Nat.le_of_ble_eq_true rfl⟩) (z_recv hK hP.ob rfl) hP hK rfl hl.1 rfl (Nat.le_of_ble_eq_true rfl) dX3_merge_2 ⟨Nat.zero_le _, Nat.zero_le _⟩ ?_
  refine lv_astore_n (lv' := [(3, .ref (a 8 k)), (0, .ref (a 1 0)), (1, .int (zi (zk))), (2, .int (zi (zj)))]) hx hb dX3_merge_5 rfl hl (by decide) rfl (fun ls hl => ?_)
  refine lv_aload_n hx hb dX3_merge_6 rfl (lv_at hl 1 rfl) ?_
  refine lv_iload_n hx hb dX3_merge_7 rfl (lv_at hl 3 rfl) ?_
  refine rq_V (rest := []) (As := [.int (zi (zj))]) ⟨hx, hb, hml, hown, hts⟩ (c_X3_findVersion l g σ a hW k hk (zj) (by omega)) (cwV 1 hts gX3_merge_X3_findVersion rfl rfl rfl (by decide +kernel) ⟨Nat.le_of_ble_eq_true rfl, Nat.le_of_ble_eq_true rfl⟩) (z_recv hK hP.ob rfl) hP hK rfl hl.1 rfl (Nat.le_of_ble_eq_true rfl) dX3_merge_8 ⟨Nat.zero_le _, Nat.zero_le _⟩ ?_
  refine lv_astore (lv' := [(4, .ref (a 8 k)), (3, .ref (a 8 k)), (0, .ref (a 1 0)), (1, .int (zi (zk))), (2, .int (zi (zj)))]) hx hb dX3_merge_11 hl (by decide) rfl (fun ls hl => ?_)
  refine lv_iload_n hx hb dX3_merge_13 rfl (lv_at hl 3 rfl) ?_
  refine lv_iload_n hx hb dX3_merge_14 rfl (lv_at hl 4 rfl) ?_
  refine z_icmp_ne (tgt := 28) hx hb dX3_merge_15 (by decide) (by omega) (by omega) (fun h15 => ?_) (fun h15 => ?_)
  · exfalso; omega
  ·
    exact z_thr hx hb hfl hml hl hown (by decide +kernel) hlk hte hT (is := 108) (by decide) hclA hiniA h1gA TW.h2A TW.hgA dX3_merge_18 dX3_merge_21 dX3_merge_22 dX3_merge_24 dX3_merge_27 (by decide) rfl

theorem GI_S_X3_conflicts : ∀ w ∈ (vx_atS RX3 89 eS nTH).filter goodWord, w ∈ wsX3_conflicts := by decide +kernel
set_option maxHeartbeats 4000000 in
set_option maxRecDepth 100000 in
theorem c_X3_conflicts_2 (l : Launch) (hfl : l.stackTraces = false) (g : gG) (σ : SG) (a : AD) (hW : WF σ) (i : Nat) (hi : (i : Int) < σ 0 0) (zi1 : Int) (hzi : zi1 = (i : Int)) (j : Nat) (hj : (j : Int) < σ 0 0) (zj : Int) (hzj : zj = (j : Int)) (hbn : bs (σ 2) i j (σ 0 0).toNat < 0) : XT l yX3_conflicts wsX3_conflicts ({ frames := 6, cells := 1, slots := 6, locals := 90 }) g [.ref (a 1 0), .int (zi (zi1)), .int (zi (zj))] (DI g σ a) eS := by
  refine ZT.ofW (cc := cX3_conflicts) (maxL := 6) (ret := (some .int)) (by decide) rfl (Nat.le_of_ble_eq_true rfl) ?_
  intro p e s m below meth c ls hx hb hr hml hown hts hlk hte hP hK hT hl
  have hown : s.vm.findClass RX3 = some m.cls := hown
  have hl : lv_has ls 6 [(0, .ref (a 1 0)), (1, .int (zi (zi1))), (2, .int (zi (zj)))] := hl
  have h1gS : ∀ w ∈ (vx_atS RX3 89 eS nTH).filter goodWord, w.before ([.ref (a 1 0), .int (zi (zi1)), .int (zi (zj))] : List Value).toArray s = true := fun w hw => hts w (GI_S_X3_conflicts w hw)
  have hclS := hts (.classLink RX3 85 eS) (by decide +kernel)
  have hiniS := hts (.initialized eS) (by decide +kernel)
  have hn := hW.n
  have hbr := bs_r (σ 2) i j (σ 0 0).toNat
  have hcm : cmA σ a i j = none := if_pos hbn
  refine lv_aload_n hx hb dX3_conflicts_0 rfl (lv_at hl 0 rfl) ?_
  refine lv_iload_n hx hb dX3_conflicts_1 rfl (lv_at hl 1 rfl) ?_
  refine rq_V (rest := []) (As := [.int (zi (zi1))]) ⟨hx, hb, hml, hown, hts⟩ (c_X3_findVersion l g σ a hW i hi (zi1) (by omega)) (cwV 1 hts gX3_conflicts_X3_findVersion rfl rfl rfl (by decide +kernel) ⟨Nat.le_of_ble_eq_true rfl, Nat.le_of_ble_eq_true rfl⟩) (z_recv hK hP.ob rfl) hP hK rfl hl.1 rfl (Nat.le_of_ble_eq_true rfl) dX3_conflicts_2 ⟨Nat.zero_le _, Nat.zero_le _⟩ ?_
  refine lv_astore_n (lv' := [(3, .ref (a 8 i)), (0, .ref (a 1 0)), (1, .int (zi (zi1))), (2, .int (zi (zj)))]) hx hb dX3_conflicts_5 rfl hl (by decide) rfl (fun ls hl => ?_)
  refine lv_aload_n hx hb dX3_conflicts_6 rfl (lv_at hl 1 rfl) ?_
  refine lv_iload_n hx hb dX3_conflicts_7 rfl (lv_at hl 3 rfl) ?_
  refine rq_V (rest := []) (As := [.int (zi (zj))]) ⟨hx, hb, hml, hown, hts⟩ (c_X3_findVersion l g σ a hW j hj (zj) (by omega)) (cwV 1 hts gX3_conflicts_X3_findVersion rfl rfl rfl (by decide +kernel) ⟨Nat.le_of_ble_eq_true rfl, Nat.le_of_ble_eq_true rfl⟩) (z_recv hK hP.ob rfl) hP hK rfl hl.1 rfl (Nat.le_of_ble_eq_true rfl) dX3_conflicts_8 ⟨Nat.zero_le _, Nat.zero_le _⟩ ?_
  refine lv_astore (lv' := [(4, .ref (a 8 j)), (3, .ref (a 8 i)), (0, .ref (a 1 0)), (1, .int (zi (zi1))), (2, .int (zi (zj)))]) hx hb dX3_conflicts_11 hl (by decide) rfl (fun ls hl => ?_)
  refine lv_aload_n hx hb dX3_conflicts_13 rfl (lv_at hl 1 rfl) ?_
  refine lv_aload hx hb dX3_conflicts_14 (lv_at hl 0 rfl) ?_
  refine rq_S (rest := []) (As := [.ref (a 8 i), .ref (a 8 j)]) ⟨hx, hb, hml, hown, hts⟩ (c_X3_commonAncestor l g σ a hW i j hi hj) (cwS 2 hts gX3_conflicts_X3_commonAncestor rfl rfl rfl (by decide +kernel) ⟨Nat.le_of_ble_eq_true rfl, Nat.le_of_ble_eq_true rfl⟩) hP hK rfl hl.1 rfl (Nat.le_of_ble_eq_true rfl) dX3_conflicts_16 ⟨Nat.zero_le _, Nat.zero_le _⟩ ?_
  rw [show cmA σ a i j = none from hcm]
  refine lv_astoreN (lv' := [(5, .null), (4, .ref (a 8 j)), (3, .ref (a 8 i)), (0, .ref (a 1 0)), (1, .int (zi (zi1))), (2, .int (zi (zj)))]) hx hb dX3_conflicts_19 hl (by decide) rfl (fun ls hl => ?_)
  refine lv_aloadN hx hb dX3_conflicts_21 (lv_at hl 0 rfl) ?_
  refine lv_ifnonnullN hx hb dX3_conflicts_23 ?_
  exact z_thr hx hb hfl hml hl hown (by decide +kernel) hlk hte hT (is := 102) (by decide) hclS hiniS h1gS TW.h2S TW.hgS dX3_conflicts_26 dX3_conflicts_29 dX3_conflicts_30 dX3_conflicts_32 dX3_conflicts_35 (by decide) rfl

theorem GI_S_X3_merge : ∀ w ∈ (vx_atS RX3 89 eS nTH).filter goodWord, w ∈ wsX3_merge := by decide +kernel
set_option maxHeartbeats 4000000 in
set_option maxRecDepth 100000 in
theorem c_X3_merge_3n (l : Launch) (hfl : l.stackTraces = false) (g : gG) (σ : SG) (a : AD) (hW : WF σ) (i : Nat) (hi : (i : Int) < σ 0 0) (zi1 : Int) (hzi : zi1 = (i : Int)) (j : Nat) (hj : (j : Int) < σ 0 0) (zj : Int) (hzj : zj = (j : Int)) (hne : i ≠ j) (hbn : bs (σ 2) i j (σ 0 0).toNat < 0) : XT l yX3_merge wsX3_merge ({ frames := 6, cells := 1, slots := 6, locals := 90 }) g [.ref (a 1 0), .int (zi (zi1)), .int (zi (zj))] (DI g σ a) eS := by
  refine ZT.ofW (cc := cX3_merge) (maxL := 7) (ret := (some .int)) (by decide) rfl (Nat.le_of_ble_eq_true rfl) ?_
  intro p e s m below meth c ls hx hb hr hml hown hts hlk hte hP hK hT hl
  have hown : s.vm.findClass RX3 = some m.cls := hown
  have hl : lv_has ls 7 [(0, .ref (a 1 0)), (1, .int (zi (zi1))), (2, .int (zi (zj)))] := hl
  have h1gS : ∀ w ∈ (vx_atS RX3 89 eS nTH).filter goodWord, w.before ([.ref (a 1 0), .int (zi (zi1)), .int (zi (zj))] : List Value).toArray s = true := fun w hw => hts w (GI_S_X3_merge w hw)
  have hclS := hts (.classLink RX3 85 eS) (by decide +kernel)
  have hiniS := hts (.initialized eS) (by decide +kernel)
  have hn := hW.n
  have hbr := bs_r (σ 2) i j (σ 0 0).toNat
  have hcm : cmA σ a i j = none := if_pos hbn
  refine lv_aload_n hx hb dX3_merge_0 rfl (lv_at hl 0 rfl) ?_
  refine lv_iload_n hx hb dX3_merge_1 rfl (lv_at hl 1 rfl) ?_
  refine rq_V (rest := []) (As := [.int (zi (zi1))]) ⟨hx, hb, hml, hown, hts⟩ (c_X3_findVersion l g σ a hW i hi (zi1) (by omega)) (cwV 1 hts gX3_merge_X3_findVersion rfl rfl rfl (by decide +kernel) ⟨Nat.le_of_ble_eq_true rfl, Nat.le_of_ble_eq_true rfl⟩) (z_recv hK hP.ob rfl) hP hK rfl hl.1 rfl (Nat.le_of_ble_eq_true rfl) dX3_merge_2 ⟨Nat.zero_le _, Nat.zero_le _⟩ ?_
  refine lv_astore_n (lv' := [(3, .ref (a 8 i)), (0, .ref (a 1 0)), (1, .int (zi (zi1))), (2, .int (zi (zj)))]) hx hb dX3_merge_5 rfl hl (by decide) rfl (fun ls hl => ?_)
  refine lv_aload_n hx hb dX3_merge_6 rfl (lv_at hl 1 rfl) ?_
  refine lv_iload_n hx hb dX3_merge_7 rfl (lv_at hl 3 rfl) ?_
  refine rq_V (rest := []) (As := [.int (zi (zj))]) ⟨hx, hb, hml, hown, hts⟩ (c_X3_findVersion l g σ a hW j hj (zj) (by omega)) (cwV 1 hts gX3_merge_X3_findVersion rfl rfl rfl (by decide +kernel) ⟨Nat.le_of_ble_eq_true rfl, Nat.le_of_ble_eq_true rfl⟩) (z_recv hK hP.ob rfl) hP hK rfl hl.1 rfl (Nat.le_of_ble_eq_true rfl) dX3_merge_8 ⟨Nat.zero_le _, Nat.zero_le _⟩ ?_
  refine lv_astore (lv' := [(4, .ref (a 8 j)), (3, .ref (a 8 i)), (0, .ref (a 1 0)), (1, .int (zi (zi1))), (2, .int (zi (zj)))]) hx hb dX3_merge_11 hl (by decide) rfl (fun ls hl => ?_)
  refine lv_iload_n hx hb dX3_merge_13 rfl (lv_at hl 3 rfl) ?_
  refine lv_iload_n hx hb dX3_merge_14 rfl (lv_at hl 4 rfl) ?_
  refine z_icmp_ne (tgt := 28) hx hb dX3_merge_15 (by decide) (by omega) (by omega) (fun h15 => ?_) (fun h15 => ?_)
  ·
    refine lv_aload_n hx hb dX3_merge_28 rfl (lv_at hl 1 rfl) ?_
    refine lv_aload hx hb dX3_merge_29 (lv_at hl 0 rfl) ?_
    refine rq_S (rest := []) (As := [.ref (a 8 i), .ref (a 8 j)]) ⟨hx, hb, hml, hown, hts⟩ (c_X3_commonAncestor l g σ a hW i j hi hj) (cwS 2 hts gX3_merge_X3_commonAncestor rfl rfl rfl (by decide +kernel) ⟨Nat.le_of_ble_eq_true rfl, Nat.le_of_ble_eq_true rfl⟩) hP hK rfl hl.1 rfl (Nat.le_of_ble_eq_true rfl) dX3_merge_31 ⟨Nat.zero_le _, Nat.zero_le _⟩ ?_
    rw [show cmA σ a i j = none from hcm]
    refine lv_astoreN (lv' := [(5, .null), (4, .ref (a 8 j)), (3, .ref (a 8 i)), (0, .ref (a 1 0)), (1, .int (zi (zi1))), (2, .int (zi (zj)))]) hx hb dX3_merge_34 hl (by decide) rfl (fun ls hl => ?_)
    refine lv_aloadN hx hb dX3_merge_36 (lv_at hl 0 rfl) ?_
    refine lv_ifnonnullN hx hb dX3_merge_38 ?_
    exact z_thr hx hb hfl hml hl hown (by decide +kernel) hlk hte hT (is := 102) (by decide) hclS hiniS h1gS TW.h2S TW.hgS dX3_merge_41 dX3_merge_44 dX3_merge_45 dX3_merge_47 dX3_merge_50 (by decide) rfl
  · exfalso; omega

set_option maxHeartbeats 4000000 in
set_option maxRecDepth 100000 in
theorem c_X3_merge_3f (l : Launch) (hfl : l.stackTraces = false) (g : gG) (σ : SG) (a : AD) (hW : WF σ) (i : Nat) (hi : (i : Int) < σ 0 0) (zi1 : Int) (hzi : zi1 = (i : Int)) (j : Nat) (hj : (j : Int) < σ 0 0) (zj : Int) (hzj : zj = (j : Int)) (bn : Nat) (hbn : bs (σ 2) i j (σ 0 0).toNat = (bn : Int)) (hne : i ≠ j) (hfull : σ 0 0 = 30) : XT l yX3_merge wsX3_merge ({ frames := 7, cells := 1, slots := 6, locals := 112 }) g [.ref (a 1 0), .int (zi (zi1)), .int (zi (zj))] (DI g σ a) eS := by
  refine ZT.ofW (cc := cX3_merge) (maxL := 7) (ret := (some .int)) (by decide) rfl (Nat.le_of_ble_eq_true rfl) ?_
  intro p e s m below meth c ls hx hb hr hml hown hts hlk hte hP hK hT hl
  have hown : s.vm.findClass RX3 = some m.cls := hown
  have hl : lv_has ls 7 [(0, .ref (a 1 0)), (1, .int (zi (zi1))), (2, .int (zi (zj)))] := hl
  have hn := hW.n
  have hbr := bs_r (σ 2) i j (σ 0 0).toNat
  have hbk : (bn : Int) < σ 0 0 := by omega
  have hcm : cmA σ a i j = some (a 8 bn) := by unfold cmA; rw [hbn, if_neg (by omega), Int.toNat_natCast]
  refine lv_aload_n hx hb dX3_merge_0 rfl (lv_at hl 0 rfl) ?_
  refine lv_iload_n hx hb dX3_merge_1 rfl (lv_at hl 1 rfl) ?_
  refine rq_V (rest := []) (As := [.int (zi (zi1))]) ⟨hx, hb, hml, hown, hts⟩ (c_X3_findVersion l g σ a hW i hi (zi1) (by omega)) (cwV 1 hts gX3_merge_X3_findVersion rfl rfl rfl (by decide +kernel) ⟨Nat.le_of_ble_eq_true rfl, Nat.le_of_ble_eq_true rfl⟩) (z_recv hK hP.ob rfl) hP hK rfl hl.1 rfl (Nat.le_of_ble_eq_true rfl) dX3_merge_2 ⟨Nat.zero_le _, Nat.zero_le _⟩ ?_
  refine lv_astore_n (lv' := [(3, .ref (a 8 i)), (0, .ref (a 1 0)), (1, .int (zi (zi1))), (2, .int (zi (zj)))]) hx hb dX3_merge_5 rfl hl (by decide) rfl (fun ls hl => ?_)
  refine lv_aload_n hx hb dX3_merge_6 rfl (lv_at hl 1 rfl) ?_
  refine lv_iload_n hx hb dX3_merge_7 rfl (lv_at hl 3 rfl) ?_
  refine rq_V (rest := []) (As := [.int (zi (zj))]) ⟨hx, hb, hml, hown, hts⟩ (c_X3_findVersion l g σ a hW j hj (zj) (by omega)) (cwV 1 hts gX3_merge_X3_findVersion rfl rfl rfl (by decide +kernel) ⟨Nat.le_of_ble_eq_true rfl, Nat.le_of_ble_eq_true rfl⟩) (z_recv hK hP.ob rfl) hP hK rfl hl.1 rfl (Nat.le_of_ble_eq_true rfl) dX3_merge_8 ⟨Nat.zero_le _, Nat.zero_le _⟩ ?_
  refine lv_astore (lv' := [(4, .ref (a 8 j)), (3, .ref (a 8 i)), (0, .ref (a 1 0)), (1, .int (zi (zi1))), (2, .int (zi (zj)))]) hx hb dX3_merge_11 hl (by decide) rfl (fun ls hl => ?_)
  refine lv_iload_n hx hb dX3_merge_13 rfl (lv_at hl 3 rfl) ?_
  refine lv_iload_n hx hb dX3_merge_14 rfl (lv_at hl 4 rfl) ?_
  refine z_icmp_ne (tgt := 28) hx hb dX3_merge_15 (by decide) (by omega) (by omega) (fun h15 => ?_) (fun h15 => ?_)
  ·
    refine lv_aload_n hx hb dX3_merge_28 rfl (lv_at hl 1 rfl) ?_
    refine lv_aload hx hb dX3_merge_29 (lv_at hl 0 rfl) ?_
    refine rq_S (rest := []) (As := [.ref (a 8 i), .ref (a 8 j)]) ⟨hx, hb, hml, hown, hts⟩ (c_X3_commonAncestor l g σ a hW i j hi hj) (cwS 2 hts gX3_merge_X3_commonAncestor rfl rfl rfl (by decide +kernel) ⟨Nat.le_of_ble_eq_true rfl, Nat.le_of_ble_eq_true rfl⟩) hP hK rfl hl.1 rfl (Nat.le_of_ble_eq_true rfl) dX3_merge_31 ⟨Nat.zero_le _, Nat.zero_le _⟩ ?_
    rw [show cmA σ a i j = some (a 8 bn) from hcm]
    refine lv_astore (lv' := [(5, .ref (a 8 bn)), (4, .ref (a 8 j)), (3, .ref (a 8 i)), (0, .ref (a 1 0)), (1, .int (zi (zi1))), (2, .int (zi (zj)))]) hx hb dX3_merge_34 hl (by decide) rfl (fun ls hl => ?_)
    refine lv_aload hx hb dX3_merge_36 (lv_at hl 0 rfl) ?_
    refine lv_ifnonnull (tgt := 51) hx hb dX3_merge_38 (by decide) ?_
    refine lv_aload_n hx hb dX3_merge_51 rfl (lv_at hl 3 rfl) ?_
    refine lv_aload_n hx hb dX3_merge_52 rfl (lv_at hl 2 rfl) ?_
    exact zx_V (rest := []) (As := [.ref (a 8 i)]) ⟨hx, hb, hml, hown, hts⟩ (c_X3_addVersion_x l hfl g σ a hW (.ref (a 8 i)) rfl (Nat.le_of_ble_eq_true rfl) hfull) (cwV 1 hts gX3_merge_X3_addVersion rfl rfl rfl (by decide +kernel) ⟨Nat.le_of_ble_eq_true rfl, Nat.le_of_ble_eq_true rfl⟩) (z_recv hK hP.ob rfl) hP hK hT rfl hl.1 rfl (Nat.le_of_ble_eq_true rfl) dX3_merge_53 ⟨Nat.le_of_ble_eq_true rfl, Nat.le_of_ble_eq_true rfl⟩ hte hlk
  · exfalso; omega

set_option maxHeartbeats 4000000 in
set_option maxRecDepth 100000 in
theorem c_X3_begin_2 (l : Launch) (hfl : l.stackTraces = false) (g : gG) (σ : SG) (a : AD) (hW : WF σ) (z : Int) (hg : 1 ≤ z ∧ z ≤ 12) (hfull : σ 0 0 = 30) : XT l yX3_begin wsX3_begin ({ frames := 7, cells := 1, slots := 6, locals := 112 }) g [.ref (a 1 0), .int (zi (z))] (DI g σ a) eS := by
  refine ZT.ofW (cc := cX3_begin) (maxL := 3) (ret := (some .int)) (by decide) rfl (Nat.le_of_ble_eq_true rfl) ?_
  intro p e s m below meth c ls hx hb hr hml hown hts hlk hte hP hK hT hl
  have hown : s.vm.findClass RX3 = some m.cls := hown
  have hl : lv_has ls 3 [(0, .ref (a 1 0)), (1, .int (zi (z)))] := hl
  refine lv_iload_n hx hb dX3_begin_0 rfl (lv_at hl 1 rfl) ?_
  refine z_iconst hx hb dX3_begin_1 ?_
  refine z_icmp_lt (tgt := 11) hx hb dX3_begin_2 (by decide) (by omega) (by omega) (fun h2 => ?_) (fun h2 => ?_)
  · exfalso; omega
  ·
    refine lv_iload_n hx hb dX3_begin_5 rfl (lv_at hl 1 rfl) ?_
    refine z_bipush hx hb dX3_begin_6 (by decide) ?_
    refine z_icmp_le (tgt := 21) hx hb dX3_begin_8 (by decide) (by omega) (by omega) (fun h8 => ?_) (fun h8 => ?_)
    ·
      refine lv_aload_n hx hb dX3_begin_21 rfl (lv_at hl 0 rfl) ?_
      refine lv_null hx hb dX3_begin_22 ?_
      exact zx_V (rest := []) (As := [.null]) ⟨hx, hb, hml, hown, hts⟩ (c_X3_addVersion_x l hfl g σ a hW (.null) rfl (Nat.le_of_ble_eq_true rfl) hfull) (cwV 1 hts gX3_begin_X3_addVersion rfl rfl rfl (by decide +kernel) ⟨Nat.le_of_ble_eq_true rfl, Nat.le_of_ble_eq_true rfl⟩) (z_recv hK hP.ob rfl) hP hK hT rfl hl.1 rfl (Nat.le_of_ble_eq_true rfl) dX3_begin_23 ⟨Nat.le_of_ble_eq_true rfl, Nat.le_of_ble_eq_true rfl⟩ hte hlk
    · exfalso; omega

set_option maxHeartbeats 4000000 in
set_option maxRecDepth 100000 in
theorem c_X3_branch_2 (l : Launch) (hfl : l.stackTraces = false) (g : gG) (σ : SG) (a : AD) (hW : WF σ) (k : Nat) (hk : (k : Int) < σ 0 0) (zk : Int) (hzk : zk = (k : Int)) (hfull : σ 0 0 = 30) : XT l yX3_branch wsX3_branch ({ frames := 7, cells := 1, slots := 6, locals := 112 }) g [.ref (a 1 0), .int (zi (zk))] (DI g σ a) eS := by
  refine ZT.ofW (cc := cX3_branch) (maxL := 4) (ret := (some .int)) (by decide) rfl (Nat.le_of_ble_eq_true rfl) ?_
  intro p e s m below meth c ls hx hb hr hml hown hts hlk hte hP hK hT hl
  have hown : s.vm.findClass RX3 = some m.cls := hown
  have hl : lv_has ls 4 [(0, .ref (a 1 0)), (1, .int (zi (zk)))] := hl
  have hn := hW.n
  have hcn := hW.cn
  refine lv_aload_n hx hb dX3_branch_0 rfl (lv_at hl 0 rfl) ?_
  refine lv_iload_n hx hb dX3_branch_1 rfl (lv_at hl 1 rfl) ?_
  refine rq_V (rest := []) (As := [.int (zi (zk))]) ⟨hx, hb, hml, hown, hts⟩ (c_X3_findVersion l g σ a hW k hk (zk) (by omega)) (cwV 1 hts gX3_branch_X3_findVersion rfl rfl rfl (by decide +kernel) ⟨Nat.le_of_ble_eq_true rfl, Nat.le_of_ble_eq_true rfl⟩) (z_recv hK hP.ob rfl) hP hK rfl hl.1 rfl (Nat.le_of_ble_eq_true rfl) dX3_branch_2 ⟨Nat.zero_le _, Nat.zero_le _⟩ ?_
  refine lv_astore_n (lv' := [(2, .ref (a 8 k)), (0, .ref (a 1 0)), (1, .int (zi (zk)))]) hx hb dX3_branch_5 rfl hl (by decide) rfl (fun ls hl => ?_)
  refine lv_aload_n hx hb dX3_branch_6 rfl (lv_at hl 1 rfl) ?_
  refine lv_aload_n hx hb dX3_branch_7 rfl (lv_at hl 0 rfl) ?_
  exact zx_V (rest := []) (As := [.ref (a 8 k)]) ⟨hx, hb, hml, hown, hts⟩ (c_X3_addVersion_x l hfl g σ a hW (.ref (a 8 k)) rfl (Nat.le_of_ble_eq_true rfl) hfull) (cwV 1 hts gX3_branch_X3_addVersion rfl rfl rfl (by decide +kernel) ⟨Nat.le_of_ble_eq_true rfl, Nat.le_of_ble_eq_true rfl⟩) (z_recv hK hP.ob rfl) hP hK hT rfl hl.1 rfl (Nat.le_of_ble_eq_true rfl) dX3_branch_8 ⟨Nat.le_of_ble_eq_true rfl, Nat.le_of_ble_eq_true rfl⟩ hte hlk

set_option maxHeartbeats 4000000 in
set_option maxRecDepth 100000 in
theorem c_X3_print_2 (l : Launch) (hfl : l.stackTraces = false) (g : gG) (σ : SG) (a : AD) (hW : WF σ) (k : Nat) (hk : (k : Int) < σ 0 0) (zk : Int) (hzk : zk = (k : Int)) (v : Nat) (hv1 : v ≤ 1) (zv : Int) (hzv : zv = (v : Int)) (hfull : σ 8 0 = 20) : XT l yX3_print wsX3_print ({ frames := 7, cells := 1, slots := 6, locals := 113 }) g [.ref (a 1 0), .int (zi (zk)), .int (zi (zv))] (DI g σ a) eS := by
  refine ZT.ofW (cc := cX3_print) (maxL := 5) (ret := (some .int)) (by decide) rfl (Nat.le_of_ble_eq_true rfl) ?_
  intro p e s m below meth c ls hx hb hr hml hown hts hlk hte hP hK hT hl
  have hown : s.vm.findClass RX3 = some m.cls := hown
  have hl : lv_has ls 5 [(0, .ref (a 1 0)), (1, .int (zi (zk))), (2, .int (zi (zv)))] := hl
  have hiX2 : ∀ w ∈ u_ws RX2 TX2 5, w ∈ wsX3_print := by decide +kernel
  have hn := hW.n
  have hbk := hW.bars hk
  obtain ⟨uk, lk, hsk, nuk, nlk, eqk⟩ := (hP.vk hk).2
  have hcn := hW.cn
  refine lv_aload_n hx hb dX3_print_0 rfl (lv_at hl 0 rfl) ?_
  refine lv_iload_n hx hb dX3_print_1 rfl (lv_at hl 1 rfl) ?_
  refine rq_V (rest := []) (As := [.int (zi (zk))]) ⟨hx, hb, hml, hown, hts⟩ (c_X3_findVersion l g σ a hW k hk (zk) (by omega)) (cwV 1 hts gX3_print_X3_findVersion rfl rfl rfl (by decide +kernel) ⟨Nat.le_of_ble_eq_true rfl, Nat.le_of_ble_eq_true rfl⟩) (z_recv hK hP.ob rfl) hP hK rfl hl.1 rfl (Nat.le_of_ble_eq_true rfl) dX3_print_2 ⟨Nat.zero_le _, Nat.zero_le _⟩ ?_
  refine lv_astore_n (lv' := [(3, .ref (a 8 k)), (0, .ref (a 1 0)), (1, .int (zi (zk))), (2, .int (zi (zv)))]) hx hb dX3_print_5 rfl hl (by decide) rfl (fun ls hl => ?_)
  refine lv_iload_n hx hb dX3_print_6 rfl (lv_at hl 3 rfl) ?_
  refine rv_S (rest := []) (As := [.int (zi (zv))]) ⟨hx, hb, hml, hown, hts⟩ (c_X3_checkVoice l g (zv) (by omega)) (cwS 1 hts gX3_print_X3_checkVoice rfl rfl rfl (by decide +kernel) ⟨Nat.le_of_ble_eq_true rfl, Nat.le_of_ble_eq_true rfl⟩) trivial hK rfl hl.1 rfl (Nat.le_of_ble_eq_true rfl) dX3_print_7 ⟨Nat.zero_le _, Nat.zero_le _⟩ ?_
  refine lv_aload_n hx hb dX3_print_10 rfl (lv_at hl 1 rfl) ?_
  refine lv_iload_n hx hb dX3_print_11 rfl (lv_at hl 3 rfl) ?_
  refine lv_aload_n hx hb dX3_print_12 rfl (lv_at hl 0 rfl) ?_
  refine z_getN (C := RX2) (T := TX2) (N := 5) (ref := "HarmoniumDesk$Version") (host := RX3) hx hb hts hiX2 hown hK (hP.vk hk).1 rfl 2 (by decide) (by decide +kernel) rfl rfl dX3_print_13 ?_
  exact zx_V (rest := []) (As := [.int (zi (zv)), .ref (a 9 k)]) ⟨hx, hb, hml, hown, hts⟩ (c_X3_addCopy_x l hfl g σ a hW (zv) (a 9 k) hfull) (cwV 2 hts gX3_print_X3_addCopy rfl rfl rfl (by decide +kernel) ⟨Nat.le_of_ble_eq_true rfl, Nat.le_of_ble_eq_true rfl⟩) (z_recv hK hP.ob rfl) hP hK hT rfl hl.1 rfl (Nat.le_of_ble_eq_true rfl) dX3_print_16 ⟨Nat.le_of_ble_eq_true rfl, Nat.le_of_ble_eq_true rfl⟩ hte hlk
