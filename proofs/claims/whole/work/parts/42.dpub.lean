set_option maxHeartbeats 4000000 in
set_option maxRecDepth 100000 in
theorem c_X3_note_0 (l : Launch) (g : gG) (σ : SG) (a : AD) (hW : WF σ) (k : Nat) (hk : (k : Int) < σ 0 0) (zk : Int) (hzk : zk = (k : Int)) (v : Nat) (hv1 : v ≤ 1) (zv : Int) (hzv : zv = (v : Int)) (b : Nat) (hbb : (b : Int) < σ 1 k) (zb : Int) (hzb : zb = (b : Int))  : RO l yX3_note wsX3_note ({ frames := 1, cells := 0, slots := 0, locals := 23 }) g [.ref (a 1 0), .int (zi (zk)), .int (zi (zv)), .int (zi (zb))] (DI g σ a) (NV σ k v b) := by
  refine RO.ofW (cc := cX3_note) (maxL := 5) (ret := (some .int)) (by decide) rfl (Nat.le_of_ble_eq_true rfl) ?_
  intro p e s m below meth c ls hx hb hr hml hown hts hlk hP hK hl
  have hown : s.vm.findClass RX3 = some m.cls := hown
  have hl : lv_has ls 5 [(0, .ref (a 1 0)), (1, .int (zi (zk))), (2, .int (zi (zv))), (3, .int (zi (zb)))] := hl
  have hiX2 : ∀ w ∈ u_ws RX2 TX2 5, w ∈ wsX3_note := by decide +kernel
  have hn := hW.n
  have hbk := hW.bars hk
  obtain ⟨uk, lk, hsk, nuk, nlk, eqk⟩ := (hP.vk hk).2
  have hve : ∀ b : Nat, (b : Int) < σ 1 k → ((v : Int) = 0 → NV σ k v b = uk b) ∧ (¬ (v : Int) = 0 → NV σ k v b = lk b) := fun b hb => ⟨fun h => by rw [show v = 0 by omega, NV_0]; exact ((eqk b hb).1).symm, fun h => by rw [show v = 1 by omega, NV_1]; exact ((eqk b hb).2).symm⟩
  refine lv_aload_n hx hb dX3_note_0 rfl (lv_at hl 0 rfl) ?_
  refine lv_iload_n hx hb dX3_note_1 rfl (lv_at hl 1 rfl) ?_
  refine rq_V (rest := []) (As := [.int (zi (zk))]) ⟨hx, hb, hml, hown, hts⟩ (c_X3_findVersion l g σ a hW k hk (zk) (by omega)) (cwV 1 hts gX3_note_X3_findVersion rfl rfl rfl (by decide +kernel) ⟨Nat.le_of_ble_eq_true rfl, Nat.le_of_ble_eq_true rfl⟩) (z_recv hK hP.ob rfl) hP hK rfl hl.1 rfl (Nat.le_of_ble_eq_true rfl) dX3_note_2 ⟨Nat.zero_le _, Nat.zero_le _⟩ ?_
  refine lv_astore (lv' := [(4, .ref (a 8 k)), (0, .ref (a 1 0)), (1, .int (zi (zk))), (2, .int (zi (zv))), (3, .int (zi (zb)))]) hx hb dX3_note_5 hl (by decide) rfl (fun ls hl => ?_)
  refine lv_iload_n hx hb dX3_note_7 rfl (lv_at hl 3 rfl) ?_
  refine rv_S (rest := []) (As := [.int (zi (zv))]) ⟨hx, hb, hml, hown, hts⟩ (c_X3_checkVoice l g (zv) (by omega)) (cwS 1 hts gX3_note_X3_checkVoice rfl rfl rfl (by decide +kernel) ⟨Nat.le_of_ble_eq_true rfl, Nat.le_of_ble_eq_true rfl⟩) trivial hK rfl hl.1 rfl (Nat.le_of_ble_eq_true rfl) dX3_note_8 ⟨Nat.zero_le _, Nat.zero_le _⟩ ?_
  refine lv_aload hx hb dX3_note_11 (lv_at hl 0 rfl) ?_
  refine lv_iload_n hx hb dX3_note_13 rfl (lv_at hl 4 rfl) ?_
  refine rv_S (rest := []) (As := [.ref (a 8 k), .int (zi (zb))]) ⟨hx, hb, hml, hown, hts⟩ (c_X3_checkBar l g σ a hW k hk b hbb (zb) (by omega)) (cwS 2 hts gX3_note_X3_checkBar rfl rfl rfl (by decide +kernel) ⟨Nat.le_of_ble_eq_true rfl, Nat.le_of_ble_eq_true rfl⟩) hP hK rfl hl.1 rfl (Nat.le_of_ble_eq_true rfl) dX3_note_14 ⟨Nat.zero_le _, Nat.zero_le _⟩ ?_
  refine lv_aload hx hb dX3_note_17 (lv_at hl 0 rfl) ?_
  refine z_getN (C := RX2) (T := TX2) (N := 5) (ref := "HarmoniumDesk$Version") (host := RX3) hx hb hts hiX2 hown hK (hP.vk hk).1 rfl 2 (by decide) (by decide +kernel) rfl rfl dX3_note_19 ?_
  refine lv_iload_n hx hb dX3_note_22 rfl (lv_at hl 3 rfl) ?_
  refine lv_iload_n hx hb dX3_note_23 rfl (lv_at hl 4 rfl) ?_
  refine ro_V (rest := []) (As := [.int (zi (zv)), .int (zi (zb))]) ⟨hx, hb, hml, hown, hts⟩ (c_X1_tone l g (a 9 k) (a 10 k) (a 11 k) (σ 1 k) uk lk nuk nlk (zv) (by omega) b (by omega) (zb) (by omega) (NV σ k v b) (fun h => (hve b hbb).1 (by omega)) (fun h => (hve b hbb).2 (by omega))) (cwV 2 hts gX3_note_X1_tone rfl rfl rfl (by decide +kernel) ⟨Nat.le_of_ble_eq_true rfl, Nat.le_of_ble_eq_true rfl⟩) (z_recv hK hsk.1 rfl) hsk hK rfl hl.1 rfl (Nat.le_of_ble_eq_true rfl) dX3_note_24 ⟨Nat.zero_le _, Nat.zero_le _⟩ ?_
  exact z_iret hx hb hr hlk dX3_note_27 (rfl)

set_option maxHeartbeats 4000000 in
set_option maxRecDepth 100000 in
theorem c_X3_faults_0 (l : Launch) (g : gG) (σ : SG) (a : AD) (hW : WF σ) (k : Nat) (hk : (k : Int) < σ 0 0) (zk : Int) (hzk : zk = (k : Int)) (b : Nat) (hbb : (b : Int) < σ 1 k) (zb : Int) (hzb : zb = (b : Int)) (r : Nat) (hr6 : r < 6) (zr1 : Int) (hzr : zr1 = (r : Int)) : RO l yX3_faults wsX3_faults ({ frames := 4, cells := 0, slots := 0, locals := 90 }) g [.ref (a 1 0), .int (zi (zk)), .int (zi (zb)), .int (zi (zr1))] (DI g σ a) (ft r (σ 1 k).toNat (NU σ k) (NL σ k) b) := by
  refine RO.ofW (cc := cX3_faults) (maxL := 5) (ret := (some .int)) (by decide) rfl (Nat.le_of_ble_eq_true rfl) ?_
  intro p e s m below meth c ls hx hb hr hml hown hts hlk hP hK hl
  have hown : s.vm.findClass RX3 = some m.cls := hown
  have hl : lv_has ls 5 [(0, .ref (a 1 0)), (1, .int (zi (zk))), (2, .int (zi (zb))), (3, .int (zi (zr1)))] := hl
  have hiX2 : ∀ w ∈ u_ws RX2 TX2 5, w ∈ wsX3_faults := by decide +kernel
  have hn := hW.n
  have hbk := hW.bars hk
  obtain ⟨uk, lk, hsk, nuk, nlk, eqk⟩ := (hP.vk hk).2
  refine lv_aload_n hx hb dX3_faults_0 rfl (lv_at hl 0 rfl) ?_
  refine lv_iload_n hx hb dX3_faults_1 rfl (lv_at hl 1 rfl) ?_
  refine rq_V (rest := []) (As := [.int (zi (zk))]) ⟨hx, hb, hml, hown, hts⟩ (c_X3_findVersion l g σ a hW k hk (zk) (by omega)) (cwV 1 hts gX3_faults_X3_findVersion rfl rfl rfl (by decide +kernel) ⟨Nat.le_of_ble_eq_true rfl, Nat.le_of_ble_eq_true rfl⟩) (z_recv hK hP.ob rfl) hP hK rfl hl.1 rfl (Nat.le_of_ble_eq_true rfl) dX3_faults_2 ⟨Nat.zero_le _, Nat.zero_le _⟩ ?_
  refine lv_astore (lv' := [(4, .ref (a 8 k)), (0, .ref (a 1 0)), (1, .int (zi (zk))), (2, .int (zi (zb))), (3, .int (zi (zr1)))]) hx hb dX3_faults_5 hl (by decide) rfl (fun ls hl => ?_)
  refine lv_aload hx hb dX3_faults_7 (lv_at hl 0 rfl) ?_
  refine lv_iload_n hx hb dX3_faults_9 rfl (lv_at hl 3 rfl) ?_
  refine rv_S (rest := []) (As := [.ref (a 8 k), .int (zi (zb))]) ⟨hx, hb, hml, hown, hts⟩ (c_X3_checkBar l g σ a hW k hk b hbb (zb) (by omega)) (cwS 2 hts gX3_faults_X3_checkBar rfl rfl rfl (by decide +kernel) ⟨Nat.le_of_ble_eq_true rfl, Nat.le_of_ble_eq_true rfl⟩) hP hK rfl hl.1 rfl (Nat.le_of_ble_eq_true rfl) dX3_faults_10 ⟨Nat.zero_le _, Nat.zero_le _⟩ ?_
  refine lv_iload_n hx hb dX3_faults_13 rfl (lv_at hl 4 rfl) ?_
  refine z_if_lt (tgt := 23) hx hb dX3_faults_14 (by decide) (by omega) (fun h14 => ?_) (fun h14 => ?_)
  · exfalso; omega
  ·
    refine lv_iload_n hx hb dX3_faults_17 rfl (lv_at hl 4 rfl) ?_
    refine z_bipush hx hb dX3_faults_18 (by decide) ?_
    refine z_icmp_lt (tgt := 33) hx hb dX3_faults_20 (by decide) (by omega) (by omega) (fun h20 => ?_) (fun h20 => ?_)
    ·
      refine lv_aload hx hb dX3_faults_33 (lv_at hl 0 rfl) ?_
      refine z_getN (C := RX2) (T := TX2) (N := 5) (ref := "HarmoniumDesk$Version") (host := RX3) hx hb hts hiX2 hown hK (hP.vk hk).1 rfl 2 (by decide) (by decide +kernel) rfl rfl dX3_faults_35 ?_
      refine lv_iload_n hx hb dX3_faults_38 rfl (lv_at hl 4 rfl) ?_
      refine lv_iload_n hx hb dX3_faults_39 rfl (lv_at hl 3 rfl) ?_
      refine ro_V (rest := []) (As := [.int (zi (zr1)), .int (zi (zb))]) ⟨hx, hb, hml, hown, hts⟩ (c_X1_faultsOf l g (a 9 k) (a 10 k) (a 11 k) (σ 1 k) uk lk nuk nlk b (by omega) (zb) (by omega) (σ 1 k).toNat (by omega) (by omega) r hr6 (zr1) (by omega)) (cwV 2 hts gX3_faults_X1_faultsOf rfl rfl rfl (by decide +kernel) ⟨Nat.le_of_ble_eq_true rfl, Nat.le_of_ble_eq_true rfl⟩) (z_recv hK hsk.1 rfl) hsk hK rfl hl.1 rfl (Nat.le_of_ble_eq_true rfl) dX3_faults_40 ⟨Nat.zero_le _, Nat.zero_le _⟩ ?_
      exact z_iret hx hb hr hlk dX3_faults_43 (ft_cong (fun b hb => eqk b (by omega)) (by omega))
    · exfalso; omega

set_option maxHeartbeats 4000000 in
set_option maxRecDepth 100000 in
theorem c_X3_mark_0 (l : Launch) (g : gG) (σ : SG) (a : AD) (hW : WF σ) (k : Nat) (hk : (k : Int) < σ 0 0) (zk : Int) (hzk : zk = (k : Int))  : RO l yX3_mark wsX3_mark ({ frames := 6, cells := 0, slots := 0, locals := 137 }) g [.ref (a 1 0), .int (zi (zk))] (DI g σ a) (MK σ k) := by
  refine RO.ofW (cc := cX3_mark) (maxL := 2) (ret := (some .int)) (by decide) rfl (Nat.le_of_ble_eq_true rfl) ?_
  intro p e s m below meth c ls hx hb hr hml hown hts hlk hP hK hl
  have hown : s.vm.findClass RX3 = some m.cls := hown
  have hl : lv_has ls 2 [(0, .ref (a 1 0)), (1, .int (zi (zk)))] := hl
  have hiX2 : ∀ w ∈ u_ws RX2 TX2 5, w ∈ wsX3_mark := by decide +kernel
  have hn := hW.n
  have hbk := hW.bars hk
  obtain ⟨uk, lk, hsk, nuk, nlk, eqk⟩ := (hP.vk hk).2
  refine lv_aload_n hx hb dX3_mark_0 rfl (lv_at hl 0 rfl) ?_
  refine lv_aload_n hx hb dX3_mark_1 rfl (lv_at hl 0 rfl) ?_
  refine lv_iload_n hx hb dX3_mark_2 rfl (lv_at hl 1 rfl) ?_
  refine rq_V (rest := [.ref (a 1 0)]) (As := [.int (zi (zk))]) ⟨hx, hb, hml, hown, hts⟩ (c_X3_findVersion l g σ a hW k hk (zk) (by omega)) (cwV 1 hts gX3_mark_X3_findVersion rfl rfl rfl (by decide +kernel) ⟨Nat.le_of_ble_eq_true rfl, Nat.le_of_ble_eq_true rfl⟩) (z_recv hK hP.ob rfl) hP hK rfl hl.1 rfl (Nat.le_of_ble_eq_true rfl) dX3_mark_3 ⟨Nat.zero_le _, Nat.zero_le _⟩ ?_
  refine z_getN (C := RX2) (T := TX2) (N := 5) (ref := "HarmoniumDesk$Version") (host := RX3) hx hb hts hiX2 hown hK (hP.vk hk).1 rfl 2 (by decide) (by decide +kernel) rfl rfl dX3_mark_6 ?_
  refine ro_V (rest := []) (As := [.ref (a 9 k)]) ⟨hx, hb, hml, hown, hts⟩ (c_X3_markOf l g σ a hW (a 9 k) (a 10 k) (a 11 k) (σ 1 k) uk lk nuk nlk (σ 1 k).toNat (by omega) (by omega) (MK σ k) (by unfold MK; rw [← wfs_CS (fun b hb => eqk b (by omega))])) (cwV 1 hts gX3_mark_X3_markOf rfl rfl rfl (by decide +kernel) ⟨Nat.le_of_ble_eq_true rfl, Nat.le_of_ble_eq_true rfl⟩) (z_recv hK hP.ob rfl) ⟨hP.ob, hP.wt, hsk⟩ hK rfl hl.1 rfl (Nat.le_of_ble_eq_true rfl) dX3_mark_9 ⟨Nat.zero_le _, Nat.zero_le _⟩ ?_
  exact z_iret hx hb hr hlk dX3_mark_12 (rfl)

set_option maxHeartbeats 4000000 in
set_option maxRecDepth 100000 in
theorem c_X3_base_n (l : Launch) (g : gG) (σ : SG) (a : AD) (hW : WF σ) (i : Nat) (hi : (i : Int) < σ 0 0) (zi1 : Int) (hzi : zi1 = (i : Int)) (j : Nat) (hj : (j : Int) < σ 0 0) (zj : Int) (hzj : zj = (j : Int)) (hbn : bs (σ 2) i j (σ 0 0).toNat < 0) : RO l yX3_base wsX3_base ({ frames := 2, cells := 0, slots := 0, locals := 44 }) g [.ref (a 1 0), .int (zi (zi1)), .int (zi (zj))] (DI g σ a) (bs (σ 2) zi1 zj (σ 0 0).toNat) := by
  refine RO.ofW (cc := cX3_base) (maxL := 4) (ret := (some .int)) (by decide) rfl (Nat.le_of_ble_eq_true rfl) ?_
  intro p e s m below meth c ls hx hb hr hml hown hts hlk hP hK hl
  have hown : s.vm.findClass RX3 = some m.cls := hown
  have hl : lv_has ls 4 [(0, .ref (a 1 0)), (1, .int (zi (zi1))), (2, .int (zi (zj)))] := hl
  have hn := hW.n
  have hbr := bs_r (σ 2) i j (σ 0 0).toNat
  have hcm : cmA σ a i j = none := if_pos hbn
  refine lv_aload_n hx hb dX3_base_0 rfl (lv_at hl 0 rfl) ?_
  refine lv_iload_n hx hb dX3_base_1 rfl (lv_at hl 1 rfl) ?_
  refine rq_V (rest := []) (As := [.int (zi (zi1))]) ⟨hx, hb, hml, hown, hts⟩ (c_X3_findVersion l g σ a hW i hi (zi1) (by omega)) (cwV 1 hts gX3_base_X3_findVersion rfl rfl rfl (by decide +kernel) ⟨Nat.le_of_ble_eq_true rfl, Nat.le_of_ble_eq_true rfl⟩) (z_recv hK hP.ob rfl) hP hK rfl hl.1 rfl (Nat.le_of_ble_eq_true rfl) dX3_base_2 ⟨Nat.zero_le _, Nat.zero_le _⟩ ?_
  refine lv_aload_n hx hb dX3_base_5 rfl (lv_at hl 0 rfl) ?_
  refine lv_iload_n hx hb dX3_base_6 rfl (lv_at hl 2 rfl) ?_
  refine rq_V (rest := [.ref (a 8 i)]) (As := [.int (zi (zj))]) ⟨hx, hb, hml, hown, hts⟩ (c_X3_findVersion l g σ a hW j hj (zj) (by omega)) (cwV 1 hts gX3_base_X3_findVersion rfl rfl rfl (by decide +kernel) ⟨Nat.le_of_ble_eq_true rfl, Nat.le_of_ble_eq_true rfl⟩) (z_recv hK hP.ob rfl) hP hK rfl hl.1 rfl (Nat.le_of_ble_eq_true rfl) dX3_base_7 ⟨Nat.zero_le _, Nat.zero_le _⟩ ?_
  refine rq_S (rest := []) (As := [.ref (a 8 i), .ref (a 8 j)]) ⟨hx, hb, hml, hown, hts⟩ (c_X3_commonAncestor l g σ a hW i j hi hj) (cwS 2 hts gX3_base_X3_commonAncestor rfl rfl rfl (by decide +kernel) ⟨Nat.le_of_ble_eq_true rfl, Nat.le_of_ble_eq_true rfl⟩) hP hK rfl hl.1 rfl (Nat.le_of_ble_eq_true rfl) dX3_base_10 ⟨Nat.zero_le _, Nat.zero_le _⟩ ?_
  rw [show cmA σ a i j = none from hcm]
  refine lv_astore_nN (lv' := [(3, .null), (0, .ref (a 1 0)), (1, .int (zi (zi1))), (2, .int (zi (zj)))]) hx hb dX3_base_13 rfl hl (by decide) rfl (fun ls hl => ?_)
  refine lv_aload_nN hx hb dX3_base_14 rfl (lv_at hl 0 rfl) ?_
  refine lv_ifnonnullN hx hb dX3_base_15 ?_
  refine z_iconst hx hb dX3_base_18 ?_
  refine lv_goto (tgt := 26) hx hb dX3_base_19 (by decide) ?_
  exact z_iret hx hb hr hlk dX3_base_26 (by rw [hzi, hzj]; omega)

set_option maxHeartbeats 4000000 in
set_option maxRecDepth 100000 in
theorem c_X3_base_s (l : Launch) (g : gG) (σ : SG) (a : AD) (hW : WF σ) (i : Nat) (hi : (i : Int) < σ 0 0) (zi1 : Int) (hzi : zi1 = (i : Int)) (j : Nat) (hj : (j : Int) < σ 0 0) (zj : Int) (hzj : zj = (j : Int)) (bn : Nat) (hbn : bs (σ 2) i j (σ 0 0).toNat = (bn : Int))  : RO l yX3_base wsX3_base ({ frames := 2, cells := 0, slots := 0, locals := 44 }) g [.ref (a 1 0), .int (zi (zi1)), .int (zi (zj))] (DI g σ a) (bs (σ 2) zi1 zj (σ 0 0).toNat) := by
  refine RO.ofW (cc := cX3_base) (maxL := 4) (ret := (some .int)) (by decide) rfl (Nat.le_of_ble_eq_true rfl) ?_
  intro p e s m below meth c ls hx hb hr hml hown hts hlk hP hK hl
  have hown : s.vm.findClass RX3 = some m.cls := hown
  have hl : lv_has ls 4 [(0, .ref (a 1 0)), (1, .int (zi (zi1))), (2, .int (zi (zj)))] := hl
  have hiX2 : ∀ w ∈ u_ws RX2 TX2 5, w ∈ wsX3_base := by decide +kernel
  have hn := hW.n
  have hbr := bs_r (σ 2) i j (σ 0 0).toNat
  have hbk : (bn : Int) < σ 0 0 := by omega
  have hcm : cmA σ a i j = some (a 8 bn) := by unfold cmA; rw [hbn, if_neg (by omega), Int.toNat_natCast]
  refine lv_aload_n hx hb dX3_base_0 rfl (lv_at hl 0 rfl) ?_
  refine lv_iload_n hx hb dX3_base_1 rfl (lv_at hl 1 rfl) ?_
  refine rq_V (rest := []) (As := [.int (zi (zi1))]) ⟨hx, hb, hml, hown, hts⟩ (c_X3_findVersion l g σ a hW i hi (zi1) (by omega)) (cwV 1 hts gX3_base_X3_findVersion rfl rfl rfl (by decide +kernel) ⟨Nat.le_of_ble_eq_true rfl, Nat.le_of_ble_eq_true rfl⟩) (z_recv hK hP.ob rfl) hP hK rfl hl.1 rfl (Nat.le_of_ble_eq_true rfl) dX3_base_2 ⟨Nat.zero_le _, Nat.zero_le _⟩ ?_
  refine lv_aload_n hx hb dX3_base_5 rfl (lv_at hl 0 rfl) ?_
  refine lv_iload_n hx hb dX3_base_6 rfl (lv_at hl 2 rfl) ?_
  refine rq_V (rest := [.ref (a 8 i)]) (As := [.int (zi (zj))]) ⟨hx, hb, hml, hown, hts⟩ (c_X3_findVersion l g σ a hW j hj (zj) (by omega)) (cwV 1 hts gX3_base_X3_findVersion rfl rfl rfl (by decide +kernel) ⟨Nat.le_of_ble_eq_true rfl, Nat.le_of_ble_eq_true rfl⟩) (z_recv hK hP.ob rfl) hP hK rfl hl.1 rfl (Nat.le_of_ble_eq_true rfl) dX3_base_7 ⟨Nat.zero_le _, Nat.zero_le _⟩ ?_
  refine rq_S (rest := []) (As := [.ref (a 8 i), .ref (a 8 j)]) ⟨hx, hb, hml, hown, hts⟩ (c_X3_commonAncestor l g σ a hW i j hi hj) (cwS 2 hts gX3_base_X3_commonAncestor rfl rfl rfl (by decide +kernel) ⟨Nat.le_of_ble_eq_true rfl, Nat.le_of_ble_eq_true rfl⟩) hP hK rfl hl.1 rfl (Nat.le_of_ble_eq_true rfl) dX3_base_10 ⟨Nat.zero_le _, Nat.zero_le _⟩ ?_
  rw [show cmA σ a i j = some (a 8 bn) from hcm]
  refine lv_astore_n (lv' := [(3, .ref (a 8 bn)), (0, .ref (a 1 0)), (1, .int (zi (zi1))), (2, .int (zi (zj)))]) hx hb dX3_base_13 rfl hl (by decide) rfl (fun ls hl => ?_)
  refine lv_aload_n hx hb dX3_base_14 rfl (lv_at hl 0 rfl) ?_
  refine lv_ifnonnull (tgt := 22) hx hb dX3_base_15 (by decide) ?_
  refine lv_aload_n hx hb dX3_base_22 rfl (lv_at hl 0 rfl) ?_
  refine z_getN (C := RX2) (T := TX2) (N := 5) (ref := "HarmoniumDesk$Version") (host := RX3) hx hb hts hiX2 hown hK (hP.vk hbk).1 rfl 0 (by decide) (by decide +kernel) rfl rfl dX3_base_23 ?_
  exact z_iret hx hb hr hlk dX3_base_26 (by rw [hzi, hzj, hbn])

set_option maxHeartbeats 4000000 in
set_option maxRecDepth 100000 in
theorem c_X3_conflicts_0 (l : Launch) (g : gG) (σ : SG) (a : AD) (hW : WF σ) (i : Nat) (hi : (i : Int) < σ 0 0) (zi1 : Int) (hzi : zi1 = (i : Int)) (j : Nat) (hj : (j : Int) < σ 0 0) (zj : Int) (hzj : zj = (j : Int)) (bn : Nat) (hbn : bs (σ 2) i j (σ 0 0).toNat = (bn : Int))  : RO l yX3_conflicts wsX3_conflicts ({ frames := 3, cells := 0, slots := 0, locals := 69 }) g [.ref (a 1 0), .int (zi (zi1)), .int (zi (zj))] (DI g σ a) ((sset (cfB σ i j bn) (σ 1 i).toNat).toInt) := by
  refine RO.ofW (cc := cX3_conflicts) (maxL := 6) (ret := (some .int)) (by decide) rfl (Nat.le_of_ble_eq_true rfl) ?_
  intro p e s m below meth c ls hx hb hr hml hown hts hlk hP hK hl
  have hown : s.vm.findClass RX3 = some m.cls := hown
  have hl : lv_has ls 6 [(0, .ref (a 1 0)), (1, .int (zi (zi1))), (2, .int (zi (zj)))] := hl
  have hiX2 : ∀ w ∈ u_ws RX2 TX2 5, w ∈ wsX3_conflicts := by decide +kernel
  have hn := hW.n
  have hbr := bs_r (σ 2) i j (σ 0 0).toNat
  have hbk : (bn : Int) < σ 0 0 := by omega
  have hcm : cmA σ a i j = some (a 8 bn) := by unfold cmA; rw [hbn, if_neg (by omega), Int.toNat_natCast]
  have hbi := hW.bars hi
  obtain ⟨ui, li, hsi, nui, nli, eqi⟩ := (hP.vk hi).2
  obtain ⟨uj, lj, hsj, nuj, nlj, eqj⟩ := (hP.vk hj).2
  obtain ⟨ubn, lbn, hsbn, nubn, nlbn, eqbn⟩ := (hP.vk hbk).2
  have han := bs_an _ hbn
  have e1 := An_bars hW bn (i + 1) i (by omega) hi han.1
  have e2 := An_bars hW bn (j + 1) j (by omega) hj han.2
  have hco : sset (c3B ui li uj lj ubn lbn) (σ 1 i).toNat = sset (cfB σ i j bn) (σ 1 i).toNat := sset_cong _ (fun b hb => by
    have a1 := eqi b (by omega)
    have a2 := eqj b (by omega)
    have a3 := eqbn b (by omega)
    unfold c3B cfB Sb Al
    rw [a1.1, a1.2, a2.1, a2.2, a3.1, a3.2])
  refine lv_aload_n hx hb dX3_conflicts_0 rfl (lv_at hl 0 rfl) ?_
  refine lv_iload_n hx hb dX3_conflicts_1 rfl (lv_at hl 1 rfl) ?_
  refine rq_V (rest := []) (As := [.int (zi (zi1))]) ⟨hx, hb, hml, hown, hts⟩ (c_X3_findVersion l g σ a hW i hi (zi1) (by omega)) (cwV 1 hts gX3_conflicts_X3_findVersion rfl rfl rfl (by decide +kernel) ⟨Nat.le_of_ble_eq_true rfl, Nat.le_of_ble_eq_true rfl⟩) (z_recv hK hP.ob rfl) hP hK rfl hl.1 rfl (Nat.le_of_ble_eq_true rfl) dX3_conflicts_2 ⟨Nat.zero_le _, Nat.zero_le _⟩ ?_
  refine lv_astore_n (lv' := [(3, .ref (a 8 i)), (0, .ref (a 1 0)), (1, .int (zi (zi1))), (2, .int (zi (zj)))]) hx hb dX3_conflicts_5 rfl hl (by decide) rfl (fun ls hl => ?_)
  refine lv_aload_n hx hb dX3_conflicts_6 rfl (lv_at hl 1 rfl) ?_
  refine lv_iload_n hx hb dX3_conflicts_7 rfl (lv_at hl 3 rfl) ?_
  refine rq_V (rest := []) (As := [.int (zi (zj))]) ⟨hx, hb, hml, hown, hts⟩ (c_X3_findVersion l g σ a hW j hj (zj) (by omega)) (cwV 1 hts gX3_conflicts_X3_findVersion rfl rfl rfl (by decide +kernel) ⟨Nat.le_of_ble_eq_true rfl, Nat.le_of_ble_eq_true rfl⟩) (z_recv hK hP.ob rfl) hP hK rfl hl.1 rfl (Nat.le_of_ble_eq_true rfl) dX3_conflicts_8 ⟨Nat.zero_le _, Nat.zero_le _⟩ ?_
  refine lv_astore (lv' := [(4, .ref (a 8 j)), (3, .ref (a 8 i)), (0, .ref (a 1 0)), (1, .int (zi (zi1))), (2, .int (zi (zj)))]) hx hb dX3_conflicts_11 hl (by decide) rfl (fun ls hl => ?_)
  refine lv_aload_n hx hb dX3_conflicts_13 rfl (lv_at hl 1 rfl) ?_
  refine lv_aload hx hb dX3_conflicts_14 (lv_at hl 0 rfl) ?_
  refine rq_S (rest := []) (As := [.ref (a 8 i), .ref (a 8 j)]) ⟨hx, hb, hml, hown, hts⟩ (c_X3_commonAncestor l g σ a hW i j hi hj) (cwS 2 hts gX3_conflicts_X3_commonAncestor rfl rfl rfl (by decide +kernel) ⟨Nat.le_of_ble_eq_true rfl, Nat.le_of_ble_eq_true rfl⟩) hP hK rfl hl.1 rfl (Nat.le_of_ble_eq_true rfl) dX3_conflicts_16 ⟨Nat.zero_le _, Nat.zero_le _⟩ ?_
  rw [show cmA σ a i j = some (a 8 bn) from hcm]
  refine lv_astore (lv' := [(5, .ref (a 8 bn)), (4, .ref (a 8 j)), (3, .ref (a 8 i)), (0, .ref (a 1 0)), (1, .int (zi (zi1))), (2, .int (zi (zj)))]) hx hb dX3_conflicts_19 hl (by decide) rfl (fun ls hl => ?_)
  refine lv_aload hx hb dX3_conflicts_21 (lv_at hl 0 rfl) ?_
  refine lv_ifnonnull (tgt := 36) hx hb dX3_conflicts_23 (by decide) ?_
  refine lv_aload_n hx hb dX3_conflicts_36 rfl (lv_at hl 2 rfl) ?_
  refine z_getN (C := RX2) (T := TX2) (N := 5) (ref := "HarmoniumDesk$Version") (host := RX3) hx hb hts hiX2 hown hK (hP.vk hi).1 rfl 2 (by decide) (by decide +kernel) rfl rfl dX3_conflicts_37 ?_
  refine lv_aload hx hb dX3_conflicts_40 (lv_at hl 1 rfl) ?_
  refine z_getN (C := RX2) (T := TX2) (N := 5) (ref := "HarmoniumDesk$Version") (host := RX3) hx hb hts hiX2 hown hK (hP.vk hj).1 rfl 2 (by decide) (by decide +kernel) rfl rfl dX3_conflicts_42 ?_
  refine lv_aload hx hb dX3_conflicts_45 (lv_at hl 0 rfl) ?_
  refine z_getN (C := RX2) (T := TX2) (N := 5) (ref := "HarmoniumDesk$Version") (host := RX3) hx hb hts hiX2 hown hK (hP.vk hbk).1 rfl 2 (by decide) (by decide +kernel) rfl rfl dX3_conflicts_47 ?_
  refine ro_S (rest := []) (As := [.ref (a 9 i), .ref (a 9 j), .ref (a 9 bn)]) ⟨hx, hb, hml, hown, hts⟩ (c_X3_conflictingBars l g (a 9 i) (a 10 i) (a 11 i) (σ 1 i) ui li nui nli (a 9 j) (a 10 j) (a 11 j) (σ 1 j) uj lj nuj nlj (a 9 bn) (a 10 bn) (a 11 bn) (σ 1 bn) ubn lbn nubn nlbn (σ 1 i).toNat (by omega) (by omega)) (cwS 3 hts gX3_conflicts_X3_conflictingBars rfl rfl rfl (by decide +kernel) ⟨Nat.le_of_ble_eq_true rfl, Nat.le_of_ble_eq_true rfl⟩) ⟨hsi, hsj, hsbn⟩ hK rfl hl.1 rfl (Nat.le_of_ble_eq_true rfl) dX3_conflicts_50 ⟨Nat.zero_le _, Nat.zero_le _⟩ ?_
  exact z_iret hx hb hr hlk dX3_conflicts_53 (by rw [hco])

set_option maxHeartbeats 4000000 in
set_option maxRecDepth 100000 in
theorem c_X3_movement_1b (l : Launch) (g : gG) (σ : SG) (a : AD) (hW : WF σ) (k : Nat) (hk : (k : Int) < σ 0 0) (zk : Int) (hzk : zk = (k : Int)) (v : Nat) (hv1 : v ≤ 1) (zv : Int) (hzv : zv = (v : Int)) (h1b : σ 1 k = 1) : RF l yX3_movement wsX3_movement ({ frames := 1, cells := 0, slots := 0, locals := 22 }) g [.ref (a 1 0), .int (zi (zk)), .int (zi (zv))] (DI g σ a) (MV σ k v) := by
  refine ZM.ofW (cc := cX3_movement) (maxL := 5) (ret := (some .float)) (by decide) rfl (Nat.le_of_ble_eq_true rfl) ?_
  intro p e s m below meth c ls hx hb hr hml hown hts hlk hP hK hl _
  have hown : s.vm.findClass RX3 = some m.cls := hown
  have hl : lv_has ls 5 [(0, .ref (a 1 0)), (1, .int (zi (zk))), (2, .int (zi (zv)))] := hl
  have hiX1 : ∀ w ∈ u_ws RX1 TX1 3, w ∈ wsX3_movement := by decide +kernel
  have hiX2 : ∀ w ∈ u_ws RX2 TX2 5, w ∈ wsX3_movement := by decide +kernel
  have hn := hW.n
  have hbk := hW.bars hk
  obtain ⟨uk, lk, hsk, nuk, nlk, eqk⟩ := (hP.vk hk).2
  refine lv_aload_n hx hb dX3_movement_0 rfl (lv_at hl 0 rfl) ?_
  refine lv_iload_n hx hb dX3_movement_1 rfl (lv_at hl 1 rfl) ?_
  refine rq_V (rest := []) (As := [.int (zi (zk))]) ⟨hx, hb, hml, hown, hts⟩ (c_X3_findVersion l g σ a hW k hk (zk) (by omega)) (cwV 1 hts gX3_movement_X3_findVersion rfl rfl rfl (by decide +kernel) ⟨Nat.le_of_ble_eq_true rfl, Nat.le_of_ble_eq_true rfl⟩) (z_recv hK hP.ob rfl) hP hK rfl hl.1 rfl (Nat.le_of_ble_eq_true rfl) dX3_movement_2 ⟨Nat.zero_le _, Nat.zero_le _⟩ ?_
  refine lv_astore_n (lv' := [(3, .ref (a 8 k)), (0, .ref (a 1 0)), (1, .int (zi (zk))), (2, .int (zi (zv)))]) hx hb dX3_movement_5 rfl hl (by decide) rfl (fun ls hl => ?_)
  refine lv_iload_n hx hb dX3_movement_6 rfl (lv_at hl 3 rfl) ?_
  refine rv_S (rest := []) (As := [.int (zi (zv))]) ⟨hx, hb, hml, hown, hts⟩ (c_X3_checkVoice l g (zv) (by omega)) (cwS 1 hts gX3_movement_X3_checkVoice rfl rfl rfl (by decide +kernel) ⟨Nat.le_of_ble_eq_true rfl, Nat.le_of_ble_eq_true rfl⟩) trivial hK rfl hl.1 rfl (Nat.le_of_ble_eq_true rfl) dX3_movement_7 ⟨Nat.zero_le _, Nat.zero_le _⟩ ?_
  refine lv_aload_n hx hb dX3_movement_10 rfl (lv_at hl 0 rfl) ?_
  refine z_getN (C := RX2) (T := TX2) (N := 5) (ref := "HarmoniumDesk$Version") (host := RX3) hx hb hts hiX2 hown hK (hP.vk hk).1 rfl 2 (by decide) (by decide +kernel) rfl rfl dX3_movement_11 ?_
  refine z_getN (C := RX1) (T := TX1) (N := 3) (ref := "HarmoniumDesk$Score") (host := RX3) hx hb hts hiX1 hown hK hsk.1 rfl 0 (by decide) (by decide +kernel) rfl rfl dX3_movement_14 ?_
  refine z_iconst hx hb dX3_movement_17 ?_
  refine z_isub hx hb dX3_movement_18 ?_
  refine lv_istore (lv' := [(4, .int (zi ((σ 1 k) - (1)))), (3, .ref (a 8 k)), (0, .ref (a 1 0)), (1, .int (zi (zk))), (2, .int (zi (zv)))]) hx hb dX3_movement_19 hl (by decide) rfl (fun ls hl => ?_)
  refine lv_iload hx hb dX3_movement_21 (lv_at hl 0 rfl) ?_
  refine z_if_gt (tgt := 28) hx hb dX3_movement_23 (by decide) (by omega) (fun h23 => ?_) (fun h23 => ?_)
  · exfalso; omega
  ·
    refine lv_fconst0 hx hb dX3_movement_26 ?_
    exact z_sfret hx hb hr hlk dX3_movement_27 (by unfold MV; rw [if_pos h1b])

set_option maxHeartbeats 4000000 in
set_option maxRecDepth 100000 in
theorem c_X3_movement_0 (l : Launch) (g : gG) (σ : SG) (a : AD) (hW : WF σ) (k : Nat) (hk : (k : Int) < σ 0 0) (zk : Int) (hzk : zk = (k : Int)) (v : Nat) (hv1 : v ≤ 1) (zv : Int) (hzv : zv = (v : Int)) (h1b : ¬ σ 1 k = 1) : RF l yX3_movement wsX3_movement ({ frames := 3, cells := 0, slots := 0, locals := 68 }) g [.ref (a 1 0), .int (zi (zk)), .int (zi (zv))] (DI g σ a) (MV σ k v) := by
  refine ZM.ofW (cc := cX3_movement) (maxL := 5) (ret := (some .float)) (by decide) rfl (Nat.le_of_ble_eq_true rfl) ?_
  intro p e s m below meth c ls hx hb hr hml hown hts hlk hP hK hl _
  have hown : s.vm.findClass RX3 = some m.cls := hown
  have hl : lv_has ls 5 [(0, .ref (a 1 0)), (1, .int (zi (zk))), (2, .int (zi (zv)))] := hl
  have hiX1 : ∀ w ∈ u_ws RX1 TX1 3, w ∈ wsX3_movement := by decide +kernel
  have hiX2 : ∀ w ∈ u_ws RX2 TX2 5, w ∈ wsX3_movement := by decide +kernel
  have hn := hW.n
  have hbk := hW.bars hk
  obtain ⟨uk, lk, hsk, nuk, nlk, eqk⟩ := (hP.vk hk).2
  have hve : ∀ b : Nat, (b : Int) < σ 1 k → ((v : Int) = 0 → NV σ k v b = uk b) ∧ (¬ (v : Int) = 0 → NV σ k v b = lk b) := fun b hb => ⟨fun h => by rw [show v = 0 by omega, NV_0]; exact ((eqk b hb).1).symm, fun h => by rw [show v = 1 by omega, NV_1]; exact ((eqk b hb).2).symm⟩
  have hwy : wy (if (v : Int) = 0 then uk else lk) (σ 1 k).toNat = wy (NV σ k v) (σ 1 k).toNat := wy_cong _ (fun b hb => by
    by_cases h : (v : Int) = 0
    · rw [if_pos h, (hve b (by omega)).1 h]
    · rw [if_neg h, (hve b (by omega)).2 h])
  have hok := flok_n (MV_ok hW hk v)
  unfold MV at hok
  rw [if_neg h1b] at hok
  refine lv_aload_n hx hb dX3_movement_0 rfl (lv_at hl 0 rfl) ?_
  refine lv_iload_n hx hb dX3_movement_1 rfl (lv_at hl 1 rfl) ?_
  refine rq_V (rest := []) (As := [.int (zi (zk))]) ⟨hx, hb, hml, hown, hts⟩ (c_X3_findVersion l g σ a hW k hk (zk) (by omega)) (cwV 1 hts gX3_movement_X3_findVersion rfl rfl rfl (by decide +kernel) ⟨Nat.le_of_ble_eq_true rfl, Nat.le_of_ble_eq_true rfl⟩) (z_recv hK hP.ob rfl) hP hK rfl hl.1 rfl (Nat.le_of_ble_eq_true rfl) dX3_movement_2 ⟨Nat.zero_le _, Nat.zero_le _⟩ ?_
  refine lv_astore_n (lv' := [(3, .ref (a 8 k)), (0, .ref (a 1 0)), (1, .int (zi (zk))), (2, .int (zi (zv)))]) hx hb dX3_movement_5 rfl hl (by decide) rfl (fun ls hl => ?_)
  refine lv_iload_n hx hb dX3_movement_6 rfl (lv_at hl 3 rfl) ?_
  refine rv_S (rest := []) (As := [.int (zi (zv))]) ⟨hx, hb, hml, hown, hts⟩ (c_X3_checkVoice l g (zv) (by omega)) (cwS 1 hts gX3_movement_X3_checkVoice rfl rfl rfl (by decide +kernel) ⟨Nat.le_of_ble_eq_true rfl, Nat.le_of_ble_eq_true rfl⟩) trivial hK rfl hl.1 rfl (Nat.le_of_ble_eq_true rfl) dX3_movement_7 ⟨Nat.zero_le _, Nat.zero_le _⟩ ?_
  refine lv_aload_n hx hb dX3_movement_10 rfl (lv_at hl 0 rfl) ?_
  refine z_getN (C := RX2) (T := TX2) (N := 5) (ref := "HarmoniumDesk$Version") (host := RX3) hx hb hts hiX2 hown hK (hP.vk hk).1 rfl 2 (by decide) (by decide +kernel) rfl rfl dX3_movement_11 ?_
  refine z_getN (C := RX1) (T := TX1) (N := 3) (ref := "HarmoniumDesk$Score") (host := RX3) hx hb hts hiX1 hown hK hsk.1 rfl 0 (by decide) (by decide +kernel) rfl rfl dX3_movement_14 ?_
  refine z_iconst hx hb dX3_movement_17 ?_
  refine z_isub hx hb dX3_movement_18 ?_
  refine lv_istore (lv' := [(4, .int (zi ((σ 1 k) - (1)))), (3, .ref (a 8 k)), (0, .ref (a 1 0)), (1, .int (zi (zk))), (2, .int (zi (zv)))]) hx hb dX3_movement_19 hl (by decide) rfl (fun ls hl => ?_)
  refine lv_iload hx hb dX3_movement_21 (lv_at hl 0 rfl) ?_
  refine z_if_gt (tgt := 28) hx hb dX3_movement_23 (by decide) (by omega) (fun h23 => ?_) (fun h23 => ?_)
  ·
    refine lv_aload_n hx hb dX3_movement_28 rfl (lv_at hl 1 rfl) ?_
    refine z_getN (C := RX2) (T := TX2) (N := 5) (ref := "HarmoniumDesk$Version") (host := RX3) hx hb hts hiX2 hown hK (hP.vk hk).1 rfl 2 (by decide) (by decide +kernel) rfl rfl dX3_movement_29 ?_
    refine lv_iload_n hx hb dX3_movement_32 rfl (lv_at hl 4 rfl) ?_
    refine ro_V (rest := []) (As := [.int (zi (zv))]) ⟨hx, hb, hml, hown, hts⟩ (c_X1_wayOf l g (a 9 k) (a 10 k) (a 11 k) (σ 1 k) uk lk nuk nlk (zv) (by omega) (if (v : Int) = 0 then uk else lk) (fun h => if_pos (by omega)) (fun h => if_neg (by omega)) (σ 1 k).toNat (by omega) (by omega)) (cwV 1 hts gX3_movement_X1_wayOf rfl rfl rfl (by decide +kernel) ⟨Nat.le_of_ble_eq_true rfl, Nat.le_of_ble_eq_true rfl⟩) (z_recv hK hsk.1 rfl) hsk hK rfl hl.1 rfl (Nat.le_of_ble_eq_true rfl) dX3_movement_33 ⟨Nat.zero_le _, Nat.zero_le _⟩ ?_
    refine z_top (b := wy (NV σ k v) (σ 1 k).toNat) (hwy) ?_
    refine lv_i2f hx hb dX3_movement_36 ?_
    refine lv_iload hx hb dX3_movement_37 (lv_at hl 0 rfl) ?_
    refine lv_i2f hx hb dX3_movement_39 ?_
    refine lv_fdiv hx hb dX3_movement_40 (hok) ?_
    exact z_sfret hx hb hr hlk dX3_movement_41 (by unfold MV; rw [if_neg h1b])
  · exfalso; omega

set_option maxHeartbeats 4000000 in
set_option maxRecDepth 100000 in
theorem c_X3_errata_0 (l : Launch) (g : gG) (σ : SG) (a : AD) (hW : WF σ) (c1 : Nat) (hc : (c1 : Int) < σ 8 0) (zc : Int) (hzc : zc = (c1 : Int)) (k : Nat) (hk : (k : Int) < σ 0 0) (zk : Int) (hzk : zk = (k : Int)) (hln : σ 1 k = σ 9 c1) : RO l yX3_errata wsX3_errata ({ frames := 2, cells := 0, slots := 0, locals := 46 }) g [.ref (a 1 0), .int (zi (zc)), .int (zi (zk))] (DI g σ a) ((sset (dfB σ c1 k) (σ 1 k).toNat).toInt) := by
  refine RO.ofW (cc := cX3_errata) (maxL := 5) (ret := (some .int)) (by decide) rfl (Nat.le_of_ble_eq_true rfl) ?_
  intro p e s m below meth c ls hx hb hr hml hown hts hlk hP hK hl
  have hown : s.vm.findClass RX3 = some m.cls := hown
  have hl : lv_has ls 5 [(0, .ref (a 1 0)), (1, .int (zi (zc))), (2, .int (zi (zk)))] := hl
  have hiX2 : ∀ w ∈ u_ws RX2 TX2 5, w ∈ wsX3_errata := by decide +kernel
  have hn := hW.n
  have hbk := hW.bars hk
  obtain ⟨uk, lk, hsk, nuk, nlk, eqk⟩ := (hP.vk hk).2
  have hcn := hW.cn
  have hcp := hW.cp hc
  obtain ⟨t1, hr1, nt1, eqt⟩ := (hP.ck hc).2
  have hds : sset (dB (if σ 10 c1 = 0 then uk else lk) t1) (σ 1 k).toNat = sset (dfB σ c1 k) (σ 1 k).toNat := sset_cong _ (fun b hb => by
    have e1 := eqt b (by omega)
    have e2 := eqk b (by omega)
    have e3 : (if σ 10 c1 = 0 then uk else lk) b = NV σ k (σ 10 c1).toNat b := by
      rcases hcp.2 with h | h
      · rw [if_pos h, show (σ 10 c1).toNat = 0 by omega, NV_0]; exact e2.1
      · rw [if_neg (by omega), show (σ 10 c1).toNat = 1 by omega, NV_1]; exact e2.2
    unfold dB dfB
    rw [e1, e3])
  refine lv_aload_n hx hb dX3_errata_0 rfl (lv_at hl 0 rfl) ?_
  refine lv_iload_n hx hb dX3_errata_1 rfl (lv_at hl 1 rfl) ?_
  refine rq_V (rest := []) (As := [.int (zi (zc))]) ⟨hx, hb, hml, hown, hts⟩ (c_X3_findCopy l g σ a hW c1 hc (zc) (by omega)) (cwV 1 hts gX3_errata_X3_findCopy rfl rfl rfl (by decide +kernel) ⟨Nat.le_of_ble_eq_true rfl, Nat.le_of_ble_eq_true rfl⟩) (z_recv hK hP.ob rfl) hP hK rfl hl.1 rfl (Nat.le_of_ble_eq_true rfl) dX3_errata_2 ⟨Nat.zero_le _, Nat.zero_le _⟩ ?_
  refine lv_astore_n (lv' := [(3, .ref (a 12 c1)), (0, .ref (a 1 0)), (1, .int (zi (zc))), (2, .int (zi (zk)))]) hx hb dX3_errata_5 rfl hl (by decide) rfl (fun ls hl => ?_)
  refine lv_aload_n hx hb dX3_errata_6 rfl (lv_at hl 1 rfl) ?_
  refine lv_iload_n hx hb dX3_errata_7 rfl (lv_at hl 3 rfl) ?_
  refine rq_V (rest := []) (As := [.int (zi (zk))]) ⟨hx, hb, hml, hown, hts⟩ (c_X3_findVersion l g σ a hW k hk (zk) (by omega)) (cwV 1 hts gX3_errata_X3_findVersion rfl rfl rfl (by decide +kernel) ⟨Nat.le_of_ble_eq_true rfl, Nat.le_of_ble_eq_true rfl⟩) (z_recv hK hP.ob rfl) hP hK rfl hl.1 rfl (Nat.le_of_ble_eq_true rfl) dX3_errata_8 ⟨Nat.zero_le _, Nat.zero_le _⟩ ?_
  refine lv_astore (lv' := [(4, .ref (a 8 k)), (3, .ref (a 12 c1)), (0, .ref (a 1 0)), (1, .int (zi (zc))), (2, .int (zi (zk)))]) hx hb dX3_errata_11 hl (by decide) rfl (fun ls hl => ?_)
  refine lv_aload_n hx hb dX3_errata_13 rfl (lv_at hl 1 rfl) ?_
  refine lv_aload hx hb dX3_errata_14 (lv_at hl 0 rfl) ?_
  refine rv_S (rest := []) (As := [.ref (a 12 c1), .ref (a 8 k)]) ⟨hx, hb, hml, hown, hts⟩ (c_X3_checkAsManyBars l g σ a hW c1 hc k hk hln) (cwS 2 hts gX3_errata_X3_checkAsManyBars rfl rfl rfl (by decide +kernel) ⟨Nat.le_of_ble_eq_true rfl, Nat.le_of_ble_eq_true rfl⟩) hP hK rfl hl.1 rfl (Nat.le_of_ble_eq_true rfl) dX3_errata_16 ⟨Nat.zero_le _, Nat.zero_le _⟩ ?_
  refine lv_aload_n hx hb dX3_errata_19 rfl (lv_at hl 1 rfl) ?_
  refine lv_aload hx hb dX3_errata_20 (lv_at hl 0 rfl) ?_
  refine z_getN (C := RX2) (T := TX2) (N := 5) (ref := "HarmoniumDesk$Version") (host := RX3) hx hb hts hiX2 hown hK (hP.vk hk).1 rfl 2 (by decide) (by decide +kernel) rfl rfl dX3_errata_22 ?_
  refine ro_V (rest := []) (As := [.ref (a 9 k)]) ⟨hx, hb, hml, hown, hts⟩ (c_X0_differingBars l g (a 12 c1) (a 13 c1) (σ 10 c1) (σ 9 c1) (σ 12 c1) (by omega) t1 nt1 (a 9 k) (a 10 k) (a 11 k) (σ 1 k) uk lk nuk nlk (if σ 10 c1 = 0 then uk else lk) (fun h => if_pos h) (fun h => if_neg h) (σ 1 k).toNat (by omega) (by omega)) (cwV 1 hts gX3_errata_X0_differingBars rfl rfl rfl (by decide +kernel) ⟨Nat.le_of_ble_eq_true rfl, Nat.le_of_ble_eq_true rfl⟩) (z_recv hK (hP.ck hc).1 rfl) ⟨(hP.ck hc).1, hr1, hsk⟩ hK rfl hl.1 rfl (Nat.le_of_ble_eq_true rfl) dX3_errata_25 ⟨Nat.zero_le _, Nat.zero_le _⟩ ?_
  exact z_iret hx hb hr hlk dX3_errata_28 (by rw [hds])

set_option maxHeartbeats 4000000 in
set_option maxRecDepth 100000 in
theorem c_X3_slips_0 (l : Launch) (g : gG) (σ : SG) (a : AD) (hW : WF σ) (c1 : Nat) (hc : (c1 : Int) < σ 8 0) (zc : Int) (hzc : zc = (c1 : Int)) : RO l yX3_slips wsX3_slips ({ frames := 1, cells := 0, slots := 0, locals := 22 }) g [.ref (a 1 0), .int (zi (zc))] (DI g σ a) (σ 12 c1) := by
  refine RO.ofW (cc := cX3_slips) (maxL := 2) (ret := (some .int)) (by decide) rfl (Nat.le_of_ble_eq_true rfl) ?_
  intro p e s m below meth c ls hx hb hr hml hown hts hlk hP hK hl
  have hown : s.vm.findClass RX3 = some m.cls := hown
  have hl : lv_has ls 2 [(0, .ref (a 1 0)), (1, .int (zi (zc)))] := hl
  have hiX0 : ∀ w ∈ u_ws RX0 TX0 4, w ∈ wsX3_slips := by decide +kernel
  refine lv_aload_n hx hb dX3_slips_0 rfl (lv_at hl 0 rfl) ?_
  refine lv_iload_n hx hb dX3_slips_1 rfl (lv_at hl 1 rfl) ?_
  refine rq_V (rest := []) (As := [.int (zi (zc))]) ⟨hx, hb, hml, hown, hts⟩ (c_X3_findCopy l g σ a hW c1 hc (zc) (by omega)) (cwV 1 hts gX3_slips_X3_findCopy rfl rfl rfl (by decide +kernel) ⟨Nat.le_of_ble_eq_true rfl, Nat.le_of_ble_eq_true rfl⟩) (z_recv hK hP.ob rfl) hP hK rfl hl.1 rfl (Nat.le_of_ble_eq_true rfl) dX3_slips_2 ⟨Nat.zero_le _, Nat.zero_le _⟩ ?_
  refine z_getN (C := RX0) (T := TX0) (N := 4) (ref := "HarmoniumDesk$Copy") (host := RX3) hx hb hts hiX0 hown hK (hP.ck hc).1 rfl 3 (by decide) (by decide +kernel) rfl rfl dX3_slips_5 ?_
  exact z_iret hx hb hr hlk dX3_slips_8 (rfl)

set_option maxHeartbeats 4000000 in
set_option maxRecDepth 100000 in
theorem c_X3_fallen (l : Launch) (g : gG) (σ : SG) (a : AD) (hW : WF σ) : RO l yX3_fallen wsX3_fallen ({ frames := 6, cells := 0, slots := 0, locals := 137 }) g [.ref (a 1 0)] (DI g σ a) ((sset (faB σ) (σ 0 0).toNat).toInt) := by
  refine RO.ofW (cc := cX3_fallen) (maxL := 4) (ret := (some .int)) (by decide) rfl (Nat.le_of_ble_eq_true rfl) ?_
  intro p e s m below meth c ls hx hb hr hml hown hts hlk hP hK hl
  have hown : s.vm.findClass RX3 = some m.cls := hown
  have hl : lv_has ls 4 [(0, .ref (a 1 0))] := hl
  have hiX2 : ∀ w ∈ u_ws RX2 TX2 5, w ∈ wsX3_fallen := by decide +kernel
  have hiX3 : ∀ w ∈ u_ws RX3 TX3 7, w ∈ wsX3_fallen := by decide +kernel
  have hn := hW.n
  refine z_iconst hx hb dX3_fallen_0 ?_
  refine z_xtop (y := sset (faB σ) 0) (rfl) ?_
  refine lv_istore_n (lv' := [(1, .int (sset (faB σ) 0)), (0, .ref (a 1 0))]) hx hb dX3_fallen_1 rfl hl (by decide) rfl (fun ls hl => ?_)
  refine z_iconst hx hb dX3_fallen_2 ?_
  refine z_top (b := ((0 : Nat) : Int)) (rfl) ?_
  refine lv_istore_n (lv' := [(2, .int (zi (((0 : Nat) : Int)))), (1, .int (sset (faB σ) 0)), (0, .ref (a 1 0))]) hx hb dX3_fallen_3 rfl hl (by decide) rfl (fun ls hl => ?_)
  rw [show sset (faB σ) 0 = sset (faB σ) (min 0 (σ 0 0).toNat) by rw [Nat.zero_min]] at hl
  have loop : ∀ (d j : Nat), j ≤ 30 → 30 - j = d → ∀ ls : Array Slot, lv_has ls 4 [(2, .int (zi ((j : Int)))), (1, .int (sset (faB σ) (min j (σ 0 0).toNat))), (0, .ref (a 1 0))] → W p l e ({ frames := 6, cells := 0, slots := 0, locals := 137 }) s m ([.ref (a 1 0)] : List Value).toArray below meth c s.heap [] 0 0 (MQ below (vp_Si (fun z9 => z9 = zi ((sset (faB σ) (σ 0 0).toNat).toInt))) ([.ref (a 1 0)] : List Value).toArray s 0 0 (fun _ => False)) (F0 m 4 ls []) := by
    intro d
    induction d with
    | zero =>
      intro j hj7 hd2 ls hl
      have ej : min j (σ 0 0).toNat = (σ 0 0).toNat := by omega
      refine lv_iload_n hx hb dX3_fallen_4 rfl (lv_at hl 0 rfl) ?_
      refine lv_aload_n hx hb dX3_fallen_5 rfl (lv_at hl 2 rfl) ?_
      refine z_get (C := RX3) (T := TX3) (N := 7) hx hb hts hiX3 hown hK hP.ob rfl 0 (by decide) (hts (.fieldLink RX3 11 "HarmoniumDesk" "versions" "[LHarmoniumDesk$Version;") (by decide +kernel)) rfl rfl dX3_fallen_6 ?_
      refine z_alen hx hb hK hP.vs 2 rfl dX3_fallen_9 ?_
      refine z_icmp_ge (tgt := 58) hx hb dX3_fallen_10 (by decide) (by omega) (by omega) (fun h10 => ?_) (fun h10 => ?_)
      ·
        refine lv_iload_n hx hb dX3_fallen_58 rfl (lv_at hl 1 rfl) ?_
        refine z_xtop (y := zi ((sset (faB σ) (σ 0 0).toNat).toInt)) (by rw [ej]; exact zi_of _) ?_
        exact z_iret hx hb hr hlk dX3_fallen_59 (rfl)
      · exfalso; omega
    | succ d ih =>
      intro j hj7 hd2 ls hl
      refine lv_iload_n hx hb dX3_fallen_4 rfl (lv_at hl 0 rfl) ?_
      refine lv_aload_n hx hb dX3_fallen_5 rfl (lv_at hl 2 rfl) ?_
      refine z_get (C := RX3) (T := TX3) (N := 7) hx hb hts hiX3 hown hK hP.ob rfl 0 (by decide) (hts (.fieldLink RX3 11 "HarmoniumDesk" "versions" "[LHarmoniumDesk$Version;") (by decide +kernel)) rfl rfl dX3_fallen_6 ?_
      refine z_alen hx hb hK hP.vs 2 rfl dX3_fallen_9 ?_
      refine z_icmp_ge (tgt := 58) hx hb dX3_fallen_10 (by decide) (by omega) (by omega) (fun h10 => ?_) (fun h10 => ?_)
      · exfalso; omega
      ·
        refine lv_aload_n hx hb dX3_fallen_13 rfl (lv_at hl 2 rfl) ?_
        refine z_get (C := RX3) (T := TX3) (N := 7) hx hb hts hiX3 hown hK hP.ob rfl 0 (by decide) (hts (.fieldLink RX3 11 "HarmoniumDesk" "versions" "[LHarmoniumDesk$Version;") (by decide +kernel)) rfl rfl dX3_fallen_14 ?_
        refine lv_iload_n hx hb dX3_fallen_17 rfl (lv_at hl 0 rfl) ?_
        by_cases hj : (j : Int) < σ 0 0
        ·
          have hfl := hW.flag j
          have hbk := hW.bars hj
          have hmk := MK_r hW hj
          have hps := hW.pass
          obtain ⟨uj, lj, hsj, nuj, nlj, eqj⟩ := (hP.vk hj).2
          refine z_aldq hx hb hK hP.vs 2 rfl (j) (by omega) (by omega) (by decide) (o := some (a 8 j)) (if_pos hj) dX3_fallen_18 ?_
          refine lv_astore_n (lv' := [(3, .ref (a 8 j)), (2, .int (zi ((j : Int)))), (1, .int (sset (faB σ) (min j (σ 0 0).toNat))), (0, .ref (a 1 0))]) hx hb dX3_fallen_19 rfl hl (by decide) rfl (fun ls hl => ?_)
          refine lv_aload_n hx hb dX3_fallen_20 rfl (lv_at hl 0 rfl) ?_
          refine lv_ifnull hx hb dX3_fallen_21 ?_
          refine lv_aload_n hx hb dX3_fallen_24 rfl (lv_at hl 0 rfl) ?_
          refine z_getN (C := RX2) (T := TX2) (N := 5) (ref := "HarmoniumDesk$Version") (host := RX3) hx hb hts hiX2 hown hK (hP.vk hj).1 rfl 4 (by decide) (by decide +kernel) rfl rfl dX3_fallen_25 ?_
          refine z_if_eq (tgt := 52) hx hb dX3_fallen_28 (by decide) (by omega) (fun h28 => ?_) (fun h28 => ?_)
          ·
            rw [show sset (faB σ) (min j (σ 0 0).toNat) = sset (faB σ) (min (j + 1) (σ 0 0).toNat) from by rw [show min j (σ 0 0).toNat = j by omega, show min (j + 1) (σ 0 0).toNat = j + 1 by omega]; exact (if_neg (fun hh => by have hh := of_decide_eq_true (p := σ 4 j = 1 ∧ MK σ j < σ 7 0) hh; omega)).symm] at hl
            refine z_iinc (b := ((j + 1 : Nat) : Int)) (lv' := [(2, .int (zi (((j + 1 : Nat) : Int)))), (3, .ref (a 8 j)), (1, .int (sset (faB σ) (min (j + 1) (σ 0 0).toNat))), (0, .ref (a 1 0))]) hx hb dX3_fallen_52 hl (k := 1) rfl (by omega) (by decide) rfl (fun ls hl => ?_)
            refine lv_goto (tgt := 4) hx hb dX3_fallen_55 (by decide) ?_
            exact ih (j + 1) (by omega) (by omega) ls (lv_sub hl [0, 2, 3] rfl)
          ·
            refine lv_aload_n hx hb dX3_fallen_31 rfl (lv_at hl 3 rfl) ?_
            refine lv_aload_n hx hb dX3_fallen_32 rfl (lv_at hl 0 rfl) ?_
            refine z_getN (C := RX2) (T := TX2) (N := 5) (ref := "HarmoniumDesk$Version") (host := RX3) hx hb hts hiX2 hown hK (hP.vk hj).1 rfl 2 (by decide) (by decide +kernel) rfl rfl dX3_fallen_33 ?_
            refine ro_V (rest := []) (As := [.ref (a 9 j)]) ⟨hx, hb, hml, hown, hts⟩ (c_X3_markOf l g σ a hW (a 9 j) (a 10 j) (a 11 j) (σ 1 j) uj lj nuj nlj (σ 1 j).toNat (by omega) (by omega) (MK σ j) (by unfold MK; rw [← wfs_CS (fun b hb => eqj b (by omega))])) (cwV 1 hts gX3_fallen_X3_markOf rfl rfl rfl (by decide +kernel) ⟨Nat.le_of_ble_eq_true rfl, Nat.le_of_ble_eq_true rfl⟩) (z_recv hK hP.ob rfl) ⟨hP.ob, hP.wt, hsj⟩ hK rfl hl.1 rfl (Nat.le_of_ble_eq_true rfl) dX3_fallen_36 ⟨Nat.zero_le _, Nat.zero_le _⟩ ?_
            refine lv_aload_n hx hb dX3_fallen_39 rfl (lv_at hl 3 rfl) ?_
            refine z_get (C := RX3) (T := TX3) (N := 7) hx hb hts hiX3 hown hK hP.ob rfl 5 (by decide) (hts (.fieldLink RX3 32 "HarmoniumDesk" "passMark" "I") (by decide +kernel)) rfl rfl dX3_fallen_40 ?_
            refine z_icmp_ge (tgt := 52) hx hb dX3_fallen_43 (by decide) (by omega) (by omega) (fun h43 => ?_) (fun h43 => ?_)
            ·
              rw [show sset (faB σ) (min j (σ 0 0).toNat) = sset (faB σ) (min (j + 1) (σ 0 0).toNat) from by rw [show min j (σ 0 0).toNat = j by omega, show min (j + 1) (σ 0 0).toNat = j + 1 by omega]; exact (if_neg (fun hh => by have hh := of_decide_eq_true (p := σ 4 j = 1 ∧ MK σ j < σ 7 0) hh; omega)).symm] at hl
              refine z_iinc (b := ((j + 1 : Nat) : Int)) (lv' := [(2, .int (zi (((j + 1 : Nat) : Int)))), (3, .ref (a 8 j)), (1, .int (sset (faB σ) (min (j + 1) (σ 0 0).toNat))), (0, .ref (a 1 0))]) hx hb dX3_fallen_52 hl (k := 1) rfl (by omega) (by decide) rfl (fun ls hl => ?_)
              refine lv_goto (tgt := 4) hx hb dX3_fallen_55 (by decide) ?_
              exact ih (j + 1) (by omega) (by omega) ls (lv_sub hl [0, 2, 3] rfl)
            ·
              refine lv_iload_n hx hb dX3_fallen_46 rfl (lv_at hl 2 rfl) ?_
              refine z_iconst hx hb dX3_fallen_47 ?_
              refine lv_iload_n hx hb dX3_fallen_48 rfl (lv_at hl 1 rfl) ?_
              refine lv_ishl hx hb dX3_fallen_49 ?_
              refine lv_ior hx hb dX3_fallen_50 ?_
              refine z_xtop (y := sset (faB σ) (min (j + 1) (σ 0 0).toNat)) (by rw [show min j (σ 0 0).toNat = j by omega, show min (j + 1) (σ 0 0).toNat = j + 1 by omega]; exact sset_t (faB σ) j (decide_eq_true ⟨by omega, by omega⟩)) ?_
              refine lv_istore_n (lv' := [(1, .int (sset (faB σ) (min (j + 1) (σ 0 0).toNat))), (3, .ref (a 8 j)), (2, .int (zi ((j : Int)))), (0, .ref (a 1 0))]) hx hb dX3_fallen_51 rfl hl (by decide) rfl (fun ls hl => ?_)
              refine z_iinc (b := ((j + 1 : Nat) : Int)) (lv' := [(2, .int (zi (((j + 1 : Nat) : Int)))), (1, .int (sset (faB σ) (min (j + 1) (σ 0 0).toNat))), (3, .ref (a 8 j)), (0, .ref (a 1 0))]) hx hb dX3_fallen_52 hl (k := 2) rfl (by omega) (by decide) rfl (fun ls hl => ?_)
              refine lv_goto (tgt := 4) hx hb dX3_fallen_55 (by decide) ?_
              exact ih (j + 1) (by omega) (by omega) ls (lv_sub hl [0, 1, 3] rfl)
        ·
          refine z_aldq hx hb hK hP.vs 2 rfl (j) (by omega) (by omega) (by decide) (o := none) (if_neg hj) dX3_fallen_18 ?_
          refine lv_astore_nN (lv' := [(3, .null), (2, .int (zi ((j : Int)))), (1, .int (sset (faB σ) (min j (σ 0 0).toNat))), (0, .ref (a 1 0))]) hx hb dX3_fallen_19 rfl hl (by decide) rfl (fun ls hl => ?_)
          refine lv_aload_nN hx hb dX3_fallen_20 rfl (lv_at hl 0 rfl) ?_
          refine lv_ifnullN (tgt := 52) hx hb dX3_fallen_21 (by decide) ?_
          rw [show sset (faB σ) (min j (σ 0 0).toNat) = sset (faB σ) (min (j + 1) (σ 0 0).toNat) from by rw [show min j (σ 0 0).toNat = min (j + 1) (σ 0 0).toNat by omega]] at hl
          refine z_iinc (b := ((j + 1 : Nat) : Int)) (lv' := [(2, .int (zi (((j + 1 : Nat) : Int)))), (3, .null), (1, .int (sset (faB σ) (min (j + 1) (σ 0 0).toNat))), (0, .ref (a 1 0))]) hx hb dX3_fallen_52 hl (k := 1) rfl (by omega) (by decide) rfl (fun ls hl => ?_)
          refine lv_goto (tgt := 4) hx hb dX3_fallen_55 (by decide) ?_
          exact ih (j + 1) (by omega) (by omega) ls (lv_sub hl [0, 2, 3] rfl)
  exact loop _ 0 (by omega) rfl ls (by have h9 := lv_sub hl [0, 1, 2] rfl; exact h9)
