set_option maxHeartbeats 4000000 in
set_option maxRecDepth 100000 in
theorem c_X4_isIn (l : Launch) (g : gG) (v a b : Int) (hv : zr v) (ha : zr a) (hb9 : zr b) : RO l yX4_isIn wsX4_isIn ({ frames := 0, cells := 0, slots := 0, locals := 0 }) g [.int (zi (v)), .int (zi (a)), .int (zi (b))] (fun _ => True) (pz (a ≤ v ∧ v ≤ b)) := by
  refine RO.ofW (cc := cX4_isIn) (maxL := 3) (ret := (some .boolean)) (by decide) rfl (Nat.le_of_ble_eq_true rfl) ?_
  intro p e s m below meth c ls hx hb hr hml hown hts hlk hP hK hl
  have hown : s.vm.findClass RX4 = some m.cls := hown
  have hl : lv_has ls 3 [(0, .int (zi (v))), (1, .int (zi (a))), (2, .int (zi (b)))] := hl
  refine lv_iload_n hx hb dX4_isIn_0 rfl (lv_at hl 0 rfl) ?_
  refine lv_iload_n hx hb dX4_isIn_1 rfl (lv_at hl 1 rfl) ?_
  refine z_icmp_lt (tgt := 14) hx hb dX4_isIn_2 (by decide) (by omega) (by omega) (fun h2 => ?_) (fun h2 => ?_)
  ·
    refine z_iconst hx hb dX4_isIn_14 ?_
    exact z_zret hx hb hr hlk dX4_isIn_15 (by omega) ((pz_f (by omega)).symm)
  ·
    refine lv_iload_n hx hb dX4_isIn_5 rfl (lv_at hl 0 rfl) ?_
    refine lv_iload_n hx hb dX4_isIn_6 rfl (lv_at hl 2 rfl) ?_
    refine z_icmp_gt (tgt := 14) hx hb dX4_isIn_7 (by decide) (by omega) (by omega) (fun h7 => ?_) (fun h7 => ?_)
    ·
      refine z_iconst hx hb dX4_isIn_14 ?_
      exact z_zret hx hb hr hlk dX4_isIn_15 (by omega) ((pz_f (by omega)).symm)
    ·
      refine z_iconst hx hb dX4_isIn_10 ?_
      refine lv_goto (tgt := 15) hx hb dX4_isIn_11 (by decide) ?_
      exact z_zret hx hb hr hlk dX4_isIn_15 (by omega) ((pz_t (by omega)).symm)

set_option maxHeartbeats 4000000 in
set_option maxRecDepth 100000 in
theorem c_X4_at (l : Launch) (g : gG) (a v b : Int) : RO l yX4_at wsX4_at ({ frames := 0, cells := 0, slots := 0, locals := 0 }) g [.int (zi (a)), .int (zi (v)), .int (zi (b))] (fun _ => True) (12 * (2 * a + v) + b) := by
  refine RO.ofW (cc := cX4_at) (maxL := 3) (ret := (some .int)) (by decide) rfl (Nat.le_of_ble_eq_true rfl) ?_
  intro p e s m below meth c ls hx hb hr hml hown hts hlk hP hK hl
  have hown : s.vm.findClass RX4 = some m.cls := hown
  have hl : lv_has ls 3 [(0, .int (zi (a))), (1, .int (zi (v))), (2, .int (zi (b)))] := hl
  refine z_bipush hx hb dX4_at_0 (by decide) ?_
  refine z_iconst hx hb dX4_at_2 ?_
  refine lv_iload_n hx hb dX4_at_3 rfl (lv_at hl 0 rfl) ?_
  refine z_imul hx hb dX4_at_4 ?_
  refine lv_iload_n hx hb dX4_at_5 rfl (lv_at hl 1 rfl) ?_
  refine z_iadd hx hb dX4_at_6 ?_
  refine z_imul hx hb dX4_at_7 ?_
  refine lv_iload_n hx hb dX4_at_8 rfl (lv_at hl 2 rfl) ?_
  refine z_iadd hx hb dX4_at_9 ?_
  exact z_iret hx hb hr hlk dX4_at_10 (by omega)

set_option maxHeartbeats 4000000 in
set_option maxRecDepth 100000 in
theorem c_X4_away (l : Launch) (g : gG) (a b : Int) (ha : zr a) (hb9 : zr b) : RO l yX4_away wsX4_away ({ frames := 0, cells := 0, slots := 0, locals := 0 }) g [.int (zi (a)), .int (zi (b))] (fun _ => True) (dz a b) := by
  refine RO.ofW (cc := cX4_away) (maxL := 2) (ret := (some .int)) (by decide) rfl (Nat.le_of_ble_eq_true rfl) ?_
  intro p e s m below meth c ls hx hb hr hml hown hts hlk hP hK hl
  have hown : s.vm.findClass RX4 = some m.cls := hown
  have hl : lv_has ls 2 [(0, .int (zi (a))), (1, .int (zi (b)))] := hl
  refine lv_iload_n hx hb dX4_away_0 rfl (lv_at hl 0 rfl) ?_
  refine lv_iload_n hx hb dX4_away_1 rfl (lv_at hl 1 rfl) ?_
  refine z_icmp_le (tgt := 11) hx hb dX4_away_2 (by decide) (by omega) (by omega) (fun h2 => ?_) (fun h2 => ?_)
  ·
    refine lv_iload_n hx hb dX4_away_11 rfl (lv_at hl 1 rfl) ?_
    refine lv_iload_n hx hb dX4_away_12 rfl (lv_at hl 0 rfl) ?_
    refine z_isub hx hb dX4_away_13 ?_
    exact z_iret hx hb hr hlk dX4_away_14 (by unfold dz; split <;> omega)
  ·
    refine lv_iload_n hx hb dX4_away_5 rfl (lv_at hl 0 rfl) ?_
    refine lv_iload_n hx hb dX4_away_6 rfl (lv_at hl 1 rfl) ?_
    refine z_isub hx hb dX4_away_7 ?_
    refine lv_goto (tgt := 14) hx hb dX4_away_8 (by decide) ?_
    exact z_iret hx hb hr hlk dX4_away_14 (by unfold dz; split <;> omega)

set_option maxHeartbeats 4000000 in
set_option maxRecDepth 100000 in
theorem c_X4_isVersion (l : Launch) (g : gG) (ad : Nat → Nat) (σ : SG) (th : Int) (hW : WF σ) (z : Int) (hz : zr z) : RO l yX4_isVersion wsX4_isVersion ({ frames := 1, cells := 0, slots := 0, locals := 22 }) g [.ref (ad 0), .int (zi (z))] (MP g ad σ th) (pz (IsV σ z)) := by
  refine RO.ofW (cc := cX4_isVersion) (maxL := 2) (ret := (some .boolean)) (by decide) rfl (Nat.le_of_ble_eq_true rfl) ?_
  intro p e s m below meth c ls hx hb hr hml hown hts hlk hP hK hl
  have hown : s.vm.findClass RX4 = some m.cls := hown
  have hl : lv_has ls 2 [(0, .ref (ad 0)), (1, .int (zi (z)))] := hl
  have hiX4 : ∀ w ∈ u_ws RX4 TX4 14, w ∈ wsX4_isVersion := by decide +kernel
  have hn := hW.n
  refine lv_iload_n hx hb dX4_isVersion_0 rfl (lv_at hl 1 rfl) ?_
  refine z_iconst hx hb dX4_isVersion_1 ?_
  refine lv_aload_n hx hb dX4_isVersion_2 rfl (lv_at hl 0 rfl) ?_
  refine z_get (C := RX4) (T := TX4) (N := 14) hx hb hts hiX4 hown hK (hP 0 _ rfl) rfl 0 (by decide) (hts (.fieldLink RX4 48 "HarmoniumDeskModel" "versions" "I") (by decide +kernel)) rfl rfl dX4_isVersion_3 ?_
  refine z_iconst hx hb dX4_isVersion_6 ?_
  refine z_isub hx hb dX4_isVersion_7 ?_
  refine ro_S (rest := []) (As := [.int (zi (z)), .int (zi (0)), .int (zi ((σ 0 0) - (1)))]) ⟨hx, hb, hml, hown, hts⟩ (c_X4_isIn l g (z) (0) ((σ 0 0) - (1)) (by omega) (by omega) (by omega)) (cwS 3 hts gX4_isVersion_X4_isIn rfl rfl rfl (by decide +kernel) ⟨Nat.le_of_ble_eq_true rfl, Nat.le_of_ble_eq_true rfl⟩) trivial hK rfl hl.1 rfl (Nat.le_of_ble_eq_true rfl) dX4_isVersion_8 ⟨Nat.zero_le _, Nat.zero_le _⟩ ?_
  refine z_top (b := pz (IsV σ z)) (pz_c (by simp only [IsV]; omega)) ?_
  exact z_zret hx hb hr hlk dX4_isVersion_11 ((by have := pz_b (IsV σ z); omega)) (rfl)

set_option maxHeartbeats 4000000 in
set_option maxRecDepth 100000 in
theorem c_X4_isCopy (l : Launch) (g : gG) (ad : Nat → Nat) (σ : SG) (th : Int) (hW : WF σ) (z : Int) (hz : zr z) : RO l yX4_isCopy wsX4_isCopy ({ frames := 1, cells := 0, slots := 0, locals := 22 }) g [.ref (ad 0), .int (zi (z))] (MP g ad σ th) (pz (IsC σ z)) := by
  refine RO.ofW (cc := cX4_isCopy) (maxL := 2) (ret := (some .boolean)) (by decide) rfl (Nat.le_of_ble_eq_true rfl) ?_
  intro p e s m below meth c ls hx hb hr hml hown hts hlk hP hK hl
  have hown : s.vm.findClass RX4 = some m.cls := hown
  have hl : lv_has ls 2 [(0, .ref (ad 0)), (1, .int (zi (z)))] := hl
  have hiX4 : ∀ w ∈ u_ws RX4 TX4 14, w ∈ wsX4_isCopy := by decide +kernel
  have hn := hW.cn
  refine lv_iload_n hx hb dX4_isCopy_0 rfl (lv_at hl 1 rfl) ?_
  refine z_iconst hx hb dX4_isCopy_1 ?_
  refine lv_aload_n hx hb dX4_isCopy_2 rfl (lv_at hl 0 rfl) ?_
  refine z_get (C := RX4) (T := TX4) (N := 14) hx hb hts hiX4 hown hK (hP 0 _ rfl) rfl 8 (by decide) (hts (.fieldLink RX4 105 "HarmoniumDeskModel" "copies" "I") (by decide +kernel)) rfl rfl dX4_isCopy_3 ?_
  refine z_iconst hx hb dX4_isCopy_6 ?_
  refine z_isub hx hb dX4_isCopy_7 ?_
  refine ro_S (rest := []) (As := [.int (zi (z)), .int (zi (0)), .int (zi ((σ 8 0) - (1)))]) ⟨hx, hb, hml, hown, hts⟩ (c_X4_isIn l g (z) (0) ((σ 8 0) - (1)) (by omega) (by omega) (by omega)) (cwS 3 hts gX4_isCopy_X4_isIn rfl rfl rfl (by decide +kernel) ⟨Nat.le_of_ble_eq_true rfl, Nat.le_of_ble_eq_true rfl⟩) trivial hK rfl hl.1 rfl (Nat.le_of_ble_eq_true rfl) dX4_isCopy_8 ⟨Nat.zero_le _, Nat.zero_le _⟩ ?_
  refine z_top (b := pz (IsC σ z)) (pz_c (by simp only [IsC]; omega)) ?_
  exact z_zret hx hb hr hlk dX4_isCopy_11 ((by have := pz_b (IsC σ z); omega)) (rfl)

set_option maxHeartbeats 4000000 in
set_option maxRecDepth 100000 in
theorem c_X4_isNote (l : Launch) (g : gG) (ad : Nat → Nat) (σ : SG) (th : Int) (hW : WF σ) (z v b : Int) (hz : zr z) (hv : zr v) (hb9 : zr b) : RO l yX4_isNote wsX4_isNote ({ frames := 2, cells := 0, slots := 0, locals := 43 }) g [.ref (ad 0), .int (zi (z)), .int (zi (v)), .int (zi (b))] (MP g ad σ th) (pz (IsN σ z v b)) := by
  refine RO.ofW (cc := cX4_isNote) (maxL := 4) (ret := (some .boolean)) (by decide) rfl (Nat.le_of_ble_eq_true rfl) ?_
  intro p e s m below meth c ls hx hb hr hml hown hts hlk hP hK hl
  have hown : s.vm.findClass RX4 = some m.cls := hown
  have hl : lv_has ls 4 [(0, .ref (ad 0)), (1, .int (zi (z))), (2, .int (zi (v))), (3, .int (zi (b)))] := hl
  have hiX4 : ∀ w ∈ u_ws RX4 TX4 14, w ∈ wsX4_isNote := by decide +kernel
  have hn := hW.n
  refine lv_aload_n hx hb dX4_isNote_0 rfl (lv_at hl 0 rfl) ?_
  refine lv_iload_n hx hb dX4_isNote_1 rfl (lv_at hl 1 rfl) ?_
  refine ro_V (rest := []) (As := [.int (zi (z))]) ⟨hx, hb, hml, hown, hts⟩ (c_X4_isVersion l g ad σ th hW (z) (by omega)) (cwV 1 hts gX4_isNote_X4_isVersion rfl rfl rfl (by decide +kernel) ⟨Nat.le_of_ble_eq_true rfl, Nat.le_of_ble_eq_true rfl⟩) (z_recv hK (hP 0 _ rfl) rfl) hP hK rfl hl.1 rfl (Nat.le_of_ble_eq_true rfl) dX4_isNote_2 ⟨Nat.zero_le _, Nat.zero_le _⟩ ?_
  refine z_ifp_eq (P := IsV σ (z)) (tgt := 37) hx hb dX4_isNote_5 (by decide)  (fun h5 => ?_) (fun h5 => ?_)
  ·
    refine z_iconst hx hb dX4_isNote_37 ?_
    exact z_zret hx hb hr hlk dX4_isNote_38 (by omega) ((pz_f (by simp only [IsN]; omega)).symm)
  ·
    refine lv_iload_n hx hb dX4_isNote_8 rfl (lv_at hl 2 rfl) ?_
    refine z_iconst hx hb dX4_isNote_9 ?_
    refine z_iconst hx hb dX4_isNote_10 ?_
    refine ro_S (rest := []) (As := [.int (zi (v)), .int (zi (0)), .int (zi (1))]) ⟨hx, hb, hml, hown, hts⟩ (c_X4_isIn l g (v) (0) (1) (by omega) (by omega) (by omega)) (cwS 3 hts gX4_isNote_X4_isIn rfl rfl rfl (by decide +kernel) ⟨Nat.le_of_ble_eq_true rfl, Nat.le_of_ble_eq_true rfl⟩) trivial hK rfl hl.1 rfl (Nat.le_of_ble_eq_true rfl) dX4_isNote_11 ⟨Nat.zero_le _, Nat.zero_le _⟩ ?_
    refine z_ifp_eq (P := (0) ≤ (v) ∧ (v) ≤ (1)) (tgt := 37) hx hb dX4_isNote_14 (by decide)  (fun h14 => ?_) (fun h14 => ?_)
    ·
      refine z_iconst hx hb dX4_isNote_37 ?_
      exact z_zret hx hb hr hlk dX4_isNote_38 (by omega) ((pz_f (by simp only [IsN]; omega)).symm)
    ·
      obtain ⟨k, hk⟩ : ∃ k : Nat, z = (k : Int) := ⟨z.toNat, by omega⟩
      have hbk := hW.bars (k := k) (by omega)
      have ek : z.toNat = k := by omega
      rw [← ek] at hbk
      refine lv_iload_n hx hb dX4_isNote_17 rfl (lv_at hl 3 rfl) ?_
      refine z_iconst hx hb dX4_isNote_18 ?_
      refine lv_aload_n hx hb dX4_isNote_19 rfl (lv_at hl 0 rfl) ?_
      refine z_get (C := RX4) (T := TX4) (N := 14) hx hb hts hiX4 hown hK (hP 0 _ rfl) rfl 1 (by decide) (hts (.fieldLink RX4 7 "HarmoniumDeskModel" "bars" "[I") (by decide +kernel)) rfl rfl dX4_isNote_20 ?_
      refine lv_iload_n hx hb dX4_isNote_23 rfl (lv_at hl 1 rfl) ?_
      refine z_iald hx hb hK (hP 1 _ rfl) (z.toNat) (by omega) (by omega) (by decide) dX4_isNote_24 ?_
      refine z_iconst hx hb dX4_isNote_25 ?_
      refine z_isub hx hb dX4_isNote_26 ?_
      refine ro_S (rest := []) (As := [.int (zi (b)), .int (zi (0)), .int (zi ((σ 1 (z.toNat)) - (1)))]) ⟨hx, hb, hml, hown, hts⟩ (c_X4_isIn l g (b) (0) ((σ 1 (z.toNat)) - (1)) (by omega) (by omega) (by omega)) (cwS 3 hts gX4_isNote_X4_isIn rfl rfl rfl (by decide +kernel) ⟨Nat.le_of_ble_eq_true rfl, Nat.le_of_ble_eq_true rfl⟩) trivial hK rfl hl.1 rfl (Nat.le_of_ble_eq_true rfl) dX4_isNote_27 ⟨Nat.zero_le _, Nat.zero_le _⟩ ?_
      refine z_ifp_eq (P := (0) ≤ (b) ∧ (b) ≤ ((σ 1 (z.toNat)) - (1))) (tgt := 37) hx hb dX4_isNote_30 (by decide)  (fun h30 => ?_) (fun h30 => ?_)
      ·
        refine z_iconst hx hb dX4_isNote_37 ?_
        exact z_zret hx hb hr hlk dX4_isNote_38 (by omega) ((pz_f (by simp only [IsN]; omega)).symm)
      ·
        refine z_iconst hx hb dX4_isNote_33 ?_
        refine lv_goto (tgt := 38) hx hb dX4_isNote_34 (by decide) ?_
        exact z_zret hx hb hr hlk dX4_isNote_38 (by omega) ((pz_t (by simp only [IsN]; omega)).symm)

set_option maxHeartbeats 4000000 in
set_option maxRecDepth 100000 in
theorem c_X4_interval (l : Launch) (g : gG) (ad : Nat → Nat) (σ : SG) (th : Int) (hW : WF σ) (k : Nat) (hk : (k : Int) < σ 0 0) (zk : Int) (hzk : zk = (k : Int)) (b : Nat) (hb12 : b < 12) (zb : Int) (hzb : zb = (b : Int)) : RO l yX4_interval wsX4_interval ({ frames := 1, cells := 0, slots := 0, locals := 22 }) g [.ref (ad 0), .int (zi (zk)), .int (zi (zb))] (MP g ad σ th) (iv (NU σ k) (NL σ k) b) := by
  refine RO.ofW (cc := cX4_interval) (maxL := 3) (ret := (some .int)) (by decide) rfl (Nat.le_of_ble_eq_true rfl) ?_
  intro p e s m below meth c ls hx hb hr hml hown hts hlk hP hK hl
  have hown : s.vm.findClass RX4 = some m.cls := hown
  have hl : lv_has ls 3 [(0, .ref (ad 0)), (1, .int (zi (zk))), (2, .int (zi (zb)))] := hl
  have hiX4 : ∀ w ∈ u_ws RX4 TX4 14, w ∈ wsX4_interval := by decide +kernel
  have hn := hW.n
  have h1 := hW.u k b
  have h2 := hW.lo k b
  have h3 := dz_r h1 h2
  refine lv_aload_n hx hb dX4_interval_0 rfl (lv_at hl 0 rfl) ?_
  refine z_get (C := RX4) (T := TX4) (N := 14) hx hb hts hiX4 hown hK (hP 0 _ rfl) rfl 5 (by decide) (hts (.fieldLink RX4 23 "HarmoniumDeskModel" "notes" "[I") (by decide +kernel)) rfl rfl dX4_interval_1 ?_
  refine lv_iload_n hx hb dX4_interval_4 rfl (lv_at hl 1 rfl) ?_
  refine z_iconst hx hb dX4_interval_5 ?_
  refine lv_iload_n hx hb dX4_interval_6 rfl (lv_at hl 2 rfl) ?_
  refine ro_S (rest := [.ref (ad 5)]) (As := [.int (zi (zk)), .int (zi (0)), .int (zi (zb))]) ⟨hx, hb, hml, hown, hts⟩ (c_X4_at l g (zk) (0) (zb)) (cwS 3 hts gX4_interval_X4_at rfl rfl rfl (by decide +kernel) ⟨Nat.le_of_ble_eq_true rfl, Nat.le_of_ble_eq_true rfl⟩) trivial hK rfl hl.1 rfl (Nat.le_of_ble_eq_true rfl) dX4_interval_7 ⟨Nat.zero_le _, Nat.zero_le _⟩ ?_
  refine z_iald hx hb hK (hP 5 _ rfl) (24 * k + b) (by omega) (by omega) (by decide) dX4_interval_10 ?_
  refine z_top (b := NU σ k b) (rfl) ?_
  refine lv_aload_n hx hb dX4_interval_11 rfl (lv_at hl 0 rfl) ?_
  refine z_get (C := RX4) (T := TX4) (N := 14) hx hb hts hiX4 hown hK (hP 0 _ rfl) rfl 5 (by decide) (hts (.fieldLink RX4 23 "HarmoniumDeskModel" "notes" "[I") (by decide +kernel)) rfl rfl dX4_interval_12 ?_
  refine lv_iload_n hx hb dX4_interval_15 rfl (lv_at hl 1 rfl) ?_
  refine z_iconst hx hb dX4_interval_16 ?_
  refine lv_iload_n hx hb dX4_interval_17 rfl (lv_at hl 2 rfl) ?_
  refine ro_S (rest := [.ref (ad 5), .int (zi (NU σ k b))]) (As := [.int (zi (zk)), .int (zi (1)), .int (zi (zb))]) ⟨hx, hb, hml, hown, hts⟩ (c_X4_at l g (zk) (1) (zb)) (cwS 3 hts gX4_interval_X4_at rfl rfl rfl (by decide +kernel) ⟨Nat.le_of_ble_eq_true rfl, Nat.le_of_ble_eq_true rfl⟩) trivial hK rfl hl.1 rfl (Nat.le_of_ble_eq_true rfl) dX4_interval_18 ⟨Nat.zero_le _, Nat.zero_le _⟩ ?_
  refine z_iald hx hb hK (hP 5 _ rfl) (24 * k + 12 + b) (by omega) (by omega) (by decide) dX4_interval_21 ?_
  refine z_top (b := NL σ k b) (rfl) ?_
  refine ro_S (rest := []) (As := [.int (zi (NU σ k b)), .int (zi (NL σ k b))]) ⟨hx, hb, hml, hown, hts⟩ (c_X4_away l g (NU σ k b) (NL σ k b) (by omega) (by omega)) (cwS 2 hts gX4_interval_X4_away rfl rfl rfl (by decide +kernel) ⟨Nat.le_of_ble_eq_true rfl, Nat.le_of_ble_eq_true rfl⟩) trivial hK rfl hl.1 rfl (Nat.le_of_ble_eq_true rfl) dX4_interval_22 ⟨Nat.zero_le _, Nat.zero_le _⟩ ?_
  refine z_bipush hx hb dX4_interval_25 (by decide) ?_
  refine z_irem hx hb (by omega) (by omega) (by omega) (by omega) dX4_interval_27 ?_
  exact z_iret hx hb hr hlk dX4_interval_28 (rfl)

set_option maxHeartbeats 4000000 in
set_option maxRecDepth 100000 in
theorem c_X4_stays (l : Launch) (g : gG) (ad : Nat → Nat) (σ : SG) (th : Int) (hW : WF σ) (k : Nat) (hk : (k : Int) < σ 0 0) (zk : Int) (hzk : zk = (k : Int)) (v : Nat) (hv1 : v ≤ 1) (zv : Int) (hzv : zv = (v : Int)) (w : Nat → Int) (hw : NV σ k v = w) (b : Nat) (hb1 : 1 ≤ b) (hb12 : b < 12) (zb : Int) (hzb : zb = (b : Int)) : RO l yX4_stays wsX4_stays ({ frames := 1, cells := 0, slots := 0, locals := 22 }) g [.ref (ad 0), .int (zi (zk)), .int (zi (zv)), .int (zi (zb))] (MP g ad σ th) (pz (w b = w (b - 1))) := by
  refine RO.ofW (cc := cX4_stays) (maxL := 4) (ret := (some .boolean)) (by decide) rfl (Nat.le_of_ble_eq_true rfl) ?_
  intro p e s m below meth c ls hx hb hr hml hown hts hlk hP hK hl
  have hown : s.vm.findClass RX4 = some m.cls := hown
  have hl : lv_has ls 4 [(0, .ref (ad 0)), (1, .int (zi (zk))), (2, .int (zi (zv))), (3, .int (zi (zb)))] := hl
  have hiX4 : ∀ w ∈ u_ws RX4 TX4 14, w ∈ wsX4_stays := by decide +kernel
  have hn := hW.n
  have h0 := hW.v k v
  rw [hw] at h0
  have h1 := h0 b
  have h2 := h0 (b - 1)
  have h3 := dz_r h1 h2
  refine lv_aload_n hx hb dX4_stays_0 rfl (lv_at hl 0 rfl) ?_
  refine z_get (C := RX4) (T := TX4) (N := 14) hx hb hts hiX4 hown hK (hP 0 _ rfl) rfl 5 (by decide) (hts (.fieldLink RX4 23 "HarmoniumDeskModel" "notes" "[I") (by decide +kernel)) rfl rfl dX4_stays_1 ?_
  refine lv_iload_n hx hb dX4_stays_4 rfl (lv_at hl 1 rfl) ?_
  refine lv_iload_n hx hb dX4_stays_5 rfl (lv_at hl 2 rfl) ?_
  refine lv_iload_n hx hb dX4_stays_6 rfl (lv_at hl 3 rfl) ?_
  refine ro_S (rest := [.ref (ad 5)]) (As := [.int (zi (zk)), .int (zi (zv)), .int (zi (zb))]) ⟨hx, hb, hml, hown, hts⟩ (c_X4_at l g (zk) (zv) (zb)) (cwS 3 hts gX4_stays_X4_at rfl rfl rfl (by decide +kernel) ⟨Nat.le_of_ble_eq_true rfl, Nat.le_of_ble_eq_true rfl⟩) trivial hK rfl hl.1 rfl (Nat.le_of_ble_eq_true rfl) dX4_stays_7 ⟨Nat.zero_le _, Nat.zero_le _⟩ ?_
  refine z_iald hx hb hK (hP 5 _ rfl) (24 * k + 12 * v + b) (by omega) (by omega) (by decide) dX4_stays_10 ?_
  refine z_top (b := w b) (by rw [← hw]; rfl) ?_
  refine lv_aload_n hx hb dX4_stays_11 rfl (lv_at hl 0 rfl) ?_
  refine z_get (C := RX4) (T := TX4) (N := 14) hx hb hts hiX4 hown hK (hP 0 _ rfl) rfl 5 (by decide) (hts (.fieldLink RX4 23 "HarmoniumDeskModel" "notes" "[I") (by decide +kernel)) rfl rfl dX4_stays_12 ?_
  refine lv_iload_n hx hb dX4_stays_15 rfl (lv_at hl 1 rfl) ?_
  refine lv_iload_n hx hb dX4_stays_16 rfl (lv_at hl 2 rfl) ?_
  refine lv_iload_n hx hb dX4_stays_17 rfl (lv_at hl 3 rfl) ?_
  refine z_iconst hx hb dX4_stays_18 ?_
  refine z_isub hx hb dX4_stays_19 ?_
  refine ro_S (rest := [.ref (ad 5), .int (zi (w b))]) (As := [.int (zi (zk)), .int (zi (zv)), .int (zi ((zb) - (1)))]) ⟨hx, hb, hml, hown, hts⟩ (c_X4_at l g (zk) (zv) ((zb) - (1))) (cwS 3 hts gX4_stays_X4_at rfl rfl rfl (by decide +kernel) ⟨Nat.le_of_ble_eq_true rfl, Nat.le_of_ble_eq_true rfl⟩) trivial hK rfl hl.1 rfl (Nat.le_of_ble_eq_true rfl) dX4_stays_20 ⟨Nat.zero_le _, Nat.zero_le _⟩ ?_
  refine z_iald hx hb hK (hP 5 _ rfl) (24 * k + 12 * v + (b - 1)) (by omega) (by omega) (by decide) dX4_stays_23 ?_
  refine z_top (b := w (b - 1)) (by rw [← hw]; rfl) ?_
  refine z_icmp_ne (tgt := 31) hx hb dX4_stays_24 (by decide) (by omega) (by omega) (fun h24 => ?_) (fun h24 => ?_)
  ·
    refine z_iconst hx hb dX4_stays_31 ?_
    exact z_zret hx hb hr hlk dX4_stays_32 (by omega) ((pz_f (by omega)).symm)
  ·
    refine z_iconst hx hb dX4_stays_27 ?_
    refine lv_goto (tgt := 32) hx hb dX4_stays_28 (by decide) ?_
    exact z_zret hx hb hr hlk dX4_stays_32 (by omega) ((pz_t (by omega)).symm)

set_option maxHeartbeats 4000000 in
set_option maxRecDepth 100000 in
theorem c_X4_leap (l : Launch) (g : gG) (ad : Nat → Nat) (σ : SG) (th : Int) (hW : WF σ) (k : Nat) (hk : (k : Int) < σ 0 0) (zk : Int) (hzk : zk = (k : Int)) (v : Nat) (hv1 : v ≤ 1) (zv : Int) (hzv : zv = (v : Int)) (w : Nat → Int) (hw : NV σ k v = w) (b : Nat) (hb1 : 1 ≤ b) (hb12 : b < 12) (zb : Int) (hzb : zb = (b : Int)) : RO l yX4_leap wsX4_leap ({ frames := 1, cells := 0, slots := 0, locals := 22 }) g [.ref (ad 0), .int (zi (zk)), .int (zi (zv)), .int (zi (zb))] (MP g ad σ th) (pz (9 < dz (w b) (w (b - 1)))) := by
  refine RO.ofW (cc := cX4_leap) (maxL := 4) (ret := (some .int)) (by decide) rfl (Nat.le_of_ble_eq_true rfl) ?_
  intro p e s m below meth c ls hx hb hr hml hown hts hlk hP hK hl
  have hown : s.vm.findClass RX4 = some m.cls := hown
  have hl : lv_has ls 4 [(0, .ref (ad 0)), (1, .int (zi (zk))), (2, .int (zi (zv))), (3, .int (zi (zb)))] := hl
  have hiX4 : ∀ w ∈ u_ws RX4 TX4 14, w ∈ wsX4_leap := by decide +kernel
  have hn := hW.n
  have h0 := hW.v k v
  rw [hw] at h0
  have h1 := h0 b
  have h2 := h0 (b - 1)
  have h3 := dz_r h1 h2
  refine lv_aload_n hx hb dX4_leap_0 rfl (lv_at hl 0 rfl) ?_
  refine z_get (C := RX4) (T := TX4) (N := 14) hx hb hts hiX4 hown hK (hP 0 _ rfl) rfl 5 (by decide) (hts (.fieldLink RX4 23 "HarmoniumDeskModel" "notes" "[I") (by decide +kernel)) rfl rfl dX4_leap_1 ?_
  refine lv_iload_n hx hb dX4_leap_4 rfl (lv_at hl 1 rfl) ?_
  refine lv_iload_n hx hb dX4_leap_5 rfl (lv_at hl 2 rfl) ?_
  refine lv_iload_n hx hb dX4_leap_6 rfl (lv_at hl 3 rfl) ?_
  refine ro_S (rest := [.ref (ad 5)]) (As := [.int (zi (zk)), .int (zi (zv)), .int (zi (zb))]) ⟨hx, hb, hml, hown, hts⟩ (c_X4_at l g (zk) (zv) (zb)) (cwS 3 hts gX4_leap_X4_at rfl rfl rfl (by decide +kernel) ⟨Nat.le_of_ble_eq_true rfl, Nat.le_of_ble_eq_true rfl⟩) trivial hK rfl hl.1 rfl (Nat.le_of_ble_eq_true rfl) dX4_leap_7 ⟨Nat.zero_le _, Nat.zero_le _⟩ ?_
  refine z_iald hx hb hK (hP 5 _ rfl) (24 * k + 12 * v + b) (by omega) (by omega) (by decide) dX4_leap_10 ?_
  refine z_top (b := w b) (by rw [← hw]; rfl) ?_
  refine lv_aload_n hx hb dX4_leap_11 rfl (lv_at hl 0 rfl) ?_
  refine z_get (C := RX4) (T := TX4) (N := 14) hx hb hts hiX4 hown hK (hP 0 _ rfl) rfl 5 (by decide) (hts (.fieldLink RX4 23 "HarmoniumDeskModel" "notes" "[I") (by decide +kernel)) rfl rfl dX4_leap_12 ?_
  refine lv_iload_n hx hb dX4_leap_15 rfl (lv_at hl 1 rfl) ?_
  refine lv_iload_n hx hb dX4_leap_16 rfl (lv_at hl 2 rfl) ?_
  refine lv_iload_n hx hb dX4_leap_17 rfl (lv_at hl 3 rfl) ?_
  refine z_iconst hx hb dX4_leap_18 ?_
  refine z_isub hx hb dX4_leap_19 ?_
  refine ro_S (rest := [.ref (ad 5), .int (zi (w b))]) (As := [.int (zi (zk)), .int (zi (zv)), .int (zi ((zb) - (1)))]) ⟨hx, hb, hml, hown, hts⟩ (c_X4_at l g (zk) (zv) ((zb) - (1))) (cwS 3 hts gX4_leap_X4_at rfl rfl rfl (by decide +kernel) ⟨Nat.le_of_ble_eq_true rfl, Nat.le_of_ble_eq_true rfl⟩) trivial hK rfl hl.1 rfl (Nat.le_of_ble_eq_true rfl) dX4_leap_20 ⟨Nat.zero_le _, Nat.zero_le _⟩ ?_
  refine z_iald hx hb hK (hP 5 _ rfl) (24 * k + 12 * v + (b - 1)) (by omega) (by omega) (by decide) dX4_leap_23 ?_
  refine z_top (b := w (b - 1)) (by rw [← hw]; rfl) ?_
  refine ro_S (rest := []) (As := [.int (zi (w b)), .int (zi (w (b - 1)))]) ⟨hx, hb, hml, hown, hts⟩ (c_X4_away l g (w b) (w (b - 1)) (by omega) (by omega)) (cwS 2 hts gX4_leap_X4_away rfl rfl rfl (by decide +kernel) ⟨Nat.le_of_ble_eq_true rfl, Nat.le_of_ble_eq_true rfl⟩) trivial hK rfl hl.1 rfl (Nat.le_of_ble_eq_true rfl) dX4_leap_24 ⟨Nat.zero_le _, Nat.zero_le _⟩ ?_
  refine z_bipush hx hb dX4_leap_27 (by decide) ?_
  refine z_icmp_le (tgt := 36) hx hb dX4_leap_29 (by decide) (by omega) (by omega) (fun h29 => ?_) (fun h29 => ?_)
  ·
    refine z_iconst hx hb dX4_leap_36 ?_
    exact z_iret hx hb hr hlk dX4_leap_37 ((pz_f (by omega)).symm)
  ·
    refine z_iconst hx hb dX4_leap_32 ?_
    refine lv_goto (tgt := 37) hx hb dX4_leap_33 (by decide) ?_
    exact z_iret hx hb hr hlk dX4_leap_37 ((pz_t (by omega)).symm)

set_option maxHeartbeats 4000000 in
set_option maxRecDepth 100000 in
theorem c_X4_faultsAt (l : Launch) (g : gG) (ad : Nat → Nat) (σ : SG) (th : Int) (hW : WF σ) (k : Nat) (hk : (k : Int) < σ 0 0) (zk : Int) (hzk : zk = (k : Int)) (b : Nat) (hbb : (b : Int) < σ 1 k) (zb : Int) (hzb : zb = (b : Int)) (r : Nat) (hr6 : r < 6) (zr1 : Int) (hzr : zr1 = (r : Int)) : RO l yX4_faultsAt wsX4_faultsAt ({ frames := 2, cells := 0, slots := 0, locals := 45 }) g [.ref (ad 0), .int (zi (zk)), .int (zi (zb)), .int (zi (zr1))] (MP g ad σ th) (ft r (σ 1 k).toNat (NU σ k) (NL σ k) b) := by
  refine RO.ofW (cc := cX4_faultsAt) (maxL := 6) (ret := (some .int)) (by decide) rfl (Nat.le_of_ble_eq_true rfl) ?_
  intro p e s m below meth c ls hx hb hr hml hown hts hlk hP hK hl
  have hown : s.vm.findClass RX4 = some m.cls := hown
  have hl : lv_has ls 6 [(0, .ref (ad 0)), (1, .int (zi (zk))), (2, .int (zi (zb))), (3, .int (zi (zr1)))] := hl
  have hiX4 : ∀ w ∈ u_ws RX4 TX4 14, w ∈ wsX4_faultsAt := by decide +kernel
  have hn := hW.n
  have hbk := hW.bars hk
  have h1 := hW.u k b
  have h2 := hW.lo k b
  have r1 := iv_r (NU σ k) (NL σ k) b
  have r2 := iv_r (NU σ k) (NL σ k) (b - 1)
  refine lv_aload_n hx hb dX4_faultsAt_0 rfl (lv_at hl 0 rfl) ?_
  refine lv_iload_n hx hb dX4_faultsAt_1 rfl (lv_at hl 1 rfl) ?_
  refine lv_iload_n hx hb dX4_faultsAt_2 rfl (lv_at hl 2 rfl) ?_
  refine ro_V (rest := []) (As := [.int (zi (zk)), .int (zi (zb))]) ⟨hx, hb, hml, hown, hts⟩ (c_X4_interval l g ad σ th hW k hk (zk) (by omega) (b) (by omega) (zb) (by omega)) (cwV 2 hts gX4_faultsAt_X4_interval rfl rfl rfl (by decide +kernel) ⟨Nat.le_of_ble_eq_true rfl, Nat.le_of_ble_eq_true rfl⟩) (z_recv hK (hP 0 _ rfl) rfl) hP hK rfl hl.1 rfl (Nat.le_of_ble_eq_true rfl) dX4_faultsAt_3 ⟨Nat.zero_le _, Nat.zero_le _⟩ ?_
  refine lv_istore (lv' := [(4, .int (zi (iv (NU σ k) (NL σ k) (b)))), (0, .ref (ad 0)), (1, .int (zi (zk))), (2, .int (zi (zb))), (3, .int (zi (zr1)))]) hx hb dX4_faultsAt_6 hl (by decide) rfl (fun ls hl => ?_)
  have J25 : ∀ ls : Array Slot, lv_has ls 6 [(4, .int (zi (iv (NU σ k) (NL σ k) (b)))), (0, .ref (ad 0)), (1, .int (zi (zk))), (2, .int (zi (zb))), (3, .int (zi (zr1)))] → W p l e ({ frames := 2, cells := 0, slots := 0, locals := 45 }) s m ([.ref (ad 0), .int (zi (zk)), .int (zi (zb)), .int (zi (zr1))] : List Value).toArray below meth c s.heap [] 0 0 (MQ below (vp_Si (fun z9 => z9 = zi (ft r (σ 1 k).toNat (NU σ k) (NL σ k) b))) ([.ref (ad 0), .int (zi (zk)), .int (zi (zb)), .int (zi (zr1))] : List Value).toArray s 0 0 (fun _ => False)) (F0 m 25 ls [.int (zi (pz (P7 (iv (NU σ k) (NL σ k) b))))]) := by
    intro ls hl
    refine lv_istore (lv' := [(5, .int (zi (pz (P7 (iv (NU σ k) (NL σ k) b))))), (4, .int (zi (iv (NU σ k) (NL σ k) (b)))), (0, .ref (ad 0)), (1, .int (zi (zk))), (2, .int (zi (zb))), (3, .int (zi (zr1)))]) hx hb dX4_faultsAt_25 hl (by decide) rfl (fun ls hl => ?_)
    refine lv_iload_n hx hb dX4_faultsAt_27 rfl (lv_at hl 5 rfl) ?_
    by_cases e0 : r = 0
    · subst e0
      refine z_top (b := 0) hzr ?_
      refine lv_tableIn (off := 36) (tgt := 64) hx hb dX4_faultsAt_28 (by decide +kernel) (by decide +kernel) (by decide +kernel) (by decide) ?_
      refine lv_iload hx hb dX4_faultsAt_64 (lv_at hl 1 rfl) ?_
      refine z_iconst hx hb dX4_faultsAt_66 ?_
      refine z_icmp_eq (tgt := 96) hx hb dX4_faultsAt_67 (by decide) (by omega) (by omega) (fun h67 => ?_) (fun h67 => ?_)
      ·
        refine z_iconst hx hb dX4_faultsAt_96 ?_
        refine lv_goto (tgt := 101) hx hb dX4_faultsAt_97 (by decide) ?_
        exact z_iret hx hb hr hlk dX4_faultsAt_101 (show _ = pz (D0 (NU σ k) (NL σ k) b) from (pz_t (by simp only [D0]; omega)).symm)
      ·
        refine lv_iload hx hb dX4_faultsAt_70 (lv_at hl 1 rfl) ?_
        refine z_iconst hx hb dX4_faultsAt_72 ?_
        refine z_icmp_eq (tgt := 96) hx hb dX4_faultsAt_73 (by decide) (by omega) (by omega) (fun h73 => ?_) (fun h73 => ?_)
        ·
          refine z_iconst hx hb dX4_faultsAt_96 ?_
          refine lv_goto (tgt := 101) hx hb dX4_faultsAt_97 (by decide) ?_
          exact z_iret hx hb hr hlk dX4_faultsAt_101 (show _ = pz (D0 (NU σ k) (NL σ k) b) from (pz_t (by simp only [D0]; omega)).symm)
        ·
          refine lv_iload hx hb dX4_faultsAt_76 (lv_at hl 1 rfl) ?_
          refine z_iconst hx hb dX4_faultsAt_78 ?_
          refine z_icmp_eq (tgt := 96) hx hb dX4_faultsAt_79 (by decide) (by omega) (by omega) (fun h79 => ?_) (fun h79 => ?_)
          ·
            refine z_iconst hx hb dX4_faultsAt_96 ?_
            refine lv_goto (tgt := 101) hx hb dX4_faultsAt_97 (by decide) ?_
            exact z_iret hx hb hr hlk dX4_faultsAt_101 (show _ = pz (D0 (NU σ k) (NL σ k) b) from (pz_t (by simp only [D0]; omega)).symm)
          ·
            refine lv_iload hx hb dX4_faultsAt_82 (lv_at hl 1 rfl) ?_
            refine z_bipush hx hb dX4_faultsAt_84 (by decide) ?_
            refine z_icmp_eq (tgt := 96) hx hb dX4_faultsAt_86 (by decide) (by omega) (by omega) (fun h86 => ?_) (fun h86 => ?_)
            ·
              refine z_iconst hx hb dX4_faultsAt_96 ?_
              refine lv_goto (tgt := 101) hx hb dX4_faultsAt_97 (by decide) ?_
              exact z_iret hx hb hr hlk dX4_faultsAt_101 (show _ = pz (D0 (NU σ k) (NL σ k) b) from (pz_t (by simp only [D0]; omega)).symm)
            ·
              refine lv_iload hx hb dX4_faultsAt_89 (lv_at hl 1 rfl) ?_
              refine z_bipush hx hb dX4_faultsAt_91 (by decide) ?_
              refine z_icmp_le (tgt := 100) hx hb dX4_faultsAt_93 (by decide) (by omega) (by omega) (fun h93 => ?_) (fun h93 => ?_)
              ·
                refine z_iconst hx hb dX4_faultsAt_100 ?_
                exact z_iret hx hb hr hlk dX4_faultsAt_101 (show _ = pz (D0 (NU σ k) (NL σ k) b) from (pz_f (by simp only [D0]; omega)).symm)
              ·
                refine z_iconst hx hb dX4_faultsAt_96 ?_
                refine lv_goto (tgt := 101) hx hb dX4_faultsAt_97 (by decide) ?_
                exact z_iret hx hb hr hlk dX4_faultsAt_101 (show _ = pz (D0 (NU σ k) (NL σ k) b) from (pz_t (by simp only [D0]; omega)).symm)
    by_cases e1 : r = 1
    · subst e1
      refine z_top (b := 1) hzr ?_
      refine lv_tableIn (off := 74) (tgt := 102) hx hb dX4_faultsAt_28 (by decide +kernel) (by decide +kernel) (by decide +kernel) (by decide) ?_
      refine lv_iload_n hx hb dX4_faultsAt_102 rfl (lv_at hl 4 rfl) ?_
      refine z_if_le (tgt := 148) hx hb dX4_faultsAt_103 (by decide) (by omega) (fun h103 => ?_) (fun h103 => ?_)
      ·
        refine z_iconst hx hb dX4_faultsAt_148 ?_
        exact z_iret hx hb hr hlk dX4_faultsAt_149 (show _ = pz (D1 (NU σ k) (NL σ k) b) from (pz_f (by simp only [D1]; omega)).symm)
      ·
        refine lv_iload hx hb dX4_faultsAt_106 (lv_at hl 0 rfl) ?_
        refine z_ifp_eq (P := P7 (iv (NU σ k) (NL σ k) b)) (tgt := 148) hx hb dX4_faultsAt_108 (by decide)  (fun h108 => ?_) (fun h108 => ?_)
        ·
          refine z_iconst hx hb dX4_faultsAt_148 ?_
          exact z_iret hx hb hr hlk dX4_faultsAt_149 (show _ = pz (D1 (NU σ k) (NL σ k) b) from (pz_f (by simp only [D1]; omega)).symm)
        ·
          refine lv_aload_n hx hb dX4_faultsAt_111 rfl (lv_at hl 2 rfl) ?_
          refine lv_iload_n hx hb dX4_faultsAt_112 rfl (lv_at hl 3 rfl) ?_
          refine z_iconst hx hb dX4_faultsAt_113 ?_
          refine lv_iload_n hx hb dX4_faultsAt_114 rfl (lv_at hl 4 rfl) ?_
          refine ro_V (rest := []) (As := [.int (zi (zk)), .int (zi (0)), .int (zi (zb))]) ⟨hx, hb, hml, hown, hts⟩ (c_X4_stays l g ad σ th hW k hk (zk) (by omega) 0 (by decide) (0) rfl (NU σ k) (NV_0 σ k) (b) (by omega) (by omega) (zb) (by omega)) (cwV 3 hts gX4_faultsAt_X4_stays rfl rfl rfl (by decide +kernel) ⟨Nat.le_of_ble_eq_true rfl, Nat.le_of_ble_eq_true rfl⟩) (z_recv hK (hP 0 _ rfl) rfl) hP hK rfl hl.1 rfl (Nat.le_of_ble_eq_true rfl) dX4_faultsAt_115 ⟨Nat.zero_le _, Nat.zero_le _⟩ ?_
          refine z_ifp_ne (P := (NU σ k) (b) = (NU σ k) ((b) - 1)) (tgt := 148) hx hb dX4_faultsAt_118 (by decide)  (fun h118 => ?_) (fun h118 => ?_)
          ·
            refine z_iconst hx hb dX4_faultsAt_148 ?_
            exact z_iret hx hb hr hlk dX4_faultsAt_149 (show _ = pz (D1 (NU σ k) (NL σ k) b) from (pz_f (by simp only [D1]; omega)).symm)
          ·
            refine lv_aload_n hx hb dX4_faultsAt_121 rfl (lv_at hl 2 rfl) ?_
            refine lv_iload_n hx hb dX4_faultsAt_122 rfl (lv_at hl 3 rfl) ?_
            refine z_iconst hx hb dX4_faultsAt_123 ?_
            refine lv_iload_n hx hb dX4_faultsAt_124 rfl (lv_at hl 4 rfl) ?_
            refine ro_V (rest := []) (As := [.int (zi (zk)), .int (zi (1)), .int (zi (zb))]) ⟨hx, hb, hml, hown, hts⟩ (c_X4_stays l g ad σ th hW k hk (zk) (by omega) 1 (by decide) (1) rfl (NL σ k) (NV_1 σ k) (b) (by omega) (by omega) (zb) (by omega)) (cwV 3 hts gX4_faultsAt_X4_stays rfl rfl rfl (by decide +kernel) ⟨Nat.le_of_ble_eq_true rfl, Nat.le_of_ble_eq_true rfl⟩) (z_recv hK (hP 0 _ rfl) rfl) hP hK rfl hl.1 rfl (Nat.le_of_ble_eq_true rfl) dX4_faultsAt_125 ⟨Nat.zero_le _, Nat.zero_le _⟩ ?_
            refine z_ifp_ne (P := (NL σ k) (b) = (NL σ k) ((b) - 1)) (tgt := 148) hx hb dX4_faultsAt_128 (by decide)  (fun h128 => ?_) (fun h128 => ?_)
            ·
              refine z_iconst hx hb dX4_faultsAt_148 ?_
              exact z_iret hx hb hr hlk dX4_faultsAt_149 (show _ = pz (D1 (NU σ k) (NL σ k) b) from (pz_f (by simp only [D1]; omega)).symm)
            ·
              refine lv_aload_n hx hb dX4_faultsAt_131 rfl (lv_at hl 2 rfl) ?_
              refine lv_iload_n hx hb dX4_faultsAt_132 rfl (lv_at hl 3 rfl) ?_
              refine lv_iload_n hx hb dX4_faultsAt_133 rfl (lv_at hl 4 rfl) ?_
              refine z_iconst hx hb dX4_faultsAt_134 ?_
              refine z_isub hx hb dX4_faultsAt_135 ?_
              refine ro_V (rest := []) (As := [.int (zi (zk)), .int (zi ((zb) - (1)))]) ⟨hx, hb, hml, hown, hts⟩ (c_X4_interval l g ad σ th hW k hk (zk) (by omega) (b - 1) (by omega) ((zb) - (1)) (by omega)) (cwV 2 hts gX4_faultsAt_X4_interval rfl rfl rfl (by decide +kernel) ⟨Nat.le_of_ble_eq_true rfl, Nat.le_of_ble_eq_true rfl⟩) (z_recv hK (hP 0 _ rfl) rfl) hP hK rfl hl.1 rfl (Nat.le_of_ble_eq_true rfl) dX4_faultsAt_136 ⟨Nat.zero_le _, Nat.zero_le _⟩ ?_
              refine lv_iload hx hb dX4_faultsAt_139 (lv_at hl 1 rfl) ?_
              refine z_icmp_ne (tgt := 148) hx hb dX4_faultsAt_141 (by decide) (by omega) (by omega) (fun h141 => ?_) (fun h141 => ?_)
              ·
                refine z_iconst hx hb dX4_faultsAt_148 ?_
                exact z_iret hx hb hr hlk dX4_faultsAt_149 (show _ = pz (D1 (NU σ k) (NL σ k) b) from (pz_f (by simp only [D1]; omega)).symm)
              ·
                refine z_iconst hx hb dX4_faultsAt_144 ?_
                refine lv_goto (tgt := 149) hx hb dX4_faultsAt_145 (by decide) ?_
                exact z_iret hx hb hr hlk dX4_faultsAt_149 (show _ = pz (D1 (NU σ k) (NL σ k) b) from (pz_t (by simp only [D1]; omega)).symm)
    by_cases e2 : r = 2
    · subst e2
      refine z_top (b := 2) hzr ?_
      refine lv_tableIn (off := 122) (tgt := 150) hx hb dX4_faultsAt_28 (by decide +kernel) (by decide +kernel) (by decide +kernel) (by decide) ?_
      refine lv_iload_n hx hb dX4_faultsAt_150 rfl (lv_at hl 4 rfl) ?_
      refine z_if_le (tgt := 172) hx hb dX4_faultsAt_151 (by decide) (by omega) (fun h151 => ?_) (fun h151 => ?_)
      ·
        refine z_iconst hx hb dX4_faultsAt_172 ?_
        exact z_iret hx hb hr hlk dX4_faultsAt_173 (show _ = F2 (NU σ k) (NL σ k) b from by unfold F2; rw [if_neg (by omega)])
      ·
        refine lv_aload_n hx hb dX4_faultsAt_154 rfl (lv_at hl 2 rfl) ?_
        refine lv_iload_n hx hb dX4_faultsAt_155 rfl (lv_at hl 3 rfl) ?_
        refine z_iconst hx hb dX4_faultsAt_156 ?_
        refine lv_iload_n hx hb dX4_faultsAt_157 rfl (lv_at hl 4 rfl) ?_
        refine ro_V (rest := []) (As := [.int (zi (zk)), .int (zi (0)), .int (zi (zb))]) ⟨hx, hb, hml, hown, hts⟩ (c_X4_leap l g ad σ th hW k hk (zk) (by omega) 0 (by decide) (0) rfl (NU σ k) (NV_0 σ k) (b) (by omega) (by omega) (zb) (by omega)) (cwV 3 hts gX4_faultsAt_X4_leap rfl rfl rfl (by decide +kernel) ⟨Nat.le_of_ble_eq_true rfl, Nat.le_of_ble_eq_true rfl⟩) (z_recv hK (hP 0 _ rfl) rfl) hP hK rfl hl.1 rfl (Nat.le_of_ble_eq_true rfl) dX4_faultsAt_158 ⟨Nat.zero_le _, Nat.zero_le _⟩ ?_
        refine lv_aload_n hx hb dX4_faultsAt_161 rfl (lv_at hl 2 rfl) ?_
        refine lv_iload_n hx hb dX4_faultsAt_162 rfl (lv_at hl 3 rfl) ?_
        refine z_iconst hx hb dX4_faultsAt_163 ?_
        refine lv_iload_n hx hb dX4_faultsAt_164 rfl (lv_at hl 4 rfl) ?_
        refine ro_V (rest := [.int (zi (pz (9 < dz ((NU σ k) (b)) ((NU σ k) ((b) - 1)))))]) (As := [.int (zi (zk)), .int (zi (1)), .int (zi (zb))]) ⟨hx, hb, hml, hown, hts⟩ (c_X4_leap l g ad σ th hW k hk (zk) (by omega) 1 (by decide) (1) rfl (NL σ k) (NV_1 σ k) (b) (by omega) (by omega) (zb) (by omega)) (cwV 3 hts gX4_faultsAt_X4_leap rfl rfl rfl (by decide +kernel) ⟨Nat.le_of_ble_eq_true rfl, Nat.le_of_ble_eq_true rfl⟩) (z_recv hK (hP 0 _ rfl) rfl) hP hK rfl hl.1 rfl (Nat.le_of_ble_eq_true rfl) dX4_faultsAt_165 ⟨Nat.zero_le _, Nat.zero_le _⟩ ?_
        refine z_iadd hx hb dX4_faultsAt_168 ?_
        refine lv_goto (tgt := 173) hx hb dX4_faultsAt_169 (by decide) ?_
        exact z_iret hx hb hr hlk dX4_faultsAt_173 (show _ = F2 (NU σ k) (NL σ k) b from by unfold F2; rw [if_pos (by omega)])
    by_cases e3 : r = 3
    · subst e3
      refine z_top (b := 3) hzr ?_
      refine lv_tableIn (off := 146) (tgt := 174) hx hb dX4_faultsAt_28 (by decide +kernel) (by decide +kernel) (by decide +kernel) (by decide) ?_
      refine lv_aload_n hx hb dX4_faultsAt_174 rfl (lv_at hl 2 rfl) ?_
      refine z_get (C := RX4) (T := TX4) (N := 14) hx hb hts hiX4 hown hK (hP 0 _ rfl) rfl 5 (by decide) (hts (.fieldLink RX4 23 "HarmoniumDeskModel" "notes" "[I") (by decide +kernel)) rfl rfl dX4_faultsAt_175 ?_
      refine lv_iload_n hx hb dX4_faultsAt_178 rfl (lv_at hl 3 rfl) ?_
      refine z_iconst hx hb dX4_faultsAt_179 ?_
      refine lv_iload_n hx hb dX4_faultsAt_180 rfl (lv_at hl 4 rfl) ?_
      refine ro_S (rest := [.ref (ad 5)]) (As := [.int (zi (zk)), .int (zi (0)), .int (zi (zb))]) ⟨hx, hb, hml, hown, hts⟩ (c_X4_at l g (zk) (0) (zb)) (cwS 3 hts gX4_faultsAt_X4_at rfl rfl rfl (by decide +kernel) ⟨Nat.le_of_ble_eq_true rfl, Nat.le_of_ble_eq_true rfl⟩) trivial hK rfl hl.1 rfl (Nat.le_of_ble_eq_true rfl) dX4_faultsAt_181 ⟨Nat.zero_le _, Nat.zero_le _⟩ ?_
      refine z_iald hx hb hK (hP 5 _ rfl) (24 * k + b) (by omega) (by omega) (by decide) dX4_faultsAt_184 ?_
      refine z_top (b := NU σ k b) (rfl) ?_
      refine lv_aload_n hx hb dX4_faultsAt_185 rfl (lv_at hl 2 rfl) ?_
      refine z_get (C := RX4) (T := TX4) (N := 14) hx hb hts hiX4 hown hK (hP 0 _ rfl) rfl 5 (by decide) (hts (.fieldLink RX4 23 "HarmoniumDeskModel" "notes" "[I") (by decide +kernel)) rfl rfl dX4_faultsAt_186 ?_
      refine lv_iload_n hx hb dX4_faultsAt_189 rfl (lv_at hl 3 rfl) ?_
      refine z_iconst hx hb dX4_faultsAt_190 ?_
      refine lv_iload_n hx hb dX4_faultsAt_191 rfl (lv_at hl 4 rfl) ?_
      refine ro_S (rest := [.ref (ad 5), .int (zi (NU σ k b))]) (As := [.int (zi (zk)), .int (zi (1)), .int (zi (zb))]) ⟨hx, hb, hml, hown, hts⟩ (c_X4_at l g (zk) (1) (zb)) (cwS 3 hts gX4_faultsAt_X4_at rfl rfl rfl (by decide +kernel) ⟨Nat.le_of_ble_eq_true rfl, Nat.le_of_ble_eq_true rfl⟩) trivial hK rfl hl.1 rfl (Nat.le_of_ble_eq_true rfl) dX4_faultsAt_192 ⟨Nat.zero_le _, Nat.zero_le _⟩ ?_
      refine z_iald hx hb hK (hP 5 _ rfl) (24 * k + 12 + b) (by omega) (by omega) (by decide) dX4_faultsAt_195 ?_
      refine z_top (b := NL σ k b) (rfl) ?_
      refine z_icmp_ge (tgt := 203) hx hb dX4_faultsAt_196 (by decide) (by omega) (by omega) (fun h196 => ?_) (fun h196 => ?_)
      ·
        refine z_iconst hx hb dX4_faultsAt_203 ?_
        exact z_iret hx hb hr hlk dX4_faultsAt_204 (show _ = pz (D3 (NU σ k) (NL σ k) b) from (pz_f (by simp only [D3]; omega)).symm)
      ·
        refine z_iconst hx hb dX4_faultsAt_199 ?_
        refine lv_goto (tgt := 204) hx hb dX4_faultsAt_200 (by decide) ?_
        exact z_iret hx hb hr hlk dX4_faultsAt_204 (show _ = pz (D3 (NU σ k) (NL σ k) b) from (pz_t (by simp only [D3]; omega)).symm)
    by_cases e4 : r = 4
    · subst e4
      refine z_top (b := 4) hzr ?_
      refine lv_tableIn (off := 177) (tgt := 205) hx hb dX4_faultsAt_28 (by decide +kernel) (by decide +kernel) (by decide +kernel) (by decide) ?_
      refine lv_iload hx hb dX4_faultsAt_205 (lv_at hl 0 rfl) ?_
      refine z_ifp_eq (P := P7 (iv (NU σ k) (NL σ k) b)) (tgt := 214) hx hb dX4_faultsAt_207 (by decide)  (fun h207 => ?_) (fun h207 => ?_)
      ·
        refine lv_iload_n hx hb dX4_faultsAt_214 rfl (lv_at hl 4 rfl) ?_
        refine z_if_ne (tgt := 222) hx hb dX4_faultsAt_215 (by decide) (by omega) (fun h215 => ?_) (fun h215 => ?_)
        ·
          refine z_iconst hx hb dX4_faultsAt_222 ?_
          refine lv_iload_n hx hb dX4_faultsAt_223 rfl (lv_at hl 4 rfl) ?_
          refine lv_aload_n hx hb dX4_faultsAt_224 rfl (lv_at hl 2 rfl) ?_
          refine z_get (C := RX4) (T := TX4) (N := 14) hx hb hts hiX4 hown hK (hP 0 _ rfl) rfl 1 (by decide) (hts (.fieldLink RX4 7 "HarmoniumDeskModel" "bars" "[I") (by decide +kernel)) rfl rfl dX4_faultsAt_225 ?_
          refine lv_iload_n hx hb dX4_faultsAt_228 rfl (lv_at hl 3 rfl) ?_
          refine z_iald hx hb hK (hP 1 _ rfl) (k) (by omega) (by omega) (by decide) dX4_faultsAt_229 ?_
          refine z_iconst hx hb dX4_faultsAt_230 ?_
          refine z_isub hx hb dX4_faultsAt_231 ?_
          refine z_icmp_ne (tgt := 239) hx hb dX4_faultsAt_232 (by decide) (by omega) (by omega) (fun h232 => ?_) (fun h232 => ?_)
          ·
            refine z_iconst hx hb dX4_faultsAt_239 ?_
            refine z_iadd hx hb dX4_faultsAt_240 ?_
            exact z_iret hx hb hr hlk dX4_faultsAt_241 (show _ = F4 (σ 1 k).toNat (NU σ k) (NL σ k) b from by unfold F4; rw [if_neg (by assumption), pz_f (by omega), pz_f (by omega)])
          ·
            refine z_iconst hx hb dX4_faultsAt_235 ?_
            refine lv_goto (tgt := 240) hx hb dX4_faultsAt_236 (by decide) ?_
            refine z_iadd hx hb dX4_faultsAt_240 ?_
            exact z_iret hx hb hr hlk dX4_faultsAt_241 (show _ = F4 (σ 1 k).toNat (NU σ k) (NL σ k) b from by unfold F4; rw [if_neg (by assumption), pz_f (by omega), pz_t (by omega)])
        ·
          refine z_iconst hx hb dX4_faultsAt_218 ?_
          refine lv_goto (tgt := 223) hx hb dX4_faultsAt_219 (by decide) ?_
          refine lv_iload_n hx hb dX4_faultsAt_223 rfl (lv_at hl 4 rfl) ?_
          refine lv_aload_n hx hb dX4_faultsAt_224 rfl (lv_at hl 2 rfl) ?_
          refine z_get (C := RX4) (T := TX4) (N := 14) hx hb hts hiX4 hown hK (hP 0 _ rfl) rfl 1 (by decide) (hts (.fieldLink RX4 7 "HarmoniumDeskModel" "bars" "[I") (by decide +kernel)) rfl rfl dX4_faultsAt_225 ?_
          refine lv_iload_n hx hb dX4_faultsAt_228 rfl (lv_at hl 3 rfl) ?_
          refine z_iald hx hb hK (hP 1 _ rfl) (k) (by omega) (by omega) (by decide) dX4_faultsAt_229 ?_
          refine z_iconst hx hb dX4_faultsAt_230 ?_
          refine z_isub hx hb dX4_faultsAt_231 ?_
          refine z_icmp_ne (tgt := 239) hx hb dX4_faultsAt_232 (by decide) (by omega) (by omega) (fun h232 => ?_) (fun h232 => ?_)
          ·
            refine z_iconst hx hb dX4_faultsAt_239 ?_
            refine z_iadd hx hb dX4_faultsAt_240 ?_
            exact z_iret hx hb hr hlk dX4_faultsAt_241 (show _ = F4 (σ 1 k).toNat (NU σ k) (NL σ k) b from by unfold F4; rw [if_neg (by assumption), pz_t (by omega), pz_f (by omega)])
          ·
            refine z_iconst hx hb dX4_faultsAt_235 ?_
            refine lv_goto (tgt := 240) hx hb dX4_faultsAt_236 (by decide) ?_
            refine z_iadd hx hb dX4_faultsAt_240 ?_
            exact z_iret hx hb hr hlk dX4_faultsAt_241 (show _ = F4 (σ 1 k).toNat (NU σ k) (NL σ k) b from by unfold F4; rw [if_neg (by assumption), pz_t (by omega), pz_t (by omega)])
      ·
        refine z_iconst hx hb dX4_faultsAt_210 ?_
        refine lv_goto (tgt := 241) hx hb dX4_faultsAt_211 (by decide) ?_
        exact z_iret hx hb hr hlk dX4_faultsAt_241 (show _ = F4 (σ 1 k).toNat (NU σ k) (NL σ k) b from by unfold F4; rw [if_pos (by assumption)])
    by_cases e5 : r = 5
    · subst e5
      refine z_top (b := 5) hzr ?_
      refine lv_tableOut (tgt := 242) hx hb dX4_faultsAt_28 (by decide +kernel) (by decide) ?_
      have z3 : b - 1 - 1 = b - 2 := by omega
      refine lv_iload_n hx hb dX4_faultsAt_242 rfl (lv_at hl 4 rfl) ?_
      refine z_iconst hx hb dX4_faultsAt_243 ?_
      refine z_icmp_le (tgt := 273) hx hb dX4_faultsAt_244 (by decide) (by omega) (by omega) (fun h244 => ?_) (fun h244 => ?_)
      ·
        refine z_iconst hx hb dX4_faultsAt_273 ?_
        exact z_iret hx hb hr hlk dX4_faultsAt_274 (show _ = pz (D5 (NU σ k) b) from (pz_f (by simp only [D5]; omega)).symm)
      ·
        refine lv_aload_n hx hb dX4_faultsAt_247 rfl (lv_at hl 2 rfl) ?_
        refine lv_iload_n hx hb dX4_faultsAt_248 rfl (lv_at hl 3 rfl) ?_
        refine z_iconst hx hb dX4_faultsAt_249 ?_
        refine lv_iload_n hx hb dX4_faultsAt_250 rfl (lv_at hl 4 rfl) ?_
        refine ro_V (rest := []) (As := [.int (zi (zk)), .int (zi (0)), .int (zi (zb))]) ⟨hx, hb, hml, hown, hts⟩ (c_X4_stays l g ad σ th hW k hk (zk) (by omega) 0 (by decide) (0) rfl (NU σ k) (NV_0 σ k) (b) (by omega) (by omega) (zb) (by omega)) (cwV 3 hts gX4_faultsAt_X4_stays rfl rfl rfl (by decide +kernel) ⟨Nat.le_of_ble_eq_true rfl, Nat.le_of_ble_eq_true rfl⟩) (z_recv hK (hP 0 _ rfl) rfl) hP hK rfl hl.1 rfl (Nat.le_of_ble_eq_true rfl) dX4_faultsAt_251 ⟨Nat.zero_le _, Nat.zero_le _⟩ ?_
        refine z_ifp_eq (P := (NU σ k) (b) = (NU σ k) ((b) - 1)) (tgt := 273) hx hb dX4_faultsAt_254 (by decide)  (fun h254 => ?_) (fun h254 => ?_)
        ·
          refine z_iconst hx hb dX4_faultsAt_273 ?_
          exact z_iret hx hb hr hlk dX4_faultsAt_274 (show _ = pz (D5 (NU σ k) b) from (pz_f (by simp only [D5]; omega)).symm)
        ·
          refine lv_aload_n hx hb dX4_faultsAt_257 rfl (lv_at hl 2 rfl) ?_
          refine lv_iload_n hx hb dX4_faultsAt_258 rfl (lv_at hl 3 rfl) ?_
          refine z_iconst hx hb dX4_faultsAt_259 ?_
          refine lv_iload_n hx hb dX4_faultsAt_260 rfl (lv_at hl 4 rfl) ?_
          refine z_iconst hx hb dX4_faultsAt_261 ?_
          refine z_isub hx hb dX4_faultsAt_262 ?_
          refine ro_V (rest := []) (As := [.int (zi (zk)), .int (zi (0)), .int (zi ((zb) - (1)))]) ⟨hx, hb, hml, hown, hts⟩ (c_X4_stays l g ad σ th hW k hk (zk) (by omega) 0 (by decide) (0) rfl (NU σ k) (NV_0 σ k) (b - 1) (by omega) (by omega) ((zb) - (1)) (by omega)) (cwV 3 hts gX4_faultsAt_X4_stays rfl rfl rfl (by decide +kernel) ⟨Nat.le_of_ble_eq_true rfl, Nat.le_of_ble_eq_true rfl⟩) (z_recv hK (hP 0 _ rfl) rfl) hP hK rfl hl.1 rfl (Nat.le_of_ble_eq_true rfl) dX4_faultsAt_263 ⟨Nat.zero_le _, Nat.zero_le _⟩ ?_
          refine z_top (b := pz (NU σ k (b - 1) = NU σ k (b - 2))) (by rw [z3]) ?_
          refine z_ifp_eq (P := NU σ k (b - 1) = NU σ k (b - 2)) (tgt := 273) hx hb dX4_faultsAt_266 (by decide)  (fun h266 => ?_) (fun h266 => ?_)
          ·
            refine z_iconst hx hb dX4_faultsAt_273 ?_
            exact z_iret hx hb hr hlk dX4_faultsAt_274 (show _ = pz (D5 (NU σ k) b) from (pz_f (by simp only [D5]; omega)).symm)
          ·
            refine z_iconst hx hb dX4_faultsAt_269 ?_
            refine lv_goto (tgt := 274) hx hb dX4_faultsAt_270 (by decide) ?_
            exact z_iret hx hb hr hlk dX4_faultsAt_274 (show _ = pz (D5 (NU σ k) b) from (pz_t (by simp only [D5]; omega)).symm)
    exact absurd hr6 (by omega)
  refine lv_iload hx hb dX4_faultsAt_8 (lv_at hl 0 rfl) ?_
  refine z_if_eq (tgt := 20) hx hb dX4_faultsAt_10 (by decide) (by omega) (fun h10 => ?_) (fun h10 => ?_)
  ·
    refine z_iconst hx hb dX4_faultsAt_20 ?_
    refine lv_goto (tgt := 25) hx hb dX4_faultsAt_21 (by decide) ?_
    refine z_top (b := pz (P7 (iv (NU σ k) (NL σ k) b))) ((pz_t (by simp only [P7]; omega)).symm) ?_
    exact J25 ls (lv_sub hl [0, 1, 2, 3, 4] rfl)
  ·
    refine lv_iload hx hb dX4_faultsAt_13 (lv_at hl 0 rfl) ?_
    refine z_bipush hx hb dX4_faultsAt_15 (by decide) ?_
    refine z_icmp_ne (tgt := 24) hx hb dX4_faultsAt_17 (by decide) (by omega) (by omega) (fun h17 => ?_) (fun h17 => ?_)
    ·
      refine z_iconst hx hb dX4_faultsAt_24 ?_
      refine z_top (b := pz (P7 (iv (NU σ k) (NL σ k) b))) ((pz_f (by simp only [P7]; omega)).symm) ?_
      exact J25 ls (lv_sub hl [0, 1, 2, 3, 4] rfl)
    ·
      refine z_iconst hx hb dX4_faultsAt_20 ?_
      refine lv_goto (tgt := 25) hx hb dX4_faultsAt_21 (by decide) ?_
      refine z_top (b := pz (P7 (iv (NU σ k) (NL σ k) b))) ((pz_t (by simp only [P7]; omega)).symm) ?_
      exact J25 ls (lv_sub hl [0, 1, 2, 3, 4] rfl)

set_option maxHeartbeats 4000000 in
set_option maxRecDepth 100000 in
theorem c_X4_costs (l : Launch) (g : gG) (ad : Nat → Nat) (σ : SG) (th : Int) (hW : WF σ) (k : Nat) (hk : (k : Int) < σ 0 0) (zk : Int) (hzk : zk = (k : Int)) : RO l yX4_costs wsX4_costs ({ frames := 3, cells := 0, slots := 0, locals := 70 }) g [.ref (ad 0), .int (zi (zk))] (MP g ad σ th) (CS σ k) := by
  refine RO.ofW (cc := cX4_costs) (maxL := 4) (ret := (some .int)) (by decide) rfl (Nat.le_of_ble_eq_true rfl) ?_
  intro p e s m below meth c ls hx hb hr hml hown hts hlk hP hK hl
  have hown : s.vm.findClass RX4 = some m.cls := hown
  have hl : lv_has ls 4 [(0, .ref (ad 0)), (1, .int (zi (zk)))] := hl
  have hiX4 : ∀ w ∈ u_ws RX4 TX4 14, w ∈ wsX4_costs := by decide +kernel
  have hn := hW.n
  have hbk := hW.bars hk
  refine z_iconst hx hb dX4_costs_0 ?_
  refine lv_istore_n (lv' := [(2, .int (zi (0))), (0, .ref (ad 0)), (1, .int (zi (zk)))]) hx hb dX4_costs_1 rfl hl (by decide) rfl (fun ls hl => ?_)
  refine z_iconst hx hb dX4_costs_2 ?_
  refine lv_istore_n (lv' := [(3, .int (zi (0))), (2, .int (zi (0))), (0, .ref (ad 0)), (1, .int (zi (zk)))]) hx hb dX4_costs_3 rfl hl (by decide) rfl (fun ls hl => ?_)
  have cb := cs_r hW.wt (σ 1 k).toNat (NU σ k) (NL σ k)
  have loop : ∀ (d j : Nat), (j : Int) ≤ 6 * σ 1 k → 6 * (σ 1 k).toNat - j = d → ∀ ls : Array Slot, lv_has ls 4 [(3, .int (zi ((j : Int)))), (2, .int (zi (cs (σ 6) (σ 1 k).toNat (NU σ k) (NL σ k) j))), (0, .ref (ad 0)), (1, .int (zi (zk)))] → W p l e ({ frames := 3, cells := 0, slots := 0, locals := 70 }) s m ([.ref (ad 0), .int (zi (zk))] : List Value).toArray below meth c s.heap [] 0 0 (MQ below (vp_Si (fun z9 => z9 = zi (CS σ k))) ([.ref (ad 0), .int (zi (zk))] : List Value).toArray s 0 0 (fun _ => False)) (F0 m 4 ls []) := by
    intro d
    induction d with
    | zero =>
      intro j hjn hd ls hl
      refine lv_iload_n hx hb dX4_costs_4 rfl (lv_at hl 0 rfl) ?_
      refine lv_aload_n hx hb dX4_costs_5 rfl (lv_at hl 2 rfl) ?_
      refine z_get (C := RX4) (T := TX4) (N := 14) hx hb hts hiX4 hown hK (hP 0 _ rfl) rfl 1 (by decide) (hts (.fieldLink RX4 7 "HarmoniumDeskModel" "bars" "[I") (by decide +kernel)) rfl rfl dX4_costs_6 ?_
      refine lv_iload_n hx hb dX4_costs_9 rfl (lv_at hl 3 rfl) ?_
      refine z_iald hx hb hK (hP 1 _ rfl) (k) (by omega) (by omega) (by decide) dX4_costs_10 ?_
      refine z_bipush hx hb dX4_costs_11 (by decide) ?_
      refine z_imul hx hb dX4_costs_13 ?_
      refine z_icmp_ge (tgt := 49) hx hb dX4_costs_14 (by decide) (by omega) (by omega) (fun h14 => ?_) (fun h14 => ?_)
      ·
        refine lv_iload_n hx hb dX4_costs_49 rfl (lv_at hl 1 rfl) ?_
        exact z_iret hx hb hr hlk dX4_costs_50 (by unfold CS; rw [show j = 6 * (σ 1 k).toNat by omega])
      · exfalso; omega
    | succ d ih =>
      intro j hjn hd ls hl
      have c1 := cb j
      have c2 := hW.wt (j % 6)
      have c3 := ft_r (j % 6) (σ 1 k).toNat (NU σ k) (NL σ k) (j / 6)
      refine lv_iload_n hx hb dX4_costs_4 rfl (lv_at hl 0 rfl) ?_
      refine lv_aload_n hx hb dX4_costs_5 rfl (lv_at hl 2 rfl) ?_
      refine z_get (C := RX4) (T := TX4) (N := 14) hx hb hts hiX4 hown hK (hP 0 _ rfl) rfl 1 (by decide) (hts (.fieldLink RX4 7 "HarmoniumDeskModel" "bars" "[I") (by decide +kernel)) rfl rfl dX4_costs_6 ?_
      refine lv_iload_n hx hb dX4_costs_9 rfl (lv_at hl 3 rfl) ?_
      refine z_iald hx hb hK (hP 1 _ rfl) (k) (by omega) (by omega) (by decide) dX4_costs_10 ?_
      refine z_bipush hx hb dX4_costs_11 (by decide) ?_
      refine z_imul hx hb dX4_costs_13 ?_
      refine z_icmp_ge (tgt := 49) hx hb dX4_costs_14 (by decide) (by omega) (by omega) (fun h14 => ?_) (fun h14 => ?_)
      · exfalso; omega
      ·
        refine lv_iload_n hx hb dX4_costs_17 rfl (lv_at hl 1 rfl) ?_
        refine lv_aload_n hx hb dX4_costs_18 rfl (lv_at hl 2 rfl) ?_
        refine z_get (C := RX4) (T := TX4) (N := 14) hx hb hts hiX4 hown hK (hP 0 _ rfl) rfl 6 (by decide) (hts (.fieldLink RX4 26 "HarmoniumDeskModel" "weight" "[I") (by decide +kernel)) rfl rfl dX4_costs_19 ?_
        refine lv_iload_n hx hb dX4_costs_22 rfl (lv_at hl 0 rfl) ?_
        refine z_bipush hx hb dX4_costs_23 (by decide) ?_
        refine z_irem hx hb (by omega) (by omega) (by omega) (by omega) dX4_costs_25 ?_
        refine z_iald hx hb hK (hP 6 _ rfl) (j % 6) (by omega) (by omega) (by decide) dX4_costs_26 ?_
        refine lv_aload_n hx hb dX4_costs_27 rfl (lv_at hl 2 rfl) ?_
        refine lv_iload_n hx hb dX4_costs_28 rfl (lv_at hl 3 rfl) ?_
        refine lv_iload_n hx hb dX4_costs_29 rfl (lv_at hl 0 rfl) ?_
        refine z_bipush hx hb dX4_costs_30 (by decide) ?_
        refine z_idiv hx hb (by omega) (by omega) (by omega) (by omega) dX4_costs_32 ?_
        refine lv_iload_n hx hb dX4_costs_33 rfl (lv_at hl 0 rfl) ?_
        refine z_bipush hx hb dX4_costs_34 (by decide) ?_
        refine z_irem hx hb (by omega) (by omega) (by omega) (by omega) dX4_costs_36 ?_
        refine ro_V (rest := [.int (zi (σ 6 (j % 6))), .int (zi (cs (σ 6) (σ 1 k).toNat (NU σ k) (NL σ k) j))]) (As := [.int (zi (zk)), .int (zi (((j : Int)) / (6))), .int (zi (((j : Int)) % (6)))]) ⟨hx, hb, hml, hown, hts⟩ (c_X4_faultsAt l g ad σ th hW k hk (zk) (by omega) (j / 6) (by omega) (((j : Int)) / (6)) (by omega) (j % 6) (by omega) (((j : Int)) % (6)) (by omega)) (cwV 3 hts gX4_costs_X4_faultsAt rfl rfl rfl (by decide +kernel) ⟨Nat.le_of_ble_eq_true rfl, Nat.le_of_ble_eq_true rfl⟩) (z_recv hK (hP 0 _ rfl) rfl) hP hK rfl hl.1 rfl (Nat.le_of_ble_eq_true rfl) dX4_costs_37 ⟨Nat.zero_le _, Nat.zero_le _⟩ ?_
        refine z_imul hx hb dX4_costs_40 ?_
        refine z_iadd hx hb dX4_costs_41 ?_
        refine z_top (b := cs (σ 6) (σ 1 k).toNat (NU σ k) (NL σ k) (j + 1)) (rfl) ?_
        refine lv_istore_n (lv' := [(2, .int (zi (cs (σ 6) (σ 1 k).toNat (NU σ k) (NL σ k) (j + 1)))), (3, .int (zi ((j : Int)))), (0, .ref (ad 0)), (1, .int (zi (zk)))]) hx hb dX4_costs_42 rfl hl (by decide) rfl (fun ls hl => ?_)
        refine z_iinc (b := ((j + 1 : Nat) : Int)) (lv' := [(3, .int (zi (((j + 1 : Nat) : Int)))), (2, .int (zi (cs (σ 6) (σ 1 k).toNat (NU σ k) (NL σ k) (j + 1)))), (0, .ref (ad 0)), (1, .int (zi (zk)))]) hx hb dX4_costs_43 hl (k := 1) rfl (by omega) (by decide) rfl (fun ls hl => ?_)
        refine lv_goto (tgt := 4) hx hb dX4_costs_46 (by decide) ?_
        exact ih (j + 1) (by omega) (by omega) ls (lv_sub hl [0, 1, 2, 3] rfl)
  exact loop _ 0 (by omega) rfl ls (lv_sub hl [0, 1, 2, 3] rfl)

set_option maxHeartbeats 4000000 in
set_option maxRecDepth 100000 in
theorem c_X4_markOf (l : Launch) (g : gG) (ad : Nat → Nat) (σ : SG) (th : Int) (hW : WF σ) (k : Nat) (hk : (k : Int) < σ 0 0) (zk : Int) (hzk : zk = (k : Int)) : RO l yX4_markOf wsX4_markOf ({ frames := 4, cells := 0, slots := 0, locals := 93 }) g [.ref (ad 0), .int (zi (zk))] (MP g ad σ th) (MK σ k) := by
  refine RO.ofW (cc := cX4_markOf) (maxL := 2) (ret := (some .int)) (by decide) rfl (Nat.le_of_ble_eq_true rfl) ?_
  intro p e s m below meth c ls hx hb hr hml hown hts hlk hP hK hl
  have hown : s.vm.findClass RX4 = some m.cls := hown
  have hl : lv_has ls 2 [(0, .ref (ad 0)), (1, .int (zi (zk)))] := hl
  have hn := hW.n
  have hc := CS_r hW hk
  refine lv_aload_n hx hb dX4_markOf_0 rfl (lv_at hl 0 rfl) ?_
  refine lv_iload_n hx hb dX4_markOf_1 rfl (lv_at hl 1 rfl) ?_
  refine ro_V (rest := []) (As := [.int (zi (zk))]) ⟨hx, hb, hml, hown, hts⟩ (c_X4_costs l g ad σ th hW k hk (zk) (by omega)) (cwV 1 hts gX4_markOf_X4_costs rfl rfl rfl (by decide +kernel) ⟨Nat.le_of_ble_eq_true rfl, Nat.le_of_ble_eq_true rfl⟩) (z_recv hK (hP 0 _ rfl) rfl) hP hK rfl hl.1 rfl (Nat.le_of_ble_eq_true rfl) dX4_markOf_2 ⟨Nat.zero_le _, Nat.zero_le _⟩ ?_
  refine z_bipush hx hb dX4_markOf_5 (by decide) ?_
  refine z_icmp_le (tgt := 14) hx hb dX4_markOf_7 (by decide) (by omega) (by omega) (fun h7 => ?_) (fun h7 => ?_)
  ·
    refine z_bipush hx hb dX4_markOf_14 (by decide) ?_
    refine lv_aload_n hx hb dX4_markOf_16 rfl (lv_at hl 0 rfl) ?_
    refine lv_iload_n hx hb dX4_markOf_17 rfl (lv_at hl 1 rfl) ?_
    refine ro_V (rest := [.int (zi (100))]) (As := [.int (zi (zk))]) ⟨hx, hb, hml, hown, hts⟩ (c_X4_costs l g ad σ th hW k hk (zk) (by omega)) (cwV 1 hts gX4_markOf_X4_costs rfl rfl rfl (by decide +kernel) ⟨Nat.le_of_ble_eq_true rfl, Nat.le_of_ble_eq_true rfl⟩) (z_recv hK (hP 0 _ rfl) rfl) hP hK rfl hl.1 rfl (Nat.le_of_ble_eq_true rfl) dX4_markOf_18 ⟨Nat.zero_le _, Nat.zero_le _⟩ ?_
    refine z_isub hx hb dX4_markOf_21 ?_
    exact z_iret hx hb hr hlk dX4_markOf_22 (by unfold MK; split <;> omega)
  ·
    refine z_iconst hx hb dX4_markOf_10 ?_
    refine lv_goto (tgt := 22) hx hb dX4_markOf_11 (by decide) ?_
    exact z_iret hx hb hr hlk dX4_markOf_22 (by unfold MK; split <;> omega)

set_option maxHeartbeats 4000000 in
set_option maxRecDepth 100000 in
theorem c_X4_areAlike (l : Launch) (g : gG) (ad : Nat → Nat) (σ : SG) (th : Int) (hW : WF σ) (i : Nat) (hi : (i : Int) < σ 0 0) (zi1 : Int) (hzi : zi1 = (i : Int)) (j : Nat) (hj : (j : Int) < σ 0 0) (zj : Int) (hzj : zj = (j : Int)) (b : Nat) (hb12 : b < 12) (zb : Int) (hzb : zb = (b : Int)) : RO l yX4_areAlike wsX4_areAlike ({ frames := 1, cells := 0, slots := 0, locals := 22 }) g [.ref (ad 0), .int (zi (zi1)), .int (zi (zj)), .int (zi (zb))] (MP g ad σ th) (pz (Al σ i j b)) := by
  refine RO.ofW (cc := cX4_areAlike) (maxL := 4) (ret := (some .boolean)) (by decide) rfl (Nat.le_of_ble_eq_true rfl) ?_
  intro p e s m below meth c ls hx hb hr hml hown hts hlk hP hK hl
  have hown : s.vm.findClass RX4 = some m.cls := hown
  have hl : lv_has ls 4 [(0, .ref (ad 0)), (1, .int (zi (zi1))), (2, .int (zi (zj))), (3, .int (zi (zb)))] := hl
  have hiX4 : ∀ w ∈ u_ws RX4 TX4 14, w ∈ wsX4_areAlike := by decide +kernel
  have hn := hW.n
  have h1 := hW.u i b
  have h2 := hW.lo i b
  have h3 := hW.u j b
  have h4 := hW.lo j b
  refine lv_aload_n hx hb dX4_areAlike_0 rfl (lv_at hl 0 rfl) ?_
  refine z_get (C := RX4) (T := TX4) (N := 14) hx hb hts hiX4 hown hK (hP 0 _ rfl) rfl 5 (by decide) (hts (.fieldLink RX4 23 "HarmoniumDeskModel" "notes" "[I") (by decide +kernel)) rfl rfl dX4_areAlike_1 ?_
  refine lv_iload_n hx hb dX4_areAlike_4 rfl (lv_at hl 1 rfl) ?_
  refine z_iconst hx hb dX4_areAlike_5 ?_
  refine lv_iload_n hx hb dX4_areAlike_6 rfl (lv_at hl 3 rfl) ?_
  refine ro_S (rest := [.ref (ad 5)]) (As := [.int (zi (zi1)), .int (zi (0)), .int (zi (zb))]) ⟨hx, hb, hml, hown, hts⟩ (c_X4_at l g (zi1) (0) (zb)) (cwS 3 hts gX4_areAlike_X4_at rfl rfl rfl (by decide +kernel) ⟨Nat.le_of_ble_eq_true rfl, Nat.le_of_ble_eq_true rfl⟩) trivial hK rfl hl.1 rfl (Nat.le_of_ble_eq_true rfl) dX4_areAlike_7 ⟨Nat.zero_le _, Nat.zero_le _⟩ ?_
  refine z_iald hx hb hK (hP 5 _ rfl) (24 * i + b) (by omega) (by omega) (by decide) dX4_areAlike_10 ?_
  refine z_top (b := NU σ i b) (rfl) ?_
  refine lv_aload_n hx hb dX4_areAlike_11 rfl (lv_at hl 0 rfl) ?_
  refine z_get (C := RX4) (T := TX4) (N := 14) hx hb hts hiX4 hown hK (hP 0 _ rfl) rfl 5 (by decide) (hts (.fieldLink RX4 23 "HarmoniumDeskModel" "notes" "[I") (by decide +kernel)) rfl rfl dX4_areAlike_12 ?_
  refine lv_iload_n hx hb dX4_areAlike_15 rfl (lv_at hl 2 rfl) ?_
  refine z_iconst hx hb dX4_areAlike_16 ?_
  refine lv_iload_n hx hb dX4_areAlike_17 rfl (lv_at hl 3 rfl) ?_
  refine ro_S (rest := [.ref (ad 5), .int (zi (NU σ i b))]) (As := [.int (zi (zj)), .int (zi (0)), .int (zi (zb))]) ⟨hx, hb, hml, hown, hts⟩ (c_X4_at l g (zj) (0) (zb)) (cwS 3 hts gX4_areAlike_X4_at rfl rfl rfl (by decide +kernel) ⟨Nat.le_of_ble_eq_true rfl, Nat.le_of_ble_eq_true rfl⟩) trivial hK rfl hl.1 rfl (Nat.le_of_ble_eq_true rfl) dX4_areAlike_18 ⟨Nat.zero_le _, Nat.zero_le _⟩ ?_
  refine z_iald hx hb hK (hP 5 _ rfl) (24 * j + b) (by omega) (by omega) (by decide) dX4_areAlike_21 ?_
  refine z_top (b := NU σ j b) (rfl) ?_
  refine z_icmp_ne (tgt := 54) hx hb dX4_areAlike_22 (by decide) (by omega) (by omega) (fun h22 => ?_) (fun h22 => ?_)
  ·
    refine z_iconst hx hb dX4_areAlike_54 ?_
    exact z_zret hx hb hr hlk dX4_areAlike_55 (by omega) ((pz_f (by simp only [Al]; omega)).symm)
  ·
    refine lv_aload_n hx hb dX4_areAlike_25 rfl (lv_at hl 0 rfl) ?_
    refine z_get (C := RX4) (T := TX4) (N := 14) hx hb hts hiX4 hown hK (hP 0 _ rfl) rfl 5 (by decide) (hts (.fieldLink RX4 23 "HarmoniumDeskModel" "notes" "[I") (by decide +kernel)) rfl rfl dX4_areAlike_26 ?_
    refine lv_iload_n hx hb dX4_areAlike_29 rfl (lv_at hl 1 rfl) ?_
    refine z_iconst hx hb dX4_areAlike_30 ?_
    refine lv_iload_n hx hb dX4_areAlike_31 rfl (lv_at hl 3 rfl) ?_
    refine ro_S (rest := [.ref (ad 5)]) (As := [.int (zi (zi1)), .int (zi (1)), .int (zi (zb))]) ⟨hx, hb, hml, hown, hts⟩ (c_X4_at l g (zi1) (1) (zb)) (cwS 3 hts gX4_areAlike_X4_at rfl rfl rfl (by decide +kernel) ⟨Nat.le_of_ble_eq_true rfl, Nat.le_of_ble_eq_true rfl⟩) trivial hK rfl hl.1 rfl (Nat.le_of_ble_eq_true rfl) dX4_areAlike_32 ⟨Nat.zero_le _, Nat.zero_le _⟩ ?_
    refine z_iald hx hb hK (hP 5 _ rfl) (24 * i + 12 + b) (by omega) (by omega) (by decide) dX4_areAlike_35 ?_
    refine z_top (b := NL σ i b) (rfl) ?_
    refine lv_aload_n hx hb dX4_areAlike_36 rfl (lv_at hl 0 rfl) ?_
    refine z_get (C := RX4) (T := TX4) (N := 14) hx hb hts hiX4 hown hK (hP 0 _ rfl) rfl 5 (by decide) (hts (.fieldLink RX4 23 "HarmoniumDeskModel" "notes" "[I") (by decide +kernel)) rfl rfl dX4_areAlike_37 ?_
    refine lv_iload_n hx hb dX4_areAlike_40 rfl (lv_at hl 2 rfl) ?_
    refine z_iconst hx hb dX4_areAlike_41 ?_
    refine lv_iload_n hx hb dX4_areAlike_42 rfl (lv_at hl 3 rfl) ?_
    refine ro_S (rest := [.ref (ad 5), .int (zi (NL σ i b))]) (As := [.int (zi (zj)), .int (zi (1)), .int (zi (zb))]) ⟨hx, hb, hml, hown, hts⟩ (c_X4_at l g (zj) (1) (zb)) (cwS 3 hts gX4_areAlike_X4_at rfl rfl rfl (by decide +kernel) ⟨Nat.le_of_ble_eq_true rfl, Nat.le_of_ble_eq_true rfl⟩) trivial hK rfl hl.1 rfl (Nat.le_of_ble_eq_true rfl) dX4_areAlike_43 ⟨Nat.zero_le _, Nat.zero_le _⟩ ?_
    refine z_iald hx hb hK (hP 5 _ rfl) (24 * j + 12 + b) (by omega) (by omega) (by decide) dX4_areAlike_46 ?_
    refine z_top (b := NL σ j b) (rfl) ?_
    refine z_icmp_ne (tgt := 54) hx hb dX4_areAlike_47 (by decide) (by omega) (by omega) (fun h47 => ?_) (fun h47 => ?_)
    ·
      refine z_iconst hx hb dX4_areAlike_54 ?_
      exact z_zret hx hb hr hlk dX4_areAlike_55 (by omega) ((pz_f (by simp only [Al]; omega)).symm)
    ·
      refine z_iconst hx hb dX4_areAlike_50 ?_
      refine lv_goto (tgt := 55) hx hb dX4_areAlike_51 (by decide) ?_
      exact z_zret hx hb hr hlk dX4_areAlike_55 (by omega) ((pz_t (by simp only [Al]; omega)).symm)

set_option maxHeartbeats 4000000 in
set_option maxRecDepth 100000 in
theorem c_X4_isAncestor (l : Launch) (g : gG) (ad : Nat → Nat) (σ : SG) (th : Int) (hW : WF σ) (x o : Int) (hx0 : zr x) (ho : -1 ≤ o ∧ o < σ 0 0) : RO l yX4_isAncestor wsX4_isAncestor ({ frames := 0, cells := 0, slots := 0, locals := 0 }) g [.ref (ad 0), .int (zi (x)), .int (zi (o))] (MP g ad σ th) (pz (An (σ 2) x o = true)) := by
  refine RO.ofW (cc := cX4_isAncestor) (maxL := 5) (ret := (some .boolean)) (by decide) rfl (Nat.le_of_ble_eq_true rfl) ?_
  intro p e s m below meth c ls hx hb hr hml hown hts hlk hP hK hl
  have hown : s.vm.findClass RX4 = some m.cls := hown
  have hl : lv_has ls 5 [(0, .ref (ad 0)), (1, .int (zi (x))), (2, .int (zi (o)))] := hl
  have hiX4 : ∀ w ∈ u_ws RX4 TX4 14, w ∈ wsX4_isAncestor := by decide +kernel
  have hn := hW.n
  refine z_iconst hx hb dX4_isAncestor_0 ?_
  refine z_top (b := pz (false = true)) (rfl) ?_
  refine lv_istore_n (lv' := [(3, .int (zi (pz (false = true)))), (0, .ref (ad 0)), (1, .int (zi (x))), (2, .int (zi (o)))]) hx hb dX4_isAncestor_1 rfl hl (by decide) rfl (fun ls hl => ?_)
  refine lv_iload_n hx hb dX4_isAncestor_2 rfl (lv_at hl 3 rfl) ?_
  refine lv_istore (lv' := [(4, .int (zi (o))), (3, .int (zi (pz (false = true)))), (0, .ref (ad 0)), (1, .int (zi (x))), (2, .int (zi (o)))]) hx hb dX4_isAncestor_3 hl (by decide) rfl (fun ls hl => ?_)
  have hp : ∀ j : Nat, (j : Int) < σ 0 0 → σ 2 j < j := fun j hj => by have := hW.par hj; omega
  have loop : ∀ (d : Nat) (k : Int) (B : Bool), -1 ≤ k → k < d → k < σ 0 0 → (B || An (σ 2) x k) = An (σ 2) x o → ∀ ls : Array Slot, lv_has ls 5 [(4, .int (zi (k))), (3, .int (zi (pz (B = true)))), (0, .ref (ad 0)), (1, .int (zi (x))), (2, .int (zi (o)))] → W p l e ({ frames := 0, cells := 0, slots := 0, locals := 0 }) s m ([.ref (ad 0), .int (zi (x)), .int (zi (o))] : List Value).toArray below meth c s.heap [] 0 0 (MQ below (vp_Si (fun z9 => z9 = zi (pz (An (σ 2) x o = true)))) ([.ref (ad 0), .int (zi (x)), .int (zi (o))] : List Value).toArray s 0 0 (fun _ => False)) (F0 m 5 ls []) := by
    intro d
    induction d with
    | zero =>
      intro k B h1 h2 h3 hB ls hl
      refine lv_iload hx hb dX4_isAncestor_5 (lv_at hl 0 rfl) ?_
      refine z_iconst hx hb dX4_isAncestor_7 ?_
      refine z_icmp_eq (tgt := 39) hx hb dX4_isAncestor_8 (by decide) (by omega) (by omega) (fun h8 => ?_) (fun h8 => ?_)
      ·
        refine lv_iload_n hx hb dX4_isAncestor_39 rfl (lv_at hl 1 rfl) ?_
        exact z_zret hx hb hr hlk dX4_isAncestor_40 ((by have := pz_b (B = true); omega)) (by have e : An (σ 2) x k = false := An_neg _ _ (by omega); rw [← hB, e, Bool.or_false])
      · exfalso; omega
    | succ d ih =>
      intro k B h1 h2 h3 hB ls hl
      refine lv_iload hx hb dX4_isAncestor_5 (lv_at hl 0 rfl) ?_
      refine z_iconst hx hb dX4_isAncestor_7 ?_
      refine z_icmp_eq (tgt := 39) hx hb dX4_isAncestor_8 (by decide) (by omega) (by omega) (fun h8 => ?_) (fun h8 => ?_)
      ·
        refine lv_iload_n hx hb dX4_isAncestor_39 rfl (lv_at hl 1 rfl) ?_
        exact z_zret hx hb hr hlk dX4_isAncestor_40 ((by have := pz_b (B = true); omega)) (by have e : An (σ 2) x k = false := An_neg _ _ (by omega); rw [← hB, e, Bool.or_false])
      ·
        obtain ⟨j, hj⟩ : ∃ j : Nat, k = (j : Int) := ⟨k.toNat, by omega⟩
        subst hj
        have hpj := hW.par (k := j) (by omega)
        have hA := An_s (σ 2) x hp (k := j) (by omega)
        have J26 : ∀ ls : Array Slot, lv_has ls 5 [(4, .int (zi ((j : Int)))), (3, .int (zi (pz (B = true)))), (0, .ref (ad 0)), (1, .int (zi (x))), (2, .int (zi (o)))] → W p l e ({ frames := 0, cells := 0, slots := 0, locals := 0 }) s m ([.ref (ad 0), .int (zi (x)), .int (zi (o))] : List Value).toArray below meth c s.heap [] 0 0 (MQ below (vp_Si (fun z9 => z9 = zi (pz (An (σ 2) x o = true)))) ([.ref (ad 0), .int (zi (x)), .int (zi (o))] : List Value).toArray s 0 0 (fun _ => False)) (F0 m 26 ls [.int (zi (pz ((B || decide ((j : Int) = x)) = true)))]) := by
          intro ls hl
          refine lv_istore_n (lv' := [(3, .int (zi (pz ((B || decide ((j : Int) = x)) = true)))), (4, .int (zi ((j : Int)))), (0, .ref (ad 0)), (1, .int (zi (x))), (2, .int (zi (o)))]) hx hb dX4_isAncestor_26 rfl hl (by decide) rfl (fun ls hl => ?_)
          refine lv_aload_n hx hb dX4_isAncestor_27 rfl (lv_at hl 2 rfl) ?_
          refine z_get (C := RX4) (T := TX4) (N := 14) hx hb hts hiX4 hown hK (hP 0 _ rfl) rfl 2 (by decide) (hts (.fieldLink RX4 13 "HarmoniumDeskModel" "parent" "[I") (by decide +kernel)) rfl rfl dX4_isAncestor_28 ?_
          refine lv_iload hx hb dX4_isAncestor_31 (lv_at hl 1 rfl) ?_
          refine z_iald hx hb hK (hP 2 _ rfl) (j) (by omega) (by omega) (by decide) dX4_isAncestor_33 ?_
          refine lv_istore (lv' := [(4, .int (zi (σ 2 (j)))), (3, .int (zi (pz ((B || decide ((j : Int) = x)) = true)))), (0, .ref (ad 0)), (1, .int (zi (x))), (2, .int (zi (o)))]) hx hb dX4_isAncestor_34 hl (by decide) rfl (fun ls hl => ?_)
          refine lv_goto (tgt := 5) hx hb dX4_isAncestor_36 (by decide) ?_
          exact ih (σ 2 j) (B || decide ((j : Int) = x)) (by omega) (by omega) (by omega) (by rw [← hB, hA, Bool.or_assoc]) ls (lv_sub hl [0, 1, 2, 3, 4] rfl)
        refine lv_iload_n hx hb dX4_isAncestor_11 rfl (lv_at hl 1 rfl) ?_
        refine z_ifp_ne (P := B = true) (tgt := 21) hx hb dX4_isAncestor_12 (by decide)  (fun h12 => ?_) (fun h12 => ?_)
        ·
          refine z_iconst hx hb dX4_isAncestor_21 ?_
          refine lv_goto (tgt := 26) hx hb dX4_isAncestor_22 (by decide) ?_
          refine z_top (b := pz ((B || decide ((j : Int) = x)) = true)) ((pz_t (by simp [*])).symm) ?_
          exact J26 ls (lv_sub hl [0, 1, 2, 3, 4] rfl)
        ·
          refine lv_iload hx hb dX4_isAncestor_15 (lv_at hl 0 rfl) ?_
          refine lv_iload_n hx hb dX4_isAncestor_17 rfl (lv_at hl 3 rfl) ?_
          refine z_icmp_ne (tgt := 25) hx hb dX4_isAncestor_18 (by decide) (by omega) (by omega) (fun h18 => ?_) (fun h18 => ?_)
          ·
            refine z_iconst hx hb dX4_isAncestor_25 ?_
            refine z_top (b := pz ((B || decide ((j : Int) = x)) = true)) ((pz_f (by simp [*])).symm) ?_
            exact J26 ls (lv_sub hl [0, 1, 2, 3, 4] rfl)
          ·
            refine z_iconst hx hb dX4_isAncestor_21 ?_
            refine lv_goto (tgt := 26) hx hb dX4_isAncestor_22 (by decide) ?_
            refine z_top (b := pz ((B || decide ((j : Int) = x)) = true)) ((pz_t (by simp [*])).symm) ?_
            exact J26 ls (lv_sub hl [0, 1, 2, 3, 4] rfl)
  exact loop (o.toNat + 1) o false (by omega) (by omega) (by omega) (by simp) ls (lv_sub hl [0, 1, 2, 3, 4] rfl)

set_option maxHeartbeats 4000000 in
set_option maxRecDepth 100000 in
theorem c_X4_baseOf (l : Launch) (g : gG) (ad : Nat → Nat) (σ : SG) (th : Int) (hW : WF σ) (one other : Int) (h1 : 0 ≤ one ∧ one < σ 0 0) (h2 : 0 ≤ other ∧ other < σ 0 0) : RO l yX4_baseOf wsX4_baseOf ({ frames := 1, cells := 0, slots := 0, locals := 24 }) g [.ref (ad 0), .int (zi (one)), .int (zi (other))] (MP g ad σ th) (bs (σ 2) one other (σ 0 0).toNat) := by
  refine RO.ofW (cc := cX4_baseOf) (maxL := 5) (ret := (some .int)) (by decide) rfl (Nat.le_of_ble_eq_true rfl) ?_
  intro p e s m below meth c ls hx hb hr hml hown hts hlk hP hK hl
  have hown : s.vm.findClass RX4 = some m.cls := hown
  have hl : lv_has ls 5 [(0, .ref (ad 0)), (1, .int (zi (one))), (2, .int (zi (other)))] := hl
  have hiX4 : ∀ w ∈ u_ws RX4 TX4 14, w ∈ wsX4_baseOf := by decide +kernel
  have hn := hW.n
  refine z_iconst hx hb dX4_baseOf_0 ?_
  refine lv_istore_n (lv' := [(3, .int (zi ((-1)))), (0, .ref (ad 0)), (1, .int (zi (one))), (2, .int (zi (other)))]) hx hb dX4_baseOf_1 rfl hl (by decide) rfl (fun ls hl => ?_)
  refine z_iconst hx hb dX4_baseOf_2 ?_
  refine lv_istore (lv' := [(4, .int (zi (0))), (3, .int (zi ((-1)))), (0, .ref (ad 0)), (1, .int (zi (one))), (2, .int (zi (other)))]) hx hb dX4_baseOf_3 hl (by decide) rfl (fun ls hl => ?_)
  have hbs := bs_r (σ 2) one other
  have loop : ∀ (d k : Nat), (k : Int) ≤ σ 0 0 → (σ 0 0).toNat - k = d → ∀ ls : Array Slot, lv_has ls 5 [(4, .int (zi ((k : Int)))), (3, .int (zi (bs (σ 2) one other k))), (0, .ref (ad 0)), (1, .int (zi (one))), (2, .int (zi (other)))] → W p l e ({ frames := 1, cells := 0, slots := 0, locals := 24 }) s m ([.ref (ad 0), .int (zi (one)), .int (zi (other))] : List Value).toArray below meth c s.heap [] 0 0 (MQ below (vp_Si (fun z9 => z9 = zi (bs (σ 2) one other (σ 0 0).toNat))) ([.ref (ad 0), .int (zi (one)), .int (zi (other))] : List Value).toArray s 0 0 (fun _ => False)) (F0 m 5 ls []) := by
    intro d
    induction d with
    | zero =>
      intro k hkn hd ls hl
      refine lv_iload hx hb dX4_baseOf_5 (lv_at hl 0 rfl) ?_
      refine lv_aload_n hx hb dX4_baseOf_7 rfl (lv_at hl 2 rfl) ?_
      refine z_get (C := RX4) (T := TX4) (N := 14) hx hb hts hiX4 hown hK (hP 0 _ rfl) rfl 0 (by decide) (hts (.fieldLink RX4 48 "HarmoniumDeskModel" "versions" "I") (by decide +kernel)) rfl rfl dX4_baseOf_8 ?_
      refine z_icmp_ge (tgt := 47) hx hb dX4_baseOf_11 (by decide) (by omega) (by omega) (fun h11 => ?_) (fun h11 => ?_)
      ·
        refine lv_iload_n hx hb dX4_baseOf_47 rfl (lv_at hl 1 rfl) ?_
        exact z_iret hx hb hr hlk dX4_baseOf_48 (by rw [show k = (σ 0 0).toNat by omega])
      · exfalso; omega
    | succ d ih =>
      intro k hkn hd ls hl
      have hb1 := hbs k
      refine lv_iload hx hb dX4_baseOf_5 (lv_at hl 0 rfl) ?_
      refine lv_aload_n hx hb dX4_baseOf_7 rfl (lv_at hl 2 rfl) ?_
      refine z_get (C := RX4) (T := TX4) (N := 14) hx hb hts hiX4 hown hK (hP 0 _ rfl) rfl 0 (by decide) (hts (.fieldLink RX4 48 "HarmoniumDeskModel" "versions" "I") (by decide +kernel)) rfl rfl dX4_baseOf_8 ?_
      refine z_icmp_ge (tgt := 47) hx hb dX4_baseOf_11 (by decide) (by omega) (by omega) (fun h11 => ?_) (fun h11 => ?_)
      · exfalso; omega
      ·
        have J40 : ∀ ls : Array Slot, lv_has ls 5 [(4, .int (zi ((k : Int)))), (3, .int (zi (bs (σ 2) one other k))), (0, .ref (ad 0)), (1, .int (zi (one))), (2, .int (zi (other)))] → W p l e ({ frames := 1, cells := 0, slots := 0, locals := 24 }) s m ([.ref (ad 0), .int (zi (one)), .int (zi (other))] : List Value).toArray below meth c s.heap [] 0 0 (MQ below (vp_Si (fun z9 => z9 = zi (bs (σ 2) one other (σ 0 0).toNat))) ([.ref (ad 0), .int (zi (one)), .int (zi (other))] : List Value).toArray s 0 0 (fun _ => False)) (F0 m 40 ls [.int (zi (bs (σ 2) one other (k + 1)))]) := by
          intro ls hl
          refine lv_istore_n (lv' := [(3, .int (zi (bs (σ 2) one other (k + 1)))), (4, .int (zi ((k : Int)))), (0, .ref (ad 0)), (1, .int (zi (one))), (2, .int (zi (other)))]) hx hb dX4_baseOf_40 rfl hl (by decide) rfl (fun ls hl => ?_)
          refine z_iinc (b := ((k + 1 : Nat) : Int)) (lv' := [(4, .int (zi (((k + 1 : Nat) : Int)))), (3, .int (zi (bs (σ 2) one other (k + 1)))), (0, .ref (ad 0)), (1, .int (zi (one))), (2, .int (zi (other)))]) hx hb dX4_baseOf_41 hl (k := 1) rfl (by omega) (by decide) rfl (fun ls hl => ?_)
          refine lv_goto (tgt := 5) hx hb dX4_baseOf_44 (by decide) ?_
          exact ih (k + 1) (by omega) (by omega) ls (lv_sub hl [0, 1, 2, 3, 4] rfl)
        refine lv_aload_n hx hb dX4_baseOf_14 rfl (lv_at hl 2 rfl) ?_
        refine lv_iload hx hb dX4_baseOf_15 (lv_at hl 0 rfl) ?_
        refine lv_iload_n hx hb dX4_baseOf_17 rfl (lv_at hl 3 rfl) ?_
        refine ro_V (rest := []) (As := [.int (zi ((k : Int))), .int (zi (one))]) ⟨hx, hb, hml, hown, hts⟩ (c_X4_isAncestor l g ad σ th hW ((k : Int)) (one) (by omega) (by omega)) (cwV 2 hts gX4_baseOf_X4_isAncestor rfl rfl rfl (by decide +kernel) ⟨Nat.le_of_ble_eq_true rfl, Nat.le_of_ble_eq_true rfl⟩) (z_recv hK (hP 0 _ rfl) rfl) hP hK rfl hl.1 rfl (Nat.le_of_ble_eq_true rfl) dX4_baseOf_18 ⟨Nat.zero_le _, Nat.zero_le _⟩ ?_
        refine z_ifp_eq (P := An (σ 2) ((k : Int)) (one) = true) (tgt := 39) hx hb dX4_baseOf_21 (by decide)  (fun h21 => ?_) (fun h21 => ?_)
        ·
          refine lv_iload_n hx hb dX4_baseOf_39 rfl (lv_at hl 1 rfl) ?_
          refine z_top (b := bs (σ 2) one other (k + 1)) (((bs_s _ _ _ _).trans (if_neg (fun hh => by first | exact absurd hh.1 (by assumption) | exact absurd hh.2 (by assumption)))).symm) ?_
          exact J40 ls (lv_sub hl [0, 1, 2, 3, 4] rfl)
        ·
          refine lv_aload_n hx hb dX4_baseOf_24 rfl (lv_at hl 2 rfl) ?_
          refine lv_iload hx hb dX4_baseOf_25 (lv_at hl 0 rfl) ?_
          refine lv_iload_n hx hb dX4_baseOf_27 rfl (lv_at hl 4 rfl) ?_
          refine ro_V (rest := []) (As := [.int (zi ((k : Int))), .int (zi (other))]) ⟨hx, hb, hml, hown, hts⟩ (c_X4_isAncestor l g ad σ th hW ((k : Int)) (other) (by omega) (by omega)) (cwV 2 hts gX4_baseOf_X4_isAncestor rfl rfl rfl (by decide +kernel) ⟨Nat.le_of_ble_eq_true rfl, Nat.le_of_ble_eq_true rfl⟩) (z_recv hK (hP 0 _ rfl) rfl) hP hK rfl hl.1 rfl (Nat.le_of_ble_eq_true rfl) dX4_baseOf_28 ⟨Nat.zero_le _, Nat.zero_le _⟩ ?_
          refine z_ifp_eq (P := An (σ 2) ((k : Int)) (other) = true) (tgt := 39) hx hb dX4_baseOf_31 (by decide)  (fun h31 => ?_) (fun h31 => ?_)
          ·
            refine lv_iload_n hx hb dX4_baseOf_39 rfl (lv_at hl 1 rfl) ?_
            refine z_top (b := bs (σ 2) one other (k + 1)) (((bs_s _ _ _ _).trans (if_neg (fun hh => by first | exact absurd hh.1 (by assumption) | exact absurd hh.2 (by assumption)))).symm) ?_
            exact J40 ls (lv_sub hl [0, 1, 2, 3, 4] rfl)
          ·
            refine lv_iload hx hb dX4_baseOf_34 (lv_at hl 0 rfl) ?_
            refine lv_goto (tgt := 40) hx hb dX4_baseOf_36 (by decide) ?_
            refine z_top (b := bs (σ 2) one other (k + 1)) (((bs_s _ _ _ _).trans (if_pos ⟨by assumption, by assumption⟩)).symm) ?_
            exact J40 ls (lv_sub hl [0, 1, 2, 3, 4] rfl)
  exact loop _ 0 (by omega) rfl ls (lv_sub hl [0, 1, 2, 3, 4] rfl)

set_option maxHeartbeats 4000000 in
set_option maxRecDepth 100000 in
theorem c_X4_differs (l : Launch) (g : gG) (ad : Nat → Nat) (σ : SG) (th : Int) (hW : WF σ) (c1 : Nat) (hc : (c1 : Int) < σ 8 0) (zc : Int) (hzc : zc = (c1 : Int)) (k : Nat) (hk : (k : Int) < σ 0 0) (zk : Int) (hzk : zk = (k : Int)) : RO l yX4_differs wsX4_differs ({ frames := 1, cells := 0, slots := 0, locals := 22 }) g [.ref (ad 0), .int (zi (zc)), .int (zi (zk))] (MP g ad σ th) ((sset (dfB σ c1 k) (σ 1 k).toNat).toInt) := by
  refine RO.ofW (cc := cX4_differs) (maxL := 5) (ret := (some .int)) (by decide) rfl (Nat.le_of_ble_eq_true rfl) ?_
  intro p e s m below meth c ls hx hb hr hml hown hts hlk hP hK hl
  have hown : s.vm.findClass RX4 = some m.cls := hown
  have hl : lv_has ls 5 [(0, .ref (ad 0)), (1, .int (zi (zc))), (2, .int (zi (zk)))] := hl
  have hiX4 : ∀ w ∈ u_ws RX4 TX4 14, w ∈ wsX4_differs := by decide +kernel
  have hn := hW.n
  have hbk := hW.bars hk
  have hcn := hW.cn
  have hcp := hW.cp hc
  refine z_iconst hx hb dX4_differs_0 ?_
  refine z_xtop (y := sset (dfB σ c1 k) 0) (rfl) ?_
  refine lv_istore_n (lv' := [(3, .int (sset (dfB σ c1 k) 0)), (0, .ref (ad 0)), (1, .int (zi (zc))), (2, .int (zi (zk)))]) hx hb dX4_differs_1 rfl hl (by decide) rfl (fun ls hl => ?_)
  refine z_iconst hx hb dX4_differs_2 ?_
  refine z_top (b := ((0 : Nat) : Int)) (rfl) ?_
  refine lv_istore (lv' := [(4, .int (zi (((0 : Nat) : Int)))), (3, .int (sset (dfB σ c1 k) 0)), (0, .ref (ad 0)), (1, .int (zi (zc))), (2, .int (zi (zk)))]) hx hb dX4_differs_3 hl (by decide) rfl (fun ls hl => ?_)
  have loop : ∀ (d b : Nat), (b : Int) ≤ σ 1 k → (σ 1 k).toNat - b = d → ∀ ls : Array Slot, lv_has ls 5 [(4, .int (zi ((b : Int)))), (3, .int (sset (dfB σ c1 k) b)), (0, .ref (ad 0)), (1, .int (zi (zc))), (2, .int (zi (zk)))] → W p l e ({ frames := 1, cells := 0, slots := 0, locals := 22 }) s m ([.ref (ad 0), .int (zi (zc)), .int (zi (zk))] : List Value).toArray below meth c s.heap [] 0 0 (MQ below (vp_Si (fun z9 => z9 = zi ((sset (dfB σ c1 k) (σ 1 k).toNat).toInt))) ([.ref (ad 0), .int (zi (zc)), .int (zi (zk))] : List Value).toArray s 0 0 (fun _ => False)) (F0 m 5 ls []) := by
    intro d
    induction d with
    | zero =>
      intro b hb7 hd ls hl
      have eb : b = (σ 1 k).toNat := by omega
      refine lv_iload hx hb dX4_differs_5 (lv_at hl 0 rfl) ?_
      refine lv_aload_n hx hb dX4_differs_7 rfl (lv_at hl 2 rfl) ?_
      refine z_get (C := RX4) (T := TX4) (N := 14) hx hb hts hiX4 hown hK (hP 0 _ rfl) rfl 1 (by decide) (hts (.fieldLink RX4 7 "HarmoniumDeskModel" "bars" "[I") (by decide +kernel)) rfl rfl dX4_differs_8 ?_
      refine lv_iload_n hx hb dX4_differs_11 rfl (lv_at hl 4 rfl) ?_
      refine z_iald hx hb hK (hP 1 _ rfl) (k) (by omega) (by omega) (by decide) dX4_differs_12 ?_
      refine z_icmp_ge (tgt := 65) hx hb dX4_differs_13 (by decide) (by omega) (by omega) (fun h13 => ?_) (fun h13 => ?_)
      ·
        refine lv_iload_n hx hb dX4_differs_65 rfl (lv_at hl 1 rfl) ?_
        refine z_xtop (y := zi ((sset (dfB σ c1 k) (σ 1 k).toNat).toInt)) (by rw [eb]; exact zi_of _) ?_
        exact z_iret hx hb hr hlk dX4_differs_66 (rfl)
      · exfalso; omega
    | succ d ih =>
      intro b hb7 hd ls hl
      have p1 := hW.pr (12 * c1 + b)
      have p2 := hW.v k (σ 10 c1).toNat b
      refine lv_iload hx hb dX4_differs_5 (lv_at hl 0 rfl) ?_
      refine lv_aload_n hx hb dX4_differs_7 rfl (lv_at hl 2 rfl) ?_
      refine z_get (C := RX4) (T := TX4) (N := 14) hx hb hts hiX4 hown hK (hP 0 _ rfl) rfl 1 (by decide) (hts (.fieldLink RX4 7 "HarmoniumDeskModel" "bars" "[I") (by decide +kernel)) rfl rfl dX4_differs_8 ?_
      refine lv_iload_n hx hb dX4_differs_11 rfl (lv_at hl 4 rfl) ?_
      refine z_iald hx hb hK (hP 1 _ rfl) (k) (by omega) (by omega) (by decide) dX4_differs_12 ?_
      refine z_icmp_ge (tgt := 65) hx hb dX4_differs_13 (by decide) (by omega) (by omega) (fun h13 => ?_) (fun h13 => ?_)
      · exfalso; omega
      ·
        refine lv_iload_n hx hb dX4_differs_16 rfl (lv_at hl 1 rfl) ?_
        refine lv_aload_n hx hb dX4_differs_17 rfl (lv_at hl 2 rfl) ?_
        refine z_get (C := RX4) (T := TX4) (N := 14) hx hb hts hiX4 hown hK (hP 0 _ rfl) rfl 11 (by decide) (hts (.fieldLink RX4 39 "HarmoniumDeskModel" "printed" "[I") (by decide +kernel)) rfl rfl dX4_differs_18 ?_
        refine z_bipush hx hb dX4_differs_21 (by decide) ?_
        refine lv_iload_n hx hb dX4_differs_23 rfl (lv_at hl 3 rfl) ?_
        refine z_imul hx hb dX4_differs_24 ?_
        refine lv_iload hx hb dX4_differs_25 (lv_at hl 0 rfl) ?_
        refine z_iadd hx hb dX4_differs_27 ?_
        refine z_iald hx hb hK (hP 9 _ rfl) (12 * c1 + b) (by omega) (by omega) (by decide) dX4_differs_28 ?_
        refine lv_aload_n hx hb dX4_differs_29 rfl (lv_at hl 2 rfl) ?_
        refine z_get (C := RX4) (T := TX4) (N := 14) hx hb hts hiX4 hown hK (hP 0 _ rfl) rfl 5 (by decide) (hts (.fieldLink RX4 23 "HarmoniumDeskModel" "notes" "[I") (by decide +kernel)) rfl rfl dX4_differs_30 ?_
        refine lv_iload_n hx hb dX4_differs_33 rfl (lv_at hl 4 rfl) ?_
        refine lv_aload_n hx hb dX4_differs_34 rfl (lv_at hl 2 rfl) ?_
        refine z_get (C := RX4) (T := TX4) (N := 14) hx hb hts hiX4 hown hK (hP 0 _ rfl) rfl 10 (by decide) (hts (.fieldLink RX4 36 "HarmoniumDeskModel" "voiceOf" "[I") (by decide +kernel)) rfl rfl dX4_differs_35 ?_
        refine lv_iload_n hx hb dX4_differs_38 rfl (lv_at hl 3 rfl) ?_
        refine z_iald hx hb hK (hP 8 _ rfl) (c1) (by omega) (by omega) (by decide) dX4_differs_39 ?_
        refine lv_iload hx hb dX4_differs_40 (lv_at hl 0 rfl) ?_
        refine ro_S (rest := [.ref (ad 5), .int (zi (σ 11 (12 * c1 + b))), .int (sset (dfB σ c1 k) b)]) (As := [.int (zi (zk)), .int (zi (σ 10 (c1))), .int (zi ((b : Int)))]) ⟨hx, hb, hml, hown, hts⟩ (c_X4_at l g (zk) (σ 10 (c1)) ((b : Int))) (cwS 3 hts gX4_differs_X4_at rfl rfl rfl (by decide +kernel) ⟨Nat.le_of_ble_eq_true rfl, Nat.le_of_ble_eq_true rfl⟩) trivial hK rfl hl.1 rfl (Nat.le_of_ble_eq_true rfl) dX4_differs_42 ⟨Nat.zero_le _, Nat.zero_le _⟩ ?_
        refine z_iald hx hb hK (hP 5 _ rfl) (24 * k + 12 * (σ 10 c1).toNat + b) (by omega) (by omega) (by decide) dX4_differs_45 ?_
        refine z_top (b := NV σ k (σ 10 c1).toNat b) (rfl) ?_
        refine z_icmp_eq (tgt := 56) hx hb dX4_differs_46 (by decide) (by omega) (by omega) (fun h46 => ?_) (fun h46 => ?_)
        ·
          refine z_iconst hx hb dX4_differs_56 ?_
          refine lv_ior hx hb dX4_differs_57 ?_
          refine z_xtop (y := sset (dfB σ c1 k) (b + 1)) (sset_f (dfB σ c1 k) b (fun hh => of_decide_eq_true hh (by assumption))) ?_
          refine lv_istore_n (lv' := [(3, .int (sset (dfB σ c1 k) (b + 1))), (4, .int (zi ((b : Int)))), (0, .ref (ad 0)), (1, .int (zi (zc))), (2, .int (zi (zk)))]) hx hb dX4_differs_58 rfl hl (by decide) rfl (fun ls hl => ?_)
          refine z_iinc (b := ((b + 1 : Nat) : Int)) (lv' := [(4, .int (zi (((b + 1 : Nat) : Int)))), (3, .int (sset (dfB σ c1 k) (b + 1))), (0, .ref (ad 0)), (1, .int (zi (zc))), (2, .int (zi (zk)))]) hx hb dX4_differs_59 hl (k := 1) rfl (by omega) (by decide) rfl (fun ls hl => ?_)
          refine lv_goto (tgt := 5) hx hb dX4_differs_62 (by decide) ?_
          exact ih (b + 1) (by omega) (by omega) ls (lv_sub hl [0, 1, 2, 3, 4] rfl)
        ·
          refine z_iconst hx hb dX4_differs_49 ?_
          refine lv_iload hx hb dX4_differs_50 (lv_at hl 0 rfl) ?_
          refine lv_ishl hx hb dX4_differs_52 ?_
          refine lv_goto (tgt := 57) hx hb dX4_differs_53 (by decide) ?_
          refine lv_ior hx hb dX4_differs_57 ?_
          refine z_xtop (y := sset (dfB σ c1 k) (b + 1)) (sset_t (dfB σ c1 k) b (decide_eq_true (by assumption))) ?_
          refine lv_istore_n (lv' := [(3, .int (sset (dfB σ c1 k) (b + 1))), (4, .int (zi ((b : Int)))), (0, .ref (ad 0)), (1, .int (zi (zc))), (2, .int (zi (zk)))]) hx hb dX4_differs_58 rfl hl (by decide) rfl (fun ls hl => ?_)
          refine z_iinc (b := ((b + 1 : Nat) : Int)) (lv' := [(4, .int (zi (((b + 1 : Nat) : Int)))), (3, .int (sset (dfB σ c1 k) (b + 1))), (0, .ref (ad 0)), (1, .int (zi (zc))), (2, .int (zi (zk)))]) hx hb dX4_differs_59 hl (k := 1) rfl (by omega) (by decide) rfl (fun ls hl => ?_)
          refine lv_goto (tgt := 5) hx hb dX4_differs_62 (by decide) ?_
          exact ih (b + 1) (by omega) (by omega) ls (lv_sub hl [0, 1, 2, 3, 4] rfl)
  exact loop _ 0 (by omega) rfl ls (lv_sub hl [0, 1, 2, 3, 4] rfl)

set_option maxHeartbeats 4000000 in
set_option maxRecDepth 100000 in
theorem c_X4_misses (l : Launch) (g : gG) (ad : Nat → Nat) (σ : SG) (th : Int) (hW : WF σ) (zc zk : Int) (hzc : zr zc) (hzk : zr zk) (x : Int) (h1 : ¬ (IsC σ zc ∧ IsV σ zk) → x = 1) (h2 : IsC σ zc ∧ IsV σ zk → σ 1 zk.toNat = σ 9 zc.toNat → x = 0) (h3 : IsC σ zc ∧ IsV σ zk → ¬ σ 1 zk.toNat = σ 9 zc.toNat → x = 2) : RO l yX4_misses wsX4_misses ({ frames := 2, cells := 0, slots := 0, locals := 43 }) g [.ref (ad 0), .int (zi (zc)), .int (zi (zk))] (MP g ad σ th) (x) := by
  refine RO.ofW (cc := cX4_misses) (maxL := 3) (ret := (some .int)) (by decide) rfl (Nat.le_of_ble_eq_true rfl) ?_
  intro p e s m below meth c ls hx hb hr hml hown hts hlk hP hK hl
  have hown : s.vm.findClass RX4 = some m.cls := hown
  have hl : lv_has ls 3 [(0, .ref (ad 0)), (1, .int (zi (zc))), (2, .int (zi (zk)))] := hl
  have hiX4 : ∀ w ∈ u_ws RX4 TX4 14, w ∈ wsX4_misses := by decide +kernel
  have hn := hW.n
  have hcn := hW.cn
  refine lv_aload_n hx hb dX4_misses_0 rfl (lv_at hl 0 rfl) ?_
  refine lv_iload_n hx hb dX4_misses_1 rfl (lv_at hl 1 rfl) ?_
  refine ro_V (rest := []) (As := [.int (zi (zc))]) ⟨hx, hb, hml, hown, hts⟩ (c_X4_isCopy l g ad σ th hW (zc) (by omega)) (cwV 1 hts gX4_misses_X4_isCopy rfl rfl rfl (by decide +kernel) ⟨Nat.le_of_ble_eq_true rfl, Nat.le_of_ble_eq_true rfl⟩) (z_recv hK (hP 0 _ rfl) rfl) hP hK rfl hl.1 rfl (Nat.le_of_ble_eq_true rfl) dX4_misses_2 ⟨Nat.zero_le _, Nat.zero_le _⟩ ?_
  refine z_ifp_eq (P := IsC σ (zc)) (tgt := 16) hx hb dX4_misses_5 (by decide)  (fun h5 => ?_) (fun h5 => ?_)
  ·
    refine z_iconst hx hb dX4_misses_16 ?_
    refine lv_goto (tgt := 40) hx hb dX4_misses_17 (by decide) ?_
    exact z_iret hx hb hr hlk dX4_misses_40 ((h1 (by omega)).symm)
  ·
    refine lv_aload_n hx hb dX4_misses_8 rfl (lv_at hl 0 rfl) ?_
    refine lv_iload_n hx hb dX4_misses_9 rfl (lv_at hl 2 rfl) ?_
    refine ro_V (rest := []) (As := [.int (zi (zk))]) ⟨hx, hb, hml, hown, hts⟩ (c_X4_isVersion l g ad σ th hW (zk) (by omega)) (cwV 1 hts gX4_misses_X4_isVersion rfl rfl rfl (by decide +kernel) ⟨Nat.le_of_ble_eq_true rfl, Nat.le_of_ble_eq_true rfl⟩) (z_recv hK (hP 0 _ rfl) rfl) hP hK rfl hl.1 rfl (Nat.le_of_ble_eq_true rfl) dX4_misses_10 ⟨Nat.zero_le _, Nat.zero_le _⟩ ?_
    refine z_ifp_ne (P := IsV σ (zk)) (tgt := 20) hx hb dX4_misses_13 (by decide)  (fun h13 => ?_) (fun h13 => ?_)
    ·
      have hbk := hW.bars (k := zk.toNat) (by omega)
      have hcp := hW.cp (c := zc.toNat) (by omega)
      refine lv_aload_n hx hb dX4_misses_20 rfl (lv_at hl 0 rfl) ?_
      refine z_get (C := RX4) (T := TX4) (N := 14) hx hb hts hiX4 hown hK (hP 0 _ rfl) rfl 1 (by decide) (hts (.fieldLink RX4 7 "HarmoniumDeskModel" "bars" "[I") (by decide +kernel)) rfl rfl dX4_misses_21 ?_
      refine lv_iload_n hx hb dX4_misses_24 rfl (lv_at hl 2 rfl) ?_
      refine z_iald hx hb hK (hP 1 _ rfl) (zk.toNat) (by omega) (by omega) (by decide) dX4_misses_25 ?_
      refine lv_aload_n hx hb dX4_misses_26 rfl (lv_at hl 0 rfl) ?_
      refine z_get (C := RX4) (T := TX4) (N := 14) hx hb hts hiX4 hown hK (hP 0 _ rfl) rfl 9 (by decide) (hts (.fieldLink RX4 33 "HarmoniumDeskModel" "longs" "[I") (by decide +kernel)) rfl rfl dX4_misses_27 ?_
      refine lv_iload_n hx hb dX4_misses_30 rfl (lv_at hl 1 rfl) ?_
      refine z_iald hx hb hK (hP 7 _ rfl) (zc.toNat) (by omega) (by omega) (by decide) dX4_misses_31 ?_
      refine z_icmp_ne (tgt := 39) hx hb dX4_misses_32 (by decide) (by omega) (by omega) (fun h32 => ?_) (fun h32 => ?_)
      ·
        refine z_iconst hx hb dX4_misses_39 ?_
        exact z_iret hx hb hr hlk dX4_misses_40 ((h3 (by omega) (by omega)).symm)
      ·
        refine z_iconst hx hb dX4_misses_35 ?_
        refine lv_goto (tgt := 40) hx hb dX4_misses_36 (by decide) ?_
        exact z_iret hx hb hr hlk dX4_misses_40 ((h2 (by omega) (by omega)).symm)
    ·
      refine z_iconst hx hb dX4_misses_16 ?_
      refine lv_goto (tgt := 40) hx hb dX4_misses_17 (by decide) ?_
      exact z_iret hx hb hr hlk dX4_misses_40 ((h1 (by omega)).symm)
