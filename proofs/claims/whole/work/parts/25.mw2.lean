set_option maxHeartbeats 4000000 in
set_option maxRecDepth 100000 in
theorem c_X4_conflicts_1 (l : Launch) (g : gG) (ad : Nat → Nat) (σ : SG) (th : Int) (hW : WF σ) (hd : Dst ad) (sz : Nat) (z y : Int) (hz : zr z) (hy : zr y) (hbad : ¬ (IsV σ z ∧ IsV σ y)) : MI l yX4_conflicts wsX4_conflicts ({ frames := 2, cells := 0, slots := 0, locals := 43 }) g ad [.int (zi (z)), .int (zi (y))] sz σ th (σ) (1) (0) := by
  refine ZM.ofW (cc := cX4_conflicts) (maxL := 7) (ret := (some .int)) (by decide) rfl (Nat.le_of_ble_eq_true rfl) ?_
  intro p e s m below meth c ls hx hb hr hml hown hts hlk hP hK hl _
  obtain ⟨rfl, hP, -⟩ := hP
  have hS : va_S (va_A (MWs g ad σ th) s.heap.size) s.heap s.heap [] := va_S.rf
  have hown : s.vm.findClass RX4 = some m.cls := hown
  have hl : lv_has ls 7 [(0, .ref (ad 0)), (1, .int (zi (z))), (2, .int (zi (y)))] := hl
  have hn := hW.n
  refine lv_aload_n hx hb dX4_conflicts_0 rfl (lv_at hl 0 rfl) ?_
  refine lv_iload_n hx hb dX4_conflicts_1 rfl (lv_at hl 1 rfl) ?_
  refine ro_V (rest := []) (As := [.int (zi (z))]) ⟨hx, hb, hml, hown, hts⟩ (c_X4_isVersion l g ad σ (th) hW (z) (by omega)) (cwV 1 hts gX4_conflicts_X4_isVersion rfl rfl rfl (by decide +kernel) ⟨Nat.le_of_ble_eq_true rfl, Nat.le_of_ble_eq_true rfl⟩) (z_recv hK (hP 0 _ rfl) rfl) hP hK rfl hl.1 rfl (Nat.le_of_ble_eq_true rfl) dX4_conflicts_2 ⟨Nat.zero_le _, Nat.zero_le _⟩ ?_
  refine z_ifp_eq (P := IsV σ (z)) (tgt := 20) hx hb dX4_conflicts_5 (by decide)  (fun h5 => ?_) (fun h5 => ?_)
  ·
    refine z_iconst hx hb dX4_conflicts_20 ?_
    refine lv_istore_n (lv' := [(3, .int (zi (0))), (0, .ref (ad 0)), (1, .int (zi (z))), (2, .int (zi (y)))]) hx hb dX4_conflicts_21 rfl hl (by decide) rfl (fun ls hl => ?_)
    refine lv_aload_n hx hb dX4_conflicts_22 rfl (lv_at hl 1 rfl) ?_
    refine lv_iload_n hx hb dX4_conflicts_23 rfl (lv_at hl 0 rfl) ?_
    refine z_if_ne (tgt := 31) hx hb dX4_conflicts_24 (by decide) (by omega) (fun h24 => ?_) (fun h24 => ?_)
    · exfalso; omega
    ·
      refine z_iconst hx hb dX4_conflicts_27 ?_
      refine lv_goto (tgt := 46) hx hb dX4_conflicts_28 (by decide) ?_
      refine wi_V (rest := []) (As := [.int (zi (1))]) ⟨hx, hb, hml, hown, hts⟩ (c_X4_fails l g ad σ (th) hW hd _ (1) (by omega)) (cwV 1 hts gX4_conflicts_X4_fails rfl rfl rfl (by decide +kernel) ⟨Nat.le_of_ble_eq_true rfl, Nat.le_of_ble_eq_true rfl⟩) (z_recv hK (hP 0 _ rfl) rfl) hP trivial hK rfl hl.1 rfl (Nat.le_of_ble_eq_true rfl) dX4_conflicts_46 ⟨Nat.zero_le _, Nat.zero_le _⟩ hS (MW_fr hS.1) (fun H locs hP _ _ hS => ?_)
      refine z_ifp_eq (P := 0 < (1)) (tgt := 54) hx hb dX4_conflicts_49 (by decide)  (fun h49 => ?_) (fun h49 => ?_)
      · exfalso; omega
      ·
        refine z_iconst hx hb dX4_conflicts_52 ?_
        exact z_wiret hx hb hr hlk dX4_conflicts_53 (by omega) hP hS
  ·
    refine lv_aload_n hx hb dX4_conflicts_8 rfl (lv_at hl 0 rfl) ?_
    refine lv_iload_n hx hb dX4_conflicts_9 rfl (lv_at hl 2 rfl) ?_
    refine ro_V (rest := []) (As := [.int (zi (y))]) ⟨hx, hb, hml, hown, hts⟩ (c_X4_isVersion l g ad σ (th) hW (y) (by omega)) (cwV 1 hts gX4_conflicts_X4_isVersion rfl rfl rfl (by decide +kernel) ⟨Nat.le_of_ble_eq_true rfl, Nat.le_of_ble_eq_true rfl⟩) (z_recv hK (hP 0 _ rfl) rfl) hP hK rfl hl.1 rfl (Nat.le_of_ble_eq_true rfl) dX4_conflicts_10 ⟨Nat.zero_le _, Nat.zero_le _⟩ ?_
    refine z_ifp_eq (P := IsV σ (y)) (tgt := 20) hx hb dX4_conflicts_13 (by decide)  (fun h13 => ?_) (fun h13 => ?_)
    ·
      refine z_iconst hx hb dX4_conflicts_20 ?_
      refine lv_istore_n (lv' := [(3, .int (zi (0))), (0, .ref (ad 0)), (1, .int (zi (z))), (2, .int (zi (y)))]) hx hb dX4_conflicts_21 rfl hl (by decide) rfl (fun ls hl => ?_)
      refine lv_aload_n hx hb dX4_conflicts_22 rfl (lv_at hl 1 rfl) ?_
      refine lv_iload_n hx hb dX4_conflicts_23 rfl (lv_at hl 0 rfl) ?_
      refine z_if_ne (tgt := 31) hx hb dX4_conflicts_24 (by decide) (by omega) (fun h24 => ?_) (fun h24 => ?_)
      · exfalso; omega
      ·
        refine z_iconst hx hb dX4_conflicts_27 ?_
        refine lv_goto (tgt := 46) hx hb dX4_conflicts_28 (by decide) ?_
        refine wi_V (rest := []) (As := [.int (zi (1))]) ⟨hx, hb, hml, hown, hts⟩ (c_X4_fails l g ad σ (th) hW hd _ (1) (by omega)) (cwV 1 hts gX4_conflicts_X4_fails rfl rfl rfl (by decide +kernel) ⟨Nat.le_of_ble_eq_true rfl, Nat.le_of_ble_eq_true rfl⟩) (z_recv hK (hP 0 _ rfl) rfl) hP trivial hK rfl hl.1 rfl (Nat.le_of_ble_eq_true rfl) dX4_conflicts_46 ⟨Nat.zero_le _, Nat.zero_le _⟩ hS (MW_fr hS.1) (fun H locs hP _ _ hS => ?_)
        refine z_ifp_eq (P := 0 < (1)) (tgt := 54) hx hb dX4_conflicts_49 (by decide)  (fun h49 => ?_) (fun h49 => ?_)
        · exfalso; omega
        ·
          refine z_iconst hx hb dX4_conflicts_52 ?_
          exact z_wiret hx hb hr hlk dX4_conflicts_53 (by omega) hP hS
    · exfalso; omega

set_option maxHeartbeats 4000000 in
set_option maxRecDepth 100000 in
theorem c_X4_conflicts_2 (l : Launch) (g : gG) (ad : Nat → Nat) (σ : SG) (th : Int) (hW : WF σ) (hd : Dst ad) (sz : Nat) (z y : Int) (hz : zr z) (hy : zr y) (hg : IsV σ z) (hg2 : IsV σ y) (hbad : bs (σ 2) z y (σ 0 0).toNat = -1) : MI l yX4_conflicts wsX4_conflicts ({ frames := 2, cells := 0, slots := 0, locals := 48 }) g ad [.int (zi (z)), .int (zi (y))] sz σ th (σ) (2) (0) := by
  refine ZM.ofW (cc := cX4_conflicts) (maxL := 7) (ret := (some .int)) (by decide) rfl (Nat.le_of_ble_eq_true rfl) ?_
  intro p e s m below meth c ls hx hb hr hml hown hts hlk hP hK hl _
  obtain ⟨rfl, hP, -⟩ := hP
  have hS : va_S (va_A (MWs g ad σ th) s.heap.size) s.heap s.heap [] := va_S.rf
  have hown : s.vm.findClass RX4 = some m.cls := hown
  have hl : lv_has ls 7 [(0, .ref (ad 0)), (1, .int (zi (z))), (2, .int (zi (y)))] := hl
  have hn := hW.n
  have hbsr := bs_r (σ 2) z y (σ 0 0).toNat
  refine lv_aload_n hx hb dX4_conflicts_0 rfl (lv_at hl 0 rfl) ?_
  refine lv_iload_n hx hb dX4_conflicts_1 rfl (lv_at hl 1 rfl) ?_
  refine ro_V (rest := []) (As := [.int (zi (z))]) ⟨hx, hb, hml, hown, hts⟩ (c_X4_isVersion l g ad σ (th) hW (z) (by omega)) (cwV 1 hts gX4_conflicts_X4_isVersion rfl rfl rfl (by decide +kernel) ⟨Nat.le_of_ble_eq_true rfl, Nat.le_of_ble_eq_true rfl⟩) (z_recv hK (hP 0 _ rfl) rfl) hP hK rfl hl.1 rfl (Nat.le_of_ble_eq_true rfl) dX4_conflicts_2 ⟨Nat.zero_le _, Nat.zero_le _⟩ ?_
  refine z_ifp_eq (P := IsV σ (z)) (tgt := 20) hx hb dX4_conflicts_5 (by decide)  (fun h5 => ?_) (fun h5 => ?_)
  · exfalso; omega
  ·
    refine lv_aload_n hx hb dX4_conflicts_8 rfl (lv_at hl 0 rfl) ?_
    refine lv_iload_n hx hb dX4_conflicts_9 rfl (lv_at hl 2 rfl) ?_
    refine ro_V (rest := []) (As := [.int (zi (y))]) ⟨hx, hb, hml, hown, hts⟩ (c_X4_isVersion l g ad σ (th) hW (y) (by omega)) (cwV 1 hts gX4_conflicts_X4_isVersion rfl rfl rfl (by decide +kernel) ⟨Nat.le_of_ble_eq_true rfl, Nat.le_of_ble_eq_true rfl⟩) (z_recv hK (hP 0 _ rfl) rfl) hP hK rfl hl.1 rfl (Nat.le_of_ble_eq_true rfl) dX4_conflicts_10 ⟨Nat.zero_le _, Nat.zero_le _⟩ ?_
    refine z_ifp_eq (P := IsV σ (y)) (tgt := 20) hx hb dX4_conflicts_13 (by decide)  (fun h13 => ?_) (fun h13 => ?_)
    · exfalso; omega
    ·
      refine z_iconst hx hb dX4_conflicts_16 ?_
      refine lv_goto (tgt := 21) hx hb dX4_conflicts_17 (by decide) ?_
      refine lv_istore_n (lv' := [(3, .int (zi (1))), (0, .ref (ad 0)), (1, .int (zi (z))), (2, .int (zi (y)))]) hx hb dX4_conflicts_21 rfl hl (by decide) rfl (fun ls hl => ?_)
      refine lv_aload_n hx hb dX4_conflicts_22 rfl (lv_at hl 1 rfl) ?_
      refine lv_iload_n hx hb dX4_conflicts_23 rfl (lv_at hl 0 rfl) ?_
      refine z_if_ne (tgt := 31) hx hb dX4_conflicts_24 (by decide) (by omega) (fun h24 => ?_) (fun h24 => ?_)
      ·
        refine lv_aload_n hx hb dX4_conflicts_31 rfl (lv_at hl 1 rfl) ?_
        refine lv_iload_n hx hb dX4_conflicts_32 rfl (lv_at hl 2 rfl) ?_
        refine lv_iload_n hx hb dX4_conflicts_33 rfl (lv_at hl 3 rfl) ?_
        refine ro_V (rest := [.ref (ad 0)]) (As := [.int (zi (z)), .int (zi (y))]) ⟨hx, hb, hml, hown, hts⟩ (c_X4_baseOf l g ad σ (th) hW (z) (y) (by omega) (by omega)) (cwV 2 hts gX4_conflicts_X4_baseOf rfl rfl rfl (by decide +kernel) ⟨Nat.le_of_ble_eq_true rfl, Nat.le_of_ble_eq_true rfl⟩) (z_recv hK (hP 0 _ rfl) rfl) hP hK rfl hl.1 rfl (Nat.le_of_ble_eq_true rfl) dX4_conflicts_34 ⟨Nat.zero_le _, Nat.zero_le _⟩ ?_
        refine z_iconst hx hb dX4_conflicts_37 ?_
        refine z_icmp_ne (tgt := 45) hx hb dX4_conflicts_38 (by decide) (by omega) (by omega) (fun h38 => ?_) (fun h38 => ?_)
        · exfalso; omega
        ·
          refine z_iconst hx hb dX4_conflicts_41 ?_
          refine lv_goto (tgt := 46) hx hb dX4_conflicts_42 (by decide) ?_
          refine wi_V (rest := []) (As := [.int (zi (2))]) ⟨hx, hb, hml, hown, hts⟩ (c_X4_fails l g ad σ (th) hW hd _ (2) (by omega)) (cwV 1 hts gX4_conflicts_X4_fails rfl rfl rfl (by decide +kernel) ⟨Nat.le_of_ble_eq_true rfl, Nat.le_of_ble_eq_true rfl⟩) (z_recv hK (hP 0 _ rfl) rfl) hP trivial hK rfl hl.1 rfl (Nat.le_of_ble_eq_true rfl) dX4_conflicts_46 ⟨Nat.zero_le _, Nat.zero_le _⟩ hS (MW_fr hS.1) (fun H locs hP _ _ hS => ?_)
          refine z_ifp_eq (P := 0 < (2)) (tgt := 54) hx hb dX4_conflicts_49 (by decide)  (fun h49 => ?_) (fun h49 => ?_)
          · exfalso; omega
          ·
            refine z_iconst hx hb dX4_conflicts_52 ?_
            exact z_wiret hx hb hr hlk dX4_conflicts_53 (by omega) hP hS
      · exfalso; omega

set_option maxHeartbeats 4000000 in
set_option maxRecDepth 100000 in
theorem c_X4_conflicts_0 (l : Launch) (g : gG) (ad : Nat → Nat) (σ : SG) (th : Int) (hW : WF σ) (hd : Dst ad) (sz : Nat) (i : Nat) (hi : (i : Int) < σ 0 0) (zi1 : Int) (hzi : zi1 = (i : Int)) (j : Nat) (hj : (j : Int) < σ 0 0) (zj : Int) (hzj : zj = (j : Int)) (bn : Nat) (hbn : bs (σ 2) zi1 zj (σ 0 0).toNat = (bn : Int))  : MI l yX4_conflicts wsX4_conflicts ({ frames := 2, cells := 0, slots := 0, locals := 48 }) g ad [.int (zi (zi1)), .int (zi (zj))] sz σ th (σ) (0) ((sset (cfB σ i j bn) (σ 1 i).toNat).toInt) := by
  refine ZM.ofW (cc := cX4_conflicts) (maxL := 7) (ret := (some .int)) (by decide) rfl (Nat.le_of_ble_eq_true rfl) ?_
  intro p e s m below meth c ls hx hb hr hml hown hts hlk hP hK hl _
  obtain ⟨rfl, hP, -⟩ := hP
  have hS : va_S (va_A (MWs g ad σ th) s.heap.size) s.heap s.heap [] := va_S.rf
  have hown : s.vm.findClass RX4 = some m.cls := hown
  have hl : lv_has ls 7 [(0, .ref (ad 0)), (1, .int (zi (zi1))), (2, .int (zi (zj)))] := hl
  have hiX4 : ∀ w ∈ u_ws RX4 TX4 14, w ∈ wsX4_conflicts := by decide +kernel
  have hn := hW.n
  have hbsr := bs_r (σ 2) zi1 zj (σ 0 0).toNat
  have hbi := hW.bars hi
  refine lv_aload_n hx hb dX4_conflicts_0 rfl (lv_at hl 0 rfl) ?_
  refine lv_iload_n hx hb dX4_conflicts_1 rfl (lv_at hl 1 rfl) ?_
  refine ro_V (rest := []) (As := [.int (zi (zi1))]) ⟨hx, hb, hml, hown, hts⟩ (c_X4_isVersion l g ad σ (th) hW (zi1) (by omega)) (cwV 1 hts gX4_conflicts_X4_isVersion rfl rfl rfl (by decide +kernel) ⟨Nat.le_of_ble_eq_true rfl, Nat.le_of_ble_eq_true rfl⟩) (z_recv hK (hP 0 _ rfl) rfl) hP hK rfl hl.1 rfl (Nat.le_of_ble_eq_true rfl) dX4_conflicts_2 ⟨Nat.zero_le _, Nat.zero_le _⟩ ?_
  refine z_ifp_eq (P := IsV σ (zi1)) (tgt := 20) hx hb dX4_conflicts_5 (by decide)  (fun h5 => ?_) (fun h5 => ?_)
  · exfalso; omega
  ·
    refine lv_aload_n hx hb dX4_conflicts_8 rfl (lv_at hl 0 rfl) ?_
    refine lv_iload_n hx hb dX4_conflicts_9 rfl (lv_at hl 2 rfl) ?_
    refine ro_V (rest := []) (As := [.int (zi (zj))]) ⟨hx, hb, hml, hown, hts⟩ (c_X4_isVersion l g ad σ (th) hW (zj) (by omega)) (cwV 1 hts gX4_conflicts_X4_isVersion rfl rfl rfl (by decide +kernel) ⟨Nat.le_of_ble_eq_true rfl, Nat.le_of_ble_eq_true rfl⟩) (z_recv hK (hP 0 _ rfl) rfl) hP hK rfl hl.1 rfl (Nat.le_of_ble_eq_true rfl) dX4_conflicts_10 ⟨Nat.zero_le _, Nat.zero_le _⟩ ?_
    refine z_ifp_eq (P := IsV σ (zj)) (tgt := 20) hx hb dX4_conflicts_13 (by decide)  (fun h13 => ?_) (fun h13 => ?_)
    · exfalso; omega
    ·
      refine z_iconst hx hb dX4_conflicts_16 ?_
      refine lv_goto (tgt := 21) hx hb dX4_conflicts_17 (by decide) ?_
      refine lv_istore_n (lv' := [(3, .int (zi (1))), (0, .ref (ad 0)), (1, .int (zi (zi1))), (2, .int (zi (zj)))]) hx hb dX4_conflicts_21 rfl hl (by decide) rfl (fun ls hl => ?_)
      refine lv_aload_n hx hb dX4_conflicts_22 rfl (lv_at hl 1 rfl) ?_
      refine lv_iload_n hx hb dX4_conflicts_23 rfl (lv_at hl 0 rfl) ?_
      refine z_if_ne (tgt := 31) hx hb dX4_conflicts_24 (by decide) (by omega) (fun h24 => ?_) (fun h24 => ?_)
      ·
        refine lv_aload_n hx hb dX4_conflicts_31 rfl (lv_at hl 1 rfl) ?_
        refine lv_iload_n hx hb dX4_conflicts_32 rfl (lv_at hl 2 rfl) ?_
        refine lv_iload_n hx hb dX4_conflicts_33 rfl (lv_at hl 3 rfl) ?_
        refine ro_V (rest := [.ref (ad 0)]) (As := [.int (zi (zi1)), .int (zi (zj))]) ⟨hx, hb, hml, hown, hts⟩ (c_X4_baseOf l g ad σ (th) hW (zi1) (zj) (by omega) (by omega)) (cwV 2 hts gX4_conflicts_X4_baseOf rfl rfl rfl (by decide +kernel) ⟨Nat.le_of_ble_eq_true rfl, Nat.le_of_ble_eq_true rfl⟩) (z_recv hK (hP 0 _ rfl) rfl) hP hK rfl hl.1 rfl (Nat.le_of_ble_eq_true rfl) dX4_conflicts_34 ⟨Nat.zero_le _, Nat.zero_le _⟩ ?_
        refine z_iconst hx hb dX4_conflicts_37 ?_
        refine z_icmp_ne (tgt := 45) hx hb dX4_conflicts_38 (by decide) (by omega) (by omega) (fun h38 => ?_) (fun h38 => ?_)
        ·
          refine z_iconst hx hb dX4_conflicts_45 ?_
          refine wi_V (rest := []) (As := [.int (zi (0))]) ⟨hx, hb, hml, hown, hts⟩ (c_X4_fails l g ad σ (th) hW hd _ (0) (by omega)) (cwV 1 hts gX4_conflicts_X4_fails rfl rfl rfl (by decide +kernel) ⟨Nat.le_of_ble_eq_true rfl, Nat.le_of_ble_eq_true rfl⟩) (z_recv hK (hP 0 _ rfl) rfl) hP trivial hK rfl hl.1 rfl (Nat.le_of_ble_eq_true rfl) dX4_conflicts_46 ⟨Nat.zero_le _, Nat.zero_le _⟩ hS (MW_fr hS.1) (fun H locs hP _ _ hS => ?_)
          refine z_ifp_eq (P := 0 < (0)) (tgt := 54) hx hb dX4_conflicts_49 (by decide)  (fun h49 => ?_) (fun h49 => ?_)
          ·
            refine lv_aload_n hx hb dX4_conflicts_54 rfl (lv_at hl 1 rfl) ?_
            refine lv_iload_n hx hb dX4_conflicts_55 rfl (lv_at hl 2 rfl) ?_
            refine lv_iload_n hx hb dX4_conflicts_56 rfl (lv_at hl 3 rfl) ?_
            refine ro_V (rest := []) (As := [.int (zi (zi1)), .int (zi (zj))]) ⟨hx, hb, hml, hown, hts⟩ (c_X4_baseOf l g ad σ (0) hW (zi1) (zj) (by omega) (by omega)) (cwV 2 hts gX4_conflicts_X4_baseOf rfl rfl rfl (by decide +kernel) ⟨Nat.le_of_ble_eq_true rfl, Nat.le_of_ble_eq_true rfl⟩) (z_recv hK (hP 0 _ rfl) rfl) hP hK rfl hl.1 rfl (Nat.le_of_ble_eq_true rfl) dX4_conflicts_57 ⟨Nat.zero_le _, Nat.zero_le _⟩ ?_
            refine z_top (b := (bn : Int)) (hbn) ?_
            refine lv_istore (lv' := [(4, .int (zi ((bn : Int)))), (3, .int (zi (1))), (0, .ref (ad 0)), (1, .int (zi (zi1))), (2, .int (zi (zj)))]) hx hb dX4_conflicts_60 hl (by decide) rfl (fun ls hl => ?_)
            refine z_iconst hx hb dX4_conflicts_62 ?_
            refine z_xtop (y := sset (cfB σ i j bn) 0) (rfl) ?_
            refine lv_istore (lv' := [(5, .int (sset (cfB σ i j bn) 0)), (4, .int (zi ((bn : Int)))), (3, .int (zi (1))), (0, .ref (ad 0)), (1, .int (zi (zi1))), (2, .int (zi (zj)))]) hx hb dX4_conflicts_63 hl (by decide) rfl (fun ls hl => ?_)
            refine z_iconst hx hb dX4_conflicts_65 ?_
            refine z_top (b := ((0 : Nat) : Int)) (rfl) ?_
            refine lv_istore (lv' := [(6, .int (zi (((0 : Nat) : Int)))), (5, .int (sset (cfB σ i j bn) 0)), (4, .int (zi ((bn : Int)))), (3, .int (zi (1))), (0, .ref (ad 0)), (1, .int (zi (zi1))), (2, .int (zi (zj)))]) hx hb dX4_conflicts_66 hl (by decide) rfl (fun ls hl => ?_)
            have loop68 : ∀ (d b : Nat), (b : Int) ≤ σ 1 i → (σ 1 i).toNat - b = d → ∀ (H : Heap) (locs : List Loc), va_P g.1 vwCl (MWs g ad σ (0)) H → va_S (va_A (MWs g ad σ th) s.heap.size) s.heap H locs → ∀ ls : Array Slot, lv_has ls 7 [(6, .int (zi ((b : Int)))), (5, .int (sset (cfB σ i j bn) b)), (4, .int (zi ((bn : Int)))), (3, .int (zi (1))), (0, .ref (ad 0)), (1, .int (zi (zi1))), (2, .int (zi (zj)))] → W p l e ({ frames := 2, cells := 0, slots := 0, locals := 48 }) s m ([.ref (ad 0), .int (zi (zi1)), .int (zi (zj))] : List Value).toArray below meth c H locs 0 0 (MQ below (va_Qi (fun z9 (_ : Unit) => z9 = zi ((sset (cfB σ i j bn) (σ 1 i).toNat).toInt)) (fun _ t9 => va_P g.1 vwCl (MWs g ad (σ) (0)) t9.heap) (va_A (MWs g ad σ th) s.heap.size)) ([.ref (ad 0), .int (zi (zi1)), .int (zi (zj))] : List Value).toArray s 0 0 (va_A (MWs g ad σ th) s.heap.size)) (F0 m 68 ls []) := by
              intro d
              induction d with
              | zero =>
                intro b hb7 hd2 H locs hP hS ls hl
                have eb : b = (σ 1 i).toNat := by omega
                refine lv_iload hx hb dX4_conflicts_68 (lv_at hl 0 rfl) ?_
                refine lv_aload_n hx hb dX4_conflicts_70 rfl (lv_at hl 4 rfl) ?_
                refine z_get (C := RX4) (T := TX4) (N := 14) hx hb hts hiX4 hown hK (hP 0 _ rfl) rfl 1 (by decide) (hts (.fieldLink RX4 7 "HarmoniumDeskModel" "bars" "[I") (by decide +kernel)) rfl rfl dX4_conflicts_71 ?_
                refine lv_iload_n hx hb dX4_conflicts_74 rfl (lv_at hl 5 rfl) ?_
                refine z_iald hx hb hK (hP 1 _ rfl) (i) (by omega) (by omega) (by decide) dX4_conflicts_75 ?_
                refine z_icmp_ge (tgt := 133) hx hb dX4_conflicts_76 (by decide) (by omega) (by omega) (fun h76 => ?_) (fun h76 => ?_)
                ·
                  refine lv_iload hx hb dX4_conflicts_133 (lv_at hl 1 rfl) ?_
                  refine z_xtop (y := zi ((sset (cfB σ i j bn) (σ 1 i).toNat).toInt)) (by rw [eb]; exact zi_of _) ?_
                  exact z_wiret hx hb hr hlk dX4_conflicts_135 (rfl) hP hS
                · exfalso; omega
              | succ d ih =>
                intro b hb7 hd2 H locs hP hS ls hl
                refine lv_iload hx hb dX4_conflicts_68 (lv_at hl 0 rfl) ?_
                refine lv_aload_n hx hb dX4_conflicts_70 rfl (lv_at hl 4 rfl) ?_
                refine z_get (C := RX4) (T := TX4) (N := 14) hx hb hts hiX4 hown hK (hP 0 _ rfl) rfl 1 (by decide) (hts (.fieldLink RX4 7 "HarmoniumDeskModel" "bars" "[I") (by decide +kernel)) rfl rfl dX4_conflicts_71 ?_
                refine lv_iload_n hx hb dX4_conflicts_74 rfl (lv_at hl 5 rfl) ?_
                refine z_iald hx hb hK (hP 1 _ rfl) (i) (by omega) (by omega) (by decide) dX4_conflicts_75 ?_
                refine z_icmp_ge (tgt := 133) hx hb dX4_conflicts_76 (by decide) (by omega) (by omega) (fun h76 => ?_) (fun h76 => ?_)
                · exfalso; omega
                ·
                  refine lv_iload hx hb dX4_conflicts_79 (lv_at hl 1 rfl) ?_
                  refine lv_aload_n hx hb dX4_conflicts_81 rfl (lv_at hl 4 rfl) ?_
                  refine lv_iload_n hx hb dX4_conflicts_82 rfl (lv_at hl 5 rfl) ?_
                  refine lv_iload_n hx hb dX4_conflicts_83 rfl (lv_at hl 6 rfl) ?_
                  refine lv_iload hx hb dX4_conflicts_84 (lv_at hl 0 rfl) ?_
                  refine ro_V (rest := [.int (sset (cfB σ i j bn) b)]) (As := [.int (zi (zi1)), .int (zi (zj)), .int (zi ((b : Int)))]) ⟨hx, hb, hml, hown, hts⟩ (c_X4_areAlike l g ad σ (0) hW i hi (zi1) (by omega) j hj (zj) (by omega) b (by omega) ((b : Int)) (by omega)) (cwV 3 hts gX4_conflicts_X4_areAlike rfl rfl rfl (by decide +kernel) ⟨Nat.le_of_ble_eq_true rfl, Nat.le_of_ble_eq_true rfl⟩) (z_recv hK (hP 0 _ rfl) rfl) hP hK rfl hl.1 rfl (Nat.le_of_ble_eq_true rfl) dX4_conflicts_86 ⟨Nat.zero_le _, Nat.zero_le _⟩ ?_
                  refine z_ifp_ne (P := Al σ i j b) (tgt := 123) hx hb dX4_conflicts_89 (by decide)  (fun h89 => ?_) (fun h89 => ?_)
                  ·
                    refine z_iconst hx hb dX4_conflicts_123 ?_
                    refine lv_ior hx hb dX4_conflicts_124 ?_
                    refine z_xtop (y := sset (cfB σ i j bn) (b + 1)) (sset_f (cfB σ i j bn) b (fun hh => by have hh := of_decide_eq_true hh; first | exact hh.1 (by assumption) | exact hh.2.1 (by assumption) | exact hh.2.2 (by assumption))) ?_
                    refine lv_istore (lv' := [(5, .int (sset (cfB σ i j bn) (b + 1))), (6, .int (zi ((b : Int)))), (4, .int (zi ((bn : Int)))), (3, .int (zi (1))), (0, .ref (ad 0)), (1, .int (zi (zi1))), (2, .int (zi (zj)))]) hx hb dX4_conflicts_125 hl (by decide) rfl (fun ls hl => ?_)
                    refine z_iinc (b := ((b + 1 : Nat) : Int)) (lv' := [(6, .int (zi (((b + 1 : Nat) : Int)))), (5, .int (sset (cfB σ i j bn) (b + 1))), (4, .int (zi ((bn : Int)))), (3, .int (zi (1))), (0, .ref (ad 0)), (1, .int (zi (zi1))), (2, .int (zi (zj)))]) hx hb dX4_conflicts_127 hl (k := 1) rfl (by omega) (by decide) rfl (fun ls hl => ?_)
                    refine lv_goto (tgt := 68) hx hb dX4_conflicts_130 (by decide) ?_
                    exact ih (b + 1) (by omega) (by omega) H locs hP hS ls (lv_sub hl [0, 1, 2, 3, 4, 5, 6] rfl)
                  ·
                    refine lv_aload_n hx hb dX4_conflicts_92 rfl (lv_at hl 4 rfl) ?_
                    refine lv_iload_n hx hb dX4_conflicts_93 rfl (lv_at hl 5 rfl) ?_
                    refine lv_iload hx hb dX4_conflicts_94 (lv_at hl 2 rfl) ?_
                    refine lv_iload hx hb dX4_conflicts_96 (lv_at hl 0 rfl) ?_
                    refine ro_V (rest := [.int (sset (cfB σ i j bn) b)]) (As := [.int (zi (zi1)), .int (zi ((bn : Int))), .int (zi ((b : Int)))]) ⟨hx, hb, hml, hown, hts⟩ (c_X4_areAlike l g ad σ (0) hW i hi (zi1) (by omega) bn (by omega) ((bn : Int)) (by omega) b (by omega) ((b : Int)) (by omega)) (cwV 3 hts gX4_conflicts_X4_areAlike rfl rfl rfl (by decide +kernel) ⟨Nat.le_of_ble_eq_true rfl, Nat.le_of_ble_eq_true rfl⟩) (z_recv hK (hP 0 _ rfl) rfl) hP hK rfl hl.1 rfl (Nat.le_of_ble_eq_true rfl) dX4_conflicts_98 ⟨Nat.zero_le _, Nat.zero_le _⟩ ?_
                    refine z_ifp_ne (P := Al σ i bn b) (tgt := 123) hx hb dX4_conflicts_101 (by decide)  (fun h101 => ?_) (fun h101 => ?_)
                    ·
                      refine z_iconst hx hb dX4_conflicts_123 ?_
                      refine lv_ior hx hb dX4_conflicts_124 ?_
                      refine z_xtop (y := sset (cfB σ i j bn) (b + 1)) (sset_f (cfB σ i j bn) b (fun hh => by have hh := of_decide_eq_true hh; first | exact hh.1 (by assumption) | exact hh.2.1 (by assumption) | exact hh.2.2 (by assumption))) ?_
                      refine lv_istore (lv' := [(5, .int (sset (cfB σ i j bn) (b + 1))), (6, .int (zi ((b : Int)))), (4, .int (zi ((bn : Int)))), (3, .int (zi (1))), (0, .ref (ad 0)), (1, .int (zi (zi1))), (2, .int (zi (zj)))]) hx hb dX4_conflicts_125 hl (by decide) rfl (fun ls hl => ?_)
                      refine z_iinc (b := ((b + 1 : Nat) : Int)) (lv' := [(6, .int (zi (((b + 1 : Nat) : Int)))), (5, .int (sset (cfB σ i j bn) (b + 1))), (4, .int (zi ((bn : Int)))), (3, .int (zi (1))), (0, .ref (ad 0)), (1, .int (zi (zi1))), (2, .int (zi (zj)))]) hx hb dX4_conflicts_127 hl (k := 1) rfl (by omega) (by decide) rfl (fun ls hl => ?_)
                      refine lv_goto (tgt := 68) hx hb dX4_conflicts_130 (by decide) ?_
                      exact ih (b + 1) (by omega) (by omega) H locs hP hS ls (lv_sub hl [0, 1, 2, 3, 4, 5, 6] rfl)
                    ·
                      refine lv_aload_n hx hb dX4_conflicts_104 rfl (lv_at hl 4 rfl) ?_
                      refine lv_iload_n hx hb dX4_conflicts_105 rfl (lv_at hl 6 rfl) ?_
                      refine lv_iload hx hb dX4_conflicts_106 (lv_at hl 2 rfl) ?_
                      refine lv_iload hx hb dX4_conflicts_108 (lv_at hl 0 rfl) ?_
                      refine ro_V (rest := [.int (sset (cfB σ i j bn) b)]) (As := [.int (zi (zj)), .int (zi ((bn : Int))), .int (zi ((b : Int)))]) ⟨hx, hb, hml, hown, hts⟩ (c_X4_areAlike l g ad σ (0) hW j hj (zj) (by omega) bn (by omega) ((bn : Int)) (by omega) b (by omega) ((b : Int)) (by omega)) (cwV 3 hts gX4_conflicts_X4_areAlike rfl rfl rfl (by decide +kernel) ⟨Nat.le_of_ble_eq_true rfl, Nat.le_of_ble_eq_true rfl⟩) (z_recv hK (hP 0 _ rfl) rfl) hP hK rfl hl.1 rfl (Nat.le_of_ble_eq_true rfl) dX4_conflicts_110 ⟨Nat.zero_le _, Nat.zero_le _⟩ ?_
                      refine z_ifp_ne (P := Al σ j bn b) (tgt := 123) hx hb dX4_conflicts_113 (by decide)  (fun h113 => ?_) (fun h113 => ?_)
                      ·
                        refine z_iconst hx hb dX4_conflicts_123 ?_
                        refine lv_ior hx hb dX4_conflicts_124 ?_
                        refine z_xtop (y := sset (cfB σ i j bn) (b + 1)) (sset_f (cfB σ i j bn) b (fun hh => by have hh := of_decide_eq_true hh; first | exact hh.1 (by assumption) | exact hh.2.1 (by assumption) | exact hh.2.2 (by assumption))) ?_
                        refine lv_istore (lv' := [(5, .int (sset (cfB σ i j bn) (b + 1))), (6, .int (zi ((b : Int)))), (4, .int (zi ((bn : Int)))), (3, .int (zi (1))), (0, .ref (ad 0)), (1, .int (zi (zi1))), (2, .int (zi (zj)))]) hx hb dX4_conflicts_125 hl (by decide) rfl (fun ls hl => ?_)
                        refine z_iinc (b := ((b + 1 : Nat) : Int)) (lv' := [(6, .int (zi (((b + 1 : Nat) : Int)))), (5, .int (sset (cfB σ i j bn) (b + 1))), (4, .int (zi ((bn : Int)))), (3, .int (zi (1))), (0, .ref (ad 0)), (1, .int (zi (zi1))), (2, .int (zi (zj)))]) hx hb dX4_conflicts_127 hl (k := 1) rfl (by omega) (by decide) rfl (fun ls hl => ?_)
                        refine lv_goto (tgt := 68) hx hb dX4_conflicts_130 (by decide) ?_
                        exact ih (b + 1) (by omega) (by omega) H locs hP hS ls (lv_sub hl [0, 1, 2, 3, 4, 5, 6] rfl)
                      ·
                        refine z_iconst hx hb dX4_conflicts_116 ?_
                        refine lv_iload hx hb dX4_conflicts_117 (lv_at hl 0 rfl) ?_
                        refine lv_ishl hx hb dX4_conflicts_119 ?_
                        refine lv_goto (tgt := 124) hx hb dX4_conflicts_120 (by decide) ?_
                        refine lv_ior hx hb dX4_conflicts_124 ?_
                        refine z_xtop (y := sset (cfB σ i j bn) (b + 1)) (sset_t (cfB σ i j bn) b (decide_eq_true ⟨by assumption, by assumption, by assumption⟩)) ?_
                        refine lv_istore (lv' := [(5, .int (sset (cfB σ i j bn) (b + 1))), (6, .int (zi ((b : Int)))), (4, .int (zi ((bn : Int)))), (3, .int (zi (1))), (0, .ref (ad 0)), (1, .int (zi (zi1))), (2, .int (zi (zj)))]) hx hb dX4_conflicts_125 hl (by decide) rfl (fun ls hl => ?_)
                        refine z_iinc (b := ((b + 1 : Nat) : Int)) (lv' := [(6, .int (zi (((b + 1 : Nat) : Int)))), (5, .int (sset (cfB σ i j bn) (b + 1))), (4, .int (zi ((bn : Int)))), (3, .int (zi (1))), (0, .ref (ad 0)), (1, .int (zi (zi1))), (2, .int (zi (zj)))]) hx hb dX4_conflicts_127 hl (k := 1) rfl (by omega) (by decide) rfl (fun ls hl => ?_)
                        refine lv_goto (tgt := 68) hx hb dX4_conflicts_130 (by decide) ?_
                        exact ih (b + 1) (by omega) (by omega) H locs hP hS ls (lv_sub hl [0, 1, 2, 3, 4, 5, 6] rfl)
            exact loop68 _ 0 (by omega) rfl _ _ hP hS ls (lv_sub hl [0, 1, 2, 3, 4, 5, 6] rfl)
          · exfalso; omega
        · exfalso; omega
      · exfalso; omega
