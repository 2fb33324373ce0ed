set_option maxHeartbeats 4000000 in
set_option maxRecDepth 100000 in
theorem c_X4_merge_1 (l : Launch) (g : gG) (ad : Nat → Nat) (σ : SG) (th : Int) (hW : WF σ) (hd : Dst ad) (sz : Nat) (z y : Int) (hz : zr z) (hy : zr y) (hbad : ¬ (IsV σ z ∧ IsV σ y)) : MI l yX4_merge wsX4_merge ({ frames := 2, cells := 0, slots := 0, locals := 43 }) g ad [.int (zi (z)), .int (zi (y))] sz σ th (σ) (1) (0) := by
  refine ZM.ofW (cc := cX4_merge) (maxL := 7) (ret := (some .int)) (by decide) rfl (Nat.le_of_ble_eq_true rfl) ?_
  intro p e s m below meth c ls hx hb hr hml hown hts hlk hP hK hl _
  obtain ⟨rfl, hP, -⟩ := hP
  have hS : va_S (va_A (MWs g ad σ th) s.heap.size) s.heap s.heap [] := va_S.rf
  have hown : s.vm.findClass RX4 = some m.cls := hown
  have hl : lv_has ls 7 [(0, .ref (ad 0)), (1, .int (zi (z))), (2, .int (zi (y)))] := hl
  have hn := hW.n
  refine lv_aload_n hx hb dX4_merge_0 rfl (lv_at hl 0 rfl) ?_
  refine lv_iload_n hx hb dX4_merge_1 rfl (lv_at hl 1 rfl) ?_
  refine ro_V (rest := []) (As := [.int (zi (z))]) ⟨hx, hb, hml, hown, hts⟩ (c_X4_isVersion l g ad σ (th) hW (z) (by omega)) (cwV 1 hts gX4_merge_X4_isVersion rfl rfl rfl (by decide +kernel) ⟨Nat.le_of_ble_eq_true rfl, Nat.le_of_ble_eq_true rfl⟩) (z_recv hK (hP 0 _ rfl) rfl) hP hK rfl hl.1 rfl (Nat.le_of_ble_eq_true rfl) dX4_merge_2 ⟨Nat.zero_le _, Nat.zero_le _⟩ ?_
  refine z_ifp_eq (P := IsV σ (z)) (tgt := 20) hx hb dX4_merge_5 (by decide)  (fun h5 => ?_) (fun h5 => ?_)
  ·
    refine z_iconst hx hb dX4_merge_20 ?_
    refine lv_istore_n (lv' := [(3, .int (zi (0))), (0, .ref (ad 0)), (1, .int (zi (z))), (2, .int (zi (y)))]) hx hb dX4_merge_21 rfl hl (by decide) rfl (fun ls hl => ?_)
    refine lv_aload_n hx hb dX4_merge_22 rfl (lv_at hl 1 rfl) ?_
    refine lv_iload_n hx hb dX4_merge_23 rfl (lv_at hl 0 rfl) ?_
    refine z_if_ne (tgt := 31) hx hb dX4_merge_24 (by decide) (by omega) (fun h24 => ?_) (fun h24 => ?_)
    · exfalso; omega
    ·
      refine z_iconst hx hb dX4_merge_27 ?_
      refine lv_goto (tgt := 64) hx hb dX4_merge_28 (by decide) ?_
      refine wi_V (rest := []) (As := [.int (zi (1))]) ⟨hx, hb, hml, hown, hts⟩ (c_X4_fails l g ad σ (th) hW hd _ (1) (by omega)) (cwV 1 hts gX4_merge_X4_fails rfl rfl rfl (by decide +kernel) ⟨Nat.le_of_ble_eq_true rfl, Nat.le_of_ble_eq_true rfl⟩) (z_recv hK (hP 0 _ rfl) rfl) hP trivial hK rfl hl.1 rfl (Nat.le_of_ble_eq_true rfl) dX4_merge_64 ⟨Nat.zero_le _, Nat.zero_le _⟩ hS (MW_fr hS.1) (fun H locs hP _ _ hS => ?_)
      refine z_ifp_eq (P := 0 < (1)) (tgt := 72) hx hb dX4_merge_67 (by decide)  (fun h67 => ?_) (fun h67 => ?_)
      · exfalso; omega
      ·
        refine z_iconst hx hb dX4_merge_70 ?_
        exact z_wiret hx hb hr hlk dX4_merge_71 (by omega) hP hS
  ·
    refine lv_aload_n hx hb dX4_merge_8 rfl (lv_at hl 0 rfl) ?_
    refine lv_iload_n hx hb dX4_merge_9 rfl (lv_at hl 2 rfl) ?_
    refine ro_V (rest := []) (As := [.int (zi (y))]) ⟨hx, hb, hml, hown, hts⟩ (c_X4_isVersion l g ad σ (th) hW (y) (by omega)) (cwV 1 hts gX4_merge_X4_isVersion rfl rfl rfl (by decide +kernel) ⟨Nat.le_of_ble_eq_true rfl, Nat.le_of_ble_eq_true rfl⟩) (z_recv hK (hP 0 _ rfl) rfl) hP hK rfl hl.1 rfl (Nat.le_of_ble_eq_true rfl) dX4_merge_10 ⟨Nat.zero_le _, Nat.zero_le _⟩ ?_
    refine z_ifp_eq (P := IsV σ (y)) (tgt := 20) hx hb dX4_merge_13 (by decide)  (fun h13 => ?_) (fun h13 => ?_)
    ·
      refine z_iconst hx hb dX4_merge_20 ?_
      refine lv_istore_n (lv' := [(3, .int (zi (0))), (0, .ref (ad 0)), (1, .int (zi (z))), (2, .int (zi (y)))]) hx hb dX4_merge_21 rfl hl (by decide) rfl (fun ls hl => ?_)
      refine lv_aload_n hx hb dX4_merge_22 rfl (lv_at hl 1 rfl) ?_
      refine lv_iload_n hx hb dX4_merge_23 rfl (lv_at hl 0 rfl) ?_
      refine z_if_ne (tgt := 31) hx hb dX4_merge_24 (by decide) (by omega) (fun h24 => ?_) (fun h24 => ?_)
      · exfalso; omega
      ·
        refine z_iconst hx hb dX4_merge_27 ?_
        refine lv_goto (tgt := 64) hx hb dX4_merge_28 (by decide) ?_
        refine wi_V (rest := []) (As := [.int (zi (1))]) ⟨hx, hb, hml, hown, hts⟩ (c_X4_fails l g ad σ (th) hW hd _ (1) (by omega)) (cwV 1 hts gX4_merge_X4_fails rfl rfl rfl (by decide +kernel) ⟨Nat.le_of_ble_eq_true rfl, Nat.le_of_ble_eq_true rfl⟩) (z_recv hK (hP 0 _ rfl) rfl) hP trivial hK rfl hl.1 rfl (Nat.le_of_ble_eq_true rfl) dX4_merge_64 ⟨Nat.zero_le _, Nat.zero_le _⟩ hS (MW_fr hS.1) (fun H locs hP _ _ hS => ?_)
        refine z_ifp_eq (P := 0 < (1)) (tgt := 72) hx hb dX4_merge_67 (by decide)  (fun h67 => ?_) (fun h67 => ?_)
        · exfalso; omega
        ·
          refine z_iconst hx hb dX4_merge_70 ?_
          exact z_wiret hx hb hr hlk dX4_merge_71 (by omega) hP hS
    · exfalso; omega

set_option maxHeartbeats 4000000 in
set_option maxRecDepth 100000 in
theorem c_X4_merge_2 (l : Launch) (g : gG) (ad : Nat → Nat) (σ : SG) (th : Int) (hW : WF σ) (hd : Dst ad) (sz : Nat) (z y : Int) (hz : zr z) (hy : zr y) (hg : IsV σ z) (hg2 : IsV σ y) (hbad : z = y) : MI l yX4_merge wsX4_merge ({ frames := 2, cells := 0, slots := 0, locals := 43 }) g ad [.int (zi (z)), .int (zi (y))] sz σ th (σ) (2) (0) := by
  refine ZM.ofW (cc := cX4_merge) (maxL := 7) (ret := (some .int)) (by decide) rfl (Nat.le_of_ble_eq_true rfl) ?_
  intro p e s m below meth c ls hx hb hr hml hown hts hlk hP hK hl _
  obtain ⟨rfl, hP, -⟩ := hP
  have hS : va_S (va_A (MWs g ad σ th) s.heap.size) s.heap s.heap [] := va_S.rf
  have hown : s.vm.findClass RX4 = some m.cls := hown
  have hl : lv_has ls 7 [(0, .ref (ad 0)), (1, .int (zi (z))), (2, .int (zi (y)))] := hl
  have hn := hW.n
  refine lv_aload_n hx hb dX4_merge_0 rfl (lv_at hl 0 rfl) ?_
  refine lv_iload_n hx hb dX4_merge_1 rfl (lv_at hl 1 rfl) ?_
  refine ro_V (rest := []) (As := [.int (zi (z))]) ⟨hx, hb, hml, hown, hts⟩ (c_X4_isVersion l g ad σ (th) hW (z) (by omega)) (cwV 1 hts gX4_merge_X4_isVersion rfl rfl rfl (by decide +kernel) ⟨Nat.le_of_ble_eq_true rfl, Nat.le_of_ble_eq_true rfl⟩) (z_recv hK (hP 0 _ rfl) rfl) hP hK rfl hl.1 rfl (Nat.le_of_ble_eq_true rfl) dX4_merge_2 ⟨Nat.zero_le _, Nat.zero_le _⟩ ?_
  refine z_ifp_eq (P := IsV σ (z)) (tgt := 20) hx hb dX4_merge_5 (by decide)  (fun h5 => ?_) (fun h5 => ?_)
  · exfalso; omega
  ·
    refine lv_aload_n hx hb dX4_merge_8 rfl (lv_at hl 0 rfl) ?_
    refine lv_iload_n hx hb dX4_merge_9 rfl (lv_at hl 2 rfl) ?_
    refine ro_V (rest := []) (As := [.int (zi (y))]) ⟨hx, hb, hml, hown, hts⟩ (c_X4_isVersion l g ad σ (th) hW (y) (by omega)) (cwV 1 hts gX4_merge_X4_isVersion rfl rfl rfl (by decide +kernel) ⟨Nat.le_of_ble_eq_true rfl, Nat.le_of_ble_eq_true rfl⟩) (z_recv hK (hP 0 _ rfl) rfl) hP hK rfl hl.1 rfl (Nat.le_of_ble_eq_true rfl) dX4_merge_10 ⟨Nat.zero_le _, Nat.zero_le _⟩ ?_
    refine z_ifp_eq (P := IsV σ (y)) (tgt := 20) hx hb dX4_merge_13 (by decide)  (fun h13 => ?_) (fun h13 => ?_)
    · exfalso; omega
    ·
      refine z_iconst hx hb dX4_merge_16 ?_
      refine lv_goto (tgt := 21) hx hb dX4_merge_17 (by decide) ?_
      refine lv_istore_n (lv' := [(3, .int (zi (1))), (0, .ref (ad 0)), (1, .int (zi (z))), (2, .int (zi (y)))]) hx hb dX4_merge_21 rfl hl (by decide) rfl (fun ls hl => ?_)
      refine lv_aload_n hx hb dX4_merge_22 rfl (lv_at hl 1 rfl) ?_
      refine lv_iload_n hx hb dX4_merge_23 rfl (lv_at hl 0 rfl) ?_
      refine z_if_ne (tgt := 31) hx hb dX4_merge_24 (by decide) (by omega) (fun h24 => ?_) (fun h24 => ?_)
      ·
        refine lv_iload_n hx hb dX4_merge_31 rfl (lv_at hl 2 rfl) ?_
        refine lv_iload_n hx hb dX4_merge_32 rfl (lv_at hl 3 rfl) ?_
        refine z_icmp_ne (tgt := 40) hx hb dX4_merge_33 (by decide) (by omega) (by omega) (fun h33 => ?_) (fun h33 => ?_)
        · exfalso; omega
        ·
          refine z_iconst hx hb dX4_merge_36 ?_
          refine lv_goto (tgt := 64) hx hb dX4_merge_37 (by decide) ?_
          refine wi_V (rest := []) (As := [.int (zi (2))]) ⟨hx, hb, hml, hown, hts⟩ (c_X4_fails l g ad σ (th) hW hd _ (2) (by omega)) (cwV 1 hts gX4_merge_X4_fails rfl rfl rfl (by decide +kernel) ⟨Nat.le_of_ble_eq_true rfl, Nat.le_of_ble_eq_true rfl⟩) (z_recv hK (hP 0 _ rfl) rfl) hP trivial hK rfl hl.1 rfl (Nat.le_of_ble_eq_true rfl) dX4_merge_64 ⟨Nat.zero_le _, Nat.zero_le _⟩ hS (MW_fr hS.1) (fun H locs hP _ _ hS => ?_)
          refine z_ifp_eq (P := 0 < (2)) (tgt := 72) hx hb dX4_merge_67 (by decide)  (fun h67 => ?_) (fun h67 => ?_)
          · exfalso; omega
          ·
            refine z_iconst hx hb dX4_merge_70 ?_
            exact z_wiret hx hb hr hlk dX4_merge_71 (by omega) hP hS
      · exfalso; omega

set_option maxHeartbeats 4000000 in
set_option maxRecDepth 100000 in
theorem c_X4_merge_3 (l : Launch) (g : gG) (ad : Nat → Nat) (σ : SG) (th : Int) (hW : WF σ) (hd : Dst ad) (sz : Nat) (z y : Int) (hz : zr z) (hy : zr y) (hg : IsV σ z) (hg2 : IsV σ y) (hne : z ≠ y) (hbad : bs (σ 2) z y (σ 0 0).toNat = -1 ∨ σ 0 0 = 30) : MI l yX4_merge wsX4_merge ({ frames := 2, cells := 0, slots := 0, locals := 48 }) g ad [.int (zi (z)), .int (zi (y))] sz σ th (σ) (3) (0) := by
  refine ZM.ofW (cc := cX4_merge) (maxL := 7) (ret := (some .int)) (by decide) rfl (Nat.le_of_ble_eq_true rfl) ?_
  intro p e s m below meth c ls hx hb hr hml hown hts hlk hP hK hl _
  obtain ⟨rfl, hP, -⟩ := hP
  have hS : va_S (va_A (MWs g ad σ th) s.heap.size) s.heap s.heap [] := va_S.rf
  have hown : s.vm.findClass RX4 = some m.cls := hown
  have hl : lv_has ls 7 [(0, .ref (ad 0)), (1, .int (zi (z))), (2, .int (zi (y)))] := hl
  have hiX4 : ∀ w ∈ u_ws RX4 TX4 14, w ∈ wsX4_merge := by decide +kernel
  have hn := hW.n
  have hbsr := bs_r (σ 2) z y (σ 0 0).toNat
  refine lv_aload_n hx hb dX4_merge_0 rfl (lv_at hl 0 rfl) ?_
  refine lv_iload_n hx hb dX4_merge_1 rfl (lv_at hl 1 rfl) ?_
  refine ro_V (rest := []) (As := [.int (zi (z))]) ⟨hx, hb, hml, hown, hts⟩ (c_X4_isVersion l g ad σ (th) hW (z) (by omega)) (cwV 1 hts gX4_merge_X4_isVersion rfl rfl rfl (by decide +kernel) ⟨Nat.le_of_ble_eq_true rfl, Nat.le_of_ble_eq_true rfl⟩) (z_recv hK (hP 0 _ rfl) rfl) hP hK rfl hl.1 rfl (Nat.le_of_ble_eq_true rfl) dX4_merge_2 ⟨Nat.zero_le _, Nat.zero_le _⟩ ?_
  refine z_ifp_eq (P := IsV σ (z)) (tgt := 20) hx hb dX4_merge_5 (by decide)  (fun h5 => ?_) (fun h5 => ?_)
  · exfalso; omega
  ·
    refine lv_aload_n hx hb dX4_merge_8 rfl (lv_at hl 0 rfl) ?_
    refine lv_iload_n hx hb dX4_merge_9 rfl (lv_at hl 2 rfl) ?_
    refine ro_V (rest := []) (As := [.int (zi (y))]) ⟨hx, hb, hml, hown, hts⟩ (c_X4_isVersion l g ad σ (th) hW (y) (by omega)) (cwV 1 hts gX4_merge_X4_isVersion rfl rfl rfl (by decide +kernel) ⟨Nat.le_of_ble_eq_true rfl, Nat.le_of_ble_eq_true rfl⟩) (z_recv hK (hP 0 _ rfl) rfl) hP hK rfl hl.1 rfl (Nat.le_of_ble_eq_true rfl) dX4_merge_10 ⟨Nat.zero_le _, Nat.zero_le _⟩ ?_
    refine z_ifp_eq (P := IsV σ (y)) (tgt := 20) hx hb dX4_merge_13 (by decide)  (fun h13 => ?_) (fun h13 => ?_)
    · exfalso; omega
    ·
      refine z_iconst hx hb dX4_merge_16 ?_
      refine lv_goto (tgt := 21) hx hb dX4_merge_17 (by decide) ?_
      refine lv_istore_n (lv' := [(3, .int (zi (1))), (0, .ref (ad 0)), (1, .int (zi (z))), (2, .int (zi (y)))]) hx hb dX4_merge_21 rfl hl (by decide) rfl (fun ls hl => ?_)
      refine lv_aload_n hx hb dX4_merge_22 rfl (lv_at hl 1 rfl) ?_
      refine lv_iload_n hx hb dX4_merge_23 rfl (lv_at hl 0 rfl) ?_
      refine z_if_ne (tgt := 31) hx hb dX4_merge_24 (by decide) (by omega) (fun h24 => ?_) (fun h24 => ?_)
      ·
        refine lv_iload_n hx hb dX4_merge_31 rfl (lv_at hl 2 rfl) ?_
        refine lv_iload_n hx hb dX4_merge_32 rfl (lv_at hl 3 rfl) ?_
        refine z_icmp_ne (tgt := 40) hx hb dX4_merge_33 (by decide) (by omega) (by omega) (fun h33 => ?_) (fun h33 => ?_)
        ·
          refine lv_aload_n hx hb dX4_merge_40 rfl (lv_at hl 1 rfl) ?_
          refine lv_iload_n hx hb dX4_merge_41 rfl (lv_at hl 2 rfl) ?_
          refine lv_iload_n hx hb dX4_merge_42 rfl (lv_at hl 3 rfl) ?_
          refine ro_V (rest := [.ref (ad 0)]) (As := [.int (zi (z)), .int (zi (y))]) ⟨hx, hb, hml, hown, hts⟩ (c_X4_baseOf l g ad σ (th) hW (z) (y) (by omega) (by omega)) (cwV 2 hts gX4_merge_X4_baseOf rfl rfl rfl (by decide +kernel) ⟨Nat.le_of_ble_eq_true rfl, Nat.le_of_ble_eq_true rfl⟩) (z_recv hK (hP 0 _ rfl) rfl) hP hK rfl hl.1 rfl (Nat.le_of_ble_eq_true rfl) dX4_merge_43 ⟨Nat.zero_le _, Nat.zero_le _⟩ ?_
          refine z_iconst hx hb dX4_merge_46 ?_
          refine z_icmp_eq (tgt := 59) hx hb dX4_merge_47 (by decide) (by omega) (by omega) (fun h47 => ?_) (fun h47 => ?_)
          ·
            refine z_iconst hx hb dX4_merge_59 ?_
            refine lv_goto (tgt := 64) hx hb dX4_merge_60 (by decide) ?_
            refine wi_V (rest := []) (As := [.int (zi (3))]) ⟨hx, hb, hml, hown, hts⟩ (c_X4_fails l g ad σ (th) hW hd _ (3) (by omega)) (cwV 1 hts gX4_merge_X4_fails rfl rfl rfl (by decide +kernel) ⟨Nat.le_of_ble_eq_true rfl, Nat.le_of_ble_eq_true rfl⟩) (z_recv hK (hP 0 _ rfl) rfl) hP trivial hK rfl hl.1 rfl (Nat.le_of_ble_eq_true rfl) dX4_merge_64 ⟨Nat.zero_le _, Nat.zero_le _⟩ hS (MW_fr hS.1) (fun H locs hP _ _ hS => ?_)
            refine z_ifp_eq (P := 0 < (3)) (tgt := 72) hx hb dX4_merge_67 (by decide)  (fun h67 => ?_) (fun h67 => ?_)
            · exfalso; omega
            ·
              refine z_iconst hx hb dX4_merge_70 ?_
              exact z_wiret hx hb hr hlk dX4_merge_71 (by omega) hP hS
          ·
            refine lv_aload_n hx hb dX4_merge_50 rfl (lv_at hl 1 rfl) ?_
            refine z_get (C := RX4) (T := TX4) (N := 14) hx hb hts hiX4 hown hK (hP 0 _ rfl) rfl 0 (by decide) (hts (.fieldLink RX4 48 "HarmoniumDeskModel" "versions" "I") (by decide +kernel)) rfl rfl dX4_merge_51 ?_
            refine z_bipush hx hb dX4_merge_54 (by decide) ?_
            refine z_icmp_ne (tgt := 63) hx hb dX4_merge_56 (by decide) (by omega) (by omega) (fun h56 => ?_) (fun h56 => ?_)
            · exfalso; omega
            ·
              refine z_iconst hx hb dX4_merge_59 ?_
              refine lv_goto (tgt := 64) hx hb dX4_merge_60 (by decide) ?_
              refine wi_V (rest := []) (As := [.int (zi (3))]) ⟨hx, hb, hml, hown, hts⟩ (c_X4_fails l g ad σ (th) hW hd _ (3) (by omega)) (cwV 1 hts gX4_merge_X4_fails rfl rfl rfl (by decide +kernel) ⟨Nat.le_of_ble_eq_true rfl, Nat.le_of_ble_eq_true rfl⟩) (z_recv hK (hP 0 _ rfl) rfl) hP trivial hK rfl hl.1 rfl (Nat.le_of_ble_eq_true rfl) dX4_merge_64 ⟨Nat.zero_le _, Nat.zero_le _⟩ hS (MW_fr hS.1) (fun H locs hP _ _ hS => ?_)
              refine z_ifp_eq (P := 0 < (3)) (tgt := 72) hx hb dX4_merge_67 (by decide)  (fun h67 => ?_) (fun h67 => ?_)
              · exfalso; omega
              ·
                refine z_iconst hx hb dX4_merge_70 ?_
                exact z_wiret hx hb hr hlk dX4_merge_71 (by omega) hP hS
        · exfalso; omega
      · exfalso; omega

set_option maxHeartbeats 4000000 in
set_option maxRecDepth 100000 in
theorem c_X4_merge_0 (l : Launch) (g : gG) (ad : Nat → Nat) (σ : SG) (th : Int) (hW : WF σ) (hd : Dst ad) (sz : Nat) (i : Nat) (hi : (i : Int) < σ 0 0) (zi1 : Int) (hzi : zi1 = (i : Int)) (j : Nat) (hj : (j : Int) < σ 0 0) (zj : Int) (hzj : zj = (j : Int)) (bn : Nat) (hbn : bs (σ 2) zi1 zj (σ 0 0).toNat = (bn : Int)) (hne : i ≠ j) (N : Nat) (hN : σ 0 0 = (N : Int)) (hnf : N < 30) : MI l yX4_merge wsX4_merge ({ frames := 2, cells := 0, slots := 0, locals := 48 }) g ad [.int (zi (zi1)), .int (zi (zj))] sz σ th (opM σ N i j bn) (0) ((N : Int)) := by
  refine ZM.ofW (cc := cX4_merge) (maxL := 7) (ret := (some .int)) (by decide) rfl (Nat.le_of_ble_eq_true rfl) ?_
  intro p e s m below meth c ls hx hb hr hml hown hts hlk hP hK hl _
  obtain ⟨rfl, hP, -⟩ := hP
  have hS : va_S (va_A (MWs g ad σ th) s.heap.size) s.heap s.heap [] := va_S.rf
  have hown : s.vm.findClass RX4 = some m.cls := hown
  have hl : lv_has ls 7 [(0, .ref (ad 0)), (1, .int (zi (zi1))), (2, .int (zi (zj)))] := hl
  have hiX4 : ∀ w ∈ u_ws RX4 TX4 14, w ∈ wsX4_merge := by decide +kernel
  have hn := hW.n
  have hbsr := bs_r (σ 2) zi1 zj (σ 0 0).toNat
  have hbi := hW.bars hi
  refine lv_aload_n hx hb dX4_merge_0 rfl (lv_at hl 0 rfl) ?_
  refine lv_iload_n hx hb dX4_merge_1 rfl (lv_at hl 1 rfl) ?_
  refine ro_V (rest := []) (As := [.int (zi (zi1))]) ⟨hx, hb, hml, hown, hts⟩ (c_X4_isVersion l g ad σ (th) hW (zi1) (by omega)) (cwV 1 hts gX4_merge_X4_isVersion rfl rfl rfl (by decide +kernel) ⟨Nat.le_of_ble_eq_true rfl, Nat.le_of_ble_eq_true rfl⟩) (z_recv hK (hP 0 _ rfl) rfl) hP hK rfl hl.1 rfl (Nat.le_of_ble_eq_true rfl) dX4_merge_2 ⟨Nat.zero_le _, Nat.zero_le _⟩ ?_
  refine z_ifp_eq (P := IsV σ (zi1)) (tgt := 20) hx hb dX4_merge_5 (by decide)  (fun h5 => ?_) (fun h5 => ?_)
  · exfalso; omega
  ·
    refine lv_aload_n hx hb dX4_merge_8 rfl (lv_at hl 0 rfl) ?_
    refine lv_iload_n hx hb dX4_merge_9 rfl (lv_at hl 2 rfl) ?_
    refine ro_V (rest := []) (As := [.int (zi (zj))]) ⟨hx, hb, hml, hown, hts⟩ (c_X4_isVersion l g ad σ (th) hW (zj) (by omega)) (cwV 1 hts gX4_merge_X4_isVersion rfl rfl rfl (by decide +kernel) ⟨Nat.le_of_ble_eq_true rfl, Nat.le_of_ble_eq_true rfl⟩) (z_recv hK (hP 0 _ rfl) rfl) hP hK rfl hl.1 rfl (Nat.le_of_ble_eq_true rfl) dX4_merge_10 ⟨Nat.zero_le _, Nat.zero_le _⟩ ?_
    refine z_ifp_eq (P := IsV σ (zj)) (tgt := 20) hx hb dX4_merge_13 (by decide)  (fun h13 => ?_) (fun h13 => ?_)
    · exfalso; omega
    ·
      refine z_iconst hx hb dX4_merge_16 ?_
      refine lv_goto (tgt := 21) hx hb dX4_merge_17 (by decide) ?_
      refine lv_istore_n (lv' := [(3, .int (zi (1))), (0, .ref (ad 0)), (1, .int (zi (zi1))), (2, .int (zi (zj)))]) hx hb dX4_merge_21 rfl hl (by decide) rfl (fun ls hl => ?_)
      refine lv_aload_n hx hb dX4_merge_22 rfl (lv_at hl 1 rfl) ?_
      refine lv_iload_n hx hb dX4_merge_23 rfl (lv_at hl 0 rfl) ?_
      refine z_if_ne (tgt := 31) hx hb dX4_merge_24 (by decide) (by omega) (fun h24 => ?_) (fun h24 => ?_)
      ·
        refine lv_iload_n hx hb dX4_merge_31 rfl (lv_at hl 2 rfl) ?_
        refine lv_iload_n hx hb dX4_merge_32 rfl (lv_at hl 3 rfl) ?_
        refine z_icmp_ne (tgt := 40) hx hb dX4_merge_33 (by decide) (by omega) (by omega) (fun h33 => ?_) (fun h33 => ?_)
        ·
          refine lv_aload_n hx hb dX4_merge_40 rfl (lv_at hl 1 rfl) ?_
          refine lv_iload_n hx hb dX4_merge_41 rfl (lv_at hl 2 rfl) ?_
          refine lv_iload_n hx hb dX4_merge_42 rfl (lv_at hl 3 rfl) ?_
          refine ro_V (rest := [.ref (ad 0)]) (As := [.int (zi (zi1)), .int (zi (zj))]) ⟨hx, hb, hml, hown, hts⟩ (c_X4_baseOf l g ad σ (th) hW (zi1) (zj) (by omega) (by omega)) (cwV 2 hts gX4_merge_X4_baseOf rfl rfl rfl (by decide +kernel) ⟨Nat.le_of_ble_eq_true rfl, Nat.le_of_ble_eq_true rfl⟩) (z_recv hK (hP 0 _ rfl) rfl) hP hK rfl hl.1 rfl (Nat.le_of_ble_eq_true rfl) dX4_merge_43 ⟨Nat.zero_le _, Nat.zero_le _⟩ ?_
          refine z_iconst hx hb dX4_merge_46 ?_
          refine z_icmp_eq (tgt := 59) hx hb dX4_merge_47 (by decide) (by omega) (by omega) (fun h47 => ?_) (fun h47 => ?_)
          · exfalso; omega
          ·
            refine lv_aload_n hx hb dX4_merge_50 rfl (lv_at hl 1 rfl) ?_
            refine z_get (C := RX4) (T := TX4) (N := 14) hx hb hts hiX4 hown hK (hP 0 _ rfl) rfl 0 (by decide) (hts (.fieldLink RX4 48 "HarmoniumDeskModel" "versions" "I") (by decide +kernel)) rfl rfl dX4_merge_51 ?_
            refine z_bipush hx hb dX4_merge_54 (by decide) ?_
            refine z_icmp_ne (tgt := 63) hx hb dX4_merge_56 (by decide) (by omega) (by omega) (fun h56 => ?_) (fun h56 => ?_)
            ·
              refine z_iconst hx hb dX4_merge_63 ?_
              refine wi_V (rest := []) (As := [.int (zi (0))]) ⟨hx, hb, hml, hown, hts⟩ (c_X4_fails l g ad σ (th) hW hd _ (0) (by omega)) (cwV 1 hts gX4_merge_X4_fails rfl rfl rfl (by decide +kernel) ⟨Nat.le_of_ble_eq_true rfl, Nat.le_of_ble_eq_true rfl⟩) (z_recv hK (hP 0 _ rfl) rfl) hP trivial hK rfl hl.1 rfl (Nat.le_of_ble_eq_true rfl) dX4_merge_64 ⟨Nat.zero_le _, Nat.zero_le _⟩ hS (MW_fr hS.1) (fun H locs hP _ _ hS => ?_)
              refine z_ifp_eq (P := 0 < (0)) (tgt := 72) hx hb dX4_merge_67 (by decide)  (fun h67 => ?_) (fun h67 => ?_)
              ·
                refine lv_aload_n hx hb dX4_merge_72 rfl (lv_at hl 1 rfl) ?_
                refine lv_iload_n hx hb dX4_merge_73 rfl (lv_at hl 2 rfl) ?_
                refine lv_iload_n hx hb dX4_merge_74 rfl (lv_at hl 3 rfl) ?_
                refine ro_V (rest := []) (As := [.int (zi (zi1)), .int (zi (zj))]) ⟨hx, hb, hml, hown, hts⟩ (c_X4_baseOf l g ad σ (0) hW (zi1) (zj) (by omega) (by omega)) (cwV 2 hts gX4_merge_X4_baseOf rfl rfl rfl (by decide +kernel) ⟨Nat.le_of_ble_eq_true rfl, Nat.le_of_ble_eq_true rfl⟩) (z_recv hK (hP 0 _ rfl) rfl) hP hK rfl hl.1 rfl (Nat.le_of_ble_eq_true rfl) dX4_merge_75 ⟨Nat.zero_le _, Nat.zero_le _⟩ ?_
                refine z_top (b := (bn : Int)) (hbn) ?_
                refine lv_istore (lv' := [(4, .int (zi ((bn : Int)))), (3, .int (zi (1))), (0, .ref (ad 0)), (1, .int (zi (zi1))), (2, .int (zi (zj)))]) hx hb dX4_merge_78 hl (by decide) rfl (fun ls hl => ?_)
                refine lv_aload_n hx hb dX4_merge_80 rfl (lv_at hl 2 rfl) ?_
                refine lv_iload_n hx hb dX4_merge_81 rfl (lv_at hl 3 rfl) ?_
                refine wi_V (rest := []) (As := [.int (zi (zi1))]) ⟨hx, hb, hml, hown, hts⟩ (c_X4_makes l g ad σ (0) hW hd _ i hi (zi1) (by omega) N hN hnf) (cwV 1 hts gX4_merge_X4_makes rfl rfl rfl (by decide +kernel) ⟨Nat.le_of_ble_eq_true rfl, Nat.le_of_ble_eq_true rfl⟩) (z_recv hK (hP 0 _ rfl) rfl) hP trivial hK rfl hl.1 rfl (Nat.le_of_ble_eq_true rfl) dX4_merge_82 ⟨Nat.zero_le _, Nat.zero_le _⟩ hS (MW_fr hS.1) (fun H locs hP _ _ hS => ?_)
                refine lv_istore (lv' := [(5, .int (zi ((N : Int)))), (4, .int (zi ((bn : Int)))), (3, .int (zi (1))), (0, .ref (ad 0)), (1, .int (zi (zi1))), (2, .int (zi (zj)))]) hx hb dX4_merge_85 hl (by decide) rfl (fun ls hl => ?_)
                refine lv_aload_n hx hb dX4_merge_87 rfl (lv_at hl 3 rfl) ?_
                refine z_get (C := RX4) (T := TX4) (N := 14) hx hb hts hiX4 hown hK (hP 0 _ rfl) rfl 3 (by decide) (hts (.fieldLink RX4 16 "HarmoniumDeskModel" "isFixed" "[Z") (by decide +kernel)) rfl rfl dX4_merge_88 ?_
                refine lv_iload_n hx hb dX4_merge_91 rfl (lv_at hl 5 rfl) ?_
                refine z_iconst hx hb dX4_merge_92 ?_
                refine z_mzast (x := 1) hx hb hd hK hP hS 3 3 30 rfl (j) (msa3 _ _ _ _ _ _) (by omega) (by omega) (by decide) (Or.inr rfl) dX4_merge_93 (fun H locs hP hS => ?_)
                refine z_iconst hx hb dX4_merge_94 ?_
                refine z_top (b := ((0 : Nat) : Int)) (rfl) ?_
                refine lv_istore (lv' := [(6, .int (zi (((0 : Nat) : Int)))), (5, .int (zi ((N : Int)))), (4, .int (zi ((bn : Int)))), (3, .int (zi (1))), (0, .ref (ad 0)), (1, .int (zi (zi1))), (2, .int (zi (zj)))]) hx hb dX4_merge_95 hl (by decide) rfl (fun ls hl => ?_)
                have loop97 : ∀ (d b : Nat), (b : Int) ≤ σ 1 i → (σ 1 i).toNat - b = d → ∀ (H : Heap) (locs : List Loc), va_P g.1 vwCl (MWs g ad (mgf (sup (opK σ N i) 3 j 1) (σ 5) N j (alB σ i bn) b) (0)) H → va_S (va_A (MWs g ad σ th) s.heap.size) s.heap H locs → ∀ ls : Array Slot, lv_has ls 7 [(6, .int (zi ((b : Int)))), (5, .int (zi ((N : Int)))), (4, .int (zi ((bn : Int)))), (3, .int (zi (1))), (0, .ref (ad 0)), (1, .int (zi (zi1))), (2, .int (zi (zj)))] → W p l e ({ frames := 2, cells := 0, slots := 0, locals := 48 }) s m ([.ref (ad 0), .int (zi (zi1)), .int (zi (zj))] : List Value).toArray below meth c H locs 0 0 (MQ below (va_Qi (fun z9 (_ : Unit) => z9 = zi ((N : Int))) (fun _ t9 => va_P g.1 vwCl (MWs g ad (opM σ N i j bn) (0)) t9.heap) (va_A (MWs g ad σ th) s.heap.size)) ([.ref (ad 0), .int (zi (zi1)), .int (zi (zj))] : List Value).toArray s 0 0 (va_A (MWs g ad σ th) s.heap.size)) (F0 m 97 ls []) := by
                  intro d
                  induction d with
                  | zero =>
                    intro b hb7 hd2 H locs hP hS ls hl
                    have eb : b = (σ 1 i).toNat := by omega
                    have hT0 : (mgf (sup (opK σ N i) 3 j 1) (σ 5) N j (alB σ i bn) b) 0 0 = ((N + 1 : Nat) : Int) := by rw [mgf_ne _ _ _ _ _ (by decide)]; rfl
                    have hT1 : (mgf (sup (opK σ N i) 3 j 1) (σ 5) N j (alB σ i bn) b) 1 i = σ 1 i := by rw [mgf_ne _ _ _ _ _ (by decide)]; exact if_neg (by omega)
                    refine lv_iload hx hb dX4_merge_97 (lv_at hl 0 rfl) ?_
                    refine lv_aload_n hx hb dX4_merge_99 rfl (lv_at hl 4 rfl) ?_
                    refine z_get (C := RX4) (T := TX4) (N := 14) hx hb hts hiX4 hown hK (hP 0 _ rfl) rfl 1 (by decide) (hts (.fieldLink RX4 7 "HarmoniumDeskModel" "bars" "[I") (by decide +kernel)) rfl rfl dX4_merge_100 ?_
                    refine lv_iload_n hx hb dX4_merge_103 rfl (lv_at hl 5 rfl) ?_
                    refine z_iald hx hb hK (hP 1 _ rfl) (i) (by omega) (by omega) (by decide) dX4_merge_104 ?_
                    refine z_top (b := σ 1 i) (hT1) ?_
                    refine z_icmp_ge (tgt := 176) hx hb dX4_merge_105 (by decide) (by omega) (by omega) (fun h105 => ?_) (fun h105 => ?_)
                    ·
                      refine lv_iload hx hb dX4_merge_176 (lv_at hl 1 rfl) ?_
                      exact z_wiret hx hb hr hlk dX4_merge_178 (rfl) (by rw [eb] at hP; exact hP) hS
                    · exfalso; omega
                  | succ d ih =>
                    intro b hb7 hd2 H locs hP hS ls hl
                    have hT0 : (mgf (sup (opK σ N i) 3 j 1) (σ 5) N j (alB σ i bn) b) 0 0 = ((N + 1 : Nat) : Int) := by rw [mgf_ne _ _ _ _ _ (by decide)]; rfl
                    have hT1 : (mgf (sup (opK σ N i) 3 j 1) (σ 5) N j (alB σ i bn) b) 1 i = σ 1 i := by rw [mgf_ne _ _ _ _ _ (by decide)]; exact if_neg (by omega)
                    have hT5 : ∀ q, q < 24 * N → (mgf (sup (opK σ N i) 3 j 1) (σ 5) N j (alB σ i bn) b) 5 q = σ 5 q := fun q hq => by rw [mgf_lt _ _ _ _ _ hq]; exact opK_lt hq
                    have hWT : WF (mgf (sup (opK σ N i) 3 j 1) (σ 5) N j (alB σ i bn) b) := (WF.setF (WF.opK hW hN hnf (by omega)) (by show (j : Int) < ((N + 1 : Nat) : Int); omega)).mgf hW.note N j _ b
                    refine lv_iload hx hb dX4_merge_97 (lv_at hl 0 rfl) ?_
                    refine lv_aload_n hx hb dX4_merge_99 rfl (lv_at hl 4 rfl) ?_
                    refine z_get (C := RX4) (T := TX4) (N := 14) hx hb hts hiX4 hown hK (hP 0 _ rfl) rfl 1 (by decide) (hts (.fieldLink RX4 7 "HarmoniumDeskModel" "bars" "[I") (by decide +kernel)) rfl rfl dX4_merge_100 ?_
                    refine lv_iload_n hx hb dX4_merge_103 rfl (lv_at hl 5 rfl) ?_
                    refine z_iald hx hb hK (hP 1 _ rfl) (i) (by omega) (by omega) (by decide) dX4_merge_104 ?_
                    refine z_top (b := σ 1 i) (hT1) ?_
                    refine z_icmp_ge (tgt := 176) hx hb dX4_merge_105 (by decide) (by omega) (by omega) (fun h105 => ?_) (fun h105 => ?_)
                    · exfalso; omega
                    ·
                      refine lv_aload_n hx hb dX4_merge_108 rfl (lv_at hl 4 rfl) ?_
                      refine lv_iload_n hx hb dX4_merge_109 rfl (lv_at hl 5 rfl) ?_
                      refine lv_iload hx hb dX4_merge_110 (lv_at hl 2 rfl) ?_
                      refine lv_iload hx hb dX4_merge_112 (lv_at hl 0 rfl) ?_
                      refine ro_V (rest := []) (As := [.int (zi (zi1)), .int (zi ((bn : Int))), .int (zi ((b : Int)))]) ⟨hx, hb, hml, hown, hts⟩ (c_X4_areAlike l g ad (mgf (sup (opK σ N i) 3 j 1) (σ 5) N j (alB σ i bn) b) (0) hWT i (by rw [hT0]; omega) (zi1) (by omega) bn (by rw [hT0]; omega) ((bn : Int)) (by omega) b (by omega) ((b : Int)) (by omega)) (cwV 3 hts gX4_merge_X4_areAlike rfl rfl rfl (by decide +kernel) ⟨Nat.le_of_ble_eq_true rfl, Nat.le_of_ble_eq_true rfl⟩) (z_recv hK (hP 0 _ rfl) rfl) hP hK rfl hl.1 rfl (Nat.le_of_ble_eq_true rfl) dX4_merge_114 ⟨Nat.zero_le _, Nat.zero_le _⟩ ?_
                      refine z_top (b := pz (Al σ i bn b)) (pz_c (Al_lt hT5 (by omega) (by omega) (by omega))) ?_
                      refine z_ifp_eq (P := Al σ i bn b) (tgt := 170) hx hb dX4_merge_117 (by decide)  (fun h117 => ?_) (fun h117 => ?_)
                      ·
                        refine z_iinc (b := ((b + 1 : Nat) : Int)) (lv' := [(6, .int (zi (((b + 1 : Nat) : Int)))), (5, .int (zi ((N : Int)))), (4, .int (zi ((bn : Int)))), (3, .int (zi (1))), (0, .ref (ad 0)), (1, .int (zi (zi1))), (2, .int (zi (zj)))]) hx hb dX4_merge_170 hl (k := 0) rfl (by omega) (by decide) rfl (fun ls hl => ?_)
                        refine lv_goto (tgt := 97) hx hb dX4_merge_173 (by decide) ?_
                        rw [mgf_f (sup (opK σ N i) 3 j 1) (σ 5) N j (alB σ i bn) b (fun hh => h117 (of_decide_eq_true hh))] at hP
                        exact ih (b + 1) (by omega) (by omega) H locs hP hS ls (lv_sub hl [0, 1, 2, 3, 4, 5, 6] rfl)
                      ·
                        refine lv_aload_n hx hb dX4_merge_120 rfl (lv_at hl 4 rfl) ?_
                        refine z_get (C := RX4) (T := TX4) (N := 14) hx hb hts hiX4 hown hK (hP 0 _ rfl) rfl 5 (by decide) (hts (.fieldLink RX4 23 "HarmoniumDeskModel" "notes" "[I") (by decide +kernel)) rfl rfl dX4_merge_121 ?_
                        refine lv_iload hx hb dX4_merge_124 (lv_at hl 1 rfl) ?_
                        refine z_iconst hx hb dX4_merge_126 ?_
                        refine lv_iload hx hb dX4_merge_127 (lv_at hl 0 rfl) ?_
                        refine ro_S (rest := [.ref (ad 5)]) (As := [.int (zi ((N : Int))), .int (zi (0)), .int (zi ((b : Int)))]) ⟨hx, hb, hml, hown, hts⟩ (c_X4_at l g ((N : Int)) (0) ((b : Int))) (cwS 3 hts gX4_merge_X4_at rfl rfl rfl (by decide +kernel) ⟨Nat.le_of_ble_eq_true rfl, Nat.le_of_ble_eq_true rfl⟩) trivial hK rfl hl.1 rfl (Nat.le_of_ble_eq_true rfl) dX4_merge_129 ⟨Nat.zero_le _, Nat.zero_le _⟩ ?_
                        refine lv_aload_n hx hb dX4_merge_132 rfl (lv_at hl 4 rfl) ?_
                        refine z_get (C := RX4) (T := TX4) (N := 14) hx hb hts hiX4 hown hK (hP 0 _ rfl) rfl 5 (by decide) (hts (.fieldLink RX4 23 "HarmoniumDeskModel" "notes" "[I") (by decide +kernel)) rfl rfl dX4_merge_133 ?_
                        refine lv_iload_n hx hb dX4_merge_136 rfl (lv_at hl 6 rfl) ?_
                        refine z_iconst hx hb dX4_merge_137 ?_
                        refine lv_iload hx hb dX4_merge_138 (lv_at hl 0 rfl) ?_
                        refine ro_S (rest := [.ref (ad 5), .int (zi (12 * (2 * ((N : Int)) + (0)) + ((b : Int)))), .ref (ad 5)]) (As := [.int (zi (zj)), .int (zi (0)), .int (zi ((b : Int)))]) ⟨hx, hb, hml, hown, hts⟩ (c_X4_at l g (zj) (0) ((b : Int))) (cwS 3 hts gX4_merge_X4_at rfl rfl rfl (by decide +kernel) ⟨Nat.le_of_ble_eq_true rfl, Nat.le_of_ble_eq_true rfl⟩) trivial hK rfl hl.1 rfl (Nat.le_of_ble_eq_true rfl) dX4_merge_140 ⟨Nat.zero_le _, Nat.zero_le _⟩ ?_
                        refine z_iald hx hb hK (hP 5 _ rfl) (24 * j + b) (by omega) (by omega) (by decide) dX4_merge_143 ?_
                        refine z_top (b := σ 5 (24 * j + b)) (hT5 _ (by omega)) ?_
                        refine z_mast (x := σ 5 (24 * j + b)) hx hb hd hK hP hS 5 5 720 rfl (24 * N + b) (msa5 _ _ _ _ _ _) (by omega) (by omega) (by decide) dX4_merge_144 (fun H locs hP hS => ?_)
                        refine lv_aload_n hx hb dX4_merge_145 rfl (lv_at hl 4 rfl) ?_
                        refine z_get (C := RX4) (T := TX4) (N := 14) hx hb hts hiX4 hown hK (hP 0 _ rfl) rfl 5 (by decide) (hts (.fieldLink RX4 23 "HarmoniumDeskModel" "notes" "[I") (by decide +kernel)) rfl rfl dX4_merge_146 ?_
                        refine lv_iload hx hb dX4_merge_149 (lv_at hl 1 rfl) ?_
                        refine z_iconst hx hb dX4_merge_151 ?_
                        refine lv_iload hx hb dX4_merge_152 (lv_at hl 0 rfl) ?_
                        refine ro_S (rest := [.ref (ad 5)]) (As := [.int (zi ((N : Int))), .int (zi (1)), .int (zi ((b : Int)))]) ⟨hx, hb, hml, hown, hts⟩ (c_X4_at l g ((N : Int)) (1) ((b : Int))) (cwS 3 hts gX4_merge_X4_at rfl rfl rfl (by decide +kernel) ⟨Nat.le_of_ble_eq_true rfl, Nat.le_of_ble_eq_true rfl⟩) trivial hK rfl hl.1 rfl (Nat.le_of_ble_eq_true rfl) dX4_merge_154 ⟨Nat.zero_le _, Nat.zero_le _⟩ ?_
                        refine lv_aload_n hx hb dX4_merge_157 rfl (lv_at hl 4 rfl) ?_
                        refine z_get (C := RX4) (T := TX4) (N := 14) hx hb hts hiX4 hown hK (hP 0 _ rfl) rfl 5 (by decide) (hts (.fieldLink RX4 23 "HarmoniumDeskModel" "notes" "[I") (by decide +kernel)) rfl rfl dX4_merge_158 ?_
                        refine lv_iload_n hx hb dX4_merge_161 rfl (lv_at hl 6 rfl) ?_
                        refine z_iconst hx hb dX4_merge_162 ?_
                        refine lv_iload hx hb dX4_merge_163 (lv_at hl 0 rfl) ?_
                        refine ro_S (rest := [.ref (ad 5), .int (zi (12 * (2 * ((N : Int)) + (1)) + ((b : Int)))), .ref (ad 5)]) (As := [.int (zi (zj)), .int (zi (1)), .int (zi ((b : Int)))]) ⟨hx, hb, hml, hown, hts⟩ (c_X4_at l g (zj) (1) ((b : Int))) (cwS 3 hts gX4_merge_X4_at rfl rfl rfl (by decide +kernel) ⟨Nat.le_of_ble_eq_true rfl, Nat.le_of_ble_eq_true rfl⟩) trivial hK rfl hl.1 rfl (Nat.le_of_ble_eq_true rfl) dX4_merge_165 ⟨Nat.zero_le _, Nat.zero_le _⟩ ?_
                        refine z_iald hx hb hK (hP 5 _ rfl) (24 * j + 12 + b) (by omega) (by omega) (by decide) dX4_merge_168 ?_
                        refine z_top (b := σ 5 (24 * j + 12 + b)) (by rw [sup_eq]; unfold va_up; rw [if_neg (by omega)]; exact hT5 _ (by omega)) ?_
                        refine z_mast (x := σ 5 (24 * j + 12 + b)) hx hb hd hK hP hS 5 5 720 rfl (24 * N + 12 + b) (msa5 _ _ _ _ _ _) (by omega) (by omega) (by decide) dX4_merge_169 (fun H locs hP hS => ?_)
                        refine z_iinc (b := ((b + 1 : Nat) : Int)) (lv' := [(6, .int (zi (((b + 1 : Nat) : Int)))), (5, .int (zi ((N : Int)))), (4, .int (zi ((bn : Int)))), (3, .int (zi (1))), (0, .ref (ad 0)), (1, .int (zi (zi1))), (2, .int (zi (zj)))]) hx hb dX4_merge_170 hl (k := 0) rfl (by omega) (by decide) rfl (fun ls hl => ?_)
                        refine lv_goto (tgt := 97) hx hb dX4_merge_173 (by decide) ?_
                        rw [mgf_t (sup (opK σ N i) 3 j 1) (σ 5) N j (alB σ i bn) b (decide_eq_true h117)] at hP
                        exact ih (b + 1) (by omega) (by omega) H locs hP hS ls (lv_sub hl [0, 1, 2, 3, 4, 5, 6] rfl)
                exact loop97 _ 0 (by omega) rfl _ _ hP hS ls (lv_sub hl [0, 1, 2, 3, 4, 5, 6] rfl)
              · exfalso; omega
            · exfalso; omega
        · exfalso; omega
      · exfalso; omega
