set_option maxHeartbeats 4000000 in
set_option maxRecDepth 100000 in
theorem c_X4_setWeight_1 (l : Launch) (g : gG) (ad : Nat → Nat) (σ : SG) (th : Int) (hW : WF σ) (hd : Dst ad) (sz : Nat) (r t : Int) (hr9 : zr r) (ht : zr t) (hbad : ¬ (0 ≤ r ∧ r ≤ 5)) : MI l yX4_setWeight wsX4_setWeight ({ frames := 1, cells := 0, slots := 0, locals := 22 }) g ad [.int (zi (r)), .int (zi (t))] sz σ th (σ) (1) (0) := by
  refine ZM.ofW (cc := cX4_setWeight) (maxL := 5) (ret := (some .int)) (by decide) rfl (Nat.le_of_ble_eq_true rfl) ?_
  intro p e s m below meth c ls hx hb hr hml hown hts hlk hP hK hl _
  obtain ⟨rfl, hP, -⟩ := hP
  have hS : va_S (va_A (MWs g ad σ th) s.heap.size) s.heap s.heap [] := va_S.rf
  have hown : s.vm.findClass RX4 = some m.cls := hown
  have hl : lv_has ls 5 [(0, .ref (ad 0)), (1, .int (zi (r))), (2, .int (zi (t)))] := hl
  have hn := hW.n
  refine lv_iload_n hx hb dX4_setWeight_0 rfl (lv_at hl 1 rfl) ?_
  refine z_iconst hx hb dX4_setWeight_1 ?_
  refine z_iconst hx hb dX4_setWeight_2 ?_
  refine ro_S (rest := []) (As := [.int (zi (r)), .int (zi (0)), .int (zi (5))]) ⟨hx, hb, hml, hown, hts⟩ (c_X4_isIn l g (r) (0) (5) (by omega) (by omega) (by omega)) (cwS 3 hts gX4_setWeight_X4_isIn rfl rfl rfl (by decide +kernel) ⟨Nat.le_of_ble_eq_true rfl, Nat.le_of_ble_eq_true rfl⟩) trivial hK rfl hl.1 rfl (Nat.le_of_ble_eq_true rfl) dX4_setWeight_3 ⟨Nat.zero_le _, Nat.zero_le _⟩ ?_
  refine lv_istore_n (lv' := [(3, .int (zi (pz ((0) ≤ (r) ∧ (r) ≤ (5))))), (0, .ref (ad 0)), (1, .int (zi (r))), (2, .int (zi (t)))]) hx hb dX4_setWeight_6 rfl hl (by decide) rfl (fun ls hl => ?_)
  refine lv_aload_n hx hb dX4_setWeight_7 rfl (lv_at hl 1 rfl) ?_
  refine lv_iload_n hx hb dX4_setWeight_8 rfl (lv_at hl 0 rfl) ?_
  refine z_ifp_ne (P := (0) ≤ (r) ∧ (r) ≤ (5)) (tgt := 16) hx hb dX4_setWeight_9 (by decide)  (fun h9 => ?_) (fun h9 => ?_)
  · exfalso; omega
  ·
    refine z_iconst hx hb dX4_setWeight_12 ?_
    refine lv_goto (tgt := 31) hx hb dX4_setWeight_13 (by decide) ?_
    refine wi_V (rest := []) (As := [.int (zi (1))]) ⟨hx, hb, hml, hown, hts⟩ (c_X4_fails l g ad σ (th) hW hd _ (1) (by omega)) (cwV 1 hts gX4_setWeight_X4_fails rfl rfl rfl (by decide +kernel) ⟨Nat.le_of_ble_eq_true rfl, Nat.le_of_ble_eq_true rfl⟩) (z_recv hK (hP 0 _ rfl) rfl) hP trivial hK rfl hl.1 rfl (Nat.le_of_ble_eq_true rfl) dX4_setWeight_31 ⟨Nat.zero_le _, Nat.zero_le _⟩ hS (MW_fr hS.1) (fun H locs hP _ _ hS => ?_)
    refine z_ifp_eq (P := 0 < (1)) (tgt := 39) hx hb dX4_setWeight_34 (by decide)  (fun h34 => ?_) (fun h34 => ?_)
    · exfalso; omega
    ·
      refine z_iconst hx hb dX4_setWeight_37 ?_
      exact z_wiret hx hb hr hlk dX4_setWeight_38 (by omega) hP hS

set_option maxHeartbeats 4000000 in
set_option maxRecDepth 100000 in
theorem c_X4_setWeight_2 (l : Launch) (g : gG) (ad : Nat → Nat) (σ : SG) (th : Int) (hW : WF σ) (hd : Dst ad) (sz : Nat) (r t : Int) (hr9 : zr r) (ht : zr t) (hg : 0 ≤ r ∧ r ≤ 5) (hbad : ¬ (0 ≤ t ∧ t ≤ 50)) : MI l yX4_setWeight wsX4_setWeight ({ frames := 1, cells := 0, slots := 0, locals := 22 }) g ad [.int (zi (r)), .int (zi (t))] sz σ th (σ) (2) (0) := by
  refine ZM.ofW (cc := cX4_setWeight) (maxL := 5) (ret := (some .int)) (by decide) rfl (Nat.le_of_ble_eq_true rfl) ?_
  intro p e s m below meth c ls hx hb hr hml hown hts hlk hP hK hl _
  obtain ⟨rfl, hP, -⟩ := hP
  have hS : va_S (va_A (MWs g ad σ th) s.heap.size) s.heap s.heap [] := va_S.rf
  have hown : s.vm.findClass RX4 = some m.cls := hown
  have hl : lv_has ls 5 [(0, .ref (ad 0)), (1, .int (zi (r))), (2, .int (zi (t)))] := hl
  have hn := hW.n
  refine lv_iload_n hx hb dX4_setWeight_0 rfl (lv_at hl 1 rfl) ?_
  refine z_iconst hx hb dX4_setWeight_1 ?_
  refine z_iconst hx hb dX4_setWeight_2 ?_
  refine ro_S (rest := []) (As := [.int (zi (r)), .int (zi (0)), .int (zi (5))]) ⟨hx, hb, hml, hown, hts⟩ (c_X4_isIn l g (r) (0) (5) (by omega) (by omega) (by omega)) (cwS 3 hts gX4_setWeight_X4_isIn rfl rfl rfl (by decide +kernel) ⟨Nat.le_of_ble_eq_true rfl, Nat.le_of_ble_eq_true rfl⟩) trivial hK rfl hl.1 rfl (Nat.le_of_ble_eq_true rfl) dX4_setWeight_3 ⟨Nat.zero_le _, Nat.zero_le _⟩ ?_
  refine lv_istore_n (lv' := [(3, .int (zi (pz ((0) ≤ (r) ∧ (r) ≤ (5))))), (0, .ref (ad 0)), (1, .int (zi (r))), (2, .int (zi (t)))]) hx hb dX4_setWeight_6 rfl hl (by decide) rfl (fun ls hl => ?_)
  refine lv_aload_n hx hb dX4_setWeight_7 rfl (lv_at hl 1 rfl) ?_
  refine lv_iload_n hx hb dX4_setWeight_8 rfl (lv_at hl 0 rfl) ?_
  refine z_ifp_ne (P := (0) ≤ (r) ∧ (r) ≤ (5)) (tgt := 16) hx hb dX4_setWeight_9 (by decide)  (fun h9 => ?_) (fun h9 => ?_)
  ·
    refine lv_iload_n hx hb dX4_setWeight_16 rfl (lv_at hl 3 rfl) ?_
    refine z_iconst hx hb dX4_setWeight_17 ?_
    refine z_bipush hx hb dX4_setWeight_18 (by decide) ?_
    refine ro_S (rest := [.ref (ad 0)]) (As := [.int (zi (t)), .int (zi (0)), .int (zi (50))]) ⟨hx, hb, hml, hown, hts⟩ (c_X4_isIn l g (t) (0) (50) (by omega) (by omega) (by omega)) (cwS 3 hts gX4_setWeight_X4_isIn rfl rfl rfl (by decide +kernel) ⟨Nat.le_of_ble_eq_true rfl, Nat.le_of_ble_eq_true rfl⟩) trivial hK rfl hl.1 rfl (Nat.le_of_ble_eq_true rfl) dX4_setWeight_20 ⟨Nat.zero_le _, Nat.zero_le _⟩ ?_
    refine z_ifp_eq (P := (0) ≤ (t) ∧ (t) ≤ (50)) (tgt := 30) hx hb dX4_setWeight_23 (by decide)  (fun h23 => ?_) (fun h23 => ?_)
    ·
      refine z_iconst hx hb dX4_setWeight_30 ?_
      refine wi_V (rest := []) (As := [.int (zi (2))]) ⟨hx, hb, hml, hown, hts⟩ (c_X4_fails l g ad σ (th) hW hd _ (2) (by omega)) (cwV 1 hts gX4_setWeight_X4_fails rfl rfl rfl (by decide +kernel) ⟨Nat.le_of_ble_eq_true rfl, Nat.le_of_ble_eq_true rfl⟩) (z_recv hK (hP 0 _ rfl) rfl) hP trivial hK rfl hl.1 rfl (Nat.le_of_ble_eq_true rfl) dX4_setWeight_31 ⟨Nat.zero_le _, Nat.zero_le _⟩ hS (MW_fr hS.1) (fun H locs hP _ _ hS => ?_)
      refine z_ifp_eq (P := 0 < (2)) (tgt := 39) hx hb dX4_setWeight_34 (by decide)  (fun h34 => ?_) (fun h34 => ?_)
      · exfalso; omega
      ·
        refine z_iconst hx hb dX4_setWeight_37 ?_
        exact z_wiret hx hb hr hlk dX4_setWeight_38 (by omega) hP hS
    · exfalso; omega
  · exfalso; omega

set_option maxHeartbeats 4000000 in
set_option maxRecDepth 100000 in
theorem c_X4_setWeight_0 (l : Launch) (g : gG) (ad : Nat → Nat) (σ : SG) (th : Int) (hW : WF σ) (hd : Dst ad) (sz : Nat) (r : Nat) (hr6 : r < 6) (z : Int) (hz : z = (r : Int)) (t : Int) (hg2 : 0 ≤ t ∧ t ≤ 50) : MI l yX4_setWeight wsX4_setWeight ({ frames := 1, cells := 0, slots := 0, locals := 22 }) g ad [.int (zi (z)), .int (zi (t))] sz σ th (sup σ 6 r t) (0) (σ 6 r) := by
  refine ZM.ofW (cc := cX4_setWeight) (maxL := 5) (ret := (some .int)) (by decide) rfl (Nat.le_of_ble_eq_true rfl) ?_
  intro p e s m below meth c ls hx hb hr hml hown hts hlk hP hK hl _
  obtain ⟨rfl, hP, -⟩ := hP
  have hS : va_S (va_A (MWs g ad σ th) s.heap.size) s.heap s.heap [] := va_S.rf
  have hown : s.vm.findClass RX4 = some m.cls := hown
  have hl : lv_has ls 5 [(0, .ref (ad 0)), (1, .int (zi (z))), (2, .int (zi (t)))] := hl
  have hiX4 : ∀ w ∈ u_ws RX4 TX4 14, w ∈ wsX4_setWeight := by decide +kernel
  have hn := hW.n
  refine lv_iload_n hx hb dX4_setWeight_0 rfl (lv_at hl 1 rfl) ?_
  refine z_iconst hx hb dX4_setWeight_1 ?_
  refine z_iconst hx hb dX4_setWeight_2 ?_
  refine ro_S (rest := []) (As := [.int (zi (z)), .int (zi (0)), .int (zi (5))]) ⟨hx, hb, hml, hown, hts⟩ (c_X4_isIn l g (z) (0) (5) (by omega) (by omega) (by omega)) (cwS 3 hts gX4_setWeight_X4_isIn rfl rfl rfl (by decide +kernel) ⟨Nat.le_of_ble_eq_true rfl, Nat.le_of_ble_eq_true rfl⟩) trivial hK rfl hl.1 rfl (Nat.le_of_ble_eq_true rfl) dX4_setWeight_3 ⟨Nat.zero_le _, Nat.zero_le _⟩ ?_
  refine lv_istore_n (lv' := [(3, .int (zi (pz ((0) ≤ (z) ∧ (z) ≤ (5))))), (0, .ref (ad 0)), (1, .int (zi (z))), (2, .int (zi (t)))]) hx hb dX4_setWeight_6 rfl hl (by decide) rfl (fun ls hl => ?_)
  refine lv_aload_n hx hb dX4_setWeight_7 rfl (lv_at hl 1 rfl) ?_
  refine lv_iload_n hx hb dX4_setWeight_8 rfl (lv_at hl 0 rfl) ?_
  refine z_ifp_ne (P := (0) ≤ (z) ∧ (z) ≤ (5)) (tgt := 16) hx hb dX4_setWeight_9 (by decide)  (fun h9 => ?_) (fun h9 => ?_)
  ·
    refine lv_iload_n hx hb dX4_setWeight_16 rfl (lv_at hl 3 rfl) ?_
    refine z_iconst hx hb dX4_setWeight_17 ?_
    refine z_bipush hx hb dX4_setWeight_18 (by decide) ?_
    refine ro_S (rest := [.ref (ad 0)]) (As := [.int (zi (t)), .int (zi (0)), .int (zi (50))]) ⟨hx, hb, hml, hown, hts⟩ (c_X4_isIn l g (t) (0) (50) (by omega) (by omega) (by omega)) (cwS 3 hts gX4_setWeight_X4_isIn rfl rfl rfl (by decide +kernel) ⟨Nat.le_of_ble_eq_true rfl, Nat.le_of_ble_eq_true rfl⟩) trivial hK rfl hl.1 rfl (Nat.le_of_ble_eq_true rfl) dX4_setWeight_20 ⟨Nat.zero_le _, Nat.zero_le _⟩ ?_
    refine z_ifp_eq (P := (0) ≤ (t) ∧ (t) ≤ (50)) (tgt := 30) hx hb dX4_setWeight_23 (by decide)  (fun h23 => ?_) (fun h23 => ?_)
    · exfalso; omega
    ·
      refine z_iconst hx hb dX4_setWeight_26 ?_
      refine lv_goto (tgt := 31) hx hb dX4_setWeight_27 (by decide) ?_
      refine wi_V (rest := []) (As := [.int (zi (0))]) ⟨hx, hb, hml, hown, hts⟩ (c_X4_fails l g ad σ (th) hW hd _ (0) (by omega)) (cwV 1 hts gX4_setWeight_X4_fails rfl rfl rfl (by decide +kernel) ⟨Nat.le_of_ble_eq_true rfl, Nat.le_of_ble_eq_true rfl⟩) (z_recv hK (hP 0 _ rfl) rfl) hP trivial hK rfl hl.1 rfl (Nat.le_of_ble_eq_true rfl) dX4_setWeight_31 ⟨Nat.zero_le _, Nat.zero_le _⟩ hS (MW_fr hS.1) (fun H locs hP _ _ hS => ?_)
      refine z_ifp_eq (P := 0 < (0)) (tgt := 39) hx hb dX4_setWeight_34 (by decide)  (fun h34 => ?_) (fun h34 => ?_)
      ·
        refine lv_aload_n hx hb dX4_setWeight_39 rfl (lv_at hl 1 rfl) ?_
        refine z_get (C := RX4) (T := TX4) (N := 14) hx hb hts hiX4 hown hK (hP 0 _ rfl) rfl 6 (by decide) (hts (.fieldLink RX4 26 "HarmoniumDeskModel" "weight" "[I") (by decide +kernel)) rfl rfl dX4_setWeight_40 ?_
        refine lv_iload_n hx hb dX4_setWeight_43 rfl (lv_at hl 2 rfl) ?_
        refine z_iald hx hb hK (hP 6 _ rfl) (r) (by omega) (by omega) (by decide) dX4_setWeight_44 ?_
        refine lv_istore (lv' := [(4, .int (zi (σ 6 (r)))), (3, .int (zi (pz ((0) ≤ (z) ∧ (z) ≤ (5))))), (0, .ref (ad 0)), (1, .int (zi (z))), (2, .int (zi (t)))]) hx hb dX4_setWeight_45 hl (by decide) rfl (fun ls hl => ?_)
        refine lv_aload_n hx hb dX4_setWeight_47 rfl (lv_at hl 2 rfl) ?_
        refine z_get (C := RX4) (T := TX4) (N := 14) hx hb hts hiX4 hown hK (hP 0 _ rfl) rfl 6 (by decide) (hts (.fieldLink RX4 26 "HarmoniumDeskModel" "weight" "[I") (by decide +kernel)) rfl rfl dX4_setWeight_48 ?_
        refine lv_iload_n hx hb dX4_setWeight_51 rfl (lv_at hl 3 rfl) ?_
        refine lv_iload_n hx hb dX4_setWeight_52 rfl (lv_at hl 4 rfl) ?_
        refine z_mast (x := t) hx hb hd hK hP hS 6 6 6 rfl (r) (msa6 _ _ _ _ _ _) (by omega) (by omega) (by decide) dX4_setWeight_53 (fun H locs hP hS => ?_)
        refine lv_iload hx hb dX4_setWeight_54 (lv_at hl 0 rfl) ?_
        exact z_wiret hx hb hr hlk dX4_setWeight_56 (rfl) hP hS
      · exfalso; omega
  · exfalso; omega

set_option maxHeartbeats 4000000 in
set_option maxRecDepth 100000 in
theorem c_X4_setPass_1 (l : Launch) (g : gG) (ad : Nat → Nat) (σ : SG) (th : Int) (hW : WF σ) (hd : Dst ad) (sz : Nat) (t : Int) (ht : zr t) (hbad : ¬ (0 ≤ t ∧ t ≤ 100)) : MI l yX4_setPass wsX4_setPass ({ frames := 1, cells := 0, slots := 0, locals := 22 }) g ad [.int (zi (t))] sz σ th (σ) (1) (0) := by
  refine ZM.ofW (cc := cX4_setPass) (maxL := 3) (ret := (some .int)) (by decide) rfl (Nat.le_of_ble_eq_true rfl) ?_
  intro p e s m below meth c ls hx hb hr hml hown hts hlk hP hK hl _
  obtain ⟨rfl, hP, -⟩ := hP
  have hS : va_S (va_A (MWs g ad σ th) s.heap.size) s.heap s.heap [] := va_S.rf
  have hown : s.vm.findClass RX4 = some m.cls := hown
  have hl : lv_has ls 3 [(0, .ref (ad 0)), (1, .int (zi (t)))] := hl
  have hn := hW.n
  refine lv_aload_n hx hb dX4_setPass_0 rfl (lv_at hl 0 rfl) ?_
  refine lv_iload_n hx hb dX4_setPass_1 rfl (lv_at hl 1 rfl) ?_
  refine z_iconst hx hb dX4_setPass_2 ?_
  refine z_bipush hx hb dX4_setPass_3 (by decide) ?_
  refine ro_S (rest := [.ref (ad 0)]) (As := [.int (zi (t)), .int (zi (0)), .int (zi (100))]) ⟨hx, hb, hml, hown, hts⟩ (c_X4_isIn l g (t) (0) (100) (by omega) (by omega) (by omega)) (cwS 3 hts gX4_setPass_X4_isIn rfl rfl rfl (by decide +kernel) ⟨Nat.le_of_ble_eq_true rfl, Nat.le_of_ble_eq_true rfl⟩) trivial hK rfl hl.1 rfl (Nat.le_of_ble_eq_true rfl) dX4_setPass_5 ⟨Nat.zero_le _, Nat.zero_le _⟩ ?_
  refine z_ifp_eq (P := (0) ≤ (t) ∧ (t) ≤ (100)) (tgt := 15) hx hb dX4_setPass_8 (by decide)  (fun h8 => ?_) (fun h8 => ?_)
  ·
    refine z_iconst hx hb dX4_setPass_15 ?_
    refine wi_V (rest := []) (As := [.int (zi (1))]) ⟨hx, hb, hml, hown, hts⟩ (c_X4_fails l g ad σ (th) hW hd _ (1) (by omega)) (cwV 1 hts gX4_setPass_X4_fails rfl rfl rfl (by decide +kernel) ⟨Nat.le_of_ble_eq_true rfl, Nat.le_of_ble_eq_true rfl⟩) (z_recv hK (hP 0 _ rfl) rfl) hP trivial hK rfl hl.1 rfl (Nat.le_of_ble_eq_true rfl) dX4_setPass_16 ⟨Nat.zero_le _, Nat.zero_le _⟩ hS (MW_fr hS.1) (fun H locs hP _ _ hS => ?_)
    refine z_ifp_eq (P := 0 < (1)) (tgt := 24) hx hb dX4_setPass_19 (by decide)  (fun h19 => ?_) (fun h19 => ?_)
    · exfalso; omega
    ·
      refine z_iconst hx hb dX4_setPass_22 ?_
      exact z_wiret hx hb hr hlk dX4_setPass_23 (by omega) hP hS
  · exfalso; omega

set_option maxHeartbeats 4000000 in
set_option maxRecDepth 100000 in
theorem c_X4_setPass_0 (l : Launch) (g : gG) (ad : Nat → Nat) (σ : SG) (th : Int) (hW : WF σ) (hd : Dst ad) (sz : Nat) (t : Int) (hg : 0 ≤ t ∧ t ≤ 100) : MI l yX4_setPass wsX4_setPass ({ frames := 1, cells := 0, slots := 0, locals := 22 }) g ad [.int (zi (t))] sz σ th (sup σ 7 0 t) (0) (σ 7 0) := by
  refine ZM.ofW (cc := cX4_setPass) (maxL := 3) (ret := (some .int)) (by decide) rfl (Nat.le_of_ble_eq_true rfl) ?_
  intro p e s m below meth c ls hx hb hr hml hown hts hlk hP hK hl _
  obtain ⟨rfl, hP, -⟩ := hP
  have hS : va_S (va_A (MWs g ad σ th) s.heap.size) s.heap s.heap [] := va_S.rf
  have hown : s.vm.findClass RX4 = some m.cls := hown
  have hl : lv_has ls 3 [(0, .ref (ad 0)), (1, .int (zi (t)))] := hl
  have hiX4 : ∀ w ∈ u_ws RX4 TX4 14, w ∈ wsX4_setPass := by decide +kernel
  have hn := hW.n
  refine lv_aload_n hx hb dX4_setPass_0 rfl (lv_at hl 0 rfl) ?_
  refine lv_iload_n hx hb dX4_setPass_1 rfl (lv_at hl 1 rfl) ?_
  refine z_iconst hx hb dX4_setPass_2 ?_
  refine z_bipush hx hb dX4_setPass_3 (by decide) ?_
  refine ro_S (rest := [.ref (ad 0)]) (As := [.int (zi (t)), .int (zi (0)), .int (zi (100))]) ⟨hx, hb, hml, hown, hts⟩ (c_X4_isIn l g (t) (0) (100) (by omega) (by omega) (by omega)) (cwS 3 hts gX4_setPass_X4_isIn rfl rfl rfl (by decide +kernel) ⟨Nat.le_of_ble_eq_true rfl, Nat.le_of_ble_eq_true rfl⟩) trivial hK rfl hl.1 rfl (Nat.le_of_ble_eq_true rfl) dX4_setPass_5 ⟨Nat.zero_le _, Nat.zero_le _⟩ ?_
  refine z_ifp_eq (P := (0) ≤ (t) ∧ (t) ≤ (100)) (tgt := 15) hx hb dX4_setPass_8 (by decide)  (fun h8 => ?_) (fun h8 => ?_)
  · exfalso; omega
  ·
    refine z_iconst hx hb dX4_setPass_11 ?_
    refine lv_goto (tgt := 16) hx hb dX4_setPass_12 (by decide) ?_
    refine wi_V (rest := []) (As := [.int (zi (0))]) ⟨hx, hb, hml, hown, hts⟩ (c_X4_fails l g ad σ (th) hW hd _ (0) (by omega)) (cwV 1 hts gX4_setPass_X4_fails rfl rfl rfl (by decide +kernel) ⟨Nat.le_of_ble_eq_true rfl, Nat.le_of_ble_eq_true rfl⟩) (z_recv hK (hP 0 _ rfl) rfl) hP trivial hK rfl hl.1 rfl (Nat.le_of_ble_eq_true rfl) dX4_setPass_16 ⟨Nat.zero_le _, Nat.zero_le _⟩ hS (MW_fr hS.1) (fun H locs hP _ _ hS => ?_)
    refine z_ifp_eq (P := 0 < (0)) (tgt := 24) hx hb dX4_setPass_19 (by decide)  (fun h19 => ?_) (fun h19 => ?_)
    ·
      refine lv_aload_n hx hb dX4_setPass_24 rfl (lv_at hl 0 rfl) ?_
      refine z_get (C := RX4) (T := TX4) (N := 14) hx hb hts hiX4 hown hK (hP 0 _ rfl) rfl 7 (by decide) (hts (.fieldLink RX4 29 "HarmoniumDeskModel" "pass" "I") (by decide +kernel)) rfl rfl dX4_setPass_25 ?_
      refine lv_istore_n (lv' := [(2, .int (zi (σ 7 0))), (0, .ref (ad 0)), (1, .int (zi (t)))]) hx hb dX4_setPass_28 rfl hl (by decide) rfl (fun ls hl => ?_)
      refine lv_aload_n hx hb dX4_setPass_29 rfl (lv_at hl 1 rfl) ?_
      refine lv_iload_n hx hb dX4_setPass_30 rfl (lv_at hl 2 rfl) ?_
      refine z_mput hx hb hd hts hiX4 hown hK hP hS 7 (by decide) (hts (.fieldLink RX4 29 "HarmoniumDeskModel" "pass" "I") (by decide +kernel)) rfl rfl rfl (ms7 _ _ _ _ _) dX4_setPass_31 (fun H locs hP hS => ?_)
      refine lv_iload_n hx hb dX4_setPass_34 rfl (lv_at hl 0 rfl) ?_
      exact z_wiret hx hb hr hlk dX4_setPass_35 (rfl) hP hS
    · exfalso; omega

set_option maxHeartbeats 4000000 in
set_option maxRecDepth 100000 in
theorem c_X4_faults_1 (l : Launch) (g : gG) (ad : Nat → Nat) (σ : SG) (th : Int) (hW : WF σ) (hd : Dst ad) (sz : Nat) (z b r : Int) (hz : zr z) (hb9 : zr b) (hr9 : zr r) (hbad : ¬ (IsN σ z 0 b ∧ 0 ≤ r ∧ r ≤ 5)) : MI l yX4_faults wsX4_faults ({ frames := 3, cells := 0, slots := 0, locals := 66 }) g ad [.int (zi (z)), .int (zi (b)), .int (zi (r))] sz σ th (σ) (1) (0) := by
  refine ZM.ofW (cc := cX4_faults) (maxL := 5) (ret := (some .int)) (by decide) rfl (Nat.le_of_ble_eq_true rfl) ?_
  intro p e s m below meth c ls hx hb hr hml hown hts hlk hP hK hl _
  obtain ⟨rfl, hP, -⟩ := hP
  have hS : va_S (va_A (MWs g ad σ th) s.heap.size) s.heap s.heap [] := va_S.rf
  have hown : s.vm.findClass RX4 = some m.cls := hown
  have hl : lv_has ls 5 [(0, .ref (ad 0)), (1, .int (zi (z))), (2, .int (zi (b))), (3, .int (zi (r)))] := hl
  have hn := hW.n
  refine lv_aload_n hx hb dX4_faults_0 rfl (lv_at hl 0 rfl) ?_
  refine lv_iload_n hx hb dX4_faults_1 rfl (lv_at hl 1 rfl) ?_
  refine z_iconst hx hb dX4_faults_2 ?_
  refine lv_iload_n hx hb dX4_faults_3 rfl (lv_at hl 2 rfl) ?_
  refine ro_V (rest := []) (As := [.int (zi (z)), .int (zi (0)), .int (zi (b))]) ⟨hx, hb, hml, hown, hts⟩ (c_X4_isNote l g ad σ (th) hW (z) (0) (b) (by omega) (by omega) (by omega)) (cwV 3 hts gX4_faults_X4_isNote rfl rfl rfl (by decide +kernel) ⟨Nat.le_of_ble_eq_true rfl, Nat.le_of_ble_eq_true rfl⟩) (z_recv hK (hP 0 _ rfl) rfl) hP hK rfl hl.1 rfl (Nat.le_of_ble_eq_true rfl) dX4_faults_4 ⟨Nat.zero_le _, Nat.zero_le _⟩ ?_
  refine z_ifp_eq (P := IsN σ (z) (0) (b)) (tgt := 23) hx hb dX4_faults_7 (by decide)  (fun h7 => ?_) (fun h7 => ?_)
  ·
    refine z_iconst hx hb dX4_faults_23 ?_
    refine lv_istore (lv' := [(4, .int (zi (0))), (0, .ref (ad 0)), (1, .int (zi (z))), (2, .int (zi (b))), (3, .int (zi (r)))]) hx hb dX4_faults_24 hl (by decide) rfl (fun ls hl => ?_)
    refine lv_aload_n hx hb dX4_faults_26 rfl (lv_at hl 1 rfl) ?_
    refine lv_iload hx hb dX4_faults_27 (lv_at hl 0 rfl) ?_
    refine z_if_eq (tgt := 36) hx hb dX4_faults_29 (by decide) (by omega) (fun h29 => ?_) (fun h29 => ?_)
    ·
      refine z_iconst hx hb dX4_faults_36 ?_
      refine wi_V (rest := []) (As := [.int (zi (1))]) ⟨hx, hb, hml, hown, hts⟩ (c_X4_fails l g ad σ (th) hW hd _ (1) (by omega)) (cwV 1 hts gX4_faults_X4_fails rfl rfl rfl (by decide +kernel) ⟨Nat.le_of_ble_eq_true rfl, Nat.le_of_ble_eq_true rfl⟩) (z_recv hK (hP 0 _ rfl) rfl) hP trivial hK rfl hl.1 rfl (Nat.le_of_ble_eq_true rfl) dX4_faults_37 ⟨Nat.zero_le _, Nat.zero_le _⟩ hS (MW_fr hS.1) (fun H locs hP _ _ hS => ?_)
      refine z_ifp_eq (P := 0 < (1)) (tgt := 47) hx hb dX4_faults_40 (by decide)  (fun h40 => ?_) (fun h40 => ?_)
      · exfalso; omega
      ·
        refine z_iconst hx hb dX4_faults_43 ?_
        refine lv_goto (tgt := 54) hx hb dX4_faults_44 (by decide) ?_
        exact z_wiret hx hb hr hlk dX4_faults_54 (by omega) hP hS
    · exfalso; omega
  ·
    refine lv_iload_n hx hb dX4_faults_10 rfl (lv_at hl 3 rfl) ?_
    refine z_iconst hx hb dX4_faults_11 ?_
    refine z_iconst hx hb dX4_faults_12 ?_
    refine ro_S (rest := []) (As := [.int (zi (r)), .int (zi (0)), .int (zi (5))]) ⟨hx, hb, hml, hown, hts⟩ (c_X4_isIn l g (r) (0) (5) (by omega) (by omega) (by omega)) (cwS 3 hts gX4_faults_X4_isIn rfl rfl rfl (by decide +kernel) ⟨Nat.le_of_ble_eq_true rfl, Nat.le_of_ble_eq_true rfl⟩) trivial hK rfl hl.1 rfl (Nat.le_of_ble_eq_true rfl) dX4_faults_13 ⟨Nat.zero_le _, Nat.zero_le _⟩ ?_
    refine z_ifp_eq (P := (0) ≤ (r) ∧ (r) ≤ (5)) (tgt := 23) hx hb dX4_faults_16 (by decide)  (fun h16 => ?_) (fun h16 => ?_)
    ·
      refine z_iconst hx hb dX4_faults_23 ?_
      refine lv_istore (lv' := [(4, .int (zi (0))), (0, .ref (ad 0)), (1, .int (zi (z))), (2, .int (zi (b))), (3, .int (zi (r)))]) hx hb dX4_faults_24 hl (by decide) rfl (fun ls hl => ?_)
      refine lv_aload_n hx hb dX4_faults_26 rfl (lv_at hl 1 rfl) ?_
      refine lv_iload hx hb dX4_faults_27 (lv_at hl 0 rfl) ?_
      refine z_if_eq (tgt := 36) hx hb dX4_faults_29 (by decide) (by omega) (fun h29 => ?_) (fun h29 => ?_)
      ·
        refine z_iconst hx hb dX4_faults_36 ?_
        refine wi_V (rest := []) (As := [.int (zi (1))]) ⟨hx, hb, hml, hown, hts⟩ (c_X4_fails l g ad σ (th) hW hd _ (1) (by omega)) (cwV 1 hts gX4_faults_X4_fails rfl rfl rfl (by decide +kernel) ⟨Nat.le_of_ble_eq_true rfl, Nat.le_of_ble_eq_true rfl⟩) (z_recv hK (hP 0 _ rfl) rfl) hP trivial hK rfl hl.1 rfl (Nat.le_of_ble_eq_true rfl) dX4_faults_37 ⟨Nat.zero_le _, Nat.zero_le _⟩ hS (MW_fr hS.1) (fun H locs hP _ _ hS => ?_)
        refine z_ifp_eq (P := 0 < (1)) (tgt := 47) hx hb dX4_faults_40 (by decide)  (fun h40 => ?_) (fun h40 => ?_)
        · exfalso; omega
        ·
          refine z_iconst hx hb dX4_faults_43 ?_
          refine lv_goto (tgt := 54) hx hb dX4_faults_44 (by decide) ?_
          exact z_wiret hx hb hr hlk dX4_faults_54 (by omega) hP hS
      · exfalso; omega
    · exfalso; omega

set_option maxHeartbeats 4000000 in
set_option maxRecDepth 100000 in
theorem c_X4_faults_0 (l : Launch) (g : gG) (ad : Nat → Nat) (σ : SG) (th : Int) (hW : WF σ) (hd : Dst ad) (sz : Nat) (k : Nat) (hk : (k : Int) < σ 0 0) (zk : Int) (hzk : zk = (k : Int)) (b : Nat) (hbb : (b : Int) < σ 1 k) (zb : Int) (hzb : zb = (b : Int)) (r : Nat) (hr6 : r < 6) (zr1 : Int) (hzr : zr1 = (r : Int)) : MI l yX4_faults wsX4_faults ({ frames := 3, cells := 0, slots := 0, locals := 70 }) g ad [.int (zi (zk)), .int (zi (zb)), .int (zi (zr1))] sz σ th (σ) (0) (ft r (σ 1 k).toNat (NU σ k) (NL σ k) b) := by
  refine ZM.ofW (cc := cX4_faults) (maxL := 5) (ret := (some .int)) (by decide) rfl (Nat.le_of_ble_eq_true rfl) ?_
  intro p e s m below meth c ls hx hb hr hml hown hts hlk hP hK hl _
  obtain ⟨rfl, hP, -⟩ := hP
  have hS : va_S (va_A (MWs g ad σ th) s.heap.size) s.heap s.heap [] := va_S.rf
  have hown : s.vm.findClass RX4 = some m.cls := hown
  have hl : lv_has ls 5 [(0, .ref (ad 0)), (1, .int (zi (zk))), (2, .int (zi (zb))), (3, .int (zi (zr1)))] := hl
  have hn := hW.n
  have hbk := hW.bars hk
  have ek : zk.toNat = k := by omega
  have hbz : (b : Int) < σ 1 zk.toNat := by rw [ek]; exact hbb
  refine lv_aload_n hx hb dX4_faults_0 rfl (lv_at hl 0 rfl) ?_
  refine lv_iload_n hx hb dX4_faults_1 rfl (lv_at hl 1 rfl) ?_
  refine z_iconst hx hb dX4_faults_2 ?_
  refine lv_iload_n hx hb dX4_faults_3 rfl (lv_at hl 2 rfl) ?_
  refine ro_V (rest := []) (As := [.int (zi (zk)), .int (zi (0)), .int (zi (zb))]) ⟨hx, hb, hml, hown, hts⟩ (c_X4_isNote l g ad σ (th) hW (zk) (0) (zb) (by omega) (by omega) (by omega)) (cwV 3 hts gX4_faults_X4_isNote rfl rfl rfl (by decide +kernel) ⟨Nat.le_of_ble_eq_true rfl, Nat.le_of_ble_eq_true rfl⟩) (z_recv hK (hP 0 _ rfl) rfl) hP hK rfl hl.1 rfl (Nat.le_of_ble_eq_true rfl) dX4_faults_4 ⟨Nat.zero_le _, Nat.zero_le _⟩ ?_
  refine z_ifp_eq (P := IsN σ (zk) (0) (zb)) (tgt := 23) hx hb dX4_faults_7 (by decide)  (fun h7 => ?_) (fun h7 => ?_)
  · exfalso; omega
  ·
    refine lv_iload_n hx hb dX4_faults_10 rfl (lv_at hl 3 rfl) ?_
    refine z_iconst hx hb dX4_faults_11 ?_
    refine z_iconst hx hb dX4_faults_12 ?_
    refine ro_S (rest := []) (As := [.int (zi (zr1)), .int (zi (0)), .int (zi (5))]) ⟨hx, hb, hml, hown, hts⟩ (c_X4_isIn l g (zr1) (0) (5) (by omega) (by omega) (by omega)) (cwS 3 hts gX4_faults_X4_isIn rfl rfl rfl (by decide +kernel) ⟨Nat.le_of_ble_eq_true rfl, Nat.le_of_ble_eq_true rfl⟩) trivial hK rfl hl.1 rfl (Nat.le_of_ble_eq_true rfl) dX4_faults_13 ⟨Nat.zero_le _, Nat.zero_le _⟩ ?_
    refine z_ifp_eq (P := (0) ≤ (zr1) ∧ (zr1) ≤ (5)) (tgt := 23) hx hb dX4_faults_16 (by decide)  (fun h16 => ?_) (fun h16 => ?_)
    · exfalso; omega
    ·
      refine z_iconst hx hb dX4_faults_19 ?_
      refine lv_goto (tgt := 24) hx hb dX4_faults_20 (by decide) ?_
      refine lv_istore (lv' := [(4, .int (zi (1))), (0, .ref (ad 0)), (1, .int (zi (zk))), (2, .int (zi (zb))), (3, .int (zi (zr1)))]) hx hb dX4_faults_24 hl (by decide) rfl (fun ls hl => ?_)
      refine lv_aload_n hx hb dX4_faults_26 rfl (lv_at hl 1 rfl) ?_
      refine lv_iload hx hb dX4_faults_27 (lv_at hl 0 rfl) ?_
      refine z_if_eq (tgt := 36) hx hb dX4_faults_29 (by decide) (by omega) (fun h29 => ?_) (fun h29 => ?_)
      · exfalso; omega
      ·
        refine z_iconst hx hb dX4_faults_32 ?_
        refine lv_goto (tgt := 37) hx hb dX4_faults_33 (by decide) ?_
        refine wi_V (rest := []) (As := [.int (zi (0))]) ⟨hx, hb, hml, hown, hts⟩ (c_X4_fails l g ad σ (th) hW hd _ (0) (by omega)) (cwV 1 hts gX4_faults_X4_fails rfl rfl rfl (by decide +kernel) ⟨Nat.le_of_ble_eq_true rfl, Nat.le_of_ble_eq_true rfl⟩) (z_recv hK (hP 0 _ rfl) rfl) hP trivial hK rfl hl.1 rfl (Nat.le_of_ble_eq_true rfl) dX4_faults_37 ⟨Nat.zero_le _, Nat.zero_le _⟩ hS (MW_fr hS.1) (fun H locs hP _ _ hS => ?_)
        refine z_ifp_eq (P := 0 < (0)) (tgt := 47) hx hb dX4_faults_40 (by decide)  (fun h40 => ?_) (fun h40 => ?_)
        ·
          refine lv_aload_n hx hb dX4_faults_47 rfl (lv_at hl 1 rfl) ?_
          refine lv_iload_n hx hb dX4_faults_48 rfl (lv_at hl 2 rfl) ?_
          refine lv_iload_n hx hb dX4_faults_49 rfl (lv_at hl 3 rfl) ?_
          refine lv_iload_n hx hb dX4_faults_50 rfl (lv_at hl 4 rfl) ?_
          refine ro_V (rest := []) (As := [.int (zi (zk)), .int (zi (zb)), .int (zi (zr1))]) ⟨hx, hb, hml, hown, hts⟩ (c_X4_faultsAt l g ad σ (0) hW k hk (zk) (by omega) b hbb (zb) (by omega) r hr6 (zr1) (by omega)) (cwV 3 hts gX4_faults_X4_faultsAt rfl rfl rfl (by decide +kernel) ⟨Nat.le_of_ble_eq_true rfl, Nat.le_of_ble_eq_true rfl⟩) (z_recv hK (hP 0 _ rfl) rfl) hP hK rfl hl.1 rfl (Nat.le_of_ble_eq_true rfl) dX4_faults_51 ⟨Nat.zero_le _, Nat.zero_le _⟩ ?_
          exact z_wiret hx hb hr hlk dX4_faults_54 (rfl) hP hS
        · exfalso; omega

set_option maxHeartbeats 4000000 in
set_option maxRecDepth 100000 in
theorem c_X4_mark_1 (l : Launch) (g : gG) (ad : Nat → Nat) (σ : SG) (th : Int) (hW : WF σ) (hd : Dst ad) (sz : Nat) (z : Int) (hz : zr z) (hbad : ¬ IsV σ z) : MI l yX4_mark wsX4_mark ({ frames := 2, cells := 0, slots := 0, locals := 43 }) g ad [.int (zi (z))] sz σ th (σ) (1) (0) := by
  refine ZM.ofW (cc := cX4_mark) (maxL := 2) (ret := (some .int)) (by decide) rfl (Nat.le_of_ble_eq_true rfl) ?_
  intro p e s m below meth c ls hx hb hr hml hown hts hlk hP hK hl _
  obtain ⟨rfl, hP, -⟩ := hP
  have hS : va_S (va_A (MWs g ad σ th) s.heap.size) s.heap s.heap [] := va_S.rf
  have hown : s.vm.findClass RX4 = some m.cls := hown
  have hl : lv_has ls 2 [(0, .ref (ad 0)), (1, .int (zi (z)))] := hl
  have hn := hW.n
  refine lv_aload_n hx hb dX4_mark_0 rfl (lv_at hl 0 rfl) ?_
  refine lv_aload_n hx hb dX4_mark_1 rfl (lv_at hl 0 rfl) ?_
  refine lv_iload_n hx hb dX4_mark_2 rfl (lv_at hl 1 rfl) ?_
  refine ro_V (rest := [.ref (ad 0)]) (As := [.int (zi (z))]) ⟨hx, hb, hml, hown, hts⟩ (c_X4_isVersion l g ad σ (th) hW (z) (by omega)) (cwV 1 hts gX4_mark_X4_isVersion rfl rfl rfl (by decide +kernel) ⟨Nat.le_of_ble_eq_true rfl, Nat.le_of_ble_eq_true rfl⟩) (z_recv hK (hP 0 _ rfl) rfl) hP hK rfl hl.1 rfl (Nat.le_of_ble_eq_true rfl) dX4_mark_3 ⟨Nat.zero_le _, Nat.zero_le _⟩ ?_
  refine z_ifp_eq (P := IsV σ (z)) (tgt := 13) hx hb dX4_mark_6 (by decide)  (fun h6 => ?_) (fun h6 => ?_)
  ·
    refine z_iconst hx hb dX4_mark_13 ?_
    refine wi_V (rest := []) (As := [.int (zi (1))]) ⟨hx, hb, hml, hown, hts⟩ (c_X4_fails l g ad σ (th) hW hd _ (1) (by omega)) (cwV 1 hts gX4_mark_X4_fails rfl rfl rfl (by decide +kernel) ⟨Nat.le_of_ble_eq_true rfl, Nat.le_of_ble_eq_true rfl⟩) (z_recv hK (hP 0 _ rfl) rfl) hP trivial hK rfl hl.1 rfl (Nat.le_of_ble_eq_true rfl) dX4_mark_14 ⟨Nat.zero_le _, Nat.zero_le _⟩ hS (MW_fr hS.1) (fun H locs hP _ _ hS => ?_)
    refine z_ifp_eq (P := 0 < (1)) (tgt := 24) hx hb dX4_mark_17 (by decide)  (fun h17 => ?_) (fun h17 => ?_)
    · exfalso; omega
    ·
      refine z_iconst hx hb dX4_mark_20 ?_
      refine lv_goto (tgt := 29) hx hb dX4_mark_21 (by decide) ?_
      exact z_wiret hx hb hr hlk dX4_mark_29 (by omega) hP hS
  · exfalso; omega

set_option maxHeartbeats 4000000 in
set_option maxRecDepth 100000 in
theorem c_X4_mark_0 (l : Launch) (g : gG) (ad : Nat → Nat) (σ : SG) (th : Int) (hW : WF σ) (hd : Dst ad) (sz : Nat) (k : Nat) (hk : (k : Int) < σ 0 0) (zk : Int) (hzk : zk = (k : Int))  : MI l yX4_mark wsX4_mark ({ frames := 5, cells := 0, slots := 0, locals := 114 }) g ad [.int (zi (zk))] sz σ th (σ) (0) (MK σ k) := by
  refine ZM.ofW (cc := cX4_mark) (maxL := 2) (ret := (some .int)) (by decide) rfl (Nat.le_of_ble_eq_true rfl) ?_
  intro p e s m below meth c ls hx hb hr hml hown hts hlk hP hK hl _
  obtain ⟨rfl, hP, -⟩ := hP
  have hS : va_S (va_A (MWs g ad σ th) s.heap.size) s.heap s.heap [] := va_S.rf
  have hown : s.vm.findClass RX4 = some m.cls := hown
  have hl : lv_has ls 2 [(0, .ref (ad 0)), (1, .int (zi (zk)))] := hl
  have hn := hW.n
  refine lv_aload_n hx hb dX4_mark_0 rfl (lv_at hl 0 rfl) ?_
  refine lv_aload_n hx hb dX4_mark_1 rfl (lv_at hl 0 rfl) ?_
  refine lv_iload_n hx hb dX4_mark_2 rfl (lv_at hl 1 rfl) ?_
  refine ro_V (rest := [.ref (ad 0)]) (As := [.int (zi (zk))]) ⟨hx, hb, hml, hown, hts⟩ (c_X4_isVersion l g ad σ (th) hW (zk) (by omega)) (cwV 1 hts gX4_mark_X4_isVersion rfl rfl rfl (by decide +kernel) ⟨Nat.le_of_ble_eq_true rfl, Nat.le_of_ble_eq_true rfl⟩) (z_recv hK (hP 0 _ rfl) rfl) hP hK rfl hl.1 rfl (Nat.le_of_ble_eq_true rfl) dX4_mark_3 ⟨Nat.zero_le _, Nat.zero_le _⟩ ?_
  refine z_ifp_eq (P := IsV σ (zk)) (tgt := 13) hx hb dX4_mark_6 (by decide)  (fun h6 => ?_) (fun h6 => ?_)
  · exfalso; omega
  ·
    refine z_iconst hx hb dX4_mark_9 ?_
    refine lv_goto (tgt := 14) hx hb dX4_mark_10 (by decide) ?_
    refine wi_V (rest := []) (As := [.int (zi (0))]) ⟨hx, hb, hml, hown, hts⟩ (c_X4_fails l g ad σ (th) hW hd _ (0) (by omega)) (cwV 1 hts gX4_mark_X4_fails rfl rfl rfl (by decide +kernel) ⟨Nat.le_of_ble_eq_true rfl, Nat.le_of_ble_eq_true rfl⟩) (z_recv hK (hP 0 _ rfl) rfl) hP trivial hK rfl hl.1 rfl (Nat.le_of_ble_eq_true rfl) dX4_mark_14 ⟨Nat.zero_le _, Nat.zero_le _⟩ hS (MW_fr hS.1) (fun H locs hP _ _ hS => ?_)
    refine z_ifp_eq (P := 0 < (0)) (tgt := 24) hx hb dX4_mark_17 (by decide)  (fun h17 => ?_) (fun h17 => ?_)
    ·
      refine lv_aload_n hx hb dX4_mark_24 rfl (lv_at hl 0 rfl) ?_
      refine lv_iload_n hx hb dX4_mark_25 rfl (lv_at hl 1 rfl) ?_
      refine ro_V (rest := []) (As := [.int (zi (zk))]) ⟨hx, hb, hml, hown, hts⟩ (c_X4_markOf l g ad σ (0) hW k hk (zk) (by omega)) (cwV 1 hts gX4_mark_X4_markOf rfl rfl rfl (by decide +kernel) ⟨Nat.le_of_ble_eq_true rfl, Nat.le_of_ble_eq_true rfl⟩) (z_recv hK (hP 0 _ rfl) rfl) hP hK rfl hl.1 rfl (Nat.le_of_ble_eq_true rfl) dX4_mark_26 ⟨Nat.zero_le _, Nat.zero_le _⟩ ?_
      exact z_wiret hx hb hr hlk dX4_mark_29 (rfl) hP hS
    · exfalso; omega

set_option maxHeartbeats 4000000 in
set_option maxRecDepth 100000 in
theorem c_X4_handIn_1 (l : Launch) (g : gG) (ad : Nat → Nat) (σ : SG) (th : Int) (hW : WF σ) (hd : Dst ad) (sz : Nat) (z : Int) (hz : zr z) (hbad : ¬ IsV σ z) : MI l yX4_handIn wsX4_handIn ({ frames := 2, cells := 0, slots := 0, locals := 43 }) g ad [.int (zi (z))] sz σ th (σ) (1) (0) := by
  refine ZM.ofW (cc := cX4_handIn) (maxL := 2) (ret := (some .boolean)) (by decide) rfl (Nat.le_of_ble_eq_true rfl) ?_
  intro p e s m below meth c ls hx hb hr hml hown hts hlk hP hK hl _
  obtain ⟨rfl, hP, -⟩ := hP
  have hS : va_S (va_A (MWs g ad σ th) s.heap.size) s.heap s.heap [] := va_S.rf
  have hown : s.vm.findClass RX4 = some m.cls := hown
  have hl : lv_has ls 2 [(0, .ref (ad 0)), (1, .int (zi (z)))] := hl
  have hn := hW.n
  refine lv_aload_n hx hb dX4_handIn_0 rfl (lv_at hl 0 rfl) ?_
  refine lv_aload_n hx hb dX4_handIn_1 rfl (lv_at hl 0 rfl) ?_
  refine lv_iload_n hx hb dX4_handIn_2 rfl (lv_at hl 1 rfl) ?_
  refine ro_V (rest := [.ref (ad 0)]) (As := [.int (zi (z))]) ⟨hx, hb, hml, hown, hts⟩ (c_X4_isVersion l g ad σ (th) hW (z) (by omega)) (cwV 1 hts gX4_handIn_X4_isVersion rfl rfl rfl (by decide +kernel) ⟨Nat.le_of_ble_eq_true rfl, Nat.le_of_ble_eq_true rfl⟩) (z_recv hK (hP 0 _ rfl) rfl) hP hK rfl hl.1 rfl (Nat.le_of_ble_eq_true rfl) dX4_handIn_3 ⟨Nat.zero_le _, Nat.zero_le _⟩ ?_
  refine z_ifp_eq (P := IsV σ (z)) (tgt := 13) hx hb dX4_handIn_6 (by decide)  (fun h6 => ?_) (fun h6 => ?_)
  ·
    refine z_iconst hx hb dX4_handIn_13 ?_
    refine wi_V (rest := []) (As := [.int (zi (1))]) ⟨hx, hb, hml, hown, hts⟩ (c_X4_fails l g ad σ (th) hW hd _ (1) (by omega)) (cwV 1 hts gX4_handIn_X4_fails rfl rfl rfl (by decide +kernel) ⟨Nat.le_of_ble_eq_true rfl, Nat.le_of_ble_eq_true rfl⟩) (z_recv hK (hP 0 _ rfl) rfl) hP trivial hK rfl hl.1 rfl (Nat.le_of_ble_eq_true rfl) dX4_handIn_14 ⟨Nat.zero_le _, Nat.zero_le _⟩ hS (MW_fr hS.1) (fun H locs hP _ _ hS => ?_)
    refine z_ifp_eq (P := 0 < (1)) (tgt := 22) hx hb dX4_handIn_17 (by decide)  (fun h17 => ?_) (fun h17 => ?_)
    · exfalso; omega
    ·
      refine z_iconst hx hb dX4_handIn_20 ?_
      exact z_wzret hx hb hr hlk dX4_handIn_21 (by omega) (by omega) hP hS
  · exfalso; omega

set_option maxHeartbeats 4000000 in
set_option maxRecDepth 100000 in
theorem c_X4_handIn_0 (l : Launch) (g : gG) (ad : Nat → Nat) (σ : SG) (th : Int) (hW : WF σ) (hd : Dst ad) (sz : Nat) (k : Nat) (hk : (k : Int) < σ 0 0) (zk : Int) (hzk : zk = (k : Int))  : MI l yX4_handIn wsX4_handIn ({ frames := 5, cells := 0, slots := 0, locals := 114 }) g ad [.int (zi (zk))] sz σ th (sup σ 4 k (pz (σ 7 0 ≤ MK σ k))) (0) (pz (σ 7 0 ≤ MK σ k)) := by
  refine ZM.ofW (cc := cX4_handIn) (maxL := 2) (ret := (some .boolean)) (by decide) rfl (Nat.le_of_ble_eq_true rfl) ?_
  intro p e s m below meth c ls hx hb hr hml hown hts hlk hP hK hl _
  obtain ⟨rfl, hP, -⟩ := hP
  have hS : va_S (va_A (MWs g ad σ th) s.heap.size) s.heap s.heap [] := va_S.rf
  have hown : s.vm.findClass RX4 = some m.cls := hown
  have hl : lv_has ls 2 [(0, .ref (ad 0)), (1, .int (zi (zk)))] := hl
  have hiX4 : ∀ w ∈ u_ws RX4 TX4 14, w ∈ wsX4_handIn := by decide +kernel
  have hn := hW.n
  have hmk := MK_r hW hk
  have hps := hW.pass
  refine lv_aload_n hx hb dX4_handIn_0 rfl (lv_at hl 0 rfl) ?_
  refine lv_aload_n hx hb dX4_handIn_1 rfl (lv_at hl 0 rfl) ?_
  refine lv_iload_n hx hb dX4_handIn_2 rfl (lv_at hl 1 rfl) ?_
  refine ro_V (rest := [.ref (ad 0)]) (As := [.int (zi (zk))]) ⟨hx, hb, hml, hown, hts⟩ (c_X4_isVersion l g ad σ (th) hW (zk) (by omega)) (cwV 1 hts gX4_handIn_X4_isVersion rfl rfl rfl (by decide +kernel) ⟨Nat.le_of_ble_eq_true rfl, Nat.le_of_ble_eq_true rfl⟩) (z_recv hK (hP 0 _ rfl) rfl) hP hK rfl hl.1 rfl (Nat.le_of_ble_eq_true rfl) dX4_handIn_3 ⟨Nat.zero_le _, Nat.zero_le _⟩ ?_
  refine z_ifp_eq (P := IsV σ (zk)) (tgt := 13) hx hb dX4_handIn_6 (by decide)  (fun h6 => ?_) (fun h6 => ?_)
  · exfalso; omega
  ·
    refine z_iconst hx hb dX4_handIn_9 ?_
    refine lv_goto (tgt := 14) hx hb dX4_handIn_10 (by decide) ?_
    refine wi_V (rest := []) (As := [.int (zi (0))]) ⟨hx, hb, hml, hown, hts⟩ (c_X4_fails l g ad σ (th) hW hd _ (0) (by omega)) (cwV 1 hts gX4_handIn_X4_fails rfl rfl rfl (by decide +kernel) ⟨Nat.le_of_ble_eq_true rfl, Nat.le_of_ble_eq_true rfl⟩) (z_recv hK (hP 0 _ rfl) rfl) hP trivial hK rfl hl.1 rfl (Nat.le_of_ble_eq_true rfl) dX4_handIn_14 ⟨Nat.zero_le _, Nat.zero_le _⟩ hS (MW_fr hS.1) (fun H locs hP _ _ hS => ?_)
    refine z_ifp_eq (P := 0 < (0)) (tgt := 22) hx hb dX4_handIn_17 (by decide)  (fun h17 => ?_) (fun h17 => ?_)
    ·
      refine lv_aload_n hx hb dX4_handIn_22 rfl (lv_at hl 0 rfl) ?_
      refine z_get (C := RX4) (T := TX4) (N := 14) hx hb hts hiX4 hown hK (hP 0 _ rfl) rfl 4 (by decide) (hts (.fieldLink RX4 20 "HarmoniumDeskModel" "hasPassed" "[Z") (by decide +kernel)) rfl rfl dX4_handIn_23 ?_
      refine lv_iload_n hx hb dX4_handIn_26 rfl (lv_at hl 1 rfl) ?_
      refine lv_aload_n hx hb dX4_handIn_27 rfl (lv_at hl 0 rfl) ?_
      refine lv_iload_n hx hb dX4_handIn_28 rfl (lv_at hl 1 rfl) ?_
      refine ro_V (rest := [.int (zi (zk)), .ref (ad 4)]) (As := [.int (zi (zk))]) ⟨hx, hb, hml, hown, hts⟩ (c_X4_markOf l g ad σ (0) hW k hk (zk) (by omega)) (cwV 1 hts gX4_handIn_X4_markOf rfl rfl rfl (by decide +kernel) ⟨Nat.le_of_ble_eq_true rfl, Nat.le_of_ble_eq_true rfl⟩) (z_recv hK (hP 0 _ rfl) rfl) hP hK rfl hl.1 rfl (Nat.le_of_ble_eq_true rfl) dX4_handIn_29 ⟨Nat.zero_le _, Nat.zero_le _⟩ ?_
      refine lv_aload_n hx hb dX4_handIn_32 rfl (lv_at hl 0 rfl) ?_
      refine z_get (C := RX4) (T := TX4) (N := 14) hx hb hts hiX4 hown hK (hP 0 _ rfl) rfl 7 (by decide) (hts (.fieldLink RX4 29 "HarmoniumDeskModel" "pass" "I") (by decide +kernel)) rfl rfl dX4_handIn_33 ?_
      refine z_icmp_lt (tgt := 43) hx hb dX4_handIn_36 (by decide) (by omega) (by omega) (fun h36 => ?_) (fun h36 => ?_)
      ·
        refine z_iconst hx hb dX4_handIn_43 ?_
        refine z_top (b := pz (σ 7 0 ≤ MK σ k)) ((pz_f (by omega)).symm) ?_
        refine z_mzast (x := pz (σ 7 0 ≤ MK σ k)) hx hb hd hK hP hS 4 4 30 rfl (k) (msa4 _ _ _ _ _ _) (by omega) (by omega) (by decide) (by have := pz_b (σ 7 0 ≤ MK σ k); omega) dX4_handIn_44 (fun H locs hP hS => ?_)
        refine lv_aload_n hx hb dX4_handIn_45 rfl (lv_at hl 0 rfl) ?_
        refine z_get (C := RX4) (T := TX4) (N := 14) hx hb hts hiX4 hown hK (hP 0 _ rfl) rfl 4 (by decide) (hts (.fieldLink RX4 20 "HarmoniumDeskModel" "hasPassed" "[Z") (by decide +kernel)) rfl rfl dX4_handIn_46 ?_
        refine lv_iload_n hx hb dX4_handIn_49 rfl (lv_at hl 1 rfl) ?_
        refine z_zald hx hb hK (hP 4 _ rfl) (k) (by omega) (by omega) (by decide) dX4_handIn_50 ?_
        refine z_top (b := pz (σ 7 0 ≤ MK σ k)) (by rw [sup_eq]; exact if_pos rfl) ?_
        exact z_wzret hx hb hr hlk dX4_handIn_51 ((by have := pz_b (σ 7 0 ≤ MK σ k); omega)) (rfl) hP hS
      ·
        refine z_iconst hx hb dX4_handIn_39 ?_
        refine z_top (b := pz (σ 7 0 ≤ MK σ k)) ((pz_t (by omega)).symm) ?_
        refine lv_goto (tgt := 44) hx hb dX4_handIn_40 (by decide) ?_
        refine z_mzast (x := pz (σ 7 0 ≤ MK σ k)) hx hb hd hK hP hS 4 4 30 rfl (k) (msa4 _ _ _ _ _ _) (by omega) (by omega) (by decide) (by have := pz_b (σ 7 0 ≤ MK σ k); omega) dX4_handIn_44 (fun H locs hP hS => ?_)
        refine lv_aload_n hx hb dX4_handIn_45 rfl (lv_at hl 0 rfl) ?_
        refine z_get (C := RX4) (T := TX4) (N := 14) hx hb hts hiX4 hown hK (hP 0 _ rfl) rfl 4 (by decide) (hts (.fieldLink RX4 20 "HarmoniumDeskModel" "hasPassed" "[Z") (by decide +kernel)) rfl rfl dX4_handIn_46 ?_
        refine lv_iload_n hx hb dX4_handIn_49 rfl (lv_at hl 1 rfl) ?_
        refine z_zald hx hb hK (hP 4 _ rfl) (k) (by omega) (by omega) (by decide) dX4_handIn_50 ?_
        refine z_top (b := pz (σ 7 0 ≤ MK σ k)) (by rw [sup_eq]; exact if_pos rfl) ?_
        exact z_wzret hx hb hr hlk dX4_handIn_51 ((by have := pz_b (σ 7 0 ≤ MK σ k); omega)) (rfl) hP hS
    · exfalso; omega
