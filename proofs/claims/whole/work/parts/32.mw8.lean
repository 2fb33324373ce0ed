set_option maxHeartbeats 4000000 in
set_option maxRecDepth 100000 in
theorem c_X4_errata_1 (l : Launch) (g : gG) (ad : Nat → Nat) (σ : SG) (th : Int) (hW : WF σ) (hd : Dst ad) (sz : Nat) (zc zk : Int) (hzc : zr zc) (hzk : zr zk) (hbad : ¬ (IsC σ zc ∧ IsV σ zk)) : MI l yX4_errata wsX4_errata ({ frames := 3, cells := 0, slots := 0, locals := 65 }) g ad [.int (zi (zc)), .int (zi (zk))] sz σ th (σ) (1) (0) := by
  refine ZM.ofW (cc := cX4_errata) (maxL := 3) (ret := (some .int)) (by decide) rfl (Nat.le_of_ble_eq_true rfl) ?_
  intro p e s m below meth c ls hx hb hr hml hown hts hlk hP hK hl _
  obtain ⟨rfl, hP, -⟩ := hP
  have hS : va_S (va_A (MWs g ad σ th) s.heap.size) s.heap s.heap [] := va_S.rf
  have hown : s.vm.findClass RX4 = some m.cls := hown
  have hl : lv_has ls 3 [(0, .ref (ad 0)), (1, .int (zi (zc))), (2, .int (zi (zk)))] := hl
  have hn := hW.n
  refine lv_aload_n hx hb dX4_errata_0 rfl (lv_at hl 0 rfl) ?_
  refine lv_aload_n hx hb dX4_errata_1 rfl (lv_at hl 0 rfl) ?_
  refine lv_iload_n hx hb dX4_errata_2 rfl (lv_at hl 1 rfl) ?_
  refine lv_iload_n hx hb dX4_errata_3 rfl (lv_at hl 2 rfl) ?_
  refine ro_V (rest := [.ref (ad 0)]) (As := [.int (zi (zc)), .int (zi (zk))]) ⟨hx, hb, hml, hown, hts⟩ (c_X4_misses l g ad σ (th) hW (zc) (zk) (by omega) (by omega) 1 (fun _ => rfl) (fun h => absurd h hbad) (fun h => absurd h hbad)) (cwV 2 hts gX4_errata_X4_misses rfl rfl rfl (by decide +kernel) ⟨Nat.le_of_ble_eq_true rfl, Nat.le_of_ble_eq_true rfl⟩) (z_recv hK (hP 0 _ rfl) rfl) hP hK rfl hl.1 rfl (Nat.le_of_ble_eq_true rfl) dX4_errata_4 ⟨Nat.zero_le _, Nat.zero_le _⟩ ?_
  refine wi_V (rest := []) (As := [.int (zi (1))]) ⟨hx, hb, hml, hown, hts⟩ (c_X4_fails l g ad σ (th) hW hd _ (1) (by omega)) (cwV 1 hts gX4_errata_X4_fails rfl rfl rfl (by decide +kernel) ⟨Nat.le_of_ble_eq_true rfl, Nat.le_of_ble_eq_true rfl⟩) (z_recv hK (hP 0 _ rfl) rfl) hP trivial hK rfl hl.1 rfl (Nat.le_of_ble_eq_true rfl) dX4_errata_7 ⟨Nat.zero_le _, Nat.zero_le _⟩ hS (MW_fr hS.1) (fun H locs hP _ _ hS => ?_)
  refine z_ifp_eq (P := 0 < (1)) (tgt := 17) hx hb dX4_errata_10 (by decide)  (fun h10 => ?_) (fun h10 => ?_)
  · exfalso; omega
  ·
    refine z_iconst hx hb dX4_errata_13 ?_
    refine lv_goto (tgt := 23) hx hb dX4_errata_14 (by decide) ?_
    exact z_wiret hx hb hr hlk dX4_errata_23 (by omega) hP hS

set_option maxHeartbeats 4000000 in
set_option maxRecDepth 100000 in
theorem c_X4_errata_2 (l : Launch) (g : gG) (ad : Nat → Nat) (σ : SG) (th : Int) (hW : WF σ) (hd : Dst ad) (sz : Nat) (zc zk : Int) (hzc : zr zc) (hzk : zr zk) (hg : IsC σ zc ∧ IsV σ zk) (hbad : ¬ σ 1 zk.toNat = σ 9 zc.toNat) : MI l yX4_errata wsX4_errata ({ frames := 3, cells := 0, slots := 0, locals := 65 }) g ad [.int (zi (zc)), .int (zi (zk))] sz σ th (σ) (2) (0) := by
  refine ZM.ofW (cc := cX4_errata) (maxL := 3) (ret := (some .int)) (by decide) rfl (Nat.le_of_ble_eq_true rfl) ?_
  intro p e s m below meth c ls hx hb hr hml hown hts hlk hP hK hl _
  obtain ⟨rfl, hP, -⟩ := hP
  have hS : va_S (va_A (MWs g ad σ th) s.heap.size) s.heap s.heap [] := va_S.rf
  have hown : s.vm.findClass RX4 = some m.cls := hown
  have hl : lv_has ls 3 [(0, .ref (ad 0)), (1, .int (zi (zc))), (2, .int (zi (zk)))] := hl
  have hn := hW.n
  refine lv_aload_n hx hb dX4_errata_0 rfl (lv_at hl 0 rfl) ?_
  refine lv_aload_n hx hb dX4_errata_1 rfl (lv_at hl 0 rfl) ?_
  refine lv_iload_n hx hb dX4_errata_2 rfl (lv_at hl 1 rfl) ?_
  refine lv_iload_n hx hb dX4_errata_3 rfl (lv_at hl 2 rfl) ?_
  refine ro_V (rest := [.ref (ad 0)]) (As := [.int (zi (zc)), .int (zi (zk))]) ⟨hx, hb, hml, hown, hts⟩ (c_X4_misses l g ad σ (th) hW (zc) (zk) (by omega) (by omega) 2 (fun h => absurd hg h) (fun _ h => absurd h hbad) (fun _ _ => rfl)) (cwV 2 hts gX4_errata_X4_misses rfl rfl rfl (by decide +kernel) ⟨Nat.le_of_ble_eq_true rfl, Nat.le_of_ble_eq_true rfl⟩) (z_recv hK (hP 0 _ rfl) rfl) hP hK rfl hl.1 rfl (Nat.le_of_ble_eq_true rfl) dX4_errata_4 ⟨Nat.zero_le _, Nat.zero_le _⟩ ?_
  refine wi_V (rest := []) (As := [.int (zi (2))]) ⟨hx, hb, hml, hown, hts⟩ (c_X4_fails l g ad σ (th) hW hd _ (2) (by omega)) (cwV 1 hts gX4_errata_X4_fails rfl rfl rfl (by decide +kernel) ⟨Nat.le_of_ble_eq_true rfl, Nat.le_of_ble_eq_true rfl⟩) (z_recv hK (hP 0 _ rfl) rfl) hP trivial hK rfl hl.1 rfl (Nat.le_of_ble_eq_true rfl) dX4_errata_7 ⟨Nat.zero_le _, Nat.zero_le _⟩ hS (MW_fr hS.1) (fun H locs hP _ _ hS => ?_)
  refine z_ifp_eq (P := 0 < (2)) (tgt := 17) hx hb dX4_errata_10 (by decide)  (fun h10 => ?_) (fun h10 => ?_)
  · exfalso; omega
  ·
    refine z_iconst hx hb dX4_errata_13 ?_
    refine lv_goto (tgt := 23) hx hb dX4_errata_14 (by decide) ?_
    exact z_wiret hx hb hr hlk dX4_errata_23 (by omega) hP hS

set_option maxHeartbeats 4000000 in
set_option maxRecDepth 100000 in
theorem c_X4_slip_1 (l : Launch) (g : gG) (ad : Nat → Nat) (σ : SG) (th : Int) (hW : WF σ) (hd : Dst ad) (sz : Nat) (zc zk : Int) (hzc : zr zc) (hzk : zr zk) (hbad : ¬ (IsC σ zc ∧ IsV σ zk)) : MI l yX4_slip wsX4_slip ({ frames := 3, cells := 0, slots := 0, locals := 65 }) g ad [.int (zi (zc)), .int (zi (zk))] sz σ th (σ) (1) (0) := by
  refine ZM.ofW (cc := cX4_slip) (maxL := 6) (ret := (some .int)) (by decide) rfl (Nat.le_of_ble_eq_true rfl) ?_
  intro p e s m below meth c ls hx hb hr hml hown hts hlk hP hK hl _
  obtain ⟨rfl, hP, -⟩ := hP
  have hS : va_S (va_A (MWs g ad σ th) s.heap.size) s.heap s.heap [] := va_S.rf
  have hown : s.vm.findClass RX4 = some m.cls := hown
  have hl : lv_has ls 6 [(0, .ref (ad 0)), (1, .int (zi (zc))), (2, .int (zi (zk)))] := hl
  have hn := hW.n
  refine lv_aload_n hx hb dX4_slip_0 rfl (lv_at hl 0 rfl) ?_
  refine lv_aload_n hx hb dX4_slip_1 rfl (lv_at hl 0 rfl) ?_
  refine lv_iload_n hx hb dX4_slip_2 rfl (lv_at hl 1 rfl) ?_
  refine lv_iload_n hx hb dX4_slip_3 rfl (lv_at hl 2 rfl) ?_
  refine ro_V (rest := [.ref (ad 0)]) (As := [.int (zi (zc)), .int (zi (zk))]) ⟨hx, hb, hml, hown, hts⟩ (c_X4_misses l g ad σ (th) hW (zc) (zk) (by omega) (by omega) 1 (fun _ => rfl) (fun h => absurd h hbad) (fun h => absurd h hbad)) (cwV 2 hts gX4_slip_X4_misses rfl rfl rfl (by decide +kernel) ⟨Nat.le_of_ble_eq_true rfl, Nat.le_of_ble_eq_true rfl⟩) (z_recv hK (hP 0 _ rfl) rfl) hP hK rfl hl.1 rfl (Nat.le_of_ble_eq_true rfl) dX4_slip_4 ⟨Nat.zero_le _, Nat.zero_le _⟩ ?_
  refine wi_V (rest := []) (As := [.int (zi (1))]) ⟨hx, hb, hml, hown, hts⟩ (c_X4_fails l g ad σ (th) hW hd _ (1) (by omega)) (cwV 1 hts gX4_slip_X4_fails rfl rfl rfl (by decide +kernel) ⟨Nat.le_of_ble_eq_true rfl, Nat.le_of_ble_eq_true rfl⟩) (z_recv hK (hP 0 _ rfl) rfl) hP trivial hK rfl hl.1 rfl (Nat.le_of_ble_eq_true rfl) dX4_slip_7 ⟨Nat.zero_le _, Nat.zero_le _⟩ hS (MW_fr hS.1) (fun H locs hP _ _ hS => ?_)
  refine z_ifp_eq (P := 0 < (1)) (tgt := 15) hx hb dX4_slip_10 (by decide)  (fun h10 => ?_) (fun h10 => ?_)
  · exfalso; omega
  ·
    refine z_iconst hx hb dX4_slip_13 ?_
    exact z_wiret hx hb hr hlk dX4_slip_14 (by omega) hP hS

set_option maxHeartbeats 4000000 in
set_option maxRecDepth 100000 in
theorem c_X4_slip_2 (l : Launch) (g : gG) (ad : Nat → Nat) (σ : SG) (th : Int) (hW : WF σ) (hd : Dst ad) (sz : Nat) (zc zk : Int) (hzc : zr zc) (hzk : zr zk) (hg : IsC σ zc ∧ IsV σ zk) (hbad : ¬ σ 1 zk.toNat = σ 9 zc.toNat) : MI l yX4_slip wsX4_slip ({ frames := 3, cells := 0, slots := 0, locals := 65 }) g ad [.int (zi (zc)), .int (zi (zk))] sz σ th (σ) (2) (0) := by
  refine ZM.ofW (cc := cX4_slip) (maxL := 6) (ret := (some .int)) (by decide) rfl (Nat.le_of_ble_eq_true rfl) ?_
  intro p e s m below meth c ls hx hb hr hml hown hts hlk hP hK hl _
  obtain ⟨rfl, hP, -⟩ := hP
  have hS : va_S (va_A (MWs g ad σ th) s.heap.size) s.heap s.heap [] := va_S.rf
  have hown : s.vm.findClass RX4 = some m.cls := hown
  have hl : lv_has ls 6 [(0, .ref (ad 0)), (1, .int (zi (zc))), (2, .int (zi (zk)))] := hl
  have hn := hW.n
  refine lv_aload_n hx hb dX4_slip_0 rfl (lv_at hl 0 rfl) ?_
  refine lv_aload_n hx hb dX4_slip_1 rfl (lv_at hl 0 rfl) ?_
  refine lv_iload_n hx hb dX4_slip_2 rfl (lv_at hl 1 rfl) ?_
  refine lv_iload_n hx hb dX4_slip_3 rfl (lv_at hl 2 rfl) ?_
  refine ro_V (rest := [.ref (ad 0)]) (As := [.int (zi (zc)), .int (zi (zk))]) ⟨hx, hb, hml, hown, hts⟩ (c_X4_misses l g ad σ (th) hW (zc) (zk) (by omega) (by omega) 2 (fun h => absurd hg h) (fun _ h => absurd h hbad) (fun _ _ => rfl)) (cwV 2 hts gX4_slip_X4_misses rfl rfl rfl (by decide +kernel) ⟨Nat.le_of_ble_eq_true rfl, Nat.le_of_ble_eq_true rfl⟩) (z_recv hK (hP 0 _ rfl) rfl) hP hK rfl hl.1 rfl (Nat.le_of_ble_eq_true rfl) dX4_slip_4 ⟨Nat.zero_le _, Nat.zero_le _⟩ ?_
  refine wi_V (rest := []) (As := [.int (zi (2))]) ⟨hx, hb, hml, hown, hts⟩ (c_X4_fails l g ad σ (th) hW hd _ (2) (by omega)) (cwV 1 hts gX4_slip_X4_fails rfl rfl rfl (by decide +kernel) ⟨Nat.le_of_ble_eq_true rfl, Nat.le_of_ble_eq_true rfl⟩) (z_recv hK (hP 0 _ rfl) rfl) hP trivial hK rfl hl.1 rfl (Nat.le_of_ble_eq_true rfl) dX4_slip_7 ⟨Nat.zero_le _, Nat.zero_le _⟩ hS (MW_fr hS.1) (fun H locs hP _ _ hS => ?_)
  refine z_ifp_eq (P := 0 < (2)) (tgt := 15) hx hb dX4_slip_10 (by decide)  (fun h10 => ?_) (fun h10 => ?_)
  · exfalso; omega
  ·
    refine z_iconst hx hb dX4_slip_13 ?_
    exact z_wiret hx hb hr hlk dX4_slip_14 (by omega) hP hS

set_option maxHeartbeats 4000000 in
set_option maxRecDepth 100000 in
theorem c_X4_errata_0 (l : Launch) (g : gG) (ad : Nat → Nat) (σ : SG) (th : Int) (hW : WF σ) (hd : Dst ad) (sz : Nat) (c1 : Nat) (hc : (c1 : Int) < σ 8 0) (zc : Int) (hzc : zc = (c1 : Int)) (k : Nat) (hk : (k : Int) < σ 0 0) (zk : Int) (hzk : zk = (k : Int)) (hln : σ 1 k = σ 9 c1) : MI l yX4_errata wsX4_errata ({ frames := 3, cells := 0, slots := 0, locals := 65 }) g ad [.int (zi (zc)), .int (zi (zk))] sz σ th (σ) (0) ((sset (dfB σ c1 k) (σ 1 k).toNat).toInt) := by
  refine ZM.ofW (cc := cX4_errata) (maxL := 3) (ret := (some .int)) (by decide) rfl (Nat.le_of_ble_eq_true rfl) ?_
  intro p e s m below meth c ls hx hb hr hml hown hts hlk hP hK hl _
  obtain ⟨rfl, hP, -⟩ := hP
  have hS : va_S (va_A (MWs g ad σ th) s.heap.size) s.heap s.heap [] := va_S.rf
  have hown : s.vm.findClass RX4 = some m.cls := hown
  have hl : lv_has ls 3 [(0, .ref (ad 0)), (1, .int (zi (zc))), (2, .int (zi (zk)))] := hl
  have hn := hW.n
  have hcn := hW.cn
  have hcp := hW.cp hc
  have hbk := hW.bars hk
  have hgg : IsC σ zc ∧ IsV σ zk := by omega
  have hlen : σ 1 zk.toNat = σ 9 zc.toNat := by rw [show zk.toNat = k by omega, show zc.toNat = c1 by omega]; exact hln
  refine lv_aload_n hx hb dX4_errata_0 rfl (lv_at hl 0 rfl) ?_
  refine lv_aload_n hx hb dX4_errata_1 rfl (lv_at hl 0 rfl) ?_
  refine lv_iload_n hx hb dX4_errata_2 rfl (lv_at hl 1 rfl) ?_
  refine lv_iload_n hx hb dX4_errata_3 rfl (lv_at hl 2 rfl) ?_
  refine ro_V (rest := [.ref (ad 0)]) (As := [.int (zi (zc)), .int (zi (zk))]) ⟨hx, hb, hml, hown, hts⟩ (c_X4_misses l g ad σ (th) hW (zc) (zk) (by omega) (by omega) 0 (fun h => absurd hgg h) (fun _ _ => rfl) (fun _ h => absurd hlen h)) (cwV 2 hts gX4_errata_X4_misses rfl rfl rfl (by decide +kernel) ⟨Nat.le_of_ble_eq_true rfl, Nat.le_of_ble_eq_true rfl⟩) (z_recv hK (hP 0 _ rfl) rfl) hP hK rfl hl.1 rfl (Nat.le_of_ble_eq_true rfl) dX4_errata_4 ⟨Nat.zero_le _, Nat.zero_le _⟩ ?_
  refine wi_V (rest := []) (As := [.int (zi (0))]) ⟨hx, hb, hml, hown, hts⟩ (c_X4_fails l g ad σ (th) hW hd _ (0) (by omega)) (cwV 1 hts gX4_errata_X4_fails rfl rfl rfl (by decide +kernel) ⟨Nat.le_of_ble_eq_true rfl, Nat.le_of_ble_eq_true rfl⟩) (z_recv hK (hP 0 _ rfl) rfl) hP trivial hK rfl hl.1 rfl (Nat.le_of_ble_eq_true rfl) dX4_errata_7 ⟨Nat.zero_le _, Nat.zero_le _⟩ hS (MW_fr hS.1) (fun H locs hP _ _ hS => ?_)
  refine z_ifp_eq (P := 0 < (0)) (tgt := 17) hx hb dX4_errata_10 (by decide)  (fun h10 => ?_) (fun h10 => ?_)
  ·
    refine lv_aload_n hx hb dX4_errata_17 rfl (lv_at hl 0 rfl) ?_
    refine lv_iload_n hx hb dX4_errata_18 rfl (lv_at hl 1 rfl) ?_
    refine lv_iload_n hx hb dX4_errata_19 rfl (lv_at hl 2 rfl) ?_
    refine ro_V (rest := []) (As := [.int (zi (zc)), .int (zi (zk))]) ⟨hx, hb, hml, hown, hts⟩ (c_X4_differs l g ad σ (0) hW c1 hc (zc) (by omega) k hk (zk) (by omega)) (cwV 2 hts gX4_errata_X4_differs rfl rfl rfl (by decide +kernel) ⟨Nat.le_of_ble_eq_true rfl, Nat.le_of_ble_eq_true rfl⟩) (z_recv hK (hP 0 _ rfl) rfl) hP hK rfl hl.1 rfl (Nat.le_of_ble_eq_true rfl) dX4_errata_20 ⟨Nat.zero_le _, Nat.zero_le _⟩ ?_
    exact z_wiret hx hb hr hlk dX4_errata_23 (rfl) hP hS
  · exfalso; omega

set_option maxHeartbeats 4000000 in
set_option maxRecDepth 100000 in
theorem c_X4_slip_0 (l : Launch) (g : gG) (ad : Nat → Nat) (σ : SG) (th : Int) (hW : WF σ) (hd : Dst ad) (sz : Nat) (c1 : Nat) (hc : (c1 : Int) < σ 8 0) (zc : Int) (hzc : zc = (c1 : Int)) (k : Nat) (hk : (k : Int) < σ 0 0) (zk : Int) (hzk : zk = (k : Int)) (hln : σ 1 k = σ 9 c1) : MI l yX4_slip wsX4_slip ({ frames := 3, cells := 0, slots := 0, locals := 65 }) g ad [.int (zi (zc)), .int (zi (zk))] sz σ th (opS σ c1 k) (0) (cnt (dfB σ c1 k) (σ 1 k).toNat) := by
  refine ZM.ofW (cc := cX4_slip) (maxL := 6) (ret := (some .int)) (by decide) rfl (Nat.le_of_ble_eq_true rfl) ?_
  intro p e s m below meth c ls hx hb hr hml hown hts hlk hP hK hl _
  obtain ⟨rfl, hP, -⟩ := hP
  have hS : va_S (va_A (MWs g ad σ th) s.heap.size) s.heap s.heap [] := va_S.rf
  have hown : s.vm.findClass RX4 = some m.cls := hown
  have hl : lv_has ls 6 [(0, .ref (ad 0)), (1, .int (zi (zc))), (2, .int (zi (zk)))] := hl
  have hiX4 : ∀ w ∈ u_ws RX4 TX4 14, w ∈ wsX4_slip := by decide +kernel
  have hn := hW.n
  have hcn := hW.cn
  have hcp := hW.cp hc
  have hbk := hW.bars hk
  have hgg : IsC σ zc ∧ IsV σ zk := by omega
  have hlen : σ 1 zk.toNat = σ 9 zc.toNat := by rw [show zk.toNat = k by omega, show zc.toNat = c1 by omega]; exact hln
  refine lv_aload_n hx hb dX4_slip_0 rfl (lv_at hl 0 rfl) ?_
  refine lv_aload_n hx hb dX4_slip_1 rfl (lv_at hl 0 rfl) ?_
  refine lv_iload_n hx hb dX4_slip_2 rfl (lv_at hl 1 rfl) ?_
  refine lv_iload_n hx hb dX4_slip_3 rfl (lv_at hl 2 rfl) ?_
  refine ro_V (rest := [.ref (ad 0)]) (As := [.int (zi (zc)), .int (zi (zk))]) ⟨hx, hb, hml, hown, hts⟩ (c_X4_misses l g ad σ (th) hW (zc) (zk) (by omega) (by omega) 0 (fun h => absurd hgg h) (fun _ _ => rfl) (fun _ h => absurd hlen h)) (cwV 2 hts gX4_slip_X4_misses rfl rfl rfl (by decide +kernel) ⟨Nat.le_of_ble_eq_true rfl, Nat.le_of_ble_eq_true rfl⟩) (z_recv hK (hP 0 _ rfl) rfl) hP hK rfl hl.1 rfl (Nat.le_of_ble_eq_true rfl) dX4_slip_4 ⟨Nat.zero_le _, Nat.zero_le _⟩ ?_
  refine wi_V (rest := []) (As := [.int (zi (0))]) ⟨hx, hb, hml, hown, hts⟩ (c_X4_fails l g ad σ (th) hW hd _ (0) (by omega)) (cwV 1 hts gX4_slip_X4_fails rfl rfl rfl (by decide +kernel) ⟨Nat.le_of_ble_eq_true rfl, Nat.le_of_ble_eq_true rfl⟩) (z_recv hK (hP 0 _ rfl) rfl) hP trivial hK rfl hl.1 rfl (Nat.le_of_ble_eq_true rfl) dX4_slip_7 ⟨Nat.zero_le _, Nat.zero_le _⟩ hS (MW_fr hS.1) (fun H locs hP _ _ hS => ?_)
  refine z_ifp_eq (P := 0 < (0)) (tgt := 15) hx hb dX4_slip_10 (by decide)  (fun h10 => ?_) (fun h10 => ?_)
  ·
    refine lv_aload_n hx hb dX4_slip_15 rfl (lv_at hl 0 rfl) ?_
    refine lv_iload_n hx hb dX4_slip_16 rfl (lv_at hl 1 rfl) ?_
    refine lv_iload_n hx hb dX4_slip_17 rfl (lv_at hl 2 rfl) ?_
    refine ro_V (rest := []) (As := [.int (zi (zc)), .int (zi (zk))]) ⟨hx, hb, hml, hown, hts⟩ (c_X4_differs l g ad σ (0) hW c1 hc (zc) (by omega) k hk (zk) (by omega)) (cwV 2 hts gX4_slip_X4_differs rfl rfl rfl (by decide +kernel) ⟨Nat.le_of_ble_eq_true rfl, Nat.le_of_ble_eq_true rfl⟩) (z_recv hK (hP 0 _ rfl) rfl) hP hK rfl hl.1 rfl (Nat.le_of_ble_eq_true rfl) dX4_slip_18 ⟨Nat.zero_le _, Nat.zero_le _⟩ ?_
    refine lv_istore_n (lv' := [(3, .int (zi ((sset (dfB σ c1 k) (σ 1 k).toNat).toInt))), (0, .ref (ad 0)), (1, .int (zi (zc))), (2, .int (zi (zk)))]) hx hb dX4_slip_21 rfl hl (by decide) rfl (fun ls hl => ?_)
    refine z_iconst hx hb dX4_slip_22 ?_
    refine z_top (b := cnt (dfB σ c1 k) 0) (rfl) ?_
    refine lv_istore (lv' := [(4, .int (zi (cnt (dfB σ c1 k) 0))), (3, .int (zi ((sset (dfB σ c1 k) (σ 1 k).toNat).toInt))), (0, .ref (ad 0)), (1, .int (zi (zc))), (2, .int (zi (zk)))]) hx hb dX4_slip_23 hl (by decide) rfl (fun ls hl => ?_)
    refine z_iconst hx hb dX4_slip_25 ?_
    refine z_top (b := ((0 : Nat) : Int)) (rfl) ?_
    refine lv_istore (lv' := [(5, .int (zi (((0 : Nat) : Int)))), (4, .int (zi (cnt (dfB σ c1 k) 0))), (3, .int (zi ((sset (dfB σ c1 k) (σ 1 k).toNat).toInt))), (0, .ref (ad 0)), (1, .int (zi (zc))), (2, .int (zi (zk)))]) hx hb dX4_slip_26 hl (by decide) rfl (fun ls hl => ?_)
    have loop28 : ∀ (d j : Nat), (j : Int) ≤ σ 1 k → (σ 1 k).toNat - j = d → ∀ (H : Heap) (locs : List Loc), va_P g.1 vwCl (MWs g ad (sfl σ 11 (12 * c1) j (fun i => NV σ k (σ 10 c1).toNat (i - 12 * c1))) (0)) H → va_S (va_A (MWs g ad σ th) s.heap.size) s.heap H locs → ∀ ls : Array Slot, lv_has ls 6 [(5, .int (zi ((j : Int)))), (4, .int (zi (cnt (dfB σ c1 k) j))), (3, .int (zi ((sset (dfB σ c1 k) (σ 1 k).toNat).toInt))), (0, .ref (ad 0)), (1, .int (zi (zc))), (2, .int (zi (zk)))] → W p l e ({ frames := 3, cells := 0, slots := 0, locals := 65 }) s m ([.ref (ad 0), .int (zi (zc)), .int (zi (zk))] : List Value).toArray below meth c H locs 0 0 (MQ below (va_Qi (fun z9 (_ : Unit) => z9 = zi (cnt (dfB σ c1 k) (σ 1 k).toNat)) (fun _ t9 => va_P g.1 vwCl (MWs g ad (opS σ c1 k) (0)) t9.heap) (va_A (MWs g ad σ th) s.heap.size)) ([.ref (ad 0), .int (zi (zc)), .int (zi (zk))] : List Value).toArray s 0 0 (va_A (MWs g ad σ th) s.heap.size)) (F0 m 28 ls []) := by
      intro d
      induction d with
      | zero =>
        intro j hj hd2 H locs hP hS ls hl
        have eb : j = (σ 1 k).toNat := by omega
        refine lv_iload hx hb dX4_slip_28 (lv_at hl 0 rfl) ?_
        refine lv_aload_n hx hb dX4_slip_30 rfl (lv_at hl 3 rfl) ?_
        refine z_get (C := RX4) (T := TX4) (N := 14) hx hb hts hiX4 hown hK (hP 0 _ rfl) rfl 1 (by decide) (hts (.fieldLink RX4 7 "HarmoniumDeskModel" "bars" "[I") (by decide +kernel)) rfl rfl dX4_slip_31 ?_
        refine lv_iload_n hx hb dX4_slip_34 rfl (lv_at hl 5 rfl) ?_
        refine z_iald hx hb hK (hP 1 _ rfl) (k) (by omega) (by omega) (by decide) dX4_slip_35 ?_
        refine z_top (b := σ 1 (k)) rfl ?_
        refine z_icmp_ge (tgt := 85) hx hb dX4_slip_36 (by decide) (by omega) (by omega) (fun h36 => ?_) (fun h36 => ?_)
        ·
          refine lv_aload_n hx hb dX4_slip_85 rfl (lv_at hl 3 rfl) ?_
          refine z_get (C := RX4) (T := TX4) (N := 14) hx hb hts hiX4 hown hK (hP 0 _ rfl) rfl 12 (by decide) (hts (.fieldLink RX4 42 "HarmoniumDeskModel" "slips" "[I") (by decide +kernel)) rfl rfl dX4_slip_86 ?_
          refine lv_iload_n hx hb dX4_slip_89 rfl (lv_at hl 4 rfl) ?_
          refine lv_dup2_11 hx hb dX4_slip_90 rfl rfl ?_
          refine z_iald hx hb hK (hP 10 _ rfl) (c1) (by omega) (by omega) (by decide) dX4_slip_91 ?_
          refine z_top (b := σ 12 (c1)) rfl ?_
          refine lv_iload hx hb dX4_slip_92 (lv_at hl 1 rfl) ?_
          refine z_iadd hx hb dX4_slip_94 ?_
          refine z_mast (x := (σ 12 (c1)) + (cnt (dfB σ c1 k) j)) hx hb hd hK hP hS 10 12 20 rfl (c1) (msa10 _ _ _ _ _ _) (by omega) (by omega) (by decide) dX4_slip_95 (fun H locs hP hS => ?_)
          refine lv_iload hx hb dX4_slip_96 (lv_at hl 1 rfl) ?_
          exact z_wiret hx hb hr hlk dX4_slip_98 (by rw [eb]) (by rw [eb] at hP; exact hP) hS
        · exfalso; omega
      | succ d ih =>
        intro j hj hd2 H locs hP hS ls hl
        refine lv_iload hx hb dX4_slip_28 (lv_at hl 0 rfl) ?_
        refine lv_aload_n hx hb dX4_slip_30 rfl (lv_at hl 3 rfl) ?_
        refine z_get (C := RX4) (T := TX4) (N := 14) hx hb hts hiX4 hown hK (hP 0 _ rfl) rfl 1 (by decide) (hts (.fieldLink RX4 7 "HarmoniumDeskModel" "bars" "[I") (by decide +kernel)) rfl rfl dX4_slip_31 ?_
        refine lv_iload_n hx hb dX4_slip_34 rfl (lv_at hl 5 rfl) ?_
        refine z_iald hx hb hK (hP 1 _ rfl) (k) (by omega) (by omega) (by decide) dX4_slip_35 ?_
        refine z_top (b := σ 1 (k)) rfl ?_
        refine z_icmp_ge (tgt := 85) hx hb dX4_slip_36 (by decide) (by omega) (by omega) (fun h36 => ?_) (fun h36 => ?_)
        · exfalso; omega
        ·
          refine lv_iload hx hb dX4_slip_39 (lv_at hl 1 rfl) ?_
          refine lv_iload_n hx hb dX4_slip_41 rfl (lv_at hl 2 rfl) ?_
          refine lv_iload hx hb dX4_slip_42 (lv_at hl 0 rfl) ?_
          refine lv_ishr hx hb dX4_slip_44 ?_
          refine z_iconst hx hb dX4_slip_45 ?_
          refine lv_iand hx hb dX4_slip_46 ?_
          refine z_xtop (y := zi (pz ((dfB σ c1 k) j = true))) (by rw [← zi_of]; exact sset_bit _ (by omega) (by omega)) ?_
          refine z_iadd hx hb dX4_slip_47 ?_
          refine z_top (b := cnt (dfB σ c1 k) (j + 1)) (rfl) ?_
          refine lv_istore (lv' := [(4, .int (zi (cnt (dfB σ c1 k) (j + 1)))), (5, .int (zi ((j : Int)))), (3, .int (zi ((sset (dfB σ c1 k) (σ 1 k).toNat).toInt))), (0, .ref (ad 0)), (1, .int (zi (zc))), (2, .int (zi (zk)))]) hx hb dX4_slip_48 hl (by decide) rfl (fun ls hl => ?_)
          refine lv_aload_n hx hb dX4_slip_50 rfl (lv_at hl 3 rfl) ?_
          refine z_get (C := RX4) (T := TX4) (N := 14) hx hb hts hiX4 hown hK (hP 0 _ rfl) rfl 11 (by decide) (hts (.fieldLink RX4 39 "HarmoniumDeskModel" "printed" "[I") (by decide +kernel)) rfl rfl dX4_slip_51 ?_
          refine z_bipush hx hb dX4_slip_54 (by decide) ?_
          refine lv_iload_n hx hb dX4_slip_56 rfl (lv_at hl 4 rfl) ?_
          refine z_imul hx hb dX4_slip_57 ?_
          refine lv_iload hx hb dX4_slip_58 (lv_at hl 1 rfl) ?_
          refine z_iadd hx hb dX4_slip_60 ?_
          refine lv_aload_n hx hb dX4_slip_61 rfl (lv_at hl 3 rfl) ?_
          refine z_get (C := RX4) (T := TX4) (N := 14) hx hb hts hiX4 hown hK (hP 0 _ rfl) rfl 5 (by decide) (hts (.fieldLink RX4 23 "HarmoniumDeskModel" "notes" "[I") (by decide +kernel)) rfl rfl dX4_slip_62 ?_
          refine lv_iload_n hx hb dX4_slip_65 rfl (lv_at hl 5 rfl) ?_
          refine lv_aload_n hx hb dX4_slip_66 rfl (lv_at hl 3 rfl) ?_
          refine z_get (C := RX4) (T := TX4) (N := 14) hx hb hts hiX4 hown hK (hP 0 _ rfl) rfl 10 (by decide) (hts (.fieldLink RX4 36 "HarmoniumDeskModel" "voiceOf" "[I") (by decide +kernel)) rfl rfl dX4_slip_67 ?_
          refine lv_iload_n hx hb dX4_slip_70 rfl (lv_at hl 4 rfl) ?_
          refine z_iald hx hb hK (hP 8 _ rfl) (c1) (by omega) (by omega) (by decide) dX4_slip_71 ?_
          refine z_top (b := σ 10 (c1)) rfl ?_
          refine lv_iload hx hb dX4_slip_72 (lv_at hl 1 rfl) ?_
          refine ro_S (rest := [.ref (ad 5), .int (zi (((12) * (zc)) + ((j : Int)))), .ref (ad 9)]) (As := [.int (zi (zk)), .int (zi (σ 10 (c1))), .int (zi ((j : Int)))]) ⟨hx, hb, hml, hown, hts⟩ (c_X4_at l g (zk) (σ 10 (c1)) ((j : Int))) (cwS 3 hts gX4_slip_X4_at rfl rfl rfl (by decide +kernel) ⟨Nat.le_of_ble_eq_true rfl, Nat.le_of_ble_eq_true rfl⟩) trivial hK rfl hl.1 rfl (Nat.le_of_ble_eq_true rfl) dX4_slip_74 ⟨Nat.zero_le _, Nat.zero_le _⟩ ?_
          refine z_iald hx hb hK (hP 5 _ rfl) (24 * k + 12 * (σ 10 c1).toNat + j) (by omega) (by omega) (by decide) dX4_slip_77 ?_
          refine z_top (b := σ 5 (24 * k + 12 * (σ 10 c1).toNat + j)) rfl ?_
          refine z_top (b := NV σ k (σ 10 c1).toNat j) (rfl) ?_
          refine z_mast (x := NV σ k (σ 10 c1).toNat j) hx hb hd hK hP hS 9 11 240 rfl (12 * c1 + j) (msa9 _ _ _ _ _ _) (by omega) (by omega) (by decide) dX4_slip_78 (fun H locs hP hS => ?_)
          refine z_iinc (b := ((j + 1 : Nat) : Int)) (lv' := [(5, .int (zi (((j + 1 : Nat) : Int)))), (4, .int (zi (cnt (dfB σ c1 k) (j + 1)))), (3, .int (zi ((sset (dfB σ c1 k) (σ 1 k).toNat).toInt))), (0, .ref (ad 0)), (1, .int (zi (zc))), (2, .int (zi (zk)))]) hx hb dX4_slip_79 hl (k := 1) rfl (by omega) (by decide) rfl (fun ls hl => ?_)
          refine lv_goto (tgt := 28) hx hb dX4_slip_82 (by decide) ?_
          rw [sfl_s σ 11 (12 * c1) j (12 * c1 + j) (fun i => NV σ k (σ 10 c1).toNat (i - 12 * c1)) (NV σ k (σ 10 c1).toNat j) rfl (by show _ = NV σ k _ _; congr 1; omega)] at hP
          exact ih (j + 1) (by omega) (by omega) H locs hP hS ls (lv_sub hl [0, 1, 2, 3, 4, 5] rfl)
    rw [← sfl_0 σ 11 (12 * c1) (fun i => NV σ k (σ 10 c1).toNat (i - 12 * c1))] at hP
    exact loop28 _ 0 (by omega) rfl _ _ hP hS ls (lv_sub hl [0, 1, 2, 3, 4, 5] rfl)
  · exfalso; omega
