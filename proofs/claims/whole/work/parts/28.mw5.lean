set_option maxHeartbeats 4000000 in
set_option maxRecDepth 100000 in
theorem c_X4_fallen (l : Launch) (g : gG) (ad : Nat → Nat) (σ : SG) (th : Int) (hW : WF σ) (hd : Dst ad) (sz : Nat)  : MI l yX4_fallen wsX4_fallen ({ frames := 5, cells := 0, slots := 0, locals := 114 }) g ad [] sz σ th (σ) (0) ((sset (faB σ) (σ 0 0).toNat).toInt) := by
  refine ZM.ofW (cc := cX4_fallen) (maxL := 3) (ret := (some .int)) (by decide) rfl (Nat.le_of_ble_eq_true rfl) ?_
  intro p e s m below meth c ls hx hb hr hml hown hts hlk hP hK hl _
  obtain ⟨rfl, hP, -⟩ := hP
  have hS : va_S (va_A (MWs g ad σ th) s.heap.size) s.heap s.heap [] := va_S.rf
  have hown : s.vm.findClass RX4 = some m.cls := hown
  have hl : lv_has ls 3 [(0, .ref (ad 0))] := hl
  have hiX4 : ∀ w ∈ u_ws RX4 TX4 14, w ∈ wsX4_fallen := by decide +kernel
  have hn := hW.n
  refine lv_aload_n hx hb dX4_fallen_0 rfl (lv_at hl 0 rfl) ?_
  refine z_iconst hx hb dX4_fallen_1 ?_
  refine z_mput hx hb hd hts hiX4 hown hK hP hS 13 (by decide) (hts (.fieldLink RX4 45 "HarmoniumDeskModel" "thrown" "I") (by decide +kernel)) rfl rfl rfl (ms13 _ _ _ _ _) dX4_fallen_2 (fun H locs hP hS => ?_)
  refine z_iconst hx hb dX4_fallen_5 ?_
  refine z_xtop (y := sset (faB σ) 0) (rfl) ?_
  refine lv_istore_n (lv' := [(1, .int (sset (faB σ) 0)), (0, .ref (ad 0))]) hx hb dX4_fallen_6 rfl hl (by decide) rfl (fun ls hl => ?_)
  refine z_iconst hx hb dX4_fallen_7 ?_
  refine z_top (b := ((0 : Nat) : Int)) (rfl) ?_
  refine lv_istore_n (lv' := [(2, .int (zi (((0 : Nat) : Int)))), (1, .int (sset (faB σ) 0)), (0, .ref (ad 0))]) hx hb dX4_fallen_8 rfl hl (by decide) rfl (fun ls hl => ?_)
  have loop9 : ∀ (d k : Nat), (k : Int) ≤ σ 0 0 → (σ 0 0).toNat - k = d → ∀ (H : Heap) (locs : List Loc), va_P g.1 vwCl (MWs g ad σ (0)) H → va_S (va_A (MWs g ad σ th) s.heap.size) s.heap H locs → ∀ ls : Array Slot, lv_has ls 3 [(2, .int (zi ((k : Int)))), (1, .int (sset (faB σ) k)), (0, .ref (ad 0))] → W p l e ({ frames := 5, cells := 0, slots := 0, locals := 114 }) s m ([.ref (ad 0)] : List Value).toArray below meth c H locs 0 0 (MQ below (va_Qi (fun z9 (_ : Unit) => z9 = zi ((sset (faB σ) (σ 0 0).toNat).toInt)) (fun _ t9 => va_P g.1 vwCl (MWs g ad (σ) (0)) t9.heap) (va_A (MWs g ad σ th) s.heap.size)) ([.ref (ad 0)] : List Value).toArray s 0 0 (va_A (MWs g ad σ th) s.heap.size)) (F0 m 9 ls []) := by
    intro d
    induction d with
    | zero =>
      intro k hk9 hd2 H locs hP hS ls hl
      have eb : k = (σ 0 0).toNat := by omega
      refine lv_iload_n hx hb dX4_fallen_9 rfl (lv_at hl 0 rfl) ?_
      refine lv_aload_n hx hb dX4_fallen_10 rfl (lv_at hl 2 rfl) ?_
      refine z_get (C := RX4) (T := TX4) (N := 14) hx hb hts hiX4 hown hK (hP 0 _ rfl) rfl 0 (by decide) (hts (.fieldLink RX4 48 "HarmoniumDeskModel" "versions" "I") (by decide +kernel)) rfl rfl dX4_fallen_11 ?_
      refine z_icmp_ge (tgt := 54) hx hb dX4_fallen_14 (by decide) (by omega) (by omega) (fun h14 => ?_) (fun h14 => ?_)
      ·
        refine lv_iload_n hx hb dX4_fallen_54 rfl (lv_at hl 1 rfl) ?_
        refine z_xtop (y := zi ((sset (faB σ) (σ 0 0).toNat).toInt)) (by rw [eb]; exact zi_of _) ?_
        exact z_wiret hx hb hr hlk dX4_fallen_55 (rfl) hP hS
      · exfalso; omega
    | succ d ih =>
      intro k hk9 hd2 H locs hP hS ls hl
      have hfl := hW.flag k
      have hps := hW.pass
      refine lv_iload_n hx hb dX4_fallen_9 rfl (lv_at hl 0 rfl) ?_
      refine lv_aload_n hx hb dX4_fallen_10 rfl (lv_at hl 2 rfl) ?_
      refine z_get (C := RX4) (T := TX4) (N := 14) hx hb hts hiX4 hown hK (hP 0 _ rfl) rfl 0 (by decide) (hts (.fieldLink RX4 48 "HarmoniumDeskModel" "versions" "I") (by decide +kernel)) rfl rfl dX4_fallen_11 ?_
      refine z_icmp_ge (tgt := 54) hx hb dX4_fallen_14 (by decide) (by omega) (by omega) (fun h14 => ?_) (fun h14 => ?_)
      · exfalso; omega
      ·
        refine lv_iload_n hx hb dX4_fallen_17 rfl (lv_at hl 1 rfl) ?_
        refine lv_aload_n hx hb dX4_fallen_18 rfl (lv_at hl 2 rfl) ?_
        refine z_get (C := RX4) (T := TX4) (N := 14) hx hb hts hiX4 hown hK (hP 0 _ rfl) rfl 4 (by decide) (hts (.fieldLink RX4 20 "HarmoniumDeskModel" "hasPassed" "[Z") (by decide +kernel)) rfl rfl dX4_fallen_19 ?_
        refine lv_iload_n hx hb dX4_fallen_22 rfl (lv_at hl 0 rfl) ?_
        refine z_zald hx hb hK (hP 4 _ rfl) (k) (by omega) (by omega) (by decide) dX4_fallen_23 ?_
        refine z_if_eq (tgt := 45) hx hb dX4_fallen_24 (by decide) (by omega) (fun h24 => ?_) (fun h24 => ?_)
        ·
          refine z_iconst hx hb dX4_fallen_45 ?_
          refine lv_ior hx hb dX4_fallen_46 ?_
          refine z_xtop (y := sset (faB σ) (k + 1)) (sset_f (faB σ) k (fun hh => by have hh := of_decide_eq_true hh; omega)) ?_
          refine lv_istore_n (lv' := [(1, .int (sset (faB σ) (k + 1))), (2, .int (zi ((k : Int)))), (0, .ref (ad 0))]) hx hb dX4_fallen_47 rfl hl (by decide) rfl (fun ls hl => ?_)
          refine z_iinc (b := ((k + 1 : Nat) : Int)) (lv' := [(2, .int (zi (((k + 1 : Nat) : Int)))), (1, .int (sset (faB σ) (k + 1))), (0, .ref (ad 0))]) hx hb dX4_fallen_48 hl (k := 1) rfl (by omega) (by decide) rfl (fun ls hl => ?_)
          refine lv_goto (tgt := 9) hx hb dX4_fallen_51 (by decide) ?_
          exact ih (k + 1) (by omega) (by omega) H locs hP hS ls (lv_sub hl [0, 1, 2] rfl)
        ·
          refine lv_aload_n hx hb dX4_fallen_27 rfl (lv_at hl 2 rfl) ?_
          refine lv_iload_n hx hb dX4_fallen_28 rfl (lv_at hl 0 rfl) ?_
          refine ro_V (rest := [.int (sset (faB σ) k)]) (As := [.int (zi ((k : Int)))]) ⟨hx, hb, hml, hown, hts⟩ (c_X4_markOf l g ad σ (0) hW k (by omega) ((k : Int)) (by omega)) (cwV 1 hts gX4_fallen_X4_markOf rfl rfl rfl (by decide +kernel) ⟨Nat.le_of_ble_eq_true rfl, Nat.le_of_ble_eq_true rfl⟩) (z_recv hK (hP 0 _ rfl) rfl) hP hK rfl hl.1 rfl (Nat.le_of_ble_eq_true rfl) dX4_fallen_29 ⟨Nat.zero_le _, Nat.zero_le _⟩ ?_
          have hmk := MK_r hW (k := k) (by omega)
          refine lv_aload_n hx hb dX4_fallen_32 rfl (lv_at hl 2 rfl) ?_
          refine z_get (C := RX4) (T := TX4) (N := 14) hx hb hts hiX4 hown hK (hP 0 _ rfl) rfl 7 (by decide) (hts (.fieldLink RX4 29 "HarmoniumDeskModel" "pass" "I") (by decide +kernel)) rfl rfl dX4_fallen_33 ?_
          refine z_icmp_ge (tgt := 45) hx hb dX4_fallen_36 (by decide) (by omega) (by omega) (fun h36 => ?_) (fun h36 => ?_)
          ·
            refine z_iconst hx hb dX4_fallen_45 ?_
            refine lv_ior hx hb dX4_fallen_46 ?_
            refine z_xtop (y := sset (faB σ) (k + 1)) (sset_f (faB σ) k (fun hh => by have hh := of_decide_eq_true hh; omega)) ?_
            refine lv_istore_n (lv' := [(1, .int (sset (faB σ) (k + 1))), (2, .int (zi ((k : Int)))), (0, .ref (ad 0))]) hx hb dX4_fallen_47 rfl hl (by decide) rfl (fun ls hl => ?_)
            refine z_iinc (b := ((k + 1 : Nat) : Int)) (lv' := [(2, .int (zi (((k + 1 : Nat) : Int)))), (1, .int (sset (faB σ) (k + 1))), (0, .ref (ad 0))]) hx hb dX4_fallen_48 hl (k := 1) rfl (by omega) (by decide) rfl (fun ls hl => ?_)
            refine lv_goto (tgt := 9) hx hb dX4_fallen_51 (by decide) ?_
            exact ih (k + 1) (by omega) (by omega) H locs hP hS ls (lv_sub hl [0, 1, 2] rfl)
          ·
            refine z_iconst hx hb dX4_fallen_39 ?_
            refine lv_iload_n hx hb dX4_fallen_40 rfl (lv_at hl 0 rfl) ?_
            refine lv_ishl hx hb dX4_fallen_41 ?_
            refine lv_goto (tgt := 46) hx hb dX4_fallen_42 (by decide) ?_
            refine lv_ior hx hb dX4_fallen_46 ?_
            refine z_xtop (y := sset (faB σ) (k + 1)) (sset_t (faB σ) k (decide_eq_true ⟨by omega, by omega⟩)) ?_
            refine lv_istore_n (lv' := [(1, .int (sset (faB σ) (k + 1))), (2, .int (zi ((k : Int)))), (0, .ref (ad 0))]) hx hb dX4_fallen_47 rfl hl (by decide) rfl (fun ls hl => ?_)
            refine z_iinc (b := ((k + 1 : Nat) : Int)) (lv' := [(2, .int (zi (((k + 1 : Nat) : Int)))), (1, .int (sset (faB σ) (k + 1))), (0, .ref (ad 0))]) hx hb dX4_fallen_48 hl (k := 1) rfl (by omega) (by decide) rfl (fun ls hl => ?_)
            refine lv_goto (tgt := 9) hx hb dX4_fallen_51 (by decide) ?_
            exact ih (k + 1) (by omega) (by omega) H locs hP hS ls (lv_sub hl [0, 1, 2] rfl)
  exact loop9 _ 0 (by omega) rfl _ _ hP hS ls (lv_sub hl [0, 1, 2] rfl)

set_option maxHeartbeats 4000000 in
set_option maxRecDepth 100000 in
theorem c_X4_slips_1 (l : Launch) (g : gG) (ad : Nat → Nat) (σ : SG) (th : Int) (hW : WF σ) (hd : Dst ad) (sz : Nat) (c9 : Int) (hc9 : zr c9) (hbad : ¬ IsC σ c9) : MI l yX4_slips wsX4_slips ({ frames := 2, cells := 0, slots := 0, locals := 43 }) g ad [.int (zi (c9))] sz σ th (σ) (1) (0) := by
  refine ZM.ofW (cc := cX4_slips) (maxL := 2) (ret := (some .int)) (by decide) rfl (Nat.le_of_ble_eq_true rfl) ?_
  intro p e s m below meth c ls hx hb hr hml hown hts hlk hP hK hl _
  obtain ⟨rfl, hP, -⟩ := hP
  have hS : va_S (va_A (MWs g ad σ th) s.heap.size) s.heap s.heap [] := va_S.rf
  have hown : s.vm.findClass RX4 = some m.cls := hown
  have hl : lv_has ls 2 [(0, .ref (ad 0)), (1, .int (zi (c9)))] := hl
  have hn := hW.n
  have hcn := hW.cn
  refine lv_aload_n hx hb dX4_slips_0 rfl (lv_at hl 0 rfl) ?_
  refine lv_aload_n hx hb dX4_slips_1 rfl (lv_at hl 0 rfl) ?_
  refine lv_iload_n hx hb dX4_slips_2 rfl (lv_at hl 1 rfl) ?_
  refine ro_V (rest := [.ref (ad 0)]) (As := [.int (zi (c9))]) ⟨hx, hb, hml, hown, hts⟩ (c_X4_isCopy l g ad σ (th) hW (c9) (by omega)) (cwV 1 hts gX4_slips_X4_isCopy rfl rfl rfl (by decide +kernel) ⟨Nat.le_of_ble_eq_true rfl, Nat.le_of_ble_eq_true rfl⟩) (z_recv hK (hP 0 _ rfl) rfl) hP hK rfl hl.1 rfl (Nat.le_of_ble_eq_true rfl) dX4_slips_3 ⟨Nat.zero_le _, Nat.zero_le _⟩ ?_
  refine z_ifp_eq (P := IsC σ (c9)) (tgt := 13) hx hb dX4_slips_6 (by decide)  (fun h6 => ?_) (fun h6 => ?_)
  ·
    refine z_iconst hx hb dX4_slips_13 ?_
    refine wi_V (rest := []) (As := [.int (zi (1))]) ⟨hx, hb, hml, hown, hts⟩ (c_X4_fails l g ad σ (th) hW hd _ (1) (by omega)) (cwV 1 hts gX4_slips_X4_fails rfl rfl rfl (by decide +kernel) ⟨Nat.le_of_ble_eq_true rfl, Nat.le_of_ble_eq_true rfl⟩) (z_recv hK (hP 0 _ rfl) rfl) hP trivial hK rfl hl.1 rfl (Nat.le_of_ble_eq_true rfl) dX4_slips_14 ⟨Nat.zero_le _, Nat.zero_le _⟩ hS (MW_fr hS.1) (fun H locs hP _ _ hS => ?_)
    refine z_ifp_eq (P := 0 < (1)) (tgt := 24) hx hb dX4_slips_17 (by decide)  (fun h17 => ?_) (fun h17 => ?_)
    · exfalso; omega
    ·
      refine z_iconst hx hb dX4_slips_20 ?_
      refine lv_goto (tgt := 30) hx hb dX4_slips_21 (by decide) ?_
      exact z_wiret hx hb hr hlk dX4_slips_30 (by omega) hP hS
  · exfalso; omega

set_option maxHeartbeats 4000000 in
set_option maxRecDepth 100000 in
theorem c_X4_slips_0 (l : Launch) (g : gG) (ad : Nat → Nat) (σ : SG) (th : Int) (hW : WF σ) (hd : Dst ad) (sz : Nat) (c1 : Nat) (hc : (c1 : Int) < σ 8 0) (zc : Int) (hzc : zc = (c1 : Int)) : MI l yX4_slips wsX4_slips ({ frames := 2, cells := 0, slots := 0, locals := 43 }) g ad [.int (zi (zc))] sz σ th (σ) (0) (σ 12 c1) := by
  refine ZM.ofW (cc := cX4_slips) (maxL := 2) (ret := (some .int)) (by decide) rfl (Nat.le_of_ble_eq_true rfl) ?_
  intro p e s m below meth c ls hx hb hr hml hown hts hlk hP hK hl _
  obtain ⟨rfl, hP, -⟩ := hP
  have hS : va_S (va_A (MWs g ad σ th) s.heap.size) s.heap s.heap [] := va_S.rf
  have hown : s.vm.findClass RX4 = some m.cls := hown
  have hl : lv_has ls 2 [(0, .ref (ad 0)), (1, .int (zi (zc)))] := hl
  have hiX4 : ∀ w ∈ u_ws RX4 TX4 14, w ∈ wsX4_slips := by decide +kernel
  have hn := hW.n
  have hcn := hW.cn
  refine lv_aload_n hx hb dX4_slips_0 rfl (lv_at hl 0 rfl) ?_
  refine lv_aload_n hx hb dX4_slips_1 rfl (lv_at hl 0 rfl) ?_
  refine lv_iload_n hx hb dX4_slips_2 rfl (lv_at hl 1 rfl) ?_
  refine ro_V (rest := [.ref (ad 0)]) (As := [.int (zi (zc))]) ⟨hx, hb, hml, hown, hts⟩ (c_X4_isCopy l g ad σ (th) hW (zc) (by omega)) (cwV 1 hts gX4_slips_X4_isCopy rfl rfl rfl (by decide +kernel) ⟨Nat.le_of_ble_eq_true rfl, Nat.le_of_ble_eq_true rfl⟩) (z_recv hK (hP 0 _ rfl) rfl) hP hK rfl hl.1 rfl (Nat.le_of_ble_eq_true rfl) dX4_slips_3 ⟨Nat.zero_le _, Nat.zero_le _⟩ ?_
  refine z_ifp_eq (P := IsC σ (zc)) (tgt := 13) hx hb dX4_slips_6 (by decide)  (fun h6 => ?_) (fun h6 => ?_)
  · exfalso; omega
  ·
    refine z_iconst hx hb dX4_slips_9 ?_
    refine lv_goto (tgt := 14) hx hb dX4_slips_10 (by decide) ?_
    refine wi_V (rest := []) (As := [.int (zi (0))]) ⟨hx, hb, hml, hown, hts⟩ (c_X4_fails l g ad σ (th) hW hd _ (0) (by omega)) (cwV 1 hts gX4_slips_X4_fails rfl rfl rfl (by decide +kernel) ⟨Nat.le_of_ble_eq_true rfl, Nat.le_of_ble_eq_true rfl⟩) (z_recv hK (hP 0 _ rfl) rfl) hP trivial hK rfl hl.1 rfl (Nat.le_of_ble_eq_true rfl) dX4_slips_14 ⟨Nat.zero_le _, Nat.zero_le _⟩ hS (MW_fr hS.1) (fun H locs hP _ _ hS => ?_)
    refine z_ifp_eq (P := 0 < (0)) (tgt := 24) hx hb dX4_slips_17 (by decide)  (fun h17 => ?_) (fun h17 => ?_)
    ·
      refine lv_aload_n hx hb dX4_slips_24 rfl (lv_at hl 0 rfl) ?_
      refine z_get (C := RX4) (T := TX4) (N := 14) hx hb hts hiX4 hown hK (hP 0 _ rfl) rfl 12 (by decide) (hts (.fieldLink RX4 42 "HarmoniumDeskModel" "slips" "[I") (by decide +kernel)) rfl rfl dX4_slips_25 ?_
      refine lv_iload_n hx hb dX4_slips_28 rfl (lv_at hl 1 rfl) ?_
      refine z_iald hx hb hK (hP 10 _ rfl) (c1) (by omega) (by omega) (by decide) dX4_slips_29 ?_
      exact z_wiret hx hb hr hlk dX4_slips_30 (rfl) hP hS
    · exfalso; omega
