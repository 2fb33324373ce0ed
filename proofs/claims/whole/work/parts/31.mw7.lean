set_option maxHeartbeats 4000000 in
set_option maxRecDepth 100000 in
theorem c_X4_movement_1 (l : Launch) (g : gG) (ad : Nat → Nat) (σ : SG) (th : Int) (hW : WF σ) (hd : Dst ad) (sz : Nat) (z v : Int) (hz : zr z) (hv : zr v) (hbad : ¬ IsN σ z v 0) : MFl l yX4_movement wsX4_movement ({ frames := 3, cells := 0, slots := 0, locals := 66 }) g ad [.int (zi (z)), .int (zi (v))] sz σ th (σ) (1) (FP.fconst0) := by
  refine ZM.ofW (cc := cX4_movement) (maxL := 5) (ret := (some .float)) (by decide) rfl (Nat.le_of_ble_eq_true rfl) ?_
  intro p e s m below meth c ls hx hb hr hml hown hts hlk hP hK hl _
  obtain ⟨rfl, hP, -⟩ := hP
  have hS : va_S (va_A (MWs g ad σ th) s.heap.size) s.heap s.heap [] := va_S.rf
  have hown : s.vm.findClass RX4 = some m.cls := hown
  have hl : lv_has ls 5 [(0, .ref (ad 0)), (1, .int (zi (z))), (2, .int (zi (v)))] := hl
  have hn := hW.n
  refine lv_aload_n hx hb dX4_movement_0 rfl (lv_at hl 0 rfl) ?_
  refine lv_aload_n hx hb dX4_movement_1 rfl (lv_at hl 0 rfl) ?_
  refine lv_iload_n hx hb dX4_movement_2 rfl (lv_at hl 1 rfl) ?_
  refine lv_iload_n hx hb dX4_movement_3 rfl (lv_at hl 2 rfl) ?_
  refine z_iconst hx hb dX4_movement_4 ?_
  refine ro_V (rest := [.ref (ad 0)]) (As := [.int (zi (z)), .int (zi (v)), .int (zi (0))]) ⟨hx, hb, hml, hown, hts⟩ (c_X4_isNote l g ad σ (th) hW (z) (v) (0) (by omega) (by omega) (by omega)) (cwV 3 hts gX4_movement_X4_isNote rfl rfl rfl (by decide +kernel) ⟨Nat.le_of_ble_eq_true rfl, Nat.le_of_ble_eq_true rfl⟩) (z_recv hK (hP 0 _ rfl) rfl) hP hK rfl hl.1 rfl (Nat.le_of_ble_eq_true rfl) dX4_movement_5 ⟨Nat.zero_le _, Nat.zero_le _⟩ ?_
  refine z_ifp_eq (P := IsN σ (z) (v) (0)) (tgt := 15) hx hb dX4_movement_8 (by decide)  (fun h8 => ?_) (fun h8 => ?_)
  ·
    refine z_iconst hx hb dX4_movement_15 ?_
    refine wi_V (rest := []) (As := [.int (zi (1))]) ⟨hx, hb, hml, hown, hts⟩ (c_X4_fails l g ad σ (th) hW hd _ (1) (by omega)) (cwV 1 hts gX4_movement_X4_fails rfl rfl rfl (by decide +kernel) ⟨Nat.le_of_ble_eq_true rfl, Nat.le_of_ble_eq_true rfl⟩) (z_recv hK (hP 0 _ rfl) rfl) hP trivial hK rfl hl.1 rfl (Nat.le_of_ble_eq_true rfl) dX4_movement_16 ⟨Nat.zero_le _, Nat.zero_le _⟩ hS (MW_fr hS.1) (fun H locs hP _ _ hS => ?_)
    refine z_ifp_ne (P := 0 < (1)) (tgt := 32) hx hb dX4_movement_19 (by decide)  (fun h19 => ?_) (fun h19 => ?_)
    ·
      refine lv_fconst0 hx hb dX4_movement_32 ?_
      exact z_wfret hx hb hr hlk dX4_movement_33 (rfl) hP hS
    · exfalso; omega
  · exfalso; omega

set_option maxHeartbeats 4000000 in
set_option maxRecDepth 100000 in
theorem c_X4_movement_0 (l : Launch) (g : gG) (ad : Nat → Nat) (σ : SG) (th : Int) (hW : WF σ) (hd : Dst ad) (sz : Nat) (k : Nat) (hk : (k : Int) < σ 0 0) (zk : Int) (hzk : zk = (k : Int)) (v : Nat) (hv1 : v ≤ 1) (zv : Int) (hzv : zv = (v : Int))  : MFl l yX4_movement wsX4_movement ({ frames := 3, cells := 0, slots := 0, locals := 66 }) g ad [.int (zi (zk)), .int (zi (zv))] sz σ th (σ) (0) (MV σ k v) := by
  refine ZM.ofW (cc := cX4_movement) (maxL := 5) (ret := (some .float)) (by decide) rfl (Nat.le_of_ble_eq_true rfl) ?_
  intro p e s m below meth c ls hx hb hr hml hown hts hlk hP hK hl _
  obtain ⟨rfl, hP, -⟩ := hP
  have hS : va_S (va_A (MWs g ad σ th) s.heap.size) s.heap s.heap [] := va_S.rf
  have hown : s.vm.findClass RX4 = some m.cls := hown
  have hl : lv_has ls 5 [(0, .ref (ad 0)), (1, .int (zi (zk))), (2, .int (zi (zv)))] := hl
  have hiX4 : ∀ w ∈ u_ws RX4 TX4 14, w ∈ wsX4_movement := by decide +kernel
  have hn := hW.n
  have hbk := hW.bars hk
  have ek : zk.toNat = k := by omega
  have hbz : σ 1 zk.toNat = σ 1 k := by rw [ek]
  refine lv_aload_n hx hb dX4_movement_0 rfl (lv_at hl 0 rfl) ?_
  refine lv_aload_n hx hb dX4_movement_1 rfl (lv_at hl 0 rfl) ?_
  refine lv_iload_n hx hb dX4_movement_2 rfl (lv_at hl 1 rfl) ?_
  refine lv_iload_n hx hb dX4_movement_3 rfl (lv_at hl 2 rfl) ?_
  refine z_iconst hx hb dX4_movement_4 ?_
  refine ro_V (rest := [.ref (ad 0)]) (As := [.int (zi (zk)), .int (zi (zv)), .int (zi (0))]) ⟨hx, hb, hml, hown, hts⟩ (c_X4_isNote l g ad σ (th) hW (zk) (zv) (0) (by omega) (by omega) (by omega)) (cwV 3 hts gX4_movement_X4_isNote rfl rfl rfl (by decide +kernel) ⟨Nat.le_of_ble_eq_true rfl, Nat.le_of_ble_eq_true rfl⟩) (z_recv hK (hP 0 _ rfl) rfl) hP hK rfl hl.1 rfl (Nat.le_of_ble_eq_true rfl) dX4_movement_5 ⟨Nat.zero_le _, Nat.zero_le _⟩ ?_
  refine z_ifp_eq (P := IsN σ (zk) (zv) (0)) (tgt := 15) hx hb dX4_movement_8 (by decide)  (fun h8 => ?_) (fun h8 => ?_)
  · exfalso; omega
  ·
    refine z_iconst hx hb dX4_movement_11 ?_
    refine lv_goto (tgt := 16) hx hb dX4_movement_12 (by decide) ?_
    refine wi_V (rest := []) (As := [.int (zi (0))]) ⟨hx, hb, hml, hown, hts⟩ (c_X4_fails l g ad σ (th) hW hd _ (0) (by omega)) (cwV 1 hts gX4_movement_X4_fails rfl rfl rfl (by decide +kernel) ⟨Nat.le_of_ble_eq_true rfl, Nat.le_of_ble_eq_true rfl⟩) (z_recv hK (hP 0 _ rfl) rfl) hP trivial hK rfl hl.1 rfl (Nat.le_of_ble_eq_true rfl) dX4_movement_16 ⟨Nat.zero_le _, Nat.zero_le _⟩ hS (MW_fr hS.1) (fun H locs hP _ _ hS => ?_)
    refine z_ifp_ne (P := 0 < (0)) (tgt := 32) hx hb dX4_movement_19 (by decide)  (fun h19 => ?_) (fun h19 => ?_)
    · exfalso; omega
    ·
      refine lv_aload_n hx hb dX4_movement_22 rfl (lv_at hl 0 rfl) ?_
      refine z_get (C := RX4) (T := TX4) (N := 14) hx hb hts hiX4 hown hK (hP 0 _ rfl) rfl 1 (by decide) (hts (.fieldLink RX4 7 "HarmoniumDeskModel" "bars" "[I") (by decide +kernel)) rfl rfl dX4_movement_23 ?_
      refine lv_iload_n hx hb dX4_movement_26 rfl (lv_at hl 1 rfl) ?_
      refine z_iald hx hb hK (hP 1 _ rfl) (k) (by omega) (by omega) (by decide) dX4_movement_27 ?_
      refine z_iconst hx hb dX4_movement_28 ?_
      refine z_icmp_ne (tgt := 34) hx hb dX4_movement_29 (by decide) (by omega) (by omega) (fun h29 => ?_) (fun h29 => ?_)
      ·
        refine z_iconst hx hb dX4_movement_34 ?_
        refine z_top (b := wy (NV σ k v) 1) (rfl) ?_
        refine lv_istore_n (lv' := [(3, .int (zi (wy (NV σ k v) 1))), (0, .ref (ad 0)), (1, .int (zi (zk))), (2, .int (zi (zv)))]) hx hb dX4_movement_35 rfl hl (by decide) rfl (fun ls hl => ?_)
        refine z_iconst hx hb dX4_movement_36 ?_
        refine z_top (b := ((1 : Nat) : Int)) (rfl) ?_
        refine lv_istore (lv' := [(4, .int (zi (((1 : Nat) : Int)))), (3, .int (zi (wy (NV σ k v) 1))), (0, .ref (ad 0)), (1, .int (zi (zk))), (2, .int (zi (zv)))]) hx hb dX4_movement_37 hl (by decide) rfl (fun ls hl => ?_)
        have loop39 : ∀ (d j : Nat), (j : Int) ≤ σ 1 k → 1 ≤ j → (σ 1 k).toNat - j = d → ∀ (H : Heap) (locs : List Loc), va_P g.1 vwCl (MWs g ad σ (0)) H → va_S (va_A (MWs g ad σ th) s.heap.size) s.heap H locs → ∀ ls : Array Slot, lv_has ls 5 [(4, .int (zi ((j : Int)))), (3, .int (zi (wy (NV σ k v) j))), (0, .ref (ad 0)), (1, .int (zi (zk))), (2, .int (zi (zv)))] → W p l e ({ frames := 3, cells := 0, slots := 0, locals := 66 }) s m ([.ref (ad 0), .int (zi (zk)), .int (zi (zv))] : List Value).toArray below meth c H locs 0 0 (MQ below (va_Qf (fun z9 (_ : Unit) => z9 = (MV σ k v)) (fun _ t9 => va_P g.1 vwCl (MWs g ad (σ) (0)) t9.heap) (va_A (MWs g ad σ th) s.heap.size)) ([.ref (ad 0), .int (zi (zk)), .int (zi (zv))] : List Value).toArray s 0 0 (va_A (MWs g ad σ th) s.heap.size)) (F0 m 39 ls []) := by
          intro d
          induction d with
          | zero =>
            intro j hj hj1 hd2 H locs hP hS ls hl
            have eb : j = (σ 1 k).toNat := by omega
            have hok := flok_n (MV_ok hW hk v)
            unfold MV at hok
            rw [if_neg h29] at hok
            refine lv_iload hx hb dX4_movement_39 (lv_at hl 0 rfl) ?_
            refine lv_aload_n hx hb dX4_movement_41 rfl (lv_at hl 2 rfl) ?_
            refine z_get (C := RX4) (T := TX4) (N := 14) hx hb hts hiX4 hown hK (hP 0 _ rfl) rfl 1 (by decide) (hts (.fieldLink RX4 7 "HarmoniumDeskModel" "bars" "[I") (by decide +kernel)) rfl rfl dX4_movement_42 ?_
            refine lv_iload_n hx hb dX4_movement_45 rfl (lv_at hl 3 rfl) ?_
            refine z_iald hx hb hK (hP 1 _ rfl) (k) (by omega) (by omega) (by decide) dX4_movement_46 ?_
            refine z_icmp_ge (tgt := 88) hx hb dX4_movement_47 (by decide) (by omega) (by omega) (fun h47 => ?_) (fun h47 => ?_)
            ·
              refine lv_iload_n hx hb dX4_movement_88 rfl (lv_at hl 1 rfl) ?_
              refine z_top (b := wy (NV σ k v) (σ 1 k).toNat) (by rw [eb]) ?_
              refine lv_i2f hx hb dX4_movement_89 ?_
              refine lv_aload_n hx hb dX4_movement_90 rfl (lv_at hl 2 rfl) ?_
              refine z_get (C := RX4) (T := TX4) (N := 14) hx hb hts hiX4 hown hK (hP 0 _ rfl) rfl 1 (by decide) (hts (.fieldLink RX4 7 "HarmoniumDeskModel" "bars" "[I") (by decide +kernel)) rfl rfl dX4_movement_91 ?_
              refine lv_iload_n hx hb dX4_movement_94 rfl (lv_at hl 3 rfl) ?_
              refine z_iald hx hb hK (hP 1 _ rfl) (k) (by omega) (by omega) (by decide) dX4_movement_95 ?_
              refine z_iconst hx hb dX4_movement_96 ?_
              refine z_isub hx hb dX4_movement_97 ?_
              refine lv_i2f hx hb dX4_movement_98 ?_
              refine lv_fdiv hx hb dX4_movement_99 (hok) ?_
              exact z_wfret hx hb hr hlk dX4_movement_100 (by unfold MV; rw [if_neg h29]) hP hS
            · exfalso; omega
          | succ d ih =>
            intro j hj hj1 hd2 H locs hP hS ls hl
            have n1 := hW.v k v j
            have n2 := hW.v k v (j - 1)
            refine lv_iload hx hb dX4_movement_39 (lv_at hl 0 rfl) ?_
            refine lv_aload_n hx hb dX4_movement_41 rfl (lv_at hl 2 rfl) ?_
            refine z_get (C := RX4) (T := TX4) (N := 14) hx hb hts hiX4 hown hK (hP 0 _ rfl) rfl 1 (by decide) (hts (.fieldLink RX4 7 "HarmoniumDeskModel" "bars" "[I") (by decide +kernel)) rfl rfl dX4_movement_42 ?_
            refine lv_iload_n hx hb dX4_movement_45 rfl (lv_at hl 3 rfl) ?_
            refine z_iald hx hb hK (hP 1 _ rfl) (k) (by omega) (by omega) (by decide) dX4_movement_46 ?_
            refine z_icmp_ge (tgt := 88) hx hb dX4_movement_47 (by decide) (by omega) (by omega) (fun h47 => ?_) (fun h47 => ?_)
            · exfalso; omega
            ·
              refine lv_iload_n hx hb dX4_movement_50 rfl (lv_at hl 1 rfl) ?_
              refine lv_aload_n hx hb dX4_movement_51 rfl (lv_at hl 2 rfl) ?_
              refine z_get (C := RX4) (T := TX4) (N := 14) hx hb hts hiX4 hown hK (hP 0 _ rfl) rfl 5 (by decide) (hts (.fieldLink RX4 23 "HarmoniumDeskModel" "notes" "[I") (by decide +kernel)) rfl rfl dX4_movement_52 ?_
              refine lv_iload_n hx hb dX4_movement_55 rfl (lv_at hl 3 rfl) ?_
              refine lv_iload_n hx hb dX4_movement_56 rfl (lv_at hl 4 rfl) ?_
              refine lv_iload hx hb dX4_movement_57 (lv_at hl 0 rfl) ?_
              refine ro_S (rest := [.ref (ad 5), .int (zi (wy (NV σ k v) j))]) (As := [.int (zi (zk)), .int (zi (zv)), .int (zi ((j : Int)))]) ⟨hx, hb, hml, hown, hts⟩ (c_X4_at l g (zk) (zv) ((j : Int))) (cwS 3 hts gX4_movement_X4_at rfl rfl rfl (by decide +kernel) ⟨Nat.le_of_ble_eq_true rfl, Nat.le_of_ble_eq_true rfl⟩) trivial hK rfl hl.1 rfl (Nat.le_of_ble_eq_true rfl) dX4_movement_59 ⟨Nat.zero_le _, Nat.zero_le _⟩ ?_
              refine z_iald hx hb hK (hP 5 _ rfl) (24 * k + 12 * v + j) (by omega) (by omega) (by decide) dX4_movement_62 ?_
              refine z_top (b := NV σ k v j) (rfl) ?_
              refine lv_aload_n hx hb dX4_movement_63 rfl (lv_at hl 2 rfl) ?_
              refine z_get (C := RX4) (T := TX4) (N := 14) hx hb hts hiX4 hown hK (hP 0 _ rfl) rfl 5 (by decide) (hts (.fieldLink RX4 23 "HarmoniumDeskModel" "notes" "[I") (by decide +kernel)) rfl rfl dX4_movement_64 ?_
              refine lv_iload_n hx hb dX4_movement_67 rfl (lv_at hl 3 rfl) ?_
              refine lv_iload_n hx hb dX4_movement_68 rfl (lv_at hl 4 rfl) ?_
              refine lv_iload hx hb dX4_movement_69 (lv_at hl 0 rfl) ?_
              refine z_iconst hx hb dX4_movement_71 ?_
              refine z_isub hx hb dX4_movement_72 ?_
              refine ro_S (rest := [.ref (ad 5), .int (zi (NV σ k v j)), .int (zi (wy (NV σ k v) j))]) (As := [.int (zi (zk)), .int (zi (zv)), .int (zi (((j : Int)) - (1)))]) ⟨hx, hb, hml, hown, hts⟩ (c_X4_at l g (zk) (zv) (((j : Int)) - (1))) (cwS 3 hts gX4_movement_X4_at rfl rfl rfl (by decide +kernel) ⟨Nat.le_of_ble_eq_true rfl, Nat.le_of_ble_eq_true rfl⟩) trivial hK rfl hl.1 rfl (Nat.le_of_ble_eq_true rfl) dX4_movement_73 ⟨Nat.zero_le _, Nat.zero_le _⟩ ?_
              refine z_iald hx hb hK (hP 5 _ rfl) (24 * k + 12 * v + (j - 1)) (by omega) (by omega) (by decide) dX4_movement_76 ?_
              refine z_top (b := NV σ k v (j - 1)) (rfl) ?_
              refine ro_S (rest := [.int (zi (wy (NV σ k v) j))]) (As := [.int (zi (NV σ k v j)), .int (zi (NV σ k v (j - 1)))]) ⟨hx, hb, hml, hown, hts⟩ (c_X4_away l g (NV σ k v j) (NV σ k v (j - 1)) (by omega) (by omega)) (cwS 2 hts gX4_movement_X4_away rfl rfl rfl (by decide +kernel) ⟨Nat.le_of_ble_eq_true rfl, Nat.le_of_ble_eq_true rfl⟩) trivial hK rfl hl.1 rfl (Nat.le_of_ble_eq_true rfl) dX4_movement_77 ⟨Nat.zero_le _, Nat.zero_le _⟩ ?_
              refine z_iadd hx hb dX4_movement_80 ?_
              refine z_top (b := wy (NV σ k v) (j + 1)) ((wy_s (NV σ k v) hj1).symm) ?_
              refine lv_istore_n (lv' := [(3, .int (zi (wy (NV σ k v) (j + 1)))), (4, .int (zi ((j : Int)))), (0, .ref (ad 0)), (1, .int (zi (zk))), (2, .int (zi (zv)))]) hx hb dX4_movement_81 rfl hl (by decide) rfl (fun ls hl => ?_)
              refine z_iinc (b := ((j + 1 : Nat) : Int)) (lv' := [(4, .int (zi (((j + 1 : Nat) : Int)))), (3, .int (zi (wy (NV σ k v) (j + 1)))), (0, .ref (ad 0)), (1, .int (zi (zk))), (2, .int (zi (zv)))]) hx hb dX4_movement_82 hl (k := 1) rfl (by omega) (by decide) rfl (fun ls hl => ?_)
              refine lv_goto (tgt := 39) hx hb dX4_movement_85 (by decide) ?_
              exact ih (j + 1) (by omega) (by omega) (by omega) H locs hP hS ls (lv_sub hl [0, 1, 2, 3, 4] rfl)
        exact loop39 _ 1 (by omega) (by omega) rfl _ _ hP hS ls (lv_sub hl [0, 1, 2, 3, 4] rfl)
      ·
        refine lv_fconst0 hx hb dX4_movement_32 ?_
        exact z_wfret hx hb hr hlk dX4_movement_33 (by unfold MV; rw [if_pos (by assumption)]) hP hS

set_option maxHeartbeats 4000000 in
set_option maxRecDepth 100000 in
theorem c_X4_print_1 (l : Launch) (g : gG) (ad : Nat → Nat) (σ : SG) (th : Int) (hW : WF σ) (hd : Dst ad) (sz : Nat) (z v : Int) (hz : zr z) (hv : zr v) (hbad : ¬ IsN σ z v 0) : MI l yX4_print wsX4_print ({ frames := 3, cells := 0, slots := 0, locals := 66 }) g ad [.int (zi (z)), .int (zi (v))] sz σ th (σ) (1) (0) := by
  refine ZM.ofW (cc := cX4_print) (maxL := 5) (ret := (some .int)) (by decide) rfl (Nat.le_of_ble_eq_true rfl) ?_
  intro p e s m below meth c ls hx hb hr hml hown hts hlk hP hK hl _
  obtain ⟨rfl, hP, -⟩ := hP
  have hS : va_S (va_A (MWs g ad σ th) s.heap.size) s.heap s.heap [] := va_S.rf
  have hown : s.vm.findClass RX4 = some m.cls := hown
  have hl : lv_has ls 5 [(0, .ref (ad 0)), (1, .int (zi (z))), (2, .int (zi (v)))] := hl
  have hn := hW.n
  refine lv_aload_n hx hb dX4_print_0 rfl (lv_at hl 0 rfl) ?_
  refine lv_iload_n hx hb dX4_print_1 rfl (lv_at hl 1 rfl) ?_
  refine lv_iload_n hx hb dX4_print_2 rfl (lv_at hl 2 rfl) ?_
  refine z_iconst hx hb dX4_print_3 ?_
  refine ro_V (rest := []) (As := [.int (zi (z)), .int (zi (v)), .int (zi (0))]) ⟨hx, hb, hml, hown, hts⟩ (c_X4_isNote l g ad σ (th) hW (z) (v) (0) (by omega) (by omega) (by omega)) (cwV 3 hts gX4_print_X4_isNote rfl rfl rfl (by decide +kernel) ⟨Nat.le_of_ble_eq_true rfl, Nat.le_of_ble_eq_true rfl⟩) (z_recv hK (hP 0 _ rfl) rfl) hP hK rfl hl.1 rfl (Nat.le_of_ble_eq_true rfl) dX4_print_4 ⟨Nat.zero_le _, Nat.zero_le _⟩ ?_
  refine lv_istore_n (lv' := [(3, .int (zi (pz (IsN σ (z) (v) (0))))), (0, .ref (ad 0)), (1, .int (zi (z))), (2, .int (zi (v)))]) hx hb dX4_print_7 rfl hl (by decide) rfl (fun ls hl => ?_)
  refine lv_aload_n hx hb dX4_print_8 rfl (lv_at hl 1 rfl) ?_
  refine lv_iload_n hx hb dX4_print_9 rfl (lv_at hl 0 rfl) ?_
  refine z_ifp_ne (P := IsN σ (z) (v) (0)) (tgt := 17) hx hb dX4_print_10 (by decide)  (fun h10 => ?_) (fun h10 => ?_)
  · exfalso; omega
  ·
    refine z_iconst hx hb dX4_print_13 ?_
    refine lv_goto (tgt := 31) hx hb dX4_print_14 (by decide) ?_
    refine wi_V (rest := []) (As := [.int (zi (1))]) ⟨hx, hb, hml, hown, hts⟩ (c_X4_fails l g ad σ (th) hW hd _ (1) (by omega)) (cwV 1 hts gX4_print_X4_fails rfl rfl rfl (by decide +kernel) ⟨Nat.le_of_ble_eq_true rfl, Nat.le_of_ble_eq_true rfl⟩) (z_recv hK (hP 0 _ rfl) rfl) hP trivial hK rfl hl.1 rfl (Nat.le_of_ble_eq_true rfl) dX4_print_31 ⟨Nat.zero_le _, Nat.zero_le _⟩ hS (MW_fr hS.1) (fun H locs hP _ _ hS => ?_)
    refine z_ifp_eq (P := 0 < (1)) (tgt := 39) hx hb dX4_print_34 (by decide)  (fun h34 => ?_) (fun h34 => ?_)
    · exfalso; omega
    ·
      refine z_iconst hx hb dX4_print_37 ?_
      exact z_wiret hx hb hr hlk dX4_print_38 (by omega) hP hS

set_option maxHeartbeats 4000000 in
set_option maxRecDepth 100000 in
theorem c_X4_print_2 (l : Launch) (g : gG) (ad : Nat → Nat) (σ : SG) (th : Int) (hW : WF σ) (hd : Dst ad) (sz : Nat) (z v : Int) (hz : zr z) (hv : zr v) (hg : IsN σ z v 0) (hfull : σ 8 0 = 20) : MI l yX4_print wsX4_print ({ frames := 3, cells := 0, slots := 0, locals := 66 }) g ad [.int (zi (z)), .int (zi (v))] sz σ th (σ) (2) (0) := by
  refine ZM.ofW (cc := cX4_print) (maxL := 5) (ret := (some .int)) (by decide) rfl (Nat.le_of_ble_eq_true rfl) ?_
  intro p e s m below meth c ls hx hb hr hml hown hts hlk hP hK hl _
  obtain ⟨rfl, hP, -⟩ := hP
  have hS : va_S (va_A (MWs g ad σ th) s.heap.size) s.heap s.heap [] := va_S.rf
  have hown : s.vm.findClass RX4 = some m.cls := hown
  have hl : lv_has ls 5 [(0, .ref (ad 0)), (1, .int (zi (z))), (2, .int (zi (v)))] := hl
  have hiX4 : ∀ w ∈ u_ws RX4 TX4 14, w ∈ wsX4_print := by decide +kernel
  have hn := hW.n
  have hcn := hW.cn
  refine lv_aload_n hx hb dX4_print_0 rfl (lv_at hl 0 rfl) ?_
  refine lv_iload_n hx hb dX4_print_1 rfl (lv_at hl 1 rfl) ?_
  refine lv_iload_n hx hb dX4_print_2 rfl (lv_at hl 2 rfl) ?_
  refine z_iconst hx hb dX4_print_3 ?_
  refine ro_V (rest := []) (As := [.int (zi (z)), .int (zi (v)), .int (zi (0))]) ⟨hx, hb, hml, hown, hts⟩ (c_X4_isNote l g ad σ (th) hW (z) (v) (0) (by omega) (by omega) (by omega)) (cwV 3 hts gX4_print_X4_isNote rfl rfl rfl (by decide +kernel) ⟨Nat.le_of_ble_eq_true rfl, Nat.le_of_ble_eq_true rfl⟩) (z_recv hK (hP 0 _ rfl) rfl) hP hK rfl hl.1 rfl (Nat.le_of_ble_eq_true rfl) dX4_print_4 ⟨Nat.zero_le _, Nat.zero_le _⟩ ?_
  refine lv_istore_n (lv' := [(3, .int (zi (pz (IsN σ (z) (v) (0))))), (0, .ref (ad 0)), (1, .int (zi (z))), (2, .int (zi (v)))]) hx hb dX4_print_7 rfl hl (by decide) rfl (fun ls hl => ?_)
  refine lv_aload_n hx hb dX4_print_8 rfl (lv_at hl 1 rfl) ?_
  refine lv_iload_n hx hb dX4_print_9 rfl (lv_at hl 0 rfl) ?_
  refine z_ifp_ne (P := IsN σ (z) (v) (0)) (tgt := 17) hx hb dX4_print_10 (by decide)  (fun h10 => ?_) (fun h10 => ?_)
  ·
    refine lv_aload_n hx hb dX4_print_17 rfl (lv_at hl 1 rfl) ?_
    refine z_get (C := RX4) (T := TX4) (N := 14) hx hb hts hiX4 hown hK (hP 0 _ rfl) rfl 8 (by decide) (hts (.fieldLink RX4 105 "HarmoniumDeskModel" "copies" "I") (by decide +kernel)) rfl rfl dX4_print_18 ?_
    refine z_bipush hx hb dX4_print_21 (by decide) ?_
    refine z_icmp_ne (tgt := 30) hx hb dX4_print_23 (by decide) (by omega) (by omega) (fun h23 => ?_) (fun h23 => ?_)
    · exfalso; omega
    ·
      refine z_iconst hx hb dX4_print_26 ?_
      refine lv_goto (tgt := 31) hx hb dX4_print_27 (by decide) ?_
      refine wi_V (rest := []) (As := [.int (zi (2))]) ⟨hx, hb, hml, hown, hts⟩ (c_X4_fails l g ad σ (th) hW hd _ (2) (by omega)) (cwV 1 hts gX4_print_X4_fails rfl rfl rfl (by decide +kernel) ⟨Nat.le_of_ble_eq_true rfl, Nat.le_of_ble_eq_true rfl⟩) (z_recv hK (hP 0 _ rfl) rfl) hP trivial hK rfl hl.1 rfl (Nat.le_of_ble_eq_true rfl) dX4_print_31 ⟨Nat.zero_le _, Nat.zero_le _⟩ hS (MW_fr hS.1) (fun H locs hP _ _ hS => ?_)
      refine z_ifp_eq (P := 0 < (2)) (tgt := 39) hx hb dX4_print_34 (by decide)  (fun h34 => ?_) (fun h34 => ?_)
      · exfalso; omega
      ·
        refine z_iconst hx hb dX4_print_37 ?_
        exact z_wiret hx hb hr hlk dX4_print_38 (by omega) hP hS
  · exfalso; omega

set_option maxHeartbeats 4000000 in
set_option maxRecDepth 100000 in
theorem c_X4_print_0 (l : Launch) (g : gG) (ad : Nat → Nat) (σ : SG) (th : Int) (hW : WF σ) (hd : Dst ad) (sz : Nat) (k : Nat) (hk : (k : Int) < σ 0 0) (zk : Int) (hzk : zk = (k : Int)) (v : Nat) (hv1 : v ≤ 1) (zv : Int) (hzv : zv = (v : Int)) (C : Nat) (hC : σ 8 0 = (C : Int)) (hCf : C < 20)  : MI l yX4_print wsX4_print ({ frames := 3, cells := 0, slots := 0, locals := 66 }) g ad [.int (zi (zk)), .int (zi (zv))] sz σ th (opP σ k v C) (0) ((C : Int)) := by
  refine ZM.ofW (cc := cX4_print) (maxL := 5) (ret := (some .int)) (by decide) rfl (Nat.le_of_ble_eq_true rfl) ?_
  intro p e s m below meth c ls hx hb hr hml hown hts hlk hP hK hl _
  obtain ⟨rfl, hP, -⟩ := hP
  have hS : va_S (va_A (MWs g ad σ th) s.heap.size) s.heap s.heap [] := va_S.rf
  have hown : s.vm.findClass RX4 = some m.cls := hown
  have hl : lv_has ls 5 [(0, .ref (ad 0)), (1, .int (zi (zk))), (2, .int (zi (zv)))] := hl
  have hiX4 : ∀ w ∈ u_ws RX4 TX4 14, w ∈ wsX4_print := by decide +kernel
  have hn := hW.n
  have hbk := hW.bars hk
  have ek : zk.toNat = k := by omega
  have hbz : σ 1 zk.toNat = σ 1 k := by rw [ek]
  refine lv_aload_n hx hb dX4_print_0 rfl (lv_at hl 0 rfl) ?_
  refine lv_iload_n hx hb dX4_print_1 rfl (lv_at hl 1 rfl) ?_
  refine lv_iload_n hx hb dX4_print_2 rfl (lv_at hl 2 rfl) ?_
  refine z_iconst hx hb dX4_print_3 ?_
  refine ro_V (rest := []) (As := [.int (zi (zk)), .int (zi (zv)), .int (zi (0))]) ⟨hx, hb, hml, hown, hts⟩ (c_X4_isNote l g ad σ (th) hW (zk) (zv) (0) (by omega) (by omega) (by omega)) (cwV 3 hts gX4_print_X4_isNote rfl rfl rfl (by decide +kernel) ⟨Nat.le_of_ble_eq_true rfl, Nat.le_of_ble_eq_true rfl⟩) (z_recv hK (hP 0 _ rfl) rfl) hP hK rfl hl.1 rfl (Nat.le_of_ble_eq_true rfl) dX4_print_4 ⟨Nat.zero_le _, Nat.zero_le _⟩ ?_
  refine lv_istore_n (lv' := [(3, .int (zi (pz (IsN σ (zk) (zv) (0))))), (0, .ref (ad 0)), (1, .int (zi (zk))), (2, .int (zi (zv)))]) hx hb dX4_print_7 rfl hl (by decide) rfl (fun ls hl => ?_)
  refine lv_aload_n hx hb dX4_print_8 rfl (lv_at hl 1 rfl) ?_
  refine lv_iload_n hx hb dX4_print_9 rfl (lv_at hl 0 rfl) ?_
  refine z_ifp_ne (P := IsN σ (zk) (zv) (0)) (tgt := 17) hx hb dX4_print_10 (by decide)  (fun h10 => ?_) (fun h10 => ?_)
  ·
    refine lv_aload_n hx hb dX4_print_17 rfl (lv_at hl 1 rfl) ?_
    refine z_get (C := RX4) (T := TX4) (N := 14) hx hb hts hiX4 hown hK (hP 0 _ rfl) rfl 8 (by decide) (hts (.fieldLink RX4 105 "HarmoniumDeskModel" "copies" "I") (by decide +kernel)) rfl rfl dX4_print_18 ?_
    refine z_bipush hx hb dX4_print_21 (by decide) ?_
    refine z_icmp_ne (tgt := 30) hx hb dX4_print_23 (by decide) (by omega) (by omega) (fun h23 => ?_) (fun h23 => ?_)
    ·
      refine z_iconst hx hb dX4_print_30 ?_
      refine wi_V (rest := []) (As := [.int (zi (0))]) ⟨hx, hb, hml, hown, hts⟩ (c_X4_fails l g ad σ (th) hW hd _ (0) (by omega)) (cwV 1 hts gX4_print_X4_fails rfl rfl rfl (by decide +kernel) ⟨Nat.le_of_ble_eq_true rfl, Nat.le_of_ble_eq_true rfl⟩) (z_recv hK (hP 0 _ rfl) rfl) hP trivial hK rfl hl.1 rfl (Nat.le_of_ble_eq_true rfl) dX4_print_31 ⟨Nat.zero_le _, Nat.zero_le _⟩ hS (MW_fr hS.1) (fun H locs hP _ _ hS => ?_)
      refine z_ifp_eq (P := 0 < (0)) (tgt := 39) hx hb dX4_print_34 (by decide)  (fun h34 => ?_) (fun h34 => ?_)
      ·
        refine lv_aload_n hx hb dX4_print_39 rfl (lv_at hl 1 rfl) ?_
        refine z_get (C := RX4) (T := TX4) (N := 14) hx hb hts hiX4 hown hK (hP 0 _ rfl) rfl 3 (by decide) (hts (.fieldLink RX4 16 "HarmoniumDeskModel" "isFixed" "[Z") (by decide +kernel)) rfl rfl dX4_print_40 ?_
        refine lv_iload_n hx hb dX4_print_43 rfl (lv_at hl 2 rfl) ?_
        refine z_iconst hx hb dX4_print_44 ?_
        refine z_mzast (x := 1) hx hb hd hK hP hS 3 3 30 rfl (k) (msa3 _ _ _ _ _ _) (by omega) (by omega) (by decide) (Or.inr rfl) dX4_print_45 (fun H locs hP hS => ?_)
        refine lv_aload_n hx hb dX4_print_46 rfl (lv_at hl 1 rfl) ?_
        refine z_get (C := RX4) (T := TX4) (N := 14) hx hb hts hiX4 hown hK (hP 0 _ rfl) rfl 9 (by decide) (hts (.fieldLink RX4 33 "HarmoniumDeskModel" "longs" "[I") (by decide +kernel)) rfl rfl dX4_print_47 ?_
        refine lv_aload_n hx hb dX4_print_50 rfl (lv_at hl 1 rfl) ?_
        refine z_get (C := RX4) (T := TX4) (N := 14) hx hb hts hiX4 hown hK (hP 0 _ rfl) rfl 8 (by decide) (hts (.fieldLink RX4 105 "HarmoniumDeskModel" "copies" "I") (by decide +kernel)) rfl rfl dX4_print_51 ?_
        refine z_top (b := σ 8 0) rfl ?_
        refine lv_aload_n hx hb dX4_print_54 rfl (lv_at hl 1 rfl) ?_
        refine z_get (C := RX4) (T := TX4) (N := 14) hx hb hts hiX4 hown hK (hP 0 _ rfl) rfl 1 (by decide) (hts (.fieldLink RX4 7 "HarmoniumDeskModel" "bars" "[I") (by decide +kernel)) rfl rfl dX4_print_55 ?_
        refine lv_iload_n hx hb dX4_print_58 rfl (lv_at hl 2 rfl) ?_
        refine z_iald hx hb hK (hP 1 _ rfl) (k) (by omega) (by omega) (by decide) dX4_print_59 ?_
        refine z_top (b := σ 1 (k)) rfl ?_
        refine z_mast (x := σ 1 (k)) hx hb hd hK hP hS 7 9 20 rfl (C) (msa7 _ _ _ _ _ _) (by omega) (by omega) (by decide) dX4_print_60 (fun H locs hP hS => ?_)
        refine lv_aload_n hx hb dX4_print_61 rfl (lv_at hl 1 rfl) ?_
        refine z_get (C := RX4) (T := TX4) (N := 14) hx hb hts hiX4 hown hK (hP 0 _ rfl) rfl 10 (by decide) (hts (.fieldLink RX4 36 "HarmoniumDeskModel" "voiceOf" "[I") (by decide +kernel)) rfl rfl dX4_print_62 ?_
        refine lv_aload_n hx hb dX4_print_65 rfl (lv_at hl 1 rfl) ?_
        refine z_get (C := RX4) (T := TX4) (N := 14) hx hb hts hiX4 hown hK (hP 0 _ rfl) rfl 8 (by decide) (hts (.fieldLink RX4 105 "HarmoniumDeskModel" "copies" "I") (by decide +kernel)) rfl rfl dX4_print_66 ?_
        refine z_top (b := σ 8 0) rfl ?_
        refine lv_iload_n hx hb dX4_print_69 rfl (lv_at hl 3 rfl) ?_
        refine z_top (b := (v : Int)) (hzv) ?_
        refine z_mast (x := (v : Int)) hx hb hd hK hP hS 8 10 20 rfl (C) (msa8 _ _ _ _ _ _) (by omega) (by omega) (by decide) dX4_print_70 (fun H locs hP hS => ?_)
        refine z_iconst hx hb dX4_print_71 ?_
        refine z_top (b := ((0 : Nat) : Int)) (rfl) ?_
        refine lv_istore (lv' := [(4, .int (zi (((0 : Nat) : Int)))), (3, .int (zi (pz (IsN σ (zk) (zv) (0))))), (0, .ref (ad 0)), (1, .int (zi (zk))), (2, .int (zi (zv)))]) hx hb dX4_print_72 hl (by decide) rfl (fun ls hl => ?_)
        have loop74 : ∀ (d j : Nat), (j : Int) ≤ σ 1 k → (σ 1 k).toNat - j = d → ∀ (H : Heap) (locs : List Loc), va_P g.1 vwCl (MWs g ad (sfl (sup (sup (sup σ 3 k 1) 9 C (σ 1 k)) 10 C (v : Int)) 11 (12 * C) j (fun i => NV σ k v (i - 12 * C))) (0)) H → va_S (va_A (MWs g ad σ th) s.heap.size) s.heap H locs → ∀ ls : Array Slot, lv_has ls 5 [(4, .int (zi ((j : Int)))), (3, .int (zi (pz (IsN σ (zk) (zv) (0))))), (0, .ref (ad 0)), (1, .int (zi (zk))), (2, .int (zi (zv)))] → W p l e ({ frames := 3, cells := 0, slots := 0, locals := 66 }) s m ([.ref (ad 0), .int (zi (zk)), .int (zi (zv))] : List Value).toArray below meth c H locs 0 0 (MQ below (va_Qi (fun z9 (_ : Unit) => z9 = zi ((C : Int))) (fun _ t9 => va_P g.1 vwCl (MWs g ad (opP σ k v C) (0)) t9.heap) (va_A (MWs g ad σ th) s.heap.size)) ([.ref (ad 0), .int (zi (zk)), .int (zi (zv))] : List Value).toArray s 0 0 (va_A (MWs g ad σ th) s.heap.size)) (F0 m 74 ls []) := by
          intro d
          induction d with
          | zero =>
            intro j hj hd2 H locs hP hS ls hl
            have eb : j = (σ 1 k).toNat := by omega
            refine lv_iload hx hb dX4_print_74 (lv_at hl 0 rfl) ?_
            refine lv_aload_n hx hb dX4_print_76 rfl (lv_at hl 2 rfl) ?_
            refine z_get (C := RX4) (T := TX4) (N := 14) hx hb hts hiX4 hown hK (hP 0 _ rfl) rfl 1 (by decide) (hts (.fieldLink RX4 7 "HarmoniumDeskModel" "bars" "[I") (by decide +kernel)) rfl rfl dX4_print_77 ?_
            refine lv_iload_n hx hb dX4_print_80 rfl (lv_at hl 3 rfl) ?_
            refine z_iald hx hb hK (hP 1 _ rfl) (k) (by omega) (by omega) (by decide) dX4_print_81 ?_
            refine z_top (b := σ 1 (k)) rfl ?_
            refine z_icmp_ge (tgt := 118) hx hb dX4_print_82 (by decide) (by omega) (by omega) (fun h82 => ?_) (fun h82 => ?_)
            ·
              refine lv_aload_n hx hb dX4_print_118 rfl (lv_at hl 2 rfl) ?_
              refine lv_dup hx hb dX4_print_119 rfl ?_
              refine z_get (C := RX4) (T := TX4) (N := 14) hx hb hts hiX4 hown hK (hP 0 _ rfl) rfl 8 (by decide) (hts (.fieldLink RX4 105 "HarmoniumDeskModel" "copies" "I") (by decide +kernel)) rfl rfl dX4_print_120 ?_
              refine z_top (b := σ 8 0) rfl ?_
              refine z_iconst hx hb dX4_print_123 ?_
              refine z_iadd hx hb dX4_print_124 ?_
              refine z_top (b := ((C + 1 : Nat) : Int)) (by omega) ?_
              refine z_mput hx hb hd hts hiX4 hown hK hP hS 8 (by decide) (hts (.fieldLink RX4 105 "HarmoniumDeskModel" "copies" "I") (by decide +kernel)) rfl rfl rfl (ms8 _ _ _ _ _) dX4_print_125 (fun H locs hP hS => ?_)
              refine lv_aload_n hx hb dX4_print_128 rfl (lv_at hl 2 rfl) ?_
              refine z_get (C := RX4) (T := TX4) (N := 14) hx hb hts hiX4 hown hK (hP 0 _ rfl) rfl 8 (by decide) (hts (.fieldLink RX4 105 "HarmoniumDeskModel" "copies" "I") (by decide +kernel)) rfl rfl dX4_print_129 ?_
              refine z_top (b := ((C + 1 : Nat) : Int)) (rfl) ?_
              refine z_iconst hx hb dX4_print_132 ?_
              refine z_isub hx hb dX4_print_133 ?_
              exact z_wiret hx hb hr hlk dX4_print_134 (by omega) (by rw [eb] at hP; exact hP) hS
            · exfalso; omega
          | succ d ih =>
            intro j hj hd2 H locs hP hS ls hl
            refine lv_iload hx hb dX4_print_74 (lv_at hl 0 rfl) ?_
            refine lv_aload_n hx hb dX4_print_76 rfl (lv_at hl 2 rfl) ?_
            refine z_get (C := RX4) (T := TX4) (N := 14) hx hb hts hiX4 hown hK (hP 0 _ rfl) rfl 1 (by decide) (hts (.fieldLink RX4 7 "HarmoniumDeskModel" "bars" "[I") (by decide +kernel)) rfl rfl dX4_print_77 ?_
            refine lv_iload_n hx hb dX4_print_80 rfl (lv_at hl 3 rfl) ?_
            refine z_iald hx hb hK (hP 1 _ rfl) (k) (by omega) (by omega) (by decide) dX4_print_81 ?_
            refine z_top (b := σ 1 (k)) rfl ?_
            refine z_icmp_ge (tgt := 118) hx hb dX4_print_82 (by decide) (by omega) (by omega) (fun h82 => ?_) (fun h82 => ?_)
            · exfalso; omega
            ·
              refine lv_aload_n hx hb dX4_print_85 rfl (lv_at hl 2 rfl) ?_
              refine z_get (C := RX4) (T := TX4) (N := 14) hx hb hts hiX4 hown hK (hP 0 _ rfl) rfl 11 (by decide) (hts (.fieldLink RX4 39 "HarmoniumDeskModel" "printed" "[I") (by decide +kernel)) rfl rfl dX4_print_86 ?_
              refine z_bipush hx hb dX4_print_89 (by decide) ?_
              refine lv_aload_n hx hb dX4_print_91 rfl (lv_at hl 2 rfl) ?_
              refine z_get (C := RX4) (T := TX4) (N := 14) hx hb hts hiX4 hown hK (hP 0 _ rfl) rfl 8 (by decide) (hts (.fieldLink RX4 105 "HarmoniumDeskModel" "copies" "I") (by decide +kernel)) rfl rfl dX4_print_92 ?_
              refine z_top (b := σ 8 0) rfl ?_
              refine z_imul hx hb dX4_print_95 ?_
              refine lv_iload hx hb dX4_print_96 (lv_at hl 0 rfl) ?_
              refine z_iadd hx hb dX4_print_98 ?_
              refine lv_aload_n hx hb dX4_print_99 rfl (lv_at hl 2 rfl) ?_
              refine z_get (C := RX4) (T := TX4) (N := 14) hx hb hts hiX4 hown hK (hP 0 _ rfl) rfl 5 (by decide) (hts (.fieldLink RX4 23 "HarmoniumDeskModel" "notes" "[I") (by decide +kernel)) rfl rfl dX4_print_100 ?_
              refine lv_iload_n hx hb dX4_print_103 rfl (lv_at hl 3 rfl) ?_
              refine lv_iload_n hx hb dX4_print_104 rfl (lv_at hl 4 rfl) ?_
              refine lv_iload hx hb dX4_print_105 (lv_at hl 0 rfl) ?_
              refine ro_S (rest := [.ref (ad 5), .int (zi (((12) * (σ 8 0)) + ((j : Int)))), .ref (ad 9)]) (As := [.int (zi (zk)), .int (zi (zv)), .int (zi ((j : Int)))]) ⟨hx, hb, hml, hown, hts⟩ (c_X4_at l g (zk) (zv) ((j : Int))) (cwS 3 hts gX4_print_X4_at rfl rfl rfl (by decide +kernel) ⟨Nat.le_of_ble_eq_true rfl, Nat.le_of_ble_eq_true rfl⟩) trivial hK rfl hl.1 rfl (Nat.le_of_ble_eq_true rfl) dX4_print_107 ⟨Nat.zero_le _, Nat.zero_le _⟩ ?_
              refine z_iald hx hb hK (hP 5 _ rfl) (24 * k + 12 * v + j) (by omega) (by omega) (by decide) dX4_print_110 ?_
              refine z_top (b := σ 5 (24 * k + 12 * v + j)) rfl ?_
              refine z_top (b := NV σ k v j) (rfl) ?_
              refine z_mast (x := NV σ k v j) hx hb hd hK hP hS 9 11 240 rfl (12 * C + j) (msa9 _ _ _ _ _ _) (by omega) (by omega) (by decide) dX4_print_111 (fun H locs hP hS => ?_)
              refine z_iinc (b := ((j + 1 : Nat) : Int)) (lv' := [(4, .int (zi (((j + 1 : Nat) : Int)))), (3, .int (zi (pz (IsN σ (zk) (zv) (0))))), (0, .ref (ad 0)), (1, .int (zi (zk))), (2, .int (zi (zv)))]) hx hb dX4_print_112 hl (k := 0) rfl (by omega) (by decide) rfl (fun ls hl => ?_)
              refine lv_goto (tgt := 74) hx hb dX4_print_115 (by decide) ?_
              rw [sfl_s (sup (sup (sup σ 3 k 1) 9 C (σ 1 k)) 10 C (v : Int)) 11 (12 * C) j (12 * C + j) (fun i => NV σ k v (i - 12 * C)) (NV σ k v j) rfl (by show _ = NV σ k v _; congr 1; omega)] at hP
              exact ih (j + 1) (by omega) (by omega) H locs hP hS ls (lv_sub hl [0, 1, 2, 3, 4] rfl)
        rw [← sfl_0 (sup (sup (sup σ 3 k 1) 9 C (σ 1 k)) 10 C (v : Int)) 11 (12 * C) (fun i => NV σ k v (i - 12 * C))] at hP
        exact loop74 _ 0 (by omega) rfl _ _ hP hS ls (lv_sub hl [0, 1, 2, 3, 4] rfl)
      · exfalso; omega
    · exfalso; omega
  · exfalso; omega
