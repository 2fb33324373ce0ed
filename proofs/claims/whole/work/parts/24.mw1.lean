set_option maxHeartbeats 4000000 in
set_option maxRecDepth 100000 in
theorem c_X4_fails (l : Launch) (g : gG) (ad : Nat → Nat) (σ : SG) (th : Int) (hW : WF σ) (hd : Dst ad) (sz : Nat) (w : Int) (hw : zr w) : MI l yX4_fails wsX4_fails ({ frames := 0, cells := 0, slots := 0, locals := 0 }) g ad [.int (zi (w))] sz σ th (σ) (w) (pz (0 < w)) := by
  refine ZM.ofW (cc := cX4_fails) (maxL := 2) (ret := (some .boolean)) (by decide) rfl (Nat.le_of_ble_eq_true rfl) ?_
  intro p e s m below meth c ls hx hb hr hml hown hts hlk hP hK hl _
  obtain ⟨rfl, hP, -⟩ := hP
  have hS : va_S (va_A (MWs g ad σ th) s.heap.size) s.heap s.heap [] := va_S.rf
  have hown : s.vm.findClass RX4 = some m.cls := hown
  have hl : lv_has ls 2 [(0, .ref (ad 0)), (1, .int (zi (w)))] := hl
  have hiX4 : ∀ w ∈ u_ws RX4 TX4 14, w ∈ wsX4_fails := by decide +kernel
  refine lv_aload_n hx hb dX4_fails_0 rfl (lv_at hl 0 rfl) ?_
  refine lv_iload_n hx hb dX4_fails_1 rfl (lv_at hl 1 rfl) ?_
  refine z_mput hx hb hd hts hiX4 hown hK hP hS 13 (by decide) (hts (.fieldLink RX4 45 "HarmoniumDeskModel" "thrown" "I") (by decide +kernel)) rfl rfl rfl (ms13 _ _ _ _ _) dX4_fails_2 (fun H locs hP hS => ?_)
  refine lv_iload_n hx hb dX4_fails_5 rfl (lv_at hl 1 rfl) ?_
  refine z_if_le (tgt := 13) hx hb dX4_fails_6 (by decide) (by omega) (fun h6 => ?_) (fun h6 => ?_)
  ·
    refine z_iconst hx hb dX4_fails_13 ?_
    exact z_wzret hx hb hr hlk dX4_fails_14 (by omega) ((pz_f (by omega)).symm) hP hS
  ·
    refine z_iconst hx hb dX4_fails_9 ?_
    refine lv_goto (tgt := 14) hx hb dX4_fails_10 (by decide) ?_
    exact z_wzret hx hb hr hlk dX4_fails_14 (by omega) ((pz_t (by omega)).symm) hP hS

set_option maxHeartbeats 4000000 in
set_option maxRecDepth 100000 in
theorem c_X4_begin_1 (l : Launch) (g : gG) (ad : Nat → Nat) (σ : SG) (th : Int) (hW : WF σ) (hd : Dst ad) (sz : Nat) (b : Int) (hb9 : zr b) (hbad : ¬ (1 ≤ b ∧ b ≤ 12)) : MI l yX4_begin wsX4_begin ({ frames := 1, cells := 0, slots := 0, locals := 22 }) g ad [.int (zi (b))] sz σ th (σ) (1) (0) := by
  refine ZM.ofW (cc := cX4_begin) (maxL := 3) (ret := (some .int)) (by decide) rfl (Nat.le_of_ble_eq_true rfl) ?_
  intro p e s m below meth c ls hx hb hr hml hown hts hlk hP hK hl _
  obtain ⟨rfl, hP, -⟩ := hP
  have hS : va_S (va_A (MWs g ad σ th) s.heap.size) s.heap s.heap [] := va_S.rf
  have hown : s.vm.findClass RX4 = some m.cls := hown
  have hl : lv_has ls 3 [(0, .ref (ad 0)), (1, .int (zi (b)))] := hl
  have hn := hW.n
  refine lv_aload_n hx hb dX4_begin_0 rfl (lv_at hl 0 rfl) ?_
  refine lv_iload_n hx hb dX4_begin_1 rfl (lv_at hl 1 rfl) ?_
  refine z_iconst hx hb dX4_begin_2 ?_
  refine z_bipush hx hb dX4_begin_3 (by decide) ?_
  refine ro_S (rest := [.ref (ad 0)]) (As := [.int (zi (b)), .int (zi (1)), .int (zi (12))]) ⟨hx, hb, hml, hown, hts⟩ (c_X4_isIn l g (b) (1) (12) (by omega) (by omega) (by omega)) (cwS 3 hts gX4_begin_X4_isIn rfl rfl rfl (by decide +kernel) ⟨Nat.le_of_ble_eq_true rfl, Nat.le_of_ble_eq_true rfl⟩) trivial hK rfl hl.1 rfl (Nat.le_of_ble_eq_true rfl) dX4_begin_5 ⟨Nat.zero_le _, Nat.zero_le _⟩ ?_
  refine z_ifp_ne (P := (1) ≤ (b) ∧ (b) ≤ (12)) (tgt := 15) hx hb dX4_begin_8 (by decide)  (fun h8 => ?_) (fun h8 => ?_)
  · exfalso; omega
  ·
    refine z_iconst hx hb dX4_begin_11 ?_
    refine lv_goto (tgt := 29) hx hb dX4_begin_12 (by decide) ?_
    refine wi_V (rest := []) (As := [.int (zi (1))]) ⟨hx, hb, hml, hown, hts⟩ (c_X4_fails l g ad σ (th) hW hd _ (1) (by omega)) (cwV 1 hts gX4_begin_X4_fails rfl rfl rfl (by decide +kernel) ⟨Nat.le_of_ble_eq_true rfl, Nat.le_of_ble_eq_true rfl⟩) (z_recv hK (hP 0 _ rfl) rfl) hP trivial hK rfl hl.1 rfl (Nat.le_of_ble_eq_true rfl) dX4_begin_29 ⟨Nat.zero_le _, Nat.zero_le _⟩ hS (MW_fr hS.1) (fun H locs hP _ _ hS => ?_)
    refine z_ifp_eq (P := 0 < (1)) (tgt := 37) hx hb dX4_begin_32 (by decide)  (fun h32 => ?_) (fun h32 => ?_)
    · exfalso; omega
    ·
      refine z_iconst hx hb dX4_begin_35 ?_
      exact z_wiret hx hb hr hlk dX4_begin_36 (by omega) hP hS

set_option maxHeartbeats 4000000 in
set_option maxRecDepth 100000 in
theorem c_X4_begin_2 (l : Launch) (g : gG) (ad : Nat → Nat) (σ : SG) (th : Int) (hW : WF σ) (hd : Dst ad) (sz : Nat) (b : Int) (hb9 : zr b) (hgood : 1 ≤ b ∧ b ≤ 12) (hfull : σ 0 0 = 30) : MI l yX4_begin wsX4_begin ({ frames := 1, cells := 0, slots := 0, locals := 22 }) g ad [.int (zi (b))] sz σ th (σ) (2) (0) := by
  refine ZM.ofW (cc := cX4_begin) (maxL := 3) (ret := (some .int)) (by decide) rfl (Nat.le_of_ble_eq_true rfl) ?_
  intro p e s m below meth c ls hx hb hr hml hown hts hlk hP hK hl _
  obtain ⟨rfl, hP, -⟩ := hP
  have hS : va_S (va_A (MWs g ad σ th) s.heap.size) s.heap s.heap [] := va_S.rf
  have hown : s.vm.findClass RX4 = some m.cls := hown
  have hl : lv_has ls 3 [(0, .ref (ad 0)), (1, .int (zi (b)))] := hl
  have hiX4 : ∀ w ∈ u_ws RX4 TX4 14, w ∈ wsX4_begin := by decide +kernel
  have hn := hW.n
  refine lv_aload_n hx hb dX4_begin_0 rfl (lv_at hl 0 rfl) ?_
  refine lv_iload_n hx hb dX4_begin_1 rfl (lv_at hl 1 rfl) ?_
  refine z_iconst hx hb dX4_begin_2 ?_
  refine z_bipush hx hb dX4_begin_3 (by decide) ?_
  refine ro_S (rest := [.ref (ad 0)]) (As := [.int (zi (b)), .int (zi (1)), .int (zi (12))]) ⟨hx, hb, hml, hown, hts⟩ (c_X4_isIn l g (b) (1) (12) (by omega) (by omega) (by omega)) (cwS 3 hts gX4_begin_X4_isIn rfl rfl rfl (by decide +kernel) ⟨Nat.le_of_ble_eq_true rfl, Nat.le_of_ble_eq_true rfl⟩) trivial hK rfl hl.1 rfl (Nat.le_of_ble_eq_true rfl) dX4_begin_5 ⟨Nat.zero_le _, Nat.zero_le _⟩ ?_
  refine z_ifp_ne (P := (1) ≤ (b) ∧ (b) ≤ (12)) (tgt := 15) hx hb dX4_begin_8 (by decide)  (fun h8 => ?_) (fun h8 => ?_)
  ·
    refine lv_aload_n hx hb dX4_begin_15 rfl (lv_at hl 0 rfl) ?_
    refine z_get (C := RX4) (T := TX4) (N := 14) hx hb hts hiX4 hown hK (hP 0 _ rfl) rfl 0 (by decide) (hts (.fieldLink RX4 48 "HarmoniumDeskModel" "versions" "I") (by decide +kernel)) rfl rfl dX4_begin_16 ?_
    refine z_bipush hx hb dX4_begin_19 (by decide) ?_
    refine z_icmp_ne (tgt := 28) hx hb dX4_begin_21 (by decide) (by omega) (by omega) (fun h21 => ?_) (fun h21 => ?_)
    · exfalso; omega
    ·
      refine z_iconst hx hb dX4_begin_24 ?_
      refine lv_goto (tgt := 29) hx hb dX4_begin_25 (by decide) ?_
      refine wi_V (rest := []) (As := [.int (zi (2))]) ⟨hx, hb, hml, hown, hts⟩ (c_X4_fails l g ad σ (th) hW hd _ (2) (by omega)) (cwV 1 hts gX4_begin_X4_fails rfl rfl rfl (by decide +kernel) ⟨Nat.le_of_ble_eq_true rfl, Nat.le_of_ble_eq_true rfl⟩) (z_recv hK (hP 0 _ rfl) rfl) hP trivial hK rfl hl.1 rfl (Nat.le_of_ble_eq_true rfl) dX4_begin_29 ⟨Nat.zero_le _, Nat.zero_le _⟩ hS (MW_fr hS.1) (fun H locs hP _ _ hS => ?_)
      refine z_ifp_eq (P := 0 < (2)) (tgt := 37) hx hb dX4_begin_32 (by decide)  (fun h32 => ?_) (fun h32 => ?_)
      · exfalso; omega
      ·
        refine z_iconst hx hb dX4_begin_35 ?_
        exact z_wiret hx hb hr hlk dX4_begin_36 (by omega) hP hS
  · exfalso; omega

set_option maxHeartbeats 4000000 in
set_option maxRecDepth 100000 in
theorem c_X4_begin_0 (l : Launch) (g : gG) (ad : Nat → Nat) (σ : SG) (th : Int) (hW : WF σ) (hd : Dst ad) (sz : Nat) (b : Int) (hb9 : zr b) (hgood : 1 ≤ b ∧ b ≤ 12) (N : Nat) (hN : σ 0 0 = (N : Int)) (hnf : N < 30) : MI l yX4_begin wsX4_begin ({ frames := 1, cells := 0, slots := 0, locals := 22 }) g ad [.int (zi (b))] sz σ th (opB σ N b) (0) ((N : Int)) := by
  refine ZM.ofW (cc := cX4_begin) (maxL := 3) (ret := (some .int)) (by decide) rfl (Nat.le_of_ble_eq_true rfl) ?_
  intro p e s m below meth c ls hx hb hr hml hown hts hlk hP hK hl _
  obtain ⟨rfl, hP, -⟩ := hP
  have hS : va_S (va_A (MWs g ad σ th) s.heap.size) s.heap s.heap [] := va_S.rf
  have hown : s.vm.findClass RX4 = some m.cls := hown
  have hl : lv_has ls 3 [(0, .ref (ad 0)), (1, .int (zi (b)))] := hl
  have hiX4 : ∀ w ∈ u_ws RX4 TX4 14, w ∈ wsX4_begin := by decide +kernel
  have hn := hW.n
  refine lv_aload_n hx hb dX4_begin_0 rfl (lv_at hl 0 rfl) ?_
  refine lv_iload_n hx hb dX4_begin_1 rfl (lv_at hl 1 rfl) ?_
  refine z_iconst hx hb dX4_begin_2 ?_
  refine z_bipush hx hb dX4_begin_3 (by decide) ?_
  refine ro_S (rest := [.ref (ad 0)]) (As := [.int (zi (b)), .int (zi (1)), .int (zi (12))]) ⟨hx, hb, hml, hown, hts⟩ (c_X4_isIn l g (b) (1) (12) (by omega) (by omega) (by omega)) (cwS 3 hts gX4_begin_X4_isIn rfl rfl rfl (by decide +kernel) ⟨Nat.le_of_ble_eq_true rfl, Nat.le_of_ble_eq_true rfl⟩) trivial hK rfl hl.1 rfl (Nat.le_of_ble_eq_true rfl) dX4_begin_5 ⟨Nat.zero_le _, Nat.zero_le _⟩ ?_
  refine z_ifp_ne (P := (1) ≤ (b) ∧ (b) ≤ (12)) (tgt := 15) hx hb dX4_begin_8 (by decide)  (fun h8 => ?_) (fun h8 => ?_)
  ·
    refine lv_aload_n hx hb dX4_begin_15 rfl (lv_at hl 0 rfl) ?_
    refine z_get (C := RX4) (T := TX4) (N := 14) hx hb hts hiX4 hown hK (hP 0 _ rfl) rfl 0 (by decide) (hts (.fieldLink RX4 48 "HarmoniumDeskModel" "versions" "I") (by decide +kernel)) rfl rfl dX4_begin_16 ?_
    refine z_bipush hx hb dX4_begin_19 (by decide) ?_
    refine z_icmp_ne (tgt := 28) hx hb dX4_begin_21 (by decide) (by omega) (by omega) (fun h21 => ?_) (fun h21 => ?_)
    ·
      refine z_iconst hx hb dX4_begin_28 ?_
      refine wi_V (rest := []) (As := [.int (zi (0))]) ⟨hx, hb, hml, hown, hts⟩ (c_X4_fails l g ad σ (th) hW hd _ (0) (by omega)) (cwV 1 hts gX4_begin_X4_fails rfl rfl rfl (by decide +kernel) ⟨Nat.le_of_ble_eq_true rfl, Nat.le_of_ble_eq_true rfl⟩) (z_recv hK (hP 0 _ rfl) rfl) hP trivial hK rfl hl.1 rfl (Nat.le_of_ble_eq_true rfl) dX4_begin_29 ⟨Nat.zero_le _, Nat.zero_le _⟩ hS (MW_fr hS.1) (fun H locs hP _ _ hS => ?_)
      refine z_ifp_eq (P := 0 < (0)) (tgt := 37) hx hb dX4_begin_32 (by decide)  (fun h32 => ?_) (fun h32 => ?_)
      ·
        refine lv_aload_n hx hb dX4_begin_37 rfl (lv_at hl 0 rfl) ?_
        refine z_get (C := RX4) (T := TX4) (N := 14) hx hb hts hiX4 hown hK (hP 0 _ rfl) rfl 1 (by decide) (hts (.fieldLink RX4 7 "HarmoniumDeskModel" "bars" "[I") (by decide +kernel)) rfl rfl dX4_begin_38 ?_
        refine lv_aload_n hx hb dX4_begin_41 rfl (lv_at hl 0 rfl) ?_
        refine z_get (C := RX4) (T := TX4) (N := 14) hx hb hts hiX4 hown hK (hP 0 _ rfl) rfl 0 (by decide) (hts (.fieldLink RX4 48 "HarmoniumDeskModel" "versions" "I") (by decide +kernel)) rfl rfl dX4_begin_42 ?_
        refine lv_iload_n hx hb dX4_begin_45 rfl (lv_at hl 1 rfl) ?_
        refine z_mast (x := b) hx hb hd hK hP hS 1 1 30 rfl (N) (msa1 _ _ _ _ _ _) (by omega) (by omega) (by decide) dX4_begin_46 (fun H locs hP hS => ?_)
        refine lv_aload_n hx hb dX4_begin_47 rfl (lv_at hl 0 rfl) ?_
        refine z_get (C := RX4) (T := TX4) (N := 14) hx hb hts hiX4 hown hK (hP 0 _ rfl) rfl 2 (by decide) (hts (.fieldLink RX4 13 "HarmoniumDeskModel" "parent" "[I") (by decide +kernel)) rfl rfl dX4_begin_48 ?_
        refine lv_aload_n hx hb dX4_begin_51 rfl (lv_at hl 0 rfl) ?_
        refine z_get (C := RX4) (T := TX4) (N := 14) hx hb hts hiX4 hown hK (hP 0 _ rfl) rfl 0 (by decide) (hts (.fieldLink RX4 48 "HarmoniumDeskModel" "versions" "I") (by decide +kernel)) rfl rfl dX4_begin_52 ?_
        refine z_top (b := σ 0 0) rfl ?_
        refine z_iconst hx hb dX4_begin_55 ?_
        refine z_mast (x := (-1)) hx hb hd hK hP hS 2 2 30 rfl (N) (msa2 _ _ _ _ _ _) (by omega) (by omega) (by decide) dX4_begin_56 (fun H locs hP hS => ?_)
        refine z_iconst hx hb dX4_begin_57 ?_
        refine lv_istore_n (lv' := [(2, .int (zi (0))), (0, .ref (ad 0)), (1, .int (zi (b)))]) hx hb dX4_begin_58 rfl hl (by decide) rfl (fun ls hl => ?_)
        have loop59 : ∀ (d j : Nat), j ≤ 24 → 24 - j = d → ∀ (H : Heap) (locs : List Loc), va_P g.1 vwCl (MWs g ad (sfl (sup (sup σ 1 N b) 2 N (-1)) 5 (24 * N) j (fun _ => 20)) (0)) H → va_S (va_A (MWs g ad σ th) s.heap.size) s.heap H locs → ∀ ls : Array Slot, lv_has ls 3 [(2, .int (zi ((j : Int)))), (0, .ref (ad 0)), (1, .int (zi (b)))] → W p l e ({ frames := 1, cells := 0, slots := 0, locals := 22 }) s m ([.ref (ad 0), .int (zi (b))] : List Value).toArray below meth c H locs 0 0 (MQ below (va_Qi (fun z9 (_ : Unit) => z9 = zi ((N : Int))) (fun _ t9 => va_P g.1 vwCl (MWs g ad (opB σ N b) (0)) t9.heap) (va_A (MWs g ad σ th) s.heap.size)) ([.ref (ad 0), .int (zi (b))] : List Value).toArray s 0 0 (va_A (MWs g ad σ th) s.heap.size)) (F0 m 59 ls []) := by
          intro d
          induction d with
          | zero =>
            intro j hj hd2 H locs hP hS ls hl
            have e24 : j = 24 := by omega
            subst e24
            refine lv_iload_n hx hb dX4_begin_59 rfl (lv_at hl 0 rfl) ?_
            refine z_bipush hx hb dX4_begin_60 (by decide) ?_
            refine z_icmp_ge (tgt := 87) hx hb dX4_begin_62 (by decide) (by omega) (by omega) (fun h62 => ?_) (fun h62 => ?_)
            ·
              refine lv_aload_n hx hb dX4_begin_87 rfl (lv_at hl 1 rfl) ?_
              refine lv_dup hx hb dX4_begin_88 rfl ?_
              refine z_get (C := RX4) (T := TX4) (N := 14) hx hb hts hiX4 hown hK (hP 0 _ rfl) rfl 0 (by decide) (hts (.fieldLink RX4 48 "HarmoniumDeskModel" "versions" "I") (by decide +kernel)) rfl rfl dX4_begin_89 ?_
              refine z_top (b := σ 0 0) rfl ?_
              refine z_iconst hx hb dX4_begin_92 ?_
              refine z_iadd hx hb dX4_begin_93 ?_
              refine z_top (b := ((N + 1 : Nat) : Int)) (by omega) ?_
              refine z_mput hx hb hd hts hiX4 hown hK hP hS 0 (by decide) (hts (.fieldLink RX4 48 "HarmoniumDeskModel" "versions" "I") (by decide +kernel)) rfl rfl rfl (ms0 _ _ _ _ _) dX4_begin_94 (fun H locs hP hS => ?_)
              refine lv_aload_n hx hb dX4_begin_97 rfl (lv_at hl 1 rfl) ?_
              refine z_get (C := RX4) (T := TX4) (N := 14) hx hb hts hiX4 hown hK (hP 0 _ rfl) rfl 0 (by decide) (hts (.fieldLink RX4 48 "HarmoniumDeskModel" "versions" "I") (by decide +kernel)) rfl rfl dX4_begin_98 ?_
              refine z_top (b := ((N + 1 : Nat) : Int)) (rfl) ?_
              refine z_iconst hx hb dX4_begin_101 ?_
              refine z_isub hx hb dX4_begin_102 ?_
              exact z_wiret hx hb hr hlk dX4_begin_103 (by omega) hP hS
            · exfalso; omega
          | succ d ih =>
            intro j hj hd2 H locs hP hS ls hl
            refine lv_iload_n hx hb dX4_begin_59 rfl (lv_at hl 0 rfl) ?_
            refine z_bipush hx hb dX4_begin_60 (by decide) ?_
            refine z_icmp_ge (tgt := 87) hx hb dX4_begin_62 (by decide) (by omega) (by omega) (fun h62 => ?_) (fun h62 => ?_)
            · exfalso; omega
            ·
              refine lv_aload_n hx hb dX4_begin_65 rfl (lv_at hl 1 rfl) ?_
              refine z_get (C := RX4) (T := TX4) (N := 14) hx hb hts hiX4 hown hK (hP 0 _ rfl) rfl 5 (by decide) (hts (.fieldLink RX4 23 "HarmoniumDeskModel" "notes" "[I") (by decide +kernel)) rfl rfl dX4_begin_66 ?_
              refine lv_aload_n hx hb dX4_begin_69 rfl (lv_at hl 1 rfl) ?_
              refine z_get (C := RX4) (T := TX4) (N := 14) hx hb hts hiX4 hown hK (hP 0 _ rfl) rfl 0 (by decide) (hts (.fieldLink RX4 48 "HarmoniumDeskModel" "versions" "I") (by decide +kernel)) rfl rfl dX4_begin_70 ?_
              refine z_top (b := σ 0 0) rfl ?_
              refine z_iconst hx hb dX4_begin_73 ?_
              refine lv_iload_n hx hb dX4_begin_74 rfl (lv_at hl 0 rfl) ?_
              refine ro_S (rest := [.ref (ad 5)]) (As := [.int (zi (σ 0 0)), .int (zi (0)), .int (zi ((j : Int)))]) ⟨hx, hb, hml, hown, hts⟩ (c_X4_at l g (σ 0 0) (0) ((j : Int))) (cwS 3 hts gX4_begin_X4_at rfl rfl rfl (by decide +kernel) ⟨Nat.le_of_ble_eq_true rfl, Nat.le_of_ble_eq_true rfl⟩) trivial hK rfl hl.1 rfl (Nat.le_of_ble_eq_true rfl) dX4_begin_75 ⟨Nat.zero_le _, Nat.zero_le _⟩ ?_
              refine z_bipush hx hb dX4_begin_78 (by decide) ?_
              refine z_mast (x := 20) hx hb hd hK hP hS 5 5 720 rfl (24 * N + j) (msa5 _ _ _ _ _ _) (by omega) (by omega) (by decide) dX4_begin_80 (fun H locs hP hS => ?_)
              refine z_iinc (b := ((j + 1 : Nat) : Int)) (lv' := [(2, .int (zi (((j + 1 : Nat) : Int)))), (0, .ref (ad 0)), (1, .int (zi (b)))]) hx hb dX4_begin_81 hl (k := 0) rfl (by omega) (by decide) rfl (fun ls hl => ?_)
              refine lv_goto (tgt := 59) hx hb dX4_begin_84 (by decide) ?_
              rw [sfl_s (sup (sup σ 1 N b) 2 N (-1)) 5 (24 * N) j (24 * N + j) (fun _ => 20) 20 rfl rfl] at hP
              exact ih (j + 1) (by omega) (by omega) H locs hP hS ls (lv_sub hl [0, 1, 2] rfl)
        rw [← sfl_0 (sup (sup σ 1 N b) 2 N (-1)) 5 (24 * N) (fun _ => 20)] at hP
        exact loop59 _ 0 (by omega) rfl _ _ hP hS ls (lv_sub hl [0, 1, 2] rfl)
      · exfalso; omega
    · exfalso; omega
  · exfalso; omega

set_option maxHeartbeats 4000000 in
set_option maxRecDepth 100000 in
theorem c_X4_makes (l : Launch) (g : gG) (ad : Nat → Nat) (σ : SG) (th : Int) (hW : WF σ) (hd : Dst ad) (sz : Nat) (k : Nat) (hk : (k : Int) < σ 0 0) (zk : Int) (hzk : zk = (k : Int)) (N : Nat) (hN : σ 0 0 = (N : Int)) (hnf : N < 30) : MI l yX4_makes wsX4_makes ({ frames := 1, cells := 0, slots := 0, locals := 22 }) g ad [.int (zi (zk))] sz σ th (opK σ N k) (th) ((N : Int)) := by
  refine ZM.ofW (cc := cX4_makes) (maxL := 3) (ret := (some .int)) (by decide) rfl (Nat.le_of_ble_eq_true rfl) ?_
  intro p e s m below meth c ls hx hb hr hml hown hts hlk hP hK hl _
  obtain ⟨rfl, hP, -⟩ := hP
  have hS : va_S (va_A (MWs g ad σ th) s.heap.size) s.heap s.heap [] := va_S.rf
  have hown : s.vm.findClass RX4 = some m.cls := hown
  have hl : lv_has ls 3 [(0, .ref (ad 0)), (1, .int (zi (zk)))] := hl
  have hiX4 : ∀ w ∈ u_ws RX4 TX4 14, w ∈ wsX4_makes := by decide +kernel
  have hn := hW.n
  refine lv_aload_n hx hb dX4_makes_0 rfl (lv_at hl 0 rfl) ?_
  refine z_get (C := RX4) (T := TX4) (N := 14) hx hb hts hiX4 hown hK (hP 0 _ rfl) rfl 1 (by decide) (hts (.fieldLink RX4 7 "HarmoniumDeskModel" "bars" "[I") (by decide +kernel)) rfl rfl dX4_makes_1 ?_
  refine lv_aload_n hx hb dX4_makes_4 rfl (lv_at hl 0 rfl) ?_
  refine z_get (C := RX4) (T := TX4) (N := 14) hx hb hts hiX4 hown hK (hP 0 _ rfl) rfl 0 (by decide) (hts (.fieldLink RX4 48 "HarmoniumDeskModel" "versions" "I") (by decide +kernel)) rfl rfl dX4_makes_5 ?_
  refine lv_aload_n hx hb dX4_makes_8 rfl (lv_at hl 0 rfl) ?_
  refine z_get (C := RX4) (T := TX4) (N := 14) hx hb hts hiX4 hown hK (hP 0 _ rfl) rfl 1 (by decide) (hts (.fieldLink RX4 7 "HarmoniumDeskModel" "bars" "[I") (by decide +kernel)) rfl rfl dX4_makes_9 ?_
  refine lv_iload_n hx hb dX4_makes_12 rfl (lv_at hl 1 rfl) ?_
  refine z_iald hx hb hK (hP 1 _ rfl) (k) (by omega) (by omega) (by decide) dX4_makes_13 ?_
  refine z_mast (x := σ 1 (k)) hx hb hd hK hP hS 1 1 30 rfl (N) (msa1 _ _ _ _ _ _) (by omega) (by omega) (by decide) dX4_makes_14 (fun H locs hP hS => ?_)
  refine lv_aload_n hx hb dX4_makes_15 rfl (lv_at hl 0 rfl) ?_
  refine z_get (C := RX4) (T := TX4) (N := 14) hx hb hts hiX4 hown hK (hP 0 _ rfl) rfl 2 (by decide) (hts (.fieldLink RX4 13 "HarmoniumDeskModel" "parent" "[I") (by decide +kernel)) rfl rfl dX4_makes_16 ?_
  refine lv_aload_n hx hb dX4_makes_19 rfl (lv_at hl 0 rfl) ?_
  refine z_get (C := RX4) (T := TX4) (N := 14) hx hb hts hiX4 hown hK (hP 0 _ rfl) rfl 0 (by decide) (hts (.fieldLink RX4 48 "HarmoniumDeskModel" "versions" "I") (by decide +kernel)) rfl rfl dX4_makes_20 ?_
  refine z_top (b := σ 0 0) rfl ?_
  refine lv_iload_n hx hb dX4_makes_23 rfl (lv_at hl 1 rfl) ?_
  refine z_top (b := (k : Int)) (hzk) ?_
  refine z_mast (x := (k : Int)) hx hb hd hK hP hS 2 2 30 rfl (N) (msa2 _ _ _ _ _ _) (by omega) (by omega) (by decide) dX4_makes_24 (fun H locs hP hS => ?_)
  refine z_iconst hx hb dX4_makes_25 ?_
  refine lv_istore_n (lv' := [(2, .int (zi (0))), (0, .ref (ad 0)), (1, .int (zi (zk)))]) hx hb dX4_makes_26 rfl hl (by decide) rfl (fun ls hl => ?_)
  have loop27 : ∀ (d j : Nat), j ≤ 24 → 24 - j = d → ∀ (H : Heap) (locs : List Loc), va_P g.1 vwCl (MWs g ad (sfl (sup (sup σ 1 N (σ 1 k)) 2 N (k : Int)) 5 (24 * N) j (fun i => σ 5 (i - 24 * N + 24 * k))) (th)) H → va_S (va_A (MWs g ad σ th) s.heap.size) s.heap H locs → ∀ ls : Array Slot, lv_has ls 3 [(2, .int (zi ((j : Int)))), (0, .ref (ad 0)), (1, .int (zi (zk)))] → W p l e ({ frames := 1, cells := 0, slots := 0, locals := 22 }) s m ([.ref (ad 0), .int (zi (zk))] : List Value).toArray below meth c H locs 0 0 (MQ below (va_Qi (fun z9 (_ : Unit) => z9 = zi ((N : Int))) (fun _ t9 => va_P g.1 vwCl (MWs g ad (opK σ N k) (th)) t9.heap) (va_A (MWs g ad σ th) s.heap.size)) ([.ref (ad 0), .int (zi (zk))] : List Value).toArray s 0 0 (va_A (MWs g ad σ th) s.heap.size)) (F0 m 27 ls []) := by
    intro d
    induction d with
    | zero =>
      intro j hj hd2 H locs hP hS ls hl
      have e24 : j = 24 := by omega
      subst e24
      refine lv_iload_n hx hb dX4_makes_27 rfl (lv_at hl 0 rfl) ?_
      refine z_bipush hx hb dX4_makes_28 (by decide) ?_
      refine z_icmp_ge (tgt := 64) hx hb dX4_makes_30 (by decide) (by omega) (by omega) (fun h30 => ?_) (fun h30 => ?_)
      ·
        refine lv_aload_n hx hb dX4_makes_64 rfl (lv_at hl 1 rfl) ?_
        refine z_get (C := RX4) (T := TX4) (N := 14) hx hb hts hiX4 hown hK (hP 0 _ rfl) rfl 3 (by decide) (hts (.fieldLink RX4 16 "HarmoniumDeskModel" "isFixed" "[Z") (by decide +kernel)) rfl rfl dX4_makes_65 ?_
        refine lv_iload_n hx hb dX4_makes_68 rfl (lv_at hl 2 rfl) ?_
        refine z_iconst hx hb dX4_makes_69 ?_
        refine z_mzast (x := 1) hx hb hd hK hP hS 3 3 30 rfl (k) (msa3 _ _ _ _ _ _) (by omega) (by omega) (by decide) (Or.inr rfl) dX4_makes_70 (fun H locs hP hS => ?_)
        refine lv_aload_n hx hb dX4_makes_71 rfl (lv_at hl 1 rfl) ?_
        refine lv_dup hx hb dX4_makes_72 rfl ?_
        refine z_get (C := RX4) (T := TX4) (N := 14) hx hb hts hiX4 hown hK (hP 0 _ rfl) rfl 0 (by decide) (hts (.fieldLink RX4 48 "HarmoniumDeskModel" "versions" "I") (by decide +kernel)) rfl rfl dX4_makes_73 ?_
        refine z_top (b := σ 0 0) rfl ?_
        refine z_iconst hx hb dX4_makes_76 ?_
        refine z_iadd hx hb dX4_makes_77 ?_
        refine z_top (b := ((N + 1 : Nat) : Int)) (by omega) ?_
        refine z_mput hx hb hd hts hiX4 hown hK hP hS 0 (by decide) (hts (.fieldLink RX4 48 "HarmoniumDeskModel" "versions" "I") (by decide +kernel)) rfl rfl rfl (ms0 _ _ _ _ _) dX4_makes_78 (fun H locs hP hS => ?_)
        refine lv_aload_n hx hb dX4_makes_81 rfl (lv_at hl 1 rfl) ?_
        refine z_get (C := RX4) (T := TX4) (N := 14) hx hb hts hiX4 hown hK (hP 0 _ rfl) rfl 0 (by decide) (hts (.fieldLink RX4 48 "HarmoniumDeskModel" "versions" "I") (by decide +kernel)) rfl rfl dX4_makes_82 ?_
        refine z_top (b := ((N + 1 : Nat) : Int)) (rfl) ?_
        refine z_iconst hx hb dX4_makes_85 ?_
        refine z_isub hx hb dX4_makes_86 ?_
        exact z_wiret hx hb hr hlk dX4_makes_87 (by omega) hP hS
      · exfalso; omega
    | succ d ih =>
      intro j hj hd2 H locs hP hS ls hl
      refine lv_iload_n hx hb dX4_makes_27 rfl (lv_at hl 0 rfl) ?_
      refine z_bipush hx hb dX4_makes_28 (by decide) ?_
      refine z_icmp_ge (tgt := 64) hx hb dX4_makes_30 (by decide) (by omega) (by omega) (fun h30 => ?_) (fun h30 => ?_)
      · exfalso; omega
      ·
        refine lv_aload_n hx hb dX4_makes_33 rfl (lv_at hl 1 rfl) ?_
        refine z_get (C := RX4) (T := TX4) (N := 14) hx hb hts hiX4 hown hK (hP 0 _ rfl) rfl 5 (by decide) (hts (.fieldLink RX4 23 "HarmoniumDeskModel" "notes" "[I") (by decide +kernel)) rfl rfl dX4_makes_34 ?_
        refine lv_aload_n hx hb dX4_makes_37 rfl (lv_at hl 1 rfl) ?_
        refine z_get (C := RX4) (T := TX4) (N := 14) hx hb hts hiX4 hown hK (hP 0 _ rfl) rfl 0 (by decide) (hts (.fieldLink RX4 48 "HarmoniumDeskModel" "versions" "I") (by decide +kernel)) rfl rfl dX4_makes_38 ?_
        refine z_top (b := σ 0 0) rfl ?_
        refine z_iconst hx hb dX4_makes_41 ?_
        refine lv_iload_n hx hb dX4_makes_42 rfl (lv_at hl 0 rfl) ?_
        refine ro_S (rest := [.ref (ad 5)]) (As := [.int (zi (σ 0 0)), .int (zi (0)), .int (zi ((j : Int)))]) ⟨hx, hb, hml, hown, hts⟩ (c_X4_at l g (σ 0 0) (0) ((j : Int))) (cwS 3 hts gX4_makes_X4_at rfl rfl rfl (by decide +kernel) ⟨Nat.le_of_ble_eq_true rfl, Nat.le_of_ble_eq_true rfl⟩) trivial hK rfl hl.1 rfl (Nat.le_of_ble_eq_true rfl) dX4_makes_43 ⟨Nat.zero_le _, Nat.zero_le _⟩ ?_
        refine lv_aload_n hx hb dX4_makes_46 rfl (lv_at hl 1 rfl) ?_
        refine z_get (C := RX4) (T := TX4) (N := 14) hx hb hts hiX4 hown hK (hP 0 _ rfl) rfl 5 (by decide) (hts (.fieldLink RX4 23 "HarmoniumDeskModel" "notes" "[I") (by decide +kernel)) rfl rfl dX4_makes_47 ?_
        refine lv_iload_n hx hb dX4_makes_50 rfl (lv_at hl 2 rfl) ?_
        refine z_iconst hx hb dX4_makes_51 ?_
        refine lv_iload_n hx hb dX4_makes_52 rfl (lv_at hl 0 rfl) ?_
        refine ro_S (rest := [.ref (ad 5), .int (zi (12 * (2 * (σ 0 0) + (0)) + ((j : Int)))), .ref (ad 5)]) (As := [.int (zi (zk)), .int (zi (0)), .int (zi ((j : Int)))]) ⟨hx, hb, hml, hown, hts⟩ (c_X4_at l g (zk) (0) ((j : Int))) (cwS 3 hts gX4_makes_X4_at rfl rfl rfl (by decide +kernel) ⟨Nat.le_of_ble_eq_true rfl, Nat.le_of_ble_eq_true rfl⟩) trivial hK rfl hl.1 rfl (Nat.le_of_ble_eq_true rfl) dX4_makes_53 ⟨Nat.zero_le _, Nat.zero_le _⟩ ?_
        refine z_iald hx hb hK (hP 5 _ rfl) (24 * k + j) (by omega) (by omega) (by decide) dX4_makes_56 ?_
        refine z_top (b := σ 5 (24 * k + j)) (by rw [sfl_out _ _ _ _ _ (by omega)]; rfl) ?_
        refine z_mast (x := σ 5 (24 * k + j)) hx hb hd hK hP hS 5 5 720 rfl (24 * N + j) (msa5 _ _ _ _ _ _) (by omega) (by omega) (by decide) dX4_makes_57 (fun H locs hP hS => ?_)
        refine z_iinc (b := ((j + 1 : Nat) : Int)) (lv' := [(2, .int (zi (((j + 1 : Nat) : Int)))), (0, .ref (ad 0)), (1, .int (zi (zk)))]) hx hb dX4_makes_58 hl (k := 0) rfl (by omega) (by decide) rfl (fun ls hl => ?_)
        refine lv_goto (tgt := 27) hx hb dX4_makes_61 (by decide) ?_
        rw [sfl_s (sup (sup σ 1 N (σ 1 k)) 2 N (k : Int)) 5 (24 * N) j (24 * N + j) (fun i => σ 5 (i - 24 * N + 24 * k)) (σ 5 (24 * k + j)) rfl (by show _ = σ 5 _; congr 1; omega)] at hP
        exact ih (j + 1) (by omega) (by omega) H locs hP hS ls (lv_sub hl [0, 1, 2] rfl)
  rw [← sfl_0 (sup (sup σ 1 N (σ 1 k)) 2 N (k : Int)) 5 (24 * N) (fun i => σ 5 (i - 24 * N + 24 * k))] at hP
  exact loop27 _ 0 (by omega) rfl _ _ hP hS ls (lv_sub hl [0, 1, 2] rfl)

set_option maxHeartbeats 4000000 in
set_option maxRecDepth 100000 in
theorem c_X4_branch_1 (l : Launch) (g : gG) (ad : Nat → Nat) (σ : SG) (th : Int) (hW : WF σ) (hd : Dst ad) (sz : Nat) (z : Int) (hz : zr z) (hbad : ¬ IsV σ z) : MI l yX4_branch wsX4_branch ({ frames := 2, cells := 0, slots := 0, locals := 43 }) g ad [.int (zi (z))] sz σ th (σ) (1) (0) := by
  refine ZM.ofW (cc := cX4_branch) (maxL := 2) (ret := (some .int)) (by decide) rfl (Nat.le_of_ble_eq_true rfl) ?_
  intro p e s m below meth c ls hx hb hr hml hown hts hlk hP hK hl _
  obtain ⟨rfl, hP, -⟩ := hP
  have hS : va_S (va_A (MWs g ad σ th) s.heap.size) s.heap s.heap [] := va_S.rf
  have hown : s.vm.findClass RX4 = some m.cls := hown
  have hl : lv_has ls 2 [(0, .ref (ad 0)), (1, .int (zi (z)))] := hl
  have hn := hW.n
  refine lv_aload_n hx hb dX4_branch_0 rfl (lv_at hl 0 rfl) ?_
  refine lv_aload_n hx hb dX4_branch_1 rfl (lv_at hl 0 rfl) ?_
  refine lv_iload_n hx hb dX4_branch_2 rfl (lv_at hl 1 rfl) ?_
  refine ro_V (rest := [.ref (ad 0)]) (As := [.int (zi (z))]) ⟨hx, hb, hml, hown, hts⟩ (c_X4_isVersion l g ad σ (th) hW (z) (by omega)) (cwV 1 hts gX4_branch_X4_isVersion rfl rfl rfl (by decide +kernel) ⟨Nat.le_of_ble_eq_true rfl, Nat.le_of_ble_eq_true rfl⟩) (z_recv hK (hP 0 _ rfl) rfl) hP hK rfl hl.1 rfl (Nat.le_of_ble_eq_true rfl) dX4_branch_3 ⟨Nat.zero_le _, Nat.zero_le _⟩ ?_
  refine z_ifp_ne (P := IsV σ (z)) (tgt := 13) hx hb dX4_branch_6 (by decide)  (fun h6 => ?_) (fun h6 => ?_)
  · exfalso; omega
  ·
    refine z_iconst hx hb dX4_branch_9 ?_
    refine lv_goto (tgt := 27) hx hb dX4_branch_10 (by decide) ?_
    refine wi_V (rest := []) (As := [.int (zi (1))]) ⟨hx, hb, hml, hown, hts⟩ (c_X4_fails l g ad σ (th) hW hd _ (1) (by omega)) (cwV 1 hts gX4_branch_X4_fails rfl rfl rfl (by decide +kernel) ⟨Nat.le_of_ble_eq_true rfl, Nat.le_of_ble_eq_true rfl⟩) (z_recv hK (hP 0 _ rfl) rfl) hP trivial hK rfl hl.1 rfl (Nat.le_of_ble_eq_true rfl) dX4_branch_27 ⟨Nat.zero_le _, Nat.zero_le _⟩ hS (MW_fr hS.1) (fun H locs hP _ _ hS => ?_)
    refine z_ifp_eq (P := 0 < (1)) (tgt := 35) hx hb dX4_branch_30 (by decide)  (fun h30 => ?_) (fun h30 => ?_)
    · exfalso; omega
    ·
      refine z_iconst hx hb dX4_branch_33 ?_
      exact z_wiret hx hb hr hlk dX4_branch_34 (by omega) hP hS

set_option maxHeartbeats 4000000 in
set_option maxRecDepth 100000 in
theorem c_X4_branch_2 (l : Launch) (g : gG) (ad : Nat → Nat) (σ : SG) (th : Int) (hW : WF σ) (hd : Dst ad) (sz : Nat) (z : Int) (hz : zr z) (hgood : IsV σ z) (hfull : σ 0 0 = 30) : MI l yX4_branch wsX4_branch ({ frames := 2, cells := 0, slots := 0, locals := 43 }) g ad [.int (zi (z))] sz σ th (σ) (2) (0) := by
  refine ZM.ofW (cc := cX4_branch) (maxL := 2) (ret := (some .int)) (by decide) rfl (Nat.le_of_ble_eq_true rfl) ?_
  intro p e s m below meth c ls hx hb hr hml hown hts hlk hP hK hl _
  obtain ⟨rfl, hP, -⟩ := hP
  have hS : va_S (va_A (MWs g ad σ th) s.heap.size) s.heap s.heap [] := va_S.rf
  have hown : s.vm.findClass RX4 = some m.cls := hown
  have hl : lv_has ls 2 [(0, .ref (ad 0)), (1, .int (zi (z)))] := hl
  have hiX4 : ∀ w ∈ u_ws RX4 TX4 14, w ∈ wsX4_branch := by decide +kernel
  have hn := hW.n
  refine lv_aload_n hx hb dX4_branch_0 rfl (lv_at hl 0 rfl) ?_
  refine lv_aload_n hx hb dX4_branch_1 rfl (lv_at hl 0 rfl) ?_
  refine lv_iload_n hx hb dX4_branch_2 rfl (lv_at hl 1 rfl) ?_
  refine ro_V (rest := [.ref (ad 0)]) (As := [.int (zi (z))]) ⟨hx, hb, hml, hown, hts⟩ (c_X4_isVersion l g ad σ (th) hW (z) (by omega)) (cwV 1 hts gX4_branch_X4_isVersion rfl rfl rfl (by decide +kernel) ⟨Nat.le_of_ble_eq_true rfl, Nat.le_of_ble_eq_true rfl⟩) (z_recv hK (hP 0 _ rfl) rfl) hP hK rfl hl.1 rfl (Nat.le_of_ble_eq_true rfl) dX4_branch_3 ⟨Nat.zero_le _, Nat.zero_le _⟩ ?_
  refine z_ifp_ne (P := IsV σ (z)) (tgt := 13) hx hb dX4_branch_6 (by decide)  (fun h6 => ?_) (fun h6 => ?_)
  ·
    refine lv_aload_n hx hb dX4_branch_13 rfl (lv_at hl 0 rfl) ?_
    refine z_get (C := RX4) (T := TX4) (N := 14) hx hb hts hiX4 hown hK (hP 0 _ rfl) rfl 0 (by decide) (hts (.fieldLink RX4 48 "HarmoniumDeskModel" "versions" "I") (by decide +kernel)) rfl rfl dX4_branch_14 ?_
    refine z_bipush hx hb dX4_branch_17 (by decide) ?_
    refine z_icmp_ne (tgt := 26) hx hb dX4_branch_19 (by decide) (by omega) (by omega) (fun h19 => ?_) (fun h19 => ?_)
    · exfalso; omega
    ·
      refine z_iconst hx hb dX4_branch_22 ?_
      refine lv_goto (tgt := 27) hx hb dX4_branch_23 (by decide) ?_
      refine wi_V (rest := []) (As := [.int (zi (2))]) ⟨hx, hb, hml, hown, hts⟩ (c_X4_fails l g ad σ (th) hW hd _ (2) (by omega)) (cwV 1 hts gX4_branch_X4_fails rfl rfl rfl (by decide +kernel) ⟨Nat.le_of_ble_eq_true rfl, Nat.le_of_ble_eq_true rfl⟩) (z_recv hK (hP 0 _ rfl) rfl) hP trivial hK rfl hl.1 rfl (Nat.le_of_ble_eq_true rfl) dX4_branch_27 ⟨Nat.zero_le _, Nat.zero_le _⟩ hS (MW_fr hS.1) (fun H locs hP _ _ hS => ?_)
      refine z_ifp_eq (P := 0 < (2)) (tgt := 35) hx hb dX4_branch_30 (by decide)  (fun h30 => ?_) (fun h30 => ?_)
      · exfalso; omega
      ·
        refine z_iconst hx hb dX4_branch_33 ?_
        exact z_wiret hx hb hr hlk dX4_branch_34 (by omega) hP hS
  · exfalso; omega

set_option maxHeartbeats 4000000 in
set_option maxRecDepth 100000 in
theorem c_X4_branch_0 (l : Launch) (g : gG) (ad : Nat → Nat) (σ : SG) (th : Int) (hW : WF σ) (hd : Dst ad) (sz : Nat) (k : Nat) (hk : (k : Int) < σ 0 0) (zk : Int) (hzk : zk = (k : Int)) (N : Nat) (hN : σ 0 0 = (N : Int)) (hnf : N < 30) : MI l yX4_branch wsX4_branch ({ frames := 2, cells := 0, slots := 0, locals := 44 }) g ad [.int (zi (zk))] sz σ th (opK σ N k) (0) ((N : Int)) := by
  refine ZM.ofW (cc := cX4_branch) (maxL := 2) (ret := (some .int)) (by decide) rfl (Nat.le_of_ble_eq_true rfl) ?_
  intro p e s m below meth c ls hx hb hr hml hown hts hlk hP hK hl _
  obtain ⟨rfl, hP, -⟩ := hP
  have hS : va_S (va_A (MWs g ad σ th) s.heap.size) s.heap s.heap [] := va_S.rf
  have hown : s.vm.findClass RX4 = some m.cls := hown
  have hl : lv_has ls 2 [(0, .ref (ad 0)), (1, .int (zi (zk)))] := hl
  have hiX4 : ∀ w ∈ u_ws RX4 TX4 14, w ∈ wsX4_branch := by decide +kernel
  have hn := hW.n
  refine lv_aload_n hx hb dX4_branch_0 rfl (lv_at hl 0 rfl) ?_
  refine lv_aload_n hx hb dX4_branch_1 rfl (lv_at hl 0 rfl) ?_
  refine lv_iload_n hx hb dX4_branch_2 rfl (lv_at hl 1 rfl) ?_
  refine ro_V (rest := [.ref (ad 0)]) (As := [.int (zi (zk))]) ⟨hx, hb, hml, hown, hts⟩ (c_X4_isVersion l g ad σ (th) hW (zk) (by omega)) (cwV 1 hts gX4_branch_X4_isVersion rfl rfl rfl (by decide +kernel) ⟨Nat.le_of_ble_eq_true rfl, Nat.le_of_ble_eq_true rfl⟩) (z_recv hK (hP 0 _ rfl) rfl) hP hK rfl hl.1 rfl (Nat.le_of_ble_eq_true rfl) dX4_branch_3 ⟨Nat.zero_le _, Nat.zero_le _⟩ ?_
  refine z_ifp_ne (P := IsV σ (zk)) (tgt := 13) hx hb dX4_branch_6 (by decide)  (fun h6 => ?_) (fun h6 => ?_)
  ·
    refine lv_aload_n hx hb dX4_branch_13 rfl (lv_at hl 0 rfl) ?_
    refine z_get (C := RX4) (T := TX4) (N := 14) hx hb hts hiX4 hown hK (hP 0 _ rfl) rfl 0 (by decide) (hts (.fieldLink RX4 48 "HarmoniumDeskModel" "versions" "I") (by decide +kernel)) rfl rfl dX4_branch_14 ?_
    refine z_bipush hx hb dX4_branch_17 (by decide) ?_
    refine z_icmp_ne (tgt := 26) hx hb dX4_branch_19 (by decide) (by omega) (by omega) (fun h19 => ?_) (fun h19 => ?_)
    ·
      refine z_iconst hx hb dX4_branch_26 ?_
      refine wi_V (rest := []) (As := [.int (zi (0))]) ⟨hx, hb, hml, hown, hts⟩ (c_X4_fails l g ad σ (th) hW hd _ (0) (by omega)) (cwV 1 hts gX4_branch_X4_fails rfl rfl rfl (by decide +kernel) ⟨Nat.le_of_ble_eq_true rfl, Nat.le_of_ble_eq_true rfl⟩) (z_recv hK (hP 0 _ rfl) rfl) hP trivial hK rfl hl.1 rfl (Nat.le_of_ble_eq_true rfl) dX4_branch_27 ⟨Nat.zero_le _, Nat.zero_le _⟩ hS (MW_fr hS.1) (fun H locs hP _ _ hS => ?_)
      refine z_ifp_eq (P := 0 < (0)) (tgt := 35) hx hb dX4_branch_30 (by decide)  (fun h30 => ?_) (fun h30 => ?_)
      ·
        refine lv_aload_n hx hb dX4_branch_35 rfl (lv_at hl 0 rfl) ?_
        refine lv_iload_n hx hb dX4_branch_36 rfl (lv_at hl 1 rfl) ?_
        refine wi_V (rest := []) (As := [.int (zi (zk))]) ⟨hx, hb, hml, hown, hts⟩ (c_X4_makes l g ad σ (0) hW hd _ k hk (zk) (by omega) N hN hnf) (cwV 1 hts gX4_branch_X4_makes rfl rfl rfl (by decide +kernel) ⟨Nat.le_of_ble_eq_true rfl, Nat.le_of_ble_eq_true rfl⟩) (z_recv hK (hP 0 _ rfl) rfl) hP trivial hK rfl hl.1 rfl (Nat.le_of_ble_eq_true rfl) dX4_branch_37 ⟨Nat.zero_le _, Nat.zero_le _⟩ hS (MW_fr hS.1) (fun H locs hP _ _ hS => ?_)
        exact z_wiret hx hb hr hlk dX4_branch_40 (by omega) hP hS
      · exfalso; omega
    · exfalso; omega
  · exfalso; omega

set_option maxHeartbeats 4000000 in
set_option maxRecDepth 100000 in
theorem c_X4_setNote_1 (l : Launch) (g : gG) (ad : Nat → Nat) (σ : SG) (th : Int) (hW : WF σ) (hd : Dst ad) (sz : Nat) (z v b t : Int) (hz : zr z) (hv : zr v) (hb9 : zr b) (ht : zr t) (hbad : ¬ IsN σ z v b) : MI l yX4_setNote wsX4_setNote ({ frames := 3, cells := 0, slots := 0, locals := 66 }) g ad [.int (zi (z)), .int (zi (v)), .int (zi (b)), .int (zi (t))] sz σ th (σ) (1) (0) := by
  refine ZM.ofW (cc := cX4_setNote) (maxL := 7) (ret := (some .int)) (by decide) rfl (Nat.le_of_ble_eq_true rfl) ?_
  intro p e s m below meth c ls hx hb hr hml hown hts hlk hP hK hl _
  obtain ⟨rfl, hP, -⟩ := hP
  have hS : va_S (va_A (MWs g ad σ th) s.heap.size) s.heap s.heap [] := va_S.rf
  have hown : s.vm.findClass RX4 = some m.cls := hown
  have hl : lv_has ls 7 [(0, .ref (ad 0)), (1, .int (zi (z))), (2, .int (zi (v))), (3, .int (zi (b))), (4, .int (zi (t)))] := hl
  have hn := hW.n
  refine lv_aload_n hx hb dX4_setNote_0 rfl (lv_at hl 0 rfl) ?_
  refine lv_iload_n hx hb dX4_setNote_1 rfl (lv_at hl 1 rfl) ?_
  refine lv_iload_n hx hb dX4_setNote_2 rfl (lv_at hl 2 rfl) ?_
  refine lv_iload_n hx hb dX4_setNote_3 rfl (lv_at hl 3 rfl) ?_
  refine ro_V (rest := []) (As := [.int (zi (z)), .int (zi (v)), .int (zi (b))]) ⟨hx, hb, hml, hown, hts⟩ (c_X4_isNote l g ad σ (th) hW (z) (v) (b) (by omega) (by omega) (by omega)) (cwV 3 hts gX4_setNote_X4_isNote rfl rfl rfl (by decide +kernel) ⟨Nat.le_of_ble_eq_true rfl, Nat.le_of_ble_eq_true rfl⟩) (z_recv hK (hP 0 _ rfl) rfl) hP hK rfl hl.1 rfl (Nat.le_of_ble_eq_true rfl) dX4_setNote_4 ⟨Nat.zero_le _, Nat.zero_le _⟩ ?_
  refine lv_istore (lv' := [(5, .int (zi (pz (IsN σ (z) (v) (b))))), (0, .ref (ad 0)), (1, .int (zi (z))), (2, .int (zi (v))), (3, .int (zi (b))), (4, .int (zi (t)))]) hx hb dX4_setNote_7 hl (by decide) rfl (fun ls hl => ?_)
  refine lv_aload_n hx hb dX4_setNote_9 rfl (lv_at hl 1 rfl) ?_
  refine lv_iload hx hb dX4_setNote_10 (lv_at hl 0 rfl) ?_
  refine z_ifp_ne (P := IsN σ (z) (v) (b)) (tgt := 19) hx hb dX4_setNote_12 (by decide)  (fun h12 => ?_) (fun h12 => ?_)
  · exfalso; omega
  ·
    refine z_iconst hx hb dX4_setNote_15 ?_
    refine lv_goto (tgt := 48) hx hb dX4_setNote_16 (by decide) ?_
    refine wi_V (rest := []) (As := [.int (zi (1))]) ⟨hx, hb, hml, hown, hts⟩ (c_X4_fails l g ad σ (th) hW hd _ (1) (by omega)) (cwV 1 hts gX4_setNote_X4_fails rfl rfl rfl (by decide +kernel) ⟨Nat.le_of_ble_eq_true rfl, Nat.le_of_ble_eq_true rfl⟩) (z_recv hK (hP 0 _ rfl) rfl) hP trivial hK rfl hl.1 rfl (Nat.le_of_ble_eq_true rfl) dX4_setNote_48 ⟨Nat.zero_le _, Nat.zero_le _⟩ hS (MW_fr hS.1) (fun H locs hP _ _ hS => ?_)
    refine z_ifp_eq (P := 0 < (1)) (tgt := 56) hx hb dX4_setNote_51 (by decide)  (fun h51 => ?_) (fun h51 => ?_)
    · exfalso; omega
    ·
      refine z_iconst hx hb dX4_setNote_54 ?_
      exact z_wiret hx hb hr hlk dX4_setNote_55 (by omega) hP hS

set_option maxHeartbeats 4000000 in
set_option maxRecDepth 100000 in
theorem c_X4_setNote_2 (l : Launch) (g : gG) (ad : Nat → Nat) (σ : SG) (th : Int) (hW : WF σ) (hd : Dst ad) (sz : Nat) (z v b t : Int) (hz : zr z) (hv : zr v) (hb9 : zr b) (ht : zr t) (hgood : IsN σ z v b) (hbad : ¬ (0 ≤ t ∧ t ≤ 40)) : MI l yX4_setNote wsX4_setNote ({ frames := 3, cells := 0, slots := 0, locals := 66 }) g ad [.int (zi (z)), .int (zi (v)), .int (zi (b)), .int (zi (t))] sz σ th (σ) (2) (0) := by
  refine ZM.ofW (cc := cX4_setNote) (maxL := 7) (ret := (some .int)) (by decide) rfl (Nat.le_of_ble_eq_true rfl) ?_
  intro p e s m below meth c ls hx hb hr hml hown hts hlk hP hK hl _
  obtain ⟨rfl, hP, -⟩ := hP
  have hS : va_S (va_A (MWs g ad σ th) s.heap.size) s.heap s.heap [] := va_S.rf
  have hown : s.vm.findClass RX4 = some m.cls := hown
  have hl : lv_has ls 7 [(0, .ref (ad 0)), (1, .int (zi (z))), (2, .int (zi (v))), (3, .int (zi (b))), (4, .int (zi (t)))] := hl
  have hn := hW.n
  refine lv_aload_n hx hb dX4_setNote_0 rfl (lv_at hl 0 rfl) ?_
  refine lv_iload_n hx hb dX4_setNote_1 rfl (lv_at hl 1 rfl) ?_
  refine lv_iload_n hx hb dX4_setNote_2 rfl (lv_at hl 2 rfl) ?_
  refine lv_iload_n hx hb dX4_setNote_3 rfl (lv_at hl 3 rfl) ?_
  refine ro_V (rest := []) (As := [.int (zi (z)), .int (zi (v)), .int (zi (b))]) ⟨hx, hb, hml, hown, hts⟩ (c_X4_isNote l g ad σ (th) hW (z) (v) (b) (by omega) (by omega) (by omega)) (cwV 3 hts gX4_setNote_X4_isNote rfl rfl rfl (by decide +kernel) ⟨Nat.le_of_ble_eq_true rfl, Nat.le_of_ble_eq_true rfl⟩) (z_recv hK (hP 0 _ rfl) rfl) hP hK rfl hl.1 rfl (Nat.le_of_ble_eq_true rfl) dX4_setNote_4 ⟨Nat.zero_le _, Nat.zero_le _⟩ ?_
  refine lv_istore (lv' := [(5, .int (zi (pz (IsN σ (z) (v) (b))))), (0, .ref (ad 0)), (1, .int (zi (z))), (2, .int (zi (v))), (3, .int (zi (b))), (4, .int (zi (t)))]) hx hb dX4_setNote_7 hl (by decide) rfl (fun ls hl => ?_)
  refine lv_aload_n hx hb dX4_setNote_9 rfl (lv_at hl 1 rfl) ?_
  refine lv_iload hx hb dX4_setNote_10 (lv_at hl 0 rfl) ?_
  refine z_ifp_ne (P := IsN σ (z) (v) (b)) (tgt := 19) hx hb dX4_setNote_12 (by decide)  (fun h12 => ?_) (fun h12 => ?_)
  ·
    refine lv_iload hx hb dX4_setNote_19 (lv_at hl 5 rfl) ?_
    refine z_iconst hx hb dX4_setNote_21 ?_
    refine z_bipush hx hb dX4_setNote_22 (by decide) ?_
    refine ro_S (rest := [.ref (ad 0)]) (As := [.int (zi (t)), .int (zi (0)), .int (zi (40))]) ⟨hx, hb, hml, hown, hts⟩ (c_X4_isIn l g (t) (0) (40) (by omega) (by omega) (by omega)) (cwS 3 hts gX4_setNote_X4_isIn rfl rfl rfl (by decide +kernel) ⟨Nat.le_of_ble_eq_true rfl, Nat.le_of_ble_eq_true rfl⟩) trivial hK rfl hl.1 rfl (Nat.le_of_ble_eq_true rfl) dX4_setNote_24 ⟨Nat.zero_le _, Nat.zero_le _⟩ ?_
    refine z_ifp_ne (P := (0) ≤ (t) ∧ (t) ≤ (40)) (tgt := 34) hx hb dX4_setNote_27 (by decide)  (fun h27 => ?_) (fun h27 => ?_)
    · exfalso; omega
    ·
      refine z_iconst hx hb dX4_setNote_30 ?_
      refine lv_goto (tgt := 48) hx hb dX4_setNote_31 (by decide) ?_
      refine wi_V (rest := []) (As := [.int (zi (2))]) ⟨hx, hb, hml, hown, hts⟩ (c_X4_fails l g ad σ (th) hW hd _ (2) (by omega)) (cwV 1 hts gX4_setNote_X4_fails rfl rfl rfl (by decide +kernel) ⟨Nat.le_of_ble_eq_true rfl, Nat.le_of_ble_eq_true rfl⟩) (z_recv hK (hP 0 _ rfl) rfl) hP trivial hK rfl hl.1 rfl (Nat.le_of_ble_eq_true rfl) dX4_setNote_48 ⟨Nat.zero_le _, Nat.zero_le _⟩ hS (MW_fr hS.1) (fun H locs hP _ _ hS => ?_)
      refine z_ifp_eq (P := 0 < (2)) (tgt := 56) hx hb dX4_setNote_51 (by decide)  (fun h51 => ?_) (fun h51 => ?_)
      · exfalso; omega
      ·
        refine z_iconst hx hb dX4_setNote_54 ?_
        exact z_wiret hx hb hr hlk dX4_setNote_55 (by omega) hP hS
  · exfalso; omega

set_option maxHeartbeats 4000000 in
set_option maxRecDepth 100000 in
theorem c_X4_setNote_3 (l : Launch) (g : gG) (ad : Nat → Nat) (σ : SG) (th : Int) (hW : WF σ) (hd : Dst ad) (sz : Nat) (z v b t : Int) (hz : zr z) (hv : zr v) (hb9 : zr b) (ht : zr t) (hgood : IsN σ z v b) (hg2 : 0 ≤ t ∧ t ≤ 40) (hbad : σ 3 z.toNat = 1) : MI l yX4_setNote wsX4_setNote ({ frames := 3, cells := 0, slots := 0, locals := 66 }) g ad [.int (zi (z)), .int (zi (v)), .int (zi (b)), .int (zi (t))] sz σ th (σ) (3) (0) := by
  refine ZM.ofW (cc := cX4_setNote) (maxL := 7) (ret := (some .int)) (by decide) rfl (Nat.le_of_ble_eq_true rfl) ?_
  intro p e s m below meth c ls hx hb hr hml hown hts hlk hP hK hl _
  obtain ⟨rfl, hP, -⟩ := hP
  have hS : va_S (va_A (MWs g ad σ th) s.heap.size) s.heap s.heap [] := va_S.rf
  have hown : s.vm.findClass RX4 = some m.cls := hown
  have hl : lv_has ls 7 [(0, .ref (ad 0)), (1, .int (zi (z))), (2, .int (zi (v))), (3, .int (zi (b))), (4, .int (zi (t)))] := hl
  have hiX4 : ∀ w ∈ u_ws RX4 TX4 14, w ∈ wsX4_setNote := by decide +kernel
  have hn := hW.n
  have hfl := hW.flag z.toNat
  refine lv_aload_n hx hb dX4_setNote_0 rfl (lv_at hl 0 rfl) ?_
  refine lv_iload_n hx hb dX4_setNote_1 rfl (lv_at hl 1 rfl) ?_
  refine lv_iload_n hx hb dX4_setNote_2 rfl (lv_at hl 2 rfl) ?_
  refine lv_iload_n hx hb dX4_setNote_3 rfl (lv_at hl 3 rfl) ?_
  refine ro_V (rest := []) (As := [.int (zi (z)), .int (zi (v)), .int (zi (b))]) ⟨hx, hb, hml, hown, hts⟩ (c_X4_isNote l g ad σ (th) hW (z) (v) (b) (by omega) (by omega) (by omega)) (cwV 3 hts gX4_setNote_X4_isNote rfl rfl rfl (by decide +kernel) ⟨Nat.le_of_ble_eq_true rfl, Nat.le_of_ble_eq_true rfl⟩) (z_recv hK (hP 0 _ rfl) rfl) hP hK rfl hl.1 rfl (Nat.le_of_ble_eq_true rfl) dX4_setNote_4 ⟨Nat.zero_le _, Nat.zero_le _⟩ ?_
  refine lv_istore (lv' := [(5, .int (zi (pz (IsN σ (z) (v) (b))))), (0, .ref (ad 0)), (1, .int (zi (z))), (2, .int (zi (v))), (3, .int (zi (b))), (4, .int (zi (t)))]) hx hb dX4_setNote_7 hl (by decide) rfl (fun ls hl => ?_)
  refine lv_aload_n hx hb dX4_setNote_9 rfl (lv_at hl 1 rfl) ?_
  refine lv_iload hx hb dX4_setNote_10 (lv_at hl 0 rfl) ?_
  refine z_ifp_ne (P := IsN σ (z) (v) (b)) (tgt := 19) hx hb dX4_setNote_12 (by decide)  (fun h12 => ?_) (fun h12 => ?_)
  ·
    refine lv_iload hx hb dX4_setNote_19 (lv_at hl 5 rfl) ?_
    refine z_iconst hx hb dX4_setNote_21 ?_
    refine z_bipush hx hb dX4_setNote_22 (by decide) ?_
    refine ro_S (rest := [.ref (ad 0)]) (As := [.int (zi (t)), .int (zi (0)), .int (zi (40))]) ⟨hx, hb, hml, hown, hts⟩ (c_X4_isIn l g (t) (0) (40) (by omega) (by omega) (by omega)) (cwS 3 hts gX4_setNote_X4_isIn rfl rfl rfl (by decide +kernel) ⟨Nat.le_of_ble_eq_true rfl, Nat.le_of_ble_eq_true rfl⟩) trivial hK rfl hl.1 rfl (Nat.le_of_ble_eq_true rfl) dX4_setNote_24 ⟨Nat.zero_le _, Nat.zero_le _⟩ ?_
    refine z_ifp_ne (P := (0) ≤ (t) ∧ (t) ≤ (40)) (tgt := 34) hx hb dX4_setNote_27 (by decide)  (fun h27 => ?_) (fun h27 => ?_)
    ·
      refine lv_aload_n hx hb dX4_setNote_34 rfl (lv_at hl 1 rfl) ?_
      refine z_get (C := RX4) (T := TX4) (N := 14) hx hb hts hiX4 hown hK (hP 0 _ rfl) rfl 3 (by decide) (hts (.fieldLink RX4 16 "HarmoniumDeskModel" "isFixed" "[Z") (by decide +kernel)) rfl rfl dX4_setNote_35 ?_
      refine lv_iload_n hx hb dX4_setNote_38 rfl (lv_at hl 2 rfl) ?_
      refine z_zald hx hb hK (hP 3 _ rfl) (z.toNat) (by omega) (by omega) (by decide) dX4_setNote_39 ?_
      refine z_if_eq (tgt := 47) hx hb dX4_setNote_40 (by decide) (by omega) (fun h40 => ?_) (fun h40 => ?_)
      · exfalso; omega
      ·
        refine z_iconst hx hb dX4_setNote_43 ?_
        refine lv_goto (tgt := 48) hx hb dX4_setNote_44 (by decide) ?_
        refine wi_V (rest := []) (As := [.int (zi (3))]) ⟨hx, hb, hml, hown, hts⟩ (c_X4_fails l g ad σ (th) hW hd _ (3) (by omega)) (cwV 1 hts gX4_setNote_X4_fails rfl rfl rfl (by decide +kernel) ⟨Nat.le_of_ble_eq_true rfl, Nat.le_of_ble_eq_true rfl⟩) (z_recv hK (hP 0 _ rfl) rfl) hP trivial hK rfl hl.1 rfl (Nat.le_of_ble_eq_true rfl) dX4_setNote_48 ⟨Nat.zero_le _, Nat.zero_le _⟩ hS (MW_fr hS.1) (fun H locs hP _ _ hS => ?_)
        refine z_ifp_eq (P := 0 < (3)) (tgt := 56) hx hb dX4_setNote_51 (by decide)  (fun h51 => ?_) (fun h51 => ?_)
        · exfalso; omega
        ·
          refine z_iconst hx hb dX4_setNote_54 ?_
          exact z_wiret hx hb hr hlk dX4_setNote_55 (by omega) hP hS
    · exfalso; omega
  · exfalso; omega

set_option maxHeartbeats 4000000 in
set_option maxRecDepth 100000 in
theorem c_X4_setNote_0 (l : Launch) (g : gG) (ad : Nat → Nat) (σ : SG) (th : Int) (hW : WF σ) (hd : Dst ad) (sz : Nat) (k : Nat) (hk : (k : Int) < σ 0 0) (zk : Int) (hzk : zk = (k : Int)) (v : Nat) (hv1 : v ≤ 1) (zv : Int) (hzv : zv = (v : Int)) (b : Nat) (hbb : (b : Int) < σ 1 k) (zb : Int) (hzb : zb = (b : Int)) (t : Int) (hg2 : 0 ≤ t ∧ t ≤ 40) (hfx : σ 3 k = 0) : MI l yX4_setNote wsX4_setNote ({ frames := 3, cells := 0, slots := 0, locals := 66 }) g ad [.int (zi (zk)), .int (zi (zv)), .int (zi (zb)), .int (zi (t))] sz σ th (opN σ k v b t) (0) (NV σ k v b) := by
  refine ZM.ofW (cc := cX4_setNote) (maxL := 7) (ret := (some .int)) (by decide) rfl (Nat.le_of_ble_eq_true rfl) ?_
  intro p e s m below meth c ls hx hb hr hml hown hts hlk hP hK hl _
  obtain ⟨rfl, hP, -⟩ := hP
  have hS : va_S (va_A (MWs g ad σ th) s.heap.size) s.heap s.heap [] := va_S.rf
  have hown : s.vm.findClass RX4 = some m.cls := hown
  have hl : lv_has ls 7 [(0, .ref (ad 0)), (1, .int (zi (zk))), (2, .int (zi (zv))), (3, .int (zi (zb))), (4, .int (zi (t)))] := hl
  have hiX4 : ∀ w ∈ u_ws RX4 TX4 14, w ∈ wsX4_setNote := by decide +kernel
  have hn := hW.n
  have hbk := hW.bars hk
  have ek : zk.toNat = k := by omega
  have hbz : (b : Int) < σ 1 zk.toNat := by rw [ek]; exact hbb
  refine lv_aload_n hx hb dX4_setNote_0 rfl (lv_at hl 0 rfl) ?_
  refine lv_iload_n hx hb dX4_setNote_1 rfl (lv_at hl 1 rfl) ?_
  refine lv_iload_n hx hb dX4_setNote_2 rfl (lv_at hl 2 rfl) ?_
  refine lv_iload_n hx hb dX4_setNote_3 rfl (lv_at hl 3 rfl) ?_
  refine ro_V (rest := []) (As := [.int (zi (zk)), .int (zi (zv)), .int (zi (zb))]) ⟨hx, hb, hml, hown, hts⟩ (c_X4_isNote l g ad σ (th) hW (zk) (zv) (zb) (by omega) (by omega) (by omega)) (cwV 3 hts gX4_setNote_X4_isNote rfl rfl rfl (by decide +kernel) ⟨Nat.le_of_ble_eq_true rfl, Nat.le_of_ble_eq_true rfl⟩) (z_recv hK (hP 0 _ rfl) rfl) hP hK rfl hl.1 rfl (Nat.le_of_ble_eq_true rfl) dX4_setNote_4 ⟨Nat.zero_le _, Nat.zero_le _⟩ ?_
  refine lv_istore (lv' := [(5, .int (zi (pz (IsN σ (zk) (zv) (zb))))), (0, .ref (ad 0)), (1, .int (zi (zk))), (2, .int (zi (zv))), (3, .int (zi (zb))), (4, .int (zi (t)))]) hx hb dX4_setNote_7 hl (by decide) rfl (fun ls hl => ?_)
  refine lv_aload_n hx hb dX4_setNote_9 rfl (lv_at hl 1 rfl) ?_
  refine lv_iload hx hb dX4_setNote_10 (lv_at hl 0 rfl) ?_
  refine z_ifp_ne (P := IsN σ (zk) (zv) (zb)) (tgt := 19) hx hb dX4_setNote_12 (by decide)  (fun h12 => ?_) (fun h12 => ?_)
  ·
    refine lv_iload hx hb dX4_setNote_19 (lv_at hl 5 rfl) ?_
    refine z_iconst hx hb dX4_setNote_21 ?_
    refine z_bipush hx hb dX4_setNote_22 (by decide) ?_
    refine ro_S (rest := [.ref (ad 0)]) (As := [.int (zi (t)), .int (zi (0)), .int (zi (40))]) ⟨hx, hb, hml, hown, hts⟩ (c_X4_isIn l g (t) (0) (40) (by omega) (by omega) (by omega)) (cwS 3 hts gX4_setNote_X4_isIn rfl rfl rfl (by decide +kernel) ⟨Nat.le_of_ble_eq_true rfl, Nat.le_of_ble_eq_true rfl⟩) trivial hK rfl hl.1 rfl (Nat.le_of_ble_eq_true rfl) dX4_setNote_24 ⟨Nat.zero_le _, Nat.zero_le _⟩ ?_
    refine z_ifp_ne (P := (0) ≤ (t) ∧ (t) ≤ (40)) (tgt := 34) hx hb dX4_setNote_27 (by decide)  (fun h27 => ?_) (fun h27 => ?_)
    ·
      refine lv_aload_n hx hb dX4_setNote_34 rfl (lv_at hl 1 rfl) ?_
      refine z_get (C := RX4) (T := TX4) (N := 14) hx hb hts hiX4 hown hK (hP 0 _ rfl) rfl 3 (by decide) (hts (.fieldLink RX4 16 "HarmoniumDeskModel" "isFixed" "[Z") (by decide +kernel)) rfl rfl dX4_setNote_35 ?_
      refine lv_iload_n hx hb dX4_setNote_38 rfl (lv_at hl 2 rfl) ?_
      refine z_zald hx hb hK (hP 3 _ rfl) (k) (by omega) (by omega) (by decide) dX4_setNote_39 ?_
      refine z_if_eq (tgt := 47) hx hb dX4_setNote_40 (by decide) (by omega) (fun h40 => ?_) (fun h40 => ?_)
      ·
        refine z_iconst hx hb dX4_setNote_47 ?_
        refine wi_V (rest := []) (As := [.int (zi (0))]) ⟨hx, hb, hml, hown, hts⟩ (c_X4_fails l g ad σ (th) hW hd _ (0) (by omega)) (cwV 1 hts gX4_setNote_X4_fails rfl rfl rfl (by decide +kernel) ⟨Nat.le_of_ble_eq_true rfl, Nat.le_of_ble_eq_true rfl⟩) (z_recv hK (hP 0 _ rfl) rfl) hP trivial hK rfl hl.1 rfl (Nat.le_of_ble_eq_true rfl) dX4_setNote_48 ⟨Nat.zero_le _, Nat.zero_le _⟩ hS (MW_fr hS.1) (fun H locs hP _ _ hS => ?_)
        refine z_ifp_eq (P := 0 < (0)) (tgt := 56) hx hb dX4_setNote_51 (by decide)  (fun h51 => ?_) (fun h51 => ?_)
        ·
          refine lv_aload_n hx hb dX4_setNote_56 rfl (lv_at hl 1 rfl) ?_
          refine z_get (C := RX4) (T := TX4) (N := 14) hx hb hts hiX4 hown hK (hP 0 _ rfl) rfl 5 (by decide) (hts (.fieldLink RX4 23 "HarmoniumDeskModel" "notes" "[I") (by decide +kernel)) rfl rfl dX4_setNote_57 ?_
          refine lv_iload_n hx hb dX4_setNote_60 rfl (lv_at hl 2 rfl) ?_
          refine lv_iload_n hx hb dX4_setNote_61 rfl (lv_at hl 3 rfl) ?_
          refine lv_iload_n hx hb dX4_setNote_62 rfl (lv_at hl 4 rfl) ?_
          refine ro_S (rest := [.ref (ad 5)]) (As := [.int (zi (zk)), .int (zi (zv)), .int (zi (zb))]) ⟨hx, hb, hml, hown, hts⟩ (c_X4_at l g (zk) (zv) (zb)) (cwS 3 hts gX4_setNote_X4_at rfl rfl rfl (by decide +kernel) ⟨Nat.le_of_ble_eq_true rfl, Nat.le_of_ble_eq_true rfl⟩) trivial hK rfl hl.1 rfl (Nat.le_of_ble_eq_true rfl) dX4_setNote_63 ⟨Nat.zero_le _, Nat.zero_le _⟩ ?_
          refine z_iald hx hb hK (hP 5 _ rfl) (24 * k + 12 * v + b) (by omega) (by omega) (by decide) dX4_setNote_66 ?_
          refine z_top (b := NV σ k v b) (rfl) ?_
          refine lv_istore (lv' := [(6, .int (zi (NV σ k v b))), (5, .int (zi (pz (IsN σ (zk) (zv) (zb))))), (0, .ref (ad 0)), (1, .int (zi (zk))), (2, .int (zi (zv))), (3, .int (zi (zb))), (4, .int (zi (t)))]) hx hb dX4_setNote_67 hl (by decide) rfl (fun ls hl => ?_)
          refine lv_aload_n hx hb dX4_setNote_69 rfl (lv_at hl 2 rfl) ?_
          refine z_get (C := RX4) (T := TX4) (N := 14) hx hb hts hiX4 hown hK (hP 0 _ rfl) rfl 5 (by decide) (hts (.fieldLink RX4 23 "HarmoniumDeskModel" "notes" "[I") (by decide +kernel)) rfl rfl dX4_setNote_70 ?_
          refine lv_iload_n hx hb dX4_setNote_73 rfl (lv_at hl 3 rfl) ?_
          refine lv_iload_n hx hb dX4_setNote_74 rfl (lv_at hl 4 rfl) ?_
          refine lv_iload_n hx hb dX4_setNote_75 rfl (lv_at hl 5 rfl) ?_
          refine ro_S (rest := [.ref (ad 5)]) (As := [.int (zi (zk)), .int (zi (zv)), .int (zi (zb))]) ⟨hx, hb, hml, hown, hts⟩ (c_X4_at l g (zk) (zv) (zb)) (cwS 3 hts gX4_setNote_X4_at rfl rfl rfl (by decide +kernel) ⟨Nat.le_of_ble_eq_true rfl, Nat.le_of_ble_eq_true rfl⟩) trivial hK rfl hl.1 rfl (Nat.le_of_ble_eq_true rfl) dX4_setNote_76 ⟨Nat.zero_le _, Nat.zero_le _⟩ ?_
          refine lv_iload hx hb dX4_setNote_79 (lv_at hl 6 rfl) ?_
          refine z_mast (x := t) hx hb hd hK hP hS 5 5 720 rfl (24 * k + 12 * v + b) (msa5 _ _ _ _ _ _) (by omega) (by omega) (by decide) dX4_setNote_81 (fun H locs hP hS => ?_)
          refine lv_iload hx hb dX4_setNote_82 (lv_at hl 0 rfl) ?_
          exact z_wiret hx hb hr hlk dX4_setNote_84 (rfl) hP hS
        · exfalso; omega
      · exfalso; omega
    · exfalso; omega
  · exfalso; omega

set_option maxHeartbeats 4000000 in
set_option maxRecDepth 100000 in
theorem c_X4_note_1 (l : Launch) (g : gG) (ad : Nat → Nat) (σ : SG) (th : Int) (hW : WF σ) (hd : Dst ad) (sz : Nat) (z v b : Int) (hz : zr z) (hv : zr v) (hb9 : zr b) (hbad : ¬ IsN σ z v b) : MI l yX4_note wsX4_note ({ frames := 3, cells := 0, slots := 0, locals := 66 }) g ad [.int (zi (z)), .int (zi (v)), .int (zi (b))] sz σ th (σ) (1) (0) := by
  refine ZM.ofW (cc := cX4_note) (maxL := 4) (ret := (some .int)) (by decide) rfl (Nat.le_of_ble_eq_true rfl) ?_
  intro p e s m below meth c ls hx hb hr hml hown hts hlk hP hK hl _
  obtain ⟨rfl, hP, -⟩ := hP
  have hS : va_S (va_A (MWs g ad σ th) s.heap.size) s.heap s.heap [] := va_S.rf
  have hown : s.vm.findClass RX4 = some m.cls := hown
  have hl : lv_has ls 4 [(0, .ref (ad 0)), (1, .int (zi (z))), (2, .int (zi (v))), (3, .int (zi (b)))] := hl
  have hn := hW.n
  refine lv_aload_n hx hb dX4_note_0 rfl (lv_at hl 0 rfl) ?_
  refine lv_aload_n hx hb dX4_note_1 rfl (lv_at hl 0 rfl) ?_
  refine lv_iload_n hx hb dX4_note_2 rfl (lv_at hl 1 rfl) ?_
  refine lv_iload_n hx hb dX4_note_3 rfl (lv_at hl 2 rfl) ?_
  refine lv_iload_n hx hb dX4_note_4 rfl (lv_at hl 3 rfl) ?_
  refine ro_V (rest := [.ref (ad 0)]) (As := [.int (zi (z)), .int (zi (v)), .int (zi (b))]) ⟨hx, hb, hml, hown, hts⟩ (c_X4_isNote l g ad σ (th) hW (z) (v) (b) (by omega) (by omega) (by omega)) (cwV 3 hts gX4_note_X4_isNote rfl rfl rfl (by decide +kernel) ⟨Nat.le_of_ble_eq_true rfl, Nat.le_of_ble_eq_true rfl⟩) (z_recv hK (hP 0 _ rfl) rfl) hP hK rfl hl.1 rfl (Nat.le_of_ble_eq_true rfl) dX4_note_5 ⟨Nat.zero_le _, Nat.zero_le _⟩ ?_
  refine z_ifp_eq (P := IsN σ (z) (v) (b)) (tgt := 15) hx hb dX4_note_8 (by decide)  (fun h8 => ?_) (fun h8 => ?_)
  ·
    refine z_iconst hx hb dX4_note_15 ?_
    refine wi_V (rest := []) (As := [.int (zi (1))]) ⟨hx, hb, hml, hown, hts⟩ (c_X4_fails l g ad σ (th) hW hd _ (1) (by omega)) (cwV 1 hts gX4_note_X4_fails rfl rfl rfl (by decide +kernel) ⟨Nat.le_of_ble_eq_true rfl, Nat.le_of_ble_eq_true rfl⟩) (z_recv hK (hP 0 _ rfl) rfl) hP trivial hK rfl hl.1 rfl (Nat.le_of_ble_eq_true rfl) dX4_note_16 ⟨Nat.zero_le _, Nat.zero_le _⟩ hS (MW_fr hS.1) (fun H locs hP _ _ hS => ?_)
    refine z_ifp_eq (P := 0 < (1)) (tgt := 26) hx hb dX4_note_19 (by decide)  (fun h19 => ?_) (fun h19 => ?_)
    · exfalso; omega
    ·
      refine z_iconst hx hb dX4_note_22 ?_
      refine lv_goto (tgt := 37) hx hb dX4_note_23 (by decide) ?_
      exact z_wiret hx hb hr hlk dX4_note_37 (by omega) hP hS
  · exfalso; omega

set_option maxHeartbeats 4000000 in
set_option maxRecDepth 100000 in
theorem c_X4_note_0 (l : Launch) (g : gG) (ad : Nat → Nat) (σ : SG) (th : Int) (hW : WF σ) (hd : Dst ad) (sz : Nat) (k : Nat) (hk : (k : Int) < σ 0 0) (zk : Int) (hzk : zk = (k : Int)) (v : Nat) (hv1 : v ≤ 1) (zv : Int) (hzv : zv = (v : Int)) (b : Nat) (hbb : (b : Int) < σ 1 k) (zb : Int) (hzb : zb = (b : Int))  : MI l yX4_note wsX4_note ({ frames := 3, cells := 0, slots := 0, locals := 66 }) g ad [.int (zi (zk)), .int (zi (zv)), .int (zi (zb))] sz σ th (σ) (0) (NV σ k v b) := by
  refine ZM.ofW (cc := cX4_note) (maxL := 4) (ret := (some .int)) (by decide) rfl (Nat.le_of_ble_eq_true rfl) ?_
  intro p e s m below meth c ls hx hb hr hml hown hts hlk hP hK hl _
  obtain ⟨rfl, hP, -⟩ := hP
  have hS : va_S (va_A (MWs g ad σ th) s.heap.size) s.heap s.heap [] := va_S.rf
  have hown : s.vm.findClass RX4 = some m.cls := hown
  have hl : lv_has ls 4 [(0, .ref (ad 0)), (1, .int (zi (zk))), (2, .int (zi (zv))), (3, .int (zi (zb)))] := hl
  have hiX4 : ∀ w ∈ u_ws RX4 TX4 14, w ∈ wsX4_note := by decide +kernel
  have hn := hW.n
  have hbk := hW.bars hk
  have ek : zk.toNat = k := by omega
  have hbz : (b : Int) < σ 1 zk.toNat := by rw [ek]; exact hbb
  refine lv_aload_n hx hb dX4_note_0 rfl (lv_at hl 0 rfl) ?_
  refine lv_aload_n hx hb dX4_note_1 rfl (lv_at hl 0 rfl) ?_
  refine lv_iload_n hx hb dX4_note_2 rfl (lv_at hl 1 rfl) ?_
  refine lv_iload_n hx hb dX4_note_3 rfl (lv_at hl 2 rfl) ?_
  refine lv_iload_n hx hb dX4_note_4 rfl (lv_at hl 3 rfl) ?_
  refine ro_V (rest := [.ref (ad 0)]) (As := [.int (zi (zk)), .int (zi (zv)), .int (zi (zb))]) ⟨hx, hb, hml, hown, hts⟩ (c_X4_isNote l g ad σ (th) hW (zk) (zv) (zb) (by omega) (by omega) (by omega)) (cwV 3 hts gX4_note_X4_isNote rfl rfl rfl (by decide +kernel) ⟨Nat.le_of_ble_eq_true rfl, Nat.le_of_ble_eq_true rfl⟩) (z_recv hK (hP 0 _ rfl) rfl) hP hK rfl hl.1 rfl (Nat.le_of_ble_eq_true rfl) dX4_note_5 ⟨Nat.zero_le _, Nat.zero_le _⟩ ?_
  refine z_ifp_eq (P := IsN σ (zk) (zv) (zb)) (tgt := 15) hx hb dX4_note_8 (by decide)  (fun h8 => ?_) (fun h8 => ?_)
  · exfalso; omega
  ·
    refine z_iconst hx hb dX4_note_11 ?_
    refine lv_goto (tgt := 16) hx hb dX4_note_12 (by decide) ?_
    refine wi_V (rest := []) (As := [.int (zi (0))]) ⟨hx, hb, hml, hown, hts⟩ (c_X4_fails l g ad σ (th) hW hd _ (0) (by omega)) (cwV 1 hts gX4_note_X4_fails rfl rfl rfl (by decide +kernel) ⟨Nat.le_of_ble_eq_true rfl, Nat.le_of_ble_eq_true rfl⟩) (z_recv hK (hP 0 _ rfl) rfl) hP trivial hK rfl hl.1 rfl (Nat.le_of_ble_eq_true rfl) dX4_note_16 ⟨Nat.zero_le _, Nat.zero_le _⟩ hS (MW_fr hS.1) (fun H locs hP _ _ hS => ?_)
    refine z_ifp_eq (P := 0 < (0)) (tgt := 26) hx hb dX4_note_19 (by decide)  (fun h19 => ?_) (fun h19 => ?_)
    ·
      refine lv_aload_n hx hb dX4_note_26 rfl (lv_at hl 0 rfl) ?_
      refine z_get (C := RX4) (T := TX4) (N := 14) hx hb hts hiX4 hown hK (hP 0 _ rfl) rfl 5 (by decide) (hts (.fieldLink RX4 23 "HarmoniumDeskModel" "notes" "[I") (by decide +kernel)) rfl rfl dX4_note_27 ?_
      refine lv_iload_n hx hb dX4_note_30 rfl (lv_at hl 1 rfl) ?_
      refine lv_iload_n hx hb dX4_note_31 rfl (lv_at hl 2 rfl) ?_
      refine lv_iload_n hx hb dX4_note_32 rfl (lv_at hl 3 rfl) ?_
      refine ro_S (rest := [.ref (ad 5)]) (As := [.int (zi (zk)), .int (zi (zv)), .int (zi (zb))]) ⟨hx, hb, hml, hown, hts⟩ (c_X4_at l g (zk) (zv) (zb)) (cwS 3 hts gX4_note_X4_at rfl rfl rfl (by decide +kernel) ⟨Nat.le_of_ble_eq_true rfl, Nat.le_of_ble_eq_true rfl⟩) trivial hK rfl hl.1 rfl (Nat.le_of_ble_eq_true rfl) dX4_note_33 ⟨Nat.zero_le _, Nat.zero_le _⟩ ?_
      refine z_iald hx hb hK (hP 5 _ rfl) (24 * k + 12 * v + b) (by omega) (by omega) (by decide) dX4_note_36 ?_
      refine z_top (b := NV σ k v b) (rfl) ?_
      exact z_wiret hx hb hr hlk dX4_note_37 (rfl) hP hS
    · exfalso; omega

set_option maxHeartbeats 4000000 in
set_option maxRecDepth 100000 in
theorem c_X4_base_1 (l : Launch) (g : gG) (ad : Nat → Nat) (σ : SG) (th : Int) (hW : WF σ) (hd : Dst ad) (sz : Nat) (z y : Int) (hz : zr z) (hy : zr y) (hbad : ¬ (IsV σ z ∧ IsV σ y)) : MI l yX4_base wsX4_base ({ frames := 2, cells := 0, slots := 0, locals := 43 }) g ad [.int (zi (z)), .int (zi (y))] sz σ th (σ) (1) (0) := by
  refine ZM.ofW (cc := cX4_base) (maxL := 3) (ret := (some .int)) (by decide) rfl (Nat.le_of_ble_eq_true rfl) ?_
  intro p e s m below meth c ls hx hb hr hml hown hts hlk hP hK hl _
  obtain ⟨rfl, hP, -⟩ := hP
  have hS : va_S (va_A (MWs g ad σ th) s.heap.size) s.heap s.heap [] := va_S.rf
  have hown : s.vm.findClass RX4 = some m.cls := hown
  have hl : lv_has ls 3 [(0, .ref (ad 0)), (1, .int (zi (z))), (2, .int (zi (y)))] := hl
  have hn := hW.n
  refine lv_aload_n hx hb dX4_base_0 rfl (lv_at hl 0 rfl) ?_
  refine lv_aload_n hx hb dX4_base_1 rfl (lv_at hl 0 rfl) ?_
  refine lv_iload_n hx hb dX4_base_2 rfl (lv_at hl 1 rfl) ?_
  refine ro_V (rest := [.ref (ad 0)]) (As := [.int (zi (z))]) ⟨hx, hb, hml, hown, hts⟩ (c_X4_isVersion l g ad σ (th) hW (z) (by omega)) (cwV 1 hts gX4_base_X4_isVersion rfl rfl rfl (by decide +kernel) ⟨Nat.le_of_ble_eq_true rfl, Nat.le_of_ble_eq_true rfl⟩) (z_recv hK (hP 0 _ rfl) rfl) hP hK rfl hl.1 rfl (Nat.le_of_ble_eq_true rfl) dX4_base_3 ⟨Nat.zero_le _, Nat.zero_le _⟩ ?_
  refine z_ifp_eq (P := IsV σ (z)) (tgt := 21) hx hb dX4_base_6 (by decide)  (fun h6 => ?_) (fun h6 => ?_)
  ·
    refine z_iconst hx hb dX4_base_21 ?_
    refine wi_V (rest := []) (As := [.int (zi (1))]) ⟨hx, hb, hml, hown, hts⟩ (c_X4_fails l g ad σ (th) hW hd _ (1) (by omega)) (cwV 1 hts gX4_base_X4_fails rfl rfl rfl (by decide +kernel) ⟨Nat.le_of_ble_eq_true rfl, Nat.le_of_ble_eq_true rfl⟩) (z_recv hK (hP 0 _ rfl) rfl) hP trivial hK rfl hl.1 rfl (Nat.le_of_ble_eq_true rfl) dX4_base_22 ⟨Nat.zero_le _, Nat.zero_le _⟩ hS (MW_fr hS.1) (fun H locs hP _ _ hS => ?_)
    refine z_ifp_eq (P := 0 < (1)) (tgt := 32) hx hb dX4_base_25 (by decide)  (fun h25 => ?_) (fun h25 => ?_)
    · exfalso; omega
    ·
      refine z_iconst hx hb dX4_base_28 ?_
      refine lv_goto (tgt := 38) hx hb dX4_base_29 (by decide) ?_
      exact z_wiret hx hb hr hlk dX4_base_38 (by omega) hP hS
  ·
    refine lv_aload_n hx hb dX4_base_9 rfl (lv_at hl 0 rfl) ?_
    refine lv_iload_n hx hb dX4_base_10 rfl (lv_at hl 2 rfl) ?_
    refine ro_V (rest := [.ref (ad 0)]) (As := [.int (zi (y))]) ⟨hx, hb, hml, hown, hts⟩ (c_X4_isVersion l g ad σ (th) hW (y) (by omega)) (cwV 1 hts gX4_base_X4_isVersion rfl rfl rfl (by decide +kernel) ⟨Nat.le_of_ble_eq_true rfl, Nat.le_of_ble_eq_true rfl⟩) (z_recv hK (hP 0 _ rfl) rfl) hP hK rfl hl.1 rfl (Nat.le_of_ble_eq_true rfl) dX4_base_11 ⟨Nat.zero_le _, Nat.zero_le _⟩ ?_
    refine z_ifp_eq (P := IsV σ (y)) (tgt := 21) hx hb dX4_base_14 (by decide)  (fun h14 => ?_) (fun h14 => ?_)
    ·
      refine z_iconst hx hb dX4_base_21 ?_
      refine wi_V (rest := []) (As := [.int (zi (1))]) ⟨hx, hb, hml, hown, hts⟩ (c_X4_fails l g ad σ (th) hW hd _ (1) (by omega)) (cwV 1 hts gX4_base_X4_fails rfl rfl rfl (by decide +kernel) ⟨Nat.le_of_ble_eq_true rfl, Nat.le_of_ble_eq_true rfl⟩) (z_recv hK (hP 0 _ rfl) rfl) hP trivial hK rfl hl.1 rfl (Nat.le_of_ble_eq_true rfl) dX4_base_22 ⟨Nat.zero_le _, Nat.zero_le _⟩ hS (MW_fr hS.1) (fun H locs hP _ _ hS => ?_)
      refine z_ifp_eq (P := 0 < (1)) (tgt := 32) hx hb dX4_base_25 (by decide)  (fun h25 => ?_) (fun h25 => ?_)
      · exfalso; omega
      ·
        refine z_iconst hx hb dX4_base_28 ?_
        refine lv_goto (tgt := 38) hx hb dX4_base_29 (by decide) ?_
        exact z_wiret hx hb hr hlk dX4_base_38 (by omega) hP hS
    · exfalso; omega

set_option maxHeartbeats 4000000 in
set_option maxRecDepth 100000 in
theorem c_X4_base_0 (l : Launch) (g : gG) (ad : Nat → Nat) (σ : SG) (th : Int) (hW : WF σ) (hd : Dst ad) (sz : Nat) (z y : Int) (hz : zr z) (hy : zr y) (hg : IsV σ z) (hg2 : IsV σ y) : MI l yX4_base wsX4_base ({ frames := 2, cells := 0, slots := 0, locals := 48 }) g ad [.int (zi (z)), .int (zi (y))] sz σ th (σ) (0) (bs (σ 2) z y (σ 0 0).toNat) := by
  refine ZM.ofW (cc := cX4_base) (maxL := 3) (ret := (some .int)) (by decide) rfl (Nat.le_of_ble_eq_true rfl) ?_
  intro p e s m below meth c ls hx hb hr hml hown hts hlk hP hK hl _
  obtain ⟨rfl, hP, -⟩ := hP
  have hS : va_S (va_A (MWs g ad σ th) s.heap.size) s.heap s.heap [] := va_S.rf
  have hown : s.vm.findClass RX4 = some m.cls := hown
  have hl : lv_has ls 3 [(0, .ref (ad 0)), (1, .int (zi (z))), (2, .int (zi (y)))] := hl
  have hn := hW.n
  refine lv_aload_n hx hb dX4_base_0 rfl (lv_at hl 0 rfl) ?_
  refine lv_aload_n hx hb dX4_base_1 rfl (lv_at hl 0 rfl) ?_
  refine lv_iload_n hx hb dX4_base_2 rfl (lv_at hl 1 rfl) ?_
  refine ro_V (rest := [.ref (ad 0)]) (As := [.int (zi (z))]) ⟨hx, hb, hml, hown, hts⟩ (c_X4_isVersion l g ad σ (th) hW (z) (by omega)) (cwV 1 hts gX4_base_X4_isVersion rfl rfl rfl (by decide +kernel) ⟨Nat.le_of_ble_eq_true rfl, Nat.le_of_ble_eq_true rfl⟩) (z_recv hK (hP 0 _ rfl) rfl) hP hK rfl hl.1 rfl (Nat.le_of_ble_eq_true rfl) dX4_base_3 ⟨Nat.zero_le _, Nat.zero_le _⟩ ?_
  refine z_ifp_eq (P := IsV σ (z)) (tgt := 21) hx hb dX4_base_6 (by decide)  (fun h6 => ?_) (fun h6 => ?_)
  · exfalso; omega
  ·
    refine lv_aload_n hx hb dX4_base_9 rfl (lv_at hl 0 rfl) ?_
    refine lv_iload_n hx hb dX4_base_10 rfl (lv_at hl 2 rfl) ?_
    refine ro_V (rest := [.ref (ad 0)]) (As := [.int (zi (y))]) ⟨hx, hb, hml, hown, hts⟩ (c_X4_isVersion l g ad σ (th) hW (y) (by omega)) (cwV 1 hts gX4_base_X4_isVersion rfl rfl rfl (by decide +kernel) ⟨Nat.le_of_ble_eq_true rfl, Nat.le_of_ble_eq_true rfl⟩) (z_recv hK (hP 0 _ rfl) rfl) hP hK rfl hl.1 rfl (Nat.le_of_ble_eq_true rfl) dX4_base_11 ⟨Nat.zero_le _, Nat.zero_le _⟩ ?_
    refine z_ifp_eq (P := IsV σ (y)) (tgt := 21) hx hb dX4_base_14 (by decide)  (fun h14 => ?_) (fun h14 => ?_)
    · exfalso; omega
    ·
      refine z_iconst hx hb dX4_base_17 ?_
      refine lv_goto (tgt := 22) hx hb dX4_base_18 (by decide) ?_
      refine wi_V (rest := []) (As := [.int (zi (0))]) ⟨hx, hb, hml, hown, hts⟩ (c_X4_fails l g ad σ (th) hW hd _ (0) (by omega)) (cwV 1 hts gX4_base_X4_fails rfl rfl rfl (by decide +kernel) ⟨Nat.le_of_ble_eq_true rfl, Nat.le_of_ble_eq_true rfl⟩) (z_recv hK (hP 0 _ rfl) rfl) hP trivial hK rfl hl.1 rfl (Nat.le_of_ble_eq_true rfl) dX4_base_22 ⟨Nat.zero_le _, Nat.zero_le _⟩ hS (MW_fr hS.1) (fun H locs hP _ _ hS => ?_)
      refine z_ifp_eq (P := 0 < (0)) (tgt := 32) hx hb dX4_base_25 (by decide)  (fun h25 => ?_) (fun h25 => ?_)
      ·
        refine lv_aload_n hx hb dX4_base_32 rfl (lv_at hl 0 rfl) ?_
        refine lv_iload_n hx hb dX4_base_33 rfl (lv_at hl 1 rfl) ?_
        refine lv_iload_n hx hb dX4_base_34 rfl (lv_at hl 2 rfl) ?_
        refine ro_V (rest := []) (As := [.int (zi (z)), .int (zi (y))]) ⟨hx, hb, hml, hown, hts⟩ (c_X4_baseOf l g ad σ (0) hW (z) (y) (by omega) (by omega)) (cwV 2 hts gX4_base_X4_baseOf rfl rfl rfl (by decide +kernel) ⟨Nat.le_of_ble_eq_true rfl, Nat.le_of_ble_eq_true rfl⟩) (z_recv hK (hP 0 _ rfl) rfl) hP hK rfl hl.1 rfl (Nat.le_of_ble_eq_true rfl) dX4_base_35 ⟨Nat.zero_le _, Nat.zero_le _⟩ ?_
        exact z_wiret hx hb hr hlk dX4_base_38 (rfl) hP hS
      · exfalso; omega
