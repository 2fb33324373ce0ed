set_option maxHeartbeats 4000000 in
set_option maxRecDepth 100000 in
theorem c_X4_fails (l : Launch) (g : gG) (ad : Nat → Nat) (σ : SG) (th : Int) (hW : WF σ) (hd : Dst ad) (sz : Nat) (w : Int) (hw : zr w) : MI l yX4_fails wsX4_fails ({ frames := 0, cells := 0, slots := 0, locals := 0 }) g ad [.int (zi (w))] sz σ th (σ) (w) (pz (0 < w)) := by
  refine ZM.ofW (cc := cX4_fails) (maxL := 2) (ret := (some .boolean)) (by decide) rfl (Nat.le_of_ble_eq_true rfl) ?_
  intro p e s m below meth c ls hx hb hr hml hown hts hlk hP hK hl _
  obtain ⟨rfl, hP, -⟩ := hP
  have hS : va_S (va_A (MWs g ad σ th) s.heap.size) s.heap s.heap [] := va_S.rf
  have hown : s.vm.findClass RX4 = some m.cls := hown
  have hl : lv_has ls 2 [(0, .ref (ad 0)), (1, .int (zi (w)))] := hl
  have hiX4 : ∀ w ∈ u_ws RX4 TX4 14, w ∈ wsX4_fails := by decide +kernel
  refine lv_aload_n hx hb dX4_fails_0 rfl (lv_at hl 0 rfl) ?_
  refine lv_iload_n hx hb dX4_fails_1 rfl (lv_at hl 1 rfl) ?_
  refine z_mput hx hb hd hts hiX4 hown hK hP hS 13 (by decide) (hts (.fieldLink RX4 45 "HarmoniumDeskModel" "thrown" "I") (by decide +kernel)) rfl rfl rfl (ms13 _ _ _ _ _) dX4_fails_2 (fun H locs hP hS => ?_)
  refine lv_iload_n hx hb dX4_fails_5 rfl (lv_at hl 1 rfl) ?_
  refine z_if_le (tgt := 13) hx hb dX4_fails_6 (by decide) (by omega) (fun h6 => ?_) (fun h6 => ?_)
  ·
    refine z_iconst hx hb dX4_fails_13 ?_
    exact z_wzret hx hb hr hlk dX4_fails_14 (by omega) ((pz_f (by omega)).symm) hP hS
  ·
    refine z_iconst hx hb dX4_fails_9 ?_
    refine lv_goto (tgt := 14) hx hb dX4_fails_10 (by decide) ?_
    exact z_wzret hx hb hr hlk dX4_fails_14 (by omega) ((pz_t (by omega)).symm) hP hS

set_option maxHeartbeats 4000000 in
set_option maxRecDepth 100000 in
theorem c_X4_begin_1 (l : Launch) (g : gG) (ad : Nat → Nat) (σ : SG) (th : Int) (hW : WF σ) (hd : Dst ad) (sz : Nat) (b : Int) (hb9 : zr b) (hbad : ¬ (1 ≤ b ∧ b ≤ 12)) : MI l yX4_begin wsX4_begin ({ frames := 1, cells := 0, slots := 0, locals := 22 }) g ad [.int (zi (b))] sz σ th (σ) (1) (0) := by
  refine ZM.ofW (cc := cX4_begin) (maxL := 3) (ret := (some .int)) (by decide) rfl (Nat.le_of_ble_eq_true rfl) ?_
  intro p e s m below meth c ls hx hb hr hml hown hts hlk hP hK hl _
  obtain ⟨rfl, hP, -⟩ := hP
  have hS : va_S (va_A (MWs g ad σ th) s.heap.size) s.heap s.heap [] := va_S.rf
  have hown : s.vm.findClass RX4 = some m.cls := hown
  have hl : lv_has ls 3 [(0, .ref (ad 0)), (1, .int (zi (b)))] := hl
  have hn := hW.n
  refine lv_aload_n hx hb dX4_begin_0 rfl (lv_at hl 0 rfl) ?_
  refine lv_iload_n hx hb dX4_begin_1 rfl (lv_at hl 1 rfl) ?_
  refine z_iconst hx hb dX4_begin_2 ?_
  refine z_bipush hx hb dX4_begin_3 (by decide) ?_
  refine ro_S (rest := [.ref (ad 0)]) (As := [.int (zi (b)), .int (zi (1)), .int (zi (12))]) ⟨hx, hb, hml, hown, hts⟩ (c_X4_isIn l g (b) (1) (12) (by omega) (by omega) (by omega)) (cwS 3 hts gX4_begin_X4_isIn rfl rfl rfl (by decide +kernel) ⟨Nat.le_of_ble_eq_true rfl, Nat.le_of_ble_eq_true rfl⟩) trivial hK rfl hl.1 rfl (Nat.le_of_ble_eq_true rfl) dX4_begin_5 ⟨Nat.zero_le _, Nat.zero_le _⟩ ?_
  refine z_ifp_ne (P := (1) ≤ (b) ∧ (b) ≤ (12)) (tgt := 15) hx hb dX4_begin_8 (by decide)  (fun h8 => ?_) (fun h8 => ?_)
  · exfalso; omega
  ·
    refine z_iconst hx hb dX4_begin_11 ?_
    refine lv_goto (tgt := 29) hx hb dX4_begin_12 (by decide) ?_
    refine wi_V (rest := []) (As := [.int (zi (1))]) ⟨hx, hb, hml, hown, hts⟩ (c_X4_fails l g ad σ (th) hW hd _ (1) (by omega)) (cwV 1 hts gX4_begin_X4_fails rfl rfl rfl (by decide +kernel) ⟨Nat.le_of_ble_eq_true rfl, Nat.le_of_ble_eq_true rfl⟩) (z_recv hK (hP 0 _ rfl) rfl) hP trivial hK rfl hl.1 rfl (Nat.le_of_ble_eq_true rfl) dX4_begin_29 ⟨Nat.zero_le _, Nat.zero_le _⟩ hS (MW_fr hS.1) (fun H locs hP _ _ hS => ?_)
    refine z_ifp_eq (P := 0 < (1)) (tgt := 37) hx hb dX4_begin_32 (by decide)  (fun h32 => ?_) (fun h32 => ?_)
    · exfalso; omega
    ·
      refine z_iconst hx hb dX4_begin_35 ?_
      exact z_wiret hx hb hr hlk dX4_begin_36 (by omega) hP hS

set_option maxHeartbeats 4000000 in
set_option maxRecDepth 100000 in
theorem c_X4_begin_2 (l : Launch) (g : gG) (ad : Nat → Nat) (σ : SG) (th : Int) (hW : WF σ) (hd : Dst ad) (sz : Nat) (b : Int) (hb9 : zr b) (hgood : 1 ≤ b ∧ b ≤ 12) (hfull : σ 0 0 = 30) : MI l yX4_begin wsX4_begin ({ frames := 1, cells := 0, slots := 0, locals := 22 }) g ad [.int (zi (b))] sz σ th (σ) (2) (0) := by
  refine ZM.ofW (cc := cX4_begin) (maxL := 3) (ret := (some .int)) (by decide) rfl (Nat.le_of_ble_eq_true rfl) ?_
  intro p e s m below meth c ls hx hb hr hml hown hts hlk hP hK hl _
  obtain ⟨rfl, hP, -⟩ := hP
  have hS : va_S (va_A (MWs g ad σ th) s.heap.size) s.heap s.heap [] := va_S.rf
  have hown : s.vm.findClass RX4 = some m.cls := hown
  have hl : lv_has ls 3 [(0, .ref (ad 0)), (1, .int (zi (b)))] := hl
  have hiX4 : ∀ w ∈ u_ws RX4 TX4 14, w ∈ wsX4_begin := by decide +kernel
  have hn := hW.n
  refine lv_aload_n hx hb dX4_begin_0 rfl (lv_at hl 0 rfl) ?_
  refine lv_iload_n hx hb dX4_begin_1 rfl (lv_at hl 1 rfl) ?_
  refine z_iconst hx hb dX4_begin_2 ?_
  refine z_bipush hx hb dX4_begin_3 (by decide) ?_
  refine ro_S (rest := [.ref (ad 0)]) (As := [.int (zi (b)), .int (zi (1)), .int (zi (12))]) ⟨hx, hb, hml, hown, hts⟩ (c_X4_isIn l g (b) (1) (12) (by omega) (by omega) (by omega)) (cwS 3 hts gX4_begin_X4_isIn rfl rfl rfl (by decide +kernel) ⟨Nat.le_of_ble_eq_true rfl, Nat.le_of_ble_eq_true rfl⟩) trivial hK rfl hl.1 rfl (Nat.le_of_ble_eq_true rfl) dX4_begin_5 ⟨Nat.zero_le _, Nat.zero_le _⟩ ?_
  refine z_ifp_ne (P := (1) ≤ (b) ∧ (b) ≤ (12)) (tgt := 15) hx hb dX4_begin_8 (by decide)  (fun h8 => ?_) (fun h8 => ?_)
  ·
    refine lv_aload_n hx hb dX4_begin_15 rfl (lv_at hl 0 rfl) ?_
    refine z_get (C := RX4) (T := TX4) (N := 14) hx hb hts hiX4 hown hK (hP 0 _ rfl) rfl 0 (by decide) (hts (.fieldLink RX4 48 "HarmoniumDeskModel" "versions" "I") (by decide +kernel)) rfl rfl dX4_begin_16 ?_
    refine z_bipush hx hb dX4_begin_19 (by decide) ?_
    refine z_icmp_ne (tgt := 28) hx hb dX4_begin_21 (by decide) (by omega) (by omega) (fun h21 => ?_) (fun h21 => ?_)
    · exfalso; omega
    ·
      refine z_iconst hx hb dX4_begin_24 ?_
      refine lv_goto (tgt := 29) hx hb dX4_begin_25 (by decide) ?_
      refine wi_V (rest := []) (As := [.int (zi (2))]) ⟨hx, hb, hml, hown, hts⟩ (c_X4_fails l g ad σ (th) hW hd _ (2) (by omega)) (cwV 1 hts gX4_begin_X4_fails rfl rfl rfl (by decide +kernel) ⟨Nat.le_of_ble_eq_true rfl, Nat.le_of_ble_eq_true rfl⟩) (z_recv hK (hP 0 _ rfl) rfl) hP trivial hK rfl hl.1 rfl (Nat.le_of_ble_eq_true rfl) dX4_begin_29 ⟨Nat.zero_le _, Nat.zero_le _⟩ hS (MW_fr hS.1) (fun H locs hP _ _ hS => ?_)
      refine z_ifp_eq (P := 0 < (2)) (tgt := 37) hx hb dX4_begin_32 (by decide)  (fun h32 => ?_) (fun h32 => ?_)
      · exfalso; omega
      ·
        refine z_iconst hx hb dX4_begin_35 ?_
        exact z_wiret hx hb hr hlk dX4_begin_36 (by omega) hP hS
  · exfalso; omega

set_option maxHeartbeats 4000000 in
set_option maxRecDepth 100000 in
theorem c_X4_begin_0 (l : Launch) (g : gG) (ad : Nat → Nat) (σ : SG) (th : Int) (hW : WF σ) (hd : Dst ad) (sz : Nat) (b : Int) (hb9 : zr b) (hgood : 1 ≤ b ∧ b ≤ 12) (N : Nat) (hN : σ 0 0 = (N : Int)) (hnf : N < 30) : MI l yX4_begin wsX4_begin ({ frames := 1, cells := 0, slots := 0, locals := 22 }) g ad [.int (zi (b))] sz σ th (opB σ N b) (0) ((N : Int)) := by
  refine ZM.ofW (cc := cX4_begin) (maxL := 3) (ret := (some .int)) (by decide) rfl (Nat.le_of_ble_eq_true rfl) ?_
  intro p e s m below meth c ls hx hb hr hml hown hts hlk hP hK hl _
  obtain ⟨rfl, hP, -⟩ := hP
  have hS : va_S (va_A (MWs g ad σ th) s.heap.size) s.heap s.heap [] := va_S.rf
  have hown : s.vm.findClass RX4 = some m.cls := hown
  have hl : lv_has ls 3 [(0, .ref (ad 0)), (1, .int (zi (b)))] := hl
  have hiX4 : ∀ w ∈ u_ws RX4 TX4 14, w ∈ wsX4_begin := by decide +kernel
  have hn := hW.n
  refine lv_aload_n hx hb dX4_begin_0 rfl (lv_at hl 0 rfl) ?_
  refine lv_iload_n hx hb dX4_begin_1 rfl (lv_at hl 1 rfl) ?_
  refine z_iconst hx hb dX4_begin_2 ?_
  refine z_bipush hx hb dX4_begin_3 (by decide) ?_
  refine ro_S (rest := [.ref (ad 0)]) (As := [.int (zi (b)), .int (zi (1)), .int (zi (12))]) ⟨hx, hb, hml, hown, hts⟩ (c_X4_isIn l g (b) (1) (12) (by omega) (by omega) (by omega)) (cwS 3 hts gX4_begin_X4_isIn rfl rfl rfl (by decide +kernel) ⟨Nat.le_of_ble_eq_true rfl, Nat.le_of_ble_eq_true rfl⟩) trivial hK rfl hl.1 rfl (Nat.le_of_ble_eq_true rfl) dX4_begin_5 ⟨Nat.zero_le _, Nat.zero_le _⟩ ?_
  refine z_ifp_ne (P := (1) ≤ (b) ∧ (b) ≤ (12)) (tgt := 15) hx hb dX4_begin_8 (by decide)  (fun h8 => ?_) (fun h8 => ?_)
  ·
    refine lv_aload_n hx hb dX4_begin_15 rfl (lv_at hl 0 rfl) ?_
    refine z_get (C := RX4) (T := TX4) (N := 14) hx hb hts hiX4 hown hK (hP 0 _ rfl) rfl 0 (by decide) (hts (.fieldLink RX4 48 "HarmoniumDeskModel" "versions" "I") (by decide +kernel)) rfl rfl dX4_begin_16 ?_
    refine z_bipush hx hb dX4_begin_19 (by decide) ?_
    refine z_icmp_ne (tgt := 28) hx hb dX4_begin_21 (by decide) (by omega) (by omega) (fun h21 => ?_) (fun h21 => ?_)
    ·
      refine z_iconst hx hb dX4_begin_28 ?_
      refine wi_V (rest := []) (As := [.int (zi (0))]) ⟨hx, hb, hml, hown, hts⟩ (c_X4_fails l g ad σ (th) hW hd _ (0) (by omega)) (cwV 1 hts gX4_begin_X4_fails rfl rfl rfl (by decide +kernel) ⟨Nat.le_of_ble_eq_true rfl, Nat.le_of_ble_eq_true rfl⟩) (z_recv hK (hP 0 _ rfl) rfl) hP trivial hK rfl hl.1 rfl (Nat.le_of_ble_eq_true rfl) dX4_begin_29 ⟨Nat.zero_le _, Nat.zero_le _⟩ hS (MW_fr hS.1) (fun H locs hP _ _ hS => ?_)
      refine z_ifp_eq (P := 0 < (0)) (tgt := 37) hx hb dX4_begin_32 (by decide)  (fun h32 => ?_) (fun h32 => ?_)
      ·
        refine lv_aload_n hx hb dX4_begin_37 rfl (lv_at hl 0 rfl) ?_
        refine z_get (C := RX4) (T := TX4) (N := 14) hx hb hts hiX4 hown hK (hP 0 _ rfl) rfl 1 (by decide) (hts (.fieldLink RX4 7 "HarmoniumDeskModel" "bars" "[I") (by decide +kernel)) rfl rfl dX4_begin_38 ?_
        refine lv_aload_n hx hb dX4_begin_41 rfl (lv_at hl 0 rfl) ?_
        refine z_get (C := RX4) (T := TX4) (N := 14) hx hb hts hiX4 hown hK (hP 0 _ rfl) rfl 0 (by decide) (hts (.fieldLink RX4 48 "HarmoniumDeskModel" "versions" "I") (by decide +kernel)) rfl rfl dX4_begin_42 ?_
        refine lv_iload_n hx hb dX4_begin_45 rfl (lv_at hl 1 rfl) ?_
        refine z_mast (x := b) hx hb hd hK hP hS 1 1 30 rfl (N) (msa1 _ _ _ _ _ _) (by omega) (by omega) (by decide) dX4_begin_46 (fun H locs hP hS => ?_)
        refine lv_aload_n hx hb dX4_begin_47 rfl (lv_at hl 0 rfl) ?_
        refine z_get (C := RX4) (T := TX4) (N := 14) hx hb hts hiX4 hown hK (hP 0 _ rfl) rfl 2 (by decide) (hts (.fieldLink RX4 13 "HarmoniumDeskModel" "parent" "[I") (by decide +kernel)) rfl rfl dX4_begin_48 ?_
        refine lv_aload_n hx hb dX4_begin_51 rfl (lv_at hl 0 rfl) ?_
        refine z_get (C := RX4) (T := TX4) (N := 14) hx hb hts hiX4 hown hK (hP 0 _ rfl) rfl 0 (by decide) (hts (.fieldLink RX4 48 "HarmoniumDeskModel" "versions" "I") (by decide +kernel)) rfl rfl dX4_begin_52 ?_
        refine z_top (b := σ 0 0) rfl ?_
        refine z_iconst hx hb dX4_begin_55 ?_
        refine z_mast (x := (-1)) hx hb hd hK hP hS 2 2 30 rfl (N) (msa2 _ _ _ _ _ _) (by omega) (by omega) (by decide) dX4_begin_56 (fun H locs hP hS => ?_)
        refine z_iconst hx hb dX4_begin_57 ?_
        refine lv_istore_n (lv' := [(2, .int (zi (0))), (0, .ref (ad 0)), (1, .int (zi (b)))]) hx hb dX4_begin_58 rfl hl (by decide) rfl (fun ls hl => ?_)
        have loop59 : ∀ (d j : Nat), j ≤ 24 → 24 - j = d → ∀ (H : Heap) (locs : List Loc), va_P g.1 vwCl (MWs g ad (sfl (sup (sup σ 1 N b) 2 N (-1)) 5 (24 * N) j (fun _ => 20)) (0)) H → va_S (va_A (MWs g ad σ th) s.heap.size) s.heap H locs → ∀ ls : Array Slot, lv_has ls 3 [(2, .int (zi ((j : Int)))), (0, .ref (ad 0)), (1, .int (zi (b)))] → W p l e ({ frames := 1, cells := 0, slots := 0, locals := 22 }) s m ([.ref (ad 0), .int (zi (b))] : List Value).toArray below meth c H locs 0 0 (MQ below (va_Qi (fun z9 (_ : Unit) => z9 = zi ((N : Int))) (fun _ t9 => va_P g.1 vwCl (MWs g ad (opB σ N b) (0)) t9.heap) (va_A (MWs g ad σ th) s.heap.size)) ([.ref (ad 0), .int (zi (b))] : List Value).toArray s 0 0 (va_A (MWs g ad σ th) s.heap.size)) (F0 m 59 ls []) := by
          intro d
          induction d with
          | zero =>
            intro j hj hd2 H locs hP hS ls hl
            have e24 : j = 24 := by omega
            subst e24
            refine lv_iload_n hx hb dX4_begin_59 rfl (lv_at hl 0 rfl) ?_
            refine z_bipush hx hb dX4_begin_60 (by decide) ?_
            refine z_icmp_ge (tgt := 87) hx hb dX4_begin_62 (by decide) (by omega) (by omega) (fun h62 => ?_) (fun h62 => ?_)
            ·
              refine lv_aload_n hx hb dX4_begin_87 rfl (lv_at hl 1 rfl) ?_
              refine lv_dup hx hb dX4_begin_88 rfl ?_
              refine z_get (C := RX4) (T := TX4) (N := 14) hx hb hts hiX4 hown hK (hP 0 _ rfl) rfl 0 (by decide) (hts (.fieldLink RX4 48 "HarmoniumDeskModel" "versions" "I") (by decide +kernel)) rfl rfl dX4_begin_89 ?_
              refine z_top (b := σ 0 0) rfl ?_
              refine z_iconst hx hb dX4_begin_92 ?_
              refine z_iadd hx hb dX4_begin_93 ?_
              refine z_top (b := ((N + 1 : Nat) : Int)) (by omega) ?_
              refine z_mput hx hb hd hts hiX4 hown hK hP hS 0 (by decide) (hts (.fieldLink RX4 48 "HarmoniumDeskModel" "versions" "I") (by decide +kernel)) rfl rfl rfl (ms0 _ _ _ _ _) dX4_begin_94 (fun H locs hP hS => ?_)
              refine lv_aload_n hx hb dX4_begin_97 rfl (lv_at hl 1 rfl) ?_
              refine z_get (C := RX4) (T := TX4) (N := 14) hx hb hts hiX4 hown hK (hP 0 _ rfl) rfl 0 (by decide) (hts (.fieldLink RX4 48 "HarmoniumDeskModel" "versions" "I") (by decide +kernel)) rfl rfl dX4_begin_98 ?_
              refine z_top (b := ((N + 1 : Nat) : Int)) (rfl) ?_
              refine z_iconst hx hb dX4_begin_101 ?_
              refine z_isub hx hb dX4_begin_102 ?_
              exact z_wiret hx hb hr hlk dX4_begin_103 (by omega) hP hS
            · exfalso; omega
          | succ d ih =>
            intro j hj hd2 H locs hP hS ls hl
            refine lv_iload_n hx hb dX4_begin_59 rfl (lv_at hl 0 rfl) ?_
            refine z_bipush hx hb dX4_begin_60 (by decide) ?_
            refine z_icmp_ge (tgt := 87) hx hb dX4_begin_62 (by decide) (by omega) (by omega) (fun h62 => ?_) (fun h62 => ?_)
            · exfalso; omega
            ·
              refine lv_aload_n hx hb dX4_begin_65 rfl (lv_at hl 1 rfl) ?_
              refine z_get (C := RX4) (T := TX4) (N := 14) hx hb hts hiX4 hown hK (hP 0 _ rfl) rfl 5 (by decide) (hts (.fieldLink RX4 23 "HarmoniumDeskModel" "notes" "[I") (by decide +kernel)) rfl rfl dX4_begin_66 ?_
              refine lv_aload_n hx hb dX4_begin_69 rfl (lv_at hl 1 rfl) ?_
              refine z_get (C := RX4) (T := TX4) (N := 14) hx hb hts hiX4 hown hK (hP 0 _ rfl) rfl 0 (by decide) (hts (.fieldLink RX4 48 "HarmoniumDeskModel" "versions" "I") (by decide +kernel)) rfl rfl dX4_begin_70 ?_
              refine z_top (b := σ 0 0) rfl ?_
              refine z_iconst hx hb dX4_begin_73 ?_
              refine lv_iload_n hx hb dX4_begin_74 rfl (lv_at hl 0 rfl) ?_
              refine ro_S (rest := [.ref (ad 5)]) (As := [.int (zi (σ 0 0)), .int (zi (0)), .int (zi ((j : Int)))]) ⟨hx, hb, hml, hown, hts⟩ (c_X4_at l g (σ 0 0) (0) ((j : Int))) (cwS 3 hts gX4_begin_X4_at rfl rfl rfl (by decide +kernel) ⟨Nat.le_of_ble_eq_true rfl, Nat.le_of_ble_eq_true rfl⟩) trivial hK rfl hl.1 rfl (Nat.le_of_ble_eq_true rfl) dX4_begin_75 ⟨Nat.zero_le _, Nat.zero_le _⟩ ?_
              refine z_bipush hx hb dX4_begin_78 (by decide) ?_
              refine z_mast (x := 20) hx hb hd hK hP hS 5 5 720 rfl (24 * N + j) (msa5 _ _ _ _ _ _) (by omega) (by omega) (by decide) dX4_begin_80 (fun H locs hP hS => ?_)
              refine z_iinc (b := ((j + 1 : Nat) : Int)) (lv' := [(2, .int (zi (((j + 1 : Nat) : Int)))), (0, .ref (ad 0)), (1, .int (zi (b)))]) hx hb dX4_begin_81 hl (k := 0) rfl (by omega) (by decide) rfl (fun ls hl => ?_)
              refine lv_goto (tgt := 59) hx hb dX4_begin_84 (by decide) ?_
              rw [sfl_s (sup (sup σ 1 N b) 2 N (-1)) 5 (24 * N) j (24 * N + j) (fun _ => 20) 20 rfl rfl] at hP
              exact ih (j + 1) (by omega) (by omega) H locs hP hS ls (lv_sub hl [0, 1, 2] rfl)
        rw [← sfl_0 (sup (sup σ 1 N b) 2 N (-1)) 5 (24 * N) (fun _ => 20)] at hP
        exact loop59 _ 0 (by omega) rfl _ _ hP hS ls (lv_sub hl [0, 1, 2] rfl)
      · exfalso; omega
    · exfalso; omega
  · exfalso; omega

set_option maxHeartbeats 4000000 in
set_option maxRecDepth 100000 in
theorem c_X4_makes (l : Launch) (g : gG) (ad : Nat → Nat) (σ : SG) (th : Int) (hW : WF σ) (hd : Dst ad) (sz : Nat) (k : Nat) (hk : (k : Int) < σ 0 0) (zk : Int) (hzk : zk = (k : Int)) (N : Nat) (hN : σ 0 0 = (N : Int)) (hnf : N < 30) : MI l yX4_makes wsX4_makes ({ frames := 1, cells := 0, slots := 0, locals := 22 }) g ad [.int (zi (zk))] sz σ th (opK σ N k) (th) ((N : Int)) := by
  refine ZM.ofW (cc := cX4_makes) (maxL := 3) (ret := (some .int)) (by decide) rfl (Nat.le_of_ble_eq_true rfl) ?_
  intro p e s m below meth c ls hx hb hr hml hown hts hlk hP hK hl _
  obtain ⟨rfl, hP, -⟩ := hP
  have hS : va_S (va_A (MWs g ad σ th) s.heap.size) s.heap s.heap [] := va_S.rf
  have hown : s.vm.findClass RX4 = some m.cls := hown
  have hl : lv_has ls 3 [(0, .ref (ad 0)), (1, .int (zi (zk)))] := hl
  have hiX4 : ∀ w ∈ u_ws RX4 TX4 14, w ∈ wsX4_makes := by decide +kernel
  have hn := hW.n
  refine lv_aload_n hx hb dX4_makes_0 rfl (lv_at hl 0 rfl) ?_
  refine z_get (C := RX4) (T := TX4) (N := 14) hx hb hts hiX4 hown hK (hP 0 _ rfl) rfl 1 (by decide) (hts (.fieldLink RX4 7 "HarmoniumDeskModel" "bars" "[I") (by decide +kernel)) rfl rfl dX4_makes_1 ?_
  refine lv_aload_n hx hb dX4_makes_4 rfl (lv_at hl 0 rfl) ?_
  refine z_get (C := RX4) (T := TX4) (N := 14) hx hb hts hiX4 hown hK (hP 0 _ rfl) rfl 0 (by decide) (hts (.fieldLink RX4 48 "HarmoniumDeskModel" "versions" "I") (by decide +kernel)) rfl rfl dX4_makes_5 ?_
  refine lv_aload_n hx hb dX4_makes_8 rfl (lv_at hl 0 rfl) ?_
  refine z_get (C := RX4) (T := TX4) (N := 14) hx hb hts hiX4 hown hK (hP 0 _ rfl) rfl 1 (by decide) (hts (.fieldLink RX4 7 "HarmoniumDeskModel" "bars" "[I") (by decide +kernel)) rfl rfl dX4_makes_9 ?_
  refine lv_iload_n hx hb dX4_makes_12 rfl (lv_at hl 1 rfl) ?_
  refine z_iald hx hb hK (hP 1 _ rfl) (k) (by omega) (by omega) (by decide) dX4_makes_13 ?_
  refine z_mast (x := σ 1 (k)) hx hb hd hK hP hS 1 1 30 rfl (N) (msa1 _ _ _ _ _ _) (by omega) (by omega) (by decide) dX4_makes_14 (fun H locs hP hS => ?_)
  refine lv_aload_n hx hb dX4_makes_15 rfl (lv_at hl 0 rfl) ?_
  refine z_get (C := RX4) (T := TX4) (N := 14) hx hb hts hiX4 hown hK (hP 0 _ rfl) rfl 2 (by decide) (hts (.fieldLink RX4 13 "HarmoniumDeskModel" "parent" "[I") (by decide +kernel)) rfl rfl dX4_makes_16 ?_
  refine lv_aload_n hx hb dX4_makes_19 rfl (lv_at hl 0 rfl) ?_
  refine z_get (C := RX4) (T := TX4) (N := 14) hx hb hts hiX4 hown hK (hP 0 _ rfl) rfl 0 (by decide) (hts (.fieldLink RX4 48 "HarmoniumDeskModel" "versions" "I") (by decide +kernel)) rfl rfl dX4_makes_20 ?_
  refine z_top (b := σ 0 0) rfl ?_
  refine lv_iload_n hx hb dX4_makes_23 rfl (lv_at hl 1 rfl) ?_
  refine z_top (b := (k : Int)) (hzk) ?_
  refine z_mast (x := (k : Int)) hx hb hd hK hP hS 2 2 30 rfl (N) (msa2 _ _ _ _ _ _) (by omega) (by omega) (by decide) dX4_makes_24 (fun H locs hP hS => ?_)
  refine z_iconst hx hb dX4_makes_25 ?_
  refine lv_istore_n (lv' := [(2, .int (zi (0))), (0, .ref (ad 0)), (1, .int (zi (zk)))]) hx hb dX4_makes_26 rfl hl (by decide) rfl (fun ls hl => ?_)
  have loop27 : ∀ (d j : Nat), j ≤ 24 → 24 - j = d → ∀ (H : Heap) (locs : List Loc), va_P g.1 vwCl (MWs g ad (sfl (sup (sup σ 1 N (σ 1 k)) 2 N (k : Int)) 5 (24 * N) j (fun i => σ 5 (i - 24 * N + 24 * k))) (th)) H → va_S (va_A (MWs g ad σ th) s.heap.size) s.heap H locs → ∀ ls : Array Slot, lv_has ls 3 [(2, .int (zi ((j : Int)))), (0, .ref (ad 0)), (1, .int (zi (zk)))] → W p l e ({ frames := 1, cells := 0, slots := 0, locals := 22 }) s m ([.ref (ad 0), .int (zi (zk))] : List Value).toArray below meth c H locs 0 0 (MQ below (va_Qi (fun z9 (_ : Unit) => z9 = zi ((N : Int))) (fun _ t9 => va_P g.1 vwCl (MWs g ad (opK σ N k) (th)) t9.heap) (va_A (MWs g ad σ th) s.heap.size)) ([.ref (ad 0), .int (zi (zk))] : List Value).toArray s 0 0 (va_A (MWs g ad σ th) s.heap.size)) (F0 m 27 ls []) := by
    intro d
    induction d with
    | zero =>
      intro j hj hd2 H locs hP hS ls hl
      have e24 : j = 24 := by omega
      subst e24
      refine lv_iload_n hx hb dX4_makes_27 rfl (lv_at hl 0 rfl) ?_
      refine z_bipush hx hb dX4_makes_28 (by decide) ?_
      refine z_icmp_ge (tgt := 64) hx hb dX4_makes_30 (by decide) (by omega) (by omega) (fun h30 => ?_) (fun h30 => ?_)
      ·
        refine lv_aload_n hx hb dX4_makes_64 rfl (lv_at hl 1 rfl) ?_
        refine z_get (C := RX4) (T := TX4) (N := 14) hx hb hts hiX4 hown hK (hP 0 _ rfl) rfl 3 (by decide) (hts (.fieldLink RX4 16 "HarmoniumDeskModel" "isFixed" "[Z") (by decide +kernel)) rfl rfl dX4_makes_65 ?_
        refine lv_iload_n hx hb dX4_makes_68 rfl (lv_at hl 2 rfl) ?_
        refine z_iconst hx hb dX4_makes_69 ?_
        refine z_mzast (x := 1) hx hb hd hK hP hS 3 3 30 rfl (k) (msa3 _ _ _ _ _ _) (by omega) (by omega) (by decide) (Or.inr rfl) dX4_makes_70 (fun H locs hP hS => ?_)
        refine lv_aload_n hx hb dX4_makes_71 rfl (lv_at hl 1 rfl) ?_
        refine lv_dup hx hb dX4_makes_72 rfl ?_
        refine z_get (C := RX4) (T := TX4) (N := 14) hx hb hts hiX4 hown hK (hP 0 _ rfl) rfl 0 (by decide) (hts (.fieldLink RX4 48 "HarmoniumDeskModel" "versions" "I") (by decide +kernel)) rfl rfl dX4_makes_73 ?_
        refine z_top (b := σ 0 0) rfl ?_
        refine z_iconst hx hb dX4_makes_76 ?_
        refine z_iadd hx hb dX4_makes_77 ?_
        refine z_top (b := ((N + 1 : Nat) : Int)) (by omega) ?_
        refine z_mput hx hb hd hts hiX4 hown hK hP hS 0 (by decide) (hts (.fieldLink RX4 48 "HarmoniumDeskModel" "versions" "I") (by decide +kernel)) rfl rfl rfl (ms0 _ _ _ _ _) dX4_makes_78 (fun H locs hP hS => ?_)
        refine lv_aload_n hx hb dX4_makes_81 rfl (lv_at hl 1 rfl) ?_
        refine z_get (C := RX4) (T := TX4) (N := 14) hx hb hts hiX4 hown hK (hP 0 _ rfl) rfl 0 (by decide) (hts (.fieldLink RX4 48 "HarmoniumDeskModel" "versions" "I") (by decide +kernel)) rfl rfl dX4_makes_82 ?_
        refine z_top (b := ((N + 1 : Nat) : Int)) (rfl) ?_
        refine z_iconst hx hb dX4_makes_85 ?_
        refine z_isub hx hb dX4_makes_86 ?_
        exact z_wiret hx hb hr hlk dX4_makes_87 (by omega) hP hS
      · exfalso; omega
    | succ d ih =>
      intro j hj hd2 H locs hP hS ls hl
      refine lv_iload_n hx hb dX4_makes_27 rfl (lv_at hl 0 rfl) ?_
      refine z_bipush hx hb dX4_makes_28 (by decide) ?_
      refine z_icmp_ge (tgt := 64) hx hb dX4_makes_30 (by decide) (by omega) (by omega) (fun h30 => ?_) (fun h30 => ?_)
      · exfalso; omega
      ·
        refine lv_aload_n hx hb dX4_makes_33 rfl (lv_at hl 1 rfl) ?_
        refine z_get (C := RX4) (T := TX4) (N := 14) hx hb hts hiX4 hown hK (hP 0 _ rfl) rfl 5 (by decide) (hts (.fieldLink RX4 23 "HarmoniumDeskModel" "notes" "[I") (by decide +kernel)) rfl rfl dX4_makes_34 ?_
        refine lv_aload_n hx hb dX4_makes_37 rfl (lv_at hl 1 rfl) ?_
        refine z_get (C := RX4) (T := TX4) (N := 14) hx hb hts hiX4 hown hK (hP 0 _ rfl) rfl 0 (by decide) (hts (.fieldLink RX4 48 "HarmoniumDeskModel" "versions" "I") (by decide +kernel)) rfl rfl dX4_makes_38 ?_
        refine z_top (b := σ 0 0) rfl ?_
        refine z_iconst hx hb dX4_makes_41 ?_
        refine lv_iload_n hx hb dX4_makes_42 rfl (lv_at hl 0 rfl) ?_
        refine ro_S (rest := [.ref (ad 5)]) (As := [.int (zi (σ 0 0)), .int (zi (0)), .int (zi ((j : Int)))]) ⟨hx, hb, hml, hown, hts⟩ (c_X4_at l g (σ 0 0) (0) ((j : Int))) (cwS 3 hts gX4_makes_X4_at rfl rfl rfl (by decide +kernel) ⟨Nat.le_of_ble_eq_true rfl, Nat.le_of_ble_eq_true rfl⟩) trivial hK rfl hl.1 rfl (Nat.le_of_ble_eq_true rfl) dX4_makes_43 ⟨Nat.zero_le _, Nat.zero_le _⟩ ?_
        refine lv_aload_n hx hb dX4_makes_46 rfl (lv_at hl 1 rfl) ?_
        refine z_get (C := RX4) (T := TX4) (N := 14) hx hb hts hiX4 hown hK (hP 0 _ rfl) rfl 5 (by decide) (hts (.fieldLink RX4 23 "HarmoniumDeskModel" "notes" "[I") (by decide +kernel)) rfl rfl dX4_makes_47 ?_
        refine lv_iload_n hx hb dX4_makes_50 rfl (lv_at hl 2 rfl) ?_
        refine z_iconst hx hb dX4_makes_51 ?_
        refine lv_iload_n hx hb dX4_makes_52 rfl (lv_at hl 0 rfl) ?_
        refine ro_S (rest := [.ref (ad 5), .int (zi (12 * (2 * (σ 0 0) + (0)) + ((j : Int)))), .ref (ad 5)]) (As := [.int (zi (zk)), .int (zi (0)), .int (zi ((j : Int)))]) ⟨hx, hb, hml, hown, hts⟩ (c_X4_at l g (zk) (0) ((j : Int))) (cwS 3 hts gX4_makes_X4_at rfl rfl rfl (by decide +kernel) ⟨Nat.le_of_ble_eq_true rfl, Nat.le_of_ble_eq_true rfl⟩) trivial hK rfl hl.1 rfl (Nat.le_of_ble_eq_true rfl) dX4_makes_53 ⟨Nat.zero_le _, Nat.zero_le _⟩ ?_
        refine z_iald hx hb hK (hP 5 _ rfl) (24 * k + j) (by omega) (by omega) (by decide) dX4_makes_56 ?_
        refine z_top (b := σ 5 (24 * k + j)) (by rw [sfl_out _ _ _ _ _ (by omega)]; rfl) ?_
        refine z_mast (x := σ 5 (24 * k + j)) hx hb hd hK hP hS 5 5 720 rfl (24 * N + j) (msa5 _ _ _ _ _ _) (by omega) (by omega) (by decide) dX4_makes_57 (fun H locs hP hS => ?_)
        refine z_iinc (b := ((j + 1 : Nat) : Int)) (lv' := [(2, .int (zi (((j + 1 : Nat) : Int)))), (0, .ref (ad 0)), (1, .int (zi (zk)))]) hx hb dX4_makes_58 hl (k := 0) rfl (by omega) (by decide) rfl (fun ls hl => ?_)
        refine lv_goto (tgt := 27) hx hb dX4_makes_61 (by decide) ?_
        rw [sfl_s (sup (sup σ 1 N (σ 1 k)) 2 N (k : Int)) 5 (24 * N) j (24 * N + j) (fun i => σ 5 (i - 24 * N + 24 * k)) (σ 5 (24 * k + j)) rfl (by show _ = σ 5 _; congr 1; omega)] at hP
        exact ih (j + 1) (by omega) (by omega) H locs hP hS ls (lv_sub hl [0, 1, 2] rfl)
  rw [← sfl_0 (sup (sup σ 1 N (σ 1 k)) 2 N (k : Int)) 5 (24 * N) (fun i => σ 5 (i - 24 * N + 24 * k))] at hP
  exact loop27 _ 0 (by omega) rfl _ _ hP hS ls (lv_sub hl [0, 1, 2] rfl)

set_option maxHeartbeats 4000000 in
set_option maxRecDepth 100000 in
theorem c_X4_branch_1 (l : Launch) (g : gG) (ad : Nat → Nat) (σ : SG) (th : Int) (hW : WF σ) (hd : Dst ad) (sz : Nat) (z : Int) (hz : zr z) (hbad : ¬ IsV σ z) : MI l yX4_branch wsX4_branch ({ frames := 2, cells := 0, slots := 0, locals := 43 }) g ad [.int (zi (z))] sz σ th (σ) (1) (0) := by
  refine ZM.ofW (cc := cX4_branch) (maxL := 2) (ret := (some .int)) (by decide) rfl (Nat.le_of_ble_eq_true rfl) ?_
  intro p e s m below meth c ls hx hb hr hml hown hts hlk hP hK hl _
  obtain ⟨rfl, hP, -⟩ := hP
  have hS : va_S (va_A (MWs g ad σ th) s.heap.size) s.heap s.heap [] := va_S.rf
  have hown : s.vm.findClass RX4 = some m.cls := hown
  have hl : lv_has ls 2 [(0, .ref (ad 0)), (1, .int (zi (z)))] := hl
  have hn := hW.n
  refine lv_aload_n hx hb dX4_branch_0 rfl (lv_at hl 0 rfl) ?_
  refine lv_aload_n hx hb dX4_branch_1 rfl (lv_at hl 0 rfl) ?_
  refine lv_iload_n hx hb dX4_branch_2 rfl (lv_at hl 1 rfl) ?_
  refine ro_V (rest := [.ref (ad 0)]) (As := [.int (zi (z))]) ⟨hx, hb, hml, hown, hts⟩ (c_X4_isVersion l g ad σ (th) hW (z) (by omega)) (cwV 1 hts gX4_branch_X4_isVersion rfl rfl rfl (by decide +kernel) ⟨Nat.le_of_ble_eq_true rfl, Nat.le_of_ble_eq_true rfl⟩) (z_recv hK (hP 0 _ rfl) rfl) hP hK rfl hl.1 rfl (Nat.le_of_ble_eq_true rfl) dX4_branch_3 ⟨Nat.zero_le _, Nat.zero_le _⟩ ?_
  refine z_ifp_ne (P := IsV σ (z)) (tgt := 13) hx hb dX4_branch_6 (by decide)  (fun h6 => ?_) (fun h6 => ?_)
  · exfalso; omega
  ·
    refine z_iconst hx hb dX4_branch_9 ?_
    refine lv_goto (tgt := 27) hx hb dX4_branch_10 (by decide) ?_
    refine wi_V (rest := []) (As := [.int (zi (1))]) ⟨hx, hb, hml, hown, hts⟩ (c_X4_fails l g ad σ (th) hW hd _ (1) (by omega)) (cwV 1 hts gX4_branch_X4_fails rfl rfl rfl (by decide +kernel) ⟨Nat.le_of_ble_eq_true rfl, Nat.le_of_ble_eq_true rfl⟩) (z_recv hK (hP 0 _ rfl) rfl) hP trivial hK rfl hl.1 rfl (Nat.le_of_ble_eq_true rfl) dX4_branch_27 ⟨Nat.zero_le _, Nat.zero_le _⟩ hS (MW_fr hS.1) (fun H locs hP _ _ hS => ?_)
    refine z_ifp_eq (P := 0 < (1)) (tgt := 35) hx hb dX4_branch_30 (by decide)  (fun h30 => ?_) (fun h30 => ?_)
    · exfalso; omega
    ·
      refine z_iconst hx hb dX4_branch_33 ?_
      exact z_wiret hx hb hr hlk dX4_branch_34 (by omega) hP hS

set_option maxHeartbeats 4000000 in
set_option maxRecDepth 100000 in
theorem c_X4_branch_2 (l : Launch) (g : gG) (ad : Nat → Nat) (σ : SG) (th : Int) (hW : WF σ) (hd : Dst ad) (sz : Nat) (z : Int) (hz : zr z) (hgood : IsV σ z) (hfull : σ 0 0 = 30) : MI l yX4_branch wsX4_branch ({ frames := 2, cells := 0, slots := 0, locals := 43 }) g ad [.int (zi (z))] sz σ th (σ) (2) (0) := by
  refine ZM.ofW (cc := cX4_branch) (maxL := 2) (ret := (some .int)) (by decide) rfl (Nat.le_of_ble_eq_true rfl) ?_
  intro p e s m below meth c ls hx hb hr hml hown hts hlk hP hK hl _
  obtain ⟨rfl, hP, -⟩ := hP
  have hS : va_S (va_A (MWs g ad σ th) s.heap.size) s.heap s.heap [] := va_S.rf
  have hown : s.vm.findClass RX4 = some m.cls := hown
  have hl : lv_has ls 2 [(0, .ref (ad 0)), (1, .int (zi (z)))] := hl
  have hiX4 : ∀ w ∈ u_ws RX4 TX4 14, w ∈ wsX4_branch := by decide +kernel
  have hn := hW.n
  refine lv_aload_n hx hb dX4_branch_0 rfl (lv_at hl 0 rfl) ?_
  refine lv_aload_n hx hb dX4_branch_1 rfl (lv_at hl 0 rfl) ?_
  refine lv_iload_n hx hb dX4_branch_2 rfl (lv_at hl 1 rfl) ?_
  refine ro_V (rest := [.ref (ad 0)]) (As := [.int (zi (z))]) ⟨hx, hb, hml, hown, hts⟩ (c_X4_isVersion l g ad σ (th) hW (z) (by omega)) (cwV 1 hts gX4_branch_X4_isVersion rfl rfl rfl (by decide +kernel) ⟨Nat.le_of_ble_eq_true rfl, Nat.le_of_ble_eq_true rfl⟩) (z_recv hK (hP 0 _ rfl) rfl) hP hK rfl hl.1 rfl (Nat.le_of_ble_eq_true rfl) dX4_branch_3 ⟨Nat.zero_le _, Nat.zero_le _⟩ ?_
  refine z_ifp_ne (P := IsV σ (z)) (tgt := 13) hx hb dX4_branch_6 (by decide)  (fun h6 => ?_) (fun h6 => ?_)
  ·
    refine lv_aload_n hx hb dX4_branch_13 rfl (lv_at hl 0 rfl) ?_
    refine z_get (C := RX4) (T := TX4) (N := 14) hx hb hts hiX4 hown hK (hP 0 _ rfl) rfl 0 (by decide) (hts (.fieldLink RX4 48 "HarmoniumDeskModel" "versions" "I") (by decide +kernel)) rfl rfl dX4_branch_14 ?_
    refine z_bipush hx hb dX4_branch_17 (by decide) ?_
    refine z_icmp_ne (tgt := 26) hx hb dX4_branch_19 (by decide) (by omega) (by omega) (fun h19 => ?_) (fun h19 => ?_)
    · exfalso; omega
    ·
      refine z_iconst hx hb dX4_branch_22 ?_
      refine lv_goto (tgt := 27) hx hb dX4_branch_23 (by decide) ?_
      refine wi_V (rest := []) (As := [.int (zi (2))]) ⟨hx, hb, hml, hown, hts⟩ (c_X4_fails l g ad σ (th) hW hd _ (2) (by omega)) (cwV 1 hts gX4_branch_X4_fails rfl rfl rfl (by decide +kernel) ⟨Nat.le_of_ble_eq_true rfl, Nat.le_of_ble_eq_true rfl⟩) (z_recv hK (hP 0 _ rfl) rfl) hP trivial hK rfl hl.1 rfl (Nat.le_of_ble_eq_true rfl) dX4_branch_27 ⟨Nat.zero_le _, Nat.zero_le _⟩ hS (MW_fr hS.1) (fun H locs hP _ _ hS => ?_)
      refine z_ifp_eq (P := 0 < (2)) (tgt := 35) hx hb dX4_branch_30 (by decide)  (fun h30 => ?_) (fun h30 => ?_)
      · exfalso; omega
      ·
        refine z_iconst hx hb dX4_branch_33 ?_
        exact z_wiret hx hb hr hlk dX4_branch_34 (by omega) hP hS
  · exfalso; omega

set_option maxHeartbeats 4000000 in
set_option maxRecDepth 100000 in
theorem c_X4_branch_0 (l : Launch) (g : gG) (ad : Nat → Nat) (σ : SG) (th : Int) (hW : WF σ) (hd : Dst ad) (sz : Nat) (k : Nat) (hk : (k : Int) < σ 0 0) (zk : Int) (hzk : zk = (k : Int)) (N : Nat) (hN : σ 0 0 = (N : Int)) (hnf : N < 30) : MI l yX4_branch wsX4_branch ({ frames := 2, cells := 0, slots := 0, locals := 44 }) g ad [.int (zi (zk))] sz σ th (opK σ N k) (0) ((N : Int)) := by
  refine ZM.ofW (cc := cX4_branch) (maxL := 2) (ret := (some .int)) (by decide) rfl (Nat.le_of_ble_eq_true rfl) ?_
  intro p e s m below meth c ls hx hb hr hml hown hts hlk hP hK hl _
  obtain ⟨rfl, hP, -⟩ := hP
  have hS : va_S (va_A (MWs g ad σ th) s.heap.size) s.heap s.heap [] := va_S.rf
  have hown : s.vm.findClass RX4 = some m.cls := hown
  have hl : lv_has ls 2 [(0, .ref (ad 0)), (1, .int (zi (zk)))] := hl
  have hiX4 : ∀ w ∈ u_ws RX4 TX4 14, w ∈ wsX4_branch := by decide +kernel
  have hn := hW.n
  refine lv_aload_n hx hb dX4_branch_0 rfl (lv_at hl 0 rfl) ?_
  refine lv_aload_n hx hb dX4_branch_1 rfl (lv_at hl 0 rfl) ?_
  refine lv_iload_n hx hb dX4_branch_2 rfl (lv_at hl 1 rfl) ?_
  refine ro_V (rest := [.ref (ad 0)]) (As := [.int (zi (zk))]) ⟨hx, hb, hml, hown, hts⟩ (c_X4_isVersion l g ad σ (th) hW (zk) (by omega)) (cwV 1 hts gX4_branch_X4_isVersion rfl rfl rfl (by decide +kernel) ⟨Nat.le_of_ble_eq_true rfl, Nat.le_of_ble_eq_true rfl⟩) (z_recv hK (hP 0 _ rfl) rfl) hP hK rfl hl.1 rfl (Nat.le_of_ble_eq_true rfl) dX4_branch_3 ⟨Nat.zero_le _, Nat.zero_le _⟩ ?_
  refine z_ifp_ne (P := IsV σ (zk)) (tgt := 13) hx hb dX4_branch_6 (by decide)  (fun h6 => ?_) (fun h6 => ?_)
  ·
    refine lv_aload_n hx hb dX4_branch_13 rfl (lv_at hl 0 rfl) ?_
    refine z_get (C := RX4) (T := TX4) (N := 14) hx hb hts hiX4 hown hK (hP 0 _ rfl) rfl 0 (by decide) (hts (.fieldLink RX4 48 "HarmoniumDeskModel" "versions" "I") (by decide +kernel)) rfl rfl dX4_branch_14 ?_
    refine z_bipush hx hb dX4_branch_17 (by decide) ?_
    refine z_icmp_ne (tgt := 26) hx hb dX4_branch_19 (by decide) (by omega) (by omega) (fun h19 => ?_) (fun h19 => ?_)
    ·
      refine z_iconst hx hb dX4_branch_26 ?_
      refine wi_V (rest := []) (As := [.int (zi (0))]) ⟨hx, hb, hml, hown, hts⟩ (c_X4_fails l g ad σ (th) hW hd _ (0) (by omega)) (cwV 1 hts gX4_branch_X4_fails rfl rfl rfl (by decide +kernel) ⟨Nat.le_of_ble_eq_true rfl, Nat.le_of_ble_eq_true rfl⟩) (z_recv hK (hP 0 _ rfl) rfl) hP trivial hK rfl hl.1 rfl (Nat.le_of_ble_eq_true rfl) dX4_branch_27 ⟨Nat.zero_le _, Nat.zero_le _⟩ hS (MW_fr hS.1) (fun H locs hP _ _ hS => ?_)
      refine z_ifp_eq (P := 0 < (0)) (tgt := 35) hx hb dX4_branch_30 (by decide)  (fun h30 => ?_) (fun h30 => ?_)
      ·
        refine lv_aload_n hx hb dX4_branch_35 rfl (lv_at hl 0 rfl) ?_
        refine lv_iload_n hx hb dX4_branch_36 rfl (lv_at hl 1 rfl) ?_
        refine wi_V (rest := []) (As := [.int (zi (zk))]) ⟨hx, hb, hml, hown, hts⟩ (c_X4_makes l g ad σ (0) hW hd _ k hk (zk) (by omega) N hN hnf) (cwV 1 hts gX4_branch_X4_makes rfl rfl rfl (by decide +kernel) ⟨Nat.le_of_ble_eq_true rfl, Nat.le_of_ble_eq_true rfl⟩) (z_recv hK (hP 0 _ rfl) rfl) hP trivial hK rfl hl.1 rfl (Nat.le_of_ble_eq_true rfl) dX4_branch_37 ⟨Nat.zero_le _, Nat.zero_le _⟩ hS (MW_fr hS.1) (fun H locs hP _ _ hS => ?_)
        exact z_wiret hx hb hr hlk dX4_branch_40 (by omega) hP hS
      · exfalso; omega
    · exfalso; omega
  · exfalso; omega

set_option maxHeartbeats 4000000 in
set_option maxRecDepth 100000 in
theorem c_X4_setNote_1 (l : Launch) (g : gG) (ad : Nat → Nat) (σ : SG) (th : Int) (hW : WF σ) (hd : Dst ad) (sz : Nat) (z v b t : Int) (hz : zr z) (hv : zr v) (hb9 : zr b) (ht : zr t) (hbad : ¬ IsN σ z v b) : MI l yX4_setNote wsX4_setNote ({ frames := 3, cells := 0, slots := 0, locals := 66 }) g ad [.int (zi (z)), .int (zi (v)), .int (zi (b)), .int (zi (t))] sz σ th (σ) (1) (0) := by
  refine ZM.ofW (cc := cX4_setNote) (maxL := 7) (ret := (some .int)) (by decide) rfl (Nat.le_of_ble_eq_true rfl) ?_
  intro p e s m below meth c ls hx hb hr hml hown hts hlk hP hK hl _
  obtain ⟨rfl, hP, -⟩ := hP
  have hS : va_S (va_A (MWs g ad σ th) s.heap.size) s.heap s.heap [] := va_S.rf
  have hown : s.vm.findClass RX4 = some m.cls := hown
  have hl : lv_has ls 7 [(0, .ref (ad 0)), (1, .int (zi (z))), (2, .int (zi (v))), (3, .int (zi (b))), (4, .int (zi (t)))] := hl
  have hn := hW.n
  refine lv_aload_n hx hb dX4_setNote_0 rfl (lv_at hl 0 rfl) ?_
  refine lv_iload_n hx hb dX4_setNote_1 rfl (lv_at hl 1 rfl) ?_
  refine lv_iload_n hx hb dX4_setNote_2 rfl (lv_at hl 2 rfl) ?_
  refine lv_iload_n hx hb dX4_setNote_3 rfl (lv_at hl 3 rfl) ?_
  refine ro_V (rest := []) (As := [.int (zi (z)), .int (zi (v)), .int (zi (b))]) ⟨hx, hb, hml, hown, hts⟩ (c_X4_isNote l g ad σ (th) hW (z) (v) (b) (by omega) (by omega) (by omega)) (cwV 3 hts gX4_setNote_X4_isNote rfl rfl rfl (by decide +kernel) ⟨Nat.le_of_ble_eq_true rfl, Nat.le_of_ble_eq_true rfl⟩) (z_recv hK (hP 0 _ rfl) rfl) hP hK rfl hl.1 rfl (Nat.le_of_ble_eq_true rfl) dX4_setNote_4 ⟨Nat.zero_le _, Nat.zero_le _⟩ ?_
  refine lv_istore (lv' := [(5, .int (zi (pz (IsN σ (z) (v) (b))))), (0, .ref (ad 0)), (1, .int (zi (z))), (2, .int (zi (v))), (3, .int (zi (b))), (4, .int (zi (t)))]) hx hb dX4_setNote_7 hl (by decide) rfl (fun ls hl => ?_)
  refine lv_aload_n hx hb dX4_setNote_9 rfl (lv_at hl 1 rfl) ?_
  refine lv_iload hx hb dX4_setNote_10 (lv_at hl 0 rfl) ?_
  refine z_ifp_ne (P := IsN σ (z) (v) (b)) (tgt := 19) hx hb dX4_setNote_12 (by decide)  (fun h12 => ?_) (fun h12 => ?_)
  · exfalso; omega
  ·
    refine z_iconst hx hb dX4_setNote_15 ?_
    refine lv_goto (tgt := 48) hx hb dX4_setNote_16 (by decide) ?_
    refine wi_V (rest := []) (As := [.int (zi (1))]) ⟨hx, hb, hml, hown, hts⟩ (c_X4_fails l g ad σ (th) hW hd _ (1) (by omega)) (cwV 1 hts gX4_setNote_X4_fails rfl rfl rfl (by decide +kernel) ⟨Nat.le_of_ble_eq_true rfl, Nat.le_of_ble_eq_true rfl⟩) (z_recv hK (hP 0 _ rfl) rfl) hP trivial hK rfl hl.1 rfl (Nat.le_of_ble_eq_true rfl) dX4_setNote_48 ⟨Nat.zero_le _, Nat.zero_le _⟩ hS (MW_fr hS.1) (fun H locs hP _ _ hS => ?_)
    refine z_ifp_eq (P := 0 < (1)) (tgt := 56) hx hb dX4_setNote_51 (by decide)  (fun h51 => ?_) (fun h51 => ?_)
    · exfalso; omega
    ·
      refine z_iconst hx hb dX4_setNote_54 ?_
      exact z_wiret hx hb hr hlk dX4_setNote_55 (by omega) hP hS

set_option maxHeartbeats 4000000 in
set_option maxRecDepth 100000 in
theorem c_X4_setNote_2 (l : Launch) (g : gG) (ad : Nat → Nat) (σ : SG) (th : Int) (hW : WF σ) (hd : Dst ad) (sz : Nat) (z v b t : Int) (hz : zr z) (hv : zr v) (hb9 : zr b) (ht : zr t) (hgood : IsN σ z v b) (hbad : ¬ (0 ≤ t ∧ t ≤ 40)) : MI l yX4_setNote wsX4_setNote ({ frames := 3, cells := 0, slots := 0, locals := 66 }) g ad [.int (zi (z)), .int (zi (v)), .int (zi (b)), .int (zi (t))] sz σ th (σ) (2) (0) := by
  refine ZM.ofW (cc := cX4_setNote) (maxL := 7) (ret := (some .int)) (by decide) rfl (Nat.le_of_ble_eq_true rfl) ?_
  intro p e s m below meth c ls hx hb hr hml hown hts hlk hP hK hl _
  obtain ⟨rfl, hP, -⟩ := hP
  have hS : va_S (va_A (MWs g ad σ th) s.heap.size) s.heap s.heap [] := va_S.rf
  have hown : s.vm.findClass RX4 = some m.cls := hown
  have hl : lv_has ls 7 [(0, .ref (ad 0)), (1, .int (zi (z))), (2, .int (zi (v))), (3, .int (zi (b))), (4, .int (zi (t)))] := hl
  have hn := hW.n
  refine lv_aload_n hx hb dX4_setNote_0 rfl (lv_at hl 0 rfl) ?_
  refine lv_iload_n hx hb dX4_setNote_1 rfl (lv_at hl 1 rfl) ?_
  refine lv_iload_n hx hb dX4_setNote_2 rfl (lv_at hl 2 rfl) ?_
  refine lv_iload_n hx hb dX4_setNote_3 rfl (lv_at hl 3 rfl) ?_
  refine ro_V (rest := []) (As := [.int (zi (z)), .int (zi (v)), .int (zi (b))]) ⟨hx, hb, hml, hown, hts⟩ (c_X4_isNote l g ad σ (th) hW (z) (v) (b) (by omega) (by omega) (by omega)) (cwV 3 hts gX4_setNote_X4_isNote rfl rfl rfl (by decide +kernel) ⟨Nat.le_of_ble_eq_true rfl, Nat.le_of_ble_eq_true rfl⟩) (z_recv hK (hP 0 _ rfl) rfl) hP hK rfl hl.1 rfl (Nat.le_of_ble_eq_true rfl) dX4_setNote_4 ⟨Nat.zero_le _, Nat.zero_le _⟩ ?_
  refine lv_istore (lv' := [(5, .int (zi (pz (IsN σ (z) (v) (b))))), (0, .ref (ad 0)), (1, .int (zi (z))), (2, .int (zi (v))), (3, .int (zi (b))), (4, .int (zi (t)))]) hx hb dX4_setNote_7 hl (by decide) rfl (fun ls hl => ?_)
  refine lv_aload_n hx hb dX4_setNote_9 rfl (lv_at hl 1 rfl) ?_
  refine lv_iload hx hb dX4_setNote_10 (lv_at hl 0 rfl) ?_
  refine z_ifp_ne (P := IsN σ (z) (v) (b)) (tgt := 19) hx hb dX4_setNote_12 (by decide)  (fun h12 => ?_) (fun h12 => ?_)
  ·
    refine lv_iload hx hb dX4_setNote_19 (lv_at hl 5 rfl) ?_
    refine z_iconst hx hb dX4_setNote_21 ?_
    refine z_bipush hx hb dX4_setNote_22 (by decide) ?_
    refine ro_S (rest := [.ref (ad 0)]) (As := [.int (zi (t)), .int (zi (0)), .int (zi (40))]) ⟨hx, hb, hml, hown, hts⟩ (c_X4_isIn l g (t) (0) (40) (by omega) (by omega) (by omega)) (cwS 3 hts gX4_setNote_X4_isIn rfl rfl rfl (by decide +kernel) ⟨Nat.le_of_ble_eq_true rfl, Nat.le_of_ble_eq_true rfl⟩) trivial hK rfl hl.1 rfl (Nat.le_of_ble_eq_true rfl) dX4_setNote_24 ⟨Nat.zero_le _, Nat.zero_le _⟩ ?_
    refine z_ifp_ne (P := (0) ≤ (t) ∧ (t) ≤ (40)) (tgt := 34) hx hb dX4_setNote_27 (by decide)  (fun h27 => ?_) (fun h27 => ?_)
    · exfalso; omega
    ·
      refine z_iconst hx hb dX4_setNote_30 ?_
      refine lv_goto (tgt := 48) hx hb dX4_setNote_31 (by decide) ?_
      refine wi_V (rest := []) (As := [.int (zi (2))]) ⟨hx, hb, hml, hown, hts⟩ (c_X4_fails l g ad σ (th) hW hd _ (2) (by omega)) (cwV 1 hts gX4_setNote_X4_fails rfl rfl rfl (by decide +kernel) ⟨Nat.le_of_ble_eq_true rfl, Nat.le_of_ble_eq_true rfl⟩) (z_recv hK (hP 0 _ rfl) rfl) hP trivial hK rfl hl.1 rfl (Nat.le_of_ble_eq_true rfl) dX4_setNote_48 ⟨Nat.zero_le _, Nat.zero_le _⟩ hS (MW_fr hS.1) (fun H locs hP _ _ hS => ?_)
      refine z_ifp_eq (P := 0 < (2)) (tgt := 56) hx hb dX4_setNote_51 (by decide)  (fun h51 => ?_) (fun h51 => ?_)
      · exfalso; omega
      ·
        refine z_iconst hx hb dX4_setNote_54 ?_
        exact z_wiret hx hb hr hlk dX4_setNote_55 (by omega) hP hS
  · exfalso; omega

set_option maxHeartbeats 4000000 in
set_option maxRecDepth 100000 in
theorem c_X4_setNote_3 (l : Launch) (g : gG) (ad : Nat → Nat) (σ : SG) (th : Int) (hW : WF σ) (hd : Dst ad) (sz : Nat) (z v b t : Int) (hz : zr z) (hv : zr v) (hb9 : zr b) (ht : zr t) (hgood : IsN σ z v b) (hg2 : 0 ≤ t ∧ t ≤ 40) (hbad : σ 3 z.toNat = 1) : MI l yX4_setNote wsX4_setNote ({ frames := 3, cells := 0, slots := 0, locals := 66 }) g ad [.int (zi (z)), .int (zi (v)), .int (zi (b)), .int (zi (t))] sz σ th (σ) (3) (0) := by
  refine ZM.ofW (cc := cX4_setNote) (maxL := 7) (ret := (some .int)) (by decide) rfl (Nat.le_of_ble_eq_true rfl) ?_
  intro p e s m below meth c ls hx hb hr hml hown hts hlk hP hK hl _
  obtain ⟨rfl, hP, -⟩ := hP
  have hS : va_S (va_A (MWs g ad σ th) s.heap.size) s.heap s.heap [] := va_S.rf
  have hown : s.vm.findClass RX4 = some m.cls := hown
  have hl : lv_has ls 7 [(0, .ref (ad 0)), (1, .int (zi (z))), (2, .int (zi (v))), (3, .int (zi (b))), (4, .int (zi (t)))] := hl
  have hiX4 : ∀ w ∈ u_ws RX4 TX4 14, w ∈ wsX4_setNote := by decide +kernel
  have hn := hW.n
  have hfl := hW.flag z.toNat
  refine lv_aload_n hx hb dX4_setNote_0 rfl (lv_at hl 0 rfl) ?_
  refine lv_iload_n hx hb dX4_setNote_1 rfl (lv_at hl 1 rfl) ?_
  refine lv_iload_n hx hb dX4_setNote_2 rfl (lv_at hl 2 rfl) ?_
  refine lv_iload_n hx hb dX4_setNote_3 rfl (lv_at hl 3 rfl) ?_
  refine ro_V (rest := []) (As := [.int (zi (z)), .int (zi (v)), .int (zi (b))]) ⟨hx, hb, hml, hown, hts⟩ (c_X4_isNote l g ad σ (th) hW (z) (v) (b) (by omega) (by omega) (by omega)) (cwV 3 hts gX4_setNote_X4_isNote rfl rfl rfl (by decide +kernel) ⟨Nat.le_of_ble_eq_true rfl, Nat.le_of_ble_eq_true rfl⟩) (z_recv hK (hP 0 _ rfl) rfl) hP hK rfl hl.1 rfl (Nat.le_of_ble_eq_true rfl) dX4_setNote_4 ⟨Nat.zero_le _, Nat.zero_le _⟩ ?_
  refine lv_istore (lv' := [(5, .int (zi (pz (IsN σ (z) (v) (b))))), (0, .ref (ad 0)), (1, .int (zi (z))), (2, .int (zi (v))), (3, .int (zi (b))), (4, .int (zi (t)))]) hx hb dX4_setNote_7 hl (by decide) rfl (fun ls hl => ?_)
  refine lv_aload_n hx hb dX4_setNote_9 rfl (lv_at hl 1 rfl) ?_
  refine lv_iload hx hb dX4_setNote_10 (lv_at hl 0 rfl) ?_
  refine z_ifp_ne (P := IsN σ (z) (v) (b)) (tgt := 19) hx hb dX4_setNote_12 (by decide)  (fun h12 => ?_) (fun h12 => ?_)
  ·
    refine lv_iload hx hb dX4_setNote_19 (lv_at hl 5 rfl) ?_
    refine z_iconst hx hb dX4_setNote_21 ?_
    refine z_bipush hx hb dX4_setNote_22 (by decide) ?_
    refine ro_S (rest := [.ref (ad 0)]) (As := [.int (zi (t)), .int (zi (0)), .int (zi (40))]) ⟨hx, hb, hml, hown, hts⟩ (c_X4_isIn l g (t) (0) (40) (by omega) (by omega) (by omega)) (cwS 3 hts gX4_setNote_X4_isIn rfl rfl rfl (by decide +kernel) ⟨Nat.le_of_ble_eq_true rfl, Nat.le_of_ble_eq_true rfl⟩) trivial hK rfl hl.1 rfl (Nat.le_of_ble_eq_true rfl) dX4_setNote_24 ⟨Nat.zero_le _, Nat.zero_le _⟩ ?_
    refine z_ifp_ne (P := (0) ≤ (t) ∧ (t) ≤ (40)) (tgt := 34) hx hb dX4_setNote_27 (by decide)  (fun h27 => ?_) (fun h27 => ?_)
    ·
      refine lv_aload_n hx hb dX4_setNote_34 rfl (lv_at hl 1 rfl) ?_
      refine z_get (C := RX4) (T := TX4) (N := 14) hx hb hts hiX4 hown hK (hP 0 _ rfl) rfl 3 (by decide) (hts (.fieldLink RX4 16 "HarmoniumDeskModel" "isFixed" "[Z") (by decide +kernel)) rfl rfl dX4_setNote_35 ?_
      refine lv_iload_n hx hb dX4_setNote_38 rfl (lv_at hl 2 rfl) ?_
      refine z_zald hx hb hK (hP 3 _ rfl) (z.toNat) (by omega) (by omega) (by decide) dX4_setNote_39 ?_
      refine z_if_eq (tgt := 47) hx hb dX4_setNote_40 (by decide) (by omega) (fun h40 => ?_) (fun h40 => ?_)
      · exfalso; omega
      ·
        refine z_iconst hx hb dX4_setNote_43 ?_
        refine lv_goto (tgt := 48) hx hb dX4_setNote_44 (by decide) ?_
        refine wi_V (rest := []) (As := [.int (zi (3))]) ⟨hx, hb, hml, hown, hts⟩ (c_X4_fails l g ad σ (th) hW hd _ (3) (by omega)) (cwV 1 hts gX4_setNote_X4_fails rfl rfl rfl (by decide +kernel) ⟨Nat.le_of_ble_eq_true rfl, Nat.le_of_ble_eq_true rfl⟩) (z_recv hK (hP 0 _ rfl) rfl) hP trivial hK rfl hl.1 rfl (Nat.le_of_ble_eq_true rfl) dX4_setNote_48 ⟨Nat.zero_le _, Nat.zero_le _⟩ hS (MW_fr hS.1) (fun H locs hP _ _ hS => ?_)
        refine z_ifp_eq (P := 0 < (3)) (tgt := 56) hx hb dX4_setNote_51 (by decide)  (fun h51 => ?_) (fun h51 => ?_)
        · exfalso; omega
        ·
          refine z_iconst hx hb dX4_setNote_54 ?_
          exact z_wiret hx hb hr hlk dX4_setNote_55 (by omega) hP hS
    · exfalso; omega
  · exfalso; omega

set_option maxHeartbeats 4000000 in
set_option maxRecDepth 100000 in
theorem c_X4_setNote_0 (l : Launch) (g : gG) (ad : Nat → Nat) (σ : SG) (th : Int) (hW : WF σ) (hd : Dst ad) (sz : Nat) (k : Nat) (hk : (k : Int) < σ 0 0) (zk : Int) (hzk : zk = (k : Int)) (v : Nat) (hv1 : v ≤ 1) (zv : Int) (hzv : zv = (v : Int)) (b : Nat) (hbb : (b : Int) < σ 1 k) (zb : Int) (hzb : zb = (b : Int)) (t : Int) (hg2 : 0 ≤ t ∧ t ≤ 40) (hfx : σ 3 k = 0) : MI l yX4_setNote wsX4_setNote ({ frames := 3, cells := 0, slots := 0, locals := 66 }) g ad [.int (zi (zk)), .int (zi (zv)), .int (zi (zb)), .int (zi (t))] sz σ th (opN σ k v b t) (0) (NV σ k v b) := by
  refine ZM.ofW (cc := cX4_setNote) (maxL := 7) (ret := (some .int)) (by decide) rfl (Nat.le_of_ble_eq_true rfl) ?_
  intro p e s m below meth c ls hx hb hr hml hown hts hlk hP hK hl _
  obtain ⟨rfl, hP, -⟩ := hP
  have hS : va_S (va_A (MWs g ad σ th) s.heap.size) s.heap s.heap [] := va_S.rf
  have hown : s.vm.findClass RX4 = some m.cls := hown
  have hl : lv_has ls 7 [(0, .ref (ad 0)), (1, .int (zi (zk))), (2, .int (zi (zv))), (3, .int (zi (zb))), (4, .int (zi (t)))] := hl
  have hiX4 : ∀ w ∈ u_ws RX4 TX4 14, w ∈ wsX4_setNote := by decide +kernel
  have hn := hW.n
  have hbk := hW.bars hk
  have ek : zk.toNat = k := by omega
  have hbz : (b : Int) < σ 1 zk.toNat := by rw [ek]; exact hbb
  refine lv_aload_n hx hb dX4_setNote_0 rfl (lv_at hl 0 rfl) ?_
  refine lv_iload_n hx hb dX4_setNote_1 rfl (lv_at hl 1 rfl) ?_
  refine lv_iload_n hx hb dX4_setNote_2 rfl (lv_at hl 2 rfl) ?_
  refine lv_iload_n hx hb dX4_setNote_3 rfl (lv_at hl 3 rfl) ?_
  refine ro_V (rest := []) (As := [.int (zi (zk)), .int (zi (zv)), .int (zi (zb))]) ⟨hx, hb, hml, hown, hts⟩ (c_X4_isNote l g ad σ (th) hW (zk) (zv) (zb) (by omega) (by omega) (by omega)) (cwV 3 hts gX4_setNote_X4_isNote rfl rfl rfl (by decide +kernel) ⟨Nat.le_of_ble_eq_true rfl, Nat.le_of_ble_eq_true rfl⟩) (z_recv hK (hP 0 _ rfl) rfl) hP hK rfl hl.1 rfl (Nat.le_of_ble_eq_true rfl) dX4_setNote_4 ⟨Nat.zero_le _, Nat.zero_le _⟩ ?_
  refine lv_istore (lv' := [(5, .int (zi (pz (IsN σ (zk) (zv) (zb))))), (0, .ref (ad 0)), (1, .int (zi (zk))), (2, .int (zi (zv))), (3, .int (zi (zb))), (4, .int (zi (t)))]) hx hb dX4_setNote_7 hl (by decide) rfl (fun ls hl => ?_)
  refine lv_aload_n hx hb dX4_setNote_9 rfl (lv_at hl 1 rfl) ?_
  refine lv_iload hx hb dX4_setNote_10 (lv_at hl 0 rfl) ?_
  refine z_ifp_ne (P := IsN σ (zk) (zv) (zb)) (tgt := 19) hx hb dX4_setNote_12 (by decide)  (fun h12 => ?_) (fun h12 => ?_)
  ·
    refine lv_iload hx hb dX4_setNote_19 (lv_at hl 5 rfl) ?_
    refine z_iconst hx hb dX4_setNote_21 ?_
    refine z_bipush hx hb dX4_setNote_22 (by decide) ?_
    refine ro_S (rest := [.ref (ad 0)]) (As := [.int (zi (t)), .int (zi (0)), .int (zi (40))]) ⟨hx, hb, hml, hown, hts⟩ (c_X4_isIn l g (t) (0) (40) (by omega) (by omega) (by omega)) (cwS 3 hts gX4_setNote_X4_isIn rfl rfl rfl (by decide +kernel) ⟨Nat.le_of_ble_eq_true rfl, Nat.le_of_ble_eq_true rfl⟩) trivial hK rfl hl.1 rfl (Nat.le_of_ble_eq_true rfl) dX4_setNote_24 ⟨Nat.zero_le _, Nat.zero_le _⟩ ?_
    refine z_ifp_ne (P := (0) ≤ (t) ∧ (t) ≤ (40)) (tgt := 34) hx hb dX4_setNote_27 (by decide)  (fun h27 => ?_) (fun h27 => ?_)
    ·
      refine lv_aload_n hx hb dX4_setNote_34 rfl (lv_at hl 1 rfl) ?_
      refine z_get (C := RX4) (T := TX4) (N := 14) hx hb hts hiX4 hown hK (hP 0 _ rfl) rfl 3 (by decide) (hts (.fieldLink RX4 16 "HarmoniumDeskModel" "isFixed" "[Z") (by decide +kernel)) rfl rfl dX4_setNote_35 ?_
      refine lv_iload_n hx hb dX4_setNote_38 rfl (lv_at hl 2 rfl) ?_
      refine z_zald hx hb hK (hP 3 _ rfl) (k) (by omega) (by omega) (by decide) dX4_setNote_39 ?_
      refine z_if_eq (tgt := 47) hx hb dX4_setNote_40 (by decide) (by omega) (fun h40 => ?_) (fun h40 => ?_)
      ·
        refine z_iconst hx hb dX4_setNote_47 ?_
        refine wi_V (rest := []) (As := [.int (zi (0))]) ⟨hx, hb, hml, hown, hts⟩ (c_X4_fails l g ad σ (th) hW hd _ (0) (by omega)) (cwV 1 hts gX4_setNote_X4_fails rfl rfl rfl (by decide +kernel) ⟨Nat.le_of_ble_eq_true rfl, Nat.le_of_ble_eq_true rfl⟩) (z_recv hK (hP 0 _ rfl) rfl) hP trivial hK rfl hl.1 rfl (Nat.le_of_ble_eq_true rfl) dX4_setNote_48 ⟨Nat.zero_le _, Nat.zero_le _⟩ hS (MW_fr hS.1) (fun H locs hP _ _ hS => ?_)
        refine z_ifp_eq (P := 0 < (0)) (tgt := 56) hx hb dX4_setNote_51 (by decide)  (fun h51 => ?_) (fun h51 => ?_)
        ·
          refine lv_aload_n hx hb dX4_setNote_56 rfl (lv_at hl 1 rfl) ?_
          refine z_get (C := RX4) (T := TX4) (N := 14) hx hb hts hiX4 hown hK (hP 0 _ rfl) rfl 5 (by decide) (hts (.fieldLink RX4 23 "HarmoniumDeskModel" "notes" "[I") (by decide +kernel)) rfl rfl dX4_setNote_57 ?_
          refine lv_iload_n hx hb dX4_setNote_60 rfl (lv_at hl 2 rfl) ?_
          refine lv_iload_n hx hb dX4_setNote_61 rfl (lv_at hl 3 rfl) ?_
          refine lv_iload_n hx hb dX4_setNote_62 rfl (lv_at hl 4 rfl) ?_
          refine ro_S (rest := [.ref (ad 5)]) (As := [.int (zi (zk)), .int (zi (zv)), .int (zi (zb))]) ⟨hx, hb, hml, hown, hts⟩ (c_X4_at l g (zk) (zv) (zb)) (cwS 3 hts gX4_setNote_X4_at rfl rfl rfl (by decide +kernel) ⟨Nat.le_of_ble_eq_true rfl, Nat.le_of_ble_eq_true rfl⟩) trivial hK rfl hl.1 rfl (Nat.le_of_ble_eq_true rfl) dX4_setNote_63 ⟨Nat.zero_le _, Nat.zero_le _⟩ ?_
          refine z_iald hx hb hK (hP 5 _ rfl) (24 * k + 12 * v + b) (by omega) (by omega) (by decide) dX4_setNote_66 ?_
          refine z_top (b := NV σ k v b) (rfl) ?_
          refine lv_istore (lv' := [(6, .int (zi (NV σ k v b))), (5, .int (zi (pz (IsN σ (zk) (zv) (zb))))), (0, .ref (ad 0)), (1, .int (zi (zk))), (2, .int (zi (zv))), (3, .int (zi (zb))), (4, .int (zi (t)))]) hx hb dX4_setNote_67 hl (by decide) rfl (fun ls hl => ?_)
          refine lv_aload_n hx hb dX4_setNote_69 rfl (lv_at hl 2 rfl) ?_
          refine z_get (C := RX4) (T := TX4) (N := 14) hx hb hts hiX4 hown hK (hP 0 _ rfl) rfl 5 (by decide) (hts (.fieldLink RX4 23 "HarmoniumDeskModel" "notes" "[I") (by decide +kernel)) rfl rfl dX4_setNote_70 ?_
          refine lv_iload_n hx hb dX4_setNote_73 rfl (lv_at hl 3 rfl) ?_
          refine lv_iload_n hx hb dX4_setNote_74 rfl (lv_at hl 4 rfl) ?_
          refine lv_iload_n hx hb dX4_setNote_75 rfl (lv_at hl 5 rfl) ?_
          refine ro_S (rest := [.ref (ad 5)]) (As := [.int (zi (zk)), .int (zi (zv)), .int (zi (zb))]) ⟨hx, hb, hml, hown, hts⟩ (c_X4_at l g (zk) (zv) (zb)) (cwS 3 hts gX4_setNote_X4_at rfl rfl rfl (by decide +kernel) ⟨Nat.le_of_ble_eq_true rfl, Nat.le_of_ble_eq_true rfl⟩) trivial hK rfl hl.1 rfl (Nat.le_of_ble_eq_true rfl) dX4_setNote_76 ⟨Nat.zero_le _, Nat.zero_le _⟩ ?_
          refine lv_iload hx hb dX4_setNote_79 (lv_at hl 6 rfl) ?_
          refine z_mast (x := t) hx hb hd hK hP hS 5 5 720 rfl (24 * k + 12 * v + b) (msa5 _ _ _ _ _ _) (by omega) (by omega) (by decide) dX4_setNote_81 (fun H locs hP hS => ?_)
          refine lv_iload hx hb dX4_setNote_82 (lv_at hl 0 rfl) ?_
          exact z_wiret hx hb hr hlk dX4_setNote_84 (rfl) hP hS
        · exfalso; omega
      · exfalso; omega
    · exfalso; omega
  · exfalso; omega

set_option maxHeartbeats 4000000 in
set_option maxRecDepth 100000 in
theorem c_X4_note_1 (l : Launch) (g : gG) (ad : Nat → Nat) (σ : SG) (th : Int) (hW : WF σ) (hd : Dst ad) (sz : Nat) (z v b : Int) (hz : zr z) (hv : zr v) (hb9 : zr b) (hbad : ¬ IsN σ z v b) : MI l yX4_note wsX4_note ({ frames := 3, cells := 0, slots := 0, locals := 66 }) g ad [.int (zi (z)), .int (zi (v)), .int (zi (b))] sz σ th (σ) (1) (0) := by
  refine ZM.ofW (cc := cX4_note) (maxL := 4) (ret := (some .int)) (by decide) rfl (Nat.le_of_ble_eq_true rfl) ?_
  intro p e s m below meth c ls hx hb hr hml hown hts hlk hP hK hl _
  obtain ⟨rfl, hP, -⟩ := hP
  have hS : va_S (va_A (MWs g ad σ th) s.heap.size) s.heap s.heap [] := va_S.rf
  have hown : s.vm.findClass RX4 = some m.cls := hown
  have hl : lv_has ls 4 [(0, .ref (ad 0)), (1, .int (zi (z))), (2, .int (zi (v))), (3, .int (zi (b)))] := hl
  have hn := hW.n
  refine lv_aload_n hx hb dX4_note_0 rfl (lv_at hl 0 rfl) ?_
  refine lv_aload_n hx hb dX4_note_1 rfl (lv_at hl 0 rfl) ?_
  refine lv_iload_n hx hb dX4_note_2 rfl (lv_at hl 1 rfl) ?_
  refine lv_iload_n hx hb dX4_note_3 rfl (lv_at hl 2 rfl) ?_
  refine lv_iload_n hx hb dX4_note_4 rfl (lv_at hl 3 rfl) ?_
  refine ro_V (rest := [.ref (ad 0)]) (As := [.int (zi (z)), .int (zi (v)), .int (zi (b))]) ⟨hx, hb, hml, hown, hts⟩ (c_X4_isNote l g ad σ (th) hW (z) (v) (b) (by omega) (by omega) (by omega)) (cwV 3 hts gX4_note_X4_isNote rfl rfl rfl (by decide +kernel) ⟨Nat.le_of_ble_eq_true rfl, Nat.le_of_ble_eq_true rfl⟩) (z_recv hK (hP 0 _ rfl) rfl) hP hK rfl hl.1 rfl (Nat.le_of_ble_eq_true rfl) dX4_note_5 ⟨Nat.zero_le _, Nat.zero_le _⟩ ?_
  refine z_ifp_eq (P := IsN σ (z) (v) (b)) (tgt := 15) hx hb dX4_note_8 (by decide)  (fun h8 => ?_) (fun h8 => ?_)
  ·
    refine z_iconst hx hb dX4_note_15 ?_
    refine wi_V (rest := []) (As := [.int (zi (1))]) ⟨hx, hb, hml, hown, hts⟩ (c_X4_fails l g ad σ (th) hW hd _ (1) (by omega)) (cwV 1 hts gX4_note_X4_fails rfl rfl rfl (by decide +kernel) ⟨Nat.le_of_ble_eq_true rfl, Nat.le_of_ble_eq_true rfl⟩) (z_recv hK (hP 0 _ rfl) rfl) hP trivial hK rfl hl.1 rfl (Nat.le_of_ble_eq_true rfl) dX4_note_16 ⟨Nat.zero_le _, Nat.zero_le _⟩ hS (MW_fr hS.1) (fun H locs hP _ _ hS => ?_)
    refine z_ifp_eq (P := 0 < (1)) (tgt := 26) hx hb dX4_note_19 (by decide)  (fun h19 => ?_) (fun h19 => ?_)
    · exfalso; omega
    ·
      refine z_iconst hx hb dX4_note_22 ?_
      refine lv_goto (tgt := 37) hx hb dX4_note_23 (by decide) ?_
      exact z_wiret hx hb hr hlk dX4_note_37 (by omega) hP hS
  · exfalso; omega

set_option maxHeartbeats 4000000 in
set_option maxRecDepth 100000 in
theorem c_X4_note_0 (l : Launch) (g : gG) (ad : Nat → Nat) (σ : SG) (th : Int) (hW : WF σ) (hd : Dst ad) (sz : Nat) (k : Nat) (hk : (k : Int) < σ 0 0) (zk : Int) (hzk : zk = (k : Int)) (v : Nat) (hv1 : v ≤ 1) (zv : Int) (hzv : zv = (v : Int)) (b : Nat) (hbb : (b : Int) < σ 1 k) (zb : Int) (hzb : zb = (b : Int))  : MI l yX4_note wsX4_note ({ frames := 3, cells := 0, slots := 0, locals := 66 }) g ad [.int (zi (zk)), .int (zi (zv)), .int (zi (zb))] sz σ th (σ) (0) (NV σ k v b) := by
  refine ZM.ofW (cc := cX4_note) (maxL := 4) (ret := (some .int)) (by decide) rfl (Nat.le_of_ble_eq_true rfl) ?_
  intro p e s m below meth c ls hx hb hr hml hown hts hlk hP hK hl _
  obtain ⟨rfl, hP, -⟩ := hP
  have hS : va_S (va_A (MWs g ad σ th) s.heap.size) s.heap s.heap [] := va_S.rf
  have hown : s.vm.findClass RX4 = some m.cls := hown
  have hl : lv_has ls 4 [(0, .ref (ad 0)), (1, .int (zi (zk))), (2, .int (zi (zv))), (3, .int (zi (zb)))] := hl
  have hiX4 : ∀ w ∈ u_ws RX4 TX4 14, w ∈ wsX4_note := by decide +kernel
  have hn := hW.n
  have hbk := hW.bars hk
  have ek : zk.toNat = k := by omega
  have hbz : (b : Int) < σ 1 zk.toNat := by rw [ek]; exact hbb
  refine lv_aload_n hx hb dX4_note_0 rfl (lv_at hl 0 rfl) ?_
  refine lv_aload_n hx hb dX4_note_1 rfl (lv_at hl 0 rfl) ?_
  refine lv_iload_n hx hb dX4_note_2 rfl (lv_at hl 1 rfl) ?_
  refine lv_iload_n hx hb dX4_note_3 rfl (lv_at hl 2 rfl) ?_
  refine lv_iload_n hx hb dX4_note_4 rfl (lv_at hl 3 rfl) ?_
  refine ro_V (rest := [.ref (ad 0)]) (As := [.int (zi (zk)), .int (zi (zv)), .int (zi (zb))]) ⟨hx, hb, hml, hown, hts⟩ (c_X4_isNote l g ad σ (th) hW (zk) (zv) (zb) (by omega) (by omega) (by omega)) (cwV 3 hts gX4_note_X4_isNote rfl rfl rfl (by decide +kernel) ⟨Nat.le_of_ble_eq_true rfl, Nat.le_of_ble_eq_true rfl⟩) (z_recv hK (hP 0 _ rfl) rfl) hP hK rfl hl.1 rfl (Nat.le_of_ble_eq_true rfl) dX4_note_5 ⟨Nat.zero_le _, Nat.zero_le _⟩ ?_
  refine z_ifp_eq (P := IsN σ (zk) (zv) (zb)) (tgt := 15) hx hb dX4_note_8 (by decide)  (fun h8 => ?_) (fun h8 => ?_)
  · exfalso; omega
  ·
    refine z_iconst hx hb dX4_note_11 ?_
    refine lv_goto (tgt := 16) hx hb dX4_note_12 (by decide) ?_
    refine wi_V (rest := []) (As := [.int (zi (0))]) ⟨hx, hb, hml, hown, hts⟩ (c_X4_fails l g ad σ (th) hW hd _ (0) (by omega)) (cwV 1 hts gX4_note_X4_fails rfl rfl rfl (by decide +kernel) ⟨Nat.le_of_ble_eq_true rfl, Nat.le_of_ble_eq_true rfl⟩) (z_recv hK (hP 0 _ rfl) rfl) hP trivial hK rfl hl.1 rfl (Nat.le_of_ble_eq_true rfl) dX4_note_16 ⟨Nat.zero_le _, Nat.zero_le _⟩ hS (MW_fr hS.1) (fun H locs hP _ _ hS => ?_)
    refine z_ifp_eq (P := 0 < (0)) (tgt := 26) hx hb dX4_note_19 (by decide)  (fun h19 => ?_) (fun h19 => ?_)
    ·
      refine lv_aload_n hx hb dX4_note_26 rfl (lv_at hl 0 rfl) ?_
      refine z_get (C := RX4) (T := TX4) (N := 14) hx hb hts hiX4 hown hK (hP 0 _ rfl) rfl 5 (by decide) (hts (.fieldLink RX4 23 "HarmoniumDeskModel" "notes" "[I") (by decide +kernel)) rfl rfl dX4_note_27 ?_
      refine lv_iload_n hx hb dX4_note_30 rfl (lv_at hl 1 rfl) ?_
      refine lv_iload_n hx hb dX4_note_31 rfl (lv_at hl 2 rfl) ?_
      refine lv_iload_n hx hb dX4_note_32 rfl (lv_at hl 3 rfl) ?_
      refine ro_S (rest := [.ref (ad 5)]) (As := [.int (zi (zk)), .int (zi (zv)), .int (zi (zb))]) ⟨hx, hb, hml, hown, hts⟩ (c_X4_at l g (zk) (zv) (zb)) (cwS 3 hts gX4_note_X4_at rfl rfl rfl (by decide +kernel) ⟨Nat.le_of_ble_eq_true rfl, Nat.le_of_ble_eq_true rfl⟩) trivial hK rfl hl.1 rfl (Nat.le_of_ble_eq_true rfl) dX4_note_33 ⟨Nat.zero_le _, Nat.zero_le _⟩ ?_
      refine z_iald hx hb hK (hP 5 _ rfl) (24 * k + 12 * v + b) (by omega) (by omega) (by decide) dX4_note_36 ?_
      refine z_top (b := NV σ k v b) (rfl) ?_
      exact z_wiret hx hb hr hlk dX4_note_37 (rfl) hP hS
    · exfalso; omega

set_option maxHeartbeats 4000000 in
set_option maxRecDepth 100000 in
theorem c_X4_base_1 (l : Launch) (g : gG) (ad : Nat → Nat) (σ : SG) (th : Int) (hW : WF σ) (hd : Dst ad) (sz : Nat) (z y : Int) (hz : zr z) (hy : zr y) (hbad : ¬ (IsV σ z ∧ IsV σ y)) : MI l yX4_base wsX4_base ({ frames := 2, cells := 0, slots := 0, locals := 43 }) g ad [.int (zi (z)), .int (zi (y))] sz σ th (σ) (1) (0) := by
  refine ZM.ofW (cc := cX4_base) (maxL := 3) (ret := (some .int)) (by decide) rfl (Nat.le_of_ble_eq_true rfl) ?_
  intro p e s m below meth c ls hx hb hr hml hown hts hlk hP hK hl _
  obtain ⟨rfl, hP, -⟩ := hP
  have hS : va_S (va_A (MWs g ad σ th) s.heap.size) s.heap s.heap [] := va_S.rf
  have hown : s.vm.findClass RX4 = some m.cls := hown
  have hl : lv_has ls 3 [(0, .ref (ad 0)), (1, .int (zi (z))), (2, .int (zi (y)))] := hl
  have hn := hW.n
  refine lv_aload_n hx hb dX4_base_0 rfl (lv_at hl 0 rfl) ?_
  refine lv_aload_n hx hb dX4_base_1 rfl (lv_at hl 0 rfl) ?_
  refine lv_iload_n hx hb dX4_base_2 rfl (lv_at hl 1 rfl) ?_
  refine ro_V (rest := [.ref (ad 0)]) (As := [.int (zi (z))]) ⟨hx, hb, hml, hown, hts⟩ (c_X4_isVersion l g ad σ (th) hW (z) (by omega)) (cwV 1 hts gX4_base_X4_isVersion rfl rfl rfl (by decide +kernel) ⟨Nat.le_of_ble_eq_true rfl, Nat.le_of_ble_eq_true rfl⟩) (z_recv hK (hP 0 _ rfl) rfl) hP hK rfl hl.1 rfl (Nat.le_of_ble_eq_true rfl) dX4_base_3 ⟨Nat.zero_le _, Nat.zero_le _⟩ ?_
  refine z_ifp_eq (P := IsV σ (z)) (tgt := 21) hx hb dX4_base_6 (by decide)  (fun h6 => ?_) (fun h6 => ?_)
  ·
    refine z_iconst hx hb dX4_base_21 ?_
    refine wi_V (rest := []) (As := [.int (zi (1))]) ⟨hx, hb, hml, hown, hts⟩ (c_X4_fails l g ad σ (th) hW hd _ (1) (by omega)) (cwV 1 hts gX4_base_X4_fails rfl rfl rfl (by decide +kernel) ⟨Nat.le_of_ble_eq_true rfl, Nat.le_of_ble_eq_true rfl⟩) (z_recv hK (hP 0 _ rfl) rfl) hP trivial hK rfl hl.1 rfl (Nat.le_of_ble_eq_true rfl) dX4_base_22 ⟨Nat.zero_le _, Nat.zero_le _⟩ hS (MW_fr hS.1) (fun H locs hP _ _ hS => ?_)
    refine z_ifp_eq (P := 0 < (1)) (tgt := 32) hx hb dX4_base_25 (by decide)  (fun h25 => ?_) (fun h25 => ?_)
    · exfalso; omega
    ·
      refine z_iconst hx hb dX4_base_28 ?_
      refine lv_goto (tgt := 38) hx hb dX4_base_29 (by decide) ?_
      exact z_wiret hx hb hr hlk dX4_base_38 (by omega) hP hS
  ·
    refine lv_aload_n hx hb dX4_base_9 rfl (lv_at hl 0 rfl) ?_
    refine lv_iload_n hx hb dX4_base_10 rfl (lv_at hl 2 rfl) ?_
    refine ro_V (rest := [.ref (ad 0)]) (As := [.int (zi (y))]) ⟨hx, hb, hml, hown, hts⟩ (c_X4_isVersion l g ad σ (th) hW (y) (by omega)) (cwV 1 hts gX4_base_X4_isVersion rfl rfl rfl (by decide +kernel) ⟨Nat.le_of_ble_eq_true rfl, Nat.le_of_ble_eq_true rfl⟩) (z_recv hK (hP 0 _ rfl) rfl) hP hK rfl hl.1 rfl (Nat.le_of_ble_eq_true rfl) dX4_base_11 ⟨Nat.zero_le _, Nat.zero_le _⟩ ?_
    refine z_ifp_eq (P := IsV σ (y)) (tgt := 21) hx hb dX4_base_14 (by decide)  (fun h14 => ?_) (fun h14 => ?_)
    ·
      refine z_iconst hx hb dX4_base_21 ?_
      refine wi_V (rest := []) (As := [.int (zi (1))]) ⟨hx, hb, hml, hown, hts⟩ (c_X4_fails l g ad σ (th) hW hd _ (1) (by omega)) (cwV 1 hts gX4_base_X4_fails rfl rfl rfl (by decide +kernel) ⟨Nat.le_of_ble_eq_true rfl, Nat.le_of_ble_eq_true rfl⟩) (z_recv hK (hP 0 _ rfl) rfl) hP trivial hK rfl hl.1 rfl (Nat.le_of_ble_eq_true rfl) dX4_base_22 ⟨Nat.zero_le _, Nat.zero_le _⟩ hS (MW_fr hS.1) (fun H locs hP _ _ hS => ?_)
      refine z_ifp_eq (P := 0 < (1)) (tgt := 32) hx hb dX4_base_25 (by decide)  (fun h25 => ?_) (fun h25 => ?_)
      · exfalso; omega
      ·
        refine z_iconst hx hb dX4_base_28 ?_
        refine lv_goto (tgt := 38) hx hb dX4_base_29 (by decide) ?_
        exact z_wiret hx hb hr hlk dX4_base_38 (by omega) hP hS
    · exfalso; omega

set_option maxHeartbeats 4000000 in
set_option maxRecDepth 100000 in
theorem c_X4_base_0 (l : Launch) (g : gG) (ad : Nat → Nat) (σ : SG) (th : Int) (hW : WF σ) (hd : Dst ad) (sz : Nat) (z y : Int) (hz : zr z) (hy : zr y) (hg : IsV σ z) (hg2 : IsV σ y) : MI l yX4_base wsX4_base ({ frames := 2, cells := 0, slots := 0, locals := 48 }) g ad [.int (zi (z)), .int (zi (y))] sz σ th (σ) (0) (bs (σ 2) z y (σ 0 0).toNat) := by
  refine ZM.ofW (cc := cX4_base) (maxL := 3) (ret := (some .int)) (by decide) rfl (Nat.le_of_ble_eq_true rfl) ?_
  intro p e s m below meth c ls hx hb hr hml hown hts hlk hP hK hl _
  obtain ⟨rfl, hP, -⟩ := hP
  have hS : va_S (va_A (MWs g ad σ th) s.heap.size) s.heap s.heap [] := va_S.rf
  have hown : s.vm.findClass RX4 = some m.cls := hown
  have hl : lv_has ls 3 [(0, .ref (ad 0)), (1, .int (zi (z))), (2, .int (zi (y)))] := hl
  have hn := hW.n
  refine lv_aload_n hx hb dX4_base_0 rfl (lv_at hl 0 rfl) ?_
  refine lv_aload_n hx hb dX4_base_1 rfl (lv_at hl 0 rfl) ?_
  refine lv_iload_n hx hb dX4_base_2 rfl (lv_at hl 1 rfl) ?_
  refine ro_V (rest := [.ref (ad 0)]) (As := [.int (zi (z))]) ⟨hx, hb, hml, hown, hts⟩ (c_X4_isVersion l g ad σ (th) hW (z) (by omega)) (cwV 1 hts gX4_base_X4_isVersion rfl rfl rfl (by decide +kernel) ⟨Nat.le_of_ble_eq_true rfl, Nat.le_of_ble_eq_true rfl⟩) (z_recv hK (hP 0 _ rfl) rfl) hP hK rfl hl.1 rfl (Nat.le_of_ble_eq_true rfl) dX4_base_3 ⟨Nat.zero_le _, Nat.zero_le _⟩ ?_
  refine z_ifp_eq (P := IsV σ (z)) (tgt := 21) hx hb dX4_base_6 (by decide)  (fun h6 => ?_) (fun h6 => ?_)
  · exfalso; omega
  ·
    refine lv_aload_n hx hb dX4_base_9 rfl (lv_at hl 0 rfl) ?_
    refine lv_iload_n hx hb dX4_base_10 rfl (lv_at hl 2 rfl) ?_
    refine ro_V (rest := [.ref (ad 0)]) (As := [.int (zi (y))]) ⟨hx, hb, hml, hown, hts⟩ (c_X4_isVersion l g ad σ (th) hW (y) (by omega)) (cwV 1 hts gX4_base_X4_isVersion rfl rfl rfl (by decide +kernel) ⟨Nat.le_of_ble_eq_true rfl, Nat.le_of_ble_eq_true rfl⟩) (z_recv hK (hP 0 _ rfl) rfl) hP hK rfl hl.1 rfl (Nat.le_of_ble_eq_true rfl) dX4_base_11 ⟨Nat.zero_le _, Nat.zero_le _⟩ ?_
    refine z_ifp_eq (P := IsV σ (y)) (tgt := 21) hx hb dX4_base_14 (by decide)  (fun h14 => ?_) (fun h14 => ?_)
    · exfalso; omega
    ·
      refine z_iconst hx hb dX4_base_17 ?_
      refine lv_goto (tgt := 22) hx hb dX4_base_18 (by decide) ?_
      refine wi_V (rest := []) (As := [.int (zi (0))]) ⟨hx, hb, hml, hown, hts⟩ (c_X4_fails l g ad σ (th) hW hd _ (0) (by omega)) (cwV 1 hts gX4_base_X4_fails rfl rfl rfl (by decide +kernel) ⟨Nat.le_of_ble_eq_true rfl, Nat.le_of_ble_eq_true rfl⟩) (z_recv hK (hP 0 _ rfl) rfl) hP trivial hK rfl hl.1 rfl (Nat.le_of_ble_eq_true rfl) dX4_base_22 ⟨Nat.zero_le _, Nat.zero_le _⟩ hS (MW_fr hS.1) (fun H locs hP _ _ hS => ?_)
      refine z_ifp_eq (P := 0 < (0)) (tgt := 32) hx hb dX4_base_25 (by decide)  (fun h25 => ?_) (fun h25 => ?_)
      ·
        refine lv_aload_n hx hb dX4_base_32 rfl (lv_at hl 0 rfl) ?_
        refine lv_iload_n hx hb dX4_base_33 rfl (lv_at hl 1 rfl) ?_
        refine lv_iload_n hx hb dX4_base_34 rfl (lv_at hl 2 rfl) ?_
        refine ro_V (rest := []) (As := [.int (zi (z)), .int (zi (y))]) ⟨hx, hb, hml, hown, hts⟩ (c_X4_baseOf l g ad σ (0) hW (z) (y) (by omega) (by omega)) (cwV 2 hts gX4_base_X4_baseOf rfl rfl rfl (by decide +kernel) ⟨Nat.le_of_ble_eq_true rfl, Nat.le_of_ble_eq_true rfl⟩) (z_recv hK (hP 0 _ rfl) rfl) hP hK rfl hl.1 rfl (Nat.le_of_ble_eq_true rfl) dX4_base_35 ⟨Nat.zero_le _, Nat.zero_le _⟩ ?_
        exact z_wiret hx hb hr hlk dX4_base_38 (rfl) hP hS
      · exfalso; omega

set_option maxHeartbeats 4000000 in
set_option maxRecDepth 100000 in
theorem c_X4_conflicts_1 (l : Launch) (g : gG) (ad : Nat → Nat) (σ : SG) (th : Int) (hW : WF σ) (hd : Dst ad) (sz : Nat) (z y : Int) (hz : zr z) (hy : zr y) (hbad : ¬ (IsV σ z ∧ IsV σ y)) : MI l yX4_conflicts wsX4_conflicts ({ frames := 2, cells := 0, slots := 0, locals := 43 }) g ad [.int (zi (z)), .int (zi (y))] sz σ th (σ) (1) (0) := by
  refine ZM.ofW (cc := cX4_conflicts) (maxL := 7) (ret := (some .int)) (by decide) rfl (Nat.le_of_ble_eq_true rfl) ?_
  intro p e s m below meth c ls hx hb hr hml hown hts hlk hP hK hl _
  obtain ⟨rfl, hP, -⟩ := hP
  have hS : va_S (va_A (MWs g ad σ th) s.heap.size) s.heap s.heap [] := va_S.rf
  have hown : s.vm.findClass RX4 = some m.cls := hown
  have hl : lv_has ls 7 [(0, .ref (ad 0)), (1, .int (zi (z))), (2, .int (zi (y)))] := hl
  have hn := hW.n
  refine lv_aload_n hx hb dX4_conflicts_0 rfl (lv_at hl 0 rfl) ?_
  refine lv_iload_n hx hb dX4_conflicts_1 rfl (lv_at hl 1 rfl) ?_
  refine ro_V (rest := []) (As := [.int (zi (z))]) ⟨hx, hb, hml, hown, hts⟩ (c_X4_isVersion l g ad σ (th) hW (z) (by omega)) (cwV 1 hts gX4_conflicts_X4_isVersion rfl rfl rfl (by decide +kernel) ⟨Nat.le_of_ble_eq_true rfl, Nat.le_of_ble_eq_true rfl⟩) (z_recv hK (hP 0 _ rfl) rfl) hP hK rfl hl.1 rfl (Nat.le_of_ble_eq_true rfl) dX4_conflicts_2 ⟨Nat.zero_le _, Nat.zero_le _⟩ ?_
  refine z_ifp_eq (P := IsV σ (z)) (tgt := 20) hx hb dX4_conflicts_5 (by decide)  (fun h5 => ?_) (fun h5 => ?_)
  ·
    refine z_iconst hx hb dX4_conflicts_20 ?_
    refine lv_istore_n (lv' := [(3, .int (zi (0))), (0, .ref (ad 0)), (1, .int (zi (z))), (2, .int (zi (y)))]) hx hb dX4_conflicts_21 rfl hl (by decide) rfl (fun ls hl => ?_)
    refine lv_aload_n hx hb dX4_conflicts_22 rfl (lv_at hl 1 rfl) ?_
    refine lv_iload_n hx hb dX4_conflicts_23 rfl (lv_at hl 0 rfl) ?_
    refine z_if_ne (tgt := 31) hx hb dX4_conflicts_24 (by decide) (by omega) (fun h24 => ?_) (fun h24 => ?_)
    · exfalso; omega
    ·
      refine z_iconst hx hb dX4_conflicts_27 ?_
      refine lv_goto (tgt := 46) hx hb dX4_conflicts_28 (by decide) ?_
      refine wi_V (rest := []) (As := [.int (zi (1))]) ⟨hx, hb, hml, hown, hts⟩ (c_X4_fails l g ad σ (th) hW hd _ (1) (by omega)) (cwV 1 hts gX4_conflicts_X4_fails rfl rfl rfl (by decide +kernel) ⟨Nat.le_of_ble_eq_true rfl, Nat.le_of_ble_eq_true rfl⟩) (z_recv hK (hP 0 _ rfl) rfl) hP trivial hK rfl hl.1 rfl (Nat.le_of_ble_eq_true rfl) dX4_conflicts_46 ⟨Nat.zero_le _, Nat.zero_le _⟩ hS (MW_fr hS.1) (fun H locs hP _ _ hS => ?_)
      refine z_ifp_eq (P := 0 < (1)) (tgt := 54) hx hb dX4_conflicts_49 (by decide)  (fun h49 => ?_) (fun h49 => ?_)
      · exfalso; omega
      ·
        refine z_iconst hx hb dX4_conflicts_52 ?_
        exact z_wiret hx hb hr hlk dX4_conflicts_53 (by omega) hP hS
  ·
    refine lv_aload_n hx hb dX4_conflicts_8 rfl (lv_at hl 0 rfl) ?_
    refine lv_iload_n hx hb dX4_conflicts_9 rfl (lv_at hl 2 rfl) ?_
    refine ro_V (rest := []) (As := [.int (zi (y))]) ⟨hx, hb, hml, hown, hts⟩ (c_X4_isVersion l g ad σ (th) hW (y) (by omega)) (cwV 1 hts gX4_conflicts_X4_isVersion rfl rfl rfl (by decide +kernel) ⟨Nat.le_of_ble_eq_true rfl, Nat.le_of_ble_eq_true rfl⟩) (z_recv hK (hP 0 _ rfl) rfl) hP hK rfl hl.1 rfl (Nat.le_of_ble_eq_true rfl) dX4_conflicts_10 ⟨Nat.zero_le _, Nat.zero_le _⟩ ?_
    refine z_ifp_eq (P := IsV σ (y)) (tgt := 20) hx hb dX4_conflicts_13 (by decide)  (fun h13 => ?_) (fun h13 => ?_)
    ·
      refine z_iconst hx hb dX4_conflicts_20 ?_
      refine lv_istore_n (lv' := [(3, .int (zi (0))), (0, .ref (ad 0)), (1, .int (zi (z))), (2, .int (zi (y)))]) hx hb dX4_conflicts_21 rfl hl (by decide) rfl (fun ls hl => ?_)
      refine lv_aload_n hx hb dX4_conflicts_22 rfl (lv_at hl 1 rfl) ?_
      refine lv_iload_n hx hb dX4_conflicts_23 rfl (lv_at hl 0 rfl) ?_
      refine z_if_ne (tgt := 31) hx hb dX4_conflicts_24 (by decide) (by omega) (fun h24 => ?_) (fun h24 => ?_)
      · exfalso; omega
      ·
        refine z_iconst hx hb dX4_conflicts_27 ?_
        refine lv_goto (tgt := 46) hx hb dX4_conflicts_28 (by decide) ?_
        refine wi_V (rest := []) (As := [.int (zi (1))]) ⟨hx, hb, hml, hown, hts⟩ (c_X4_fails l g ad σ (th) hW hd _ (1) (by omega)) (cwV 1 hts gX4_conflicts_X4_fails rfl rfl rfl (by decide +kernel) ⟨Nat.le_of_ble_eq_true rfl, Nat.le_of_ble_eq_true rfl⟩) (z_recv hK (hP 0 _ rfl) rfl) hP trivial hK rfl hl.1 rfl (Nat.le_of_ble_eq_true rfl) dX4_conflicts_46 ⟨Nat.zero_le _, Nat.zero_le _⟩ hS (MW_fr hS.1) (fun H locs hP _ _ hS => ?_)
        refine z_ifp_eq (P := 0 < (1)) (tgt := 54) hx hb dX4_conflicts_49 (by decide)  (fun h49 => ?_) (fun h49 => ?_)
        · exfalso; omega
        ·
          refine z_iconst hx hb dX4_conflicts_52 ?_
          exact z_wiret hx hb hr hlk dX4_conflicts_53 (by omega) hP hS
    ·
      refine z_iconst hx hb dX4_conflicts_16 ?_
      refine lv_goto (tgt := 21) hx hb dX4_conflicts_17 (by decide) ?_
      refine lv_istore_n (lv' := [(3, .int (zi (1))), (0, .ref (ad 0)), (1, .int (zi (z))), (2, .int (zi (y)))]) hx hb dX4_conflicts_21 rfl hl (by decide) rfl (fun ls hl => ?_)
      refine lv_aload_n hx hb dX4_conflicts_22 rfl (lv_at hl 1 rfl) ?_
      refine lv_iload_n hx hb dX4_conflicts_23 rfl (lv_at hl 0 rfl) ?_
      refine z_if_ne (tgt := 31) hx hb dX4_conflicts_24 (by decide) (by omega) (fun h24 => ?_) (fun h24 => ?_)
      · exfalso; omega
      ·
        refine z_iconst hx hb dX4_conflicts_27 ?_
        refine lv_goto (tgt := 46) hx hb dX4_conflicts_28 (by decide) ?_
        refine wi_V (rest := []) (As := [.int (zi (1))]) ⟨hx, hb, hml, hown, hts⟩ (c_X4_fails l g ad σ (th) hW hd _ (1) (by omega)) (cwV 1 hts gX4_conflicts_X4_fails rfl rfl rfl (by decide +kernel) ⟨Nat.le_of_ble_eq_true rfl, Nat.le_of_ble_eq_true rfl⟩) (z_recv hK (hP 0 _ rfl) rfl) hP trivial hK rfl hl.1 rfl (Nat.le_of_ble_eq_true rfl) dX4_conflicts_46 ⟨Nat.zero_le _, Nat.zero_le _⟩ hS (MW_fr hS.1) (fun H locs hP _ _ hS => ?_)
        refine z_ifp_eq (P := 0 < (1)) (tgt := 54) hx hb dX4_conflicts_49 (by decide)  (fun h49 => ?_) (fun h49 => ?_)
        · exfalso; omega
        ·
          refine z_iconst hx hb dX4_conflicts_52 ?_
          exact z_wiret hx hb hr hlk dX4_conflicts_53 (by omega) hP hS

set_option maxHeartbeats 4000000 in
set_option maxRecDepth 100000 in
theorem c_X4_conflicts_2 (l : Launch) (g : gG) (ad : Nat → Nat) (σ : SG) (th : Int) (hW : WF σ) (hd : Dst ad) (sz : Nat) (z y : Int) (hz : zr z) (hy : zr y) (hg : IsV σ z) (hg2 : IsV σ y) (hbad : bs (σ 2) z y (σ 0 0).toNat = -1) : MI l yX4_conflicts wsX4_conflicts ({ frames := 2, cells := 0, slots := 0, locals := 48 }) g ad [.int (zi (z)), .int (zi (y))] sz σ th (σ) (2) (0) := by
  refine ZM.ofW (cc := cX4_conflicts) (maxL := 7) (ret := (some .int)) (by decide) rfl (Nat.le_of_ble_eq_true rfl) ?_
  intro p e s m below meth c ls hx hb hr hml hown hts hlk hP hK hl _
  obtain ⟨rfl, hP, -⟩ := hP
  have hS : va_S (va_A (MWs g ad σ th) s.heap.size) s.heap s.heap [] := va_S.rf
  have hown : s.vm.findClass RX4 = some m.cls := hown
  have hl : lv_has ls 7 [(0, .ref (ad 0)), (1, .int (zi (z))), (2, .int (zi (y)))] := hl
  have hn := hW.n
  have hbsr := bs_r (σ 2) z y (σ 0 0).toNat
  refine lv_aload_n hx hb dX4_conflicts_0 rfl (lv_at hl 0 rfl) ?_
  refine lv_iload_n hx hb dX4_conflicts_1 rfl (lv_at hl 1 rfl) ?_
  refine ro_V (rest := []) (As := [.int (zi (z))]) ⟨hx, hb, hml, hown, hts⟩ (c_X4_isVersion l g ad σ (th) hW (z) (by omega)) (cwV 1 hts gX4_conflicts_X4_isVersion rfl rfl rfl (by decide +kernel) ⟨Nat.le_of_ble_eq_true rfl, Nat.le_of_ble_eq_true rfl⟩) (z_recv hK (hP 0 _ rfl) rfl) hP hK rfl hl.1 rfl (Nat.le_of_ble_eq_true rfl) dX4_conflicts_2 ⟨Nat.zero_le _, Nat.zero_le _⟩ ?_
  refine z_ifp_eq (P := IsV σ (z)) (tgt := 20) hx hb dX4_conflicts_5 (by decide)  (fun h5 => ?_) (fun h5 => ?_)
  · exfalso; omega
  ·
    refine lv_aload_n hx hb dX4_conflicts_8 rfl (lv_at hl 0 rfl) ?_
    refine lv_iload_n hx hb dX4_conflicts_9 rfl (lv_at hl 2 rfl) ?_
    refine ro_V (rest := []) (As := [.int (zi (y))]) ⟨hx, hb, hml, hown, hts⟩ (c_X4_isVersion l g ad σ (th) hW (y) (by omega)) (cwV 1 hts gX4_conflicts_X4_isVersion rfl rfl rfl (by decide +kernel) ⟨Nat.le_of_ble_eq_true rfl, Nat.le_of_ble_eq_true rfl⟩) (z_recv hK (hP 0 _ rfl) rfl) hP hK rfl hl.1 rfl (Nat.le_of_ble_eq_true rfl) dX4_conflicts_10 ⟨Nat.zero_le _, Nat.zero_le _⟩ ?_
    refine z_ifp_eq (P := IsV σ (y)) (tgt := 20) hx hb dX4_conflicts_13 (by decide)  (fun h13 => ?_) (fun h13 => ?_)
    ·
      refine z_iconst hx hb dX4_conflicts_20 ?_
      refine lv_istore_n (lv' := [(3, .int (zi (0))), (0, .ref (ad 0)), (1, .int (zi (z))), (2, .int (zi (y)))]) hx hb dX4_conflicts_21 rfl hl (by decide) rfl (fun ls hl => ?_)
      refine lv_aload_n hx hb dX4_conflicts_22 rfl (lv_at hl 1 rfl) ?_
      refine lv_iload_n hx hb dX4_conflicts_23 rfl (lv_at hl 0 rfl) ?_
      refine z_if_ne (tgt := 31) hx hb dX4_conflicts_24 (by decide) (by omega) (fun h24 => ?_) (fun h24 => ?_)
      ·
        refine lv_aload_n hx hb dX4_conflicts_31 rfl (lv_at hl 1 rfl) ?_
        refine lv_iload_n hx hb dX4_conflicts_32 rfl (lv_at hl 2 rfl) ?_
        refine lv_iload_n hx hb dX4_conflicts_33 rfl (lv_at hl 3 rfl) ?_
        refine ro_V (rest := [.ref (ad 0)]) (As := [.int (zi (z)), .int (zi (y))]) ⟨hx, hb, hml, hown, hts⟩ (c_X4_baseOf l g ad σ (th) hW (z) (y) (by omega) (by omega)) (cwV 2 hts gX4_conflicts_X4_baseOf rfl rfl rfl (by decide +kernel) ⟨Nat.le_of_ble_eq_true rfl, Nat.le_of_ble_eq_true rfl⟩) (z_recv hK (hP 0 _ rfl) rfl) hP hK rfl hl.1 rfl (Nat.le_of_ble_eq_true rfl) dX4_conflicts_34 ⟨Nat.zero_le _, Nat.zero_le _⟩ ?_
        refine z_iconst hx hb dX4_conflicts_37 ?_
        refine z_icmp_ne (tgt := 45) hx hb dX4_conflicts_38 (by decide) (by omega) (by omega) (fun h38 => ?_) (fun h38 => ?_)
        · exfalso; omega
        ·
          refine z_iconst hx hb dX4_conflicts_41 ?_
          refine lv_goto (tgt := 46) hx hb dX4_conflicts_42 (by decide) ?_
          refine wi_V (rest := []) (As := [.int (zi (2))]) ⟨hx, hb, hml, hown, hts⟩ (c_X4_fails l g ad σ (th) hW hd _ (2) (by omega)) (cwV 1 hts gX4_conflicts_X4_fails rfl rfl rfl (by decide +kernel) ⟨Nat.le_of_ble_eq_true rfl, Nat.le_of_ble_eq_true rfl⟩) (z_recv hK (hP 0 _ rfl) rfl) hP trivial hK rfl hl.1 rfl (Nat.le_of_ble_eq_true rfl) dX4_conflicts_46 ⟨Nat.zero_le _, Nat.zero_le _⟩ hS (MW_fr hS.1) (fun H locs hP _ _ hS => ?_)
          refine z_ifp_eq (P := 0 < (2)) (tgt := 54) hx hb dX4_conflicts_49 (by decide)  (fun h49 => ?_) (fun h49 => ?_)
          · exfalso; omega
          ·
            refine z_iconst hx hb dX4_conflicts_52 ?_
            exact z_wiret hx hb hr hlk dX4_conflicts_53 (by omega) hP hS
      · exfalso; omega
    ·
      refine z_iconst hx hb dX4_conflicts_16 ?_
      refine lv_goto (tgt := 21) hx hb dX4_conflicts_17 (by decide) ?_
      refine lv_istore_n (lv' := [(3, .int (zi (1))), (0, .ref (ad 0)), (1, .int (zi (z))), (2, .int (zi (y)))]) hx hb dX4_conflicts_21 rfl hl (by decide) rfl (fun ls hl => ?_)
      refine lv_aload_n hx hb dX4_conflicts_22 rfl (lv_at hl 1 rfl) ?_
      refine lv_iload_n hx hb dX4_conflicts_23 rfl (lv_at hl 0 rfl) ?_
      refine z_if_ne (tgt := 31) hx hb dX4_conflicts_24 (by decide) (by omega) (fun h24 => ?_) (fun h24 => ?_)
      ·
        refine lv_aload_n hx hb dX4_conflicts_31 rfl (lv_at hl 1 rfl) ?_
        refine lv_iload_n hx hb dX4_conflicts_32 rfl (lv_at hl 2 rfl) ?_
        refine lv_iload_n hx hb dX4_conflicts_33 rfl (lv_at hl 3 rfl) ?_
        refine ro_V (rest := [.ref (ad 0)]) (As := [.int (zi (z)), .int (zi (y))]) ⟨hx, hb, hml, hown, hts⟩ (c_X4_baseOf l g ad σ (th) hW (z) (y) (by omega) (by omega)) (cwV 2 hts gX4_conflicts_X4_baseOf rfl rfl rfl (by decide +kernel) ⟨Nat.le_of_ble_eq_true rfl, Nat.le_of_ble_eq_true rfl⟩) (z_recv hK (hP 0 _ rfl) rfl) hP hK rfl hl.1 rfl (Nat.le_of_ble_eq_true rfl) dX4_conflicts_34 ⟨Nat.zero_le _, Nat.zero_le _⟩ ?_
        refine z_iconst hx hb dX4_conflicts_37 ?_
        refine z_icmp_ne (tgt := 45) hx hb dX4_conflicts_38 (by decide) (by omega) (by omega) (fun h38 => ?_) (fun h38 => ?_)
        · exfalso; omega
        ·
          refine z_iconst hx hb dX4_conflicts_41 ?_
          refine lv_goto (tgt := 46) hx hb dX4_conflicts_42 (by decide) ?_
          refine wi_V (rest := []) (As := [.int (zi (2))]) ⟨hx, hb, hml, hown, hts⟩ (c_X4_fails l g ad σ (th) hW hd _ (2) (by omega)) (cwV 1 hts gX4_conflicts_X4_fails rfl rfl rfl (by decide +kernel) ⟨Nat.le_of_ble_eq_true rfl, Nat.le_of_ble_eq_true rfl⟩) (z_recv hK (hP 0 _ rfl) rfl) hP trivial hK rfl hl.1 rfl (Nat.le_of_ble_eq_true rfl) dX4_conflicts_46 ⟨Nat.zero_le _, Nat.zero_le _⟩ hS (MW_fr hS.1) (fun H locs hP _ _ hS => ?_)
          refine z_ifp_eq (P := 0 < (2)) (tgt := 54) hx hb dX4_conflicts_49 (by decide)  (fun h49 => ?_) (fun h49 => ?_)
          · exfalso; omega
          ·
            refine z_iconst hx hb dX4_conflicts_52 ?_
            exact z_wiret hx hb hr hlk dX4_conflicts_53 (by omega) hP hS
      · exfalso; omega

set_option maxHeartbeats 4000000 in
set_option maxRecDepth 100000 in
theorem c_X4_conflicts_0 (l : Launch) (g : gG) (ad : Nat → Nat) (σ : SG) (th : Int) (hW : WF σ) (hd : Dst ad) (sz : Nat) (i : Nat) (hi : (i : Int) < σ 0 0) (zi1 : Int) (hzi : zi1 = (i : Int)) (j : Nat) (hj : (j : Int) < σ 0 0) (zj : Int) (hzj : zj = (j : Int)) (bn : Nat) (hbn : bs (σ 2) zi1 zj (σ 0 0).toNat = (bn : Int))  : MI l yX4_conflicts wsX4_conflicts ({ frames := 2, cells := 0, slots := 0, locals := 48 }) g ad [.int (zi (zi1)), .int (zi (zj))] sz σ th (σ) (0) ((sset (cfB σ i j bn) (σ 1 i).toNat).toInt) := by
  refine ZM.ofW (cc := cX4_conflicts) (maxL := 7) (ret := (some .int)) (by decide) rfl (Nat.le_of_ble_eq_true rfl) ?_
  intro p e s m below meth c ls hx hb hr hml hown hts hlk hP hK hl _
  obtain ⟨rfl, hP, -⟩ := hP
  have hS : va_S (va_A (MWs g ad σ th) s.heap.size) s.heap s.heap [] := va_S.rf
  have hown : s.vm.findClass RX4 = some m.cls := hown
  have hl : lv_has ls 7 [(0, .ref (ad 0)), (1, .int (zi (zi1))), (2, .int (zi (zj)))] := hl
  have hiX4 : ∀ w ∈ u_ws RX4 TX4 14, w ∈ wsX4_conflicts := by decide +kernel
  have hn := hW.n
  have hbsr := bs_r (σ 2) zi1 zj (σ 0 0).toNat
  have hbi := hW.bars hi
  refine lv_aload_n hx hb dX4_conflicts_0 rfl (lv_at hl 0 rfl) ?_
  refine lv_iload_n hx hb dX4_conflicts_1 rfl (lv_at hl 1 rfl) ?_
  refine ro_V (rest := []) (As := [.int (zi (zi1))]) ⟨hx, hb, hml, hown, hts⟩ (c_X4_isVersion l g ad σ (th) hW (zi1) (by omega)) (cwV 1 hts gX4_conflicts_X4_isVersion rfl rfl rfl (by decide +kernel) ⟨Nat.le_of_ble_eq_true rfl, Nat.le_of_ble_eq_true rfl⟩) (z_recv hK (hP 0 _ rfl) rfl) hP hK rfl hl.1 rfl (Nat.le_of_ble_eq_true rfl) dX4_conflicts_2 ⟨Nat.zero_le _, Nat.zero_le _⟩ ?_
  refine z_ifp_eq (P := IsV σ (zi1)) (tgt := 20) hx hb dX4_conflicts_5 (by decide)  (fun h5 => ?_) (fun h5 => ?_)
  · exfalso; omega
  ·
    refine lv_aload_n hx hb dX4_conflicts_8 rfl (lv_at hl 0 rfl) ?_
    refine lv_iload_n hx hb dX4_conflicts_9 rfl (lv_at hl 2 rfl) ?_
    refine ro_V (rest := []) (As := [.int (zi (zj))]) ⟨hx, hb, hml, hown, hts⟩ (c_X4_isVersion l g ad σ (th) hW (zj) (by omega)) (cwV 1 hts gX4_conflicts_X4_isVersion rfl rfl rfl (by decide +kernel) ⟨Nat.le_of_ble_eq_true rfl, Nat.le_of_ble_eq_true rfl⟩) (z_recv hK (hP 0 _ rfl) rfl) hP hK rfl hl.1 rfl (Nat.le_of_ble_eq_true rfl) dX4_conflicts_10 ⟨Nat.zero_le _, Nat.zero_le _⟩ ?_
    refine z_ifp_eq (P := IsV σ (zj)) (tgt := 20) hx hb dX4_conflicts_13 (by decide)  (fun h13 => ?_) (fun h13 => ?_)
    ·
      refine z_iconst hx hb dX4_conflicts_20 ?_
      refine lv_istore_n (lv' := [(3, .int (zi (0))), (0, .ref (ad 0)), (1, .int (zi (zi1))), (2, .int (zi (zj)))]) hx hb dX4_conflicts_21 rfl hl (by decide) rfl (fun ls hl => ?_)
      refine lv_aload_n hx hb dX4_conflicts_22 rfl (lv_at hl 1 rfl) ?_
      refine lv_iload_n hx hb dX4_conflicts_23 rfl (lv_at hl 0 rfl) ?_
      refine z_if_ne (tgt := 31) hx hb dX4_conflicts_24 (by decide) (by omega) (fun h24 => ?_) (fun h24 => ?_)
      ·
        refine lv_aload_n hx hb dX4_conflicts_31 rfl (lv_at hl 1 rfl) ?_
        refine lv_iload_n hx hb dX4_conflicts_32 rfl (lv_at hl 2 rfl) ?_
        refine lv_iload_n hx hb dX4_conflicts_33 rfl (lv_at hl 3 rfl) ?_
        refine ro_V (rest := [.ref (ad 0)]) (As := [.int (zi (zi1)), .int (zi (zj))]) ⟨hx, hb, hml, hown, hts⟩ (c_X4_baseOf l g ad σ (th) hW (zi1) (zj) (by omega) (by omega)) (cwV 2 hts gX4_conflicts_X4_baseOf rfl rfl rfl (by decide +kernel) ⟨Nat.le_of_ble_eq_true rfl, Nat.le_of_ble_eq_true rfl⟩) (z_recv hK (hP 0 _ rfl) rfl) hP hK rfl hl.1 rfl (Nat.le_of_ble_eq_true rfl) dX4_conflicts_34 ⟨Nat.zero_le _, Nat.zero_le _⟩ ?_
        refine z_iconst hx hb dX4_conflicts_37 ?_
        refine z_icmp_ne (tgt := 45) hx hb dX4_conflicts_38 (by decide) (by omega) (by omega) (fun h38 => ?_) (fun h38 => ?_)
        ·
          refine z_iconst hx hb dX4_conflicts_45 ?_
          refine wi_V (rest := []) (As := [.int (zi (0))]) ⟨hx, hb, hml, hown, hts⟩ (c_X4_fails l g ad σ (th) hW hd _ (0) (by omega)) (cwV 1 hts gX4_conflicts_X4_fails rfl rfl rfl (by decide +kernel) ⟨Nat.le_of_ble_eq_true rfl, Nat.le_of_ble_eq_true rfl⟩) (z_recv hK (hP 0 _ rfl) rfl) hP trivial hK rfl hl.1 rfl (Nat.le_of_ble_eq_true rfl) dX4_conflicts_46 ⟨Nat.zero_le _, Nat.zero_le _⟩ hS (MW_fr hS.1) (fun H locs hP _ _ hS => ?_)
          refine z_ifp_eq (P := 0 < (0)) (tgt := 54) hx hb dX4_conflicts_49 (by decide)  (fun h49 => ?_) (fun h49 => ?_)
          ·
            refine lv_aload_n hx hb dX4_conflicts_54 rfl (lv_at hl 1 rfl) ?_
            refine lv_iload_n hx hb dX4_conflicts_55 rfl (lv_at hl 2 rfl) ?_
            refine lv_iload_n hx hb dX4_conflicts_56 rfl (lv_at hl 3 rfl) ?_
            refine ro_V (rest := []) (As := [.int (zi (zi1)), .int (zi (zj))]) ⟨hx, hb, hml, hown, hts⟩ (c_X4_baseOf l g ad σ (0) hW (zi1) (zj) (by omega) (by omega)) (cwV 2 hts gX4_conflicts_X4_baseOf rfl rfl rfl (by decide +kernel) ⟨Nat.le_of_ble_eq_true rfl, Nat.le_of_ble_eq_true rfl⟩) (z_recv hK (hP 0 _ rfl) rfl) hP hK rfl hl.1 rfl (Nat.le_of_ble_eq_true rfl) dX4_conflicts_57 ⟨Nat.zero_le _, Nat.zero_le _⟩ ?_
            refine z_top (b := (bn : Int)) (hbn) ?_
            refine lv_istore (lv' := [(4, .int (zi ((bn : Int)))), (3, .int (zi (0))), (0, .ref (ad 0)), (1, .int (zi (zi1))), (2, .int (zi (zj)))]) hx hb dX4_conflicts_60 hl (by decide) rfl (fun ls hl => ?_)
            refine z_iconst hx hb dX4_conflicts_62 ?_
            refine z_xtop (y := sset (cfB σ i j bn) 0) (rfl) ?_
            refine lv_istore (lv' := [(5, .int (sset (cfB σ i j bn) 0)), (4, .int (zi ((bn : Int)))), (3, .int (zi (0))), (0, .ref (ad 0)), (1, .int (zi (zi1))), (2, .int (zi (zj)))]) hx hb dX4_conflicts_63 hl (by decide) rfl (fun ls hl => ?_)
            refine z_iconst hx hb dX4_conflicts_65 ?_
            refine z_top (b := ((0 : Nat) : Int)) (rfl) ?_
            refine lv_istore (lv' := [(6, .int (zi (((0 : Nat) : Int)))), (5, .int (sset (cfB σ i j bn) 0)), (4, .int (zi ((bn : Int)))), (3, .int (zi (0))), (0, .ref (ad 0)), (1, .int (zi (zi1))), (2, .int (zi (zj)))]) hx hb dX4_conflicts_66 hl (by decide) rfl (fun ls hl => ?_)
            have loop68 : ∀ (d b : Nat), (b : Int) ≤ σ 1 i → (σ 1 i).toNat - b = d → ∀ (H : Heap) (locs : List Loc), va_P g.1 vwCl (MWs g ad σ (0)) H → va_S (va_A (MWs g ad σ th) s.heap.size) s.heap H locs → ∀ ls : Array Slot, lv_has ls 7 [(6, .int (zi ((b : Int)))), (5, .int (sset (cfB σ i j bn) b)), (4, .int (zi ((bn : Int)))), (3, .int (zi (1))), (0, .ref (ad 0)), (1, .int (zi (zi1))), (2, .int (zi (zj)))] → W p l e ({ frames := 2, cells := 0, slots := 0, locals := 48 }) s m ([.ref (ad 0), .int (zi (zi1)), .int (zi (zj))] : List Value).toArray below meth c H locs 0 0 (MQ below (va_Qi (fun z9 (_ : Unit) => z9 = zi ((sset (cfB σ i j bn) (σ 1 i).toNat).toInt)) (fun _ t9 => va_P g.1 vwCl (MWs g ad (σ) (0)) t9.heap) (va_A (MWs g ad σ th) s.heap.size)) ([.ref (ad 0), .int (zi (zi1)), .int (zi (zj))] : List Value).toArray s 0 0 (va_A (MWs g ad σ th) s.heap.size)) (F0 m 68 ls []) := by
              intro d
              induction d with
              | zero =>
                intro b hb hd2 H locs hP hS ls hl
                have eb : b = (σ 1 i).toNat := by omega
                refine lv_iload hx hb dX4_conflicts_68 (lv_at hl 0 rfl) ?_
                refine lv_aload_n hx hb dX4_conflicts_70 rfl (lv_at hl 4 rfl) ?_
                refine z_get (C := RX4) (T := TX4) (N := 14) hx hb hts hiX4 hown hK (hP 0 _ rfl) rfl 1 (by decide) (hts (.fieldLink RX4 7 "HarmoniumDeskModel" "bars" "[I") (by decide +kernel)) rfl rfl dX4_conflicts_71 ?_
                refine lv_iload_n hx hb dX4_conflicts_74 rfl (lv_at hl 5 rfl) ?_
                refine z_iald hx hb hK (hP 1 _ rfl) (i) (by omega) (by omega) (by decide) dX4_conflicts_75 ?_
                refine z_icmp_ge (tgt := 133) hx hb dX4_conflicts_76 (by decide) (by omega) (by omega) (fun h76 => ?_) (fun h76 => ?_)
                ·
                  refine lv_iload hx hb dX4_conflicts_133 (lv_at hl 1 rfl) ?_
                  refine z_xtop (y := zi ((sset (cfB σ i j bn) (σ 1 i).toNat).toInt)) (by rw [eb]; exact zi_of _) ?_
                  exact z_wiret hx hb hr hlk dX4_conflicts_135 (rfl) hP hS
                · exfalso; omega
              | succ d ih =>
                intro b hb hd2 H locs hP hS ls hl
                refine lv_iload hx hb dX4_conflicts_68 (lv_at hl 0 rfl) ?_
                refine lv_aload_n hx hb dX4_conflicts_70 rfl (lv_at hl 4 rfl) ?_
                refine z_get (C := RX4) (T := TX4) (N := 14) hx hb hts hiX4 hown hK (hP 0 _ rfl) rfl 1 (by decide) (hts (.fieldLink RX4 7 "HarmoniumDeskModel" "bars" "[I") (by decide +kernel)) rfl rfl dX4_conflicts_71 ?_
                refine lv_iload_n hx hb dX4_conflicts_74 rfl (lv_at hl 5 rfl) ?_
                refine z_iald hx hb hK (hP 1 _ rfl) (i) (by omega) (by omega) (by decide) dX4_conflicts_75 ?_
                refine z_icmp_ge (tgt := 133) hx hb dX4_conflicts_76 (by decide) (by omega) (by omega) (fun h76 => ?_) (fun h76 => ?_)
                · exfalso; omega
                ·
                  refine lv_iload hx hb dX4_conflicts_79 (lv_at hl 1 rfl) ?_
                  refine lv_aload_n hx hb dX4_conflicts_81 rfl (lv_at hl 4 rfl) ?_
                  refine lv_iload_n hx hb dX4_conflicts_82 rfl (lv_at hl 5 rfl) ?_
                  refine lv_iload_n hx hb dX4_conflicts_83 rfl (lv_at hl 6 rfl) ?_
                  refine lv_iload hx hb dX4_conflicts_84 (lv_at hl 0 rfl) ?_
                  refine ro_V (rest := [.int (sset (cfB σ i j bn) b)]) (As := [.int (zi (zi1)), .int (zi (zj)), .int (zi ((b : Int)))]) ⟨hx, hb, hml, hown, hts⟩ (c_X4_areAlike l g ad σ (0) hW i hi (zi1) (by omega) j hj (zj) (by omega) b (by omega) ((b : Int)) (by omega)) (cwV 3 hts gX4_conflicts_X4_areAlike rfl rfl rfl (by decide +kernel) ⟨Nat.le_of_ble_eq_true rfl, Nat.le_of_ble_eq_true rfl⟩) (z_recv hK (hP 0 _ rfl) rfl) hP hK rfl hl.1 rfl (Nat.le_of_ble_eq_true rfl) dX4_conflicts_86 ⟨Nat.zero_le _, Nat.zero_le _⟩ ?_
                  refine z_ifp_ne (P := Al σ i j b) (tgt := 123) hx hb dX4_conflicts_89 (by decide)  (fun h89 => ?_) (fun h89 => ?_)
                  ·
                    refine z_iconst hx hb dX4_conflicts_123 ?_
                    refine lv_ior hx hb dX4_conflicts_124 ?_
                    refine z_xtop (y := sset (cfB σ i j bn) (b + 1)) (sset_f (cfB σ i j bn) b (fun hh => by have hh := of_decide_eq_true hh; first | exact hh.1 (by assumption) | exact hh.2.1 (by assumption) | exact hh.2.2 (by assumption))) ?_
                    refine lv_istore (lv' := [(5, .int (sset (cfB σ i j bn) (b + 1))), (6, .int (zi ((b : Int)))), (4, .int (zi ((bn : Int)))), (3, .int (zi (1))), (0, .ref (ad 0)), (1, .int (zi (zi1))), (2, .int (zi (zj)))]) hx hb dX4_conflicts_125 hl (by decide) rfl (fun ls hl => ?_)
                    refine z_iinc (b := ((b + 1 : Nat) : Int)) (lv' := [(6, .int (zi (((b + 1 : Nat) : Int)))), (5, .int (sset (cfB σ i j bn) (b + 1))), (4, .int (zi ((bn : Int)))), (3, .int (zi (1))), (0, .ref (ad 0)), (1, .int (zi (zi1))), (2, .int (zi (zj)))]) hx hb dX4_conflicts_127 hl (k := 1) rfl (by omega) (by decide) rfl (fun ls hl => ?_)
                    refine lv_goto (tgt := 68) hx hb dX4_conflicts_130 (by decide) ?_
                    exact ih (b + 1) (by omega) (by omega) H locs hP hS ls (lv_sub hl [0, 1, 2, 3, 4, 5, 6] rfl)
                  ·
                    refine lv_aload_n hx hb dX4_conflicts_92 rfl (lv_at hl 4 rfl) ?_
                    refine lv_iload_n hx hb dX4_conflicts_93 rfl (lv_at hl 5 rfl) ?_
                    refine lv_iload hx hb dX4_conflicts_94 (lv_at hl 2 rfl) ?_
                    refine lv_iload hx hb dX4_conflicts_96 (lv_at hl 0 rfl) ?_
                    refine ro_V (rest := [.int (sset (cfB σ i j bn) b)]) (As := [.int (zi (zi1)), .int (zi ((bn : Int))), .int (zi ((b : Int)))]) ⟨hx, hb, hml, hown, hts⟩ (c_X4_areAlike l g ad σ (0) hW i hi (zi1) (by omega) bn (by omega) ((bn : Int)) (by omega) b (by omega) ((b : Int)) (by omega)) (cwV 3 hts gX4_conflicts_X4_areAlike rfl rfl rfl (by decide +kernel) ⟨Nat.le_of_ble_eq_true rfl, Nat.le_of_ble_eq_true rfl⟩) (z_recv hK (hP 0 _ rfl) rfl) hP hK rfl hl.1 rfl (Nat.le_of_ble_eq_true rfl) dX4_conflicts_98 ⟨Nat.zero_le _, Nat.zero_le _⟩ ?_
                    refine z_ifp_ne (P := Al σ i bn b) (tgt := 123) hx hb dX4_conflicts_101 (by decide)  (fun h101 => ?_) (fun h101 => ?_)
                    ·
                      refine z_iconst hx hb dX4_conflicts_123 ?_
                      refine lv_ior hx hb dX4_conflicts_124 ?_
                      refine z_xtop (y := sset (cfB σ i j bn) (b + 1)) (sset_f (cfB σ i j bn) b (fun hh => by have hh := of_decide_eq_true hh; first | exact hh.1 (by assumption) | exact hh.2.1 (by assumption) | exact hh.2.2 (by assumption))) ?_
                      refine lv_istore (lv' := [(5, .int (sset (cfB σ i j bn) (b + 1))), (6, .int (zi ((b : Int)))), (4, .int (zi ((bn : Int)))), (3, .int (zi (1))), (0, .ref (ad 0)), (1, .int (zi (zi1))), (2, .int (zi (zj)))]) hx hb dX4_conflicts_125 hl (by decide) rfl (fun ls hl => ?_)
                      refine z_iinc (b := ((b + 1 : Nat) : Int)) (lv' := [(6, .int (zi (((b + 1 : Nat) : Int)))), (5, .int (sset (cfB σ i j bn) (b + 1))), (4, .int (zi ((bn : Int)))), (3, .int (zi (1))), (0, .ref (ad 0)), (1, .int (zi (zi1))), (2, .int (zi (zj)))]) hx hb dX4_conflicts_127 hl (k := 1) rfl (by omega) (by decide) rfl (fun ls hl => ?_)
                      refine lv_goto (tgt := 68) hx hb dX4_conflicts_130 (by decide) ?_
                      exact ih (b + 1) (by omega) (by omega) H locs hP hS ls (lv_sub hl [0, 1, 2, 3, 4, 5, 6] rfl)
                    ·
                      refine lv_aload_n hx hb dX4_conflicts_104 rfl (lv_at hl 4 rfl) ?_
                      refine lv_iload_n hx hb dX4_conflicts_105 rfl (lv_at hl 6 rfl) ?_
                      refine lv_iload hx hb dX4_conflicts_106 (lv_at hl 2 rfl) ?_
                      refine lv_iload hx hb dX4_conflicts_108 (lv_at hl 0 rfl) ?_
                      refine ro_V (rest := [.int (sset (cfB σ i j bn) b)]) (As := [.int (zi (zj)), .int (zi ((bn : Int))), .int (zi ((b : Int)))]) ⟨hx, hb, hml, hown, hts⟩ (c_X4_areAlike l g ad σ (0) hW j hj (zj) (by omega) bn (by omega) ((bn : Int)) (by omega) b (by omega) ((b : Int)) (by omega)) (cwV 3 hts gX4_conflicts_X4_areAlike rfl rfl rfl (by decide +kernel) ⟨Nat.le_of_ble_eq_true rfl, Nat.le_of_ble_eq_true rfl⟩) (z_recv hK (hP 0 _ rfl) rfl) hP hK rfl hl.1 rfl (Nat.le_of_ble_eq_true rfl) dX4_conflicts_110 ⟨Nat.zero_le _, Nat.zero_le _⟩ ?_
                      refine z_ifp_ne (P := Al σ j bn b) (tgt := 123) hx hb dX4_conflicts_113 (by decide)  (fun h113 => ?_) (fun h113 => ?_)
                      ·
                        refine z_iconst hx hb dX4_conflicts_123 ?_
                        refine lv_ior hx hb dX4_conflicts_124 ?_
                        refine z_xtop (y := sset (cfB σ i j bn) (b + 1)) (sset_f (cfB σ i j bn) b (fun hh => by have hh := of_decide_eq_true hh; first | exact hh.1 (by assumption) | exact hh.2.1 (by assumption) | exact hh.2.2 (by assumption))) ?_
                        refine lv_istore (lv' := [(5, .int (sset (cfB σ i j bn) (b + 1))), (6, .int (zi ((b : Int)))), (4, .int (zi ((bn : Int)))), (3, .int (zi (1))), (0, .ref (ad 0)), (1, .int (zi (zi1))), (2, .int (zi (zj)))]) hx hb dX4_conflicts_125 hl (by decide) rfl (fun ls hl => ?_)
                        refine z_iinc (b := ((b + 1 : Nat) : Int)) (lv' := [(6, .int (zi (((b + 1 : Nat) : Int)))), (5, .int (sset (cfB σ i j bn) (b + 1))), (4, .int (zi ((bn : Int)))), (3, .int (zi (1))), (0, .ref (ad 0)), (1, .int (zi (zi1))), (2, .int (zi (zj)))]) hx hb dX4_conflicts_127 hl (k := 1) rfl (by omega) (by decide) rfl (fun ls hl => ?_)
                        refine lv_goto (tgt := 68) hx hb dX4_conflicts_130 (by decide) ?_
                        exact ih (b + 1) (by omega) (by omega) H locs hP hS ls (lv_sub hl [0, 1, 2, 3, 4, 5, 6] rfl)
                      ·
                        refine z_iconst hx hb dX4_conflicts_116 ?_
                        refine lv_iload hx hb dX4_conflicts_117 (lv_at hl 0 rfl) ?_
                        refine lv_ishl hx hb dX4_conflicts_119 ?_
                        refine lv_goto (tgt := 124) hx hb dX4_conflicts_120 (by decide) ?_
                        refine lv_ior hx hb dX4_conflicts_124 ?_
                        refine z_xtop (y := sset (cfB σ i j bn) (b + 1)) (sset_t (cfB σ i j bn) b (decide_eq_true ⟨by assumption, by assumption, by assumption⟩)) ?_
                        refine lv_istore (lv' := [(5, .int (sset (cfB σ i j bn) (b + 1))), (6, .int (zi ((b : Int)))), (4, .int (zi ((bn : Int)))), (3, .int (zi (1))), (0, .ref (ad 0)), (1, .int (zi (zi1))), (2, .int (zi (zj)))]) hx hb dX4_conflicts_125 hl (by decide) rfl (fun ls hl => ?_)
                        refine z_iinc (b := ((b + 1 : Nat) : Int)) (lv' := [(6, .int (zi (((b + 1 : Nat) : Int)))), (5, .int (sset (cfB σ i j bn) (b + 1))), (4, .int (zi ((bn : Int)))), (3, .int (zi (1))), (0, .ref (ad 0)), (1, .int (zi (zi1))), (2, .int (zi (zj)))]) hx hb dX4_conflicts_127 hl (k := 1) rfl (by omega) (by decide) rfl (fun ls hl => ?_)
                        refine lv_goto (tgt := 68) hx hb dX4_conflicts_130 (by decide) ?_
                        exact ih (b + 1) (by omega) (by omega) H locs hP hS ls (lv_sub hl [0, 1, 2, 3, 4, 5, 6] rfl)
            exact loop68 _ 0 (by omega) rfl _ _ hP hS ls (lv_sub hl [0, 1, 2, 3, 4, 5, 6] rfl)
          · exfalso; omega
        · exfalso; omega
      · exfalso; omega
    ·
      refine z_iconst hx hb dX4_conflicts_16 ?_
      refine lv_goto (tgt := 21) hx hb dX4_conflicts_17 (by decide) ?_
      refine lv_istore_n (lv' := [(3, .int (zi (1))), (0, .ref (ad 0)), (1, .int (zi (zi1))), (2, .int (zi (zj)))]) hx hb dX4_conflicts_21 rfl hl (by decide) rfl (fun ls hl => ?_)
      refine lv_aload_n hx hb dX4_conflicts_22 rfl (lv_at hl 1 rfl) ?_
      refine lv_iload_n hx hb dX4_conflicts_23 rfl (lv_at hl 0 rfl) ?_
      refine z_if_ne (tgt := 31) hx hb dX4_conflicts_24 (by decide) (by omega) (fun h24 => ?_) (fun h24 => ?_)
      ·
        refine lv_aload_n hx hb dX4_conflicts_31 rfl (lv_at hl 1 rfl) ?_
        refine lv_iload_n hx hb dX4_conflicts_32 rfl (lv_at hl 2 rfl) ?_
        refine lv_iload_n hx hb dX4_conflicts_33 rfl (lv_at hl 3 rfl) ?_
        refine ro_V (rest := [.ref (ad 0)]) (As := [.int (zi (zi1)), .int (zi (zj))]) ⟨hx, hb, hml, hown, hts⟩ (c_X4_baseOf l g ad σ (th) hW (zi1) (zj) (by omega) (by omega)) (cwV 2 hts gX4_conflicts_X4_baseOf rfl rfl rfl (by decide +kernel) ⟨Nat.le_of_ble_eq_true rfl, Nat.le_of_ble_eq_true rfl⟩) (z_recv hK (hP 0 _ rfl) rfl) hP hK rfl hl.1 rfl (Nat.le_of_ble_eq_true rfl) dX4_conflicts_34 ⟨Nat.zero_le _, Nat.zero_le _⟩ ?_
        refine z_iconst hx hb dX4_conflicts_37 ?_
        refine z_icmp_ne (tgt := 45) hx hb dX4_conflicts_38 (by decide) (by omega) (by omega) (fun h38 => ?_) (fun h38 => ?_)
        ·
          refine z_iconst hx hb dX4_conflicts_45 ?_
          refine wi_V (rest := []) (As := [.int (zi (0))]) ⟨hx, hb, hml, hown, hts⟩ (c_X4_fails l g ad σ (th) hW hd _ (0) (by omega)) (cwV 1 hts gX4_conflicts_X4_fails rfl rfl rfl (by decide +kernel) ⟨Nat.le_of_ble_eq_true rfl, Nat.le_of_ble_eq_true rfl⟩) (z_recv hK (hP 0 _ rfl) rfl) hP trivial hK rfl hl.1 rfl (Nat.le_of_ble_eq_true rfl) dX4_conflicts_46 ⟨Nat.zero_le _, Nat.zero_le _⟩ hS (MW_fr hS.1) (fun H locs hP _ _ hS => ?_)
          refine z_ifp_eq (P := 0 < (0)) (tgt := 54) hx hb dX4_conflicts_49 (by decide)  (fun h49 => ?_) (fun h49 => ?_)
          ·
            refine lv_aload_n hx hb dX4_conflicts_54 rfl (lv_at hl 1 rfl) ?_
            refine lv_iload_n hx hb dX4_conflicts_55 rfl (lv_at hl 2 rfl) ?_
            refine lv_iload_n hx hb dX4_conflicts_56 rfl (lv_at hl 3 rfl) ?_
            refine ro_V (rest := []) (As := [.int (zi (zi1)), .int (zi (zj))]) ⟨hx, hb, hml, hown, hts⟩ (c_X4_baseOf l g ad σ (0) hW (zi1) (zj) (by omega) (by omega)) (cwV 2 hts gX4_conflicts_X4_baseOf rfl rfl rfl (by decide +kernel) ⟨Nat.le_of_ble_eq_true rfl, Nat.le_of_ble_eq_true rfl⟩) (z_recv hK (hP 0 _ rfl) rfl) hP hK rfl hl.1 rfl (Nat.le_of_ble_eq_true rfl) dX4_conflicts_57 ⟨Nat.zero_le _, Nat.zero_le _⟩ ?_
            refine z_top (b := (bn : Int)) (hbn) ?_
            refine lv_istore (lv' := [(4, .int (zi ((bn : Int)))), (3, .int (zi (1))), (0, .ref (ad 0)), (1, .int (zi (zi1))), (2, .int (zi (zj)))]) hx hb dX4_conflicts_60 hl (by decide) rfl (fun ls hl => ?_)
            refine z_iconst hx hb dX4_conflicts_62 ?_
            refine z_xtop (y := sset (cfB σ i j bn) 0) (rfl) ?_
            refine lv_istore (lv' := [(5, .int (sset (cfB σ i j bn) 0)), (4, .int (zi ((bn : Int)))), (3, .int (zi (1))), (0, .ref (ad 0)), (1, .int (zi (zi1))), (2, .int (zi (zj)))]) hx hb dX4_conflicts_63 hl (by decide) rfl (fun ls hl => ?_)
            refine z_iconst hx hb dX4_conflicts_65 ?_
            refine z_top (b := ((0 : Nat) : Int)) (rfl) ?_
            refine lv_istore (lv' := [(6, .int (zi (((0 : Nat) : Int)))), (5, .int (sset (cfB σ i j bn) 0)), (4, .int (zi ((bn : Int)))), (3, .int (zi (1))), (0, .ref (ad 0)), (1, .int (zi (zi1))), (2, .int (zi (zj)))]) hx hb dX4_conflicts_66 hl (by decide) rfl (fun ls hl => ?_)
            exact ih (b + 1) (by omega) (by omega) H locs hP hS ls (lv_sub hl [0, 1, 2, 3, 4, 5, 6] rfl)
          · exfalso; omega
        · exfalso; omega
      · exfalso; omega

set_option maxHeartbeats 4000000 in
set_option maxRecDepth 100000 in
theorem c_X4_merge_1 (l : Launch) (g : gG) (ad : Nat → Nat) (σ : SG) (th : Int) (hW : WF σ) (hd : Dst ad) (sz : Nat) (z y : Int) (hz : zr z) (hy : zr y) (hbad : ¬ (IsV σ z ∧ IsV σ y)) : MI l yX4_merge wsX4_merge ({ frames := 2, cells := 0, slots := 0, locals := 43 }) g ad [.int (zi (z)), .int (zi (y))] sz σ th (σ) (1) (0) := by
  refine ZM.ofW (cc := cX4_merge) (maxL := 7) (ret := (some .int)) (by decide) rfl (Nat.le_of_ble_eq_true rfl) ?_
  intro p e s m below meth c ls hx hb hr hml hown hts hlk hP hK hl _
  obtain ⟨rfl, hP, -⟩ := hP
  have hS : va_S (va_A (MWs g ad σ th) s.heap.size) s.heap s.heap [] := va_S.rf
  have hown : s.vm.findClass RX4 = some m.cls := hown
  have hl : lv_has ls 7 [(0, .ref (ad 0)), (1, .int (zi (z))), (2, .int (zi (y)))] := hl
  have hn := hW.n
  refine lv_aload_n hx hb dX4_merge_0 rfl (lv_at hl 0 rfl) ?_
  refine lv_iload_n hx hb dX4_merge_1 rfl (lv_at hl 1 rfl) ?_
  refine ro_V (rest := []) (As := [.int (zi (z))]) ⟨hx, hb, hml, hown, hts⟩ (c_X4_isVersion l g ad σ (th) hW (z) (by omega)) (cwV 1 hts gX4_merge_X4_isVersion rfl rfl rfl (by decide +kernel) ⟨Nat.le_of_ble_eq_true rfl, Nat.le_of_ble_eq_true rfl⟩) (z_recv hK (hP 0 _ rfl) rfl) hP hK rfl hl.1 rfl (Nat.le_of_ble_eq_true rfl) dX4_merge_2 ⟨Nat.zero_le _, Nat.zero_le _⟩ ?_
  refine z_ifp_eq (P := IsV σ (z)) (tgt := 20) hx hb dX4_merge_5 (by decide)  (fun h5 => ?_) (fun h5 => ?_)
  ·
    refine z_iconst hx hb dX4_merge_20 ?_
    refine lv_istore_n (lv' := [(3, .int (zi (0))), (0, .ref (ad 0)), (1, .int (zi (z))), (2, .int (zi (y)))]) hx hb dX4_merge_21 rfl hl (by decide) rfl (fun ls hl => ?_)
    refine lv_aload_n hx hb dX4_merge_22 rfl (lv_at hl 1 rfl) ?_
    refine lv_iload_n hx hb dX4_merge_23 rfl (lv_at hl 0 rfl) ?_
    refine z_if_ne (tgt := 31) hx hb dX4_merge_24 (by decide) (by omega) (fun h24 => ?_) (fun h24 => ?_)
    · exfalso; omega
    ·
      refine z_iconst hx hb dX4_merge_27 ?_
      refine lv_goto (tgt := 64) hx hb dX4_merge_28 (by decide) ?_
      refine wi_V (rest := []) (As := [.int (zi (1))]) ⟨hx, hb, hml, hown, hts⟩ (c_X4_fails l g ad σ (th) hW hd _ (1) (by omega)) (cwV 1 hts gX4_merge_X4_fails rfl rfl rfl (by decide +kernel) ⟨Nat.le_of_ble_eq_true rfl, Nat.le_of_ble_eq_true rfl⟩) (z_recv hK (hP 0 _ rfl) rfl) hP trivial hK rfl hl.1 rfl (Nat.le_of_ble_eq_true rfl) dX4_merge_64 ⟨Nat.zero_le _, Nat.zero_le _⟩ hS (MW_fr hS.1) (fun H locs hP _ _ hS => ?_)
      refine z_ifp_eq (P := 0 < (1)) (tgt := 72) hx hb dX4_merge_67 (by decide)  (fun h67 => ?_) (fun h67 => ?_)
      · exfalso; omega
      ·
        refine z_iconst hx hb dX4_merge_70 ?_
        exact z_wiret hx hb hr hlk dX4_merge_71 (by omega) hP hS
  ·
    refine lv_aload_n hx hb dX4_merge_8 rfl (lv_at hl 0 rfl) ?_
    refine lv_iload_n hx hb dX4_merge_9 rfl (lv_at hl 2 rfl) ?_
    refine ro_V (rest := []) (As := [.int (zi (y))]) ⟨hx, hb, hml, hown, hts⟩ (c_X4_isVersion l g ad σ (th) hW (y) (by omega)) (cwV 1 hts gX4_merge_X4_isVersion rfl rfl rfl (by decide +kernel) ⟨Nat.le_of_ble_eq_true rfl, Nat.le_of_ble_eq_true rfl⟩) (z_recv hK (hP 0 _ rfl) rfl) hP hK rfl hl.1 rfl (Nat.le_of_ble_eq_true rfl) dX4_merge_10 ⟨Nat.zero_le _, Nat.zero_le _⟩ ?_
    refine z_ifp_eq (P := IsV σ (y)) (tgt := 20) hx hb dX4_merge_13 (by decide)  (fun h13 => ?_) (fun h13 => ?_)
    ·
      refine z_iconst hx hb dX4_merge_20 ?_
      refine lv_istore_n (lv' := [(3, .int (zi (0))), (0, .ref (ad 0)), (1, .int (zi (z))), (2, .int (zi (y)))]) hx hb dX4_merge_21 rfl hl (by decide) rfl (fun ls hl => ?_)
      refine lv_aload_n hx hb dX4_merge_22 rfl (lv_at hl 1 rfl) ?_
      refine lv_iload_n hx hb dX4_merge_23 rfl (lv_at hl 0 rfl) ?_
      refine z_if_ne (tgt := 31) hx hb dX4_merge_24 (by decide) (by omega) (fun h24 => ?_) (fun h24 => ?_)
      · exfalso; omega
      ·
        refine z_iconst hx hb dX4_merge_27 ?_
        refine lv_goto (tgt := 64) hx hb dX4_merge_28 (by decide) ?_
        refine wi_V (rest := []) (As := [.int (zi (1))]) ⟨hx, hb, hml, hown, hts⟩ (c_X4_fails l g ad σ (th) hW hd _ (1) (by omega)) (cwV 1 hts gX4_merge_X4_fails rfl rfl rfl (by decide +kernel) ⟨Nat.le_of_ble_eq_true rfl, Nat.le_of_ble_eq_true rfl⟩) (z_recv hK (hP 0 _ rfl) rfl) hP trivial hK rfl hl.1 rfl (Nat.le_of_ble_eq_true rfl) dX4_merge_64 ⟨Nat.zero_le _, Nat.zero_le _⟩ hS (MW_fr hS.1) (fun H locs hP _ _ hS => ?_)
        refine z_ifp_eq (P := 0 < (1)) (tgt := 72) hx hb dX4_merge_67 (by decide)  (fun h67 => ?_) (fun h67 => ?_)
        · exfalso; omega
        ·
          refine z_iconst hx hb dX4_merge_70 ?_
          exact z_wiret hx hb hr hlk dX4_merge_71 (by omega) hP hS
    ·
      refine z_iconst hx hb dX4_merge_16 ?_
      refine lv_goto (tgt := 21) hx hb dX4_merge_17 (by decide) ?_
      refine lv_istore_n (lv' := [(3, .int (zi (1))), (0, .ref (ad 0)), (1, .int (zi (z))), (2, .int (zi (y)))]) hx hb dX4_merge_21 rfl hl (by decide) rfl (fun ls hl => ?_)
      refine lv_aload_n hx hb dX4_merge_22 rfl (lv_at hl 1 rfl) ?_
      refine lv_iload_n hx hb dX4_merge_23 rfl (lv_at hl 0 rfl) ?_
      refine z_if_ne (tgt := 31) hx hb dX4_merge_24 (by decide) (by omega) (fun h24 => ?_) (fun h24 => ?_)
      · exfalso; omega
      ·
        refine z_iconst hx hb dX4_merge_27 ?_
        refine lv_goto (tgt := 64) hx hb dX4_merge_28 (by decide) ?_
        refine wi_V (rest := []) (As := [.int (zi (1))]) ⟨hx, hb, hml, hown, hts⟩ (c_X4_fails l g ad σ (th) hW hd _ (1) (by omega)) (cwV 1 hts gX4_merge_X4_fails rfl rfl rfl (by decide +kernel) ⟨Nat.le_of_ble_eq_true rfl, Nat.le_of_ble_eq_true rfl⟩) (z_recv hK (hP 0 _ rfl) rfl) hP trivial hK rfl hl.1 rfl (Nat.le_of_ble_eq_true rfl) dX4_merge_64 ⟨Nat.zero_le _, Nat.zero_le _⟩ hS (MW_fr hS.1) (fun H locs hP _ _ hS => ?_)
        refine z_ifp_eq (P := 0 < (1)) (tgt := 72) hx hb dX4_merge_67 (by decide)  (fun h67 => ?_) (fun h67 => ?_)
        · exfalso; omega
        ·
          refine z_iconst hx hb dX4_merge_70 ?_
          exact z_wiret hx hb hr hlk dX4_merge_71 (by omega) hP hS

set_option maxHeartbeats 4000000 in
set_option maxRecDepth 100000 in
theorem c_X4_merge_2 (l : Launch) (g : gG) (ad : Nat → Nat) (σ : SG) (th : Int) (hW : WF σ) (hd : Dst ad) (sz : Nat) (z y : Int) (hz : zr z) (hy : zr y) (hg : IsV σ z) (hg2 : IsV σ y) (hbad : z = y) : MI l yX4_merge wsX4_merge ({ frames := 2, cells := 0, slots := 0, locals := 43 }) g ad [.int (zi (z)), .int (zi (y))] sz σ th (σ) (2) (0) := by
  refine ZM.ofW (cc := cX4_merge) (maxL := 7) (ret := (some .int)) (by decide) rfl (Nat.le_of_ble_eq_true rfl) ?_
  intro p e s m below meth c ls hx hb hr hml hown hts hlk hP hK hl _
  obtain ⟨rfl, hP, -⟩ := hP
  have hS : va_S (va_A (MWs g ad σ th) s.heap.size) s.heap s.heap [] := va_S.rf
  have hown : s.vm.findClass RX4 = some m.cls := hown
  have hl : lv_has ls 7 [(0, .ref (ad 0)), (1, .int (zi (z))), (2, .int (zi (y)))] := hl
  have hn := hW.n
  refine lv_aload_n hx hb dX4_merge_0 rfl (lv_at hl 0 rfl) ?_
  refine lv_iload_n hx hb dX4_merge_1 rfl (lv_at hl 1 rfl) ?_
  refine ro_V (rest := []) (As := [.int (zi (z))]) ⟨hx, hb, hml, hown, hts⟩ (c_X4_isVersion l g ad σ (th) hW (z) (by omega)) (cwV 1 hts gX4_merge_X4_isVersion rfl rfl rfl (by decide +kernel) ⟨Nat.le_of_ble_eq_true rfl, Nat.le_of_ble_eq_true rfl⟩) (z_recv hK (hP 0 _ rfl) rfl) hP hK rfl hl.1 rfl (Nat.le_of_ble_eq_true rfl) dX4_merge_2 ⟨Nat.zero_le _, Nat.zero_le _⟩ ?_
  refine z_ifp_eq (P := IsV σ (z)) (tgt := 20) hx hb dX4_merge_5 (by decide)  (fun h5 => ?_) (fun h5 => ?_)
  · exfalso; omega
  ·
    refine lv_aload_n hx hb dX4_merge_8 rfl (lv_at hl 0 rfl) ?_
    refine lv_iload_n hx hb dX4_merge_9 rfl (lv_at hl 2 rfl) ?_
    refine ro_V (rest := []) (As := [.int (zi (y))]) ⟨hx, hb, hml, hown, hts⟩ (c_X4_isVersion l g ad σ (th) hW (y) (by omega)) (cwV 1 hts gX4_merge_X4_isVersion rfl rfl rfl (by decide +kernel) ⟨Nat.le_of_ble_eq_true rfl, Nat.le_of_ble_eq_true rfl⟩) (z_recv hK (hP 0 _ rfl) rfl) hP hK rfl hl.1 rfl (Nat.le_of_ble_eq_true rfl) dX4_merge_10 ⟨Nat.zero_le _, Nat.zero_le _⟩ ?_
    refine z_ifp_eq (P := IsV σ (y)) (tgt := 20) hx hb dX4_merge_13 (by decide)  (fun h13 => ?_) (fun h13 => ?_)
    ·
      refine z_iconst hx hb dX4_merge_20 ?_
      refine lv_istore_n (lv' := [(3, .int (zi (0))), (0, .ref (ad 0)), (1, .int (zi (z))), (2, .int (zi (y)))]) hx hb dX4_merge_21 rfl hl (by decide) rfl (fun ls hl => ?_)
      refine lv_aload_n hx hb dX4_merge_22 rfl (lv_at hl 1 rfl) ?_
      refine lv_iload_n hx hb dX4_merge_23 rfl (lv_at hl 0 rfl) ?_
      refine z_if_ne (tgt := 31) hx hb dX4_merge_24 (by decide) (by omega) (fun h24 => ?_) (fun h24 => ?_)
      ·
        refine lv_iload_n hx hb dX4_merge_31 rfl (lv_at hl 2 rfl) ?_
        refine lv_iload_n hx hb dX4_merge_32 rfl (lv_at hl 3 rfl) ?_
        refine z_icmp_ne (tgt := 40) hx hb dX4_merge_33 (by decide) (by omega) (by omega) (fun h33 => ?_) (fun h33 => ?_)
        · exfalso; omega
        ·
          refine z_iconst hx hb dX4_merge_36 ?_
          refine lv_goto (tgt := 64) hx hb dX4_merge_37 (by decide) ?_
          refine wi_V (rest := []) (As := [.int (zi (2))]) ⟨hx, hb, hml, hown, hts⟩ (c_X4_fails l g ad σ (th) hW hd _ (2) (by omega)) (cwV 1 hts gX4_merge_X4_fails rfl rfl rfl (by decide +kernel) ⟨Nat.le_of_ble_eq_true rfl, Nat.le_of_ble_eq_true rfl⟩) (z_recv hK (hP 0 _ rfl) rfl) hP trivial hK rfl hl.1 rfl (Nat.le_of_ble_eq_true rfl) dX4_merge_64 ⟨Nat.zero_le _, Nat.zero_le _⟩ hS (MW_fr hS.1) (fun H locs hP _ _ hS => ?_)
          refine z_ifp_eq (P := 0 < (2)) (tgt := 72) hx hb dX4_merge_67 (by decide)  (fun h67 => ?_) (fun h67 => ?_)
          · exfalso; omega
          ·
            refine z_iconst hx hb dX4_merge_70 ?_
            exact z_wiret hx hb hr hlk dX4_merge_71 (by omega) hP hS
      · exfalso; omega
    ·
      refine z_iconst hx hb dX4_merge_16 ?_
      refine lv_goto (tgt := 21) hx hb dX4_merge_17 (by decide) ?_
      refine lv_istore_n (lv' := [(3, .int (zi (1))), (0, .ref (ad 0)), (1, .int (zi (z))), (2, .int (zi (y)))]) hx hb dX4_merge_21 rfl hl (by decide) rfl (fun ls hl => ?_)
      refine lv_aload_n hx hb dX4_merge_22 rfl (lv_at hl 1 rfl) ?_
      refine lv_iload_n hx hb dX4_merge_23 rfl (lv_at hl 0 rfl) ?_
      refine z_if_ne (tgt := 31) hx hb dX4_merge_24 (by decide) (by omega) (fun h24 => ?_) (fun h24 => ?_)
      ·
        refine lv_iload_n hx hb dX4_merge_31 rfl (lv_at hl 2 rfl) ?_
        refine lv_iload_n hx hb dX4_merge_32 rfl (lv_at hl 3 rfl) ?_
        refine z_icmp_ne (tgt := 40) hx hb dX4_merge_33 (by decide) (by omega) (by omega) (fun h33 => ?_) (fun h33 => ?_)
        · exfalso; omega
        ·
          refine z_iconst hx hb dX4_merge_36 ?_
          refine lv_goto (tgt := 64) hx hb dX4_merge_37 (by decide) ?_
          refine wi_V (rest := []) (As := [.int (zi (2))]) ⟨hx, hb, hml, hown, hts⟩ (c_X4_fails l g ad σ (th) hW hd _ (2) (by omega)) (cwV 1 hts gX4_merge_X4_fails rfl rfl rfl (by decide +kernel) ⟨Nat.le_of_ble_eq_true rfl, Nat.le_of_ble_eq_true rfl⟩) (z_recv hK (hP 0 _ rfl) rfl) hP trivial hK rfl hl.1 rfl (Nat.le_of_ble_eq_true rfl) dX4_merge_64 ⟨Nat.zero_le _, Nat.zero_le _⟩ hS (MW_fr hS.1) (fun H locs hP _ _ hS => ?_)
          refine z_ifp_eq (P := 0 < (2)) (tgt := 72) hx hb dX4_merge_67 (by decide)  (fun h67 => ?_) (fun h67 => ?_)
          · exfalso; omega
          ·
            refine z_iconst hx hb dX4_merge_70 ?_
            exact z_wiret hx hb hr hlk dX4_merge_71 (by omega) hP hS
      · exfalso; omega

set_option maxHeartbeats 4000000 in
set_option maxRecDepth 100000 in
theorem c_X4_merge_3 (l : Launch) (g : gG) (ad : Nat → Nat) (σ : SG) (th : Int) (hW : WF σ) (hd : Dst ad) (sz : Nat) (z y : Int) (hz : zr z) (hy : zr y) (hg : IsV σ z) (hg2 : IsV σ y) (hne : z ≠ y) (hbad : bs (σ 2) z y (σ 0 0).toNat = -1 ∨ σ 0 0 = 30) : MI l yX4_merge wsX4_merge ({ frames := 2, cells := 0, slots := 0, locals := 48 }) g ad [.int (zi (z)), .int (zi (y))] sz σ th (σ) (3) (0) := by
  refine ZM.ofW (cc := cX4_merge) (maxL := 7) (ret := (some .int)) (by decide) rfl (Nat.le_of_ble_eq_true rfl) ?_
  intro p e s m below meth c ls hx hb hr hml hown hts hlk hP hK hl _
  obtain ⟨rfl, hP, -⟩ := hP
  have hS : va_S (va_A (MWs g ad σ th) s.heap.size) s.heap s.heap [] := va_S.rf
  have hown : s.vm.findClass RX4 = some m.cls := hown
  have hl : lv_has ls 7 [(0, .ref (ad 0)), (1, .int (zi (z))), (2, .int (zi (y)))] := hl
  have hiX4 : ∀ w ∈ u_ws RX4 TX4 14, w ∈ wsX4_merge := by decide +kernel
  have hn := hW.n
  have hbsr := bs_r (σ 2) z y (σ 0 0).toNat
  refine lv_aload_n hx hb dX4_merge_0 rfl (lv_at hl 0 rfl) ?_
  refine lv_iload_n hx hb dX4_merge_1 rfl (lv_at hl 1 rfl) ?_
  refine ro_V (rest := []) (As := [.int (zi (z))]) ⟨hx, hb, hml, hown, hts⟩ (c_X4_isVersion l g ad σ (th) hW (z) (by omega)) (cwV 1 hts gX4_merge_X4_isVersion rfl rfl rfl (by decide +kernel) ⟨Nat.le_of_ble_eq_true rfl, Nat.le_of_ble_eq_true rfl⟩) (z_recv hK (hP 0 _ rfl) rfl) hP hK rfl hl.1 rfl (Nat.le_of_ble_eq_true rfl) dX4_merge_2 ⟨Nat.zero_le _, Nat.zero_le _⟩ ?_
  refine z_ifp_eq (P := IsV σ (z)) (tgt := 20) hx hb dX4_merge_5 (by decide)  (fun h5 => ?_) (fun h5 => ?_)
  · exfalso; omega
  ·
    refine lv_aload_n hx hb dX4_merge_8 rfl (lv_at hl 0 rfl) ?_
    refine lv_iload_n hx hb dX4_merge_9 rfl (lv_at hl 2 rfl) ?_
    refine ro_V (rest := []) (As := [.int (zi (y))]) ⟨hx, hb, hml, hown, hts⟩ (c_X4_isVersion l g ad σ (th) hW (y) (by omega)) (cwV 1 hts gX4_merge_X4_isVersion rfl rfl rfl (by decide +kernel) ⟨Nat.le_of_ble_eq_true rfl, Nat.le_of_ble_eq_true rfl⟩) (z_recv hK (hP 0 _ rfl) rfl) hP hK rfl hl.1 rfl (Nat.le_of_ble_eq_true rfl) dX4_merge_10 ⟨Nat.zero_le _, Nat.zero_le _⟩ ?_
    refine z_ifp_eq (P := IsV σ (y)) (tgt := 20) hx hb dX4_merge_13 (by decide)  (fun h13 => ?_) (fun h13 => ?_)
    ·
      refine z_iconst hx hb dX4_merge_20 ?_
      refine lv_istore_n (lv' := [(3, .int (zi (0))), (0, .ref (ad 0)), (1, .int (zi (z))), (2, .int (zi (y)))]) hx hb dX4_merge_21 rfl hl (by decide) rfl (fun ls hl => ?_)
      refine lv_aload_n hx hb dX4_merge_22 rfl (lv_at hl 1 rfl) ?_
      refine lv_iload_n hx hb dX4_merge_23 rfl (lv_at hl 0 rfl) ?_
      refine z_if_ne (tgt := 31) hx hb dX4_merge_24 (by decide) (by omega) (fun h24 => ?_) (fun h24 => ?_)
      ·
        refine lv_iload_n hx hb dX4_merge_31 rfl (lv_at hl 2 rfl) ?_
        refine lv_iload_n hx hb dX4_merge_32 rfl (lv_at hl 3 rfl) ?_
        refine z_icmp_ne (tgt := 40) hx hb dX4_merge_33 (by decide) (by omega) (by omega) (fun h33 => ?_) (fun h33 => ?_)
        ·
          refine lv_aload_n hx hb dX4_merge_40 rfl (lv_at hl 1 rfl) ?_
          refine lv_iload_n hx hb dX4_merge_41 rfl (lv_at hl 2 rfl) ?_
          refine lv_iload_n hx hb dX4_merge_42 rfl (lv_at hl 3 rfl) ?_
          refine ro_V (rest := [.ref (ad 0)]) (As := [.int (zi (z)), .int (zi (y))]) ⟨hx, hb, hml, hown, hts⟩ (c_X4_baseOf l g ad σ (th) hW (z) (y) (by omega) (by omega)) (cwV 2 hts gX4_merge_X4_baseOf rfl rfl rfl (by decide +kernel) ⟨Nat.le_of_ble_eq_true rfl, Nat.le_of_ble_eq_true rfl⟩) (z_recv hK (hP 0 _ rfl) rfl) hP hK rfl hl.1 rfl (Nat.le_of_ble_eq_true rfl) dX4_merge_43 ⟨Nat.zero_le _, Nat.zero_le _⟩ ?_
          refine z_iconst hx hb dX4_merge_46 ?_
          refine z_icmp_eq (tgt := 59) hx hb dX4_merge_47 (by decide) (by omega) (by omega) (fun h47 => ?_) (fun h47 => ?_)
          ·
            refine z_iconst hx hb dX4_merge_59 ?_
            refine lv_goto (tgt := 64) hx hb dX4_merge_60 (by decide) ?_
            refine wi_V (rest := []) (As := [.int (zi (3))]) ⟨hx, hb, hml, hown, hts⟩ (c_X4_fails l g ad σ (th) hW hd _ (3) (by omega)) (cwV 1 hts gX4_merge_X4_fails rfl rfl rfl (by decide +kernel) ⟨Nat.le_of_ble_eq_true rfl, Nat.le_of_ble_eq_true rfl⟩) (z_recv hK (hP 0 _ rfl) rfl) hP trivial hK rfl hl.1 rfl (Nat.le_of_ble_eq_true rfl) dX4_merge_64 ⟨Nat.zero_le _, Nat.zero_le _⟩ hS (MW_fr hS.1) (fun H locs hP _ _ hS => ?_)
            refine z_ifp_eq (P := 0 < (3)) (tgt := 72) hx hb dX4_merge_67 (by decide)  (fun h67 => ?_) (fun h67 => ?_)
            · exfalso; omega
            ·
              refine z_iconst hx hb dX4_merge_70 ?_
              exact z_wiret hx hb hr hlk dX4_merge_71 (by omega) hP hS
          ·
            refine lv_aload_n hx hb dX4_merge_50 rfl (lv_at hl 1 rfl) ?_
            refine z_get (C := RX4) (T := TX4) (N := 14) hx hb hts hiX4 hown hK (hP 0 _ rfl) rfl 0 (by decide) (hts (.fieldLink RX4 48 "HarmoniumDeskModel" "versions" "I") (by decide +kernel)) rfl rfl dX4_merge_51 ?_
            refine z_bipush hx hb dX4_merge_54 (by decide) ?_
            refine z_icmp_ne (tgt := 63) hx hb dX4_merge_56 (by decide) (by omega) (by omega) (fun h56 => ?_) (fun h56 => ?_)
            · exfalso; omega
            ·
              refine z_iconst hx hb dX4_merge_59 ?_
              refine lv_goto (tgt := 64) hx hb dX4_merge_60 (by decide) ?_
              refine wi_V (rest := []) (As := [.int (zi (3))]) ⟨hx, hb, hml, hown, hts⟩ (c_X4_fails l g ad σ (th) hW hd _ (3) (by omega)) (cwV 1 hts gX4_merge_X4_fails rfl rfl rfl (by decide +kernel) ⟨Nat.le_of_ble_eq_true rfl, Nat.le_of_ble_eq_true rfl⟩) (z_recv hK (hP 0 _ rfl) rfl) hP trivial hK rfl hl.1 rfl (Nat.le_of_ble_eq_true rfl) dX4_merge_64 ⟨Nat.zero_le _, Nat.zero_le _⟩ hS (MW_fr hS.1) (fun H locs hP _ _ hS => ?_)
              refine z_ifp_eq (P := 0 < (3)) (tgt := 72) hx hb dX4_merge_67 (by decide)  (fun h67 => ?_) (fun h67 => ?_)
              · exfalso; omega
              ·
                refine z_iconst hx hb dX4_merge_70 ?_
                exact z_wiret hx hb hr hlk dX4_merge_71 (by omega) hP hS
        · exfalso; omega
      · exfalso; omega
    ·
      refine z_iconst hx hb dX4_merge_16 ?_
      refine lv_goto (tgt := 21) hx hb dX4_merge_17 (by decide) ?_
      refine lv_istore_n (lv' := [(3, .int (zi (1))), (0, .ref (ad 0)), (1, .int (zi (z))), (2, .int (zi (y)))]) hx hb dX4_merge_21 rfl hl (by decide) rfl (fun ls hl => ?_)
      refine lv_aload_n hx hb dX4_merge_22 rfl (lv_at hl 1 rfl) ?_
      refine lv_iload_n hx hb dX4_merge_23 rfl (lv_at hl 0 rfl) ?_
      refine z_if_ne (tgt := 31) hx hb dX4_merge_24 (by decide) (by omega) (fun h24 => ?_) (fun h24 => ?_)
      ·
        refine lv_iload_n hx hb dX4_merge_31 rfl (lv_at hl 2 rfl) ?_
        refine lv_iload_n hx hb dX4_merge_32 rfl (lv_at hl 3 rfl) ?_
        refine z_icmp_ne (tgt := 40) hx hb dX4_merge_33 (by decide) (by omega) (by omega) (fun h33 => ?_) (fun h33 => ?_)
        ·
          refine lv_aload_n hx hb dX4_merge_40 rfl (lv_at hl 1 rfl) ?_
          refine lv_iload_n hx hb dX4_merge_41 rfl (lv_at hl 2 rfl) ?_
          refine lv_iload_n hx hb dX4_merge_42 rfl (lv_at hl 3 rfl) ?_
          refine ro_V (rest := [.ref (ad 0)]) (As := [.int (zi (z)), .int (zi (y))]) ⟨hx, hb, hml, hown, hts⟩ (c_X4_baseOf l g ad σ (th) hW (z) (y) (by omega) (by omega)) (cwV 2 hts gX4_merge_X4_baseOf rfl rfl rfl (by decide +kernel) ⟨Nat.le_of_ble_eq_true rfl, Nat.le_of_ble_eq_true rfl⟩) (z_recv hK (hP 0 _ rfl) rfl) hP hK rfl hl.1 rfl (Nat.le_of_ble_eq_true rfl) dX4_merge_43 ⟨Nat.zero_le _, Nat.zero_le _⟩ ?_
          refine z_iconst hx hb dX4_merge_46 ?_
          refine z_icmp_eq (tgt := 59) hx hb dX4_merge_47 (by decide) (by omega) (by omega) (fun h47 => ?_) (fun h47 => ?_)
          ·
            refine z_iconst hx hb dX4_merge_59 ?_
            refine lv_goto (tgt := 64) hx hb dX4_merge_60 (by decide) ?_
            refine wi_V (rest := []) (As := [.int (zi (3))]) ⟨hx, hb, hml, hown, hts⟩ (c_X4_fails l g ad σ (th) hW hd _ (3) (by omega)) (cwV 1 hts gX4_merge_X4_fails rfl rfl rfl (by decide +kernel) ⟨Nat.le_of_ble_eq_true rfl, Nat.le_of_ble_eq_true rfl⟩) (z_recv hK (hP 0 _ rfl) rfl) hP trivial hK rfl hl.1 rfl (Nat.le_of_ble_eq_true rfl) dX4_merge_64 ⟨Nat.zero_le _, Nat.zero_le _⟩ hS (MW_fr hS.1) (fun H locs hP _ _ hS => ?_)
            refine z_ifp_eq (P := 0 < (3)) (tgt := 72) hx hb dX4_merge_67 (by decide)  (fun h67 => ?_) (fun h67 => ?_)
            · exfalso; omega
            ·
              refine z_iconst hx hb dX4_merge_70 ?_
              exact z_wiret hx hb hr hlk dX4_merge_71 (by omega) hP hS
          ·
            refine lv_aload_n hx hb dX4_merge_50 rfl (lv_at hl 1 rfl) ?_
            refine z_get (C := RX4) (T := TX4) (N := 14) hx hb hts hiX4 hown hK (hP 0 _ rfl) rfl 0 (by decide) (hts (.fieldLink RX4 48 "HarmoniumDeskModel" "versions" "I") (by decide +kernel)) rfl rfl dX4_merge_51 ?_
            refine z_bipush hx hb dX4_merge_54 (by decide) ?_
            refine z_icmp_ne (tgt := 63) hx hb dX4_merge_56 (by decide) (by omega) (by omega) (fun h56 => ?_) (fun h56 => ?_)
            · exfalso; omega
            ·
              refine z_iconst hx hb dX4_merge_59 ?_
              refine lv_goto (tgt := 64) hx hb dX4_merge_60 (by decide) ?_
              refine wi_V (rest := []) (As := [.int (zi (3))]) ⟨hx, hb, hml, hown, hts⟩ (c_X4_fails l g ad σ (th) hW hd _ (3) (by omega)) (cwV 1 hts gX4_merge_X4_fails rfl rfl rfl (by decide +kernel) ⟨Nat.le_of_ble_eq_true rfl, Nat.le_of_ble_eq_true rfl⟩) (z_recv hK (hP 0 _ rfl) rfl) hP trivial hK rfl hl.1 rfl (Nat.le_of_ble_eq_true rfl) dX4_merge_64 ⟨Nat.zero_le _, Nat.zero_le _⟩ hS (MW_fr hS.1) (fun H locs hP _ _ hS => ?_)
              refine z_ifp_eq (P := 0 < (3)) (tgt := 72) hx hb dX4_merge_67 (by decide)  (fun h67 => ?_) (fun h67 => ?_)
              · exfalso; omega
              ·
                refine z_iconst hx hb dX4_merge_70 ?_
                exact z_wiret hx hb hr hlk dX4_merge_71 (by omega) hP hS
        · exfalso; omega
      · exfalso; omega

set_option maxHeartbeats 4000000 in
set_option maxRecDepth 100000 in
theorem c_X4_merge_0 (l : Launch) (g : gG) (ad : Nat → Nat) (σ : SG) (th : Int) (hW : WF σ) (hd : Dst ad) (sz : Nat) (i : Nat) (hi : (i : Int) < σ 0 0) (zi1 : Int) (hzi : zi1 = (i : Int)) (j : Nat) (hj : (j : Int) < σ 0 0) (zj : Int) (hzj : zj = (j : Int)) (bn : Nat) (hbn : bs (σ 2) zi1 zj (σ 0 0).toNat = (bn : Int)) (hne : i ≠ j) (N : Nat) (hN : σ 0 0 = (N : Int)) (hnf : N < 30) : MI l yX4_merge wsX4_merge ({ frames := 2, cells := 0, slots := 0, locals := 48 }) g ad [.int (zi (zi1)), .int (zi (zj))] sz σ th (opM σ N i j bn) (0) ((N : Int)) := by
  refine ZM.ofW (cc := cX4_merge) (maxL := 7) (ret := (some .int)) (by decide) rfl (Nat.le_of_ble_eq_true rfl) ?_
  intro p e s m below meth c ls hx hb hr hml hown hts hlk hP hK hl _
  obtain ⟨rfl, hP, -⟩ := hP
  have hS : va_S (va_A (MWs g ad σ th) s.heap.size) s.heap s.heap [] := va_S.rf
  have hown : s.vm.findClass RX4 = some m.cls := hown
  have hl : lv_has ls 7 [(0, .ref (ad 0)), (1, .int (zi (zi1))), (2, .int (zi (zj)))] := hl
  have hiX4 : ∀ w ∈ u_ws RX4 TX4 14, w ∈ wsX4_merge := by decide +kernel
  have hn := hW.n
  have hbsr := bs_r (σ 2) zi1 zj (σ 0 0).toNat
  have hbi := hW.bars hi
  refine lv_aload_n hx hb dX4_merge_0 rfl (lv_at hl 0 rfl) ?_
  refine lv_iload_n hx hb dX4_merge_1 rfl (lv_at hl 1 rfl) ?_
  refine ro_V (rest := []) (As := [.int (zi (zi1))]) ⟨hx, hb, hml, hown, hts⟩ (c_X4_isVersion l g ad σ (th) hW (zi1) (by omega)) (cwV 1 hts gX4_merge_X4_isVersion rfl rfl rfl (by decide +kernel) ⟨Nat.le_of_ble_eq_true rfl, Nat.le_of_ble_eq_true rfl⟩) (z_recv hK (hP 0 _ rfl) rfl) hP hK rfl hl.1 rfl (Nat.le_of_ble_eq_true rfl) dX4_merge_2 ⟨Nat.zero_le _, Nat.zero_le _⟩ ?_
  refine z_ifp_eq (P := IsV σ (zi1)) (tgt := 20) hx hb dX4_merge_5 (by decide)  (fun h5 => ?_) (fun h5 => ?_)
  · exfalso; omega
  ·
    refine lv_aload_n hx hb dX4_merge_8 rfl (lv_at hl 0 rfl) ?_
    refine lv_iload_n hx hb dX4_merge_9 rfl (lv_at hl 2 rfl) ?_
    refine ro_V (rest := []) (As := [.int (zi (zj))]) ⟨hx, hb, hml, hown, hts⟩ (c_X4_isVersion l g ad σ (th) hW (zj) (by omega)) (cwV 1 hts gX4_merge_X4_isVersion rfl rfl rfl (by decide +kernel) ⟨Nat.le_of_ble_eq_true rfl, Nat.le_of_ble_eq_true rfl⟩) (z_recv hK (hP 0 _ rfl) rfl) hP hK rfl hl.1 rfl (Nat.le_of_ble_eq_true rfl) dX4_merge_10 ⟨Nat.zero_le _, Nat.zero_le _⟩ ?_
    refine z_ifp_eq (P := IsV σ (zj)) (tgt := 20) hx hb dX4_merge_13 (by decide)  (fun h13 => ?_) (fun h13 => ?_)
    ·
      refine z_iconst hx hb dX4_merge_20 ?_
      refine lv_istore_n (lv' := [(3, .int (zi (0))), (0, .ref (ad 0)), (1, .int (zi (zi1))), (2, .int (zi (zj)))]) hx hb dX4_merge_21 rfl hl (by decide) rfl (fun ls hl => ?_)
      refine lv_aload_n hx hb dX4_merge_22 rfl (lv_at hl 1 rfl) ?_
      refine lv_iload_n hx hb dX4_merge_23 rfl (lv_at hl 0 rfl) ?_
      refine z_if_ne (tgt := 31) hx hb dX4_merge_24 (by decide) (by omega) (fun h24 => ?_) (fun h24 => ?_)
      ·
        refine lv_iload_n hx hb dX4_merge_31 rfl (lv_at hl 2 rfl) ?_
        refine lv_iload_n hx hb dX4_merge_32 rfl (lv_at hl 3 rfl) ?_
        refine z_icmp_ne (tgt := 40) hx hb dX4_merge_33 (by decide) (by omega) (by omega) (fun h33 => ?_) (fun h33 => ?_)
        ·
          refine lv_aload_n hx hb dX4_merge_40 rfl (lv_at hl 1 rfl) ?_
          refine lv_iload_n hx hb dX4_merge_41 rfl (lv_at hl 2 rfl) ?_
          refine lv_iload_n hx hb dX4_merge_42 rfl (lv_at hl 3 rfl) ?_
          refine ro_V (rest := [.ref (ad 0)]) (As := [.int (zi (zi1)), .int (zi (zj))]) ⟨hx, hb, hml, hown, hts⟩ (c_X4_baseOf l g ad σ (th) hW (zi1) (zj) (by omega) (by omega)) (cwV 2 hts gX4_merge_X4_baseOf rfl rfl rfl (by decide +kernel) ⟨Nat.le_of_ble_eq_true rfl, Nat.le_of_ble_eq_true rfl⟩) (z_recv hK (hP 0 _ rfl) rfl) hP hK rfl hl.1 rfl (Nat.le_of_ble_eq_true rfl) dX4_merge_43 ⟨Nat.zero_le _, Nat.zero_le _⟩ ?_
          refine z_iconst hx hb dX4_merge_46 ?_
          refine z_icmp_eq (tgt := 59) hx hb dX4_merge_47 (by decide) (by omega) (by omega) (fun h47 => ?_) (fun h47 => ?_)
          · exfalso; omega
          ·
            refine lv_aload_n hx hb dX4_merge_50 rfl (lv_at hl 1 rfl) ?_
            refine z_get (C := RX4) (T := TX4) (N := 14) hx hb hts hiX4 hown hK (hP 0 _ rfl) rfl 0 (by decide) (hts (.fieldLink RX4 48 "HarmoniumDeskModel" "versions" "I") (by decide +kernel)) rfl rfl dX4_merge_51 ?_
            refine z_bipush hx hb dX4_merge_54 (by decide) ?_
            refine z_icmp_ne (tgt := 63) hx hb dX4_merge_56 (by decide) (by omega) (by omega) (fun h56 => ?_) (fun h56 => ?_)
            ·
              refine z_iconst hx hb dX4_merge_63 ?_
              refine wi_V (rest := []) (As := [.int (zi (0))]) ⟨hx, hb, hml, hown, hts⟩ (c_X4_fails l g ad σ (th) hW hd _ (0) (by omega)) (cwV 1 hts gX4_merge_X4_fails rfl rfl rfl (by decide +kernel) ⟨Nat.le_of_ble_eq_true rfl, Nat.le_of_ble_eq_true rfl⟩) (z_recv hK (hP 0 _ rfl) rfl) hP trivial hK rfl hl.1 rfl (Nat.le_of_ble_eq_true rfl) dX4_merge_64 ⟨Nat.zero_le _, Nat.zero_le _⟩ hS (MW_fr hS.1) (fun H locs hP _ _ hS => ?_)
              refine z_ifp_eq (P := 0 < (0)) (tgt := 72) hx hb dX4_merge_67 (by decide)  (fun h67 => ?_) (fun h67 => ?_)
              ·
                refine lv_aload_n hx hb dX4_merge_72 rfl (lv_at hl 1 rfl) ?_
                refine lv_iload_n hx hb dX4_merge_73 rfl (lv_at hl 2 rfl) ?_
                refine lv_iload_n hx hb dX4_merge_74 rfl (lv_at hl 3 rfl) ?_
                refine ro_V (rest := []) (As := [.int (zi (zi1)), .int (zi (zj))]) ⟨hx, hb, hml, hown, hts⟩ (c_X4_baseOf l g ad σ (0) hW (zi1) (zj) (by omega) (by omega)) (cwV 2 hts gX4_merge_X4_baseOf rfl rfl rfl (by decide +kernel) ⟨Nat.le_of_ble_eq_true rfl, Nat.le_of_ble_eq_true rfl⟩) (z_recv hK (hP 0 _ rfl) rfl) hP hK rfl hl.1 rfl (Nat.le_of_ble_eq_true rfl) dX4_merge_75 ⟨Nat.zero_le _, Nat.zero_le _⟩ ?_
                refine z_top (b := (bn : Int)) (hbn) ?_
                refine lv_istore (lv' := [(4, .int (zi ((bn : Int)))), (3, .int (zi (0))), (0, .ref (ad 0)), (1, .int (zi (zi1))), (2, .int (zi (zj)))]) hx hb dX4_merge_78 hl (by decide) rfl (fun ls hl => ?_)
                refine lv_aload_n hx hb dX4_merge_80 rfl (lv_at hl 2 rfl) ?_
                refine lv_iload_n hx hb dX4_merge_81 rfl (lv_at hl 3 rfl) ?_
                refine wi_V (rest := []) (As := [.int (zi (zi1))]) ⟨hx, hb, hml, hown, hts⟩ (c_X4_makes l g ad σ (0) hW hd _ i hi (zi1) (by omega) N hN hnf) (cwV 1 hts gX4_merge_X4_makes rfl rfl rfl (by decide +kernel) ⟨Nat.le_of_ble_eq_true rfl, Nat.le_of_ble_eq_true rfl⟩) (z_recv hK (hP 0 _ rfl) rfl) hP trivial hK rfl hl.1 rfl (Nat.le_of_ble_eq_true rfl) dX4_merge_82 ⟨Nat.zero_le _, Nat.zero_le _⟩ hS (MW_fr hS.1) (fun H locs hP _ _ hS => ?_)
                refine lv_istore (lv' := [(5, .int (zi ((N : Int)))), (4, .int (zi ((bn : Int)))), (3, .int (zi (0))), (0, .ref (ad 0)), (1, .int (zi (zi1))), (2, .int (zi (zj)))]) hx hb dX4_merge_85 hl (by decide) rfl (fun ls hl => ?_)
                refine lv_aload_n hx hb dX4_merge_87 rfl (lv_at hl 3 rfl) ?_
                refine z_get (C := RX4) (T := TX4) (N := 14) hx hb hts hiX4 hown hK (hP 0 _ rfl) rfl 3 (by decide) (hts (.fieldLink RX4 16 "HarmoniumDeskModel" "isFixed" "[Z") (by decide +kernel)) rfl rfl dX4_merge_88 ?_
                refine lv_iload_n hx hb dX4_merge_91 rfl (lv_at hl 5 rfl) ?_
                refine z_iconst hx hb dX4_merge_92 ?_
                refine z_mzast (x := 1) hx hb hd hK hP hS 3 3 30 rfl (j) (msa3 _ _ _ _ _ _) (by omega) (by omega) (by decide) (Or.inr rfl) dX4_merge_93 (fun H locs hP hS => ?_)
                refine z_iconst hx hb dX4_merge_94 ?_
                refine z_top (b := ((0 : Nat) : Int)) (rfl) ?_
                refine lv_istore (lv' := [(6, .int (zi (((0 : Nat) : Int)))), (5, .int (zi ((N : Int)))), (4, .int (zi ((bn : Int)))), (3, .int (zi (0))), (0, .ref (ad 0)), (1, .int (zi (zi1))), (2, .int (zi (zj)))]) hx hb dX4_merge_95 hl (by decide) rfl (fun ls hl => ?_)
                have loop97 : ∀ (d b : Nat), (b : Int) ≤ σ 1 i → (σ 1 i).toNat - b = d → ∀ (H : Heap) (locs : List Loc), va_P g.1 vwCl (MWs g ad (mgf (sup (opK σ N i) 3 j 1) (σ 5) N j (alB σ i bn) b) (0)) H → va_S (va_A (MWs g ad σ th) s.heap.size) s.heap H locs → ∀ ls : Array Slot, lv_has ls 7 [(6, .int (zi ((b : Int)))), (5, .int (zi ((N : Int)))), (4, .int (zi ((bn : Int)))), (3, .int (zi (1))), (0, .ref (ad 0)), (1, .int (zi (zi1))), (2, .int (zi (zj)))] → W p l e ({ frames := 2, cells := 0, slots := 0, locals := 48 }) s m ([.ref (ad 0), .int (zi (zi1)), .int (zi (zj))] : List Value).toArray below meth c H locs 0 0 (MQ below (va_Qi (fun z9 (_ : Unit) => z9 = zi ((N : Int))) (fun _ t9 => va_P g.1 vwCl (MWs g ad (opM σ N i j bn) (0)) t9.heap) (va_A (MWs g ad σ th) s.heap.size)) ([.ref (ad 0), .int (zi (zi1)), .int (zi (zj))] : List Value).toArray s 0 0 (va_A (MWs g ad σ th) s.heap.size)) (F0 m 97 ls []) := by
                  intro d
                  induction d with
                  | zero =>
                    intro b hb hd2 H locs hP hS ls hl
                    have eb : b = (σ 1 i).toNat := by omega
                    have hT0 : (mgf (sup (opK σ N i) 3 j 1) (σ 5) N j (alB σ i bn) b) 0 0 = ((N + 1 : Nat) : Int) := by rw [mgf_ne _ _ _ _ _ (by decide)]; rfl
                    have hT1 : (mgf (sup (opK σ N i) 3 j 1) (σ 5) N j (alB σ i bn) b) 1 i = σ 1 i := by rw [mgf_ne _ _ _ _ _ (by decide)]; exact if_neg (by omega)
                    refine lv_iload hx hb dX4_merge_97 (lv_at hl 0 rfl) ?_
                    refine lv_aload_n hx hb dX4_merge_99 rfl (lv_at hl 4 rfl) ?_
                    refine z_get (C := RX4) (T := TX4) (N := 14) hx hb hts hiX4 hown hK (hP 0 _ rfl) rfl 1 (by decide) (hts (.fieldLink RX4 7 "HarmoniumDeskModel" "bars" "[I") (by decide +kernel)) rfl rfl dX4_merge_100 ?_
                    refine lv_iload_n hx hb dX4_merge_103 rfl (lv_at hl 5 rfl) ?_
                    refine z_iald hx hb hK (hP 1 _ rfl) (i) (by omega) (by omega) (by decide) dX4_merge_104 ?_
                    refine z_top (b := σ 1 i) (hT1) ?_
                    refine z_icmp_ge (tgt := 176) hx hb dX4_merge_105 (by decide) (by omega) (by omega) (fun h105 => ?_) (fun h105 => ?_)
                    ·
                      refine lv_iload hx hb dX4_merge_176 (lv_at hl 1 rfl) ?_
                      exact z_wiret hx hb hr hlk dX4_merge_178 (rfl) (by rw [eb] at hP; exact hP) hS
                    · exfalso; omega
                  | succ d ih =>
                    intro b hb hd2 H locs hP hS ls hl
                    have hT0 : (mgf (sup (opK σ N i) 3 j 1) (σ 5) N j (alB σ i bn) b) 0 0 = ((N + 1 : Nat) : Int) := by rw [mgf_ne _ _ _ _ _ (by decide)]; rfl
                    have hT1 : (mgf (sup (opK σ N i) 3 j 1) (σ 5) N j (alB σ i bn) b) 1 i = σ 1 i := by rw [mgf_ne _ _ _ _ _ (by decide)]; exact if_neg (by omega)
                    have hT5 : ∀ q, q < 24 * N → (mgf (sup (opK σ N i) 3 j 1) (σ 5) N j (alB σ i bn) b) 5 q = σ 5 q := fun q hq => by rw [mgf_lt _ _ _ _ _ hq]; exact opK_lt hq
                    have hWT : WF (mgf (sup (opK σ N i) 3 j 1) (σ 5) N j (alB σ i bn) b) := (WF.setF (WF.opK hW hN hnf (by omega)) (by show (j : Int) < ((N + 1 : Nat) : Int); omega)).mgf hW.note N j _ b
                    refine lv_iload hx hb dX4_merge_97 (lv_at hl 0 rfl) ?_
                    refine lv_aload_n hx hb dX4_merge_99 rfl (lv_at hl 4 rfl) ?_
                    refine z_get (C := RX4) (T := TX4) (N := 14) hx hb hts hiX4 hown hK (hP 0 _ rfl) rfl 1 (by decide) (hts (.fieldLink RX4 7 "HarmoniumDeskModel" "bars" "[I") (by decide +kernel)) rfl rfl dX4_merge_100 ?_
                    refine lv_iload_n hx hb dX4_merge_103 rfl (lv_at hl 5 rfl) ?_
                    refine z_iald hx hb hK (hP 1 _ rfl) (i) (by omega) (by omega) (by decide) dX4_merge_104 ?_
                    refine z_top (b := σ 1 i) (hT1) ?_
                    refine z_icmp_ge (tgt := 176) hx hb dX4_merge_105 (by decide) (by omega) (by omega) (fun h105 => ?_) (fun h105 => ?_)
                    · exfalso; omega
                    ·
                      refine lv_aload_n hx hb dX4_merge_108 rfl (lv_at hl 4 rfl) ?_
                      refine lv_iload_n hx hb dX4_merge_109 rfl (lv_at hl 5 rfl) ?_
                      refine lv_iload hx hb dX4_merge_110 (lv_at hl 2 rfl) ?_
                      refine lv_iload hx hb dX4_merge_112 (lv_at hl 0 rfl) ?_
                      refine ro_V (rest := []) (As := [.int (zi (zi1)), .int (zi ((bn : Int))), .int (zi ((b : Int)))]) ⟨hx, hb, hml, hown, hts⟩ (c_X4_areAlike l g ad (mgf (sup (opK σ N i) 3 j 1) (σ 5) N j (alB σ i bn) b) (0) hWT i (by rw [hT0]; omega) (zi1) (by omega) bn (by rw [hT0]; omega) ((bn : Int)) (by omega) b (by omega) ((b : Int)) (by omega)) (cwV 3 hts gX4_merge_X4_areAlike rfl rfl rfl (by decide +kernel) ⟨Nat.le_of_ble_eq_true rfl, Nat.le_of_ble_eq_true rfl⟩) (z_recv hK (hP 0 _ rfl) rfl) hP hK rfl hl.1 rfl (Nat.le_of_ble_eq_true rfl) dX4_merge_114 ⟨Nat.zero_le _, Nat.zero_le _⟩ ?_
                      refine z_top (b := pz (Al σ i bn b)) (pz_c (Al_lt hT5 (by omega) (by omega) (by omega))) ?_
                      refine z_ifp_eq (P := Al σ i bn b) (tgt := 170) hx hb dX4_merge_117 (by decide)  (fun h117 => ?_) (fun h117 => ?_)
                      ·
                        refine z_iinc (b := ((b + 1 : Nat) : Int)) (lv' := [(6, .int (zi (((b + 1 : Nat) : Int)))), (5, .int (zi ((N : Int)))), (4, .int (zi ((bn : Int)))), (3, .int (zi (1))), (0, .ref (ad 0)), (1, .int (zi (zi1))), (2, .int (zi (zj)))]) hx hb dX4_merge_170 hl (k := 0) rfl (by omega) (by decide) rfl (fun ls hl => ?_)
                        refine lv_goto (tgt := 97) hx hb dX4_merge_173 (by decide) ?_
                        rw [mgf_f (sup (opK σ N i) 3 j 1) (σ 5) N j (alB σ i bn) b (fun hh => h117 (of_decide_eq_true hh))] at hP
                        exact ih (b + 1) (by omega) (by omega) H locs hP hS ls (lv_sub hl [0, 1, 2, 3, 4, 5, 6] rfl)
                      ·
                        refine lv_aload_n hx hb dX4_merge_120 rfl (lv_at hl 4 rfl) ?_
                        refine z_get (C := RX4) (T := TX4) (N := 14) hx hb hts hiX4 hown hK (hP 0 _ rfl) rfl 5 (by decide) (hts (.fieldLink RX4 23 "HarmoniumDeskModel" "notes" "[I") (by decide +kernel)) rfl rfl dX4_merge_121 ?_
                        refine lv_iload hx hb dX4_merge_124 (lv_at hl 1 rfl) ?_
                        refine z_iconst hx hb dX4_merge_126 ?_
                        refine lv_iload hx hb dX4_merge_127 (lv_at hl 0 rfl) ?_
                        refine ro_S (rest := [.ref (ad 5)]) (As := [.int (zi ((N : Int))), .int (zi (0)), .int (zi ((b : Int)))]) ⟨hx, hb, hml, hown, hts⟩ (c_X4_at l g ((N : Int)) (0) ((b : Int))) (cwS 3 hts gX4_merge_X4_at rfl rfl rfl (by decide +kernel) ⟨Nat.le_of_ble_eq_true rfl, Nat.le_of_ble_eq_true rfl⟩) trivial hK rfl hl.1 rfl (Nat.le_of_ble_eq_true rfl) dX4_merge_129 ⟨Nat.zero_le _, Nat.zero_le _⟩ ?_
                        refine lv_aload_n hx hb dX4_merge_132 rfl (lv_at hl 4 rfl) ?_
                        refine z_get (C := RX4) (T := TX4) (N := 14) hx hb hts hiX4 hown hK (hP 0 _ rfl) rfl 5 (by decide) (hts (.fieldLink RX4 23 "HarmoniumDeskModel" "notes" "[I") (by decide +kernel)) rfl rfl dX4_merge_133 ?_
                        refine lv_iload_n hx hb dX4_merge_136 rfl (lv_at hl 6 rfl) ?_
                        refine z_iconst hx hb dX4_merge_137 ?_
                        refine lv_iload hx hb dX4_merge_138 (lv_at hl 0 rfl) ?_
                        refine ro_S (rest := [.ref (ad 5), .int (zi (12 * (2 * ((N : Int)) + (0)) + ((b : Int)))), .ref (ad 5)]) (As := [.int (zi (zj)), .int (zi (0)), .int (zi ((b : Int)))]) ⟨hx, hb, hml, hown, hts⟩ (c_X4_at l g (zj) (0) ((b : Int))) (cwS 3 hts gX4_merge_X4_at rfl rfl rfl (by decide +kernel) ⟨Nat.le_of_ble_eq_true rfl, Nat.le_of_ble_eq_true rfl⟩) trivial hK rfl hl.1 rfl (Nat.le_of_ble_eq_true rfl) dX4_merge_140 ⟨Nat.zero_le _, Nat.zero_le _⟩ ?_
                        refine z_iald hx hb hK (hP 5 _ rfl) (24 * j + b) (by omega) (by omega) (by decide) dX4_merge_143 ?_
                        refine z_top (b := σ 5 (24 * j + b)) (hT5 _ (by omega)) ?_
                        refine z_mast (x := σ 5 (24 * j + b)) hx hb hd hK hP hS 5 5 720 rfl (24 * N + b) (msa5 _ _ _ _ _ _) (by omega) (by omega) (by decide) dX4_merge_144 (fun H locs hP hS => ?_)
                        refine lv_aload_n hx hb dX4_merge_145 rfl (lv_at hl 4 rfl) ?_
                        refine z_get (C := RX4) (T := TX4) (N := 14) hx hb hts hiX4 hown hK (hP 0 _ rfl) rfl 5 (by decide) (hts (.fieldLink RX4 23 "HarmoniumDeskModel" "notes" "[I") (by decide +kernel)) rfl rfl dX4_merge_146 ?_
                        refine lv_iload hx hb dX4_merge_149 (lv_at hl 1 rfl) ?_
                        refine z_iconst hx hb dX4_merge_151 ?_
                        refine lv_iload hx hb dX4_merge_152 (lv_at hl 0 rfl) ?_
                        refine ro_S (rest := [.ref (ad 5)]) (As := [.int (zi ((N : Int))), .int (zi (1)), .int (zi ((b : Int)))]) ⟨hx, hb, hml, hown, hts⟩ (c_X4_at l g ((N : Int)) (1) ((b : Int))) (cwS 3 hts gX4_merge_X4_at rfl rfl rfl (by decide +kernel) ⟨Nat.le_of_ble_eq_true rfl, Nat.le_of_ble_eq_true rfl⟩) trivial hK rfl hl.1 rfl (Nat.le_of_ble_eq_true rfl) dX4_merge_154 ⟨Nat.zero_le _, Nat.zero_le _⟩ ?_
                        refine lv_aload_n hx hb dX4_merge_157 rfl (lv_at hl 4 rfl) ?_
                        refine z_get (C := RX4) (T := TX4) (N := 14) hx hb hts hiX4 hown hK (hP 0 _ rfl) rfl 5 (by decide) (hts (.fieldLink RX4 23 "HarmoniumDeskModel" "notes" "[I") (by decide +kernel)) rfl rfl dX4_merge_158 ?_
                        refine lv_iload_n hx hb dX4_merge_161 rfl (lv_at hl 6 rfl) ?_
                        refine z_iconst hx hb dX4_merge_162 ?_
                        refine lv_iload hx hb dX4_merge_163 (lv_at hl 0 rfl) ?_
                        refine ro_S (rest := [.ref (ad 5), .int (zi (12 * (2 * ((N : Int)) + (1)) + ((b : Int)))), .ref (ad 5)]) (As := [.int (zi (zj)), .int (zi (1)), .int (zi ((b : Int)))]) ⟨hx, hb, hml, hown, hts⟩ (c_X4_at l g (zj) (1) ((b : Int))) (cwS 3 hts gX4_merge_X4_at rfl rfl rfl (by decide +kernel) ⟨Nat.le_of_ble_eq_true rfl, Nat.le_of_ble_eq_true rfl⟩) trivial hK rfl hl.1 rfl (Nat.le_of_ble_eq_true rfl) dX4_merge_165 ⟨Nat.zero_le _, Nat.zero_le _⟩ ?_
                        refine z_iald hx hb hK (hP 5 _ rfl) (24 * j + 12 + b) (by omega) (by omega) (by decide) dX4_merge_168 ?_
                        refine z_top (b := σ 5 (24 * j + 12 + b)) (by rw [sup_eq]; unfold va_up; rw [if_neg (by omega)]; exact hT5 _ (by omega)) ?_
                        refine z_mast (x := σ 5 (24 * j + 12 + b)) hx hb hd hK hP hS 5 5 720 rfl (24 * N + 12 + b) (msa5 _ _ _ _ _ _) (by omega) (by omega) (by decide) dX4_merge_169 (fun H locs hP hS => ?_)
                        refine z_iinc (b := ((b + 1 : Nat) : Int)) (lv' := [(6, .int (zi (((b + 1 : Nat) : Int)))), (5, .int (zi ((N : Int)))), (4, .int (zi ((bn : Int)))), (3, .int (zi (1))), (0, .ref (ad 0)), (1, .int (zi (zi1))), (2, .int (zi (zj)))]) hx hb dX4_merge_170 hl (k := 0) rfl (by omega) (by decide) rfl (fun ls hl => ?_)
                        refine lv_goto (tgt := 97) hx hb dX4_merge_173 (by decide) ?_
                        rw [mgf_t (sup (opK σ N i) 3 j 1) (σ 5) N j (alB σ i bn) b (decide_eq_true h117)] at hP
                        exact ih (b + 1) (by omega) (by omega) H locs hP hS ls (lv_sub hl [0, 1, 2, 3, 4, 5, 6] rfl)
                exact loop97 _ 0 (by omega) rfl _ _ hP hS ls (lv_sub hl [0, 1, 2, 3, 4, 5, 6] rfl)
              · exfalso; omega
            · exfalso; omega
        · exfalso; omega
      · exfalso; omega
    ·
      refine z_iconst hx hb dX4_merge_16 ?_
      refine lv_goto (tgt := 21) hx hb dX4_merge_17 (by decide) ?_
      refine lv_istore_n (lv' := [(3, .int (zi (1))), (0, .ref (ad 0)), (1, .int (zi (zi1))), (2, .int (zi (zj)))]) hx hb dX4_merge_21 rfl hl (by decide) rfl (fun ls hl => ?_)
      refine lv_aload_n hx hb dX4_merge_22 rfl (lv_at hl 1 rfl) ?_
      refine lv_iload_n hx hb dX4_merge_23 rfl (lv_at hl 0 rfl) ?_
      refine z_if_ne (tgt := 31) hx hb dX4_merge_24 (by decide) (by omega) (fun h24 => ?_) (fun h24 => ?_)
      ·
        refine lv_iload_n hx hb dX4_merge_31 rfl (lv_at hl 2 rfl) ?_
        refine lv_iload_n hx hb dX4_merge_32 rfl (lv_at hl 3 rfl) ?_
        refine z_icmp_ne (tgt := 40) hx hb dX4_merge_33 (by decide) (by omega) (by omega) (fun h33 => ?_) (fun h33 => ?_)
        ·
          refine lv_aload_n hx hb dX4_merge_40 rfl (lv_at hl 1 rfl) ?_
          refine lv_iload_n hx hb dX4_merge_41 rfl (lv_at hl 2 rfl) ?_
          refine lv_iload_n hx hb dX4_merge_42 rfl (lv_at hl 3 rfl) ?_
          refine ro_V (rest := [.ref (ad 0)]) (As := [.int (zi (zi1)), .int (zi (zj))]) ⟨hx, hb, hml, hown, hts⟩ (c_X4_baseOf l g ad σ (th) hW (zi1) (zj) (by omega) (by omega)) (cwV 2 hts gX4_merge_X4_baseOf rfl rfl rfl (by decide +kernel) ⟨Nat.le_of_ble_eq_true rfl, Nat.le_of_ble_eq_true rfl⟩) (z_recv hK (hP 0 _ rfl) rfl) hP hK rfl hl.1 rfl (Nat.le_of_ble_eq_true rfl) dX4_merge_43 ⟨Nat.zero_le _, Nat.zero_le _⟩ ?_
          refine z_iconst hx hb dX4_merge_46 ?_
          refine z_icmp_eq (tgt := 59) hx hb dX4_merge_47 (by decide) (by omega) (by omega) (fun h47 => ?_) (fun h47 => ?_)
          · exfalso; omega
          ·
            refine lv_aload_n hx hb dX4_merge_50 rfl (lv_at hl 1 rfl) ?_
            refine z_get (C := RX4) (T := TX4) (N := 14) hx hb hts hiX4 hown hK (hP 0 _ rfl) rfl 0 (by decide) (hts (.fieldLink RX4 48 "HarmoniumDeskModel" "versions" "I") (by decide +kernel)) rfl rfl dX4_merge_51 ?_
            refine z_bipush hx hb dX4_merge_54 (by decide) ?_
            refine z_icmp_ne (tgt := 63) hx hb dX4_merge_56 (by decide) (by omega) (by omega) (fun h56 => ?_) (fun h56 => ?_)
            ·
              refine z_iconst hx hb dX4_merge_63 ?_
              refine wi_V (rest := []) (As := [.int (zi (0))]) ⟨hx, hb, hml, hown, hts⟩ (c_X4_fails l g ad σ (th) hW hd _ (0) (by omega)) (cwV 1 hts gX4_merge_X4_fails rfl rfl rfl (by decide +kernel) ⟨Nat.le_of_ble_eq_true rfl, Nat.le_of_ble_eq_true rfl⟩) (z_recv hK (hP 0 _ rfl) rfl) hP trivial hK rfl hl.1 rfl (Nat.le_of_ble_eq_true rfl) dX4_merge_64 ⟨Nat.zero_le _, Nat.zero_le _⟩ hS (MW_fr hS.1) (fun H locs hP _ _ hS => ?_)
              refine z_ifp_eq (P := 0 < (0)) (tgt := 72) hx hb dX4_merge_67 (by decide)  (fun h67 => ?_) (fun h67 => ?_)
              ·
                refine lv_aload_n hx hb dX4_merge_72 rfl (lv_at hl 1 rfl) ?_
                refine lv_iload_n hx hb dX4_merge_73 rfl (lv_at hl 2 rfl) ?_
                refine lv_iload_n hx hb dX4_merge_74 rfl (lv_at hl 3 rfl) ?_
                refine ro_V (rest := []) (As := [.int (zi (zi1)), .int (zi (zj))]) ⟨hx, hb, hml, hown, hts⟩ (c_X4_baseOf l g ad σ (0) hW (zi1) (zj) (by omega) (by omega)) (cwV 2 hts gX4_merge_X4_baseOf rfl rfl rfl (by decide +kernel) ⟨Nat.le_of_ble_eq_true rfl, Nat.le_of_ble_eq_true rfl⟩) (z_recv hK (hP 0 _ rfl) rfl) hP hK rfl hl.1 rfl (Nat.le_of_ble_eq_true rfl) dX4_merge_75 ⟨Nat.zero_le _, Nat.zero_le _⟩ ?_
                refine z_top (b := (bn : Int)) (hbn) ?_
                refine lv_istore (lv' := [(4, .int (zi ((bn : Int)))), (3, .int (zi (1))), (0, .ref (ad 0)), (1, .int (zi (zi1))), (2, .int (zi (zj)))]) hx hb dX4_merge_78 hl (by decide) rfl (fun ls hl => ?_)
                refine lv_aload_n hx hb dX4_merge_80 rfl (lv_at hl 2 rfl) ?_
                refine lv_iload_n hx hb dX4_merge_81 rfl (lv_at hl 3 rfl) ?_
                refine wi_V (rest := []) (As := [.int (zi (zi1))]) ⟨hx, hb, hml, hown, hts⟩ (c_X4_makes l g ad σ (0) hW hd _ i hi (zi1) (by omega) N hN hnf) (cwV 1 hts gX4_merge_X4_makes rfl rfl rfl (by decide +kernel) ⟨Nat.le_of_ble_eq_true rfl, Nat.le_of_ble_eq_true rfl⟩) (z_recv hK (hP 0 _ rfl) rfl) hP trivial hK rfl hl.1 rfl (Nat.le_of_ble_eq_true rfl) dX4_merge_82 ⟨Nat.zero_le _, Nat.zero_le _⟩ hS (MW_fr hS.1) (fun H locs hP _ _ hS => ?_)
                refine lv_istore (lv' := [(5, .int (zi ((N : Int)))), (4, .int (zi ((bn : Int)))), (3, .int (zi (1))), (0, .ref (ad 0)), (1, .int (zi (zi1))), (2, .int (zi (zj)))]) hx hb dX4_merge_85 hl (by decide) rfl (fun ls hl => ?_)
                refine lv_aload_n hx hb dX4_merge_87 rfl (lv_at hl 3 rfl) ?_
                refine z_get (C := RX4) (T := TX4) (N := 14) hx hb hts hiX4 hown hK (hP 0 _ rfl) rfl 3 (by decide) (hts (.fieldLink RX4 16 "HarmoniumDeskModel" "isFixed" "[Z") (by decide +kernel)) rfl rfl dX4_merge_88 ?_
                refine lv_iload_n hx hb dX4_merge_91 rfl (lv_at hl 5 rfl) ?_
                refine z_iconst hx hb dX4_merge_92 ?_
                refine z_mzast (x := 1) hx hb hd hK hP hS 3 3 30 rfl (j) (msa3 _ _ _ _ _ _) (by omega) (by omega) (by decide) (Or.inr rfl) dX4_merge_93 (fun H locs hP hS => ?_)
                refine z_iconst hx hb dX4_merge_94 ?_
                refine z_top (b := ((0 : Nat) : Int)) (rfl) ?_
                refine lv_istore (lv' := [(6, .int (zi (((0 : Nat) : Int)))), (5, .int (zi ((N : Int)))), (4, .int (zi ((bn : Int)))), (3, .int (zi (1))), (0, .ref (ad 0)), (1, .int (zi (zi1))), (2, .int (zi (zj)))]) hx hb dX4_merge_95 hl (by decide) rfl (fun ls hl => ?_)
                rw [mgf_f (sup (opK σ N i) 3 j 1) (σ 5) N j (alB σ i bn) b (fun hh => h117 (of_decide_eq_true hh))] at hP
                exact ih (b + 1) (by omega) (by omega) H locs hP hS ls (lv_sub hl [0, 1, 2, 3, 4, 5, 6] rfl)
              · exfalso; omega
            · exfalso; omega
        · exfalso; omega
      · exfalso; omega

set_option maxHeartbeats 4000000 in
set_option maxRecDepth 100000 in
theorem c_X4_setWeight_1 (l : Launch) (g : gG) (ad : Nat → Nat) (σ : SG) (th : Int) (hW : WF σ) (hd : Dst ad) (sz : Nat) (r t : Int) (hr9 : zr r) (ht : zr t) (hbad : ¬ (0 ≤ r ∧ r ≤ 5)) : MI l yX4_setWeight wsX4_setWeight ({ frames := 1, cells := 0, slots := 0, locals := 22 }) g ad [.int (zi (r)), .int (zi (t))] sz σ th (σ) (1) (0) := by
  refine ZM.ofW (cc := cX4_setWeight) (maxL := 5) (ret := (some .int)) (by decide) rfl (Nat.le_of_ble_eq_true rfl) ?_
  intro p e s m below meth c ls hx hb hr hml hown hts hlk hP hK hl _
  obtain ⟨rfl, hP, -⟩ := hP
  have hS : va_S (va_A (MWs g ad σ th) s.heap.size) s.heap s.heap [] := va_S.rf
  have hown : s.vm.findClass RX4 = some m.cls := hown
  have hl : lv_has ls 5 [(0, .ref (ad 0)), (1, .int (zi (r))), (2, .int (zi (t)))] := hl
  have hn := hW.n
  refine lv_iload_n hx hb dX4_setWeight_0 rfl (lv_at hl 1 rfl) ?_
  refine z_iconst hx hb dX4_setWeight_1 ?_
  refine z_iconst hx hb dX4_setWeight_2 ?_
  refine ro_S (rest := []) (As := [.int (zi (r)), .int (zi (0)), .int (zi (5))]) ⟨hx, hb, hml, hown, hts⟩ (c_X4_isIn l g (r) (0) (5) (by omega) (by omega) (by omega)) (cwS 3 hts gX4_setWeight_X4_isIn rfl rfl rfl (by decide +kernel) ⟨Nat.le_of_ble_eq_true rfl, Nat.le_of_ble_eq_true rfl⟩) trivial hK rfl hl.1 rfl (Nat.le_of_ble_eq_true rfl) dX4_setWeight_3 ⟨Nat.zero_le _, Nat.zero_le _⟩ ?_
  refine lv_istore_n (lv' := [(3, .int (zi (pz ((0) ≤ (r) ∧ (r) ≤ (5))))), (0, .ref (ad 0)), (1, .int (zi (r))), (2, .int (zi (t)))]) hx hb dX4_setWeight_6 rfl hl (by decide) rfl (fun ls hl => ?_)
  refine lv_aload_n hx hb dX4_setWeight_7 rfl (lv_at hl 1 rfl) ?_
  refine lv_iload_n hx hb dX4_setWeight_8 rfl (lv_at hl 0 rfl) ?_
  refine z_ifp_ne (P := (0) ≤ (r) ∧ (r) ≤ (5)) (tgt := 16) hx hb dX4_setWeight_9 (by decide)  (fun h9 => ?_) (fun h9 => ?_)
  · exfalso; omega
  ·
    refine z_iconst hx hb dX4_setWeight_12 ?_
    refine lv_goto (tgt := 31) hx hb dX4_setWeight_13 (by decide) ?_
    refine wi_V (rest := []) (As := [.int (zi (1))]) ⟨hx, hb, hml, hown, hts⟩ (c_X4_fails l g ad σ (th) hW hd _ (1) (by omega)) (cwV 1 hts gX4_setWeight_X4_fails rfl rfl rfl (by decide +kernel) ⟨Nat.le_of_ble_eq_true rfl, Nat.le_of_ble_eq_true rfl⟩) (z_recv hK (hP 0 _ rfl) rfl) hP trivial hK rfl hl.1 rfl (Nat.le_of_ble_eq_true rfl) dX4_setWeight_31 ⟨Nat.zero_le _, Nat.zero_le _⟩ hS (MW_fr hS.1) (fun H locs hP _ _ hS => ?_)
    refine z_ifp_eq (P := 0 < (1)) (tgt := 39) hx hb dX4_setWeight_34 (by decide)  (fun h34 => ?_) (fun h34 => ?_)
    · exfalso; omega
    ·
      refine z_iconst hx hb dX4_setWeight_37 ?_
      exact z_wiret hx hb hr hlk dX4_setWeight_38 (by omega) hP hS

set_option maxHeartbeats 4000000 in
set_option maxRecDepth 100000 in
theorem c_X4_setWeight_2 (l : Launch) (g : gG) (ad : Nat → Nat) (σ : SG) (th : Int) (hW : WF σ) (hd : Dst ad) (sz : Nat) (r t : Int) (hr9 : zr r) (ht : zr t) (hg : 0 ≤ r ∧ r ≤ 5) (hbad : ¬ (0 ≤ t ∧ t ≤ 50)) : MI l yX4_setWeight wsX4_setWeight ({ frames := 1, cells := 0, slots := 0, locals := 22 }) g ad [.int (zi (r)), .int (zi (t))] sz σ th (σ) (2) (0) := by
  refine ZM.ofW (cc := cX4_setWeight) (maxL := 5) (ret := (some .int)) (by decide) rfl (Nat.le_of_ble_eq_true rfl) ?_
  intro p e s m below meth c ls hx hb hr hml hown hts hlk hP hK hl _
  obtain ⟨rfl, hP, -⟩ := hP
  have hS : va_S (va_A (MWs g ad σ th) s.heap.size) s.heap s.heap [] := va_S.rf
  have hown : s.vm.findClass RX4 = some m.cls := hown
  have hl : lv_has ls 5 [(0, .ref (ad 0)), (1, .int (zi (r))), (2, .int (zi (t)))] := hl
  have hn := hW.n
  refine lv_iload_n hx hb dX4_setWeight_0 rfl (lv_at hl 1 rfl) ?_
  refine z_iconst hx hb dX4_setWeight_1 ?_
  refine z_iconst hx hb dX4_setWeight_2 ?_
  refine ro_S (rest := []) (As := [.int (zi (r)), .int (zi (0)), .int (zi (5))]) ⟨hx, hb, hml, hown, hts⟩ (c_X4_isIn l g (r) (0) (5) (by omega) (by omega) (by omega)) (cwS 3 hts gX4_setWeight_X4_isIn rfl rfl rfl (by decide +kernel) ⟨Nat.le_of_ble_eq_true rfl, Nat.le_of_ble_eq_true rfl⟩) trivial hK rfl hl.1 rfl (Nat.le_of_ble_eq_true rfl) dX4_setWeight_3 ⟨Nat.zero_le _, Nat.zero_le _⟩ ?_
  refine lv_istore_n (lv' := [(3, .int (zi (pz ((0) ≤ (r) ∧ (r) ≤ (5))))), (0, .ref (ad 0)), (1, .int (zi (r))), (2, .int (zi (t)))]) hx hb dX4_setWeight_6 rfl hl (by decide) rfl (fun ls hl => ?_)
  refine lv_aload_n hx hb dX4_setWeight_7 rfl (lv_at hl 1 rfl) ?_
  refine lv_iload_n hx hb dX4_setWeight_8 rfl (lv_at hl 0 rfl) ?_
  refine z_ifp_ne (P := (0) ≤ (r) ∧ (r) ≤ (5)) (tgt := 16) hx hb dX4_setWeight_9 (by decide)  (fun h9 => ?_) (fun h9 => ?_)
  ·
    refine lv_iload_n hx hb dX4_setWeight_16 rfl (lv_at hl 3 rfl) ?_
    refine z_iconst hx hb dX4_setWeight_17 ?_
    refine z_bipush hx hb dX4_setWeight_18 (by decide) ?_
    refine ro_S (rest := [.ref (ad 0)]) (As := [.int (zi (t)), .int (zi (0)), .int (zi (50))]) ⟨hx, hb, hml, hown, hts⟩ (c_X4_isIn l g (t) (0) (50) (by omega) (by omega) (by omega)) (cwS 3 hts gX4_setWeight_X4_isIn rfl rfl rfl (by decide +kernel) ⟨Nat.le_of_ble_eq_true rfl, Nat.le_of_ble_eq_true rfl⟩) trivial hK rfl hl.1 rfl (Nat.le_of_ble_eq_true rfl) dX4_setWeight_20 ⟨Nat.zero_le _, Nat.zero_le _⟩ ?_
    refine z_ifp_eq (P := (0) ≤ (t) ∧ (t) ≤ (50)) (tgt := 30) hx hb dX4_setWeight_23 (by decide)  (fun h23 => ?_) (fun h23 => ?_)
    ·
      refine z_iconst hx hb dX4_setWeight_30 ?_
      refine wi_V (rest := []) (As := [.int (zi (2))]) ⟨hx, hb, hml, hown, hts⟩ (c_X4_fails l g ad σ (th) hW hd _ (2) (by omega)) (cwV 1 hts gX4_setWeight_X4_fails rfl rfl rfl (by decide +kernel) ⟨Nat.le_of_ble_eq_true rfl, Nat.le_of_ble_eq_true rfl⟩) (z_recv hK (hP 0 _ rfl) rfl) hP trivial hK rfl hl.1 rfl (Nat.le_of_ble_eq_true rfl) dX4_setWeight_31 ⟨Nat.zero_le _, Nat.zero_le _⟩ hS (MW_fr hS.1) (fun H locs hP _ _ hS => ?_)
      refine z_ifp_eq (P := 0 < (2)) (tgt := 39) hx hb dX4_setWeight_34 (by decide)  (fun h34 => ?_) (fun h34 => ?_)
      · exfalso; omega
      ·
        refine z_iconst hx hb dX4_setWeight_37 ?_
        exact z_wiret hx hb hr hlk dX4_setWeight_38 (by omega) hP hS
    · exfalso; omega
  · exfalso; omega

set_option maxHeartbeats 4000000 in
set_option maxRecDepth 100000 in
theorem c_X4_setWeight_0 (l : Launch) (g : gG) (ad : Nat → Nat) (σ : SG) (th : Int) (hW : WF σ) (hd : Dst ad) (sz : Nat) (r : Nat) (hr6 : r < 6) (z : Int) (hz : z = (r : Int)) (t : Int) (hg2 : 0 ≤ t ∧ t ≤ 50) : MI l yX4_setWeight wsX4_setWeight ({ frames := 1, cells := 0, slots := 0, locals := 22 }) g ad [.int (zi (z)), .int (zi (t))] sz σ th (sup σ 6 r t) (0) (σ 6 r) := by
  refine ZM.ofW (cc := cX4_setWeight) (maxL := 5) (ret := (some .int)) (by decide) rfl (Nat.le_of_ble_eq_true rfl) ?_
  intro p e s m below meth c ls hx hb hr hml hown hts hlk hP hK hl _
  obtain ⟨rfl, hP, -⟩ := hP
  have hS : va_S (va_A (MWs g ad σ th) s.heap.size) s.heap s.heap [] := va_S.rf
  have hown : s.vm.findClass RX4 = some m.cls := hown
  have hl : lv_has ls 5 [(0, .ref (ad 0)), (1, .int (zi (z))), (2, .int (zi (t)))] := hl
  have hiX4 : ∀ w ∈ u_ws RX4 TX4 14, w ∈ wsX4_setWeight := by decide +kernel
  have hn := hW.n
  refine lv_iload_n hx hb dX4_setWeight_0 rfl (lv_at hl 1 rfl) ?_
  refine z_iconst hx hb dX4_setWeight_1 ?_
  refine z_iconst hx hb dX4_setWeight_2 ?_
  refine ro_S (rest := []) (As := [.int (zi (z)), .int (zi (0)), .int (zi (5))]) ⟨hx, hb, hml, hown, hts⟩ (c_X4_isIn l g (z) (0) (5) (by omega) (by omega) (by omega)) (cwS 3 hts gX4_setWeight_X4_isIn rfl rfl rfl (by decide +kernel) ⟨Nat.le_of_ble_eq_true rfl, Nat.le_of_ble_eq_true rfl⟩) trivial hK rfl hl.1 rfl (Nat.le_of_ble_eq_true rfl) dX4_setWeight_3 ⟨Nat.zero_le _, Nat.zero_le _⟩ ?_
  refine lv_istore_n (lv' := [(3, .int (zi (pz ((0) ≤ (z) ∧ (z) ≤ (5))))), (0, .ref (ad 0)), (1, .int (zi (z))), (2, .int (zi (t)))]) hx hb dX4_setWeight_6 rfl hl (by decide) rfl (fun ls hl => ?_)
  refine lv_aload_n hx hb dX4_setWeight_7 rfl (lv_at hl 1 rfl) ?_
  refine lv_iload_n hx hb dX4_setWeight_8 rfl (lv_at hl 0 rfl) ?_
  refine z_ifp_ne (P := (0) ≤ (z) ∧ (z) ≤ (5)) (tgt := 16) hx hb dX4_setWeight_9 (by decide)  (fun h9 => ?_) (fun h9 => ?_)
  ·
    refine lv_iload_n hx hb dX4_setWeight_16 rfl (lv_at hl 3 rfl) ?_
    refine z_iconst hx hb dX4_setWeight_17 ?_
    refine z_bipush hx hb dX4_setWeight_18 (by decide) ?_
    refine ro_S (rest := [.ref (ad 0)]) (As := [.int (zi (t)), .int (zi (0)), .int (zi (50))]) ⟨hx, hb, hml, hown, hts⟩ (c_X4_isIn l g (t) (0) (50) (by omega) (by omega) (by omega)) (cwS 3 hts gX4_setWeight_X4_isIn rfl rfl rfl (by decide +kernel) ⟨Nat.le_of_ble_eq_true rfl, Nat.le_of_ble_eq_true rfl⟩) trivial hK rfl hl.1 rfl (Nat.le_of_ble_eq_true rfl) dX4_setWeight_20 ⟨Nat.zero_le _, Nat.zero_le _⟩ ?_
    refine z_ifp_eq (P := (0) ≤ (t) ∧ (t) ≤ (50)) (tgt := 30) hx hb dX4_setWeight_23 (by decide)  (fun h23 => ?_) (fun h23 => ?_)
    · exfalso; omega
    ·
      refine z_iconst hx hb dX4_setWeight_26 ?_
      refine lv_goto (tgt := 31) hx hb dX4_setWeight_27 (by decide) ?_
      refine wi_V (rest := []) (As := [.int (zi (0))]) ⟨hx, hb, hml, hown, hts⟩ (c_X4_fails l g ad σ (th) hW hd _ (0) (by omega)) (cwV 1 hts gX4_setWeight_X4_fails rfl rfl rfl (by decide +kernel) ⟨Nat.le_of_ble_eq_true rfl, Nat.le_of_ble_eq_true rfl⟩) (z_recv hK (hP 0 _ rfl) rfl) hP trivial hK rfl hl.1 rfl (Nat.le_of_ble_eq_true rfl) dX4_setWeight_31 ⟨Nat.zero_le _, Nat.zero_le _⟩ hS (MW_fr hS.1) (fun H locs hP _ _ hS => ?_)
      refine z_ifp_eq (P := 0 < (0)) (tgt := 39) hx hb dX4_setWeight_34 (by decide)  (fun h34 => ?_) (fun h34 => ?_)
      ·
        refine lv_aload_n hx hb dX4_setWeight_39 rfl (lv_at hl 1 rfl) ?_
        refine z_get (C := RX4) (T := TX4) (N := 14) hx hb hts hiX4 hown hK (hP 0 _ rfl) rfl 6 (by decide) (hts (.fieldLink RX4 26 "HarmoniumDeskModel" "weight" "[I") (by decide +kernel)) rfl rfl dX4_setWeight_40 ?_
        refine lv_iload_n hx hb dX4_setWeight_43 rfl (lv_at hl 2 rfl) ?_
        refine z_iald hx hb hK (hP 6 _ rfl) (r) (by omega) (by omega) (by decide) dX4_setWeight_44 ?_
        refine lv_istore (lv' := [(4, .int (zi (σ 6 (r)))), (3, .int (zi (pz ((0) ≤ (z) ∧ (z) ≤ (5))))), (0, .ref (ad 0)), (1, .int (zi (z))), (2, .int (zi (t)))]) hx hb dX4_setWeight_45 hl (by decide) rfl (fun ls hl => ?_)
        refine lv_aload_n hx hb dX4_setWeight_47 rfl (lv_at hl 2 rfl) ?_
        refine z_get (C := RX4) (T := TX4) (N := 14) hx hb hts hiX4 hown hK (hP 0 _ rfl) rfl 6 (by decide) (hts (.fieldLink RX4 26 "HarmoniumDeskModel" "weight" "[I") (by decide +kernel)) rfl rfl dX4_setWeight_48 ?_
        refine lv_iload_n hx hb dX4_setWeight_51 rfl (lv_at hl 3 rfl) ?_
        refine lv_iload_n hx hb dX4_setWeight_52 rfl (lv_at hl 4 rfl) ?_
        refine z_mast (x := t) hx hb hd hK hP hS 6 6 6 rfl (r) (msa6 _ _ _ _ _ _) (by omega) (by omega) (by decide) dX4_setWeight_53 (fun H locs hP hS => ?_)
        refine lv_iload hx hb dX4_setWeight_54 (lv_at hl 0 rfl) ?_
        exact z_wiret hx hb hr hlk dX4_setWeight_56 (rfl) hP hS
      · exfalso; omega
  · exfalso; omega

set_option maxHeartbeats 4000000 in
set_option maxRecDepth 100000 in
theorem c_X4_setPass_1 (l : Launch) (g : gG) (ad : Nat → Nat) (σ : SG) (th : Int) (hW : WF σ) (hd : Dst ad) (sz : Nat) (t : Int) (ht : zr t) (hbad : ¬ (0 ≤ t ∧ t ≤ 100)) : MI l yX4_setPass wsX4_setPass ({ frames := 1, cells := 0, slots := 0, locals := 22 }) g ad [.int (zi (t))] sz σ th (σ) (1) (0) := by
  refine ZM.ofW (cc := cX4_setPass) (maxL := 3) (ret := (some .int)) (by decide) rfl (Nat.le_of_ble_eq_true rfl) ?_
  intro p e s m below meth c ls hx hb hr hml hown hts hlk hP hK hl _
  obtain ⟨rfl, hP, -⟩ := hP
  have hS : va_S (va_A (MWs g ad σ th) s.heap.size) s.heap s.heap [] := va_S.rf
  have hown : s.vm.findClass RX4 = some m.cls := hown
  have hl : lv_has ls 3 [(0, .ref (ad 0)), (1, .int (zi (t)))] := hl
  have hn := hW.n
  refine lv_aload_n hx hb dX4_setPass_0 rfl (lv_at hl 0 rfl) ?_
  refine lv_iload_n hx hb dX4_setPass_1 rfl (lv_at hl 1 rfl) ?_
  refine z_iconst hx hb dX4_setPass_2 ?_
  refine z_bipush hx hb dX4_setPass_3 (by decide) ?_
  refine ro_S (rest := [.ref (ad 0)]) (As := [.int (zi (t)), .int (zi (0)), .int (zi (100))]) ⟨hx, hb, hml, hown, hts⟩ (c_X4_isIn l g (t) (0) (100) (by omega) (by omega) (by omega)) (cwS 3 hts gX4_setPass_X4_isIn rfl rfl rfl (by decide +kernel) ⟨Nat.le_of_ble_eq_true rfl, Nat.le_of_ble_eq_true rfl⟩) trivial hK rfl hl.1 rfl (Nat.le_of_ble_eq_true rfl) dX4_setPass_5 ⟨Nat.zero_le _, Nat.zero_le _⟩ ?_
  refine z_ifp_eq (P := (0) ≤ (t) ∧ (t) ≤ (100)) (tgt := 15) hx hb dX4_setPass_8 (by decide)  (fun h8 => ?_) (fun h8 => ?_)
  ·
    refine z_iconst hx hb dX4_setPass_15 ?_
    refine wi_V (rest := []) (As := [.int (zi (1))]) ⟨hx, hb, hml, hown, hts⟩ (c_X4_fails l g ad σ (th) hW hd _ (1) (by omega)) (cwV 1 hts gX4_setPass_X4_fails rfl rfl rfl (by decide +kernel) ⟨Nat.le_of_ble_eq_true rfl, Nat.le_of_ble_eq_true rfl⟩) (z_recv hK (hP 0 _ rfl) rfl) hP trivial hK rfl hl.1 rfl (Nat.le_of_ble_eq_true rfl) dX4_setPass_16 ⟨Nat.zero_le _, Nat.zero_le _⟩ hS (MW_fr hS.1) (fun H locs hP _ _ hS => ?_)
    refine z_ifp_eq (P := 0 < (1)) (tgt := 24) hx hb dX4_setPass_19 (by decide)  (fun h19 => ?_) (fun h19 => ?_)
    · exfalso; omega
    ·
      refine z_iconst hx hb dX4_setPass_22 ?_
      exact z_wiret hx hb hr hlk dX4_setPass_23 (by omega) hP hS
  · exfalso; omega

set_option maxHeartbeats 4000000 in
set_option maxRecDepth 100000 in
theorem c_X4_setPass_0 (l : Launch) (g : gG) (ad : Nat → Nat) (σ : SG) (th : Int) (hW : WF σ) (hd : Dst ad) (sz : Nat) (t : Int) (hg : 0 ≤ t ∧ t ≤ 100) : MI l yX4_setPass wsX4_setPass ({ frames := 1, cells := 0, slots := 0, locals := 22 }) g ad [.int (zi (t))] sz σ th (sup σ 7 0 t) (0) (σ 7 0) := by
  refine ZM.ofW (cc := cX4_setPass) (maxL := 3) (ret := (some .int)) (by decide) rfl (Nat.le_of_ble_eq_true rfl) ?_
  intro p e s m below meth c ls hx hb hr hml hown hts hlk hP hK hl _
  obtain ⟨rfl, hP, -⟩ := hP
  have hS : va_S (va_A (MWs g ad σ th) s.heap.size) s.heap s.heap [] := va_S.rf
  have hown : s.vm.findClass RX4 = some m.cls := hown
  have hl : lv_has ls 3 [(0, .ref (ad 0)), (1, .int (zi (t)))] := hl
  have hiX4 : ∀ w ∈ u_ws RX4 TX4 14, w ∈ wsX4_setPass := by decide +kernel
  have hn := hW.n
  refine lv_aload_n hx hb dX4_setPass_0 rfl (lv_at hl 0 rfl) ?_
  refine lv_iload_n hx hb dX4_setPass_1 rfl (lv_at hl 1 rfl) ?_
  refine z_iconst hx hb dX4_setPass_2 ?_
  refine z_bipush hx hb dX4_setPass_3 (by decide) ?_
  refine ro_S (rest := [.ref (ad 0)]) (As := [.int (zi (t)), .int (zi (0)), .int (zi (100))]) ⟨hx, hb, hml, hown, hts⟩ (c_X4_isIn l g (t) (0) (100) (by omega) (by omega) (by omega)) (cwS 3 hts gX4_setPass_X4_isIn rfl rfl rfl (by decide +kernel) ⟨Nat.le_of_ble_eq_true rfl, Nat.le_of_ble_eq_true rfl⟩) trivial hK rfl hl.1 rfl (Nat.le_of_ble_eq_true rfl) dX4_setPass_5 ⟨Nat.zero_le _, Nat.zero_le _⟩ ?_
  refine z_ifp_eq (P := (0) ≤ (t) ∧ (t) ≤ (100)) (tgt := 15) hx hb dX4_setPass_8 (by decide)  (fun h8 => ?_) (fun h8 => ?_)
  · exfalso; omega
  ·
    refine z_iconst hx hb dX4_setPass_11 ?_
    refine lv_goto (tgt := 16) hx hb dX4_setPass_12 (by decide) ?_
    refine wi_V (rest := []) (As := [.int (zi (0))]) ⟨hx, hb, hml, hown, hts⟩ (c_X4_fails l g ad σ (th) hW hd _ (0) (by omega)) (cwV 1 hts gX4_setPass_X4_fails rfl rfl rfl (by decide +kernel) ⟨Nat.le_of_ble_eq_true rfl, Nat.le_of_ble_eq_true rfl⟩) (z_recv hK (hP 0 _ rfl) rfl) hP trivial hK rfl hl.1 rfl (Nat.le_of_ble_eq_true rfl) dX4_setPass_16 ⟨Nat.zero_le _, Nat.zero_le _⟩ hS (MW_fr hS.1) (fun H locs hP _ _ hS => ?_)
    refine z_ifp_eq (P := 0 < (0)) (tgt := 24) hx hb dX4_setPass_19 (by decide)  (fun h19 => ?_) (fun h19 => ?_)
    ·
      refine lv_aload_n hx hb dX4_setPass_24 rfl (lv_at hl 0 rfl) ?_
      refine z_get (C := RX4) (T := TX4) (N := 14) hx hb hts hiX4 hown hK (hP 0 _ rfl) rfl 7 (by decide) (hts (.fieldLink RX4 29 "HarmoniumDeskModel" "pass" "I") (by decide +kernel)) rfl rfl dX4_setPass_25 ?_
      refine lv_istore_n (lv' := [(2, .int (zi (σ 7 0))), (0, .ref (ad 0)), (1, .int (zi (t)))]) hx hb dX4_setPass_28 rfl hl (by decide) rfl (fun ls hl => ?_)
      refine lv_aload_n hx hb dX4_setPass_29 rfl (lv_at hl 1 rfl) ?_
      refine lv_iload_n hx hb dX4_setPass_30 rfl (lv_at hl 2 rfl) ?_
      refine z_mput hx hb hd hts hiX4 hown hK hP hS 7 (by decide) (hts (.fieldLink RX4 29 "HarmoniumDeskModel" "pass" "I") (by decide +kernel)) rfl rfl rfl (ms7 _ _ _ _ _) dX4_setPass_31 (fun H locs hP hS => ?_)
      refine lv_iload_n hx hb dX4_setPass_34 rfl (lv_at hl 0 rfl) ?_
      exact z_wiret hx hb hr hlk dX4_setPass_35 (rfl) hP hS
    · exfalso; omega

set_option maxHeartbeats 4000000 in
set_option maxRecDepth 100000 in
theorem c_X4_faults_1 (l : Launch) (g : gG) (ad : Nat → Nat) (σ : SG) (th : Int) (hW : WF σ) (hd : Dst ad) (sz : Nat) (z b r : Int) (hz : zr z) (hb9 : zr b) (hr9 : zr r) (hbad : ¬ (IsN σ z 0 b ∧ 0 ≤ r ∧ r ≤ 5)) : MI l yX4_faults wsX4_faults ({ frames := 3, cells := 0, slots := 0, locals := 66 }) g ad [.int (zi (z)), .int (zi (b)), .int (zi (r))] sz σ th (σ) (1) (0) := by
  refine ZM.ofW (cc := cX4_faults) (maxL := 5) (ret := (some .int)) (by decide) rfl (Nat.le_of_ble_eq_true rfl) ?_
  intro p e s m below meth c ls hx hb hr hml hown hts hlk hP hK hl _
  obtain ⟨rfl, hP, -⟩ := hP
  have hS : va_S (va_A (MWs g ad σ th) s.heap.size) s.heap s.heap [] := va_S.rf
  have hown : s.vm.findClass RX4 = some m.cls := hown
  have hl : lv_has ls 5 [(0, .ref (ad 0)), (1, .int (zi (z))), (2, .int (zi (b))), (3, .int (zi (r)))] := hl
  have hn := hW.n
  refine lv_aload_n hx hb dX4_faults_0 rfl (lv_at hl 0 rfl) ?_
  refine lv_iload_n hx hb dX4_faults_1 rfl (lv_at hl 1 rfl) ?_
  refine z_iconst hx hb dX4_faults_2 ?_
  refine lv_iload_n hx hb dX4_faults_3 rfl (lv_at hl 2 rfl) ?_
  refine ro_V (rest := []) (As := [.int (zi (z)), .int (zi (0)), .int (zi (b))]) ⟨hx, hb, hml, hown, hts⟩ (c_X4_isNote l g ad σ (th) hW (z) (0) (b) (by omega) (by omega) (by omega)) (cwV 3 hts gX4_faults_X4_isNote rfl rfl rfl (by decide +kernel) ⟨Nat.le_of_ble_eq_true rfl, Nat.le_of_ble_eq_true rfl⟩) (z_recv hK (hP 0 _ rfl) rfl) hP hK rfl hl.1 rfl (Nat.le_of_ble_eq_true rfl) dX4_faults_4 ⟨Nat.zero_le _, Nat.zero_le _⟩ ?_
  refine z_ifp_eq (P := IsN σ (z) (0) (b)) (tgt := 23) hx hb dX4_faults_7 (by decide)  (fun h7 => ?_) (fun h7 => ?_)
  ·
    refine z_iconst hx hb dX4_faults_23 ?_
    refine lv_istore (lv' := [(4, .int (zi (0))), (0, .ref (ad 0)), (1, .int (zi (z))), (2, .int (zi (b))), (3, .int (zi (r)))]) hx hb dX4_faults_24 hl (by decide) rfl (fun ls hl => ?_)
    refine lv_aload_n hx hb dX4_faults_26 rfl (lv_at hl 1 rfl) ?_
    refine lv_iload hx hb dX4_faults_27 (lv_at hl 0 rfl) ?_
    refine z_if_eq (tgt := 36) hx hb dX4_faults_29 (by decide) (by omega) (fun h29 => ?_) (fun h29 => ?_)
    ·
      refine z_iconst hx hb dX4_faults_36 ?_
      refine wi_V (rest := []) (As := [.int (zi (1))]) ⟨hx, hb, hml, hown, hts⟩ (c_X4_fails l g ad σ (th) hW hd _ (1) (by omega)) (cwV 1 hts gX4_faults_X4_fails rfl rfl rfl (by decide +kernel) ⟨Nat.le_of_ble_eq_true rfl, Nat.le_of_ble_eq_true rfl⟩) (z_recv hK (hP 0 _ rfl) rfl) hP trivial hK rfl hl.1 rfl (Nat.le_of_ble_eq_true rfl) dX4_faults_37 ⟨Nat.zero_le _, Nat.zero_le _⟩ hS (MW_fr hS.1) (fun H locs hP _ _ hS => ?_)
      refine z_ifp_eq (P := 0 < (1)) (tgt := 47) hx hb dX4_faults_40 (by decide)  (fun h40 => ?_) (fun h40 => ?_)
      · exfalso; omega
      ·
        refine z_iconst hx hb dX4_faults_43 ?_
        refine lv_goto (tgt := 54) hx hb dX4_faults_44 (by decide) ?_
        exact z_wiret hx hb hr hlk dX4_faults_54 (by omega) hP hS
    · exfalso; omega
  ·
    refine lv_iload_n hx hb dX4_faults_10 rfl (lv_at hl 3 rfl) ?_
    refine z_iconst hx hb dX4_faults_11 ?_
    refine z_iconst hx hb dX4_faults_12 ?_
    refine ro_S (rest := []) (As := [.int (zi (r)), .int (zi (0)), .int (zi (5))]) ⟨hx, hb, hml, hown, hts⟩ (c_X4_isIn l g (r) (0) (5) (by omega) (by omega) (by omega)) (cwS 3 hts gX4_faults_X4_isIn rfl rfl rfl (by decide +kernel) ⟨Nat.le_of_ble_eq_true rfl, Nat.le_of_ble_eq_true rfl⟩) trivial hK rfl hl.1 rfl (Nat.le_of_ble_eq_true rfl) dX4_faults_13 ⟨Nat.zero_le _, Nat.zero_le _⟩ ?_
    refine z_ifp_eq (P := (0) ≤ (r) ∧ (r) ≤ (5)) (tgt := 23) hx hb dX4_faults_16 (by decide)  (fun h16 => ?_) (fun h16 => ?_)
    ·
      refine z_iconst hx hb dX4_faults_23 ?_
      refine lv_istore (lv' := [(4, .int (zi (0))), (0, .ref (ad 0)), (1, .int (zi (z))), (2, .int (zi (b))), (3, .int (zi (r)))]) hx hb dX4_faults_24 hl (by decide) rfl (fun ls hl => ?_)
      refine lv_aload_n hx hb dX4_faults_26 rfl (lv_at hl 1 rfl) ?_
      refine lv_iload hx hb dX4_faults_27 (lv_at hl 0 rfl) ?_
      refine z_if_eq (tgt := 36) hx hb dX4_faults_29 (by decide) (by omega) (fun h29 => ?_) (fun h29 => ?_)
      ·
        refine z_iconst hx hb dX4_faults_36 ?_
        refine wi_V (rest := []) (As := [.int (zi (1))]) ⟨hx, hb, hml, hown, hts⟩ (c_X4_fails l g ad σ (th) hW hd _ (1) (by omega)) (cwV 1 hts gX4_faults_X4_fails rfl rfl rfl (by decide +kernel) ⟨Nat.le_of_ble_eq_true rfl, Nat.le_of_ble_eq_true rfl⟩) (z_recv hK (hP 0 _ rfl) rfl) hP trivial hK rfl hl.1 rfl (Nat.le_of_ble_eq_true rfl) dX4_faults_37 ⟨Nat.zero_le _, Nat.zero_le _⟩ hS (MW_fr hS.1) (fun H locs hP _ _ hS => ?_)
        refine z_ifp_eq (P := 0 < (1)) (tgt := 47) hx hb dX4_faults_40 (by decide)  (fun h40 => ?_) (fun h40 => ?_)
        · exfalso; omega
        ·
          refine z_iconst hx hb dX4_faults_43 ?_
          refine lv_goto (tgt := 54) hx hb dX4_faults_44 (by decide) ?_
          exact z_wiret hx hb hr hlk dX4_faults_54 (by omega) hP hS
      · exfalso; omega
    · exfalso; omega

set_option maxHeartbeats 4000000 in
set_option maxRecDepth 100000 in
theorem c_X4_faults_0 (l : Launch) (g : gG) (ad : Nat → Nat) (σ : SG) (th : Int) (hW : WF σ) (hd : Dst ad) (sz : Nat) (k : Nat) (hk : (k : Int) < σ 0 0) (zk : Int) (hzk : zk = (k : Int)) (b : Nat) (hbb : (b : Int) < σ 1 k) (zb : Int) (hzb : zb = (b : Int)) (r : Nat) (hr6 : r < 6) (zr1 : Int) (hzr : zr1 = (r : Int)) : MI l yX4_faults wsX4_faults ({ frames := 3, cells := 0, slots := 0, locals := 70 }) g ad [.int (zi (zk)), .int (zi (zb)), .int (zi (zr1))] sz σ th (σ) (0) (ft r (σ 1 k).toNat (NU σ k) (NL σ k) b) := by
  refine ZM.ofW (cc := cX4_faults) (maxL := 5) (ret := (some .int)) (by decide) rfl (Nat.le_of_ble_eq_true rfl) ?_
  intro p e s m below meth c ls hx hb hr hml hown hts hlk hP hK hl _
  obtain ⟨rfl, hP, -⟩ := hP
  have hS : va_S (va_A (MWs g ad σ th) s.heap.size) s.heap s.heap [] := va_S.rf
  have hown : s.vm.findClass RX4 = some m.cls := hown
  have hl : lv_has ls 5 [(0, .ref (ad 0)), (1, .int (zi (zk))), (2, .int (zi (zb))), (3, .int (zi (zr1)))] := hl
  have hn := hW.n
  have hbk := hW.bars hk
  have ek : zk.toNat = k := by omega
  have hbz : (b : Int) < σ 1 zk.toNat := by rw [ek]; exact hbb
  refine lv_aload_n hx hb dX4_faults_0 rfl (lv_at hl 0 rfl) ?_
  refine lv_iload_n hx hb dX4_faults_1 rfl (lv_at hl 1 rfl) ?_
  refine z_iconst hx hb dX4_faults_2 ?_
  refine lv_iload_n hx hb dX4_faults_3 rfl (lv_at hl 2 rfl) ?_
  refine ro_V (rest := []) (As := [.int (zi (zk)), .int (zi (0)), .int (zi (zb))]) ⟨hx, hb, hml, hown, hts⟩ (c_X4_isNote l g ad σ (th) hW (zk) (0) (zb) (by omega) (by omega) (by omega)) (cwV 3 hts gX4_faults_X4_isNote rfl rfl rfl (by decide +kernel) ⟨Nat.le_of_ble_eq_true rfl, Nat.le_of_ble_eq_true rfl⟩) (z_recv hK (hP 0 _ rfl) rfl) hP hK rfl hl.1 rfl (Nat.le_of_ble_eq_true rfl) dX4_faults_4 ⟨Nat.zero_le _, Nat.zero_le _⟩ ?_
  refine z_ifp_eq (P := IsN σ (zk) (0) (zb)) (tgt := 23) hx hb dX4_faults_7 (by decide)  (fun h7 => ?_) (fun h7 => ?_)
  · exfalso; omega
  ·
    refine lv_iload_n hx hb dX4_faults_10 rfl (lv_at hl 3 rfl) ?_
    refine z_iconst hx hb dX4_faults_11 ?_
    refine z_iconst hx hb dX4_faults_12 ?_
    refine ro_S (rest := []) (As := [.int (zi (zr1)), .int (zi (0)), .int (zi (5))]) ⟨hx, hb, hml, hown, hts⟩ (c_X4_isIn l g (zr1) (0) (5) (by omega) (by omega) (by omega)) (cwS 3 hts gX4_faults_X4_isIn rfl rfl rfl (by decide +kernel) ⟨Nat.le_of_ble_eq_true rfl, Nat.le_of_ble_eq_true rfl⟩) trivial hK rfl hl.1 rfl (Nat.le_of_ble_eq_true rfl) dX4_faults_13 ⟨Nat.zero_le _, Nat.zero_le _⟩ ?_
    refine z_ifp_eq (P := (0) ≤ (zr1) ∧ (zr1) ≤ (5)) (tgt := 23) hx hb dX4_faults_16 (by decide)  (fun h16 => ?_) (fun h16 => ?_)
    · exfalso; omega
    ·
      refine z_iconst hx hb dX4_faults_19 ?_
      refine lv_goto (tgt := 24) hx hb dX4_faults_20 (by decide) ?_
      refine lv_istore (lv' := [(4, .int (zi (1))), (0, .ref (ad 0)), (1, .int (zi (zk))), (2, .int (zi (zb))), (3, .int (zi (zr1)))]) hx hb dX4_faults_24 hl (by decide) rfl (fun ls hl => ?_)
      refine lv_aload_n hx hb dX4_faults_26 rfl (lv_at hl 1 rfl) ?_
      refine lv_iload hx hb dX4_faults_27 (lv_at hl 0 rfl) ?_
      refine z_if_eq (tgt := 36) hx hb dX4_faults_29 (by decide) (by omega) (fun h29 => ?_) (fun h29 => ?_)
      · exfalso; omega
      ·
        refine z_iconst hx hb dX4_faults_32 ?_
        refine lv_goto (tgt := 37) hx hb dX4_faults_33 (by decide) ?_
        refine wi_V (rest := []) (As := [.int (zi (0))]) ⟨hx, hb, hml, hown, hts⟩ (c_X4_fails l g ad σ (th) hW hd _ (0) (by omega)) (cwV 1 hts gX4_faults_X4_fails rfl rfl rfl (by decide +kernel) ⟨Nat.le_of_ble_eq_true rfl, Nat.le_of_ble_eq_true rfl⟩) (z_recv hK (hP 0 _ rfl) rfl) hP trivial hK rfl hl.1 rfl (Nat.le_of_ble_eq_true rfl) dX4_faults_37 ⟨Nat.zero_le _, Nat.zero_le _⟩ hS (MW_fr hS.1) (fun H locs hP _ _ hS => ?_)
        refine z_ifp_eq (P := 0 < (0)) (tgt := 47) hx hb dX4_faults_40 (by decide)  (fun h40 => ?_) (fun h40 => ?_)
        ·
          refine lv_aload_n hx hb dX4_faults_47 rfl (lv_at hl 1 rfl) ?_
          refine lv_iload_n hx hb dX4_faults_48 rfl (lv_at hl 2 rfl) ?_
          refine lv_iload_n hx hb dX4_faults_49 rfl (lv_at hl 3 rfl) ?_
          refine lv_iload_n hx hb dX4_faults_50 rfl (lv_at hl 4 rfl) ?_
          refine ro_V (rest := []) (As := [.int (zi (zk)), .int (zi (zb)), .int (zi (zr1))]) ⟨hx, hb, hml, hown, hts⟩ (c_X4_faultsAt l g ad σ (0) hW k hk (zk) (by omega) b hbb (zb) (by omega) r hr6 (zr1) (by omega)) (cwV 3 hts gX4_faults_X4_faultsAt rfl rfl rfl (by decide +kernel) ⟨Nat.le_of_ble_eq_true rfl, Nat.le_of_ble_eq_true rfl⟩) (z_recv hK (hP 0 _ rfl) rfl) hP hK rfl hl.1 rfl (Nat.le_of_ble_eq_true rfl) dX4_faults_51 ⟨Nat.zero_le _, Nat.zero_le _⟩ ?_
          exact z_wiret hx hb hr hlk dX4_faults_54 (rfl) hP hS
        · exfalso; omega

set_option maxHeartbeats 4000000 in
set_option maxRecDepth 100000 in
theorem c_X4_mark_1 (l : Launch) (g : gG) (ad : Nat → Nat) (σ : SG) (th : Int) (hW : WF σ) (hd : Dst ad) (sz : Nat) (z : Int) (hz : zr z) (hbad : ¬ IsV σ z) : MI l yX4_mark wsX4_mark ({ frames := 2, cells := 0, slots := 0, locals := 43 }) g ad [.int (zi (z))] sz σ th (σ) (1) (0) := by
  refine ZM.ofW (cc := cX4_mark) (maxL := 2) (ret := (some .int)) (by decide) rfl (Nat.le_of_ble_eq_true rfl) ?_
  intro p e s m below meth c ls hx hb hr hml hown hts hlk hP hK hl _
  obtain ⟨rfl, hP, -⟩ := hP
  have hS : va_S (va_A (MWs g ad σ th) s.heap.size) s.heap s.heap [] := va_S.rf
  have hown : s.vm.findClass RX4 = some m.cls := hown
  have hl : lv_has ls 2 [(0, .ref (ad 0)), (1, .int (zi (z)))] := hl
  have hn := hW.n
  refine lv_aload_n hx hb dX4_mark_0 rfl (lv_at hl 0 rfl) ?_
  refine lv_aload_n hx hb dX4_mark_1 rfl (lv_at hl 0 rfl) ?_
  refine lv_iload_n hx hb dX4_mark_2 rfl (lv_at hl 1 rfl) ?_
  refine ro_V (rest := [.ref (ad 0)]) (As := [.int (zi (z))]) ⟨hx, hb, hml, hown, hts⟩ (c_X4_isVersion l g ad σ (th) hW (z) (by omega)) (cwV 1 hts gX4_mark_X4_isVersion rfl rfl rfl (by decide +kernel) ⟨Nat.le_of_ble_eq_true rfl, Nat.le_of_ble_eq_true rfl⟩) (z_recv hK (hP 0 _ rfl) rfl) hP hK rfl hl.1 rfl (Nat.le_of_ble_eq_true rfl) dX4_mark_3 ⟨Nat.zero_le _, Nat.zero_le _⟩ ?_
  refine z_ifp_eq (P := IsV σ (z)) (tgt := 13) hx hb dX4_mark_6 (by decide)  (fun h6 => ?_) (fun h6 => ?_)
  ·
    refine z_iconst hx hb dX4_mark_13 ?_
    refine wi_V (rest := []) (As := [.int (zi (1))]) ⟨hx, hb, hml, hown, hts⟩ (c_X4_fails l g ad σ (th) hW hd _ (1) (by omega)) (cwV 1 hts gX4_mark_X4_fails rfl rfl rfl (by decide +kernel) ⟨Nat.le_of_ble_eq_true rfl, Nat.le_of_ble_eq_true rfl⟩) (z_recv hK (hP 0 _ rfl) rfl) hP trivial hK rfl hl.1 rfl (Nat.le_of_ble_eq_true rfl) dX4_mark_14 ⟨Nat.zero_le _, Nat.zero_le _⟩ hS (MW_fr hS.1) (fun H locs hP _ _ hS => ?_)
    refine z_ifp_eq (P := 0 < (1)) (tgt := 24) hx hb dX4_mark_17 (by decide)  (fun h17 => ?_) (fun h17 => ?_)
    · exfalso; omega
    ·
      refine z_iconst hx hb dX4_mark_20 ?_
      refine lv_goto (tgt := 29) hx hb dX4_mark_21 (by decide) ?_
      exact z_wiret hx hb hr hlk dX4_mark_29 (by omega) hP hS
  · exfalso; omega

set_option maxHeartbeats 4000000 in
set_option maxRecDepth 100000 in
theorem c_X4_mark_0 (l : Launch) (g : gG) (ad : Nat → Nat) (σ : SG) (th : Int) (hW : WF σ) (hd : Dst ad) (sz : Nat) (k : Nat) (hk : (k : Int) < σ 0 0) (zk : Int) (hzk : zk = (k : Int))  : MI l yX4_mark wsX4_mark ({ frames := 5, cells := 0, slots := 0, locals := 114 }) g ad [.int (zi (zk))] sz σ th (σ) (0) (MK σ k) := by
  refine ZM.ofW (cc := cX4_mark) (maxL := 2) (ret := (some .int)) (by decide) rfl (Nat.le_of_ble_eq_true rfl) ?_
  intro p e s m below meth c ls hx hb hr hml hown hts hlk hP hK hl _
  obtain ⟨rfl, hP, -⟩ := hP
  have hS : va_S (va_A (MWs g ad σ th) s.heap.size) s.heap s.heap [] := va_S.rf
  have hown : s.vm.findClass RX4 = some m.cls := hown
  have hl : lv_has ls 2 [(0, .ref (ad 0)), (1, .int (zi (zk)))] := hl
  have hn := hW.n
  refine lv_aload_n hx hb dX4_mark_0 rfl (lv_at hl 0 rfl) ?_
  refine lv_aload_n hx hb dX4_mark_1 rfl (lv_at hl 0 rfl) ?_
  refine lv_iload_n hx hb dX4_mark_2 rfl (lv_at hl 1 rfl) ?_
  refine ro_V (rest := [.ref (ad 0)]) (As := [.int (zi (zk))]) ⟨hx, hb, hml, hown, hts⟩ (c_X4_isVersion l g ad σ (th) hW (zk) (by omega)) (cwV 1 hts gX4_mark_X4_isVersion rfl rfl rfl (by decide +kernel) ⟨Nat.le_of_ble_eq_true rfl, Nat.le_of_ble_eq_true rfl⟩) (z_recv hK (hP 0 _ rfl) rfl) hP hK rfl hl.1 rfl (Nat.le_of_ble_eq_true rfl) dX4_mark_3 ⟨Nat.zero_le _, Nat.zero_le _⟩ ?_
  refine z_ifp_eq (P := IsV σ (zk)) (tgt := 13) hx hb dX4_mark_6 (by decide)  (fun h6 => ?_) (fun h6 => ?_)
  · exfalso; omega
  ·
    refine z_iconst hx hb dX4_mark_9 ?_
    refine lv_goto (tgt := 14) hx hb dX4_mark_10 (by decide) ?_
    refine wi_V (rest := []) (As := [.int (zi (0))]) ⟨hx, hb, hml, hown, hts⟩ (c_X4_fails l g ad σ (th) hW hd _ (0) (by omega)) (cwV 1 hts gX4_mark_X4_fails rfl rfl rfl (by decide +kernel) ⟨Nat.le_of_ble_eq_true rfl, Nat.le_of_ble_eq_true rfl⟩) (z_recv hK (hP 0 _ rfl) rfl) hP trivial hK rfl hl.1 rfl (Nat.le_of_ble_eq_true rfl) dX4_mark_14 ⟨Nat.zero_le _, Nat.zero_le _⟩ hS (MW_fr hS.1) (fun H locs hP _ _ hS => ?_)
    refine z_ifp_eq (P := 0 < (0)) (tgt := 24) hx hb dX4_mark_17 (by decide)  (fun h17 => ?_) (fun h17 => ?_)
    ·
      refine lv_aload_n hx hb dX4_mark_24 rfl (lv_at hl 0 rfl) ?_
      refine lv_iload_n hx hb dX4_mark_25 rfl (lv_at hl 1 rfl) ?_
      refine ro_V (rest := []) (As := [.int (zi (zk))]) ⟨hx, hb, hml, hown, hts⟩ (c_X4_markOf l g ad σ (0) hW k hk (zk) (by omega)) (cwV 1 hts gX4_mark_X4_markOf rfl rfl rfl (by decide +kernel) ⟨Nat.le_of_ble_eq_true rfl, Nat.le_of_ble_eq_true rfl⟩) (z_recv hK (hP 0 _ rfl) rfl) hP hK rfl hl.1 rfl (Nat.le_of_ble_eq_true rfl) dX4_mark_26 ⟨Nat.zero_le _, Nat.zero_le _⟩ ?_
      exact z_wiret hx hb hr hlk dX4_mark_29 (rfl) hP hS
    · exfalso; omega

set_option maxHeartbeats 4000000 in
set_option maxRecDepth 100000 in
theorem c_X4_handIn_1 (l : Launch) (g : gG) (ad : Nat → Nat) (σ : SG) (th : Int) (hW : WF σ) (hd : Dst ad) (sz : Nat) (z : Int) (hz : zr z) (hbad : ¬ IsV σ z) : MI l yX4_handIn wsX4_handIn ({ frames := 2, cells := 0, slots := 0, locals := 43 }) g ad [.int (zi (z))] sz σ th (σ) (1) (0) := by
  refine ZM.ofW (cc := cX4_handIn) (maxL := 2) (ret := (some .boolean)) (by decide) rfl (Nat.le_of_ble_eq_true rfl) ?_
  intro p e s m below meth c ls hx hb hr hml hown hts hlk hP hK hl _
  obtain ⟨rfl, hP, -⟩ := hP
  have hS : va_S (va_A (MWs g ad σ th) s.heap.size) s.heap s.heap [] := va_S.rf
  have hown : s.vm.findClass RX4 = some m.cls := hown
  have hl : lv_has ls 2 [(0, .ref (ad 0)), (1, .int (zi (z)))] := hl
  have hn := hW.n
  refine lv_aload_n hx hb dX4_handIn_0 rfl (lv_at hl 0 rfl) ?_
  refine lv_aload_n hx hb dX4_handIn_1 rfl (lv_at hl 0 rfl) ?_
  refine lv_iload_n hx hb dX4_handIn_2 rfl (lv_at hl 1 rfl) ?_
  refine ro_V (rest := [.ref (ad 0)]) (As := [.int (zi (z))]) ⟨hx, hb, hml, hown, hts⟩ (c_X4_isVersion l g ad σ (th) hW (z) (by omega)) (cwV 1 hts gX4_handIn_X4_isVersion rfl rfl rfl (by decide +kernel) ⟨Nat.le_of_ble_eq_true rfl, Nat.le_of_ble_eq_true rfl⟩) (z_recv hK (hP 0 _ rfl) rfl) hP hK rfl hl.1 rfl (Nat.le_of_ble_eq_true rfl) dX4_handIn_3 ⟨Nat.zero_le _, Nat.zero_le _⟩ ?_
  refine z_ifp_eq (P := IsV σ (z)) (tgt := 13) hx hb dX4_handIn_6 (by decide)  (fun h6 => ?_) (fun h6 => ?_)
  ·
    refine z_iconst hx hb dX4_handIn_13 ?_
    refine wi_V (rest := []) (As := [.int (zi (1))]) ⟨hx, hb, hml, hown, hts⟩ (c_X4_fails l g ad σ (th) hW hd _ (1) (by omega)) (cwV 1 hts gX4_handIn_X4_fails rfl rfl rfl (by decide +kernel) ⟨Nat.le_of_ble_eq_true rfl, Nat.le_of_ble_eq_true rfl⟩) (z_recv hK (hP 0 _ rfl) rfl) hP trivial hK rfl hl.1 rfl (Nat.le_of_ble_eq_true rfl) dX4_handIn_14 ⟨Nat.zero_le _, Nat.zero_le _⟩ hS (MW_fr hS.1) (fun H locs hP _ _ hS => ?_)
    refine z_ifp_eq (P := 0 < (1)) (tgt := 22) hx hb dX4_handIn_17 (by decide)  (fun h17 => ?_) (fun h17 => ?_)
    · exfalso; omega
    ·
      refine z_iconst hx hb dX4_handIn_20 ?_
      exact z_wzret hx hb hr hlk dX4_handIn_21 (by omega) (by omega) hP hS
  · exfalso; omega

set_option maxHeartbeats 4000000 in
set_option maxRecDepth 100000 in
theorem c_X4_handIn_0 (l : Launch) (g : gG) (ad : Nat → Nat) (σ : SG) (th : Int) (hW : WF σ) (hd : Dst ad) (sz : Nat) (k : Nat) (hk : (k : Int) < σ 0 0) (zk : Int) (hzk : zk = (k : Int))  : MI l yX4_handIn wsX4_handIn ({ frames := 5, cells := 0, slots := 0, locals := 114 }) g ad [.int (zi (zk))] sz σ th (sup σ 4 k (pz (σ 7 0 ≤ MK σ k))) (0) (pz (σ 7 0 ≤ MK σ k)) := by
  refine ZM.ofW (cc := cX4_handIn) (maxL := 2) (ret := (some .boolean)) (by decide) rfl (Nat.le_of_ble_eq_true rfl) ?_
  intro p e s m below meth c ls hx hb hr hml hown hts hlk hP hK hl _
  obtain ⟨rfl, hP, -⟩ := hP
  have hS : va_S (va_A (MWs g ad σ th) s.heap.size) s.heap s.heap [] := va_S.rf
  have hown : s.vm.findClass RX4 = some m.cls := hown
  have hl : lv_has ls 2 [(0, .ref (ad 0)), (1, .int (zi (zk)))] := hl
  have hiX4 : ∀ w ∈ u_ws RX4 TX4 14, w ∈ wsX4_handIn := by decide +kernel
  have hn := hW.n
  have hmk := MK_r hW hk
  have hps := hW.pass
  refine lv_aload_n hx hb dX4_handIn_0 rfl (lv_at hl 0 rfl) ?_
  refine lv_aload_n hx hb dX4_handIn_1 rfl (lv_at hl 0 rfl) ?_
  refine lv_iload_n hx hb dX4_handIn_2 rfl (lv_at hl 1 rfl) ?_
  refine ro_V (rest := [.ref (ad 0)]) (As := [.int (zi (zk))]) ⟨hx, hb, hml, hown, hts⟩ (c_X4_isVersion l g ad σ (th) hW (zk) (by omega)) (cwV 1 hts gX4_handIn_X4_isVersion rfl rfl rfl (by decide +kernel) ⟨Nat.le_of_ble_eq_true rfl, Nat.le_of_ble_eq_true rfl⟩) (z_recv hK (hP 0 _ rfl) rfl) hP hK rfl hl.1 rfl (Nat.le_of_ble_eq_true rfl) dX4_handIn_3 ⟨Nat.zero_le _, Nat.zero_le _⟩ ?_
  refine z_ifp_eq (P := IsV σ (zk)) (tgt := 13) hx hb dX4_handIn_6 (by decide)  (fun h6 => ?_) (fun h6 => ?_)
  · exfalso; omega
  ·
    refine z_iconst hx hb dX4_handIn_9 ?_
    refine lv_goto (tgt := 14) hx hb dX4_handIn_10 (by decide) ?_
    refine wi_V (rest := []) (As := [.int (zi (0))]) ⟨hx, hb, hml, hown, hts⟩ (c_X4_fails l g ad σ (th) hW hd _ (0) (by omega)) (cwV 1 hts gX4_handIn_X4_fails rfl rfl rfl (by decide +kernel) ⟨Nat.le_of_ble_eq_true rfl, Nat.le_of_ble_eq_true rfl⟩) (z_recv hK (hP 0 _ rfl) rfl) hP trivial hK rfl hl.1 rfl (Nat.le_of_ble_eq_true rfl) dX4_handIn_14 ⟨Nat.zero_le _, Nat.zero_le _⟩ hS (MW_fr hS.1) (fun H locs hP _ _ hS => ?_)
    refine z_ifp_eq (P := 0 < (0)) (tgt := 22) hx hb dX4_handIn_17 (by decide)  (fun h17 => ?_) (fun h17 => ?_)
    ·
      refine lv_aload_n hx hb dX4_handIn_22 rfl (lv_at hl 0 rfl) ?_
      refine z_get (C := RX4) (T := TX4) (N := 14) hx hb hts hiX4 hown hK (hP 0 _ rfl) rfl 4 (by decide) (hts (.fieldLink RX4 20 "HarmoniumDeskModel" "hasPassed" "[Z") (by decide +kernel)) rfl rfl dX4_handIn_23 ?_
      refine lv_iload_n hx hb dX4_handIn_26 rfl (lv_at hl 1 rfl) ?_
      refine lv_aload_n hx hb dX4_handIn_27 rfl (lv_at hl 0 rfl) ?_
      refine lv_iload_n hx hb dX4_handIn_28 rfl (lv_at hl 1 rfl) ?_
      refine ro_V (rest := [.int (zi (zk)), .ref (ad 4)]) (As := [.int (zi (zk))]) ⟨hx, hb, hml, hown, hts⟩ (c_X4_markOf l g ad σ (0) hW k hk (zk) (by omega)) (cwV 1 hts gX4_handIn_X4_markOf rfl rfl rfl (by decide +kernel) ⟨Nat.le_of_ble_eq_true rfl, Nat.le_of_ble_eq_true rfl⟩) (z_recv hK (hP 0 _ rfl) rfl) hP hK rfl hl.1 rfl (Nat.le_of_ble_eq_true rfl) dX4_handIn_29 ⟨Nat.zero_le _, Nat.zero_le _⟩ ?_
      refine lv_aload_n hx hb dX4_handIn_32 rfl (lv_at hl 0 rfl) ?_
      refine z_get (C := RX4) (T := TX4) (N := 14) hx hb hts hiX4 hown hK (hP 0 _ rfl) rfl 7 (by decide) (hts (.fieldLink RX4 29 "HarmoniumDeskModel" "pass" "I") (by decide +kernel)) rfl rfl dX4_handIn_33 ?_
      refine z_icmp_lt (tgt := 43) hx hb dX4_handIn_36 (by decide) (by omega) (by omega) (fun h36 => ?_) (fun h36 => ?_)
      ·
        refine z_iconst hx hb dX4_handIn_43 ?_
        refine z_top (b := pz (σ 7 0 ≤ MK σ k)) ((pz_f (by omega)).symm) ?_
        refine z_mzast (x := pz (σ 7 0 ≤ MK σ k)) hx hb hd hK hP hS 4 4 30 rfl (k) (msa4 _ _ _ _ _ _) (by omega) (by omega) (by decide) (by have := pz_b (σ 7 0 ≤ MK σ k); omega) dX4_handIn_44 (fun H locs hP hS => ?_)
        refine lv_aload_n hx hb dX4_handIn_45 rfl (lv_at hl 0 rfl) ?_
        refine z_get (C := RX4) (T := TX4) (N := 14) hx hb hts hiX4 hown hK (hP 0 _ rfl) rfl 4 (by decide) (hts (.fieldLink RX4 20 "HarmoniumDeskModel" "hasPassed" "[Z") (by decide +kernel)) rfl rfl dX4_handIn_46 ?_
        refine lv_iload_n hx hb dX4_handIn_49 rfl (lv_at hl 1 rfl) ?_
        refine z_zald hx hb hK (hP 4 _ rfl) (k) (by omega) (by omega) (by decide) dX4_handIn_50 ?_
        refine z_top (b := pz (σ 7 0 ≤ MK σ k)) (by rw [sup_eq]; exact if_pos rfl) ?_
        exact z_wzret hx hb hr hlk dX4_handIn_51 ((by have := pz_b (σ 7 0 ≤ MK σ k); omega)) (rfl) hP hS
      ·
        refine z_iconst hx hb dX4_handIn_39 ?_
        refine z_top (b := pz (σ 7 0 ≤ MK σ k)) ((pz_t (by omega)).symm) ?_
        refine lv_goto (tgt := 44) hx hb dX4_handIn_40 (by decide) ?_
        refine z_mzast (x := pz (σ 7 0 ≤ MK σ k)) hx hb hd hK hP hS 4 4 30 rfl (k) (msa4 _ _ _ _ _ _) (by omega) (by omega) (by decide) (by have := pz_b (σ 7 0 ≤ MK σ k); omega) dX4_handIn_44 (fun H locs hP hS => ?_)
        refine lv_aload_n hx hb dX4_handIn_45 rfl (lv_at hl 0 rfl) ?_
        refine z_get (C := RX4) (T := TX4) (N := 14) hx hb hts hiX4 hown hK (hP 0 _ rfl) rfl 4 (by decide) (hts (.fieldLink RX4 20 "HarmoniumDeskModel" "hasPassed" "[Z") (by decide +kernel)) rfl rfl dX4_handIn_46 ?_
        refine lv_iload_n hx hb dX4_handIn_49 rfl (lv_at hl 1 rfl) ?_
        refine z_zald hx hb hK (hP 4 _ rfl) (k) (by omega) (by omega) (by decide) dX4_handIn_50 ?_
        refine z_top (b := pz (σ 7 0 ≤ MK σ k)) (by rw [sup_eq]; exact if_pos rfl) ?_
        exact z_wzret hx hb hr hlk dX4_handIn_51 ((by have := pz_b (σ 7 0 ≤ MK σ k); omega)) (rfl) hP hS
    · exfalso; omega

set_option maxHeartbeats 4000000 in
set_option maxRecDepth 100000 in
theorem c_X4_fallen (l : Launch) (g : gG) (ad : Nat → Nat) (σ : SG) (th : Int) (hW : WF σ) (hd : Dst ad) (sz : Nat)  : MI l yX4_fallen wsX4_fallen ({ frames := 5, cells := 0, slots := 0, locals := 114 }) g ad [] sz σ th (σ) (0) ((sset (faB σ) (σ 0 0).toNat).toInt) := by
  refine ZM.ofW (cc := cX4_fallen) (maxL := 3) (ret := (some .int)) (by decide) rfl (Nat.le_of_ble_eq_true rfl) ?_
  intro p e s m below meth c ls hx hb hr hml hown hts hlk hP hK hl _
  obtain ⟨rfl, hP, -⟩ := hP
  have hS : va_S (va_A (MWs g ad σ th) s.heap.size) s.heap s.heap [] := va_S.rf
  have hown : s.vm.findClass RX4 = some m.cls := hown
  have hl : lv_has ls 3 [(0, .ref (ad 0))] := hl
  have hiX4 : ∀ w ∈ u_ws RX4 TX4 14, w ∈ wsX4_fallen := by decide +kernel
  have hn := hW.n
  refine lv_aload_n hx hb dX4_fallen_0 rfl (lv_at hl 0 rfl) ?_
  refine z_iconst hx hb dX4_fallen_1 ?_
  refine z_mput hx hb hd hts hiX4 hown hK hP hS 13 (by decide) (hts (.fieldLink RX4 45 "HarmoniumDeskModel" "thrown" "I") (by decide +kernel)) rfl rfl rfl (ms13 _ _ _ _ _) dX4_fallen_2 (fun H locs hP hS => ?_)
  refine z_iconst hx hb dX4_fallen_5 ?_
  refine z_xtop (y := sset (faB σ) 0) (rfl) ?_
  refine lv_istore_n (lv' := [(1, .int (sset (faB σ) 0)), (0, .ref (ad 0))]) hx hb dX4_fallen_6 rfl hl (by decide) rfl (fun ls hl => ?_)
  refine z_iconst hx hb dX4_fallen_7 ?_
  refine z_top (b := ((0 : Nat) : Int)) (rfl) ?_
  refine lv_istore_n (lv' := [(2, .int (zi (((0 : Nat) : Int)))), (1, .int (sset (faB σ) 0)), (0, .ref (ad 0))]) hx hb dX4_fallen_8 rfl hl (by decide) rfl (fun ls hl => ?_)
  have loop9 : ∀ (d k : Nat), (k : Int) ≤ σ 0 0 → (σ 0 0).toNat - k = d → ∀ (H : Heap) (locs : List Loc), va_P g.1 vwCl (MWs g ad σ (0)) H → va_S (va_A (MWs g ad σ th) s.heap.size) s.heap H locs → ∀ ls : Array Slot, lv_has ls 3 [(2, .int (zi ((k : Int)))), (1, .int (sset (faB σ) k)), (0, .ref (ad 0))] → W p l e ({ frames := 5, cells := 0, slots := 0, locals := 114 }) s m ([.ref (ad 0)] : List Value).toArray below meth c H locs 0 0 (MQ below (va_Qi (fun z9 (_ : Unit) => z9 = zi ((sset (faB σ) (σ 0 0).toNat).toInt)) (fun _ t9 => va_P g.1 vwCl (MWs g ad (σ) (0)) t9.heap) (va_A (MWs g ad σ th) s.heap.size)) ([.ref (ad 0)] : List Value).toArray s 0 0 (va_A (MWs g ad σ th) s.heap.size)) (F0 m 9 ls []) := by
    intro d
    induction d with
    | zero =>
      intro k hk9 hd2 H locs hP hS ls hl
      have eb : k = (σ 0 0).toNat := by omega
      refine lv_iload_n hx hb dX4_fallen_9 rfl (lv_at hl 0 rfl) ?_
      refine lv_aload_n hx hb dX4_fallen_10 rfl (lv_at hl 2 rfl) ?_
      refine z_get (C := RX4) (T := TX4) (N := 14) hx hb hts hiX4 hown hK (hP 0 _ rfl) rfl 0 (by decide) (hts (.fieldLink RX4 48 "HarmoniumDeskModel" "versions" "I") (by decide +kernel)) rfl rfl dX4_fallen_11 ?_
      refine z_icmp_ge (tgt := 54) hx hb dX4_fallen_14 (by decide) (by omega) (by omega) (fun h14 => ?_) (fun h14 => ?_)
      ·
        refine lv_iload_n hx hb dX4_fallen_54 rfl (lv_at hl 1 rfl) ?_
        refine z_xtop (y := zi ((sset (faB σ) (σ 0 0).toNat).toInt)) (by rw [eb]; exact zi_of _) ?_
        exact z_wiret hx hb hr hlk dX4_fallen_55 (rfl) hP hS
      · exfalso; omega
    | succ d ih =>
      intro k hk9 hd2 H locs hP hS ls hl
      have hfl := hW.flag k
      have hps := hW.pass
      refine lv_iload_n hx hb dX4_fallen_9 rfl (lv_at hl 0 rfl) ?_
      refine lv_aload_n hx hb dX4_fallen_10 rfl (lv_at hl 2 rfl) ?_
      refine z_get (C := RX4) (T := TX4) (N := 14) hx hb hts hiX4 hown hK (hP 0 _ rfl) rfl 0 (by decide) (hts (.fieldLink RX4 48 "HarmoniumDeskModel" "versions" "I") (by decide +kernel)) rfl rfl dX4_fallen_11 ?_
      refine z_icmp_ge (tgt := 54) hx hb dX4_fallen_14 (by decide) (by omega) (by omega) (fun h14 => ?_) (fun h14 => ?_)
      · exfalso; omega
      ·
        refine lv_iload_n hx hb dX4_fallen_17 rfl (lv_at hl 1 rfl) ?_
        refine lv_aload_n hx hb dX4_fallen_18 rfl (lv_at hl 2 rfl) ?_
        refine z_get (C := RX4) (T := TX4) (N := 14) hx hb hts hiX4 hown hK (hP 0 _ rfl) rfl 4 (by decide) (hts (.fieldLink RX4 20 "HarmoniumDeskModel" "hasPassed" "[Z") (by decide +kernel)) rfl rfl dX4_fallen_19 ?_
        refine lv_iload_n hx hb dX4_fallen_22 rfl (lv_at hl 0 rfl) ?_
        refine z_zald hx hb hK (hP 4 _ rfl) (k) (by omega) (by omega) (by decide) dX4_fallen_23 ?_
        refine z_if_eq (tgt := 45) hx hb dX4_fallen_24 (by decide) (by omega) (fun h24 => ?_) (fun h24 => ?_)
        ·
          refine z_iconst hx hb dX4_fallen_45 ?_
          refine lv_ior hx hb dX4_fallen_46 ?_
          refine z_xtop (y := sset (faB σ) (k + 1)) (sset_f (faB σ) k (fun hh => by have hh := of_decide_eq_true hh; omega)) ?_
          refine lv_istore_n (lv' := [(1, .int (sset (faB σ) (k + 1))), (2, .int (zi ((k : Int)))), (0, .ref (ad 0))]) hx hb dX4_fallen_47 rfl hl (by decide) rfl (fun ls hl => ?_)
          refine z_iinc (b := ((k + 1 : Nat) : Int)) (lv' := [(2, .int (zi (((k + 1 : Nat) : Int)))), (1, .int (sset (faB σ) (k + 1))), (0, .ref (ad 0))]) hx hb dX4_fallen_48 hl (k := 1) rfl (by omega) (by decide) rfl (fun ls hl => ?_)
          refine lv_goto (tgt := 9) hx hb dX4_fallen_51 (by decide) ?_
          exact ih (k + 1) (by omega) (by omega) H locs hP hS ls (lv_sub hl [0, 1, 2] rfl)
        ·
          refine lv_aload_n hx hb dX4_fallen_27 rfl (lv_at hl 2 rfl) ?_
          refine lv_iload_n hx hb dX4_fallen_28 rfl (lv_at hl 0 rfl) ?_
          refine ro_V (rest := [.int (sset (faB σ) k)]) (As := [.int (zi ((k : Int)))]) ⟨hx, hb, hml, hown, hts⟩ (c_X4_markOf l g ad σ (0) hW k (by omega) ((k : Int)) (by omega)) (cwV 1 hts gX4_fallen_X4_markOf rfl rfl rfl (by decide +kernel) ⟨Nat.le_of_ble_eq_true rfl, Nat.le_of_ble_eq_true rfl⟩) (z_recv hK (hP 0 _ rfl) rfl) hP hK rfl hl.1 rfl (Nat.le_of_ble_eq_true rfl) dX4_fallen_29 ⟨Nat.zero_le _, Nat.zero_le _⟩ ?_
          have hmk := MK_r hW (k := k) (by omega)
          refine lv_aload_n hx hb dX4_fallen_32 rfl (lv_at hl 2 rfl) ?_
          refine z_get (C := RX4) (T := TX4) (N := 14) hx hb hts hiX4 hown hK (hP 0 _ rfl) rfl 7 (by decide) (hts (.fieldLink RX4 29 "HarmoniumDeskModel" "pass" "I") (by decide +kernel)) rfl rfl dX4_fallen_33 ?_
          refine z_icmp_ge (tgt := 45) hx hb dX4_fallen_36 (by decide) (by omega) (by omega) (fun h36 => ?_) (fun h36 => ?_)
          ·
            refine z_iconst hx hb dX4_fallen_45 ?_
            refine lv_ior hx hb dX4_fallen_46 ?_
            refine z_xtop (y := sset (faB σ) (k + 1)) (sset_f (faB σ) k (fun hh => by have hh := of_decide_eq_true hh; omega)) ?_
            refine lv_istore_n (lv' := [(1, .int (sset (faB σ) (k + 1))), (2, .int (zi ((k : Int)))), (0, .ref (ad 0))]) hx hb dX4_fallen_47 rfl hl (by decide) rfl (fun ls hl => ?_)
            refine z_iinc (b := ((k + 1 : Nat) : Int)) (lv' := [(2, .int (zi (((k + 1 : Nat) : Int)))), (1, .int (sset (faB σ) (k + 1))), (0, .ref (ad 0))]) hx hb dX4_fallen_48 hl (k := 1) rfl (by omega) (by decide) rfl (fun ls hl => ?_)
            refine lv_goto (tgt := 9) hx hb dX4_fallen_51 (by decide) ?_
            exact ih (k + 1) (by omega) (by omega) H locs hP hS ls (lv_sub hl [0, 1, 2] rfl)
          ·
            refine z_iconst hx hb dX4_fallen_39 ?_
            refine lv_iload_n hx hb dX4_fallen_40 rfl (lv_at hl 0 rfl) ?_
            refine lv_ishl hx hb dX4_fallen_41 ?_
            refine lv_goto (tgt := 46) hx hb dX4_fallen_42 (by decide) ?_
            refine lv_ior hx hb dX4_fallen_46 ?_
            refine z_xtop (y := sset (faB σ) (k + 1)) (sset_t (faB σ) k (decide_eq_true ⟨by omega, by omega⟩)) ?_
            refine lv_istore_n (lv' := [(1, .int (sset (faB σ) (k + 1))), (2, .int (zi ((k : Int)))), (0, .ref (ad 0))]) hx hb dX4_fallen_47 rfl hl (by decide) rfl (fun ls hl => ?_)
            refine z_iinc (b := ((k + 1 : Nat) : Int)) (lv' := [(2, .int (zi (((k + 1 : Nat) : Int)))), (1, .int (sset (faB σ) (k + 1))), (0, .ref (ad 0))]) hx hb dX4_fallen_48 hl (k := 1) rfl (by omega) (by decide) rfl (fun ls hl => ?_)
            refine lv_goto (tgt := 9) hx hb dX4_fallen_51 (by decide) ?_
            exact ih (k + 1) (by omega) (by omega) H locs hP hS ls (lv_sub hl [0, 1, 2] rfl)
  exact loop9 _ 0 (by omega) rfl _ _ hP hS ls (lv_sub hl [0, 1, 2] rfl)

set_option maxHeartbeats 4000000 in
set_option maxRecDepth 100000 in
theorem c_X4_best_1 (l : Launch) (g : gG) (ad : Nat → Nat) (σ : SG) (th : Int) (hW : WF σ) (hd : Dst ad) (sz : Nat) (z v b : Int) (hz : zr z) (hv : zr v) (hb9 : zr b) (hbad : ¬ IsN σ z v b) : MI l yX4_best wsX4_best ({ frames := 3, cells := 0, slots := 0, locals := 66 }) g ad [.int (zi (z)), .int (zi (v)), .int (zi (b))] sz σ th (σ) (1) (0) := by
  refine ZM.ofW (cc := cX4_best) (maxL := 10) (ret := (some .int)) (by decide) rfl (Nat.le_of_ble_eq_true rfl) ?_
  intro p e s m below meth c ls hx hb hr hml hown hts hlk hP hK hl _
  obtain ⟨rfl, hP, -⟩ := hP
  have hS : va_S (va_A (MWs g ad σ th) s.heap.size) s.heap s.heap [] := va_S.rf
  have hown : s.vm.findClass RX4 = some m.cls := hown
  have hl : lv_has ls 10 [(0, .ref (ad 0)), (1, .int (zi (z))), (2, .int (zi (v))), (3, .int (zi (b)))] := hl
  have hn := hW.n
  refine lv_aload_n hx hb dX4_best_0 rfl (lv_at hl 0 rfl) ?_
  refine lv_aload_n hx hb dX4_best_1 rfl (lv_at hl 0 rfl) ?_
  refine lv_iload_n hx hb dX4_best_2 rfl (lv_at hl 1 rfl) ?_
  refine lv_iload_n hx hb dX4_best_3 rfl (lv_at hl 2 rfl) ?_
  refine lv_iload_n hx hb dX4_best_4 rfl (lv_at hl 3 rfl) ?_
  refine ro_V (rest := [.ref (ad 0)]) (As := [.int (zi (z)), .int (zi (v)), .int (zi (b))]) ⟨hx, hb, hml, hown, hts⟩ (c_X4_isNote l g ad σ (th) hW (z) (v) (b) (by omega) (by omega) (by omega)) (cwV 3 hts gX4_best_X4_isNote rfl rfl rfl (by decide +kernel) ⟨Nat.le_of_ble_eq_true rfl, Nat.le_of_ble_eq_true rfl⟩) (z_recv hK (hP 0 _ rfl) rfl) hP hK rfl hl.1 rfl (Nat.le_of_ble_eq_true rfl) dX4_best_5 ⟨Nat.zero_le _, Nat.zero_le _⟩ ?_
  refine z_ifp_eq (P := IsN σ (z) (v) (b)) (tgt := 15) hx hb dX4_best_8 (by decide)  (fun h8 => ?_) (fun h8 => ?_)
  ·
    refine z_iconst hx hb dX4_best_15 ?_
    refine wi_V (rest := []) (As := [.int (zi (1))]) ⟨hx, hb, hml, hown, hts⟩ (c_X4_fails l g ad σ (th) hW hd _ (1) (by omega)) (cwV 1 hts gX4_best_X4_fails rfl rfl rfl (by decide +kernel) ⟨Nat.le_of_ble_eq_true rfl, Nat.le_of_ble_eq_true rfl⟩) (z_recv hK (hP 0 _ rfl) rfl) hP trivial hK rfl hl.1 rfl (Nat.le_of_ble_eq_true rfl) dX4_best_16 ⟨Nat.zero_le _, Nat.zero_le _⟩ hS (MW_fr hS.1) (fun H locs hP _ _ hS => ?_)
    refine z_ifp_eq (P := 0 < (1)) (tgt := 24) hx hb dX4_best_19 (by decide)  (fun h19 => ?_) (fun h19 => ?_)
    · exfalso; omega
    ·
      refine z_iconst hx hb dX4_best_22 ?_
      exact z_wiret hx hb hr hlk dX4_best_23 (by omega) hP hS
  · exfalso; omega

set_option maxHeartbeats 4000000 in
set_option maxRecDepth 100000 in
theorem c_X4_print_1 (l : Launch) (g : gG) (ad : Nat → Nat) (σ : SG) (th : Int) (hW : WF σ) (hd : Dst ad) (sz : Nat) (z v : Int) (hz : zr z) (hv : zr v) (hbad : ¬ IsN σ z v 0) : MI l yX4_print wsX4_print ({ frames := 3, cells := 0, slots := 0, locals := 66 }) g ad [.int (zi (z)), .int (zi (v))] sz σ th (σ) (1) (0) := by
  refine ZM.ofW (cc := cX4_print) (maxL := 5) (ret := (some .int)) (by decide) rfl (Nat.le_of_ble_eq_true rfl) ?_
  intro p e s m below meth c ls hx hb hr hml hown hts hlk hP hK hl _
  obtain ⟨rfl, hP, -⟩ := hP
  have hS : va_S (va_A (MWs g ad σ th) s.heap.size) s.heap s.heap [] := va_S.rf
  have hown : s.vm.findClass RX4 = some m.cls := hown
  have hl : lv_has ls 5 [(0, .ref (ad 0)), (1, .int (zi (z))), (2, .int (zi (v)))] := hl
  have hn := hW.n
  refine lv_aload_n hx hb dX4_print_0 rfl (lv_at hl 0 rfl) ?_
  refine lv_iload_n hx hb dX4_print_1 rfl (lv_at hl 1 rfl) ?_
  refine lv_iload_n hx hb dX4_print_2 rfl (lv_at hl 2 rfl) ?_
  refine z_iconst hx hb dX4_print_3 ?_
  refine ro_V (rest := []) (As := [.int (zi (z)), .int (zi (v)), .int (zi (0))]) ⟨hx, hb, hml, hown, hts⟩ (c_X4_isNote l g ad σ (th) hW (z) (v) (0) (by omega) (by omega) (by omega)) (cwV 3 hts gX4_print_X4_isNote rfl rfl rfl (by decide +kernel) ⟨Nat.le_of_ble_eq_true rfl, Nat.le_of_ble_eq_true rfl⟩) (z_recv hK (hP 0 _ rfl) rfl) hP hK rfl hl.1 rfl (Nat.le_of_ble_eq_true rfl) dX4_print_4 ⟨Nat.zero_le _, Nat.zero_le _⟩ ?_
  refine lv_istore_n (lv' := [(3, .int (zi (pz (IsN σ (z) (v) (0))))), (0, .ref (ad 0)), (1, .int (zi (z))), (2, .int (zi (v)))]) hx hb dX4_print_7 rfl hl (by decide) rfl (fun ls hl => ?_)
  refine lv_aload_n hx hb dX4_print_8 rfl (lv_at hl 1 rfl) ?_
  refine lv_iload_n hx hb dX4_print_9 rfl (lv_at hl 0 rfl) ?_
  refine z_ifp_ne (P := IsN σ (z) (v) (0)) (tgt := 17) hx hb dX4_print_10 (by decide)  (fun h10 => ?_) (fun h10 => ?_)
  · exfalso; omega
  ·
    refine z_iconst hx hb dX4_print_13 ?_
    refine lv_goto (tgt := 31) hx hb dX4_print_14 (by decide) ?_
    refine wi_V (rest := []) (As := [.int (zi (1))]) ⟨hx, hb, hml, hown, hts⟩ (c_X4_fails l g ad σ (th) hW hd _ (1) (by omega)) (cwV 1 hts gX4_print_X4_fails rfl rfl rfl (by decide +kernel) ⟨Nat.le_of_ble_eq_true rfl, Nat.le_of_ble_eq_true rfl⟩) (z_recv hK (hP 0 _ rfl) rfl) hP trivial hK rfl hl.1 rfl (Nat.le_of_ble_eq_true rfl) dX4_print_31 ⟨Nat.zero_le _, Nat.zero_le _⟩ hS (MW_fr hS.1) (fun H locs hP _ _ hS => ?_)
    refine z_ifp_eq (P := 0 < (1)) (tgt := 39) hx hb dX4_print_34 (by decide)  (fun h34 => ?_) (fun h34 => ?_)
    · exfalso; omega
    ·
      refine z_iconst hx hb dX4_print_37 ?_
      exact z_wiret hx hb hr hlk dX4_print_38 (by omega) hP hS

set_option maxHeartbeats 4000000 in
set_option maxRecDepth 100000 in
theorem c_X4_print_2 (l : Launch) (g : gG) (ad : Nat → Nat) (σ : SG) (th : Int) (hW : WF σ) (hd : Dst ad) (sz : Nat) (z v : Int) (hz : zr z) (hv : zr v) (hg : IsN σ z v 0) (hfull : σ 8 0 = 20) : MI l yX4_print wsX4_print ({ frames := 3, cells := 0, slots := 0, locals := 66 }) g ad [.int (zi (z)), .int (zi (v))] sz σ th (σ) (2) (0) := by
  refine ZM.ofW (cc := cX4_print) (maxL := 5) (ret := (some .int)) (by decide) rfl (Nat.le_of_ble_eq_true rfl) ?_
  intro p e s m below meth c ls hx hb hr hml hown hts hlk hP hK hl _
  obtain ⟨rfl, hP, -⟩ := hP
  have hS : va_S (va_A (MWs g ad σ th) s.heap.size) s.heap s.heap [] := va_S.rf
  have hown : s.vm.findClass RX4 = some m.cls := hown
  have hl : lv_has ls 5 [(0, .ref (ad 0)), (1, .int (zi (z))), (2, .int (zi (v)))] := hl
  have hiX4 : ∀ w ∈ u_ws RX4 TX4 14, w ∈ wsX4_print := by decide +kernel
  have hn := hW.n
  have hcn := hW.cn
  refine lv_aload_n hx hb dX4_print_0 rfl (lv_at hl 0 rfl) ?_
  refine lv_iload_n hx hb dX4_print_1 rfl (lv_at hl 1 rfl) ?_
  refine lv_iload_n hx hb dX4_print_2 rfl (lv_at hl 2 rfl) ?_
  refine z_iconst hx hb dX4_print_3 ?_
  refine ro_V (rest := []) (As := [.int (zi (z)), .int (zi (v)), .int (zi (0))]) ⟨hx, hb, hml, hown, hts⟩ (c_X4_isNote l g ad σ (th) hW (z) (v) (0) (by omega) (by omega) (by omega)) (cwV 3 hts gX4_print_X4_isNote rfl rfl rfl (by decide +kernel) ⟨Nat.le_of_ble_eq_true rfl, Nat.le_of_ble_eq_true rfl⟩) (z_recv hK (hP 0 _ rfl) rfl) hP hK rfl hl.1 rfl (Nat.le_of_ble_eq_true rfl) dX4_print_4 ⟨Nat.zero_le _, Nat.zero_le _⟩ ?_
  refine lv_istore_n (lv' := [(3, .int (zi (pz (IsN σ (z) (v) (0))))), (0, .ref (ad 0)), (1, .int (zi (z))), (2, .int (zi (v)))]) hx hb dX4_print_7 rfl hl (by decide) rfl (fun ls hl => ?_)
  refine lv_aload_n hx hb dX4_print_8 rfl (lv_at hl 1 rfl) ?_
  refine lv_iload_n hx hb dX4_print_9 rfl (lv_at hl 0 rfl) ?_
  refine z_ifp_ne (P := IsN σ (z) (v) (0)) (tgt := 17) hx hb dX4_print_10 (by decide)  (fun h10 => ?_) (fun h10 => ?_)
  ·
    refine lv_aload_n hx hb dX4_print_17 rfl (lv_at hl 1 rfl) ?_
    refine z_get (C := RX4) (T := TX4) (N := 14) hx hb hts hiX4 hown hK (hP 0 _ rfl) rfl 8 (by decide) (hts (.fieldLink RX4 105 "HarmoniumDeskModel" "copies" "I") (by decide +kernel)) rfl rfl dX4_print_18 ?_
    refine z_bipush hx hb dX4_print_21 (by decide) ?_
    refine z_icmp_ne (tgt := 30) hx hb dX4_print_23 (by decide) (by omega) (by omega) (fun h23 => ?_) (fun h23 => ?_)
    · exfalso; omega
    ·
      refine z_iconst hx hb dX4_print_26 ?_
      refine lv_goto (tgt := 31) hx hb dX4_print_27 (by decide) ?_
      refine wi_V (rest := []) (As := [.int (zi (2))]) ⟨hx, hb, hml, hown, hts⟩ (c_X4_fails l g ad σ (th) hW hd _ (2) (by omega)) (cwV 1 hts gX4_print_X4_fails rfl rfl rfl (by decide +kernel) ⟨Nat.le_of_ble_eq_true rfl, Nat.le_of_ble_eq_true rfl⟩) (z_recv hK (hP 0 _ rfl) rfl) hP trivial hK rfl hl.1 rfl (Nat.le_of_ble_eq_true rfl) dX4_print_31 ⟨Nat.zero_le _, Nat.zero_le _⟩ hS (MW_fr hS.1) (fun H locs hP _ _ hS => ?_)
      refine z_ifp_eq (P := 0 < (2)) (tgt := 39) hx hb dX4_print_34 (by decide)  (fun h34 => ?_) (fun h34 => ?_)
      · exfalso; omega
      ·
        refine z_iconst hx hb dX4_print_37 ?_
        exact z_wiret hx hb hr hlk dX4_print_38 (by omega) hP hS
  · exfalso; omega

set_option maxHeartbeats 4000000 in
set_option maxRecDepth 100000 in
theorem c_X4_slips_1 (l : Launch) (g : gG) (ad : Nat → Nat) (σ : SG) (th : Int) (hW : WF σ) (hd : Dst ad) (sz : Nat) (c9 : Int) (hc9 : zr c9) (hbad : ¬ IsC σ c9) : MI l yX4_slips wsX4_slips ({ frames := 2, cells := 0, slots := 0, locals := 43 }) g ad [.int (zi (c9))] sz σ th (σ) (1) (0) := by
  refine ZM.ofW (cc := cX4_slips) (maxL := 2) (ret := (some .int)) (by decide) rfl (Nat.le_of_ble_eq_true rfl) ?_
  intro p e s m below meth c ls hx hb hr hml hown hts hlk hP hK hl _
  obtain ⟨rfl, hP, -⟩ := hP
  have hS : va_S (va_A (MWs g ad σ th) s.heap.size) s.heap s.heap [] := va_S.rf
  have hown : s.vm.findClass RX4 = some m.cls := hown
  have hl : lv_has ls 2 [(0, .ref (ad 0)), (1, .int (zi (c9)))] := hl
  have hn := hW.n
  have hcn := hW.cn
  refine lv_aload_n hx hb dX4_slips_0 rfl (lv_at hl 0 rfl) ?_
  refine lv_aload_n hx hb dX4_slips_1 rfl (lv_at hl 0 rfl) ?_
  refine lv_iload_n hx hb dX4_slips_2 rfl (lv_at hl 1 rfl) ?_
  refine ro_V (rest := [.ref (ad 0)]) (As := [.int (zi (c9))]) ⟨hx, hb, hml, hown, hts⟩ (c_X4_isCopy l g ad σ (th) hW (c9) (by omega)) (cwV 1 hts gX4_slips_X4_isCopy rfl rfl rfl (by decide +kernel) ⟨Nat.le_of_ble_eq_true rfl, Nat.le_of_ble_eq_true rfl⟩) (z_recv hK (hP 0 _ rfl) rfl) hP hK rfl hl.1 rfl (Nat.le_of_ble_eq_true rfl) dX4_slips_3 ⟨Nat.zero_le _, Nat.zero_le _⟩ ?_
  refine z_ifp_eq (P := IsC σ (c9)) (tgt := 13) hx hb dX4_slips_6 (by decide)  (fun h6 => ?_) (fun h6 => ?_)
  ·
    refine z_iconst hx hb dX4_slips_13 ?_
    refine wi_V (rest := []) (As := [.int (zi (1))]) ⟨hx, hb, hml, hown, hts⟩ (c_X4_fails l g ad σ (th) hW hd _ (1) (by omega)) (cwV 1 hts gX4_slips_X4_fails rfl rfl rfl (by decide +kernel) ⟨Nat.le_of_ble_eq_true rfl, Nat.le_of_ble_eq_true rfl⟩) (z_recv hK (hP 0 _ rfl) rfl) hP trivial hK rfl hl.1 rfl (Nat.le_of_ble_eq_true rfl) dX4_slips_14 ⟨Nat.zero_le _, Nat.zero_le _⟩ hS (MW_fr hS.1) (fun H locs hP _ _ hS => ?_)
    refine z_ifp_eq (P := 0 < (1)) (tgt := 24) hx hb dX4_slips_17 (by decide)  (fun h17 => ?_) (fun h17 => ?_)
    · exfalso; omega
    ·
      refine z_iconst hx hb dX4_slips_20 ?_
      refine lv_goto (tgt := 30) hx hb dX4_slips_21 (by decide) ?_
      exact z_wiret hx hb hr hlk dX4_slips_30 (by omega) hP hS
  · exfalso; omega

set_option maxHeartbeats 4000000 in
set_option maxRecDepth 100000 in
theorem c_X4_slips_0 (l : Launch) (g : gG) (ad : Nat → Nat) (σ : SG) (th : Int) (hW : WF σ) (hd : Dst ad) (sz : Nat) (c1 : Nat) (hc : (c1 : Int) < σ 8 0) (zc : Int) (hzc : zc = (c1 : Int)) : MI l yX4_slips wsX4_slips ({ frames := 2, cells := 0, slots := 0, locals := 43 }) g ad [.int (zi (zc))] sz σ th (σ) (0) (σ 12 c1) := by
  refine ZM.ofW (cc := cX4_slips) (maxL := 2) (ret := (some .int)) (by decide) rfl (Nat.le_of_ble_eq_true rfl) ?_
  intro p e s m below meth c ls hx hb hr hml hown hts hlk hP hK hl _
  obtain ⟨rfl, hP, -⟩ := hP
  have hS : va_S (va_A (MWs g ad σ th) s.heap.size) s.heap s.heap [] := va_S.rf
  have hown : s.vm.findClass RX4 = some m.cls := hown
  have hl : lv_has ls 2 [(0, .ref (ad 0)), (1, .int (zi (zc)))] := hl
  have hiX4 : ∀ w ∈ u_ws RX4 TX4 14, w ∈ wsX4_slips := by decide +kernel
  have hn := hW.n
  have hcn := hW.cn
  refine lv_aload_n hx hb dX4_slips_0 rfl (lv_at hl 0 rfl) ?_
  refine lv_aload_n hx hb dX4_slips_1 rfl (lv_at hl 0 rfl) ?_
  refine lv_iload_n hx hb dX4_slips_2 rfl (lv_at hl 1 rfl) ?_
  refine ro_V (rest := [.ref (ad 0)]) (As := [.int (zi (zc))]) ⟨hx, hb, hml, hown, hts⟩ (c_X4_isCopy l g ad σ (th) hW (zc) (by omega)) (cwV 1 hts gX4_slips_X4_isCopy rfl rfl rfl (by decide +kernel) ⟨Nat.le_of_ble_eq_true rfl, Nat.le_of_ble_eq_true rfl⟩) (z_recv hK (hP 0 _ rfl) rfl) hP hK rfl hl.1 rfl (Nat.le_of_ble_eq_true rfl) dX4_slips_3 ⟨Nat.zero_le _, Nat.zero_le _⟩ ?_
  refine z_ifp_eq (P := IsC σ (zc)) (tgt := 13) hx hb dX4_slips_6 (by decide)  (fun h6 => ?_) (fun h6 => ?_)
  · exfalso; omega
  ·
    refine z_iconst hx hb dX4_slips_9 ?_
    refine lv_goto (tgt := 14) hx hb dX4_slips_10 (by decide) ?_
    refine wi_V (rest := []) (As := [.int (zi (0))]) ⟨hx, hb, hml, hown, hts⟩ (c_X4_fails l g ad σ (th) hW hd _ (0) (by omega)) (cwV 1 hts gX4_slips_X4_fails rfl rfl rfl (by decide +kernel) ⟨Nat.le_of_ble_eq_true rfl, Nat.le_of_ble_eq_true rfl⟩) (z_recv hK (hP 0 _ rfl) rfl) hP trivial hK rfl hl.1 rfl (Nat.le_of_ble_eq_true rfl) dX4_slips_14 ⟨Nat.zero_le _, Nat.zero_le _⟩ hS (MW_fr hS.1) (fun H locs hP _ _ hS => ?_)
    refine z_ifp_eq (P := 0 < (0)) (tgt := 24) hx hb dX4_slips_17 (by decide)  (fun h17 => ?_) (fun h17 => ?_)
    ·
      refine lv_aload_n hx hb dX4_slips_24 rfl (lv_at hl 0 rfl) ?_
      refine z_get (C := RX4) (T := TX4) (N := 14) hx hb hts hiX4 hown hK (hP 0 _ rfl) rfl 12 (by decide) (hts (.fieldLink RX4 42 "HarmoniumDeskModel" "slips" "[I") (by decide +kernel)) rfl rfl dX4_slips_25 ?_
      refine lv_iload_n hx hb dX4_slips_28 rfl (lv_at hl 1 rfl) ?_
      refine z_iald hx hb hK (hP 10 _ rfl) (c1) (by omega) (by omega) (by decide) dX4_slips_29 ?_
      exact z_wiret hx hb hr hlk dX4_slips_30 (rfl) hP hS
    · exfalso; omega
