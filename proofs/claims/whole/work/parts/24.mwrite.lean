set_option maxHeartbeats 4000000 in
set_option maxRecDepth 100000 in
theorem c_X4_fails (l : Launch) (g : gG) (ad : Nat → Nat) (σ : SG) (th : Int) (hW : WF σ) (hd : Dst ad) (sz : Nat) (w : Int) (hw : zr w) : MI l yX4_fails wsX4_fails ({ frames := 0, cells := 0, slots := 0, locals := 0 }) g ad [.int (zi (w))] sz σ th (σ) (w) (pz (0 < w)) := by
  refine ZM.ofW (cc := cX4_fails) (maxL := 2) (ret := (some .boolean)) (by decide) rfl (Nat.le_of_ble_eq_true rfl) ?_
  intro p e s m below meth c ls hx hb hr hml hown hts hlk hP hK hl _
  obtain ⟨rfl, hP, -⟩ := hP
  have hS : va_S (va_A (MWs g ad σ th) s.heap.size) s.heap s.heap [] := va_S.rf
  have hown : s.vm.findClass RX4 = some m.cls := hown
  have hl : lv_has ls 2 [(0, .ref (ad 0)), (1, .int (zi (w)))] := hl
  have hiX4 : ∀ w ∈ u_ws RX4 TX4 14, w ∈ wsX4_fails := by decide +kernel
  refine lv_aload_n hx hb dX4_fails_0 rfl (lv_at hl 0 rfl) ?_
  refine lv_iload_n hx hb dX4_fails_1 rfl (lv_at hl 1 rfl) ?_
  refine z_mput hx hb hd hts hiX4 hown hK hP hS 13 (by decide) (hts (.fieldLink RX4 45 "HarmoniumDeskModel" "thrown" "I") (by decide +kernel)) rfl rfl rfl (ms13 _ _ _ _ _) dX4_fails_2 (fun H locs hP hS => ?_)
  refine lv_iload_n hx hb dX4_fails_5 rfl (lv_at hl 1 rfl) ?_
  refine z_if_le (tgt := 13) hx hb dX4_fails_6 (by decide) (by omega) (fun h6 => ?_) (fun h6 => ?_)
  ·
    refine z_iconst hx hb dX4_fails_13 ?_
    exact z_wzret hx hb hr hlk dX4_fails_14 (by omega) ((pz_f (by omega)).symm) hP hS
  ·
    refine z_iconst hx hb dX4_fails_9 ?_
    refine lv_goto (tgt := 14) hx hb dX4_fails_10 (by decide) ?_
    exact z_wzret hx hb hr hlk dX4_fails_14 (by omega) ((pz_t (by omega)).symm) hP hS

set_option maxHeartbeats 4000000 in
set_option maxRecDepth 100000 in
theorem c_X4_begin_1 (l : Launch) (g : gG) (ad : Nat → Nat) (σ : SG) (th : Int) (hW : WF σ) (hd : Dst ad) (sz : Nat) (b : Int) (hb9 : zr b) (hbad : ¬ (1 ≤ b ∧ b ≤ 12)) : MI l yX4_begin wsX4_begin ({ frames := 1, cells := 0, slots := 0, locals := 22 }) g ad [.int (zi (b))] sz σ th (σ) (1) (0) := by
  refine ZM.ofW (cc := cX4_begin) (maxL := 3) (ret := (some .int)) (by decide) rfl (Nat.le_of_ble_eq_true rfl) ?_
  intro p e s m below meth c ls hx hb hr hml hown hts hlk hP hK hl _
  obtain ⟨rfl, hP, -⟩ := hP
  have hS : va_S (va_A (MWs g ad σ th) s.heap.size) s.heap s.heap [] := va_S.rf
  have hown : s.vm.findClass RX4 = some m.cls := hown
  have hl : lv_has ls 3 [(0, .ref (ad 0)), (1, .int (zi (b)))] := hl
  have hn := hW.n
  refine lv_aload_n hx hb dX4_begin_0 rfl (lv_at hl 0 rfl) ?_
  refine lv_iload_n hx hb dX4_begin_1 rfl (lv_at hl 1 rfl) ?_
  refine z_iconst hx hb dX4_begin_2 ?_
  refine z_bipush hx hb dX4_begin_3 (by decide) ?_
  refine ro_S (rest := [.ref (ad 0)]) (As := [.int (zi (b)), .int (zi (1)), .int (zi (12))]) ⟨hx, hb, hml, hown, hts⟩ (c_X4_isIn l g (b) (1) (12) (by omega) (by omega) (by omega)) (cwS 3 hts gX4_begin_X4_isIn rfl rfl rfl (by decide +kernel) ⟨Nat.le_of_ble_eq_true rfl, Nat.le_of_ble_eq_true rfl⟩) trivial hK rfl hl.1 rfl (Nat.le_of_ble_eq_true rfl) dX4_begin_5 ⟨Nat.zero_le _, Nat.zero_le _⟩ ?_
  refine z_ifp_ne (P := (1) ≤ (b) ∧ (b) ≤ (12)) (tgt := 15) hx hb dX4_begin_8 (by decide)  (fun h8 => ?_) (fun h8 => ?_)
  · exfalso; omega
  ·
    refine z_iconst hx hb dX4_begin_11 ?_
    refine lv_goto (tgt := 29) hx hb dX4_begin_12 (by decide) ?_
    refine wi_V (rest := []) (As := [.int (zi (1))]) ⟨hx, hb, hml, hown, hts⟩ (c_X4_fails l g ad σ (th) hW hd _ (1) (by omega)) (cwV 1 hts gX4_begin_X4_fails rfl rfl rfl (by decide +kernel) ⟨Nat.le_of_ble_eq_true rfl, Nat.le_of_ble_eq_true rfl⟩) (z_recv hK (hP 0 _ rfl) rfl) hP trivial hK rfl hl.1 rfl (Nat.le_of_ble_eq_true rfl) dX4_begin_29 ⟨Nat.zero_le _, Nat.zero_le _⟩ hS (MW_fr hS.1) (fun H locs hP _ _ hS => ?_)
    refine z_ifp_eq (P := 0 < (1)) (tgt := 37) hx hb dX4_begin_32 (by decide)  (fun h32 => ?_) (fun h32 => ?_)
    · exfalso; omega
    ·
      refine z_iconst hx hb dX4_begin_35 ?_
      exact z_wiret hx hb hr hlk dX4_begin_36 (by omega) hP hS

set_option maxHeartbeats 4000000 in
set_option maxRecDepth 100000 in
theorem c_X4_begin_2 (l : Launch) (g : gG) (ad : Nat → Nat) (σ : SG) (th : Int) (hW : WF σ) (hd : Dst ad) (sz : Nat) (b : Int) (hb9 : zr b) (hgood : 1 ≤ b ∧ b ≤ 12) (hfull : σ 0 0 = 30) : MI l yX4_begin wsX4_begin ({ frames := 1, cells := 0, slots := 0, locals := 22 }) g ad [.int (zi (b))] sz σ th (σ) (2) (0) := by
  refine ZM.ofW (cc := cX4_begin) (maxL := 3) (ret := (some .int)) (by decide) rfl (Nat.le_of_ble_eq_true rfl) ?_
  intro p e s m below meth c ls hx hb hr hml hown hts hlk hP hK hl _
  obtain ⟨rfl, hP, -⟩ := hP
  have hS : va_S (va_A (MWs g ad σ th) s.heap.size) s.heap s.heap [] := va_S.rf
  have hown : s.vm.findClass RX4 = some m.cls := hown
  have hl : lv_has ls 3 [(0, .ref (ad 0)), (1, .int (zi (b)))] := hl
  have hiX4 : ∀ w ∈ u_ws RX4 TX4 14, w ∈ wsX4_begin := by decide +kernel
  have hn := hW.n
  refine lv_aload_n hx hb dX4_begin_0 rfl (lv_at hl 0 rfl) ?_
  refine lv_iload_n hx hb dX4_begin_1 rfl (lv_at hl 1 rfl) ?_
  refine z_iconst hx hb dX4_begin_2 ?_
  refine z_bipush hx hb dX4_begin_3 (by decide) ?_
  refine ro_S (rest := [.ref (ad 0)]) (As := [.int (zi (b)), .int (zi (1)), .int (zi (12))]) ⟨hx, hb, hml, hown, hts⟩ (c_X4_isIn l g (b) (1) (12) (by omega) (by omega) (by omega)) (cwS 3 hts gX4_begin_X4_isIn rfl rfl rfl (by decide +kernel) ⟨Nat.le_of_ble_eq_true rfl, Nat.le_of_ble_eq_true rfl⟩) trivial hK rfl hl.1 rfl (Nat.le_of_ble_eq_true rfl) dX4_begin_5 ⟨Nat.zero_le _, Nat.zero_le _⟩ ?_
  refine z_ifp_ne (P := (1) ≤ (b) ∧ (b) ≤ (12)) (tgt := 15) hx hb dX4_begin_8 (by decide)  (fun h8 => ?_) (fun h8 => ?_)
  ·
    refine lv_aload_n hx hb dX4_begin_15 rfl (lv_at hl 0 rfl) ?_
    refine z_get (C := RX4) (T := TX4) (N := 14) hx hb hts hiX4 hown hK (hP 0 _ rfl) rfl 0 (by decide) (hts (.fieldLink RX4 48 "HarmoniumDeskModel" "versions" "I") (by decide +kernel)) rfl rfl dX4_begin_16 ?_
    refine z_bipush hx hb dX4_begin_19 (by decide) ?_
    refine z_icmp_ne (tgt := 28) hx hb dX4_begin_21 (by decide) (by omega) (by omega) (fun h21 => ?_) (fun h21 => ?_)
    · exfalso; omega
    ·
      refine z_iconst hx hb dX4_begin_24 ?_
      refine lv_goto (tgt := 29) hx hb dX4_begin_25 (by decide) ?_
      refine wi_V (rest := []) (As := [.int (zi (2))]) ⟨hx, hb, hml, hown, hts⟩ (c_X4_fails l g ad σ (th) hW hd _ (2) (by omega)) (cwV 1 hts gX4_begin_X4_fails rfl rfl rfl (by decide +kernel) ⟨Nat.le_of_ble_eq_true rfl, Nat.le_of_ble_eq_true rfl⟩) (z_recv hK (hP 0 _ rfl) rfl) hP trivial hK rfl hl.1 rfl (Nat.le_of_ble_eq_true rfl) dX4_begin_29 ⟨Nat.zero_le _, Nat.zero_le _⟩ hS (MW_fr hS.1) (fun H locs hP _ _ hS => ?_)
      refine z_ifp_eq (P := 0 < (2)) (tgt := 37) hx hb dX4_begin_32 (by decide)  (fun h32 => ?_) (fun h32 => ?_)
      · exfalso; omega
      ·
        refine z_iconst hx hb dX4_begin_35 ?_
        exact z_wiret hx hb hr hlk dX4_begin_36 (by omega) hP hS
  · exfalso; omega

set_option maxHeartbeats 4000000 in
set_option maxRecDepth 100000 in
theorem c_X4_begin_0 (l : Launch) (g : gG) (ad : Nat → Nat) (σ : SG) (th : Int) (hW : WF σ) (hd : Dst ad) (sz : Nat) (b : Int) (hb9 : zr b) (hgood : 1 ≤ b ∧ b ≤ 12) (N : Nat) (hN : σ 0 0 = (N : Int)) (hnf : N < 30) : MI l yX4_begin wsX4_begin ({ frames := 1, cells := 0, slots := 0, locals := 22 }) g ad [.int (zi (b))] sz σ th (opB σ N b) (0) (σ 0 0) := by
  refine ZM.ofW (cc := cX4_begin) (maxL := 3) (ret := (some .int)) (by decide) rfl (Nat.le_of_ble_eq_true rfl) ?_
  intro p e s m below meth c ls hx hb hr hml hown hts hlk hP hK hl _
  obtain ⟨rfl, hP, -⟩ := hP
  have hS : va_S (va_A (MWs g ad σ th) s.heap.size) s.heap s.heap [] := va_S.rf
  have hown : s.vm.findClass RX4 = some m.cls := hown
  have hl : lv_has ls 3 [(0, .ref (ad 0)), (1, .int (zi (b)))] := hl
  have hiX4 : ∀ w ∈ u_ws RX4 TX4 14, w ∈ wsX4_begin := by decide +kernel
  have hn := hW.n
  refine lv_aload_n hx hb dX4_begin_0 rfl (lv_at hl 0 rfl) ?_
  refine lv_iload_n hx hb dX4_begin_1 rfl (lv_at hl 1 rfl) ?_
  refine z_iconst hx hb dX4_begin_2 ?_
  refine z_bipush hx hb dX4_begin_3 (by decide) ?_
  refine ro_S (rest := [.ref (ad 0)]) (As := [.int (zi (b)), .int (zi (1)), .int (zi (12))]) ⟨hx, hb, hml, hown, hts⟩ (c_X4_isIn l g (b) (1) (12) (by omega) (by omega) (by omega)) (cwS 3 hts gX4_begin_X4_isIn rfl rfl rfl (by decide +kernel) ⟨Nat.le_of_ble_eq_true rfl, Nat.le_of_ble_eq_true rfl⟩) trivial hK rfl hl.1 rfl (Nat.le_of_ble_eq_true rfl) dX4_begin_5 ⟨Nat.zero_le _, Nat.zero_le _⟩ ?_
  refine z_ifp_ne (P := (1) ≤ (b) ∧ (b) ≤ (12)) (tgt := 15) hx hb dX4_begin_8 (by decide)  (fun h8 => ?_) (fun h8 => ?_)
  ·
    refine lv_aload_n hx hb dX4_begin_15 rfl (lv_at hl 0 rfl) ?_
    refine z_get (C := RX4) (T := TX4) (N := 14) hx hb hts hiX4 hown hK (hP 0 _ rfl) rfl 0 (by decide) (hts (.fieldLink RX4 48 "HarmoniumDeskModel" "versions" "I") (by decide +kernel)) rfl rfl dX4_begin_16 ?_
    refine z_bipush hx hb dX4_begin_19 (by decide) ?_
    refine z_icmp_ne (tgt := 28) hx hb dX4_begin_21 (by decide) (by omega) (by omega) (fun h21 => ?_) (fun h21 => ?_)
    ·
      refine z_iconst hx hb dX4_begin_28 ?_
      refine wi_V (rest := []) (As := [.int (zi (0))]) ⟨hx, hb, hml, hown, hts⟩ (c_X4_fails l g ad σ (th) hW hd _ (0) (by omega)) (cwV 1 hts gX4_begin_X4_fails rfl rfl rfl (by decide +kernel) ⟨Nat.le_of_ble_eq_true rfl, Nat.le_of_ble_eq_true rfl⟩) (z_recv hK (hP 0 _ rfl) rfl) hP trivial hK rfl hl.1 rfl (Nat.le_of_ble_eq_true rfl) dX4_begin_29 ⟨Nat.zero_le _, Nat.zero_le _⟩ hS (MW_fr hS.1) (fun H locs hP _ _ hS => ?_)
      refine z_ifp_eq (P := 0 < (0)) (tgt := 37) hx hb dX4_begin_32 (by decide)  (fun h32 => ?_) (fun h32 => ?_)
      ·
        refine lv_aload_n hx hb dX4_begin_37 rfl (lv_at hl 0 rfl) ?_
        refine z_get (C := RX4) (T := TX4) (N := 14) hx hb hts hiX4 hown hK (hP 0 _ rfl) rfl 1 (by decide) (hts (.fieldLink RX4 7 "HarmoniumDeskModel" "bars" "[I") (by decide +kernel)) rfl rfl dX4_begin_38 ?_
        refine lv_aload_n hx hb dX4_begin_41 rfl (lv_at hl 0 rfl) ?_
        refine z_get (C := RX4) (T := TX4) (N := 14) hx hb hts hiX4 hown hK (hP 0 _ rfl) rfl 0 (by decide) (hts (.fieldLink RX4 48 "HarmoniumDeskModel" "versions" "I") (by decide +kernel)) rfl rfl dX4_begin_42 ?_
        refine lv_iload_n hx hb dX4_begin_45 rfl (lv_at hl 1 rfl) ?_
        refine z_mast (x := b) hx hb hd hK hP hS 1 1 30 rfl (N) (msa1 _ _ _ _ _ _) (by omega) (by omega) (by decide) dX4_begin_46 (fun H locs hP hS => ?_)
        refine lv_aload_n hx hb dX4_begin_47 rfl (lv_at hl 0 rfl) ?_
        refine z_get (C := RX4) (T := TX4) (N := 14) hx hb hts hiX4 hown hK (hP 0 _ rfl) rfl 2 (by decide) (hts (.fieldLink RX4 13 "HarmoniumDeskModel" "parent" "[I") (by decide +kernel)) rfl rfl dX4_begin_48 ?_
        refine lv_aload_n hx hb dX4_begin_51 rfl (lv_at hl 0 rfl) ?_
        refine z_get (C := RX4) (T := TX4) (N := 14) hx hb hts hiX4 hown hK (hP 0 _ rfl) rfl 0 (by decide) (hts (.fieldLink RX4 48 "HarmoniumDeskModel" "versions" "I") (by decide +kernel)) rfl rfl dX4_begin_52 ?_
        refine z_top (b := σ 0 0) rfl ?_
        refine z_iconst hx hb dX4_begin_55 ?_
        refine z_mast (x := (-1)) hx hb hd hK hP hS 2 2 30 rfl (N) (msa2 _ _ _ _ _ _) (by omega) (by omega) (by decide) dX4_begin_56 (fun H locs hP hS => ?_)
        refine z_iconst hx hb dX4_begin_57 ?_
        refine lv_istore_n (lv' := [(2, .int (zi (0))), (0, .ref (ad 0)), (1, .int (zi (b)))]) hx hb dX4_begin_58 rfl hl (by decide) rfl (fun ls hl => ?_)
        have loop : ∀ (d j : Nat), j ≤ 24 → 24 - j = d → ∀ (H : Heap) (locs : List Loc), va_P g.1 vwCl (MWs g ad (sfl (sup (sup σ 1 N b) 2 N (-1)) 5 (24 * N) j (fun _ => 20)) 0) H → va_S (va_A (MWs g ad σ th) s.heap.size) s.heap H locs → ∀ ls : Array Slot, lv_has ls 3 [(2, .int (zi ((j : Int)))), (0, .ref (ad 0)), (1, .int (zi (b)))] → W p l e ({ frames := 1, cells := 0, slots := 0, locals := 22 }) s m ([.ref (ad 0), .int (zi (b))] : List Value).toArray below meth c H locs 0 0 (MQ below (va_Qi (fun z9 (_ : Unit) => z9 = zi (σ 0 0)) (fun _ t9 => va_P g.1 vwCl (MWs g ad (opB σ N b) (0)) t9.heap) (va_A (MWs g ad σ th) s.heap.size)) ([.ref (ad 0), .int (zi (b))] : List Value).toArray s 0 0 (va_A (MWs g ad σ th) s.heap.size)) (F0 m 59 ls []) := by
          intro d
          induction d with
          | zero =>
            intro j hj hd2 H locs hP hS ls hl
            have e24 : j = 24 := by omega
            subst e24
            refine lv_iload_n hx hb dX4_begin_59 rfl (lv_at hl 0 rfl) ?_
            refine z_bipush hx hb dX4_begin_60 (by decide) ?_
            refine z_icmp_ge (tgt := 87) hx hb dX4_begin_62 (by decide) (by omega) (by omega) (fun h62 => ?_) (fun h62 => ?_)
            ·
              refine lv_aload_n hx hb dX4_begin_87 rfl (lv_at hl 1 rfl) ?_
              refine lv_dup hx hb dX4_begin_88 rfl ?_
              refine z_get (C := RX4) (T := TX4) (N := 14) hx hb hts hiX4 hown hK (hP 0 _ rfl) rfl 0 (by decide) (hts (.fieldLink RX4 48 "HarmoniumDeskModel" "versions" "I") (by decide +kernel)) rfl rfl dX4_begin_89 ?_
              refine z_top (b := σ 0 0) rfl ?_
              refine z_iconst hx hb dX4_begin_92 ?_
              refine z_iadd hx hb dX4_begin_93 ?_
              refine z_top (b := ((N + 1 : Nat) : Int)) (by omega) ?_
              refine z_mput hx hb hd hts hiX4 hown hK hP hS 0 (by decide) (hts (.fieldLink RX4 48 "HarmoniumDeskModel" "versions" "I") (by decide +kernel)) rfl rfl rfl (ms0 _ _ _ _ _) dX4_begin_94 (fun H locs hP hS => ?_)
              refine lv_aload_n hx hb dX4_begin_97 rfl (lv_at hl 1 rfl) ?_
              refine z_get (C := RX4) (T := TX4) (N := 14) hx hb hts hiX4 hown hK (hP 0 _ rfl) rfl 0 (by decide) (hts (.fieldLink RX4 48 "HarmoniumDeskModel" "versions" "I") (by decide +kernel)) rfl rfl dX4_begin_98 ?_
              refine z_iconst hx hb dX4_begin_101 ?_
              refine z_isub hx hb dX4_begin_102 ?_
              exact z_wiret hx hb hr hlk dX4_begin_103 (by show _ = _; omega) hP hS
            · exfalso; omega
          | succ d ih =>
            intro j hj hd2 H locs hP hS ls hl
            refine lv_iload_n hx hb dX4_begin_59 rfl (lv_at hl 0 rfl) ?_
            refine z_bipush hx hb dX4_begin_60 (by decide) ?_
            refine z_icmp_ge (tgt := 87) hx hb dX4_begin_62 (by decide) (by omega) (by omega) (fun h62 => ?_) (fun h62 => ?_)
            · exfalso; omega
            ·
              refine lv_aload_n hx hb dX4_begin_65 rfl (lv_at hl 1 rfl) ?_
              refine z_get (C := RX4) (T := TX4) (N := 14) hx hb hts hiX4 hown hK (hP 0 _ rfl) rfl 5 (by decide) (hts (.fieldLink RX4 23 "HarmoniumDeskModel" "notes" "[I") (by decide +kernel)) rfl rfl dX4_begin_66 ?_
              refine lv_aload_n hx hb dX4_begin_69 rfl (lv_at hl 1 rfl) ?_
              refine z_get (C := RX4) (T := TX4) (N := 14) hx hb hts hiX4 hown hK (hP 0 _ rfl) rfl 0 (by decide) (hts (.fieldLink RX4 48 "HarmoniumDeskModel" "versions" "I") (by decide +kernel)) rfl rfl dX4_begin_70 ?_
              refine z_top (b := σ 0 0) rfl ?_
              refine z_iconst hx hb dX4_begin_73 ?_
              refine lv_iload_n hx hb dX4_begin_74 rfl (lv_at hl 0 rfl) ?_
              refine ro_S (rest := [.ref (ad 5)]) (As := [.int (zi (σ 0 0)), .int (zi (0)), .int (zi ((j : Int)))]) ⟨hx, hb, hml, hown, hts⟩ (c_X4_at l g (σ 0 0) (0) ((j : Int))) (cwS 3 hts gX4_begin_X4_at rfl rfl rfl (by decide +kernel) ⟨Nat.le_of_ble_eq_true rfl, Nat.le_of_ble_eq_true rfl⟩) trivial hK rfl hl.1 rfl (Nat.le_of_ble_eq_true rfl) dX4_begin_75 ⟨Nat.zero_le _, Nat.zero_le _⟩ ?_
              refine z_bipush hx hb dX4_begin_78 (by decide) ?_
              refine z_mast (x := 20) hx hb hd hK hP hS 5 5 720 rfl (24 * N + j) (msa5 _ _ _ _ _ _) (by omega) (by omega) (by decide) dX4_begin_80 (fun H locs hP hS => ?_)
              refine z_iinc (b := ((j + 1 : Nat) : Int)) (lv' := [(2, .int (zi (((j + 1 : Nat) : Int)))), (0, .ref (ad 0)), (1, .int (zi (b)))]) hx hb dX4_begin_81 hl (k := 0) rfl (by omega) (by decide) rfl (fun ls hl => ?_)
              refine lv_goto (tgt := 59) hx hb dX4_begin_84 (by decide) ?_
              rw [sfl_s _ 5 (24 * N) j _ _ 20 (by omega) rfl] at hP
              exact ih (j + 1) (by omega) (by omega) H locs hP hS ls (lv_sub hl [0, 1, 2] rfl)
        rw [← sfl_0 (sup (sup σ 1 N b) 2 N (-1)) 5 (24 * N) (fun _ => 20)] at hP
        exact loop _ 0 (by omega) rfl _ _ hP hS ls (lv_sub hl [0, 1, 2] rfl)
      · exfalso; omega
    · exfalso; omega
  · exfalso; omega
