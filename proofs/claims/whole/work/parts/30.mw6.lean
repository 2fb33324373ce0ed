set_option maxHeartbeats 4000000 in
set_option maxRecDepth 100000 in
theorem c_X4_best_1 (l : Launch) (g : gG) (ad : Nat → Nat) (σ : SG) (th : Int) (hW : WF σ) (hd : Dst ad) (sz : Nat) (z v b : Int) (hz : zr z) (hv : zr v) (hb9 : zr b) (hbad : ¬ IsN σ z v b) : MI l yX4_best wsX4_best ({ frames := 3, cells := 0, slots := 0, locals := 66 }) g ad [.int (zi (z)), .int (zi (v)), .int (zi (b))] sz σ th (σ) (1) (0) := by
  refine ZM.ofW (cc := cX4_best) (maxL := 10) (ret := (some .int)) (by decide) rfl (Nat.le_of_ble_eq_true rfl) ?_
  intro p e s m below meth c ls hx hb hr hml hown hts hlk hP hK hl _
  obtain ⟨rfl, hP, -⟩ := hP
  have hS : va_S (va_A (MWs g ad σ th) s.heap.size) s.heap s.heap [] := va_S.rf
  have hown : s.vm.findClass RX4 = some m.cls := hown
  have hl : lv_has ls 10 [(0, .ref (ad 0)), (1, .int (zi (z))), (2, .int (zi (v))), (3, .int (zi (b)))] := hl
  have hn := hW.n
  refine lv_aload_n hx hb dX4_best_0 rfl (lv_at hl 0 rfl) ?_
  refine lv_aload_n hx hb dX4_best_1 rfl (lv_at hl 0 rfl) ?_
  refine lv_iload_n hx hb dX4_best_2 rfl (lv_at hl 1 rfl) ?_
  refine lv_iload_n hx hb dX4_best_3 rfl (lv_at hl 2 rfl) ?_
  refine lv_iload_n hx hb dX4_best_4 rfl (lv_at hl 3 rfl) ?_
  refine ro_V (rest := [.ref (ad 0)]) (As := [.int (zi (z)), .int (zi (v)), .int (zi (b))]) ⟨hx, hb, hml, hown, hts⟩ (c_X4_isNote l g ad σ (th) hW (z) (v) (b) (by omega) (by omega) (by omega)) (cwV 3 hts gX4_best_X4_isNote rfl rfl rfl (by decide +kernel) ⟨Nat.le_of_ble_eq_true rfl, Nat.le_of_ble_eq_true rfl⟩) (z_recv hK (hP 0 _ rfl) rfl) hP hK rfl hl.1 rfl (Nat.le_of_ble_eq_true rfl) dX4_best_5 ⟨Nat.zero_le _, Nat.zero_le _⟩ ?_
  refine z_ifp_eq (P := IsN σ (z) (v) (b)) (tgt := 15) hx hb dX4_best_8 (by decide)  (fun h8 => ?_) (fun h8 => ?_)
  ·
    refine z_iconst hx hb dX4_best_15 ?_
    refine wi_V (rest := []) (As := [.int (zi (1))]) ⟨hx, hb, hml, hown, hts⟩ (c_X4_fails l g ad σ (th) hW hd _ (1) (by omega)) (cwV 1 hts gX4_best_X4_fails rfl rfl rfl (by decide +kernel) ⟨Nat.le_of_ble_eq_true rfl, Nat.le_of_ble_eq_true rfl⟩) (z_recv hK (hP 0 _ rfl) rfl) hP trivial hK rfl hl.1 rfl (Nat.le_of_ble_eq_true rfl) dX4_best_16 ⟨Nat.zero_le _, Nat.zero_le _⟩ hS (MW_fr hS.1) (fun H locs hP _ _ hS => ?_)
    refine z_ifp_eq (P := 0 < (1)) (tgt := 24) hx hb dX4_best_19 (by decide)  (fun h19 => ?_) (fun h19 => ?_)
    · exfalso; omega
    ·
      refine z_iconst hx hb dX4_best_22 ?_
      exact z_wiret hx hb hr hlk dX4_best_23 (by omega) hP hS
  · exfalso; omega

set_option maxHeartbeats 4000000 in
set_option maxRecDepth 100000 in
theorem c_X4_best_0 (l : Launch) (g : gG) (ad : Nat → Nat) (σ : SG) (th : Int) (hW : WF σ) (hd : Dst ad) (sz : Nat) (k : Nat) (hk : (k : Int) < σ 0 0) (zk : Int) (hzk : zk = (k : Int)) (v : Nat) (hv1 : v ≤ 1) (zv : Int) (hzv : zv = (v : Int)) (b : Nat) (hbb : (b : Int) < σ 1 k) (zb : Int) (hzb : zb = (b : Int))  : MI l yX4_best wsX4_best ({ frames := 4, cells := 0, slots := 0, locals := 93 }) g ad [.int (zi (zk)), .int (zi (zv)), .int (zi (zb))] sz σ th (σ) (0) (((bst (cst σ k v b) 40 : Nat) : Int)) := by
  refine ZM.ofW (cc := cX4_best) (maxL := 10) (ret := (some .int)) (by decide) rfl (Nat.le_of_ble_eq_true rfl) ?_
  intro p e s m below meth c ls hx hb hr hml hown hts hlk hP hK hl _
  obtain ⟨rfl, hP, -⟩ := hP
  have hS : va_S (va_A (MWs g ad σ th) s.heap.size) s.heap s.heap [] := va_S.rf
  have hown : s.vm.findClass RX4 = some m.cls := hown
  have hl : lv_has ls 10 [(0, .ref (ad 0)), (1, .int (zi (zk))), (2, .int (zi (zv))), (3, .int (zi (zb)))] := hl
  have hiX4 : ∀ w ∈ u_ws RX4 TX4 14, w ∈ wsX4_best := by decide +kernel
  have hn := hW.n
  have hbk := hW.bars hk
  have ek : zk.toNat = k := by omega
  have hbz : (b : Int) < σ 1 zk.toNat := by rw [ek]; exact hbb
  refine lv_aload_n hx hb dX4_best_0 rfl (lv_at hl 0 rfl) ?_
  refine lv_aload_n hx hb dX4_best_1 rfl (lv_at hl 0 rfl) ?_
  refine lv_iload_n hx hb dX4_best_2 rfl (lv_at hl 1 rfl) ?_
  refine lv_iload_n hx hb dX4_best_3 rfl (lv_at hl 2 rfl) ?_
  refine lv_iload_n hx hb dX4_best_4 rfl (lv_at hl 3 rfl) ?_
  refine ro_V (rest := [.ref (ad 0)]) (As := [.int (zi (zk)), .int (zi (zv)), .int (zi (zb))]) ⟨hx, hb, hml, hown, hts⟩ (c_X4_isNote l g ad σ (th) hW (zk) (zv) (zb) (by omega) (by omega) (by omega)) (cwV 3 hts gX4_best_X4_isNote rfl rfl rfl (by decide +kernel) ⟨Nat.le_of_ble_eq_true rfl, Nat.le_of_ble_eq_true rfl⟩) (z_recv hK (hP 0 _ rfl) rfl) hP hK rfl hl.1 rfl (Nat.le_of_ble_eq_true rfl) dX4_best_5 ⟨Nat.zero_le _, Nat.zero_le _⟩ ?_
  refine z_ifp_eq (P := IsN σ (zk) (zv) (zb)) (tgt := 15) hx hb dX4_best_8 (by decide)  (fun h8 => ?_) (fun h8 => ?_)
  · exfalso; omega
  ·
    refine z_iconst hx hb dX4_best_11 ?_
    refine lv_goto (tgt := 16) hx hb dX4_best_12 (by decide) ?_
    refine wi_V (rest := []) (As := [.int (zi (0))]) ⟨hx, hb, hml, hown, hts⟩ (c_X4_fails l g ad σ (th) hW hd _ (0) (by omega)) (cwV 1 hts gX4_best_X4_fails rfl rfl rfl (by decide +kernel) ⟨Nat.le_of_ble_eq_true rfl, Nat.le_of_ble_eq_true rfl⟩) (z_recv hK (hP 0 _ rfl) rfl) hP trivial hK rfl hl.1 rfl (Nat.le_of_ble_eq_true rfl) dX4_best_16 ⟨Nat.zero_le _, Nat.zero_le _⟩ hS (MW_fr hS.1) (fun H locs hP _ _ hS => ?_)
    refine z_ifp_eq (P := 0 < (0)) (tgt := 24) hx hb dX4_best_19 (by decide)  (fun h19 => ?_) (fun h19 => ?_)
    ·
      refine lv_aload_n hx hb dX4_best_24 rfl (lv_at hl 0 rfl) ?_
      refine z_get (C := RX4) (T := TX4) (N := 14) hx hb hts hiX4 hown hK (hP 0 _ rfl) rfl 5 (by decide) (hts (.fieldLink RX4 23 "HarmoniumDeskModel" "notes" "[I") (by decide +kernel)) rfl rfl dX4_best_25 ?_
      refine lv_iload_n hx hb dX4_best_28 rfl (lv_at hl 1 rfl) ?_
      refine lv_iload_n hx hb dX4_best_29 rfl (lv_at hl 2 rfl) ?_
      refine lv_iload_n hx hb dX4_best_30 rfl (lv_at hl 3 rfl) ?_
      refine ro_S (rest := [.ref (ad 5)]) (As := [.int (zi (zk)), .int (zi (zv)), .int (zi (zb))]) ⟨hx, hb, hml, hown, hts⟩ (c_X4_at l g (zk) (zv) (zb)) (cwS 3 hts gX4_best_X4_at rfl rfl rfl (by decide +kernel) ⟨Nat.le_of_ble_eq_true rfl, Nat.le_of_ble_eq_true rfl⟩) trivial hK rfl hl.1 rfl (Nat.le_of_ble_eq_true rfl) dX4_best_31 ⟨Nat.zero_le _, Nat.zero_le _⟩ ?_
      refine z_iald hx hb hK (hP 5 _ rfl) (24 * k + 12 * v + b) (by omega) (by omega) (by decide) dX4_best_34 ?_
      refine z_top (b := NV σ k v b) (rfl) ?_
      refine lv_istore (lv' := [(4, .int (zi (NV σ k v b))), (0, .ref (ad 0)), (1, .int (zi (zk))), (2, .int (zi (zv))), (3, .int (zi (zb)))]) hx hb dX4_best_35 hl (by decide) rfl (fun ls hl => ?_)
      refine z_iconst hx hb dX4_best_37 ?_
      refine lv_istore (lv' := [(5, .int (zi ((-1)))), (4, .int (zi (NV σ k v b))), (0, .ref (ad 0)), (1, .int (zi (zk))), (2, .int (zi (zv))), (3, .int (zi (zb)))]) hx hb dX4_best_38 hl (by decide) rfl (fun ls hl => ?_)
      refine z_iconst hx hb dX4_best_40 ?_
      refine lv_istore (lv' := [(6, .int (zi (0))), (5, .int (zi ((-1)))), (4, .int (zi (NV σ k v b))), (0, .ref (ad 0)), (1, .int (zi (zk))), (2, .int (zi (zv))), (3, .int (zi (zb)))]) hx hb dX4_best_41 hl (by decide) rfl (fun ls hl => ?_)
      refine z_iconst hx hb dX4_best_43 ?_
      refine z_top (b := ((0 : Nat) : Int)) (rfl) ?_
      refine lv_istore (lv' := [(7, .int (zi (((0 : Nat) : Int)))), (6, .int (zi (0))), (5, .int (zi ((-1)))), (4, .int (zi (NV σ k v b))), (0, .ref (ad 0)), (1, .int (zi (zk))), (2, .int (zi (zv))), (3, .int (zi (zb)))]) hx hb dX4_best_44 hl (by decide) rfl (fun ls hl => ?_)
      have loop46 : ∀ (d i : Nat), i ≤ 40 → 40 - i = d → ∀ (H : Heap) (locs : List Loc), va_P g.1 vwCl (MWs g ad (opN σ k v b (i : Int)) 0) H → va_S (va_A (MWs g ad σ th) s.heap.size) s.heap H locs → ∀ ls : Array Slot, lv_has ls 10 [(7, .int (zi (((i + 1 : Nat) : Int)))), (6, .int (zi ((cst σ k v b) (bst (cst σ k v b) i)))), (5, .int (zi (((bst (cst σ k v b) i : Nat) : Int)))), (4, .int (zi (NV σ k v b))), (0, .ref (ad 0)), (1, .int (zi (zk))), (2, .int (zi (zv))), (3, .int (zi (zb)))] → W p l e ({ frames := 4, cells := 0, slots := 0, locals := 93 }) s m ([.ref (ad 0), .int (zi (zk)), .int (zi (zv)), .int (zi (zb))] : List Value).toArray below meth c H locs 0 0 (MQ below (va_Qi (fun z9 (_ : Unit) => z9 = zi (((bst (cst σ k v b) 40 : Nat) : Int))) (fun _ t9 => va_P g.1 vwCl (MWs g ad (σ) (0)) t9.heap) (va_A (MWs g ad σ th) s.heap.size)) ([.ref (ad 0), .int (zi (zk)), .int (zi (zv)), .int (zi (zb))] : List Value).toArray s 0 0 (va_A (MWs g ad σ th) s.heap.size)) (F0 m 46 ls []) := by
        intro d
        induction d with
        | zero =>
          intro i hi40 hd2 H locs hP hS ls hl
          have ei : i = 40 := by omega
          have hw := hW.v k v b
          refine lv_iload hx hb dX4_best_46 (lv_at hl 0 rfl) ?_
          refine z_bipush hx hb dX4_best_48 (by decide) ?_
          refine z_icmp_gt (tgt := 127) hx hb dX4_best_50 (by decide) (by omega) (by omega) (fun h50 => ?_) (fun h50 => ?_)
          ·
            refine lv_aload_n hx hb dX4_best_127 rfl (lv_at hl 4 rfl) ?_
            refine z_get (C := RX4) (T := TX4) (N := 14) hx hb hts hiX4 hown hK (hP 0 _ rfl) rfl 5 (by decide) (hts (.fieldLink RX4 23 "HarmoniumDeskModel" "notes" "[I") (by decide +kernel)) rfl rfl dX4_best_128 ?_
            refine lv_iload_n hx hb dX4_best_131 rfl (lv_at hl 5 rfl) ?_
            refine lv_iload_n hx hb dX4_best_132 rfl (lv_at hl 6 rfl) ?_
            refine lv_iload_n hx hb dX4_best_133 rfl (lv_at hl 7 rfl) ?_
            refine ro_S (rest := [.ref (ad 5)]) (As := [.int (zi (zk)), .int (zi (zv)), .int (zi (zb))]) ⟨hx, hb, hml, hown, hts⟩ (c_X4_at l g (zk) (zv) (zb)) (cwS 3 hts gX4_best_X4_at rfl rfl rfl (by decide +kernel) ⟨Nat.le_of_ble_eq_true rfl, Nat.le_of_ble_eq_true rfl⟩) trivial hK rfl hl.1 rfl (Nat.le_of_ble_eq_true rfl) dX4_best_134 ⟨Nat.zero_le _, Nat.zero_le _⟩ ?_
            refine lv_iload hx hb dX4_best_137 (lv_at hl 3 rfl) ?_
            refine z_mast (x := NV σ k v b) hx hb hd hK hP hS 5 5 720 rfl (24 * k + 12 * v + b) (msa5 _ _ _ _ _ _) (by omega) (by omega) (by decide) dX4_best_139 (fun H locs hP hS => ?_)
            refine lv_iload hx hb dX4_best_140 (lv_at hl 2 rfl) ?_
            exact z_wiret hx hb hr hlk dX4_best_142 (by rw [ei]) (by have e9 : (sup (opN σ k v b (i : Int)) 5 (24 * k + 12 * v + b) (NV σ k v b)) = σ := (opN_opN σ k v b _ _).trans (opN_id σ k v b rfl); rw [e9] at hP; exact hP) hS
          · exfalso; omega
        | succ d ih =>
          intro i hi40 hd2 H locs hP hS ls hl
          have r1 := CS_r (σ := opN σ k v b ((i + 1 : Nat) : Int)) (hW.setN (by omega)) (k := k) hk
          have r2 := CS_r (σ := opN σ k v b ((bst (cst σ k v b) i : Nat) : Int)) (hW.setN (by have := bst_r (cst σ k v b) i; omega)) (k := k) hk
          have r3 := bst_r (cst σ k v b) i
          have r1 : 0 ≤ cst σ k v b (i + 1) ∧ cst σ k v b (i + 1) ≤ 7200 := r1
          have r2 : 0 ≤ cst σ k v b (bst (cst σ k v b) i) ∧ cst σ k v b (bst (cst σ k v b) i) ≤ 7200 := r2
          refine lv_iload hx hb dX4_best_46 (lv_at hl 0 rfl) ?_
          refine z_bipush hx hb dX4_best_48 (by decide) ?_
          refine z_icmp_gt (tgt := 127) hx hb dX4_best_50 (by decide) (by omega) (by omega) (fun h50 => ?_) (fun h50 => ?_)
          · exfalso; omega
          ·
            refine lv_aload_n hx hb dX4_best_53 rfl (lv_at hl 4 rfl) ?_
            refine z_get (C := RX4) (T := TX4) (N := 14) hx hb hts hiX4 hown hK (hP 0 _ rfl) rfl 5 (by decide) (hts (.fieldLink RX4 23 "HarmoniumDeskModel" "notes" "[I") (by decide +kernel)) rfl rfl dX4_best_54 ?_
            refine lv_iload_n hx hb dX4_best_57 rfl (lv_at hl 5 rfl) ?_
            refine lv_iload_n hx hb dX4_best_58 rfl (lv_at hl 6 rfl) ?_
            refine lv_iload_n hx hb dX4_best_59 rfl (lv_at hl 7 rfl) ?_
            refine ro_S (rest := [.ref (ad 5)]) (As := [.int (zi (zk)), .int (zi (zv)), .int (zi (zb))]) ⟨hx, hb, hml, hown, hts⟩ (c_X4_at l g (zk) (zv) (zb)) (cwS 3 hts gX4_best_X4_at rfl rfl rfl (by decide +kernel) ⟨Nat.le_of_ble_eq_true rfl, Nat.le_of_ble_eq_true rfl⟩) trivial hK rfl hl.1 rfl (Nat.le_of_ble_eq_true rfl) dX4_best_60 ⟨Nat.zero_le _, Nat.zero_le _⟩ ?_
            refine lv_iload hx hb dX4_best_63 (lv_at hl 0 rfl) ?_
            refine z_mast (x := ((i + 1 : Nat) : Int)) hx hb hd hK hP hS 5 5 720 rfl (24 * k + 12 * v + b) (msa5 _ _ _ _ _ _) (by omega) (by omega) (by decide) dX4_best_65 (fun H locs hP hS => ?_)
            have hP : va_P g.1 vwCl (MWs g ad (opN σ k v b ((i + 1 : Nat) : Int)) 0) H := by rw [← opN_opN σ k v b (i : Int)]; exact hP
            refine lv_aload_n hx hb dX4_best_66 rfl (lv_at hl 4 rfl) ?_
            refine lv_iload_n hx hb dX4_best_67 rfl (lv_at hl 5 rfl) ?_
            refine ro_V (rest := []) (As := [.int (zi (zk))]) ⟨hx, hb, hml, hown, hts⟩ (c_X4_costs l g ad (opN σ k v b ((i + 1 : Nat) : Int)) 0 (hW.setN (by omega)) k hk (zk) (by omega)) (cwV 1 hts gX4_best_X4_costs rfl rfl rfl (by decide +kernel) ⟨Nat.le_of_ble_eq_true rfl, Nat.le_of_ble_eq_true rfl⟩) (z_recv hK (hP 0 _ rfl) rfl) hP hK rfl hl.1 rfl (Nat.le_of_ble_eq_true rfl) dX4_best_68 ⟨Nat.zero_le _, Nat.zero_le _⟩ ?_
            refine lv_istore (lv' := [(8, .int (zi (cst σ k v b (i + 1)))), (7, .int (zi (((i + 1 : Nat) : Int)))), (6, .int (zi ((cst σ k v b) (bst (cst σ k v b) i)))), (5, .int (zi (((bst (cst σ k v b) i : Nat) : Int)))), (4, .int (zi (NV σ k v b))), (0, .ref (ad 0)), (1, .int (zi (zk))), (2, .int (zi (zv))), (3, .int (zi (zb)))]) hx hb dX4_best_71 hl (by decide) rfl (fun ls hl => ?_)
            refine lv_iload hx hb dX4_best_73 (lv_at hl 3 rfl) ?_
            refine z_iconst hx hb dX4_best_75 ?_
            refine z_icmp_eq (tgt := 86) hx hb dX4_best_76 (by decide) (by omega) (by omega) (fun h76 => ?_) (fun h76 => ?_)
            · exfalso; omega
            ·
              refine lv_iload hx hb dX4_best_79 (lv_at hl 0 rfl) ?_
              refine lv_iload hx hb dX4_best_81 (lv_at hl 2 rfl) ?_
              refine z_icmp_ge (tgt := 90) hx hb dX4_best_83 (by decide) (by omega) (by omega) (fun h83 => ?_) (fun h83 => ?_)
              ·
                refine z_iconst hx hb dX4_best_90 ?_
                refine lv_istore (lv' := [(9, .int (zi (0))), (8, .int (zi (cst σ k v b (i + 1)))), (7, .int (zi (((i + 1 : Nat) : Int)))), (6, .int (zi ((cst σ k v b) (bst (cst σ k v b) i)))), (5, .int (zi (((bst (cst σ k v b) i : Nat) : Int)))), (4, .int (zi (NV σ k v b))), (0, .ref (ad 0)), (1, .int (zi (zk))), (2, .int (zi (zv))), (3, .int (zi (zb)))]) hx hb dX4_best_91 hl (by decide) rfl (fun ls hl => ?_)
                refine lv_iload hx hb dX4_best_93 (lv_at hl 0 rfl) ?_
                refine z_if_eq (tgt := 103) hx hb dX4_best_95 (by decide) (by omega) (fun h95 => ?_) (fun h95 => ?_)
                ·
                  refine lv_iload hx hb dX4_best_103 (lv_at hl 4 rfl) ?_
                  refine z_top (b := ((bst (cst σ k v b) (i + 1) : Nat) : Int)) (by rw [bst_f (cst σ k v b) i (by omega)]) ?_
                  refine lv_istore (lv' := [(5, .int (zi (((bst (cst σ k v b) (i + 1) : Nat) : Int)))), (9, .int (zi (0))), (8, .int (zi (cst σ k v b (i + 1)))), (7, .int (zi (((i + 1 : Nat) : Int)))), (6, .int (zi ((cst σ k v b) (bst (cst σ k v b) i)))), (4, .int (zi (NV σ k v b))), (0, .ref (ad 0)), (1, .int (zi (zk))), (2, .int (zi (zv))), (3, .int (zi (zb)))]) hx hb dX4_best_105 hl (by decide) rfl (fun ls hl => ?_)
                  refine lv_iload hx hb dX4_best_107 (lv_at hl 1 rfl) ?_
                  refine z_if_eq (tgt := 117) hx hb dX4_best_109 (by decide) (by omega) (fun h109 => ?_) (fun h109 => ?_)
                  ·
                    refine lv_iload hx hb dX4_best_117 (lv_at hl 4 rfl) ?_
                    refine z_top (b := (cst σ k v b) (bst (cst σ k v b) (i + 1))) (by rw [bst_f (cst σ k v b) i (by omega)]) ?_
                    refine lv_istore (lv' := [(6, .int (zi ((cst σ k v b) (bst (cst σ k v b) (i + 1))))), (5, .int (zi (((bst (cst σ k v b) (i + 1) : Nat) : Int)))), (9, .int (zi (0))), (8, .int (zi (cst σ k v b (i + 1)))), (7, .int (zi (((i + 1 : Nat) : Int)))), (4, .int (zi (NV σ k v b))), (0, .ref (ad 0)), (1, .int (zi (zk))), (2, .int (zi (zv))), (3, .int (zi (zb)))]) hx hb dX4_best_119 hl (by decide) rfl (fun ls hl => ?_)
                    refine z_iinc (b := ((i + 1 + 1 : Nat) : Int)) (lv' := [(7, .int (zi (((i + 1 + 1 : Nat) : Int)))), (6, .int (zi ((cst σ k v b) (bst (cst σ k v b) (i + 1))))), (5, .int (zi (((bst (cst σ k v b) (i + 1) : Nat) : Int)))), (9, .int (zi (0))), (8, .int (zi (cst σ k v b (i + 1)))), (4, .int (zi (NV σ k v b))), (0, .ref (ad 0)), (1, .int (zi (zk))), (2, .int (zi (zv))), (3, .int (zi (zb)))]) hx hb dX4_best_121 hl (k := 4) rfl (by omega) (by decide) rfl (fun ls hl => ?_)
                    refine lv_goto (tgt := 46) hx hb dX4_best_124 (by decide) ?_
                    exact ih (i + 1) (by omega) (by omega) H locs hP hS ls (lv_sub hl [0, 1, 2, 5, 6, 7, 8, 9] rfl)
                  · exfalso; omega
                · exfalso; omega
              ·
                refine z_iconst hx hb dX4_best_86 ?_
                refine lv_goto (tgt := 91) hx hb dX4_best_87 (by decide) ?_
                refine lv_istore (lv' := [(9, .int (zi (1))), (8, .int (zi (cst σ k v b (i + 1)))), (7, .int (zi (((i + 1 : Nat) : Int)))), (6, .int (zi ((cst σ k v b) (bst (cst σ k v b) i)))), (5, .int (zi (((bst (cst σ k v b) i : Nat) : Int)))), (4, .int (zi (NV σ k v b))), (0, .ref (ad 0)), (1, .int (zi (zk))), (2, .int (zi (zv))), (3, .int (zi (zb)))]) hx hb dX4_best_91 hl (by decide) rfl (fun ls hl => ?_)
                refine lv_iload hx hb dX4_best_93 (lv_at hl 0 rfl) ?_
                refine z_if_eq (tgt := 103) hx hb dX4_best_95 (by decide) (by omega) (fun h95 => ?_) (fun h95 => ?_)
                · exfalso; omega
                ·
                  refine lv_iload hx hb dX4_best_98 (lv_at hl 2 rfl) ?_
                  refine lv_goto (tgt := 105) hx hb dX4_best_100 (by decide) ?_
                  refine z_top (b := ((bst (cst σ k v b) (i + 1) : Nat) : Int)) (by rw [bst_t (cst σ k v b) i (by omega)]) ?_
                  refine lv_istore (lv' := [(5, .int (zi (((bst (cst σ k v b) (i + 1) : Nat) : Int)))), (9, .int (zi (1))), (8, .int (zi (cst σ k v b (i + 1)))), (7, .int (zi (((i + 1 : Nat) : Int)))), (6, .int (zi ((cst σ k v b) (bst (cst σ k v b) i)))), (4, .int (zi (NV σ k v b))), (0, .ref (ad 0)), (1, .int (zi (zk))), (2, .int (zi (zv))), (3, .int (zi (zb)))]) hx hb dX4_best_105 hl (by decide) rfl (fun ls hl => ?_)
                  refine lv_iload hx hb dX4_best_107 (lv_at hl 1 rfl) ?_
                  refine z_if_eq (tgt := 117) hx hb dX4_best_109 (by decide) (by omega) (fun h109 => ?_) (fun h109 => ?_)
                  · exfalso; omega
                  ·
                    refine lv_iload hx hb dX4_best_112 (lv_at hl 2 rfl) ?_
                    refine lv_goto (tgt := 119) hx hb dX4_best_114 (by decide) ?_
                    refine z_top (b := (cst σ k v b) (bst (cst σ k v b) (i + 1))) (by rw [bst_t (cst σ k v b) i (by omega)]) ?_
                    refine lv_istore (lv' := [(6, .int (zi ((cst σ k v b) (bst (cst σ k v b) (i + 1))))), (5, .int (zi (((bst (cst σ k v b) (i + 1) : Nat) : Int)))), (9, .int (zi (1))), (8, .int (zi (cst σ k v b (i + 1)))), (7, .int (zi (((i + 1 : Nat) : Int)))), (4, .int (zi (NV σ k v b))), (0, .ref (ad 0)), (1, .int (zi (zk))), (2, .int (zi (zv))), (3, .int (zi (zb)))]) hx hb dX4_best_119 hl (by decide) rfl (fun ls hl => ?_)
                    refine z_iinc (b := ((i + 1 + 1 : Nat) : Int)) (lv' := [(7, .int (zi (((i + 1 + 1 : Nat) : Int)))), (6, .int (zi ((cst σ k v b) (bst (cst σ k v b) (i + 1))))), (5, .int (zi (((bst (cst σ k v b) (i + 1) : Nat) : Int)))), (9, .int (zi (1))), (8, .int (zi (cst σ k v b (i + 1)))), (4, .int (zi (NV σ k v b))), (0, .ref (ad 0)), (1, .int (zi (zk))), (2, .int (zi (zv))), (3, .int (zi (zb)))]) hx hb dX4_best_121 hl (k := 4) rfl (by omega) (by decide) rfl (fun ls hl => ?_)
                    refine lv_goto (tgt := 46) hx hb dX4_best_124 (by decide) ?_
                    exact ih (i + 1) (by omega) (by omega) H locs hP hS ls (lv_sub hl [0, 1, 2, 5, 6, 7, 8, 9] rfl)
      have r0 := CS_r (σ := opN σ k v b ((0 : Nat) : Int)) (hW.setN (by omega)) (k := k) hk
      refine lv_iload hx hb dX4_best_46 (lv_at hl 0 rfl) ?_
      refine z_bipush hx hb dX4_best_48 (by decide) ?_
      refine z_icmp_gt (tgt := 127) hx hb dX4_best_50 (by decide) (by omega) (by omega) (fun h50 => ?_) (fun h50 => ?_)
      · exfalso; omega
      ·
        refine lv_aload_n hx hb dX4_best_53 rfl (lv_at hl 4 rfl) ?_
        refine z_get (C := RX4) (T := TX4) (N := 14) hx hb hts hiX4 hown hK (hP 0 _ rfl) rfl 5 (by decide) (hts (.fieldLink RX4 23 "HarmoniumDeskModel" "notes" "[I") (by decide +kernel)) rfl rfl dX4_best_54 ?_
        refine lv_iload_n hx hb dX4_best_57 rfl (lv_at hl 5 rfl) ?_
        refine lv_iload_n hx hb dX4_best_58 rfl (lv_at hl 6 rfl) ?_
        refine lv_iload_n hx hb dX4_best_59 rfl (lv_at hl 7 rfl) ?_
        refine ro_S (rest := [.ref (ad 5)]) (As := [.int (zi (zk)), .int (zi (zv)), .int (zi (zb))]) ⟨hx, hb, hml, hown, hts⟩ (c_X4_at l g (zk) (zv) (zb)) (cwS 3 hts gX4_best_X4_at rfl rfl rfl (by decide +kernel) ⟨Nat.le_of_ble_eq_true rfl, Nat.le_of_ble_eq_true rfl⟩) trivial hK rfl hl.1 rfl (Nat.le_of_ble_eq_true rfl) dX4_best_60 ⟨Nat.zero_le _, Nat.zero_le _⟩ ?_
        refine lv_iload hx hb dX4_best_63 (lv_at hl 0 rfl) ?_
        refine z_mast (x := ((0 : Nat) : Int)) hx hb hd hK hP hS 5 5 720 rfl (24 * k + 12 * v + b) (msa5 _ _ _ _ _ _) (by omega) (by omega) (by decide) dX4_best_65 (fun H locs hP hS => ?_)
        have hP : va_P g.1 vwCl (MWs g ad (opN σ k v b ((0 : Nat) : Int)) 0) H := hP
        refine lv_aload_n hx hb dX4_best_66 rfl (lv_at hl 4 rfl) ?_
        refine lv_iload_n hx hb dX4_best_67 rfl (lv_at hl 5 rfl) ?_
        refine ro_V (rest := []) (As := [.int (zi (zk))]) ⟨hx, hb, hml, hown, hts⟩ (c_X4_costs l g ad (opN σ k v b ((0 : Nat) : Int)) 0 (hW.setN (by omega)) k hk (zk) (by omega)) (cwV 1 hts gX4_best_X4_costs rfl rfl rfl (by decide +kernel) ⟨Nat.le_of_ble_eq_true rfl, Nat.le_of_ble_eq_true rfl⟩) (z_recv hK (hP 0 _ rfl) rfl) hP hK rfl hl.1 rfl (Nat.le_of_ble_eq_true rfl) dX4_best_68 ⟨Nat.zero_le _, Nat.zero_le _⟩ ?_
        refine lv_istore (lv' := [(8, .int (zi (cst σ k v b 0))), (7, .int (zi (((0 : Nat) : Int)))), (6, .int (zi (0))), (5, .int (zi ((-1)))), (4, .int (zi (NV σ k v b))), (0, .ref (ad 0)), (1, .int (zi (zk))), (2, .int (zi (zv))), (3, .int (zi (zb)))]) hx hb dX4_best_71 hl (by decide) rfl (fun ls hl => ?_)
        refine lv_iload hx hb dX4_best_73 (lv_at hl 3 rfl) ?_
        refine z_iconst hx hb dX4_best_75 ?_
        refine z_icmp_eq (tgt := 86) hx hb dX4_best_76 (by decide) (by omega) (by omega) (fun h76 => ?_) (fun h76 => ?_)
        ·
          refine z_iconst hx hb dX4_best_86 ?_
          refine lv_goto (tgt := 91) hx hb dX4_best_87 (by decide) ?_
          refine lv_istore (lv' := [(9, .int (zi (1))), (8, .int (zi (cst σ k v b 0))), (7, .int (zi (((0 : Nat) : Int)))), (6, .int (zi (0))), (5, .int (zi ((-1)))), (4, .int (zi (NV σ k v b))), (0, .ref (ad 0)), (1, .int (zi (zk))), (2, .int (zi (zv))), (3, .int (zi (zb)))]) hx hb dX4_best_91 hl (by decide) rfl (fun ls hl => ?_)
          refine lv_iload hx hb dX4_best_93 (lv_at hl 0 rfl) ?_
          refine z_if_eq (tgt := 103) hx hb dX4_best_95 (by decide) (by omega) (fun h95 => ?_) (fun h95 => ?_)
          · exfalso; omega
          ·
            refine lv_iload hx hb dX4_best_98 (lv_at hl 2 rfl) ?_
            refine lv_goto (tgt := 105) hx hb dX4_best_100 (by decide) ?_
            refine lv_istore (lv' := [(5, .int (zi (((0 : Nat) : Int)))), (9, .int (zi (1))), (8, .int (zi (cst σ k v b 0))), (7, .int (zi (((0 : Nat) : Int)))), (6, .int (zi (0))), (4, .int (zi (NV σ k v b))), (0, .ref (ad 0)), (1, .int (zi (zk))), (2, .int (zi (zv))), (3, .int (zi (zb)))]) hx hb dX4_best_105 hl (by decide) rfl (fun ls hl => ?_)
            refine lv_iload hx hb dX4_best_107 (lv_at hl 1 rfl) ?_
            refine z_if_eq (tgt := 117) hx hb dX4_best_109 (by decide) (by omega) (fun h109 => ?_) (fun h109 => ?_)
            · exfalso; omega
            ·
              refine lv_iload hx hb dX4_best_112 (lv_at hl 2 rfl) ?_
              refine lv_goto (tgt := 119) hx hb dX4_best_114 (by decide) ?_
              refine lv_istore (lv' := [(6, .int (zi (cst σ k v b 0))), (5, .int (zi (((0 : Nat) : Int)))), (9, .int (zi (1))), (8, .int (zi (cst σ k v b 0))), (7, .int (zi (((0 : Nat) : Int)))), (4, .int (zi (NV σ k v b))), (0, .ref (ad 0)), (1, .int (zi (zk))), (2, .int (zi (zv))), (3, .int (zi (zb)))]) hx hb dX4_best_119 hl (by decide) rfl (fun ls hl => ?_)
              refine z_iinc (b := ((0 + 1 : Nat) : Int)) (lv' := [(7, .int (zi (((0 + 1 : Nat) : Int)))), (6, .int (zi (cst σ k v b 0))), (5, .int (zi (((0 : Nat) : Int)))), (9, .int (zi (1))), (8, .int (zi (cst σ k v b 0))), (4, .int (zi (NV σ k v b))), (0, .ref (ad 0)), (1, .int (zi (zk))), (2, .int (zi (zv))), (3, .int (zi (zb)))]) hx hb dX4_best_121 hl (k := 4) rfl (by omega) (by decide) rfl (fun ls hl => ?_)
              refine lv_goto (tgt := 46) hx hb dX4_best_124 (by decide) ?_
              exact loop46 _ 0 (by omega) rfl H locs hP hS ls (lv_sub hl [0, 1, 2, 5, 6, 7, 8, 9] rfl)
        · exfalso; omega
    · exfalso; omega
