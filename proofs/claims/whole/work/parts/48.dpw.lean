set_option maxHeartbeats 4000000 in
set_option maxRecDepth 100000 in
theorem c_X3_setPass_0 (l : Launch) (g : gG) (σ : SG) (a : AD) (hW : WF σ) (t : Int) (hg : 0 ≤ t ∧ t ≤ 100) (sz : Nat) : DW l yX3_setPass wsX3_setPass ({ frames := 0, cells := 0, slots := 0, locals := 0 }) g [.int (zi (t))] sz σ a (sup σ 7 0 t) (σ 7 0) 0 0 := by
  refine ZM.ofW (cc := cX3_setPass) (maxL := 3) (ret := (some .int)) (by decide) rfl (Nat.le_of_ble_eq_true rfl) ?_
  intro p e s m below meth c ls hx hb hr hml hown hts hlk hP hK hl hin
  obtain ⟨rfl, hI⟩ := hP
  have hn := hW.n
  have hP := z_cons hI.ob z_nil
  have hP : va_P g.1 vwCl [((a 1 0), .inr (3, [.ref (a 2 0), .int (zi (σ 0 0)), .ref (a 3 0), .int (zi (σ 8 0)), .ref (a 4 0), .int (zi (σ 7 0)), .ref (a 5 0)]))] s.heap := hP
  have hD : va_D (va_A [((a 1 0), .inr (3, [.ref (a 2 0), .int (zi (σ 0 0)), .ref (a 3 0), .int (zi (σ 8 0)), .ref (a 4 0), .int (zi (σ 7 0)), .ref (a 5 0)]))] s.heap.size) [((a 1 0), .inr (3, [.ref (a 2 0), .int (zi (σ 0 0)), .ref (a 3 0), .int (zi (σ 8 0)), .ref (a 4 0), .int (zi (σ 7 0)), .ref (a 5 0)]))] := z_Dn (by simp)
  have hS : va_S (va_A [((a 1 0), .inr (3, [.ref (a 2 0), .int (zi (σ 0 0)), .ref (a 3 0), .int (zi (σ 8 0)), .ref (a 4 0), .int (zi (σ 7 0)), .ref (a 5 0)]))] s.heap.size) s.heap s.heap [] := va_S.rf
  have hA : ∀ x9 : Nat, s.heap.size ≤ x9 → (va_A [((a 1 0), .inr (3, [.ref (a 2 0), .int (zi (σ 0 0)), .ref (a 3 0), .int (zi (σ 8 0)), .ref (a 4 0), .int (zi (σ 7 0)), .ref (a 5 0)]))] s.heap.size) x9 := fun _ h => Or.inr h
  have hown : s.vm.findClass RX3 = some m.cls := hown
  have hl : lv_has ls 3 [(0, .ref (a 1 0)), (1, .int (zi (t)))] := hl
  have hiX3 : ∀ w ∈ u_ws RX3 TX3 7, w ∈ wsX3_setPass := by decide +kernel
  have hfA : ∀ x9, va_A [((a 1 0), .inr (3, [.ref (a 2 0), .int (zi (σ 0 0)), .ref (a 3 0), .int (zi (σ 8 0)), .ref (a 4 0), .int (zi (σ 7 0)), .ref (a 5 0)]))] s.heap.size x9 → dA σ a s.heap.size x9 := dA_of (fun x9 h9 => by
    simp only [List.map, List.mem_cons, List.not_mem_nil, or_false] at h9
    rcases h9 with rfl
    · exact ⟨1, 0, (dOk_0 σ (i := 1) (by omega)), rfl⟩)
  refine lv_iload_n hx hb dX3_setPass_0 rfl (lv_at hl 1 rfl) ?_
  refine z_if_lt (tgt := 10) hx hb dX3_setPass_1 (by decide) (by omega) (fun h1 => ?_) (fun h1 => ?_)
  · exfalso; omega
  ·
    refine lv_iload_n hx hb dX3_setPass_4 rfl (lv_at hl 1 rfl) ?_
    refine z_bipush hx hb dX3_setPass_5 (by decide) ?_
    refine z_icmp_le (tgt := 20) hx hb dX3_setPass_7 (by decide) (by omega) (by omega) (fun h7 => ?_) (fun h7 => ?_)
    ·
      refine lv_aload_n hx hb dX3_setPass_20 rfl (lv_at hl 0 rfl) ?_
      refine z_get (C := RX3) (T := TX3) (N := 7) hx hb hts hiX3 hown hK (hP 0 _ rfl) rfl 5 (by decide) (hts (.fieldLink RX3 32 "HarmoniumDesk" "passMark" "I") (by decide +kernel)) rfl rfl dX3_setPass_21 ?_
      refine lv_istore_n (lv' := [(2, .int (zi (σ 7 0))), (0, .ref (a 1 0)), (1, .int (zi (t)))]) hx hb dX3_setPass_24 rfl hl (by decide) rfl (fun ls hl => ?_)
      refine lv_aload_n hx hb dX3_setPass_25 rfl (lv_at hl 1 rfl) ?_
      refine lv_iload_n hx hb dX3_setPass_26 rfl (lv_at hl 2 rfl) ?_
      refine z_put (v := .int (zi (t))) hx hb hts hiX3 tyX3 tyX3_ok nmX3 hown hK hP hD hS 0 rfl rfl 5 (by decide) (hts (.fieldLink RX3 32 "HarmoniumDesk" "passMark" "I") (by decide +kernel)) rfl (Or.inl rfl) rfl rfl (Nat.le_of_ble_eq_true rfl) dX3_setPass_27 (fun H locs hP hD hS => ?_)
      have hP : va_P g.1 vwCl [((a 1 0), .inr (3, [.ref (a 2 0), .int (zi (σ 0 0)), .ref (a 3 0), .int (zi (σ 8 0)), .ref (a 4 0), .int (zi (t)), .ref (a 5 0)]))] H := hP
      have hD : va_D (va_A [((a 1 0), .inr (3, [.ref (a 2 0), .int (zi (σ 0 0)), .ref (a 3 0), .int (zi (σ 8 0)), .ref (a 4 0), .int (zi (σ 7 0)), .ref (a 5 0)]))] s.heap.size) [((a 1 0), .inr (3, [.ref (a 2 0), .int (zi (σ 0 0)), .ref (a 3 0), .int (zi (σ 8 0)), .ref (a 4 0), .int (zi (t)), .ref (a 5 0)]))] := hD
      refine lv_iload_n hx hb dX3_setPass_30 rfl (lv_at hl 0 rfl) ?_
      exact z_dwret (a) hx hb hr hlk dX3_setPass_31 (rfl) (hI.setPass hS (hP 0 _ rfl)) (DE_same rfl rfl) hfA hS
    · exfalso; omega

set_option maxHeartbeats 4000000 in
set_option maxRecDepth 100000 in
theorem c_X3_setWeight_0 (l : Launch) (g : gG) (σ : SG) (a : AD) (hW : WF σ) (r : Nat) (hr6 : r < 6) (z : Int) (hz : z = (r : Int)) (t : Int) (hg2 : 0 ≤ t ∧ t ≤ 50) (sz : Nat) : DW l yX3_setWeight wsX3_setWeight ({ frames := 0, cells := 0, slots := 0, locals := 0 }) g [.int (zi (z)), .int (zi (t))] sz σ a (sup σ 6 r t) (σ 6 r) 0 0 := by
  refine ZM.ofW (cc := cX3_setWeight) (maxL := 4) (ret := (some .int)) (by decide) rfl (Nat.le_of_ble_eq_true rfl) ?_
  intro p e s m below meth c ls hx hb hr hml hown hts hlk hP hK hl hin
  obtain ⟨rfl, hI⟩ := hP
  have hn := hW.n
  have hP := z_cons hI.wt z_nil
  have hP : va_P g.1 vwCl [((a 4 0), .inl (g.2.1, 6, .inl (fun j9 => zi ((σ 6) j9))))] s.heap := hP
  have hD : va_D (va_A [((a 4 0), .inl (g.2.1, 6, .inl (fun j9 => zi ((σ 6) j9))))] s.heap.size) [((a 4 0), .inl (g.2.1, 6, .inl (fun j9 => zi ((σ 6) j9))))] := z_Dn (by simp)
  have hS : va_S (va_A [((a 4 0), .inl (g.2.1, 6, .inl (fun j9 => zi ((σ 6) j9))))] s.heap.size) s.heap s.heap [] := va_S.rf
  have hA : ∀ x9 : Nat, s.heap.size ≤ x9 → (va_A [((a 4 0), .inl (g.2.1, 6, .inl (fun j9 => zi ((σ 6) j9))))] s.heap.size) x9 := fun _ h => Or.inr h
  have hown : s.vm.findClass RX3 = some m.cls := hown
  have hl : lv_has ls 4 [(0, .ref (a 1 0)), (1, .int (zi (z))), (2, .int (zi (t)))] := hl
  have hiX3 : ∀ w ∈ u_ws RX3 TX3 7, w ∈ wsX3_setWeight := by decide +kernel
  have hfA : ∀ x9, va_A [((a 4 0), .inl (g.2.1, 6, .inl (fun j9 => zi ((σ 6) j9))))] s.heap.size x9 → dA σ a s.heap.size x9 := dA_of (fun x9 h9 => by
    simp only [List.map, List.mem_cons, List.not_mem_nil, or_false] at h9
    rcases h9 with rfl
    · exact ⟨4, 0, (dOk_0 σ (i := 4) (by omega)), rfl⟩)
  have nD : ¬ (va_A [((a 4 0), .inl (g.2.1, 6, .inl (fun j9 => zi ((σ 6) j9))))] s.heap.size) (a 1 0) := z_nA (hI.lt (dOk_0 σ (i := 1) (by omega))) (fun h9 => by
    simp only [List.map, List.mem_cons, List.not_mem_nil, or_false] at h9
    rcases h9 with h9
    · exact dNe hI.inj (dOk_0 σ (i := 1) (by omega)) (dOk_0 σ (i := 4) (by omega)) (by omega) h9)
  refine lv_iload_n hx hb dX3_setWeight_0 rfl (lv_at hl 1 rfl) ?_
  refine z_if_lt (tgt := 13) hx hb dX3_setWeight_1 (by decide) (by omega) (fun h1 => ?_) (fun h1 => ?_)
  · exfalso; omega
  ·
    refine lv_iload_n hx hb dX3_setWeight_4 rfl (lv_at hl 1 rfl) ?_
    refine lv_aload_n hx hb dX3_setWeight_5 rfl (lv_at hl 0 rfl) ?_
    refine z_get (C := RX3) (T := TX3) (N := 7) hx hb hts hiX3 hown hK (z_stay hI.ob hS nD) rfl 4 (by decide) (hts (.fieldLink RX3 28 "HarmoniumDesk" "weights" "[I") (by decide +kernel)) rfl rfl dX3_setWeight_6 ?_
    refine z_alen hx hb hK (hP 0 _ rfl) 0 rfl dX3_setWeight_9 ?_
    refine z_icmp_lt (tgt := 23) hx hb dX3_setWeight_10 (by decide) (by omega) (by omega) (fun h10 => ?_) (fun h10 => ?_)
    ·
      refine lv_iload_n hx hb dX3_setWeight_23 rfl (lv_at hl 2 rfl) ?_
      refine z_if_lt (tgt := 33) hx hb dX3_setWeight_24 (by decide) (by omega) (fun h24 => ?_) (fun h24 => ?_)
      · exfalso; omega
      ·
        refine lv_iload_n hx hb dX3_setWeight_27 rfl (lv_at hl 2 rfl) ?_
        refine z_bipush hx hb dX3_setWeight_28 (by decide) ?_
        refine z_icmp_le (tgt := 43) hx hb dX3_setWeight_30 (by decide) (by omega) (by omega) (fun h30 => ?_) (fun h30 => ?_)
        ·
          refine lv_aload_n hx hb dX3_setWeight_43 rfl (lv_at hl 0 rfl) ?_
          refine z_get (C := RX3) (T := TX3) (N := 7) hx hb hts hiX3 hown hK (z_stay hI.ob hS nD) rfl 4 (by decide) (hts (.fieldLink RX3 28 "HarmoniumDesk" "weights" "[I") (by decide +kernel)) rfl rfl dX3_setWeight_44 ?_
          refine lv_iload_n hx hb dX3_setWeight_47 rfl (lv_at hl 1 rfl) ?_
          refine z_iald hx hb hK (hP 0 _ rfl) (r) (by omega) (by omega) (by decide) dX3_setWeight_48 ?_
          refine z_top (b := σ 6 r) (rfl) ?_
          refine lv_istore_n (lv' := [(3, .int (zi (σ 6 r))), (0, .ref (a 1 0)), (1, .int (zi (z))), (2, .int (zi (t)))]) hx hb dX3_setWeight_49 rfl hl (by decide) rfl (fun ls hl => ?_)
          refine lv_aload_n hx hb dX3_setWeight_50 rfl (lv_at hl 1 rfl) ?_
          refine z_get (C := RX3) (T := TX3) (N := 7) hx hb hts hiX3 hown hK (z_stay hI.ob hS nD) rfl 4 (by decide) (hts (.fieldLink RX3 28 "HarmoniumDesk" "weights" "[I") (by decide +kernel)) rfl rfl dX3_setWeight_51 ?_
          refine lv_iload_n hx hb dX3_setWeight_54 rfl (lv_at hl 2 rfl) ?_
          refine lv_iload_n hx hb dX3_setWeight_55 rfl (lv_at hl 3 rfl) ?_
          refine z_iast (f := σ 6) (x := t) hx hb hK hP hD hS 0 rfl (r) (by omega) (by omega) (by decide) dX3_setWeight_56 (fun H locs hP hD hS => ?_)
          have hP : va_P g.1 vwCl [((a 4 0), .inl (g.2.1, 6, .inl (fun j9 => zi ((va_up (σ 6) (r) (t)) j9))))] H := hP
          have hD : va_D (va_A [((a 4 0), .inl (g.2.1, 6, .inl (fun j9 => zi ((σ 6) j9))))] s.heap.size) [((a 4 0), .inl (g.2.1, 6, .inl (fun j9 => zi ((va_up (σ 6) (r) (t)) j9))))] := hD
          refine lv_iload_n hx hb dX3_setWeight_57 rfl (lv_at hl 0 rfl) ?_
          exact z_dwret (a) hx hb hr hlk dX3_setWeight_58 (rfl) (hI.setWeight hS (hP 0 _ rfl)) (DE_same rfl rfl) hfA hS
        · exfalso; omega
    · exfalso; omega

set_option maxHeartbeats 4000000 in
set_option maxRecDepth 100000 in
theorem c_X3_handIn_0 (l : Launch) (g : gG) (σ : SG) (a : AD) (hW : WF σ) (k : Nat) (hk : (k : Int) < σ 0 0) (zk : Int) (hzk : zk = (k : Int))  (sz : Nat) : DW l yX3_handIn wsX3_handIn ({ frames := 6, cells := 0, slots := 0, locals := 137 }) g [.int (zi (zk))] sz σ a (sup σ 4 k (pz (σ 7 0 ≤ MK σ k))) (pz (σ 7 0 ≤ MK σ k)) 0 0 := by
  refine ZM.ofW (cc := cX3_handIn) (maxL := 3) (ret := (some .boolean)) (by decide) rfl (Nat.le_of_ble_eq_true rfl) ?_
  intro p e s m below meth c ls hx hb hr hml hown hts hlk hP hK hl hin
  obtain ⟨rfl, hI⟩ := hP
  have hn := hW.n
  have hP := z_cons (hI.vk hk).1 z_nil
  have hP : va_P g.1 vwCl [((a 8 k), .inr (2, [.int (zi ((k : Int))), va_rf (paV σ a k), .ref (a 9 k), .int (zi (σ 3 k)), .int (zi (σ 4 k))]))] s.heap := hP
  have hD : va_D (va_A [((a 8 k), .inr (2, [.int (zi ((k : Int))), va_rf (paV σ a k), .ref (a 9 k), .int (zi (σ 3 k)), .int (zi (σ 4 k))]))] s.heap.size) [((a 8 k), .inr (2, [.int (zi ((k : Int))), va_rf (paV σ a k), .ref (a 9 k), .int (zi (σ 3 k)), .int (zi (σ 4 k))]))] := z_Dn (by simp)
  have hS : va_S (va_A [((a 8 k), .inr (2, [.int (zi ((k : Int))), va_rf (paV σ a k), .ref (a 9 k), .int (zi (σ 3 k)), .int (zi (σ 4 k))]))] s.heap.size) s.heap s.heap [] := va_S.rf
  have hA : ∀ x9 : Nat, s.heap.size ≤ x9 → (va_A [((a 8 k), .inr (2, [.int (zi ((k : Int))), va_rf (paV σ a k), .ref (a 9 k), .int (zi (σ 3 k)), .int (zi (σ 4 k))]))] s.heap.size) x9 := fun _ h => Or.inr h
  have hown : s.vm.findClass RX3 = some m.cls := hown
  have hl : lv_has ls 3 [(0, .ref (a 1 0)), (1, .int (zi (zk)))] := hl
  have hiX2 : ∀ w ∈ u_ws RX2 TX2 5, w ∈ wsX3_handIn := by decide +kernel
  have hiX3 : ∀ w ∈ u_ws RX3 TX3 7, w ∈ wsX3_handIn := by decide +kernel
  have hfA : ∀ x9, va_A [((a 8 k), .inr (2, [.int (zi ((k : Int))), va_rf (paV σ a k), .ref (a 9 k), .int (zi (σ 3 k)), .int (zi (σ 4 k))]))] s.heap.size x9 → dA σ a s.heap.size x9 := dA_of (fun x9 h9 => by
    simp only [List.map, List.mem_cons, List.not_mem_nil, or_false] at h9
    rcases h9 with rfl
    · exact ⟨8, k, (dOk_v (i := 8) (by omega) hk), rfl⟩)
  have hbk := hW.bars hk
  have hmk := MK_r hW hk
  have hps := hW.pass
  obtain ⟨uk, lk, hsk, nuk, nlk, eqk⟩ := (hI.vk hk).2
  have nD : ¬ (va_A [((a 8 k), .inr (2, [.int (zi ((k : Int))), va_rf (paV σ a k), .ref (a 9 k), .int (zi (σ 3 k)), .int (zi (σ 4 k))]))] s.heap.size) (a 1 0) := z_nA (hI.lt (dOk_0 σ (i := 1) (by omega))) (fun h9 => by
    simp only [List.map, List.mem_cons, List.not_mem_nil, or_false] at h9
    rcases h9 with h9
    · exact dNe hI.inj (dOk_0 σ (i := 1) (by omega)) (dOk_v (i := 8) (by omega) hk) (by omega) h9)
  have n9 : ¬ (va_A [((a 8 k), .inr (2, [.int (zi ((k : Int))), va_rf (paV σ a k), .ref (a 9 k), .int (zi (σ 3 k)), .int (zi (σ 4 k))]))] s.heap.size) (a 9 k) := z_nA (hI.lt (dOk_v (i := 9) (by omega) hk)) (fun h9 => by
    simp only [List.map, List.mem_cons, List.not_mem_nil, or_false] at h9
    rcases h9 with h9
    · exact dNe hI.inj (dOk_v (i := 9) (by omega) hk) (dOk_v (i := 8) (by omega) hk) (by omega) h9)
  refine lv_aload_n hx hb dX3_handIn_0 rfl (lv_at hl 0 rfl) ?_
  refine lv_iload_n hx hb dX3_handIn_1 rfl (lv_at hl 1 rfl) ?_
  refine rq_V (rest := []) (As := [.int (zi (zk))]) ⟨hx, hb, hml, hown, hts⟩ (c_X3_findVersion l g σ a hW k hk (zk) (by omega)) (cwV 1 hts gX3_handIn_X3_findVersion rfl rfl rfl (by decide +kernel) ⟨Nat.le_of_ble_eq_true rfl, Nat.le_of_ble_eq_true rfl⟩) (z_recv hK (z_stay hI.ob hS nD) rfl) hI hK rfl hl.1 rfl (Nat.le_of_ble_eq_true rfl) dX3_handIn_2 ⟨Nat.le_of_ble_eq_true rfl, Nat.le_of_ble_eq_true rfl⟩ ?_
  refine lv_astore_n (lv' := [(2, .ref (a 8 k)), (0, .ref (a 1 0)), (1, .int (zi (zk)))]) hx hb dX3_handIn_5 rfl hl (by decide) rfl (fun ls hl => ?_)
  refine lv_aload_n hx hb dX3_handIn_6 rfl (lv_at hl 0 rfl) ?_
  refine lv_aload_n hx hb dX3_handIn_7 rfl (lv_at hl 1 rfl) ?_
  refine lv_aload_n hx hb dX3_handIn_8 rfl (lv_at hl 0 rfl) ?_
  refine z_getN (C := RX2) (T := TX2) (N := 5) (ref := "HarmoniumDesk$Version") (host := RX3) hx hb hts hiX2 hown hK (hP 0 _ rfl) rfl 2 (by decide) (by decide +kernel) rfl rfl dX3_handIn_9 ?_
  refine ro_V (rest := [.ref (a 8 k)]) (As := [.ref (a 9 k)]) ⟨hx, hb, hml, hown, hts⟩ (c_X3_markOf l g σ a hW (a 9 k) (a 10 k) (a 11 k) (σ 1 k) uk lk nuk nlk (σ 1 k).toNat (by omega) (by omega) (MK σ k) (by unfold MK; rw [← wfs_CS (fun b hb => eqk b (by omega))])) (cwV 1 hts gX3_handIn_X3_markOf rfl rfl rfl (by decide +kernel) ⟨Nat.le_of_ble_eq_true rfl, Nat.le_of_ble_eq_true rfl⟩) (z_recv hK (z_stay hI.ob hS nD) rfl) ⟨hI.ob, hI.wt, hsk⟩ hK rfl hl.1 rfl (Nat.le_of_ble_eq_true rfl) dX3_handIn_12 ⟨Nat.le_of_ble_eq_true rfl, Nat.le_of_ble_eq_true rfl⟩ ?_
  refine lv_aload_n hx hb dX3_handIn_15 rfl (lv_at hl 1 rfl) ?_
  refine z_get (C := RX3) (T := TX3) (N := 7) hx hb hts hiX3 hown hK (z_stay hI.ob hS nD) rfl 5 (by decide) (hts (.fieldLink RX3 32 "HarmoniumDesk" "passMark" "I") (by decide +kernel)) rfl rfl dX3_handIn_16 ?_
  refine z_icmp_lt (tgt := 26) hx hb dX3_handIn_19 (by decide) (by omega) (by omega) (fun h19 => ?_) (fun h19 => ?_)
  ·
    refine z_iconst hx hb dX3_handIn_26 ?_
    refine z_top (b := pz (σ 7 0 ≤ MK σ k)) ((pz_f (by omega)).symm) ?_
    refine z_putN (v := .int (zi (pz (σ 7 0 ≤ MK σ k)))) (C := RX2) (T := TX2) (N := 5) (ref := "HarmoniumDesk$Version") (host := RX3) hx hb hts hiX2 tyX2 tyX2_ok nmX2 hown hK hP hD hS 0 rfl rfl 4 (by decide) (by decide +kernel) rfl rfl (zi_bool _) (zi_fitb _) (Nat.le_of_ble_eq_true rfl) dX3_handIn_27 (fun H locs hP hD hS => ?_)
    have hP : va_P g.1 vwCl [((a 8 k), .inr (2, [.int (zi ((k : Int))), va_rf (paV σ a k), .ref (a 9 k), .int (zi (σ 3 k)), .int (zi (pz (σ 7 0 ≤ MK σ k)))]))] H := hP
    have hD : va_D (va_A [((a 8 k), .inr (2, [.int (zi ((k : Int))), va_rf (paV σ a k), .ref (a 9 k), .int (zi (σ 3 k)), .int (zi (σ 4 k))]))] s.heap.size) [((a 8 k), .inr (2, [.int (zi ((k : Int))), va_rf (paV σ a k), .ref (a 9 k), .int (zi (σ 3 k)), .int (zi (pz (σ 7 0 ≤ MK σ k)))]))] := hD
    refine lv_aload_n hx hb dX3_handIn_30 rfl (lv_at hl 0 rfl) ?_
    refine z_getN (C := RX2) (T := TX2) (N := 5) (ref := "HarmoniumDesk$Version") (host := RX3) hx hb hts hiX2 hown hK (hP 0 _ rfl) rfl 4 (by decide) (by decide +kernel) rfl rfl dX3_handIn_31 ?_
    exact z_dwzret (a) hx hb hr hlk dX3_handIn_34 ((by have := pz_b (σ 7 0 ≤ MK σ k); omega)) (rfl) (DI.handIn' hk hI hS (hP 0 _ rfl)) (DE_same rfl rfl) hfA hS
  ·
    refine z_iconst hx hb dX3_handIn_22 ?_
    refine z_top (b := pz (σ 7 0 ≤ MK σ k)) ((pz_t (by omega)).symm) ?_
    refine lv_goto (tgt := 27) hx hb dX3_handIn_23 (by decide) ?_
    refine z_putN (v := .int (zi (pz (σ 7 0 ≤ MK σ k)))) (C := RX2) (T := TX2) (N := 5) (ref := "HarmoniumDesk$Version") (host := RX3) hx hb hts hiX2 tyX2 tyX2_ok nmX2 hown hK hP hD hS 0 rfl rfl 4 (by decide) (by decide +kernel) rfl rfl (zi_bool _) (zi_fitb _) (Nat.le_of_ble_eq_true rfl) dX3_handIn_27 (fun H locs hP hD hS => ?_)
    have hP : va_P g.1 vwCl [((a 8 k), .inr (2, [.int (zi ((k : Int))), va_rf (paV σ a k), .ref (a 9 k), .int (zi (σ 3 k)), .int (zi (pz (σ 7 0 ≤ MK σ k)))]))] H := hP
    have hD : va_D (va_A [((a 8 k), .inr (2, [.int (zi ((k : Int))), va_rf (paV σ a k), .ref (a 9 k), .int (zi (σ 3 k)), .int (zi (σ 4 k))]))] s.heap.size) [((a 8 k), .inr (2, [.int (zi ((k : Int))), va_rf (paV σ a k), .ref (a 9 k), .int (zi (σ 3 k)), .int (zi (pz (σ 7 0 ≤ MK σ k)))]))] := hD
    refine lv_aload_n hx hb dX3_handIn_30 rfl (lv_at hl 0 rfl) ?_
    refine z_getN (C := RX2) (T := TX2) (N := 5) (ref := "HarmoniumDesk$Version") (host := RX3) hx hb hts hiX2 hown hK (hP 0 _ rfl) rfl 4 (by decide) (by decide +kernel) rfl rfl dX3_handIn_31 ?_
    exact z_dwzret (a) hx hb hr hlk dX3_handIn_34 ((by have := pz_b (σ 7 0 ≤ MK σ k); omega)) (rfl) (DI.handIn' hk hI hS (hP 0 _ rfl)) (DE_same rfl rfl) hfA hS

set_option maxHeartbeats 4000000 in
set_option maxRecDepth 100000 in
theorem c_X3_setNote_0 (l : Launch) (g : gG) (σ : SG) (a : AD) (hW : WF σ) (k : Nat) (hk : (k : Int) < σ 0 0) (zk : Int) (hzk : zk = (k : Int)) (v : Nat) (hv1 : v ≤ 1) (zv : Int) (hzv : zv = (v : Int)) (b : Nat) (hbb : (b : Int) < σ 1 k) (zb : Int) (hzb : zb = (b : Int)) (t : Int) (hg2 : 0 ≤ t ∧ t ≤ 40) (hfx : σ 3 k = 0) (sz : Nat) : DW l yX3_setNote wsX3_setNote ({ frames := 1, cells := 0, slots := 0, locals := 24 }) g [.int (zi (zk)), .int (zi (zv)), .int (zi (zb)), .int (zi (t))] sz σ a (opN σ k v b t) (NV σ k v b) 0 0 := by
  refine ZM.ofW (cc := cX3_setNote) (maxL := 7) (ret := (some .int)) (by decide) rfl (Nat.le_of_ble_eq_true rfl) ?_
  intro p e s m below meth c ls hx hb hr hml hown hts hlk hP hK hl hin
  obtain ⟨rfl, hI⟩ := hP
  have hn := hW.n
  have hbk := hW.bars hk
  obtain ⟨uk, lk, hsk, nuk, nlk, eqk⟩ := (hI.vk hk).2
  have nd01 : (a 9 k) ≠ (a 10 k) := dNe hI.inj (dOk_v (i := 9) (by omega) hk) (dOk_v (i := 10) (by omega) hk) (by omega)
  have nd02 : (a 9 k) ≠ (a 11 k) := dNe hI.inj (dOk_v (i := 9) (by omega) hk) (dOk_v (i := 11) (by omega) hk) (by omega)
  have nd12 : (a 10 k) ≠ (a 11 k) := dNe hI.inj (dOk_v (i := 10) (by omega) hk) (dOk_v (i := 11) (by omega) hk) (by omega)
  have hP := hsk.W
  have hP : va_P g.1 vwCl [((a 9 k), .inr (1, [.int (zi (σ 1 k)), .ref (a 10 k), .ref (a 11 k)])), ((a 10 k), .inl (g.2.1, 12, .inl (fun j9 => zi ((uk) j9)))), ((a 11 k), .inl (g.2.1, 12, .inl (fun j9 => zi ((lk) j9))))] s.heap := hP
  have hD : va_D (va_A [((a 9 k), .inr (1, [.int (zi (σ 1 k)), .ref (a 10 k), .ref (a 11 k)])), ((a 10 k), .inl (g.2.1, 12, .inl (fun j9 => zi ((uk) j9)))), ((a 11 k), .inl (g.2.1, 12, .inl (fun j9 => zi ((lk) j9))))] s.heap.size) [((a 9 k), .inr (1, [.int (zi (σ 1 k)), .ref (a 10 k), .ref (a 11 k)])), ((a 10 k), .inl (g.2.1, 12, .inl (fun j9 => zi ((uk) j9)))), ((a 11 k), .inl (g.2.1, 12, .inl (fun j9 => zi ((lk) j9))))] := z_Dn (by simp [nd01, nd02, nd12])
  have hS : va_S (va_A [((a 9 k), .inr (1, [.int (zi (σ 1 k)), .ref (a 10 k), .ref (a 11 k)])), ((a 10 k), .inl (g.2.1, 12, .inl (fun j9 => zi ((uk) j9)))), ((a 11 k), .inl (g.2.1, 12, .inl (fun j9 => zi ((lk) j9))))] s.heap.size) s.heap s.heap [] := va_S.rf
  have hA : ∀ x9 : Nat, s.heap.size ≤ x9 → (va_A [((a 9 k), .inr (1, [.int (zi (σ 1 k)), .ref (a 10 k), .ref (a 11 k)])), ((a 10 k), .inl (g.2.1, 12, .inl (fun j9 => zi ((uk) j9)))), ((a 11 k), .inl (g.2.1, 12, .inl (fun j9 => zi ((lk) j9))))] s.heap.size) x9 := fun _ h => Or.inr h
  have hown : s.vm.findClass RX3 = some m.cls := hown
  have hl : lv_has ls 7 [(0, .ref (a 1 0)), (1, .int (zi (zk))), (2, .int (zi (zv))), (3, .int (zi (zb))), (4, .int (zi (t)))] := hl
  have hiX2 : ∀ w ∈ u_ws RX2 TX2 5, w ∈ wsX3_setNote := by decide +kernel
  have hfA : ∀ x9, va_A [((a 9 k), .inr (1, [.int (zi (σ 1 k)), .ref (a 10 k), .ref (a 11 k)])), ((a 10 k), .inl (g.2.1, 12, .inl (fun j9 => zi ((uk) j9)))), ((a 11 k), .inl (g.2.1, 12, .inl (fun j9 => zi ((lk) j9))))] s.heap.size x9 → dA σ a s.heap.size x9 := dA_of (fun x9 h9 => by
    simp only [List.map, List.mem_cons, List.not_mem_nil, or_false] at h9
    rcases h9 with rfl | rfl | rfl
    · exact ⟨9, k, (dOk_v (i := 9) (by omega) hk), rfl⟩
    · exact ⟨10, k, (dOk_v (i := 10) (by omega) hk), rfl⟩
    · exact ⟨11, k, (dOk_v (i := 11) (by omega) hk), rfl⟩)
  have hve : ∀ b : Nat, (b : Int) < σ 1 k → ((v : Int) = 0 → NV σ k v b = uk b) ∧ (¬ (v : Int) = 0 → NV σ k v b = lk b) := fun b hb => ⟨fun h => by rw [show v = 0 by omega, NV_0]; exact ((eqk b hb).1).symm, fun h => by rw [show v = 1 by omega, NV_1]; exact ((eqk b hb).2).symm⟩
  have nu9 : Nt (if (v : Int) = 0 then va_up uk b t else uk) := by split; exact nuk.up b hg2; exact nuk
  have nl9 : Nt (if (v : Int) = 0 then lk else va_up lk b t) := by split; exact nlk; exact nlk.up b hg2
  have hcc : ∀ x : Nat, (x : Int) < σ 1 k → (if (v : Int) = 0 then va_up uk b t else uk) x = NU (opN σ k v b t) k x ∧ (if (v : Int) = 0 then lk else va_up lk b t) x = NL (opN σ k v b t) k x := fun x hx => by
    rw [← NV_0, ← NV_1, NV_opN hv1 (by omega) k 0 x (by omega) (by omega), NV_opN hv1 (by omega) k 1 x (by omega) (by omega), NV_0, NV_1]
    have e1 := eqk x hx
    by_cases h0 : (v : Int) = 0
    · rw [if_pos h0, if_pos h0, if_neg (c := k = k ∧ 1 = v ∧ x = b) (by omega)]
      refine ⟨?_, e1.2⟩
      by_cases hx2 : x = b
      · subst hx2; rw [va_up_s, if_pos (by omega)]
      · rw [va_up_o hx2, if_neg (by omega)]; exact e1.1
    · rw [if_neg h0, if_neg h0, if_neg (c := k = k ∧ 0 = v ∧ x = b) (by omega)]
      refine ⟨e1.1, ?_⟩
      by_cases hx2 : x = b
      · subst hx2; rw [va_up_s, if_pos (by omega)]
      · rw [va_up_o hx2, if_neg (by omega)]; exact e1.2
  have n8 : ¬ (va_A [((a 9 k), .inr (1, [.int (zi (σ 1 k)), .ref (a 10 k), .ref (a 11 k)])), ((a 10 k), .inl (g.2.1, 12, .inl (fun j9 => zi ((uk) j9)))), ((a 11 k), .inl (g.2.1, 12, .inl (fun j9 => zi ((lk) j9))))] s.heap.size) (a 8 k) := z_nA (hI.lt (dOk_v (i := 8) (by omega) hk)) (fun h9 => by
    simp only [List.map, List.mem_cons, List.not_mem_nil, or_false] at h9
    rcases h9 with h9 | h9 | h9
    · exact dNe hI.inj (dOk_v (i := 8) (by omega) hk) (dOk_v (i := 9) (by omega) hk) (by omega) h9
    · exact dNe hI.inj (dOk_v (i := 8) (by omega) hk) (dOk_v (i := 10) (by omega) hk) (by omega) h9
    · exact dNe hI.inj (dOk_v (i := 8) (by omega) hk) (dOk_v (i := 11) (by omega) hk) (by omega) h9)
  have nD : ¬ (va_A [((a 9 k), .inr (1, [.int (zi (σ 1 k)), .ref (a 10 k), .ref (a 11 k)])), ((a 10 k), .inl (g.2.1, 12, .inl (fun j9 => zi ((uk) j9)))), ((a 11 k), .inl (g.2.1, 12, .inl (fun j9 => zi ((lk) j9))))] s.heap.size) (a 1 0) := z_nA (hI.lt (dOk_0 σ (i := 1) (by omega))) (fun h9 => by
    simp only [List.map, List.mem_cons, List.not_mem_nil, or_false] at h9
    rcases h9 with h9 | h9 | h9
    · exact dNe hI.inj (dOk_0 σ (i := 1) (by omega)) (dOk_v (i := 9) (by omega) hk) (by omega) h9
    · exact dNe hI.inj (dOk_0 σ (i := 1) (by omega)) (dOk_v (i := 10) (by omega) hk) (by omega) h9
    · exact dNe hI.inj (dOk_0 σ (i := 1) (by omega)) (dOk_v (i := 11) (by omega) hk) (by omega) h9)
  refine lv_aload_n hx hb dX3_setNote_0 rfl (lv_at hl 0 rfl) ?_
  refine lv_iload_n hx hb dX3_setNote_1 rfl (lv_at hl 1 rfl) ?_
  refine rq_V (rest := []) (As := [.int (zi (zk))]) ⟨hx, hb, hml, hown, hts⟩ (c_X3_findVersion l g σ a hW k hk (zk) (by omega)) (cwV 1 hts gX3_setNote_X3_findVersion rfl rfl rfl (by decide +kernel) ⟨Nat.le_of_ble_eq_true rfl, Nat.le_of_ble_eq_true rfl⟩) (z_recv hK (z_stay hI.ob hS nD) rfl) hI hK rfl hl.1 rfl (Nat.le_of_ble_eq_true rfl) dX3_setNote_2 ⟨Nat.le_of_ble_eq_true rfl, Nat.le_of_ble_eq_true rfl⟩ ?_
  refine lv_astore (lv' := [(5, .ref (a 8 k)), (0, .ref (a 1 0)), (1, .int (zi (zk))), (2, .int (zi (zv))), (3, .int (zi (zb))), (4, .int (zi (t)))]) hx hb dX3_setNote_5 hl (by decide) rfl (fun ls hl => ?_)
  refine lv_iload_n hx hb dX3_setNote_7 rfl (lv_at hl 3 rfl) ?_
  refine rv_S (rest := []) (As := [.int (zi (zv))]) ⟨hx, hb, hml, hown, hts⟩ (c_X3_checkVoice l g (zv) (by omega)) (cwS 1 hts gX3_setNote_X3_checkVoice rfl rfl rfl (by decide +kernel) ⟨Nat.le_of_ble_eq_true rfl, Nat.le_of_ble_eq_true rfl⟩) trivial hK rfl hl.1 rfl (Nat.le_of_ble_eq_true rfl) dX3_setNote_8 ⟨Nat.le_of_ble_eq_true rfl, Nat.le_of_ble_eq_true rfl⟩ ?_
  refine lv_aload hx hb dX3_setNote_11 (lv_at hl 0 rfl) ?_
  refine lv_iload_n hx hb dX3_setNote_13 rfl (lv_at hl 4 rfl) ?_
  refine rv_S (rest := []) (As := [.ref (a 8 k), .int (zi (zb))]) ⟨hx, hb, hml, hown, hts⟩ (c_X3_checkBar l g σ a hW k hk b hbb (zb) (by omega)) (cwS 2 hts gX3_setNote_X3_checkBar rfl rfl rfl (by decide +kernel) ⟨Nat.le_of_ble_eq_true rfl, Nat.le_of_ble_eq_true rfl⟩) hI hK rfl hl.1 rfl (Nat.le_of_ble_eq_true rfl) dX3_setNote_14 ⟨Nat.le_of_ble_eq_true rfl, Nat.le_of_ble_eq_true rfl⟩ ?_
  refine lv_iload hx hb dX3_setNote_17 (lv_at hl 5 rfl) ?_
  refine z_if_lt (tgt := 29) hx hb dX3_setNote_19 (by decide) (by omega) (fun h19 => ?_) (fun h19 => ?_)
  · exfalso; omega
  ·
    refine lv_iload hx hb dX3_setNote_22 (lv_at hl 5 rfl) ?_
    refine z_bipush hx hb dX3_setNote_24 (by decide) ?_
    refine z_icmp_le (tgt := 39) hx hb dX3_setNote_26 (by decide) (by omega) (by omega) (fun h26 => ?_) (fun h26 => ?_)
    ·
      refine lv_aload hx hb dX3_setNote_39 (lv_at hl 0 rfl) ?_
      refine z_getN (C := RX2) (T := TX2) (N := 5) (ref := "HarmoniumDesk$Version") (host := RX3) hx hb hts hiX2 hown hK (z_stay (hI.vk hk).1 hS n8) rfl 3 (by decide) (by decide +kernel) rfl rfl dX3_setNote_41 ?_
      refine z_if_eq (tgt := 57) hx hb dX3_setNote_44 (by decide) (by omega) (fun h44 => ?_) (fun h44 => ?_)
      ·
        refine lv_aload hx hb dX3_setNote_57 (lv_at hl 0 rfl) ?_
        refine z_getN (C := RX2) (T := TX2) (N := 5) (ref := "HarmoniumDesk$Version") (host := RX3) hx hb hts hiX2 hown hK (z_stay (hI.vk hk).1 hS n8) rfl 2 (by decide) (by decide +kernel) rfl rfl dX3_setNote_59 ?_
        refine lv_iload_n hx hb dX3_setNote_62 rfl (lv_at hl 3 rfl) ?_
        refine lv_iload_n hx hb dX3_setNote_63 rfl (lv_at hl 4 rfl) ?_
        refine ro_V (rest := []) (As := [.int (zi (zv)), .int (zi (zb))]) ⟨hx, hb, hml, hown, hts⟩ (c_X1_tone l g (a 9 k) (a 10 k) (a 11 k) (σ 1 k) uk lk nuk nlk (zv) (by omega) b (by omega) (zb) (by omega) (NV σ k v b) (fun h => (hve b hbb).1 (by omega)) (fun h => (hve b hbb).2 (by omega))) (cwV 2 hts gX3_setNote_X1_tone rfl rfl rfl (by decide +kernel) ⟨Nat.le_of_ble_eq_true rfl, Nat.le_of_ble_eq_true rfl⟩) (z_recv hK (hP 0 _ rfl) rfl) hsk hK rfl hl.1 rfl (Nat.le_of_ble_eq_true rfl) dX3_setNote_64 ⟨Nat.le_of_ble_eq_true rfl, Nat.le_of_ble_eq_true rfl⟩ ?_
        refine lv_istore (lv' := [(6, .int (zi (NV σ k v b))), (5, .ref (a 8 k)), (0, .ref (a 1 0)), (1, .int (zi (zk))), (2, .int (zi (zv))), (3, .int (zi (zb))), (4, .int (zi (t)))]) hx hb dX3_setNote_67 hl (by decide) rfl (fun ls hl => ?_)
        refine lv_aload hx hb dX3_setNote_69 (lv_at hl 1 rfl) ?_
        refine z_getN (C := RX2) (T := TX2) (N := 5) (ref := "HarmoniumDesk$Version") (host := RX3) hx hb hts hiX2 hown hK (z_stay (hI.vk hk).1 hS n8) rfl 2 (by decide) (by decide +kernel) rfl rfl dX3_setNote_71 ?_
        refine lv_iload_n hx hb dX3_setNote_74 rfl (lv_at hl 4 rfl) ?_
        refine lv_iload_n hx hb dX3_setNote_75 rfl (lv_at hl 5 rfl) ?_
        refine lv_iload hx hb dX3_setNote_76 (lv_at hl 6 rfl) ?_
        have hS0 := hS
        refine wv_V (rest := []) (As := [.int (zi (zv)), .int (zi (zb)), .int (zi (t))]) ⟨hx, hb, hml, hown, hts⟩ (c_X1_setTone l g (a 9 k) (a 10 k) (a 11 k) (σ 1 k) uk lk ⟨nd01, nd02, nd12⟩ (zv) (by omega) b (by omega) (zb) (by omega) (t) (if (v : Int) = 0 then va_up uk b t else uk) (if (v : Int) = 0 then lk else va_up lk b t) (fun h => ⟨if_pos (by omega), if_pos (by omega)⟩) (fun h => ⟨if_neg (by omega), if_neg (by omega)⟩) _) (cwV 3 hts gX3_setNote_X1_setTone rfl rfl rfl (by decide +kernel) ⟨Nat.le_of_ble_eq_true rfl, Nat.le_of_ble_eq_true rfl⟩) (z_recv hK (hP 0 _ rfl) rfl) (hP.sub [0, 1, 2] rfl) trivial hK rfl hl.1 rfl (Nat.le_of_ble_eq_true rfl) dX3_setNote_78 ⟨Nat.le_of_ble_eq_true rfl, Nat.le_of_ble_eq_true rfl⟩ hS (va_free hD hS hA [0, 1, 2] rfl) (fun H1 locs hP1 hz1 hk1 hS => ?_)
        have hD1 : ∀ z9, va_D (va_A [((a 9 k), .inr (1, [.int (zi (σ 1 k)), .ref (a 10 k), .ref (a 11 k)])), ((a 10 k), .inl (g.2.1, 12, .inl (fun j9 => zi ((uk) j9)))), ((a 11 k), .inl (g.2.1, 12, .inl (fun j9 => zi ((lk) j9))))] z9) [((a 9 k), .inr (1, [.int (zi (σ 1 k)), .ref (a 10 k), .ref (a 11 k)])), ((a 10 k), .inl (g.2.1, 12, .inl (fun j9 => zi (((if (v : Int) = 0 then va_up uk b t else uk)) j9)))), ((a 11 k), .inl (g.2.1, 12, .inl (fun j9 => zi (((if (v : Int) = 0 then lk else va_up lk b t)) j9))))] := fun _ => z_D (hD.sub (ws' := [((a 9 k), .inr (1, [.int (zi (σ 1 k)), .ref (a 10 k), .ref (a 11 k)])), ((a 10 k), .inl (g.2.1, 12, .inl (fun j9 => zi ((uk) j9)))), ((a 11 k), .inl (g.2.1, 12, .inl (fun j9 => zi ((lk) j9))))]) [0, 1, 2] (by decide) rfl).self rfl
        obtain ⟨hP, hD⟩ := va_join (wr := []) (w1 := [((a 9 k), .inr (1, [.int (zi (σ 1 k)), .ref (a 10 k), .ref (a 11 k)])), ((a 10 k), .inl (g.2.1, 12, .inl (fun j9 => zi (((if (v : Int) = 0 then va_up uk b t else uk)) j9)))), ((a 11 k), .inl (g.2.1, 12, .inl (fun j9 => zi (((if (v : Int) = 0 then lk else va_up lk b t)) j9))))]) hP hD [0, 1, 2] [] rfl rfl (by decide) (by decide) hk1 (va_free hD hS0 hA [0, 1, 2] rfl) hP1 (hD1 _)
        generalize H1 = H at hP hS ⊢
        have hP : va_P g.1 vwCl [((a 9 k), .inr (1, [.int (zi (σ 1 k)), .ref (a 10 k), .ref (a 11 k)])), ((a 10 k), .inl (g.2.1, 12, .inl (fun j9 => zi (((if (v : Int) = 0 then va_up uk b t else uk)) j9)))), ((a 11 k), .inl (g.2.1, 12, .inl (fun j9 => zi (((if (v : Int) = 0 then lk else va_up lk b t)) j9))))] H := hP
        have hD : va_D (va_A [((a 9 k), .inr (1, [.int (zi (σ 1 k)), .ref (a 10 k), .ref (a 11 k)])), ((a 10 k), .inl (g.2.1, 12, .inl (fun j9 => zi ((uk) j9)))), ((a 11 k), .inl (g.2.1, 12, .inl (fun j9 => zi ((lk) j9))))] s.heap.size) [((a 9 k), .inr (1, [.int (zi (σ 1 k)), .ref (a 10 k), .ref (a 11 k)])), ((a 10 k), .inl (g.2.1, 12, .inl (fun j9 => zi (((if (v : Int) = 0 then va_up uk b t else uk)) j9)))), ((a 11 k), .inl (g.2.1, 12, .inl (fun j9 => zi (((if (v : Int) = 0 then lk else va_up lk b t)) j9))))] := hD
        refine lv_iload hx hb dX3_setNote_81 (lv_at hl 0 rfl) ?_
        exact z_dwret (a) hx hb hr hlk dX3_setNote_83 (rfl) (hI.setNote hk hv1 (by omega) (by omega) (fun i hi => (hW.bars hi).2) hg2 hS ⟨hP 0 _ rfl, hP 1 _ rfl, hP 2 _ rfl⟩ nu9 nl9 hcc) (DE_same rfl rfl) hfA hS
      · exfalso; omega
    · exfalso; omega

set_option maxHeartbeats 4000000 in
set_option maxRecDepth 100000 in
theorem c_X3_begin_0 (l : Launch) (g : gG) (σ : SG) (a : AD) (hW : WF σ) (b : Int) (hg : 1 ≤ b ∧ b ≤ 12) (N : Nat) (hN : σ 0 0 = (N : Int)) (hnf : N < 30)  (sz : Nat) : DW l yX3_begin wsX3_begin ({ frames := 4, cells := 4, slots := 32, locals := 76 }) g [.int (zi (b))] sz σ a (opB σ N b) ((N : Int)) 4 32 := by
  refine ZM.ofW (cc := cX3_begin) (maxL := 3) (ret := (some .int)) (by decide) rfl (Nat.le_of_ble_eq_true rfl) ?_
  intro p e s m below meth c ls hx hb hr hml hown hts hlk hP hK hl hin
  obtain ⟨rfl, hI⟩ := hP
  have hn := hW.n
  obtain ⟨nb, hnb2⟩ : ∃ nb : Nat, b = (nb : Int) := ⟨b.toNat, by omega⟩
  have nd01 : (a 1 0) ≠ (a 2 0) := dNe hI.inj (dOk_0 σ (i := 1) (by omega)) (dOk_0 σ (i := 2) (by omega)) (by omega)
  have hP := z_cons hI.ob (z_cons hI.vs z_nil)
  have hP : va_P g.1 vwCl [((a 1 0), .inr (3, [.ref (a 2 0), .int (zi (σ 0 0)), .ref (a 3 0), .int (zi (σ 8 0)), .ref (a 4 0), .int (zi (σ 7 0)), .ref (a 5 0)])), ((a 2 0), .inl (g.2.2.2.1, 30, .inr (.inr (.inr (.inr (vsF σ a))))))] s.heap := hP
  have hD : va_D (va_A [((a 1 0), .inr (3, [.ref (a 2 0), .int (zi (σ 0 0)), .ref (a 3 0), .int (zi (σ 8 0)), .ref (a 4 0), .int (zi (σ 7 0)), .ref (a 5 0)])), ((a 2 0), .inl (g.2.2.2.1, 30, .inr (.inr (.inr (.inr (vsF σ a))))))] s.heap.size) [((a 1 0), .inr (3, [.ref (a 2 0), .int (zi (σ 0 0)), .ref (a 3 0), .int (zi (σ 8 0)), .ref (a 4 0), .int (zi (σ 7 0)), .ref (a 5 0)])), ((a 2 0), .inl (g.2.2.2.1, 30, .inr (.inr (.inr (.inr (vsF σ a))))))] := z_Dn (by simp [nd01])
  have hS : va_S (va_A [((a 1 0), .inr (3, [.ref (a 2 0), .int (zi (σ 0 0)), .ref (a 3 0), .int (zi (σ 8 0)), .ref (a 4 0), .int (zi (σ 7 0)), .ref (a 5 0)])), ((a 2 0), .inl (g.2.2.2.1, 30, .inr (.inr (.inr (.inr (vsF σ a))))))] s.heap.size) s.heap s.heap [] := va_S.rf
  have hA : ∀ x9 : Nat, s.heap.size ≤ x9 → (va_A [((a 1 0), .inr (3, [.ref (a 2 0), .int (zi (σ 0 0)), .ref (a 3 0), .int (zi (σ 8 0)), .ref (a 4 0), .int (zi (σ 7 0)), .ref (a 5 0)])), ((a 2 0), .inl (g.2.2.2.1, 30, .inr (.inr (.inr (.inr (vsF σ a))))))] s.heap.size) x9 := fun _ h => Or.inr h
  have hown : s.vm.findClass RX3 = some m.cls := hown
  have hl : lv_has ls 3 [(0, .ref (a 1 0)), (1, .int (zi (b)))] := hl
  have hiX2 : ∀ w ∈ u_ws RX2 TX2 5, w ∈ wsX3_begin := by decide +kernel
  have hfA : ∀ x9, va_A [((a 1 0), .inr (3, [.ref (a 2 0), .int (zi (σ 0 0)), .ref (a 3 0), .int (zi (σ 8 0)), .ref (a 4 0), .int (zi (σ 7 0)), .ref (a 5 0)])), ((a 2 0), .inl (g.2.2.2.1, 30, .inr (.inr (.inr (.inr (vsF σ a))))))] s.heap.size x9 → dA σ a s.heap.size x9 := dA_of (fun x9 h9 => by
    simp only [List.map, List.mem_cons, List.not_mem_nil, or_false] at h9
    rcases h9 with rfl | rfl
    · exact ⟨1, 0, (dOk_0 σ (i := 1) (by omega)), rfl⟩
    · exact ⟨2, 0, (dOk_0 σ (i := 2) (by omega)), rfl⟩)
  refine lv_iload_n hx hb dX3_begin_0 rfl (lv_at hl 1 rfl) ?_
  refine z_iconst hx hb dX3_begin_1 ?_
  refine z_icmp_lt (tgt := 11) hx hb dX3_begin_2 (by decide) (by omega) (by omega) (fun h2 => ?_) (fun h2 => ?_)
  · exfalso; omega
  ·
    refine lv_iload_n hx hb dX3_begin_5 rfl (lv_at hl 1 rfl) ?_
    refine z_bipush hx hb dX3_begin_6 (by decide) ?_
    refine z_icmp_le (tgt := 21) hx hb dX3_begin_8 (by decide) (by omega) (by omega) (fun h8 => ?_) (fun h8 => ?_)
    ·
      refine lv_aload_n hx hb dX3_begin_21 rfl (lv_at hl 0 rfl) ?_
      refine lv_null hx hb dX3_begin_22 ?_
      have hS0 := hS
      refine wr_V (rest := []) (As := [.null]) ⟨hx, hb, hml, hown, hts⟩ (c_X3_addVersion_n l g σ a N hN hnf nd01 _) (cwV 1 hts gX3_begin_X3_addVersion rfl rfl rfl (by decide +kernel) ⟨Nat.le_of_ble_eq_true rfl, Nat.le_of_ble_eq_true rfl⟩) (z_recv hK (hP 0 _ rfl) rfl) (hP.sub [0, 1] rfl) trivial hK rfl hl.1 rfl (Nat.le_of_ble_eq_true rfl) dX3_begin_23 ⟨Nat.le_of_ble_eq_true rfl, Nat.le_of_ble_eq_true rfl⟩ hS (va_free hD hS hA [0, 1] rfl) (fun u23 q23 H1 locs hP1 hD1 hz1 hk1 hS => ?_)
      obtain ⟨s9, u9, l9⟩ := u23
      obtain ⟨hP, hD⟩ := va_join (wr := []) (w1 := [((a 1 0), .inr (3, [.ref (a 2 0), .int (zi (((N + 1 : Nat) : Int))), .ref (a 3 0), .int (zi (σ 8 0)), .ref (a 4 0), .int (zi (σ 7 0)), .ref (a 5 0)])), ((a 2 0), .inl (g.2.2.2.1, 30, .inr (.inr (.inr (.inr (va_up (vsF σ a) N (some q23))))))), (q23, .inr (2, [.int (zi ((N : Int))), .null, .ref s9, .int (zi (0)), .int (zi (0))])), (s9, .inr (1, [.int (zi (0)), .ref u9, .ref l9])), (u9, .inl (g.2.1, 12, .inl (fun j9 => zi ((fun _ => 0) j9)))), (l9, .inl (g.2.1, 12, .inl (fun j9 => zi ((fun _ => 0) j9))))]) hP hD [0, 1] [] rfl rfl (by decide) (by decide) hk1 (va_free hD hS0 hA [0, 1] rfl) hP1 hD1
      generalize H1 = H at hP hS ⊢
      have hP : va_P g.1 vwCl [((a 1 0), .inr (3, [.ref (a 2 0), .int (zi (((N + 1 : Nat) : Int))), .ref (a 3 0), .int (zi (σ 8 0)), .ref (a 4 0), .int (zi (σ 7 0)), .ref (a 5 0)])), ((a 2 0), .inl (g.2.2.2.1, 30, .inr (.inr (.inr (.inr (va_up (vsF σ a) N (some q23))))))), (q23, .inr (2, [.int (zi ((N : Int))), .null, .ref s9, .int (zi (0)), .int (zi (0))])), (s9, .inr (1, [.int (zi (0)), .ref u9, .ref l9])), (u9, .inl (g.2.1, 12, .inl (fun j9 => zi ((fun _ => 0) j9)))), (l9, .inl (g.2.1, 12, .inl (fun j9 => zi ((fun _ => 0) j9))))] H := hP
      have hD : va_D (va_A [((a 1 0), .inr (3, [.ref (a 2 0), .int (zi (σ 0 0)), .ref (a 3 0), .int (zi (σ 8 0)), .ref (a 4 0), .int (zi (σ 7 0)), .ref (a 5 0)])), ((a 2 0), .inl (g.2.2.2.1, 30, .inr (.inr (.inr (.inr (vsF σ a))))))] s.heap.size) [((a 1 0), .inr (3, [.ref (a 2 0), .int (zi (((N + 1 : Nat) : Int))), .ref (a 3 0), .int (zi (σ 8 0)), .ref (a 4 0), .int (zi (σ 7 0)), .ref (a 5 0)])), ((a 2 0), .inl (g.2.2.2.1, 30, .inr (.inr (.inr (.inr (va_up (vsF σ a) N (some q23))))))), (q23, .inr (2, [.int (zi ((N : Int))), .null, .ref s9, .int (zi (0)), .int (zi (0))])), (s9, .inr (1, [.int (zi (0)), .ref u9, .ref l9])), (u9, .inl (g.2.1, 12, .inl (fun j9 => zi ((fun _ => 0) j9)))), (l9, .inl (g.2.1, 12, .inl (fun j9 => zi ((fun _ => 0) j9))))] := hD
      refine W.widen (k := 4) (n := 32) (by omega) (by omega) ?_
      refine lv_astore_n (lv' := [(2, .ref q23), (0, .ref (a 1 0)), (1, .int (zi (b)))]) hx hb dX3_begin_26 rfl hl (by decide) rfl (fun ls hl => ?_)
      refine lv_aload_n hx hb dX3_begin_27 rfl (lv_at hl 0 rfl) ?_
      refine z_getN (C := RX2) (T := TX2) (N := 5) (ref := "HarmoniumDesk$Version") (host := RX3) hx hb hts hiX2 hown hK (hP 2 _ rfl) rfl 2 (by decide) (by decide +kernel) rfl rfl dX3_begin_28 ?_
      refine lv_iload_n hx hb dX3_begin_31 rfl (lv_at hl 2 rfl) ?_
      refine z_bipush hx hb dX3_begin_32 (by decide) ?_
      have hd9 : D3s s9 u9 l9 := ⟨z_ap hD (i := 3) (j := 4) rfl rfl (by decide), z_ap hD (i := 3) (j := 5) rfl rfl (by decide), z_ap hD (i := 4) (j := 5) rfl rfl (by decide)⟩
      have hS0 := hS
      refine wv_V (rest := []) (As := [.int (zi (b)), .int (zi (20))]) ⟨hx, hb, hml, hown, hts⟩ (c_X1_fill l g s9 u9 l9 0 (fun _ => 0) (fun _ => 0) hd9 nb (b) (by omega) (by omega) (20) _) (cwV 2 hts gX3_begin_X1_fill rfl rfl rfl (by decide +kernel) ⟨Nat.le_of_ble_eq_true rfl, Nat.le_of_ble_eq_true rfl⟩) (z_recv hK (hP 3 _ rfl) rfl) (hP.sub [3, 4, 5] rfl) trivial hK rfl hl.1 rfl (Nat.le_of_ble_eq_true rfl) dX3_begin_34 ⟨Nat.le_of_ble_eq_true rfl, Nat.le_of_ble_eq_true rfl⟩ hS (va_free hD hS hA [3, 4, 5] rfl) (fun H1 locs hP1 hz1 hk1 hS => ?_)
      have hD1 : ∀ z9, va_D (va_A [(s9, .inr (1, [.int (zi (0)), .ref u9, .ref l9])), (u9, .inl (g.2.1, 12, .inl (fun j9 => zi ((fun _ => 0) j9)))), (l9, .inl (g.2.1, 12, .inl (fun j9 => zi ((fun _ => 0) j9))))] z9) [(s9, .inr (1, [.int (zi (b)), .ref u9, .ref l9])), (u9, .inl (g.2.1, 12, .inl (fun j9 => zi ((mx nb (fun _ => 20) (fun _ => 0)) j9)))), (l9, .inl (g.2.1, 12, .inl (fun j9 => zi ((mx nb (fun _ => 20) (fun _ => 0)) j9))))] := fun _ => z_D (hD.sub (ws' := [(s9, .inr (1, [.int (zi (0)), .ref u9, .ref l9])), (u9, .inl (g.2.1, 12, .inl (fun j9 => zi ((fun _ => 0) j9)))), (l9, .inl (g.2.1, 12, .inl (fun j9 => zi ((fun _ => 0) j9))))]) [3, 4, 5] (by decide) rfl).self rfl
      obtain ⟨hP, hD⟩ := va_join (wr := [((a 1 0), .inr (3, [.ref (a 2 0), .int (zi (((N + 1 : Nat) : Int))), .ref (a 3 0), .int (zi (σ 8 0)), .ref (a 4 0), .int (zi (σ 7 0)), .ref (a 5 0)])), ((a 2 0), .inl (g.2.2.2.1, 30, .inr (.inr (.inr (.inr (va_up (vsF σ a) N (some q23))))))), (q23, .inr (2, [.int (zi ((N : Int))), .null, .ref s9, .int (zi (0)), .int (zi (0))]))]) (w1 := [(s9, .inr (1, [.int (zi (b)), .ref u9, .ref l9])), (u9, .inl (g.2.1, 12, .inl (fun j9 => zi ((mx nb (fun _ => 20) (fun _ => 0)) j9)))), (l9, .inl (g.2.1, 12, .inl (fun j9 => zi ((mx nb (fun _ => 20) (fun _ => 0)) j9))))]) hP hD [3, 4, 5] [0, 1, 2] rfl rfl (by decide) (by decide) hk1 (va_free hD hS0 hA [3, 4, 5] rfl) hP1 (hD1 _)
      generalize H1 = H at hP hS ⊢
      have hP : va_P g.1 vwCl [((a 1 0), .inr (3, [.ref (a 2 0), .int (zi (((N + 1 : Nat) : Int))), .ref (a 3 0), .int (zi (σ 8 0)), .ref (a 4 0), .int (zi (σ 7 0)), .ref (a 5 0)])), ((a 2 0), .inl (g.2.2.2.1, 30, .inr (.inr (.inr (.inr (va_up (vsF σ a) N (some q23))))))), (q23, .inr (2, [.int (zi ((N : Int))), .null, .ref s9, .int (zi (0)), .int (zi (0))])), (s9, .inr (1, [.int (zi (b)), .ref u9, .ref l9])), (u9, .inl (g.2.1, 12, .inl (fun j9 => zi ((mx nb (fun _ => 20) (fun _ => 0)) j9)))), (l9, .inl (g.2.1, 12, .inl (fun j9 => zi ((mx nb (fun _ => 20) (fun _ => 0)) j9))))] H := hP
      have hD : va_D (va_A [((a 1 0), .inr (3, [.ref (a 2 0), .int (zi (σ 0 0)), .ref (a 3 0), .int (zi (σ 8 0)), .ref (a 4 0), .int (zi (σ 7 0)), .ref (a 5 0)])), ((a 2 0), .inl (g.2.2.2.1, 30, .inr (.inr (.inr (.inr (vsF σ a))))))] s.heap.size) [((a 1 0), .inr (3, [.ref (a 2 0), .int (zi (((N + 1 : Nat) : Int))), .ref (a 3 0), .int (zi (σ 8 0)), .ref (a 4 0), .int (zi (σ 7 0)), .ref (a 5 0)])), ((a 2 0), .inl (g.2.2.2.1, 30, .inr (.inr (.inr (.inr (va_up (vsF σ a) N (some q23))))))), (q23, .inr (2, [.int (zi ((N : Int))), .null, .ref s9, .int (zi (0)), .int (zi (0))])), (s9, .inr (1, [.int (zi (b)), .ref u9, .ref l9])), (u9, .inl (g.2.1, 12, .inl (fun j9 => zi ((mx nb (fun _ => 20) (fun _ => 0)) j9)))), (l9, .inl (g.2.1, 12, .inl (fun j9 => zi ((mx nb (fun _ => 20) (fun _ => 0)) j9))))] := hD
      refine lv_aload_n hx hb dX3_begin_37 rfl (lv_at hl 0 rfl) ?_
      refine z_getN (C := RX2) (T := TX2) (N := 5) (ref := "HarmoniumDesk$Version") (host := RX3) hx hb hts hiX2 hown hK (hP 2 _ rfl) rfl 0 (by decide) (by decide +kernel) rfl rfl dX3_begin_38 ?_
      have nw0 : s.heap.size ≤ q23 := z_new hD (i := 2) rfl (fun h9 => by
        simp only [List.map, List.mem_cons, List.not_mem_nil, or_false] at h9
        rcases h9 with h9 | h9
        · exact z_ap hD (i := 2) (j := 0) rfl rfl (by decide) h9
        · exact z_ap hD (i := 2) (j := 1) rfl rfl (by decide) h9)
      have nw1 : s.heap.size ≤ s9 := z_new hD (i := 3) rfl (fun h9 => by
        simp only [List.map, List.mem_cons, List.not_mem_nil, or_false] at h9
        rcases h9 with h9 | h9
        · exact z_ap hD (i := 3) (j := 0) rfl rfl (by decide) h9
        · exact z_ap hD (i := 3) (j := 1) rfl rfl (by decide) h9)
      have nw2 : s.heap.size ≤ u9 := z_new hD (i := 4) rfl (fun h9 => by
        simp only [List.map, List.mem_cons, List.not_mem_nil, or_false] at h9
        rcases h9 with h9 | h9
        · exact z_ap hD (i := 4) (j := 0) rfl rfl (by decide) h9
        · exact z_ap hD (i := 4) (j := 1) rfl rfl (by decide) h9)
      have nw3 : s.heap.size ≤ l9 := z_new hD (i := 5) rfl (fun h9 => by
        simp only [List.map, List.mem_cons, List.not_mem_nil, or_false] at h9
        rcases h9 with h9 | h9
        · exact z_ap hD (i := 5) (j := 0) rfl rfl (by decide) h9
        · exact z_ap hD (i := 5) (j := 1) rfl rfl (by decide) h9)
      have nx01 : q23 ≠ s9 := z_ap hD (i := 2) (j := 3) rfl rfl (by decide)
      have nx02 : q23 ≠ u9 := z_ap hD (i := 2) (j := 4) rfl rfl (by decide)
      have nx03 : q23 ≠ l9 := z_ap hD (i := 2) (j := 5) rfl rfl (by decide)
      have nx12 : s9 ≠ u9 := z_ap hD (i := 3) (j := 4) rfl rfl (by decide)
      have nx13 : s9 ≠ l9 := z_ap hD (i := 3) (j := 5) rfl rfl (by decide)
      have nx23 : u9 ≠ l9 := z_ap hD (i := 4) (j := 5) rfl rfl (by decide)
      have hnd : [q23, s9, u9, l9].Nodup := by simp [nx01, nx02, nx03, nx12, nx13, nx23]
      have hB := DI.begin (b := b) hI hW hN hnb2 (by omega) hS ⟨nw0, nw1, nw2, nw3⟩ hnd (hP 0 _ rfl) (hP 1 _ rfl) (hP 2 _ rfl) ⟨hP 3 _ rfl, hP 4 _ rfl, hP 5 _ rfl⟩ rfl rfl
      exact z_dwret (adV a N q23 s9 u9 l9) hx hb hr hlk dX3_begin_41 (rfl) (hB.1) (hB.2) hfA hS
    · exfalso; omega

set_option maxHeartbeats 4000000 in
set_option maxRecDepth 100000 in
theorem c_X3_branch_0 (l : Launch) (g : gG) (σ : SG) (a : AD) (hW : WF σ) (k : Nat) (hk : (k : Int) < σ 0 0) (zk : Int) (hzk : zk = (k : Int)) (N : Nat) (hN : σ 0 0 = (N : Int)) (hnf : N < 30)  (sz : Nat) : DW l yX3_branch wsX3_branch ({ frames := 4, cells := 4, slots := 32, locals := 76 }) g [.int (zi (zk))] sz σ a (opK σ N k) ((N : Int)) 4 32 := by
  refine ZM.ofW (cc := cX3_branch) (maxL := 4) (ret := (some .int)) (by decide) rfl (Nat.le_of_ble_eq_true rfl) ?_
  intro p e s m below meth c ls hx hb hr hml hown hts hlk hP hK hl hin
  obtain ⟨rfl, hI⟩ := hP
  have hn := hW.n
  have hbk := hW.bars hk
  obtain ⟨uk, lk, hsk, nuk, nlk, eqk⟩ := (hI.vk hk).2
  have nd01 : (a 1 0) ≠ (a 2 0) := dNe hI.inj (dOk_0 σ (i := 1) (by omega)) (dOk_0 σ (i := 2) (by omega)) (by omega)
  have nd02 : (a 1 0) ≠ (a 8 k) := dNe hI.inj (dOk_0 σ (i := 1) (by omega)) (dOk_v (i := 8) (by omega) hk) (by omega)
  have nd12 : (a 2 0) ≠ (a 8 k) := dNe hI.inj (dOk_0 σ (i := 2) (by omega)) (dOk_v (i := 8) (by omega) hk) (by omega)
  have hP := z_cons hI.ob (z_cons hI.vs (z_cons (hI.vk hk).1 z_nil))
  have hP : va_P g.1 vwCl [((a 1 0), .inr (3, [.ref (a 2 0), .int (zi (σ 0 0)), .ref (a 3 0), .int (zi (σ 8 0)), .ref (a 4 0), .int (zi (σ 7 0)), .ref (a 5 0)])), ((a 2 0), .inl (g.2.2.2.1, 30, .inr (.inr (.inr (.inr (vsF σ a)))))), ((a 8 k), .inr (2, [.int (zi ((k : Int))), va_rf (paV σ a k), .ref (a 9 k), .int (zi (σ 3 k)), .int (zi (σ 4 k))]))] s.heap := hP
  have hD : va_D (va_A [((a 1 0), .inr (3, [.ref (a 2 0), .int (zi (σ 0 0)), .ref (a 3 0), .int (zi (σ 8 0)), .ref (a 4 0), .int (zi (σ 7 0)), .ref (a 5 0)])), ((a 2 0), .inl (g.2.2.2.1, 30, .inr (.inr (.inr (.inr (vsF σ a)))))), ((a 8 k), .inr (2, [.int (zi ((k : Int))), va_rf (paV σ a k), .ref (a 9 k), .int (zi (σ 3 k)), .int (zi (σ 4 k))]))] s.heap.size) [((a 1 0), .inr (3, [.ref (a 2 0), .int (zi (σ 0 0)), .ref (a 3 0), .int (zi (σ 8 0)), .ref (a 4 0), .int (zi (σ 7 0)), .ref (a 5 0)])), ((a 2 0), .inl (g.2.2.2.1, 30, .inr (.inr (.inr (.inr (vsF σ a)))))), ((a 8 k), .inr (2, [.int (zi ((k : Int))), va_rf (paV σ a k), .ref (a 9 k), .int (zi (σ 3 k)), .int (zi (σ 4 k))]))] := z_Dn (by simp [nd01, nd02, nd12])
  have hS : va_S (va_A [((a 1 0), .inr (3, [.ref (a 2 0), .int (zi (σ 0 0)), .ref (a 3 0), .int (zi (σ 8 0)), .ref (a 4 0), .int (zi (σ 7 0)), .ref (a 5 0)])), ((a 2 0), .inl (g.2.2.2.1, 30, .inr (.inr (.inr (.inr (vsF σ a)))))), ((a 8 k), .inr (2, [.int (zi ((k : Int))), va_rf (paV σ a k), .ref (a 9 k), .int (zi (σ 3 k)), .int (zi (σ 4 k))]))] s.heap.size) s.heap s.heap [] := va_S.rf
  have hA : ∀ x9 : Nat, s.heap.size ≤ x9 → (va_A [((a 1 0), .inr (3, [.ref (a 2 0), .int (zi (σ 0 0)), .ref (a 3 0), .int (zi (σ 8 0)), .ref (a 4 0), .int (zi (σ 7 0)), .ref (a 5 0)])), ((a 2 0), .inl (g.2.2.2.1, 30, .inr (.inr (.inr (.inr (vsF σ a)))))), ((a 8 k), .inr (2, [.int (zi ((k : Int))), va_rf (paV σ a k), .ref (a 9 k), .int (zi (σ 3 k)), .int (zi (σ 4 k))]))] s.heap.size) x9 := fun _ h => Or.inr h
  have hown : s.vm.findClass RX3 = some m.cls := hown
  have hl : lv_has ls 4 [(0, .ref (a 1 0)), (1, .int (zi (zk)))] := hl
  have hiX2 : ∀ w ∈ u_ws RX2 TX2 5, w ∈ wsX3_branch := by decide +kernel
  have hfA : ∀ x9, va_A [((a 1 0), .inr (3, [.ref (a 2 0), .int (zi (σ 0 0)), .ref (a 3 0), .int (zi (σ 8 0)), .ref (a 4 0), .int (zi (σ 7 0)), .ref (a 5 0)])), ((a 2 0), .inl (g.2.2.2.1, 30, .inr (.inr (.inr (.inr (vsF σ a)))))), ((a 8 k), .inr (2, [.int (zi ((k : Int))), va_rf (paV σ a k), .ref (a 9 k), .int (zi (σ 3 k)), .int (zi (σ 4 k))]))] s.heap.size x9 → dA σ a s.heap.size x9 := dA_of (fun x9 h9 => by
    simp only [List.map, List.mem_cons, List.not_mem_nil, or_false] at h9
    rcases h9 with rfl | rfl | rfl
    · exact ⟨1, 0, (dOk_0 σ (i := 1) (by omega)), rfl⟩
    · exact ⟨2, 0, (dOk_0 σ (i := 2) (by omega)), rfl⟩
    · exact ⟨8, k, (dOk_v (i := 8) (by omega) hk), rfl⟩)
  have n9 : ¬ (va_A [((a 1 0), .inr (3, [.ref (a 2 0), .int (zi (σ 0 0)), .ref (a 3 0), .int (zi (σ 8 0)), .ref (a 4 0), .int (zi (σ 7 0)), .ref (a 5 0)])), ((a 2 0), .inl (g.2.2.2.1, 30, .inr (.inr (.inr (.inr (vsF σ a)))))), ((a 8 k), .inr (2, [.int (zi ((k : Int))), va_rf (paV σ a k), .ref (a 9 k), .int (zi (σ 3 k)), .int (zi (σ 4 k))]))] s.heap.size) (a 9 k) := z_nA (hI.lt (dOk_v (i := 9) (by omega) hk)) (fun h9 => by
    simp only [List.map, List.mem_cons, List.not_mem_nil, or_false] at h9
    rcases h9 with h9 | h9 | h9
    · exact dNe hI.inj (dOk_v (i := 9) (by omega) hk) (dOk_0 σ (i := 1) (by omega)) (by omega) h9
    · exact dNe hI.inj (dOk_v (i := 9) (by omega) hk) (dOk_0 σ (i := 2) (by omega)) (by omega) h9
    · exact dNe hI.inj (dOk_v (i := 9) (by omega) hk) (dOk_v (i := 8) (by omega) hk) (by omega) h9)
  have n10 : ¬ (va_A [((a 1 0), .inr (3, [.ref (a 2 0), .int (zi (σ 0 0)), .ref (a 3 0), .int (zi (σ 8 0)), .ref (a 4 0), .int (zi (σ 7 0)), .ref (a 5 0)])), ((a 2 0), .inl (g.2.2.2.1, 30, .inr (.inr (.inr (.inr (vsF σ a)))))), ((a 8 k), .inr (2, [.int (zi ((k : Int))), va_rf (paV σ a k), .ref (a 9 k), .int (zi (σ 3 k)), .int (zi (σ 4 k))]))] s.heap.size) (a 10 k) := z_nA (hI.lt (dOk_v (i := 10) (by omega) hk)) (fun h9 => by
    simp only [List.map, List.mem_cons, List.not_mem_nil, or_false] at h9
    rcases h9 with h9 | h9 | h9
    · exact dNe hI.inj (dOk_v (i := 10) (by omega) hk) (dOk_0 σ (i := 1) (by omega)) (by omega) h9
    · exact dNe hI.inj (dOk_v (i := 10) (by omega) hk) (dOk_0 σ (i := 2) (by omega)) (by omega) h9
    · exact dNe hI.inj (dOk_v (i := 10) (by omega) hk) (dOk_v (i := 8) (by omega) hk) (by omega) h9)
  have n11 : ¬ (va_A [((a 1 0), .inr (3, [.ref (a 2 0), .int (zi (σ 0 0)), .ref (a 3 0), .int (zi (σ 8 0)), .ref (a 4 0), .int (zi (σ 7 0)), .ref (a 5 0)])), ((a 2 0), .inl (g.2.2.2.1, 30, .inr (.inr (.inr (.inr (vsF σ a)))))), ((a 8 k), .inr (2, [.int (zi ((k : Int))), va_rf (paV σ a k), .ref (a 9 k), .int (zi (σ 3 k)), .int (zi (σ 4 k))]))] s.heap.size) (a 11 k) := z_nA (hI.lt (dOk_v (i := 11) (by omega) hk)) (fun h9 => by
    simp only [List.map, List.mem_cons, List.not_mem_nil, or_false] at h9
    rcases h9 with h9 | h9 | h9
    · exact dNe hI.inj (dOk_v (i := 11) (by omega) hk) (dOk_0 σ (i := 1) (by omega)) (by omega) h9
    · exact dNe hI.inj (dOk_v (i := 11) (by omega) hk) (dOk_0 σ (i := 2) (by omega)) (by omega) h9
    · exact dNe hI.inj (dOk_v (i := 11) (by omega) hk) (dOk_v (i := 8) (by omega) hk) (by omega) h9)
  refine lv_aload_n hx hb dX3_branch_0 rfl (lv_at hl 0 rfl) ?_
  refine lv_iload_n hx hb dX3_branch_1 rfl (lv_at hl 1 rfl) ?_
  refine rq_V (rest := []) (As := [.int (zi (zk))]) ⟨hx, hb, hml, hown, hts⟩ (c_X3_findVersion l g σ a hW k hk (zk) (by omega)) (cwV 1 hts gX3_branch_X3_findVersion rfl rfl rfl (by decide +kernel) ⟨Nat.le_of_ble_eq_true rfl, Nat.le_of_ble_eq_true rfl⟩) (z_recv hK (hP 0 _ rfl) rfl) hI hK rfl hl.1 rfl (Nat.le_of_ble_eq_true rfl) dX3_branch_2 ⟨Nat.le_of_ble_eq_true rfl, Nat.le_of_ble_eq_true rfl⟩ ?_
  refine lv_astore_n (lv' := [(2, .ref (a 8 k)), (0, .ref (a 1 0)), (1, .int (zi (zk)))]) hx hb dX3_branch_5 rfl hl (by decide) rfl (fun ls hl => ?_)
  refine lv_aload_n hx hb dX3_branch_6 rfl (lv_at hl 1 rfl) ?_
  refine lv_aload_n hx hb dX3_branch_7 rfl (lv_at hl 0 rfl) ?_
  have hS0 := hS
  refine wr_V (rest := []) (As := [.ref (a 8 k)]) ⟨hx, hb, hml, hown, hts⟩ (c_X3_addVersion_r l g σ a (a 8 k) N hN hnf nd01 _) (cwV 1 hts gX3_branch_X3_addVersion rfl rfl rfl (by decide +kernel) ⟨Nat.le_of_ble_eq_true rfl, Nat.le_of_ble_eq_true rfl⟩) (z_recv hK (hP 0 _ rfl) rfl) (hP.sub [0, 1] rfl) trivial hK rfl hl.1 rfl (Nat.le_of_ble_eq_true rfl) dX3_branch_8 ⟨Nat.le_of_ble_eq_true rfl, Nat.le_of_ble_eq_true rfl⟩ hS (va_free hD hS hA [0, 1] rfl) (fun u8 q8 H1 locs hP1 hD1 hz1 hk1 hS => ?_)
  obtain ⟨s9, u9, l9⟩ := u8
  obtain ⟨hP, hD⟩ := va_join (wr := [((a 8 k), .inr (2, [.int (zi ((k : Int))), va_rf (paV σ a k), .ref (a 9 k), .int (zi (σ 3 k)), .int (zi (σ 4 k))]))]) (w1 := [((a 1 0), .inr (3, [.ref (a 2 0), .int (zi (((N + 1 : Nat) : Int))), .ref (a 3 0), .int (zi (σ 8 0)), .ref (a 4 0), .int (zi (σ 7 0)), .ref (a 5 0)])), ((a 2 0), .inl (g.2.2.2.1, 30, .inr (.inr (.inr (.inr (va_up (vsF σ a) N (some q8))))))), (q8, .inr (2, [.int (zi ((N : Int))), .ref (a 8 k), .ref s9, .int (zi (0)), .int (zi (0))])), (s9, .inr (1, [.int (zi (0)), .ref u9, .ref l9])), (u9, .inl (g.2.1, 12, .inl (fun j9 => zi ((fun _ => 0) j9)))), (l9, .inl (g.2.1, 12, .inl (fun j9 => zi ((fun _ => 0) j9))))]) hP hD [0, 1] [2] rfl rfl (by decide) (by decide) hk1 (va_free hD hS0 hA [0, 1] rfl) hP1 hD1
  generalize H1 = H at hP hS ⊢
  have hP : va_P g.1 vwCl [((a 8 k), .inr (2, [.int (zi ((k : Int))), va_rf (paV σ a k), .ref (a 9 k), .int (zi (σ 3 k)), .int (zi (σ 4 k))])), ((a 1 0), .inr (3, [.ref (a 2 0), .int (zi (((N + 1 : Nat) : Int))), .ref (a 3 0), .int (zi (σ 8 0)), .ref (a 4 0), .int (zi (σ 7 0)), .ref (a 5 0)])), ((a 2 0), .inl (g.2.2.2.1, 30, .inr (.inr (.inr (.inr (va_up (vsF σ a) N (some q8))))))), (q8, .inr (2, [.int (zi ((N : Int))), .ref (a 8 k), .ref s9, .int (zi (0)), .int (zi (0))])), (s9, .inr (1, [.int (zi (0)), .ref u9, .ref l9])), (u9, .inl (g.2.1, 12, .inl (fun j9 => zi ((fun _ => 0) j9)))), (l9, .inl (g.2.1, 12, .inl (fun j9 => zi ((fun _ => 0) j9))))] H := hP
  have hD : va_D (va_A [((a 1 0), .inr (3, [.ref (a 2 0), .int (zi (σ 0 0)), .ref (a 3 0), .int (zi (σ 8 0)), .ref (a 4 0), .int (zi (σ 7 0)), .ref (a 5 0)])), ((a 2 0), .inl (g.2.2.2.1, 30, .inr (.inr (.inr (.inr (vsF σ a)))))), ((a 8 k), .inr (2, [.int (zi ((k : Int))), va_rf (paV σ a k), .ref (a 9 k), .int (zi (σ 3 k)), .int (zi (σ 4 k))]))] s.heap.size) [((a 8 k), .inr (2, [.int (zi ((k : Int))), va_rf (paV σ a k), .ref (a 9 k), .int (zi (σ 3 k)), .int (zi (σ 4 k))])), ((a 1 0), .inr (3, [.ref (a 2 0), .int (zi (((N + 1 : Nat) : Int))), .ref (a 3 0), .int (zi (σ 8 0)), .ref (a 4 0), .int (zi (σ 7 0)), .ref (a 5 0)])), ((a 2 0), .inl (g.2.2.2.1, 30, .inr (.inr (.inr (.inr (va_up (vsF σ a) N (some q8))))))), (q8, .inr (2, [.int (zi ((N : Int))), .ref (a 8 k), .ref s9, .int (zi (0)), .int (zi (0))])), (s9, .inr (1, [.int (zi (0)), .ref u9, .ref l9])), (u9, .inl (g.2.1, 12, .inl (fun j9 => zi ((fun _ => 0) j9)))), (l9, .inl (g.2.1, 12, .inl (fun j9 => zi ((fun _ => 0) j9))))] := hD
  refine W.widen (k := 4) (n := 32) (by omega) (by omega) ?_
  have nwS : s.heap.size ≤ s9 := z_new hD (i := 4) rfl (fun h9 => by
    simp only [List.map, List.mem_cons, List.not_mem_nil, or_false] at h9
    rcases h9 with h9 | h9 | h9
    · exact z_ap hD (i := 4) (j := 1) rfl rfl (by decide) h9
    · exact z_ap hD (i := 4) (j := 2) rfl rfl (by decide) h9
    · exact z_ap hD (i := 4) (j := 0) rfl rfl (by decide) h9)
  have nwU : s.heap.size ≤ u9 := z_new hD (i := 5) rfl (fun h9 => by
    simp only [List.map, List.mem_cons, List.not_mem_nil, or_false] at h9
    rcases h9 with h9 | h9 | h9
    · exact z_ap hD (i := 5) (j := 1) rfl rfl (by decide) h9
    · exact z_ap hD (i := 5) (j := 2) rfl rfl (by decide) h9
    · exact z_ap hD (i := 5) (j := 0) rfl rfl (by decide) h9)
  have nwL : s.heap.size ≤ l9 := z_new hD (i := 6) rfl (fun h9 => by
    simp only [List.map, List.mem_cons, List.not_mem_nil, or_false] at h9
    rcases h9 with h9 | h9 | h9
    · exact z_ap hD (i := 6) (j := 1) rfl rfl (by decide) h9
    · exact z_ap hD (i := 6) (j := 2) rfl rfl (by decide) h9
    · exact z_ap hD (i := 6) (j := 0) rfl rfl (by decide) h9)
  refine lv_astore_n (lv' := [(3, .ref q8), (2, .ref (a 8 k)), (0, .ref (a 1 0)), (1, .int (zi (zk)))]) hx hb dX3_branch_11 rfl hl (by decide) rfl (fun ls hl => ?_)
  refine lv_aload_n hx hb dX3_branch_12 rfl (lv_at hl 0 rfl) ?_
  refine z_getN (C := RX2) (T := TX2) (N := 5) (ref := "HarmoniumDesk$Version") (host := RX3) hx hb hts hiX2 hown hK (hP 3 _ rfl) rfl 2 (by decide) (by decide +kernel) rfl rfl dX3_branch_13 ?_
  refine lv_aload_n hx hb dX3_branch_16 rfl (lv_at hl 1 rfl) ?_
  refine z_getN (C := RX2) (T := TX2) (N := 5) (ref := "HarmoniumDesk$Version") (host := RX3) hx hb hts hiX2 hown hK (hP 0 _ rfl) rfl 2 (by decide) (by decide +kernel) rfl rfl dX3_branch_17 ?_
  have hd9 : D3s s9 u9 l9 := ⟨z_ap hD (i := 4) (j := 5) rfl rfl (by decide), z_ap hD (i := 4) (j := 6) rfl rfl (by decide), z_ap hD (i := 5) (j := 6) rfl rfl (by decide)⟩
  have hap9 : ∀ x, x < s.heap.size → x ∉ [s9, u9, l9] := fun x hx h9 => by
    simp only [List.mem_cons, List.not_mem_nil, or_false] at h9
    have nw1 := nwS; have nw2 := nwU; have nw3 := nwL
    omega
  have hS0 := hS
  refine wv_V (rest := []) (As := [.ref (a 9 k)]) ⟨hx, hb, hml, hown, hts⟩ (c_X1_takeAll l g s9 u9 l9 0 (fun _ => 0) (fun _ => 0) hd9 (a 9 k) (a 10 k) (a 11 k) (σ 1 k) uk lk nuk nlk ⟨hap9 _ hsk.lt.1, hap9 _ hsk.lt.2.1, hap9 _ hsk.lt.2.2⟩ (σ 1 k).toNat (by omega) (by omega) _) (cwV 1 hts gX3_branch_X1_takeAll rfl rfl rfl (by decide +kernel) ⟨Nat.le_of_ble_eq_true rfl, Nat.le_of_ble_eq_true rfl⟩) (z_recv hK (hP 4 _ rfl) rfl) (hP.sub [4, 5, 6] rfl) (hsk.stay hS n9 n10 n11) hK rfl hl.1 rfl (Nat.le_of_ble_eq_true rfl) dX3_branch_20 ⟨Nat.le_of_ble_eq_true rfl, Nat.le_of_ble_eq_true rfl⟩ hS (va_free hD hS hA [4, 5, 6] rfl) (fun H1 locs hP1 hz1 hk1 hS => ?_)
  have hD1 : ∀ z9, va_D (va_A [(s9, .inr (1, [.int (zi (0)), .ref u9, .ref l9])), (u9, .inl (g.2.1, 12, .inl (fun j9 => zi ((fun _ => 0) j9)))), (l9, .inl (g.2.1, 12, .inl (fun j9 => zi ((fun _ => 0) j9))))] z9) [(s9, .inr (1, [.int (zi (σ 1 k)), .ref u9, .ref l9])), (u9, .inl (g.2.1, 12, .inl (fun j9 => zi ((mx (σ 1 k).toNat uk (fun _ => 0)) j9)))), (l9, .inl (g.2.1, 12, .inl (fun j9 => zi ((mx (σ 1 k).toNat lk (fun _ => 0)) j9))))] := fun _ => z_D (hD.sub (ws' := [(s9, .inr (1, [.int (zi (0)), .ref u9, .ref l9])), (u9, .inl (g.2.1, 12, .inl (fun j9 => zi ((fun _ => 0) j9)))), (l9, .inl (g.2.1, 12, .inl (fun j9 => zi ((fun _ => 0) j9))))]) [4, 5, 6] (by decide) rfl).self rfl
  obtain ⟨hP, hD⟩ := va_join (wr := [((a 8 k), .inr (2, [.int (zi ((k : Int))), va_rf (paV σ a k), .ref (a 9 k), .int (zi (σ 3 k)), .int (zi (σ 4 k))])), ((a 1 0), .inr (3, [.ref (a 2 0), .int (zi (((N + 1 : Nat) : Int))), .ref (a 3 0), .int (zi (σ 8 0)), .ref (a 4 0), .int (zi (σ 7 0)), .ref (a 5 0)])), ((a 2 0), .inl (g.2.2.2.1, 30, .inr (.inr (.inr (.inr (va_up (vsF σ a) N (some q8))))))), (q8, .inr (2, [.int (zi ((N : Int))), .ref (a 8 k), .ref s9, .int (zi (0)), .int (zi (0))]))]) (w1 := [(s9, .inr (1, [.int (zi (σ 1 k)), .ref u9, .ref l9])), (u9, .inl (g.2.1, 12, .inl (fun j9 => zi ((mx (σ 1 k).toNat uk (fun _ => 0)) j9)))), (l9, .inl (g.2.1, 12, .inl (fun j9 => zi ((mx (σ 1 k).toNat lk (fun _ => 0)) j9))))]) hP hD [4, 5, 6] [0, 1, 2, 3] rfl rfl (by decide) (by decide) hk1 (va_free hD hS0 hA [4, 5, 6] rfl) hP1 (hD1 _)
  generalize H1 = H at hP hS ⊢
  have hP : va_P g.1 vwCl [((a 8 k), .inr (2, [.int (zi ((k : Int))), va_rf (paV σ a k), .ref (a 9 k), .int (zi (σ 3 k)), .int (zi (σ 4 k))])), ((a 1 0), .inr (3, [.ref (a 2 0), .int (zi (((N + 1 : Nat) : Int))), .ref (a 3 0), .int (zi (σ 8 0)), .ref (a 4 0), .int (zi (σ 7 0)), .ref (a 5 0)])), ((a 2 0), .inl (g.2.2.2.1, 30, .inr (.inr (.inr (.inr (va_up (vsF σ a) N (some q8))))))), (q8, .inr (2, [.int (zi ((N : Int))), .ref (a 8 k), .ref s9, .int (zi (0)), .int (zi (0))])), (s9, .inr (1, [.int (zi (σ 1 k)), .ref u9, .ref l9])), (u9, .inl (g.2.1, 12, .inl (fun j9 => zi ((mx (σ 1 k).toNat uk (fun _ => 0)) j9)))), (l9, .inl (g.2.1, 12, .inl (fun j9 => zi ((mx (σ 1 k).toNat lk (fun _ => 0)) j9))))] H := hP
  have hD : va_D (va_A [((a 1 0), .inr (3, [.ref (a 2 0), .int (zi (σ 0 0)), .ref (a 3 0), .int (zi (σ 8 0)), .ref (a 4 0), .int (zi (σ 7 0)), .ref (a 5 0)])), ((a 2 0), .inl (g.2.2.2.1, 30, .inr (.inr (.inr (.inr (vsF σ a)))))), ((a 8 k), .inr (2, [.int (zi ((k : Int))), va_rf (paV σ a k), .ref (a 9 k), .int (zi (σ 3 k)), .int (zi (σ 4 k))]))] s.heap.size) [((a 8 k), .inr (2, [.int (zi ((k : Int))), va_rf (paV σ a k), .ref (a 9 k), .int (zi (σ 3 k)), .int (zi (σ 4 k))])), ((a 1 0), .inr (3, [.ref (a 2 0), .int (zi (((N + 1 : Nat) : Int))), .ref (a 3 0), .int (zi (σ 8 0)), .ref (a 4 0), .int (zi (σ 7 0)), .ref (a 5 0)])), ((a 2 0), .inl (g.2.2.2.1, 30, .inr (.inr (.inr (.inr (va_up (vsF σ a) N (some q8))))))), (q8, .inr (2, [.int (zi ((N : Int))), .ref (a 8 k), .ref s9, .int (zi (0)), .int (zi (0))])), (s9, .inr (1, [.int (zi (σ 1 k)), .ref u9, .ref l9])), (u9, .inl (g.2.1, 12, .inl (fun j9 => zi ((mx (σ 1 k).toNat uk (fun _ => 0)) j9)))), (l9, .inl (g.2.1, 12, .inl (fun j9 => zi ((mx (σ 1 k).toNat lk (fun _ => 0)) j9))))] := hD
  refine lv_aload_n hx hb dX3_branch_23 rfl (lv_at hl 1 rfl) ?_
  refine z_iconst hx hb dX3_branch_24 ?_
  refine z_putN (v := .int (zi (1))) (C := RX2) (T := TX2) (N := 5) (ref := "HarmoniumDesk$Version") (host := RX3) hx hb hts hiX2 tyX2 tyX2_ok nmX2 hown hK hP hD hS 0 rfl rfl 3 (by decide) (by decide +kernel) rfl rfl rfl rfl (Nat.le_of_ble_eq_true rfl) dX3_branch_25 (fun H locs hP hD hS => ?_)
  have hP : va_P g.1 vwCl [((a 8 k), .inr (2, [.int (zi ((k : Int))), va_rf (paV σ a k), .ref (a 9 k), .int (zi (1)), .int (zi (σ 4 k))])), ((a 1 0), .inr (3, [.ref (a 2 0), .int (zi (((N + 1 : Nat) : Int))), .ref (a 3 0), .int (zi (σ 8 0)), .ref (a 4 0), .int (zi (σ 7 0)), .ref (a 5 0)])), ((a 2 0), .inl (g.2.2.2.1, 30, .inr (.inr (.inr (.inr (va_up (vsF σ a) N (some q8))))))), (q8, .inr (2, [.int (zi ((N : Int))), .ref (a 8 k), .ref s9, .int (zi (0)), .int (zi (0))])), (s9, .inr (1, [.int (zi (σ 1 k)), .ref u9, .ref l9])), (u9, .inl (g.2.1, 12, .inl (fun j9 => zi ((mx (σ 1 k).toNat uk (fun _ => 0)) j9)))), (l9, .inl (g.2.1, 12, .inl (fun j9 => zi ((mx (σ 1 k).toNat lk (fun _ => 0)) j9))))] H := hP
  have hD : va_D (va_A [((a 1 0), .inr (3, [.ref (a 2 0), .int (zi (σ 0 0)), .ref (a 3 0), .int (zi (σ 8 0)), .ref (a 4 0), .int (zi (σ 7 0)), .ref (a 5 0)])), ((a 2 0), .inl (g.2.2.2.1, 30, .inr (.inr (.inr (.inr (vsF σ a)))))), ((a 8 k), .inr (2, [.int (zi ((k : Int))), va_rf (paV σ a k), .ref (a 9 k), .int (zi (σ 3 k)), .int (zi (σ 4 k))]))] s.heap.size) [((a 8 k), .inr (2, [.int (zi ((k : Int))), va_rf (paV σ a k), .ref (a 9 k), .int (zi (1)), .int (zi (σ 4 k))])), ((a 1 0), .inr (3, [.ref (a 2 0), .int (zi (((N + 1 : Nat) : Int))), .ref (a 3 0), .int (zi (σ 8 0)), .ref (a 4 0), .int (zi (σ 7 0)), .ref (a 5 0)])), ((a 2 0), .inl (g.2.2.2.1, 30, .inr (.inr (.inr (.inr (va_up (vsF σ a) N (some q8))))))), (q8, .inr (2, [.int (zi ((N : Int))), .ref (a 8 k), .ref s9, .int (zi (0)), .int (zi (0))])), (s9, .inr (1, [.int (zi (σ 1 k)), .ref u9, .ref l9])), (u9, .inl (g.2.1, 12, .inl (fun j9 => zi ((mx (σ 1 k).toNat uk (fun _ => 0)) j9)))), (l9, .inl (g.2.1, 12, .inl (fun j9 => zi ((mx (σ 1 k).toNat lk (fun _ => 0)) j9))))] := hD
  refine lv_aload_n hx hb dX3_branch_28 rfl (lv_at hl 0 rfl) ?_
  refine z_getN (C := RX2) (T := TX2) (N := 5) (ref := "HarmoniumDesk$Version") (host := RX3) hx hb hts hiX2 hown hK (hP 3 _ rfl) rfl 0 (by decide) (by decide +kernel) rfl rfl dX3_branch_29 ?_
  have nw0 : s.heap.size ≤ q8 := z_new hD (i := 3) rfl (fun h9 => by
    simp only [List.map, List.mem_cons, List.not_mem_nil, or_false] at h9
    rcases h9 with h9 | h9 | h9
    · exact z_ap hD (i := 3) (j := 1) rfl rfl (by decide) h9
    · exact z_ap hD (i := 3) (j := 2) rfl rfl (by decide) h9
    · exact z_ap hD (i := 3) (j := 0) rfl rfl (by decide) h9)
  have nw1 : s.heap.size ≤ s9 := z_new hD (i := 4) rfl (fun h9 => by
    simp only [List.map, List.mem_cons, List.not_mem_nil, or_false] at h9
    rcases h9 with h9 | h9 | h9
    · exact z_ap hD (i := 4) (j := 1) rfl rfl (by decide) h9
    · exact z_ap hD (i := 4) (j := 2) rfl rfl (by decide) h9
    · exact z_ap hD (i := 4) (j := 0) rfl rfl (by decide) h9)
  have nw2 : s.heap.size ≤ u9 := z_new hD (i := 5) rfl (fun h9 => by
    simp only [List.map, List.mem_cons, List.not_mem_nil, or_false] at h9
    rcases h9 with h9 | h9 | h9
    · exact z_ap hD (i := 5) (j := 1) rfl rfl (by decide) h9
    · exact z_ap hD (i := 5) (j := 2) rfl rfl (by decide) h9
    · exact z_ap hD (i := 5) (j := 0) rfl rfl (by decide) h9)
  have nw3 : s.heap.size ≤ l9 := z_new hD (i := 6) rfl (fun h9 => by
    simp only [List.map, List.mem_cons, List.not_mem_nil, or_false] at h9
    rcases h9 with h9 | h9 | h9
    · exact z_ap hD (i := 6) (j := 1) rfl rfl (by decide) h9
    · exact z_ap hD (i := 6) (j := 2) rfl rfl (by decide) h9
    · exact z_ap hD (i := 6) (j := 0) rfl rfl (by decide) h9)
  have nx01 : q8 ≠ s9 := z_ap hD (i := 3) (j := 4) rfl rfl (by decide)
  have nx02 : q8 ≠ u9 := z_ap hD (i := 3) (j := 5) rfl rfl (by decide)
  have nx03 : q8 ≠ l9 := z_ap hD (i := 3) (j := 6) rfl rfl (by decide)
  have nx12 : s9 ≠ u9 := z_ap hD (i := 4) (j := 5) rfl rfl (by decide)
  have nx13 : s9 ≠ l9 := z_ap hD (i := 4) (j := 6) rfl rfl (by decide)
  have nx23 : u9 ≠ l9 := z_ap hD (i := 5) (j := 6) rfl rfl (by decide)
  have hnd : [q8, s9, u9, l9].Nodup := by simp [nx01, nx02, nx03, nx12, nx13, nx23]
  have hB := DI.branch hI hW hN (by omega) hS ⟨nw0, nw1, nw2, nw3⟩ hnd (hP 1 _ rfl) (hP 2 _ rfl) (hP 0 _ rfl) (hP 3 _ rfl) ⟨hP 4 _ rfl, hP 5 _ rfl, hP 6 _ rfl⟩ rfl rfl nuk nlk eqk
  exact z_dwret (adV a N q8 s9 u9 l9) hx hb hr hlk dX3_branch_32 (rfl) (hB.1) (hB.2) hfA hS
