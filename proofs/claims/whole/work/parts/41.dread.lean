set_option maxHeartbeats 4000000 in
set_option maxRecDepth 100000 in
/-- it is there -/
theorem c_X3_findVersion (l : Launch) (g : gG) (σ : SG) (a : AD) (hW : WF σ) (k : Nat) (hk : (k : Int) < σ 0 0) (zk : Int) (hzk : zk = (k : Int)) : RQ l yX3_findVersion wsX3_findVersion ({ frames := 0, cells := 0, slots := 0, locals := 0 }) g [.ref (a 1 0), .int (zi (zk))] (DI g σ a) (some (a 8 k)) := by
  refine ZM.ofW (cc := cX3_findVersion) (maxL := 3) (ret := (some (.object "HarmoniumDesk$Version"))) (by decide) rfl (Nat.le_of_ble_eq_true rfl) ?_
  intro p e s m below meth c ls hx hb hr hml hown hts hlk hP hK hl _
  have hown : s.vm.findClass RX3 = some m.cls := hown
  have hl : lv_has ls 3 [(0, .ref (a 1 0)), (1, .int (zi (zk)))] := hl
  have hiX3 : ∀ w ∈ u_ws RX3 TX3 7, w ∈ wsX3_findVersion := by decide +kernel
  have hn := hW.n
  have hcn := hW.cn
  refine lv_iload_n hx hb dX3_findVersion_0 rfl (lv_at hl 1 rfl) ?_
  refine z_if_lt (tgt := 13) hx hb dX3_findVersion_1 (by decide) (by omega) (fun h1 => ?_) (fun h1 => ?_)
  · exfalso; omega
  ·
    refine lv_iload_n hx hb dX3_findVersion_4 rfl (lv_at hl 1 rfl) ?_
    refine lv_aload_n hx hb dX3_findVersion_5 rfl (lv_at hl 0 rfl) ?_
    refine z_get (C := RX3) (T := TX3) (N := 7) hx hb hts hiX3 hown hK hP.ob rfl 0 (by decide) (hts (.fieldLink RX3 11 "HarmoniumDesk" "versions" "[LHarmoniumDesk$Version;") (by decide +kernel)) rfl rfl dX3_findVersion_6 ?_
    refine z_alen hx hb hK hP.vs 2 rfl dX3_findVersion_9 ?_
    refine z_icmp_lt (tgt := 23) hx hb dX3_findVersion_10 (by decide) (by omega) (by omega) (fun h10 => ?_) (fun h10 => ?_)
    ·
      refine lv_aload_n hx hb dX3_findVersion_23 rfl (lv_at hl 0 rfl) ?_
      refine z_get (C := RX3) (T := TX3) (N := 7) hx hb hts hiX3 hown hK hP.ob rfl 0 (by decide) (hts (.fieldLink RX3 11 "HarmoniumDesk" "versions" "[LHarmoniumDesk$Version;") (by decide +kernel)) rfl rfl dX3_findVersion_24 ?_
      refine lv_iload_n hx hb dX3_findVersion_27 rfl (lv_at hl 1 rfl) ?_
      refine z_aldq hx hb hK hP.vs 2 rfl (k) (by omega) (by omega) (by decide) (o := some (a 8 k)) (if_pos hk) dX3_findVersion_28 ?_
      refine lv_astore_n (lv' := [(2, .ref (a 8 k)), (0, .ref (a 1 0)), (1, .int (zi (zk)))]) hx hb dX3_findVersion_29 rfl hl (by decide) rfl (fun ls hl => ?_)
      refine lv_aload_n hx hb dX3_findVersion_30 rfl (lv_at hl 0 rfl) ?_
      refine lv_ifnonnull (tgt := 44) hx hb dX3_findVersion_31 (by decide) ?_
      refine lv_aload_n hx hb dX3_findVersion_44 rfl (lv_at hl 0 rfl) ?_
      exact z_aret (o := some (a 8 k)) hx hb hr hlk dX3_findVersion_45
    · exfalso; omega

set_option maxHeartbeats 4000000 in
set_option maxRecDepth 100000 in
/-- it is there -/
theorem c_X3_findCopy (l : Launch) (g : gG) (σ : SG) (a : AD) (hW : WF σ) (c1 : Nat) (hc : (c1 : Int) < σ 8 0) (zk : Int) (hzk : zk = (c1 : Int)) : RQ l yX3_findCopy wsX3_findCopy ({ frames := 0, cells := 0, slots := 0, locals := 0 }) g [.ref (a 1 0), .int (zi (zk))] (DI g σ a) (some (a 12 c1)) := by
  refine ZM.ofW (cc := cX3_findCopy) (maxL := 3) (ret := (some (.object "HarmoniumDesk$Copy"))) (by decide) rfl (Nat.le_of_ble_eq_true rfl) ?_
  intro p e s m below meth c ls hx hb hr hml hown hts hlk hP hK hl _
  have hown : s.vm.findClass RX3 = some m.cls := hown
  have hl : lv_has ls 3 [(0, .ref (a 1 0)), (1, .int (zi (zk)))] := hl
  have hiX3 : ∀ w ∈ u_ws RX3 TX3 7, w ∈ wsX3_findCopy := by decide +kernel
  have hn := hW.n
  have hcn := hW.cn
  refine lv_iload_n hx hb dX3_findCopy_0 rfl (lv_at hl 1 rfl) ?_
  refine z_if_lt (tgt := 13) hx hb dX3_findCopy_1 (by decide) (by omega) (fun h1 => ?_) (fun h1 => ?_)
  · exfalso; omega
  ·
    refine lv_iload_n hx hb dX3_findCopy_4 rfl (lv_at hl 1 rfl) ?_
    refine lv_aload_n hx hb dX3_findCopy_5 rfl (lv_at hl 0 rfl) ?_
    refine z_get (C := RX3) (T := TX3) (N := 7) hx hb hts hiX3 hown hK hP.ob rfl 2 (by decide) (hts (.fieldLink RX3 21 "HarmoniumDesk" "copies" "[LHarmoniumDesk$Copy;") (by decide +kernel)) rfl rfl dX3_findCopy_6 ?_
    refine z_alen hx hb hK hP.cs 3 rfl dX3_findCopy_9 ?_
    refine z_icmp_lt (tgt := 23) hx hb dX3_findCopy_10 (by decide) (by omega) (by omega) (fun h10 => ?_) (fun h10 => ?_)
    ·
      refine lv_aload_n hx hb dX3_findCopy_23 rfl (lv_at hl 0 rfl) ?_
      refine z_get (C := RX3) (T := TX3) (N := 7) hx hb hts hiX3 hown hK hP.ob rfl 2 (by decide) (hts (.fieldLink RX3 21 "HarmoniumDesk" "copies" "[LHarmoniumDesk$Copy;") (by decide +kernel)) rfl rfl dX3_findCopy_24 ?_
      refine lv_iload_n hx hb dX3_findCopy_27 rfl (lv_at hl 1 rfl) ?_
      refine z_aldq hx hb hK hP.cs 3 rfl (c1) (by omega) (by omega) (by decide) (o := some (a 12 c1)) (if_pos hc) dX3_findCopy_28 ?_
      refine lv_astore_n (lv' := [(2, .ref (a 12 c1)), (0, .ref (a 1 0)), (1, .int (zi (zk)))]) hx hb dX3_findCopy_29 rfl hl (by decide) rfl (fun ls hl => ?_)
      refine lv_aload_n hx hb dX3_findCopy_30 rfl (lv_at hl 0 rfl) ?_
      refine lv_ifnonnull (tgt := 44) hx hb dX3_findCopy_31 (by decide) ?_
      refine lv_aload_n hx hb dX3_findCopy_44 rfl (lv_at hl 0 rfl) ?_
      exact z_aret (o := some (a 12 c1)) hx hb hr hlk dX3_findCopy_45
    · exfalso; omega

set_option maxHeartbeats 4000000 in
set_option maxRecDepth 100000 in
theorem c_X3_checkVoice (l : Launch) (g : gG) (v : Int) (hv : 0 ≤ v ∧ v ≤ 1) : RV l yX3_checkVoice wsX3_checkVoice ({ frames := 0, cells := 0, slots := 0, locals := 0 }) g [.int (zi (v))] (fun _ => True) := by
  refine ZM.ofW (cc := cX3_checkVoice) (maxL := 1) (ret := none) (by decide) rfl (Nat.le_of_ble_eq_true rfl) ?_
  intro p e s m below meth c ls hx hb hr hml hown hts hlk hP hK hl _
  have hown : s.vm.findClass RX3 = some m.cls := hown
  have hl : lv_has ls 1 [(0, .int (zi (v)))] := hl
  refine lv_iload_n hx hb dX3_checkVoice_0 rfl (lv_at hl 0 rfl) ?_
  refine z_if_lt (tgt := 9) hx hb dX3_checkVoice_1 (by decide) (by omega) (fun h1 => ?_) (fun h1 => ?_)
  · exfalso; omega
  ·
    refine lv_iload_n hx hb dX3_checkVoice_4 rfl (lv_at hl 0 rfl) ?_
    refine z_iconst hx hb dX3_checkVoice_5 ?_
    refine z_icmp_lt (tgt := 19) hx hb dX3_checkVoice_6 (by decide) (by omega) (by omega) (fun h6 => ?_) (fun h6 => ?_)
    ·
      exact z_svret hx hb hr hlk dX3_checkVoice_19
    · exfalso; omega

set_option maxHeartbeats 4000000 in
set_option maxRecDepth 100000 in
theorem c_X3_checkBar (l : Launch) (g : gG) (σ : SG) (a : AD) (hW : WF σ) (k : Nat) (hk : (k : Int) < σ 0 0) (b : Nat) (hbb : (b : Int) < σ 1 k) (zb : Int) (hzb : zb = (b : Int)) : RV l yX3_checkBar wsX3_checkBar ({ frames := 0, cells := 0, slots := 0, locals := 0 }) g [.ref (a 8 k), .int (zi (zb))] (DI g σ a) := by
  refine ZM.ofW (cc := cX3_checkBar) (maxL := 2) (ret := none) (by decide) rfl (Nat.le_of_ble_eq_true rfl) ?_
  intro p e s m below meth c ls hx hb hr hml hown hts hlk hP hK hl _
  have hown : s.vm.findClass RX3 = some m.cls := hown
  have hl : lv_has ls 2 [(0, .ref (a 8 k)), (1, .int (zi (zb)))] := hl
  have hiX1 : ∀ w ∈ u_ws RX1 TX1 3, w ∈ wsX3_checkBar := by decide +kernel
  have hiX2 : ∀ w ∈ u_ws RX2 TX2 5, w ∈ wsX3_checkBar := by decide +kernel
  have hn := hW.n
  have hbk := hW.bars hk
  obtain ⟨uk, lk, hsk, nuk, nlk, eqk⟩ := (hP.vk hk).2
  refine lv_iload_n hx hb dX3_checkBar_0 rfl (lv_at hl 1 rfl) ?_
  refine z_if_lt (tgt := 15) hx hb dX3_checkBar_1 (by decide) (by omega) (fun h1 => ?_) (fun h1 => ?_)
  · exfalso; omega
  ·
    refine lv_iload_n hx hb dX3_checkBar_4 rfl (lv_at hl 1 rfl) ?_
    refine lv_aload_n hx hb dX3_checkBar_5 rfl (lv_at hl 0 rfl) ?_
    refine z_getN (C := RX2) (T := TX2) (N := 5) (ref := "HarmoniumDesk$Version") (host := RX3) hx hb hts hiX2 hown hK (hP.vk hk).1 rfl 2 (by decide) (by decide +kernel) rfl rfl dX3_checkBar_6 ?_
    refine z_getN (C := RX1) (T := TX1) (N := 3) (ref := "HarmoniumDesk$Score") (host := RX3) hx hb hts hiX1 hown hK hsk.1 rfl 0 (by decide) (by decide +kernel) rfl rfl dX3_checkBar_9 ?_
    refine z_icmp_lt (tgt := 25) hx hb dX3_checkBar_12 (by decide) (by omega) (by omega) (fun h12 => ?_) (fun h12 => ?_)
    ·
      exact z_svret hx hb hr hlk dX3_checkBar_25
    · exfalso; omega

set_option maxHeartbeats 4000000 in
set_option maxRecDepth 100000 in
theorem c_X3_checkAsManyBars (l : Launch) (g : gG) (σ : SG) (a : AD) (hW : WF σ) (c1 : Nat) (hc : (c1 : Int) < σ 8 0) (k : Nat) (hk : (k : Int) < σ 0 0) (hln : σ 1 k = σ 9 c1) : RV l yX3_checkAsManyBars wsX3_checkAsManyBars ({ frames := 0, cells := 0, slots := 0, locals := 0 }) g [.ref (a 12 c1), .ref (a 8 k)] (DI g σ a) := by
  refine ZM.ofW (cc := cX3_checkAsManyBars) (maxL := 2) (ret := none) (by decide) rfl (Nat.le_of_ble_eq_true rfl) ?_
  intro p e s m below meth c ls hx hb hr hml hown hts hlk hP hK hl _
  have hown : s.vm.findClass RX3 = some m.cls := hown
  have hl : lv_has ls 2 [(0, .ref (a 12 c1)), (1, .ref (a 8 k))] := hl
  have hiX0 : ∀ w ∈ u_ws RX0 TX0 4, w ∈ wsX3_checkAsManyBars := by decide +kernel
  have hiX1 : ∀ w ∈ u_ws RX1 TX1 3, w ∈ wsX3_checkAsManyBars := by decide +kernel
  have hiX2 : ∀ w ∈ u_ws RX2 TX2 5, w ∈ wsX3_checkAsManyBars := by decide +kernel
  have hn := hW.n
  have hbk := hW.bars hk
  have hcp := hW.cp hc
  obtain ⟨uk, lk, hsk, nuk, nlk, eqk⟩ := (hP.vk hk).2
  refine lv_aload_n hx hb dX3_checkAsManyBars_0 rfl (lv_at hl 0 rfl) ?_
  refine z_getN (C := RX0) (T := TX0) (N := 4) (ref := "HarmoniumDesk$Copy") (host := RX3) hx hb hts hiX0 hown hK (hP.ck hc).1 rfl 1 (by decide) (by decide +kernel) rfl rfl dX3_checkAsManyBars_1 ?_
  refine lv_aload_n hx hb dX3_checkAsManyBars_4 rfl (lv_at hl 1 rfl) ?_
  refine z_getN (C := RX2) (T := TX2) (N := 5) (ref := "HarmoniumDesk$Version") (host := RX3) hx hb hts hiX2 hown hK (hP.vk hk).1 rfl 2 (by decide) (by decide +kernel) rfl rfl dX3_checkAsManyBars_5 ?_
  refine z_getN (C := RX1) (T := TX1) (N := 3) (ref := "HarmoniumDesk$Score") (host := RX3) hx hb hts hiX1 hown hK hsk.1 rfl 0 (by decide) (by decide +kernel) rfl rfl dX3_checkAsManyBars_8 ?_
  refine z_icmp_eq (tgt := 24) hx hb dX3_checkAsManyBars_11 (by decide) (by omega) (by omega) (fun h11 => ?_) (fun h11 => ?_)
  ·
    exact z_svret hx hb hr hlk dX3_checkAsManyBars_24
  · exfalso; omega

set_option maxHeartbeats 4000000 in
set_option maxRecDepth 100000 in
theorem c_X3_isAncestor (l : Launch) (g : gG) (σ : SG) (a : AD) (hW : WF σ) (x y : Nat) (hx0 : (x : Int) < σ 0 0) (hy : (y : Int) < σ 0 0) : RO l yX3_isAncestor wsX3_isAncestor ({ frames := 0, cells := 0, slots := 0, locals := 0 }) g [.ref (a 8 x), .ref (a 8 y)] (DI g σ a) (pz (An (σ 2) x y = true)) := by
  refine RO.ofW (cc := cX3_isAncestor) (maxL := 3) (ret := (some .boolean)) (by decide) rfl (Nat.le_of_ble_eq_true rfl) ?_
  intro p e s m below meth c ls hx hb hr hml hown hts hlk hP hK hl
  have hown : s.vm.findClass RX3 = some m.cls := hown
  have hl : lv_has ls 3 [(0, .ref (a 8 x)), (1, .ref (a 8 y))] := hl
  have hiX2 : ∀ w ∈ u_ws RX2 TX2 5, w ∈ wsX3_isAncestor := by decide +kernel
  refine lv_aload_n hx hb dX3_isAncestor_0 rfl (lv_at hl 1 rfl) ?_
  refine lv_astore_n (lv' := [(2, .ref (a 8 y)), (0, .ref (a 8 x)), (1, .ref (a 8 y))]) hx hb dX3_isAncestor_1 rfl hl (by decide) rfl (fun ls hl => ?_)
  have loop : ∀ (d k : Nat), k < d → (k : Int) < σ 0 0 → An (σ 2) x k = An (σ 2) x y → ∀ ls : Array Slot, lv_has ls 3 [(2, .ref (a 8 k)), (0, .ref (a 8 x)), (1, .ref (a 8 y))] → W p l e ({ frames := 0, cells := 0, slots := 0, locals := 0 }) s m ([.ref (a 8 x), .ref (a 8 y)] : List Value).toArray below meth c s.heap [] 0 0 (MQ below (vp_Si (fun z9 => z9 = zi (pz (An (σ 2) x y = true)))) ([.ref (a 8 x), .ref (a 8 y)] : List Value).toArray s 0 0 (fun _ => False)) (F0 m 2 ls []) := by
    intro d
    induction d with
    | zero =>
      intro k h0 hk hA ls hl
      omega
    | succ d ih =>
      intro k h0 hk hA ls hl
      have hpk := hW.par hk
      have hAs := An_s (σ 2) x hW.pd hk
      refine lv_aload_n hx hb dX3_isAncestor_2 rfl (lv_at hl 0 rfl) ?_
      refine lv_ifnull hx hb dX3_isAncestor_3 ?_
      refine lv_aload_n hx hb dX3_isAncestor_6 rfl (lv_at hl 0 rfl) ?_
      refine lv_aload_n hx hb dX3_isAncestor_7 rfl (lv_at hl 1 rfl) ?_
      refine lv_acmp_ne (rx := some (a 8 k)) (ry := some (a 8 x)) (tgt := 13) hx hb dX3_isAncestor_8 (by decide) (fun h8 => ?_) (fun h8 => ?_)
      ·
        refine lv_aload_n hx hb dX3_isAncestor_13 rfl (lv_at hl 0 rfl) ?_
        refine z_getN (C := RX2) (T := TX2) (N := 5) (ref := "HarmoniumDesk$Version") (host := RX3) hx hb hts hiX2 hown hK (hP.vk hk).1 rfl 1 (by decide) (by decide +kernel) rfl rfl dX3_isAncestor_14 ?_
        by_cases hpn : σ 2 k < 0
        ·
          rw [show paV σ a k = none from if_pos hpn]
          refine lv_astore_nN (lv' := [(2, .null), (0, .ref (a 8 x)), (1, .ref (a 8 y))]) hx hb dX3_isAncestor_17 rfl hl (by decide) rfl (fun ls hl => ?_)
          refine lv_goto (tgt := 2) hx hb dX3_isAncestor_18 (by decide) ?_
          refine lv_aload_nN hx hb dX3_isAncestor_2 rfl (lv_at hl 0 rfl) ?_
          refine lv_ifnullN (tgt := 21) hx hb dX3_isAncestor_3 (by decide) ?_
          refine z_iconst hx hb dX3_isAncestor_21 ?_
          exact z_zret hx hb hr hlk dX3_isAncestor_22 (by omega) ((pz_f (by rw [← hA, hAs, decide_eq_false (fun e => h8 (by rw [show k = x by omega])), Bool.false_or, An_neg _ _ hpn]; decide)).symm)
          
        ·
          rw [show paV σ a k = some (a 8 (σ 2 k).toNat) from if_neg hpn]
          refine lv_astore_n (lv' := [(2, .ref (a 8 (σ 2 k).toNat)), (0, .ref (a 8 x)), (1, .ref (a 8 y))]) hx hb dX3_isAncestor_17 rfl hl (by decide) rfl (fun ls hl => ?_)
          refine lv_goto (tgt := 2) hx hb dX3_isAncestor_18 (by decide) ?_
          exact ih (σ 2 k).toNat (by omega) (by omega) (by rw [Int.toNat_of_nonneg (by omega), ← hA, hAs, decide_eq_false (fun e => h8 (by rw [show k = x by omega])), Bool.false_or]) ls (lv_sub hl [0, 1, 2] rfl)
      ·
        refine z_iconst hx hb dX3_isAncestor_11 ?_
        exact z_zret hx hb hr hlk dX3_isAncestor_12 (by omega) ((pz_t (by rw [← hA, show k = x from (hP.inj 8 k 8 x (dOk_v (by omega) hk) (dOk_v (by omega) hx0) (Option.some.inj h8)).2]; exact An_self _ _)).symm)
  exact loop (y + 1) y (by omega) hy rfl ls (lv_sub hl [0, 1, 2] rfl)

set_option maxHeartbeats 4000000 in
set_option maxRecDepth 100000 in
theorem c_X3_commonAncestor (l : Launch) (g : gG) (σ : SG) (a : AD) (hW : WF σ) (i j : Nat) (hi : (i : Int) < σ 0 0) (hj : (j : Int) < σ 0 0) : RQ l yX3_commonAncestor wsX3_commonAncestor ({ frames := 1, cells := 0, slots := 0, locals := 22 }) g [.ref (a 8 i), .ref (a 8 j)] (DI g σ a) (cmA σ a i j) := by
  refine ZM.ofW (cc := cX3_commonAncestor) (maxL := 3) (ret := (some (.object "HarmoniumDesk$Version"))) (by decide) rfl (Nat.le_of_ble_eq_true rfl) ?_
  intro p e s m below meth c ls hx hb hr hml hown hts hlk hP hK hl _
  have hown : s.vm.findClass RX3 = some m.cls := hown
  have hl : lv_has ls 3 [(0, .ref (a 8 i)), (1, .ref (a 8 j))] := hl
  have hiX2 : ∀ w ∈ u_ws RX2 TX2 5, w ∈ wsX3_commonAncestor := by decide +kernel
  refine lv_aload_n hx hb dX3_commonAncestor_0 rfl (lv_at hl 0 rfl) ?_
  refine lv_astore_n (lv' := [(2, .ref (a 8 i)), (0, .ref (a 8 i)), (1, .ref (a 8 j))]) hx hb dX3_commonAncestor_1 rfl hl (by decide) rfl (fun ls hl => ?_)
  have loop : ∀ (d k : Nat), k < d → (k : Int) < σ 0 0 → (∀ y : Int, (An (σ 2) y k = true ∧ An (σ 2) y j = true) ↔ (An (σ 2) y i = true ∧ An (σ 2) y j = true)) → ∀ ls : Array Slot, lv_has ls 3 [(2, .ref (a 8 k)), (0, .ref (a 8 i)), (1, .ref (a 8 j))] → W p l e ({ frames := 1, cells := 0, slots := 0, locals := 22 }) s m ([.ref (a 8 i), .ref (a 8 j)] : List Value).toArray below meth c s.heap [] 0 0 (MQ below (va_Sq (fun z9 => z9 = (cmA σ a i j))) ([.ref (a 8 i), .ref (a 8 j)] : List Value).toArray s 0 0 (fun _ => False)) (F0 m 2 ls []) := by
    intro d
    induction d with
    | zero =>
      intro k h0 hk hA ls hl
      omega
    | succ d ih =>
      intro k h0 hk hA ls hl
      have hpk := hW.par hk
      have hAs := fun y => An_s (σ 2) y hW.pd hk
      refine lv_aload_n hx hb dX3_commonAncestor_2 rfl (lv_at hl 0 rfl) ?_
      refine lv_ifnull hx hb dX3_commonAncestor_3 ?_
      refine lv_aload_n hx hb dX3_commonAncestor_6 rfl (lv_at hl 0 rfl) ?_
      refine lv_aload_n hx hb dX3_commonAncestor_7 rfl (lv_at hl 2 rfl) ?_
      refine ro_S (rest := []) (As := [.ref (a 8 k), .ref (a 8 j)]) ⟨hx, hb, hml, hown, hts⟩ (c_X3_isAncestor l g σ a hW k j hk hj) (cwS 2 hts gX3_commonAncestor_X3_isAncestor rfl rfl rfl (by decide +kernel) ⟨Nat.le_of_ble_eq_true rfl, Nat.le_of_ble_eq_true rfl⟩) hP hK rfl hl.1 rfl (Nat.le_of_ble_eq_true rfl) dX3_commonAncestor_8 ⟨Nat.zero_le _, Nat.zero_le _⟩ ?_
      refine z_ifp_eq (P := An (σ 2) k j = true) (tgt := 16) hx hb dX3_commonAncestor_11 (by decide)  (fun h11 => ?_) (fun h11 => ?_)
      ·
        refine lv_aload_n hx hb dX3_commonAncestor_16 rfl (lv_at hl 0 rfl) ?_
        refine z_getN (C := RX2) (T := TX2) (N := 5) (ref := "HarmoniumDesk$Version") (host := RX3) hx hb hts hiX2 hown hK (hP.vk hk).1 rfl 1 (by decide) (by decide +kernel) rfl rfl dX3_commonAncestor_17 ?_
        by_cases hpn : σ 2 k < 0
        ·
          rw [show paV σ a k = none from if_pos hpn]
          refine lv_astore_nN (lv' := [(2, .null), (0, .ref (a 8 i)), (1, .ref (a 8 j))]) hx hb dX3_commonAncestor_20 rfl hl (by decide) rfl (fun ls hl => ?_)
          refine lv_goto (tgt := 2) hx hb dX3_commonAncestor_21 (by decide) ?_
          refine lv_aload_nN hx hb dX3_commonAncestor_2 rfl (lv_at hl 0 rfl) ?_
          refine lv_ifnullN (tgt := 24) hx hb dX3_commonAncestor_3 (by decide) ?_
          refine lv_null hx hb dX3_commonAncestor_24 ?_
          have hb9 : bs (σ 2) i j (σ 0 0).toNat = -1 := bs_none _ (fun y hy hc9 => by
            have e1 := ((hA y).mpr hc9)
            rw [hAs, An_neg _ _ hpn, Bool.or_false] at e1
            exact h11 (by rw [of_decide_eq_true e1.1]; exact e1.2))
          rw [show cmA σ a i j = none from by unfold cmA; rw [hb9]; exact if_pos (by decide)]
          exact z_aret (o := none) hx hb hr hlk dX3_commonAncestor_25
          
        ·
          rw [show paV σ a k = some (a 8 (σ 2 k).toNat) from if_neg hpn]
          refine lv_astore_n (lv' := [(2, .ref (a 8 (σ 2 k).toNat)), (0, .ref (a 8 i)), (1, .ref (a 8 j))]) hx hb dX3_commonAncestor_20 rfl hl (by decide) rfl (fun ls hl => ?_)
          refine lv_goto (tgt := 2) hx hb dX3_commonAncestor_21 (by decide) ?_
          exact ih (σ 2 k).toNat (by omega) (by omega) (fun y => by
            rw [← hA y, hAs y, Int.toNat_of_nonneg (by omega)]
            constructor
            · rintro ⟨e1, e2⟩; exact ⟨by rw [e1, Bool.or_true], e2⟩
            · rintro ⟨e1, e2⟩
              refine ⟨?_, e2⟩
              rcases Bool.or_eq_true _ _ ▸ e1 with e3 | e3
              · exact absurd (by rw [of_decide_eq_true e3]; exact e2) h11
              · exact e3) ls (lv_sub hl [0, 1, 2] rfl)
      ·
        refine lv_aload_n hx hb dX3_commonAncestor_14 rfl (lv_at hl 0 rfl) ?_
        have hkk := (hA k).mp ⟨An_self _ _, h11⟩
        have hb9 : bs (σ 2) i j (σ 0 0).toNat = k := bs_of _ (by omega) hkk.1 hkk.2 (fun y hy hy2 hc9 => by have := An_le hW.pd y (k + 1) k (by omega) hk ((hA y).mpr hc9).1; omega)
        rw [show cmA σ a i j = some (a 8 k) from by unfold cmA; rw [hb9, if_neg (by omega), Int.toNat_natCast]]
        exact z_aret (o := some (a 8 k)) hx hb hr hlk dX3_commonAncestor_15
  exact loop (i + 1) i (by omega) hi (fun _ => Iff.rfl) ls (lv_sub hl [0, 1, 2] rfl)

set_option maxHeartbeats 4000000 in
set_option maxRecDepth 100000 in
theorem c_X3_weightedFaults (l : Launch) (g : gG) (σ : SG) (a : AD) (q sa sb : Nat) (n : Int) (u lo : Nat → Int) (hu : Nt u) (hlo : Nt lo) (nb : Nat) (hnb : n = (nb : Int)) (hnb1 : nb ≤ 12) (f mm : Nat) (hfm : f + mm ≤ 12) (zf : Int) (hzf : zf = (f : Int)) (ze : Int) (hze : ze = ((f + mm : Nat) : Int)) : RO l yX3_weightedFaults wsX3_weightedFaults ({ frames := 4, cells := 0, slots := 0, locals := 90 }) g [.ref (a 1 0), .ref q, .int (zi (zf)), .int (zi (ze))] (fun H => va_at g.1 vwCl (deskO σ a) H ∧ va_at g.1 vwCl (wtO g σ a) H ∧ ScP g q sa sb n u lo H) (wfs (σ 6) nb u lo f mm 6) := by
  refine RO.ofW (cc := cX3_weightedFaults) (maxL := 7) (ret := (some .int)) (by decide) rfl (Nat.le_of_ble_eq_true rfl) ?_
  intro p e s m below meth c ls hx hb hr hml hown hts hlk hP hK hl
  have hown : s.vm.findClass RX3 = some m.cls := hown
  have hl : lv_has ls 7 [(0, .ref (a 1 0)), (1, .ref q), (2, .int (zi (zf))), (3, .int (zi (ze)))] := hl
  have hiX3 : ∀ w ∈ u_ws RX3 TX3 7, w ∈ wsX3_weightedFaults := by decide +kernel
  refine z_iconst hx hb dX3_weightedFaults_0 ?_
  refine z_top (b := wfs (σ 6) nb u lo f mm 0) (rfl) ?_
  refine lv_istore (lv' := [(4, .int (zi (wfs (σ 6) nb u lo f mm 0))), (0, .ref (a 1 0)), (1, .ref q), (2, .int (zi (zf))), (3, .int (zi (ze)))]) hx hb dX3_weightedFaults_1 hl (by decide) rfl (fun ls hl => ?_)
  refine z_iconst hx hb dX3_weightedFaults_3 ?_
  refine z_top (b := ((0 : Nat) : Int)) (rfl) ?_
  refine lv_istore (lv' := [(5, .int (zi (((0 : Nat) : Int)))), (4, .int (zi (wfs (σ 6) nb u lo f mm 0))), (0, .ref (a 1 0)), (1, .ref q), (2, .int (zi (zf))), (3, .int (zi (ze)))]) hx hb dX3_weightedFaults_4 hl (by decide) rfl (fun ls hl => ?_)
  have loop6 : ∀ (d r : Nat), r ≤ 6 → 6 - r = d → ∀ ls : Array Slot, lv_has ls 7 [(5, .int (zi ((r : Int)))), (4, .int (zi (wfs (σ 6) nb u lo f mm r))), (0, .ref (a 1 0)), (1, .ref q), (2, .int (zi (zf))), (3, .int (zi (ze)))] → W p l e ({ frames := 4, cells := 0, slots := 0, locals := 90 }) s m ([.ref (a 1 0), .ref q, .int (zi (zf)), .int (zi (ze))] : List Value).toArray below meth c s.heap [] 0 0 (MQ below (vp_Si (fun z9 => z9 = zi (wfs (σ 6) nb u lo f mm 6))) ([.ref (a 1 0), .ref q, .int (zi (zf)), .int (zi (ze))] : List Value).toArray s 0 0 (fun _ => False)) (F0 m 6 ls []) := by
    intro d
    induction d with
    | zero =>
      intro r hr7 hd2 ls hl
      have er : r = 6 := by omega
      refine lv_iload hx hb dX3_weightedFaults_6 (lv_at hl 0 rfl) ?_
      refine lv_aload_n hx hb dX3_weightedFaults_8 rfl (lv_at hl 2 rfl) ?_
      refine z_get (C := RX3) (T := TX3) (N := 7) hx hb hts hiX3 hown hK hP.1 rfl 4 (by decide) (hts (.fieldLink RX3 28 "HarmoniumDesk" "weights" "[I") (by decide +kernel)) rfl rfl dX3_weightedFaults_9 ?_
      refine z_alen hx hb hK hP.2.1 0 rfl dX3_weightedFaults_12 ?_
      refine z_icmp_ge (tgt := 58) hx hb dX3_weightedFaults_13 (by decide) (by omega) (by omega) (fun h13 => ?_) (fun h13 => ?_)
      ·
        refine lv_iload hx hb dX3_weightedFaults_58 (lv_at hl 1 rfl) ?_
        exact z_iret hx hb hr hlk dX3_weightedFaults_60 (by rw [er])
      · exfalso; omega
    | succ d ih =>
      intro r hr7 hd2 ls hl
      refine lv_iload hx hb dX3_weightedFaults_6 (lv_at hl 0 rfl) ?_
      refine lv_aload_n hx hb dX3_weightedFaults_8 rfl (lv_at hl 2 rfl) ?_
      refine z_get (C := RX3) (T := TX3) (N := 7) hx hb hts hiX3 hown hK hP.1 rfl 4 (by decide) (hts (.fieldLink RX3 28 "HarmoniumDesk" "weights" "[I") (by decide +kernel)) rfl rfl dX3_weightedFaults_9 ?_
      refine z_alen hx hb hK hP.2.1 0 rfl dX3_weightedFaults_12 ?_
      refine z_icmp_ge (tgt := 58) hx hb dX3_weightedFaults_13 (by decide) (by omega) (by omega) (fun h13 => ?_) (fun h13 => ?_)
      · exfalso; omega
      ·
        refine lv_iload_n hx hb dX3_weightedFaults_16 rfl (lv_at hl 4 rfl) ?_
        refine lv_istore (lv' := [(6, .int (zi (zf))), (5, .int (zi ((r : Int)))), (4, .int (zi (wfs (σ 6) nb u lo f mm r))), (0, .ref (a 1 0)), (1, .ref q), (2, .int (zi (zf))), (3, .int (zi (ze)))]) hx hb dX3_weightedFaults_17 hl (by decide) rfl (fun ls hl => ?_)
        have loop19 : ∀ (d2 j : Nat), j ≤ mm → mm - j = d2 → ∀ ls : Array Slot, lv_has ls 7 [(6, .int (zi (((f + j : Nat) : Int)))), (4, .int (zi (wfs (σ 6) nb u lo f mm r + wfr (σ 6) r nb u lo f j))), (5, .int (zi ((r : Int)))), (0, .ref (a 1 0)), (1, .ref q), (2, .int (zi (zf))), (3, .int (zi (ze)))] → W p l e ({ frames := 4, cells := 0, slots := 0, locals := 90 }) s m ([.ref (a 1 0), .ref q, .int (zi (zf)), .int (zi (ze))] : List Value).toArray below meth c s.heap [] 0 0 (MQ below (vp_Si (fun z9 => z9 = zi (wfs (σ 6) nb u lo f mm 6))) ([.ref (a 1 0), .ref q, .int (zi (zf)), .int (zi (ze))] : List Value).toArray s 0 0 (fun _ => False)) (F0 m 19 ls []) := by
          intro d2
          induction d2 with
          | zero =>
            intro j hj7 hd3 ls hl
            have ej : j = mm := by omega
            refine lv_iload hx hb dX3_weightedFaults_19 (lv_at hl 0 rfl) ?_
            refine lv_iload_n hx hb dX3_weightedFaults_21 rfl (lv_at hl 6 rfl) ?_
            refine z_icmp_ge (tgt := 52) hx hb dX3_weightedFaults_22 (by decide) (by omega) (by omega) (fun h22 => ?_) (fun h22 => ?_)
            ·
              refine z_iinc (b := ((r + 1 : Nat) : Int)) (lv' := [(5, .int (zi (((r + 1 : Nat) : Int)))), (6, .int (zi (((f + j : Nat) : Int)))), (4, .int (zi (wfs (σ 6) nb u lo f mm r + wfr (σ 6) r nb u lo f j))), (0, .ref (a 1 0)), (1, .ref q), (2, .int (zi (zf))), (3, .int (zi (ze)))]) hx hb dX3_weightedFaults_52 hl (k := 2) rfl (by omega) (by decide) rfl (fun ls hl => ?_)
              refine lv_goto (tgt := 6) hx hb dX3_weightedFaults_55 (by decide) ?_
              exact ih (r + 1) (by omega) (by omega) ls (by have h9 := lv_sub hl [0, 2, 3, 4, 5, 6] rfl; rw [ej] at h9; exact h9)
            · exfalso; omega
          | succ d2 ih2 =>
            intro j hj7 hd3 ls hl
            refine lv_iload hx hb dX3_weightedFaults_19 (lv_at hl 0 rfl) ?_
            refine lv_iload_n hx hb dX3_weightedFaults_21 rfl (lv_at hl 6 rfl) ?_
            refine z_icmp_ge (tgt := 52) hx hb dX3_weightedFaults_22 (by decide) (by omega) (by omega) (fun h22 => ?_) (fun h22 => ?_)
            · exfalso; omega
            ·
              refine lv_iload hx hb dX3_weightedFaults_25 (lv_at hl 1 rfl) ?_
              refine lv_aload_n hx hb dX3_weightedFaults_27 rfl (lv_at hl 3 rfl) ?_
              refine z_get (C := RX3) (T := TX3) (N := 7) hx hb hts hiX3 hown hK hP.1 rfl 4 (by decide) (hts (.fieldLink RX3 28 "HarmoniumDesk" "weights" "[I") (by decide +kernel)) rfl rfl dX3_weightedFaults_28 ?_
              refine lv_iload hx hb dX3_weightedFaults_31 (lv_at hl 2 rfl) ?_
              refine z_iald hx hb hK hP.2.1 (r) (by omega) (by omega) (by decide) dX3_weightedFaults_33 ?_
              refine lv_aload_n hx hb dX3_weightedFaults_34 rfl (lv_at hl 4 rfl) ?_
              refine lv_iload hx hb dX3_weightedFaults_35 (lv_at hl 2 rfl) ?_
              refine lv_iload hx hb dX3_weightedFaults_37 (lv_at hl 0 rfl) ?_
              refine ro_V (rest := [.int (zi (σ 6 (r))), .int (zi (wfs (σ 6) nb u lo f mm r + wfr (σ 6) r nb u lo f j))]) (As := [.int (zi ((r : Int))), .int (zi (((f + j : Nat) : Int)))]) ⟨hx, hb, hml, hown, hts⟩ (c_X1_faultsOf l g q sa sb n u lo hu hlo (f + j) (by omega) (((f + j : Nat) : Int)) (by omega) nb hnb hnb1 r (by omega) ((r : Int)) (by omega)) (cwV 2 hts gX3_weightedFaults_X1_faultsOf rfl rfl rfl (by decide +kernel) ⟨Nat.le_of_ble_eq_true rfl, Nat.le_of_ble_eq_true rfl⟩) (z_recv hK hP.2.2.1 rfl) hP.2.2 hK rfl hl.1 rfl (Nat.le_of_ble_eq_true rfl) dX3_weightedFaults_39 ⟨Nat.zero_le _, Nat.zero_le _⟩ ?_
              refine z_imul hx hb dX3_weightedFaults_42 ?_
              refine z_iadd hx hb dX3_weightedFaults_43 ?_
              refine z_top (b := wfs (σ 6) nb u lo f mm r + wfr (σ 6) r nb u lo f (j + 1)) (by simp only [wfr]; omega) ?_
              refine lv_istore (lv' := [(4, .int (zi (wfs (σ 6) nb u lo f mm r + wfr (σ 6) r nb u lo f (j + 1)))), (6, .int (zi (((f + j : Nat) : Int)))), (5, .int (zi ((r : Int)))), (0, .ref (a 1 0)), (1, .ref q), (2, .int (zi (zf))), (3, .int (zi (ze)))]) hx hb dX3_weightedFaults_44 hl (by decide) rfl (fun ls hl => ?_)
              refine z_iinc (b := ((f + (j + 1) : Nat) : Int)) (lv' := [(6, .int (zi (((f + (j + 1) : Nat) : Int)))), (4, .int (zi (wfs (σ 6) nb u lo f mm r + wfr (σ 6) r nb u lo f (j + 1)))), (5, .int (zi ((r : Int)))), (0, .ref (a 1 0)), (1, .ref q), (2, .int (zi (zf))), (3, .int (zi (ze)))]) hx hb dX3_weightedFaults_46 hl (k := 1) rfl (by omega) (by decide) rfl (fun ls hl => ?_)
              refine lv_goto (tgt := 19) hx hb dX3_weightedFaults_49 (by decide) ?_
              exact ih2 (j + 1) (by omega) (by omega) ls (lv_sub hl [0, 1, 2, 3, 4, 5, 6] rfl)
        exact loop19 _ 0 (by omega) rfl ls (by have h9 := lv_sub hl [0, 2, 1, 3, 4, 5, 6] rfl; rw [show zf = ((f + 0 : Nat) : Int) by omega, ← Int.add_zero (wfs (σ 6) nb u lo f mm r)] at h9; rw [show zf = ((f + 0 : Nat) : Int) by omega]; exact h9)
  exact loop6 _ 0 (by omega) rfl ls (lv_sub hl [0, 1, 2, 3, 4, 5] rfl)

set_option maxHeartbeats 4000000 in
set_option maxRecDepth 100000 in
theorem c_X3_markOf (l : Launch) (g : gG) (σ : SG) (a : AD) (hW : WF σ) (q sa sb : Nat) (n : Int) (u lo : Nat → Int) (hu : Nt u) (hlo : Nt lo) (nb : Nat) (hnb : n = (nb : Int)) (hnb1 : nb ≤ 12) (x : Int) (hx9 : x = if 100 < wfs (σ 6) nb u lo 0 nb 6 then 0 else 100 - wfs (σ 6) nb u lo 0 nb 6) : RO l yX3_markOf wsX3_markOf ({ frames := 5, cells := 0, slots := 0, locals := 116 }) g [.ref (a 1 0), .ref q] (fun H => va_at g.1 vwCl (deskO σ a) H ∧ va_at g.1 vwCl (wtO g σ a) H ∧ ScP g q sa sb n u lo H) (x) := by
  refine RO.ofW (cc := cX3_markOf) (maxL := 2) (ret := (some .int)) (by decide) rfl (Nat.le_of_ble_eq_true rfl) ?_
  intro p e s m below meth c ls hx hb hr hml hown hts hlk hP hK hl
  have hown : s.vm.findClass RX3 = some m.cls := hown
  have hl : lv_has ls 2 [(0, .ref (a 1 0)), (1, .ref q)] := hl
  have hiX1 : ∀ w ∈ u_ws RX1 TX1 3, w ∈ wsX3_markOf := by decide +kernel
  have hw := wfs_r hW.wt nb u lo 0 nb hnb1 6
  refine z_iconst hx hb dX3_markOf_0 ?_
  refine z_bipush hx hb dX3_markOf_1 (by decide) ?_
  refine lv_aload_n hx hb dX3_markOf_3 rfl (lv_at hl 0 rfl) ?_
  refine lv_aload_n hx hb dX3_markOf_4 rfl (lv_at hl 1 rfl) ?_
  refine z_iconst hx hb dX3_markOf_5 ?_
  refine lv_aload_n hx hb dX3_markOf_6 rfl (lv_at hl 1 rfl) ?_
  refine z_getN (C := RX1) (T := TX1) (N := 3) (ref := "HarmoniumDesk$Score") (host := RX3) hx hb hts hiX1 hown hK hP.2.2.1 rfl 0 (by decide) (by decide +kernel) rfl rfl dX3_markOf_7 ?_
  refine ro_V (rest := [.int (zi (100)), .int (zi (0))]) (As := [.ref q, .int (zi (0)), .int (zi (n))]) ⟨hx, hb, hml, hown, hts⟩ (c_X3_weightedFaults l g σ a q sa sb n u lo hu hlo nb hnb hnb1 0 nb (by omega) (0) (by omega) (n) (by omega)) (cwV 3 hts gX3_markOf_X3_weightedFaults rfl rfl rfl (by decide +kernel) ⟨Nat.le_of_ble_eq_true rfl, Nat.le_of_ble_eq_true rfl⟩) (z_recv hK hP.1 rfl) hP hK rfl hl.1 rfl (Nat.le_of_ble_eq_true rfl) dX3_markOf_10 ⟨Nat.zero_le _, Nat.zero_le _⟩ ?_
  refine z_isub hx hb dX3_markOf_13 ?_
  refine z_max (d := x) hx hb (hml.trans hl.1.symm) hown (hts (.methodLink RX3 210 Lib.Math.max.name) (by decide +kernel)) (hts (.static Lib.Math.max.name) (by decide +kernel)) (hts (.initialized "java/lang/Math") (by decide +kernel)) (hts (.code Lib.Math.max.name Lib.Math.max.code 2 (some .int)) (by decide +kernel)) (Nat.le_of_ble_eq_true rfl) (Nat.le_of_ble_eq_true rfl) (Nat.zero_le _) (Nat.zero_le _) (by omega) (by omega) (by intro h; rw [hx9]; split <;> omega) (by intro h; rw [hx9]; split <;> omega) dX3_markOf_14 ?_
  exact z_iret hx hb hr hlk dX3_markOf_17 (rfl)

set_option maxHeartbeats 4000000 in
set_option maxRecDepth 100000 in
theorem c_X3_conflictingBars (l : Launch) (g : gG) (q1 a1 b1 : Nat) (n1 : Int) (u1 l1 : Nat → Int) (nu1 : Nt u1) (nl1 : Nt l1) (q2 a2 b2 : Nat) (n2 : Int) (u2 l2 : Nat → Int) (nu2 : Nt u2) (nl2 : Nt l2) (q3 a3 b3 : Nat) (n3 : Int) (u3 l3 : Nat → Int) (nu3 : Nt u3) (nl3 : Nt l3) (nb : Nat) (hnb : n1 = (nb : Int)) (hnb1 : nb ≤ 12) : RO l yX3_conflictingBars wsX3_conflictingBars ({ frames := 2, cells := 0, slots := 0, locals := 45 }) g [.ref q1, .ref q2, .ref q3] (fun H => ScP g q1 a1 b1 n1 u1 l1 H ∧ ScP g q2 a2 b2 n2 u2 l2 H ∧ ScP g q3 a3 b3 n3 u3 l3 H) ((sset (c3B u1 l1 u2 l2 u3 l3) nb).toInt) := by
  refine RO.ofW (cc := cX3_conflictingBars) (maxL := 5) (ret := (some .int)) (by decide) rfl (Nat.le_of_ble_eq_true rfl) ?_
  intro p e s m below meth c ls hx hb hr hml hown hts hlk hP hK hl
  have hown : s.vm.findClass RX3 = some m.cls := hown
  have hl : lv_has ls 5 [(0, .ref q1), (1, .ref q2), (2, .ref q3)] := hl
  have hiX1 : ∀ w ∈ u_ws RX1 TX1 3, w ∈ wsX3_conflictingBars := by decide +kernel
  refine z_iconst hx hb dX3_conflictingBars_0 ?_
  refine z_xtop (y := sset (c3B u1 l1 u2 l2 u3 l3) 0) (rfl) ?_
  refine lv_istore_n (lv' := [(3, .int (sset (c3B u1 l1 u2 l2 u3 l3) 0)), (0, .ref q1), (1, .ref q2), (2, .ref q3)]) hx hb dX3_conflictingBars_1 rfl hl (by decide) rfl (fun ls hl => ?_)
  refine z_iconst hx hb dX3_conflictingBars_2 ?_
  refine z_top (b := ((0 : Nat) : Int)) (rfl) ?_
  refine lv_istore (lv' := [(4, .int (zi (((0 : Nat) : Int)))), (3, .int (sset (c3B u1 l1 u2 l2 u3 l3) 0)), (0, .ref q1), (1, .ref q2), (2, .ref q3)]) hx hb dX3_conflictingBars_3 hl (by decide) rfl (fun ls hl => ?_)
  have loop : ∀ (d b : Nat), b ≤ nb → nb - b = d → ∀ ls : Array Slot, lv_has ls 5 [(4, .int (zi ((b : Int)))), (3, .int (sset (c3B u1 l1 u2 l2 u3 l3) b)), (0, .ref q1), (1, .ref q2), (2, .ref q3)] → W p l e ({ frames := 2, cells := 0, slots := 0, locals := 45 }) s m ([.ref q1, .ref q2, .ref q3] : List Value).toArray below meth c s.heap [] 0 0 (MQ below (vp_Si (fun z9 => z9 = zi ((sset (c3B u1 l1 u2 l2 u3 l3) nb).toInt))) ([.ref q1, .ref q2, .ref q3] : List Value).toArray s 0 0 (fun _ => False)) (F0 m 5 ls []) := by
    intro d
    induction d with
    | zero =>
      intro b hb7 hd2 ls hl
      have eb : b = nb := by omega
      refine lv_iload hx hb dX3_conflictingBars_5 (lv_at hl 0 rfl) ?_
      refine lv_aload_n hx hb dX3_conflictingBars_7 rfl (lv_at hl 2 rfl) ?_
      refine z_getN (C := RX1) (T := TX1) (N := 3) (ref := "HarmoniumDesk$Score") (host := RX3) hx hb hts hiX1 hown hK hP.1.1 rfl 0 (by decide) (by decide +kernel) rfl rfl dX3_conflictingBars_8 ?_
      refine z_icmp_ge (tgt := 57) hx hb dX3_conflictingBars_11 (by decide) (by omega) (by omega) (fun h11 => ?_) (fun h11 => ?_)
      ·
        refine lv_iload_n hx hb dX3_conflictingBars_57 rfl (lv_at hl 1 rfl) ?_
        refine z_xtop (y := zi ((sset (c3B u1 l1 u2 l2 u3 l3) nb).toInt)) (by rw [eb]; exact zi_of _) ?_
        exact z_iret hx hb hr hlk dX3_conflictingBars_58 (rfl)
      · exfalso; omega
    | succ d ih =>
      intro b hb7 hd2 ls hl
      refine lv_iload hx hb dX3_conflictingBars_5 (lv_at hl 0 rfl) ?_
      refine lv_aload_n hx hb dX3_conflictingBars_7 rfl (lv_at hl 2 rfl) ?_
      refine z_getN (C := RX1) (T := TX1) (N := 3) (ref := "HarmoniumDesk$Score") (host := RX3) hx hb hts hiX1 hown hK hP.1.1 rfl 0 (by decide) (by decide +kernel) rfl rfl dX3_conflictingBars_8 ?_
      refine z_icmp_ge (tgt := 57) hx hb dX3_conflictingBars_11 (by decide) (by omega) (by omega) (fun h11 => ?_) (fun h11 => ?_)
      · exfalso; omega
      ·
        refine lv_aload_n hx hb dX3_conflictingBars_14 rfl (lv_at hl 2 rfl) ?_
        refine lv_aload_n hx hb dX3_conflictingBars_15 rfl (lv_at hl 3 rfl) ?_
        refine lv_iload hx hb dX3_conflictingBars_16 (lv_at hl 0 rfl) ?_
        refine ro_V (rest := []) (As := [.ref q2, .int (zi ((b : Int)))]) ⟨hx, hb, hml, hown, hts⟩ (c_X1_sameBar l g q1 a1 b1 n1 u1 l1 nu1 nl1 q2 a2 b2 n2 u2 l2 nu2 nl2 b (by omega) ((b : Int)) (by omega)) (cwV 2 hts gX3_conflictingBars_X1_sameBar rfl rfl rfl (by decide +kernel) ⟨Nat.le_of_ble_eq_true rfl, Nat.le_of_ble_eq_true rfl⟩) (z_recv hK hP.1.1 rfl) ⟨hP.1, hP.2.1⟩ hK rfl hl.1 rfl (Nat.le_of_ble_eq_true rfl) dX3_conflictingBars_18 ⟨Nat.zero_le _, Nat.zero_le _⟩ ?_
        refine z_ifp_ne (P := Sb u1 l1 u2 l2 b) (tgt := 51) hx hb dX3_conflictingBars_21 (by decide)  (fun h21 => ?_) (fun h21 => ?_)
        ·
          rw [show sset (c3B u1 l1 u2 l2 u3 l3) b = sset (c3B u1 l1 u2 l2 u3 l3) (b + 1) from (if_neg (fun hh => by have hh := of_decide_eq_true (p := ¬ Sb u1 l1 u2 l2 b ∧ ¬ Sb u1 l1 u3 l3 b ∧ ¬ Sb u2 l2 u3 l3 b) hh; first | exact hh.1 (by assumption) | exact hh.2.1 (by assumption) | exact hh.2.2 (by assumption))).symm] at hl
          refine z_iinc (b := ((b + 1 : Nat) : Int)) (lv' := [(4, .int (zi (((b + 1 : Nat) : Int)))), (3, .int (sset (c3B u1 l1 u2 l2 u3 l3) (b + 1))), (0, .ref q1), (1, .ref q2), (2, .ref q3)]) hx hb dX3_conflictingBars_51 hl (k := 0) rfl (by omega) (by decide) rfl (fun ls hl => ?_)
          refine lv_goto (tgt := 5) hx hb dX3_conflictingBars_54 (by decide) ?_
          exact ih (b + 1) (by omega) (by omega) ls (lv_sub hl [0, 1, 2, 3, 4] rfl)
        ·
          refine lv_aload_n hx hb dX3_conflictingBars_24 rfl (lv_at hl 2 rfl) ?_
          refine lv_aload_n hx hb dX3_conflictingBars_25 rfl (lv_at hl 4 rfl) ?_
          refine lv_iload hx hb dX3_conflictingBars_26 (lv_at hl 0 rfl) ?_
          refine ro_V (rest := []) (As := [.ref q3, .int (zi ((b : Int)))]) ⟨hx, hb, hml, hown, hts⟩ (c_X1_sameBar l g q1 a1 b1 n1 u1 l1 nu1 nl1 q3 a3 b3 n3 u3 l3 nu3 nl3 b (by omega) ((b : Int)) (by omega)) (cwV 2 hts gX3_conflictingBars_X1_sameBar rfl rfl rfl (by decide +kernel) ⟨Nat.le_of_ble_eq_true rfl, Nat.le_of_ble_eq_true rfl⟩) (z_recv hK hP.1.1 rfl) ⟨hP.1, hP.2.2⟩ hK rfl hl.1 rfl (Nat.le_of_ble_eq_true rfl) dX3_conflictingBars_28 ⟨Nat.zero_le _, Nat.zero_le _⟩ ?_
          refine z_ifp_ne (P := Sb u1 l1 u3 l3 b) (tgt := 51) hx hb dX3_conflictingBars_31 (by decide)  (fun h31 => ?_) (fun h31 => ?_)
          ·
            rw [show sset (c3B u1 l1 u2 l2 u3 l3) b = sset (c3B u1 l1 u2 l2 u3 l3) (b + 1) from (if_neg (fun hh => by have hh := of_decide_eq_true (p := ¬ Sb u1 l1 u2 l2 b ∧ ¬ Sb u1 l1 u3 l3 b ∧ ¬ Sb u2 l2 u3 l3 b) hh; first | exact hh.1 (by assumption) | exact hh.2.1 (by assumption) | exact hh.2.2 (by assumption))).symm] at hl
            refine z_iinc (b := ((b + 1 : Nat) : Int)) (lv' := [(4, .int (zi (((b + 1 : Nat) : Int)))), (3, .int (sset (c3B u1 l1 u2 l2 u3 l3) (b + 1))), (0, .ref q1), (1, .ref q2), (2, .ref q3)]) hx hb dX3_conflictingBars_51 hl (k := 0) rfl (by omega) (by decide) rfl (fun ls hl => ?_)
            refine lv_goto (tgt := 5) hx hb dX3_conflictingBars_54 (by decide) ?_
            exact ih (b + 1) (by omega) (by omega) ls (lv_sub hl [0, 1, 2, 3, 4] rfl)
          ·
            refine lv_aload_n hx hb dX3_conflictingBars_34 rfl (lv_at hl 3 rfl) ?_
            refine lv_aload_n hx hb dX3_conflictingBars_35 rfl (lv_at hl 4 rfl) ?_
            refine lv_iload hx hb dX3_conflictingBars_36 (lv_at hl 0 rfl) ?_
            refine ro_V (rest := []) (As := [.ref q3, .int (zi ((b : Int)))]) ⟨hx, hb, hml, hown, hts⟩ (c_X1_sameBar l g q2 a2 b2 n2 u2 l2 nu2 nl2 q3 a3 b3 n3 u3 l3 nu3 nl3 b (by omega) ((b : Int)) (by omega)) (cwV 2 hts gX3_conflictingBars_X1_sameBar rfl rfl rfl (by decide +kernel) ⟨Nat.le_of_ble_eq_true rfl, Nat.le_of_ble_eq_true rfl⟩) (z_recv hK hP.2.1.1 rfl) ⟨hP.2.1, hP.2.2⟩ hK rfl hl.1 rfl (Nat.le_of_ble_eq_true rfl) dX3_conflictingBars_38 ⟨Nat.zero_le _, Nat.zero_le _⟩ ?_
            refine z_ifp_ne (P := Sb u2 l2 u3 l3 b) (tgt := 51) hx hb dX3_conflictingBars_41 (by decide)  (fun h41 => ?_) (fun h41 => ?_)
            ·
              rw [show sset (c3B u1 l1 u2 l2 u3 l3) b = sset (c3B u1 l1 u2 l2 u3 l3) (b + 1) from (if_neg (fun hh => by have hh := of_decide_eq_true (p := ¬ Sb u1 l1 u2 l2 b ∧ ¬ Sb u1 l1 u3 l3 b ∧ ¬ Sb u2 l2 u3 l3 b) hh; first | exact hh.1 (by assumption) | exact hh.2.1 (by assumption) | exact hh.2.2 (by assumption))).symm] at hl
              refine z_iinc (b := ((b + 1 : Nat) : Int)) (lv' := [(4, .int (zi (((b + 1 : Nat) : Int)))), (3, .int (sset (c3B u1 l1 u2 l2 u3 l3) (b + 1))), (0, .ref q1), (1, .ref q2), (2, .ref q3)]) hx hb dX3_conflictingBars_51 hl (k := 0) rfl (by omega) (by decide) rfl (fun ls hl => ?_)
              refine lv_goto (tgt := 5) hx hb dX3_conflictingBars_54 (by decide) ?_
              exact ih (b + 1) (by omega) (by omega) ls (lv_sub hl [0, 1, 2, 3, 4] rfl)
            ·
              refine lv_iload_n hx hb dX3_conflictingBars_44 rfl (lv_at hl 1 rfl) ?_
              refine z_iconst hx hb dX3_conflictingBars_45 ?_
              refine lv_iload hx hb dX3_conflictingBars_46 (lv_at hl 0 rfl) ?_
              refine lv_ishl hx hb dX3_conflictingBars_48 ?_
              refine lv_ior hx hb dX3_conflictingBars_49 ?_
              refine z_xtop (y := sset (c3B u1 l1 u2 l2 u3 l3) (b + 1)) (sset_t (c3B u1 l1 u2 l2 u3 l3) b (decide_eq_true ⟨h21, h31, h41⟩)) ?_
              refine lv_istore_n (lv' := [(3, .int (sset (c3B u1 l1 u2 l2 u3 l3) (b + 1))), (4, .int (zi ((b : Int)))), (0, .ref q1), (1, .ref q2), (2, .ref q3)]) hx hb dX3_conflictingBars_50 rfl hl (by decide) rfl (fun ls hl => ?_)
              refine z_iinc (b := ((b + 1 : Nat) : Int)) (lv' := [(4, .int (zi (((b + 1 : Nat) : Int)))), (3, .int (sset (c3B u1 l1 u2 l2 u3 l3) (b + 1))), (0, .ref q1), (1, .ref q2), (2, .ref q3)]) hx hb dX3_conflictingBars_51 hl (k := 1) rfl (by omega) (by decide) rfl (fun ls hl => ?_)
              refine lv_goto (tgt := 5) hx hb dX3_conflictingBars_54 (by decide) ?_
              exact ih (b + 1) (by omega) (by omega) ls (lv_sub hl [0, 1, 2, 3, 4] rfl)
  exact loop _ 0 (by omega) rfl ls (lv_sub hl [0, 1, 2, 3, 4] rfl)
