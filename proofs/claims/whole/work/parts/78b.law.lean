/-! the law's rounds -/
set_option maxHeartbeats 4000000 in
set_option maxRecDepth 100000 in
theorem L_faults {p : Program} {e : Env} {s : State} {m : MethodId} {below : List Frame} {meth : Method} {c : Code} {Q : State → Prop} {l : Launch} {b L : Nat} {xs : Nat → Int32} {g : gG} {cL cD : ClassId} {ad : Nat → Nat} {o od : Nat} (hC : LC p l s m c b L xs g cL cD ad o od) {σ : SG} {th : Int} {a : AD} {f : Nat → Int64} {fd : Nat → UInt64} {H : Heap} {locs : List Loc} {ls : Array Slot} {cells slots j : Nat} (hW : WF σ) (h12 : S12 σ) (hJ : LJ g cL cD ad o od σ a σ th f fd s.heap.size H) (hS : va_S (SA s) s.heap H locs) (hl : lv_has ls 8 (lv0 b o od ad a j)) (hj : 5 * j + 4 < L) (hc1 : cells + 4 ≤ 601024) (hc2 : slots + 32 ≤ 7293033) (hk : LK p l e s m below meth c b g cL cD ad o od Q j (cells + 4) (slots + 32) 1390) : W p l e room_1 s m #[Value.ref b] below meth c H locs cells slots Q (F0 m 748 ls []) := by
  obtain ⟨hx, hb, hml, hown, hts, hX, hbl, hK, hT, hN, hL, hF, hfl, hL9⟩ := hC
  obtain ⟨σ', k, v, rm, hW', h12', hk3, hB, hM1, ⟨r1, r2, r3, r4⟩, hM2⟩ := S_faults l hfl g cL cD ad hF.1 σ th a hW h12 (xs (5 * j + 1)).toInt (xs (5 * j + 2)).toInt (xs (5 * j + 3)).toInt (zi_rg _) (zi_rg _) (zi_rg _)
  have hl : lv_has ls 8 [(5, .int (zi ((5 * j : Nat) : Int))), (4, .ref od), (3, .ref o), (2, .ref (ad 0)), (1, .ref (a 1 0)), (0, .ref b)] := hl
  refine lv_aload_n hx hb dL_law_748 rfl (lv_at hl 4 rfl) ?_
  refine lv_aload_n hx hb dL_law_749 rfl (lv_at hl 5 rfl) ?_
  refine lv_iload hx hb dL_law_750 (lv_at hl 0 rfl) ?_
  refine z_iconst hx hb dL_law_752 ?_
  refine z_iadd hx hb dL_law_753 ?_
  refine z_sld hx hb hX hbl hS (5 * j + 1) (by omega) (by omega) hL9 dL_law_754 ?_
  refine lv_aload_n hx hb dL_law_755 rfl (lv_at hl 5 rfl) ?_
  refine lv_iload hx hb dL_law_756 (lv_at hl 0 rfl) ?_
  refine z_iconst hx hb dL_law_758 ?_
  refine z_iadd hx hb dL_law_759 ?_
  refine z_sld hx hb hX hbl hS (5 * j + 2) (by omega) (by omega) hL9 dL_law_760 ?_
  refine lv_aload_n hx hb dL_law_761 rfl (lv_at hl 5 rfl) ?_
  refine lv_iload hx hb dL_law_762 (lv_at hl 0 rfl) ?_
  refine z_iconst hx hb dL_law_764 ?_
  refine z_iadd hx hb dL_law_765 ?_
  refine z_sld hx hb hX hbl hS (5 * j + 3) (by omega) (by omega) hL9 dL_law_766 ?_
  refine lv_aload_n hx hb dL_law_767 rfl (lv_at hl 2 rfl) ?_
  refine lj_S (rest := []) (av := [.int (zi (xs (5 * j + 1)).toInt), .int (zi (xs (5 * j + 2)).toInt), .int (zi (xs (5 * j + 3)).toInt)]) ⟨hx, hb, hml, hown, hts⟩ (hM1 o _) (vx_cwSW 5 hts gL_law_L_faults rfl rfl rfl (by decide +kernel) ⟨Nat.le_of_ble_eq_true rfl, Nat.le_of_ble_eq_true rfl⟩) hF hJ hK hT hN hL rfl hl.1 rfl (Nat.le_of_ble_eq_true rfl) dL_law_768 ⟨hc1, hc2⟩ hS (fun a' f' H1 locs1 ha' hf' hJ hS => ?_)
  refine lv_istore (lv' := [(6, .int (zi k)), (5, .int (zi ((5 * j : Nat) : Int))), (4, .ref od), (3, .ref o), (2, .ref (ad 0)), (1, .ref (a 1 0)), (0, .ref b)]) hx hb dL_law_771 hl (by decide) rfl (fun ls hl => ?_)
  refine lv_aload_n hx hb dL_law_773 rfl (lv_at hl 4 rfl) ?_
  refine lv_aload_n hx hb dL_law_774 rfl (lv_at hl 6 rfl) ?_
  refine lv_iload hx hb dL_law_775 (lv_at hl 1 rfl) ?_
  refine z_iconst hx hb dL_law_777 ?_
  refine z_iadd hx hb dL_law_778 ?_
  refine z_sld hx hb hX hbl hS (5 * j + 1) (by omega) (by omega) hL9 dL_law_779 ?_
  refine lv_aload_n hx hb dL_law_780 rfl (lv_at hl 6 rfl) ?_
  refine lv_iload hx hb dL_law_781 (lv_at hl 1 rfl) ?_
  refine z_iconst hx hb dL_law_783 ?_
  refine z_iadd hx hb dL_law_784 ?_
  refine z_sld hx hb hX hbl hS (5 * j + 2) (by omega) (by omega) hL9 dL_law_785 ?_
  refine lv_aload_n hx hb dL_law_786 rfl (lv_at hl 6 rfl) ?_
  refine lv_iload hx hb dL_law_787 (lv_at hl 1 rfl) ?_
  refine z_iconst hx hb dL_law_789 ?_
  refine z_iadd hx hb dL_law_790 ?_
  refine z_sld hx hb hX hbl hS (5 * j + 3) (by omega) (by omega) hL9 dL_law_791 ?_
  refine lr_V (rest := []) (As := [.int (zi (xs (5 * j + 1)).toInt), .int (zi (xs (5 * j + 2)).toInt), .int (zi (xs (5 * j + 3)).toInt)]) ⟨hx, hb, hml, hown, hts⟩ (hM2 _) (cwV 3 hts gL_law_X4_faults rfl r1 r2 (by decide +kernel) ⟨by show rm.frames + 1 ≤ 11; omega, by show 8 + (5 + 11) + rm.locals ≤ 398; omega⟩) (z_recv hK (hJ.2.1 0 _ rfl) rfl) hF hJ hK rfl hl.1 rfl (Nat.le_of_ble_eq_true rfl) dL_law_792 ⟨by show cells + 4 + 0 ≤ 601024; omega, by show slots + 32 + 0 ≤ 7293033; omega⟩ hS (fun H2 locs2 hJ hS => ?_)
  refine lv_istore (lv' := [(7, .int (zi v)), (6, .int (zi k)), (5, .int (zi ((5 * j : Nat) : Int))), (4, .ref od), (3, .ref o), (2, .ref (ad 0)), (1, .ref (a 1 0)), (0, .ref b)]) hx hb dL_law_795 hl (by decide) rfl (fun ls hl => ?_)
  refine lv_aload_n hx hb dL_law_797 rfl (lv_at hl 5 rfl) ?_
  refine lr_V (rest := []) (As := []) ⟨hx, hb, hml, hown, hts⟩ (c_X4_thrown l g ad σ' k hW' hF.1 _) (cwV 0 hts gL_law_X4_thrown rfl rfl rfl (by decide +kernel) ⟨Nat.le_of_ble_eq_true rfl, Nat.le_of_ble_eq_true rfl⟩) (z_recv hK (hJ.2.1 0 _ rfl) rfl) hF hJ hK rfl hl.1 rfl (Nat.le_of_ble_eq_true rfl) dL_law_798 ⟨by show cells + 4 + 0 ≤ 601024; omega, by show slots + 32 + 0 ≤ 7293033; omega⟩ hS (fun H3 locs3 hJ hS => ?_)
  refine lv_iload hx hb dL_law_801 (lv_at hl 1 rfl) ?_
  refine z_icmp_eq (tgt := 808) hx hb dL_law_803 (by decide) (by omega) (by omega) (fun _ => ?_) (fun h => absurd rfl h)
  refine lv_iload hx hb dL_law_808 (lv_at hl 1 rfl) ?_
  refine z_if_ne (tgt := 825) hx hb dL_law_810 (by decide) (by omega) (fun h9 => ?_) (fun h9 => ?_)
  · refine lv_goto (tgt := 1390) hx hb dL_law_825 (by decide) ?_
    exact hk σ' k a' f' fd _ _ ls hW' h12' hJ hS (by show lv_has ls 8 [(5, .int (zi ((5 * j : Nat) : Int))), (4, .ref od), (3, .ref o), (2, .ref (ad 0)), (1, .ref (a' 1 0)), (0, .ref b)]; rw [ha']; exact lv_sub hl [2, 3, 4, 5, 6, 7] rfl)
  ·
    refine lv_aload_n hx hb dL_law_813 rfl (lv_at hl 4 rfl) ?_
    refine z_iconst hx hb dL_law_814 ?_
    refine z_lald hx hb hL hJ.2.2.1 dL_law_815 ?_
    rw [hf' h9]
    refine lv_iload hx hb dL_law_816 (lv_at hl 0 rfl) ?_
    refine lv_i2l hx hb dL_law_818 rfl ?_
    refine W.lcmp hx hb dL_law_819 ?_
    refine z_xtop (y := zi 0) (zc_0 _) ?_
    refine z_if_eq (tgt := 825) hx hb dL_law_820 (by decide) (by decide) (fun _ => ?_) (fun h => absurd rfl h)
    refine lv_goto (tgt := 1390) hx hb dL_law_825 (by decide) ?_
    exact hk σ' k a' f' fd _ _ ls hW' h12' hJ hS (by show lv_has ls 8 [(5, .int (zi ((5 * j : Nat) : Int))), (4, .ref od), (3, .ref o), (2, .ref (ad 0)), (1, .ref (a' 1 0)), (0, .ref b)]; rw [ha']; exact lv_sub hl [2, 3, 4, 5, 6, 7] rfl)
set_option maxHeartbeats 4000000 in
set_option maxRecDepth 100000 in
theorem L_mark {p : Program} {e : Env} {s : State} {m : MethodId} {below : List Frame} {meth : Method} {c : Code} {Q : State → Prop} {l : Launch} {b L : Nat} {xs : Nat → Int32} {g : gG} {cL cD : ClassId} {ad : Nat → Nat} {o od : Nat} (hC : LC p l s m c b L xs g cL cD ad o od) {σ : SG} {th : Int} {a : AD} {f : Nat → Int64} {fd : Nat → UInt64} {H : Heap} {locs : List Loc} {ls : Array Slot} {cells slots j : Nat} (hW : WF σ) (h12 : S12 σ) (hJ : LJ g cL cD ad o od σ a σ th f fd s.heap.size H) (hS : va_S (SA s) s.heap H locs) (hl : lv_has ls 8 (lv0 b o od ad a j)) (hj : 5 * j + 4 < L) (hc1 : cells + 4 ≤ 601024) (hc2 : slots + 32 ≤ 7293033) (hk : LK p l e s m below meth c b g cL cD ad o od Q j (cells + 4) (slots + 32) 1390) : W p l e room_1 s m #[Value.ref b] below meth c H locs cells slots Q (F0 m 828 ls []) := by
  obtain ⟨hx, hb, hml, hown, hts, hX, hbl, hK, hT, hN, hL, hF, hfl, hL9⟩ := hC
  obtain ⟨σ', k, v, rm, hW', h12', hk3, hB, hM1, ⟨r1, r2, r3, r4⟩, hM2⟩ := S_mark l hfl g cL cD ad hF.1 σ th a hW h12 (xs (5 * j + 1)).toInt (zi_rg _)
  have hl : lv_has ls 8 [(5, .int (zi ((5 * j : Nat) : Int))), (4, .ref od), (3, .ref o), (2, .ref (ad 0)), (1, .ref (a 1 0)), (0, .ref b)] := hl
  refine lv_aload_n hx hb dL_law_828 rfl (lv_at hl 4 rfl) ?_
  refine lv_aload_n hx hb dL_law_829 rfl (lv_at hl 5 rfl) ?_
  refine lv_iload hx hb dL_law_830 (lv_at hl 0 rfl) ?_
  refine z_iconst hx hb dL_law_832 ?_
  refine z_iadd hx hb dL_law_833 ?_
  refine z_sld hx hb hX hbl hS (5 * j + 1) (by omega) (by omega) hL9 dL_law_834 ?_
  refine lv_aload_n hx hb dL_law_835 rfl (lv_at hl 2 rfl) ?_
  refine lj_S (rest := []) (av := [.int (zi (xs (5 * j + 1)).toInt)]) ⟨hx, hb, hml, hown, hts⟩ (hM1 o _) (vx_cwSW 3 hts gL_law_L_mark rfl rfl rfl (by decide +kernel) ⟨Nat.le_of_ble_eq_true rfl, Nat.le_of_ble_eq_true rfl⟩) hF hJ hK hT hN hL rfl hl.1 rfl (Nat.le_of_ble_eq_true rfl) dL_law_836 ⟨hc1, hc2⟩ hS (fun a' f' H1 locs1 ha' hf' hJ hS => ?_)
  refine lv_istore (lv' := [(6, .int (zi k)), (5, .int (zi ((5 * j : Nat) : Int))), (4, .ref od), (3, .ref o), (2, .ref (ad 0)), (1, .ref (a 1 0)), (0, .ref b)]) hx hb dL_law_839 hl (by decide) rfl (fun ls hl => ?_)
  refine lv_aload_n hx hb dL_law_841 rfl (lv_at hl 4 rfl) ?_
  refine lv_aload_n hx hb dL_law_842 rfl (lv_at hl 6 rfl) ?_
  refine lv_iload hx hb dL_law_843 (lv_at hl 1 rfl) ?_
  refine z_iconst hx hb dL_law_845 ?_
  refine z_iadd hx hb dL_law_846 ?_
  refine z_sld hx hb hX hbl hS (5 * j + 1) (by omega) (by omega) hL9 dL_law_847 ?_
  refine lr_V (rest := []) (As := [.int (zi (xs (5 * j + 1)).toInt)]) ⟨hx, hb, hml, hown, hts⟩ (hM2 _) (cwV 1 hts gL_law_X4_mark rfl r1 r2 (by decide +kernel) ⟨by show rm.frames + 1 ≤ 11; omega, by show 8 + (2 + 11) + rm.locals ≤ 398; omega⟩) (z_recv hK (hJ.2.1 0 _ rfl) rfl) hF hJ hK rfl hl.1 rfl (Nat.le_of_ble_eq_true rfl) dL_law_848 ⟨by show cells + 4 + 0 ≤ 601024; omega, by show slots + 32 + 0 ≤ 7293033; omega⟩ hS (fun H2 locs2 hJ hS => ?_)
  refine lv_istore (lv' := [(7, .int (zi v)), (6, .int (zi k)), (5, .int (zi ((5 * j : Nat) : Int))), (4, .ref od), (3, .ref o), (2, .ref (ad 0)), (1, .ref (a 1 0)), (0, .ref b)]) hx hb dL_law_851 hl (by decide) rfl (fun ls hl => ?_)
  refine lv_aload_n hx hb dL_law_853 rfl (lv_at hl 5 rfl) ?_
  refine lr_V (rest := []) (As := []) ⟨hx, hb, hml, hown, hts⟩ (c_X4_thrown l g ad σ' k hW' hF.1 _) (cwV 0 hts gL_law_X4_thrown rfl rfl rfl (by decide +kernel) ⟨Nat.le_of_ble_eq_true rfl, Nat.le_of_ble_eq_true rfl⟩) (z_recv hK (hJ.2.1 0 _ rfl) rfl) hF hJ hK rfl hl.1 rfl (Nat.le_of_ble_eq_true rfl) dL_law_854 ⟨by show cells + 4 + 0 ≤ 601024; omega, by show slots + 32 + 0 ≤ 7293033; omega⟩ hS (fun H3 locs3 hJ hS => ?_)
  refine lv_iload hx hb dL_law_857 (lv_at hl 1 rfl) ?_
  refine z_icmp_eq (tgt := 864) hx hb dL_law_859 (by decide) (by omega) (by omega) (fun _ => ?_) (fun h => absurd rfl h)
  refine lv_iload hx hb dL_law_864 (lv_at hl 1 rfl) ?_
  refine z_if_ne (tgt := 881) hx hb dL_law_866 (by decide) (by omega) (fun h9 => ?_) (fun h9 => ?_)
  · refine lv_goto (tgt := 1390) hx hb dL_law_881 (by decide) ?_
    exact hk σ' k a' f' fd _ _ ls hW' h12' hJ hS (by show lv_has ls 8 [(5, .int (zi ((5 * j : Nat) : Int))), (4, .ref od), (3, .ref o), (2, .ref (ad 0)), (1, .ref (a' 1 0)), (0, .ref b)]; rw [ha']; exact lv_sub hl [2, 3, 4, 5, 6, 7] rfl)
  ·
    refine lv_aload_n hx hb dL_law_869 rfl (lv_at hl 4 rfl) ?_
    refine z_iconst hx hb dL_law_870 ?_
    refine z_lald hx hb hL hJ.2.2.1 dL_law_871 ?_
    rw [hf' h9]
    refine lv_iload hx hb dL_law_872 (lv_at hl 0 rfl) ?_
    refine lv_i2l hx hb dL_law_874 rfl ?_
    refine W.lcmp hx hb dL_law_875 ?_
    refine z_xtop (y := zi 0) (zc_0 _) ?_
    refine z_if_eq (tgt := 881) hx hb dL_law_876 (by decide) (by decide) (fun _ => ?_) (fun h => absurd rfl h)
    refine lv_goto (tgt := 1390) hx hb dL_law_881 (by decide) ?_
    exact hk σ' k a' f' fd _ _ ls hW' h12' hJ hS (by show lv_has ls 8 [(5, .int (zi ((5 * j : Nat) : Int))), (4, .ref od), (3, .ref o), (2, .ref (ad 0)), (1, .ref (a' 1 0)), (0, .ref b)]; rw [ha']; exact lv_sub hl [2, 3, 4, 5, 6, 7] rfl)
set_option maxHeartbeats 4000000 in
set_option maxRecDepth 100000 in
theorem L_handIn {p : Program} {e : Env} {s : State} {m : MethodId} {below : List Frame} {meth : Method} {c : Code} {Q : State → Prop} {l : Launch} {b L : Nat} {xs : Nat → Int32} {g : gG} {cL cD : ClassId} {ad : Nat → Nat} {o od : Nat} (hC : LC p l s m c b L xs g cL cD ad o od) {σ : SG} {th : Int} {a : AD} {f : Nat → Int64} {fd : Nat → UInt64} {H : Heap} {locs : List Loc} {ls : Array Slot} {cells slots j : Nat} (hW : WF σ) (h12 : S12 σ) (hJ : LJ g cL cD ad o od σ a σ th f fd s.heap.size H) (hS : va_S (SA s) s.heap H locs) (hl : lv_has ls 8 (lv0 b o od ad a j)) (hj : 5 * j + 4 < L) (hc1 : cells + 4 ≤ 601024) (hc2 : slots + 32 ≤ 7293033) (hk : LK p l e s m below meth c b g cL cD ad o od Q j (cells + 4) (slots + 32) 1390) : W p l e room_1 s m #[Value.ref b] below meth c H locs cells slots Q (F0 m 884 ls []) := by
  obtain ⟨hx, hb, hml, hown, hts, hX, hbl, hK, hT, hN, hL, hF, hfl, hL9⟩ := hC
  obtain ⟨σ', k, v, rm, hW', h12', hk3, hB, hM1, ⟨r1, r2, r3, r4⟩, hM2⟩ := S_handIn l hfl g cL cD ad hF.1 σ th a hW h12 (xs (5 * j + 1)).toInt (zi_rg _)
  have hl : lv_has ls 8 [(5, .int (zi ((5 * j : Nat) : Int))), (4, .ref od), (3, .ref o), (2, .ref (ad 0)), (1, .ref (a 1 0)), (0, .ref b)] := hl
  have hB : v = 0 ∨ v = 1 := hB
  refine lv_aload_n hx hb dL_law_884 rfl (lv_at hl 4 rfl) ?_
  refine lv_aload_n hx hb dL_law_885 rfl (lv_at hl 5 rfl) ?_
  refine lv_iload hx hb dL_law_886 (lv_at hl 0 rfl) ?_
  refine z_iconst hx hb dL_law_888 ?_
  refine z_iadd hx hb dL_law_889 ?_
  refine z_sld hx hb hX hbl hS (5 * j + 1) (by omega) (by omega) hL9 dL_law_890 ?_
  refine lv_aload_n hx hb dL_law_891 rfl (lv_at hl 2 rfl) ?_
  refine lj_S (rest := []) (av := [.int (zi (xs (5 * j + 1)).toInt)]) ⟨hx, hb, hml, hown, hts⟩ (hM1 o _) (vx_cwSW 3 hts gL_law_L_handIn rfl rfl rfl (by decide +kernel) ⟨Nat.le_of_ble_eq_true rfl, Nat.le_of_ble_eq_true rfl⟩) hF hJ hK hT hN hL rfl hl.1 rfl (Nat.le_of_ble_eq_true rfl) dL_law_892 ⟨hc1, hc2⟩ hS (fun a' f' H1 locs1 ha' hf' hJ hS => ?_)
  refine lv_istore (lv' := [(6, .int (zi k)), (5, .int (zi ((5 * j : Nat) : Int))), (4, .ref od), (3, .ref o), (2, .ref (ad 0)), (1, .ref (a 1 0)), (0, .ref b)]) hx hb dL_law_895 hl (by decide) rfl (fun ls hl => ?_)
  refine lv_aload_n hx hb dL_law_897 rfl (lv_at hl 4 rfl) ?_
  refine lv_aload_n hx hb dL_law_898 rfl (lv_at hl 6 rfl) ?_
  refine lv_iload hx hb dL_law_899 (lv_at hl 1 rfl) ?_
  refine z_iconst hx hb dL_law_901 ?_
  refine z_iadd hx hb dL_law_902 ?_
  refine z_sld hx hb hX hbl hS (5 * j + 1) (by omega) (by omega) hL9 dL_law_903 ?_
  refine lr_V (rest := []) (As := [.int (zi (xs (5 * j + 1)).toInt)]) ⟨hx, hb, hml, hown, hts⟩ (hM2 _) (cwV 1 hts gL_law_X4_handIn rfl r1 r2 (by decide +kernel) ⟨by show rm.frames + 1 ≤ 11; omega, by show 8 + (2 + 11) + rm.locals ≤ 398; omega⟩) (z_recv hK (hJ.2.1 0 _ rfl) rfl) hF hJ hK rfl hl.1 rfl (Nat.le_of_ble_eq_true rfl) dL_law_904 ⟨by show cells + 4 + 0 ≤ 601024; omega, by show slots + 32 + 0 ≤ 7293033; omega⟩ hS (fun H2 locs2 hJ hS => ?_)
  refine lv_istore (lv' := [(7, .int (zi v)), (6, .int (zi k)), (5, .int (zi ((5 * j : Nat) : Int))), (4, .ref od), (3, .ref o), (2, .ref (ad 0)), (1, .ref (a 1 0)), (0, .ref b)]) hx hb dL_law_907 hl (by decide) rfl (fun ls hl => ?_)
  refine lv_aload_n hx hb dL_law_909 rfl (lv_at hl 5 rfl) ?_
  refine lr_V (rest := []) (As := []) ⟨hx, hb, hml, hown, hts⟩ (c_X4_thrown l g ad σ' k hW' hF.1 _) (cwV 0 hts gL_law_X4_thrown rfl rfl rfl (by decide +kernel) ⟨Nat.le_of_ble_eq_true rfl, Nat.le_of_ble_eq_true rfl⟩) (z_recv hK (hJ.2.1 0 _ rfl) rfl) hF hJ hK rfl hl.1 rfl (Nat.le_of_ble_eq_true rfl) dL_law_910 ⟨by show cells + 4 + 0 ≤ 601024; omega, by show slots + 32 + 0 ≤ 7293033; omega⟩ hS (fun H3 locs3 hJ hS => ?_)
  refine lv_iload hx hb dL_law_913 (lv_at hl 1 rfl) ?_
  refine z_icmp_eq (tgt := 920) hx hb dL_law_915 (by decide) (by omega) (by omega) (fun _ => ?_) (fun h => absurd rfl h)
  refine lv_iload hx hb dL_law_920 (lv_at hl 1 rfl) ?_
  refine z_if_ne (tgt := 944) hx hb dL_law_922 (by decide) (by omega) (fun h9 => ?_) (fun h9 => ?_)
  · refine lv_goto (tgt := 1390) hx hb dL_law_944 (by decide) ?_
    exact hk σ' k a' f' fd _ _ ls hW' h12' hJ hS (by show lv_has ls 8 [(5, .int (zi ((5 * j : Nat) : Int))), (4, .ref od), (3, .ref o), (2, .ref (ad 0)), (1, .ref (a' 1 0)), (0, .ref b)]; rw [ha']; exact lv_sub hl [2, 3, 4, 5, 6, 7] rfl)
  ·
    refine lv_aload_n hx hb dL_law_925 rfl (lv_at hl 4 rfl) ?_
    refine z_iconst hx hb dL_law_926 ?_
    refine z_lald hx hb hL hJ.2.2.1 dL_law_927 ?_
    refine lv_iload hx hb dL_law_928 (lv_at hl 0 rfl) ?_
    refine z_if_eq (tgt := 937) hx hb dL_law_930 (by decide) (by omega) (fun h8 => ?_) (fun h8 => ?_)
    · refine lv_lconst (v := 0) hx hb dL_law_937 rfl ?_
      rw [show f' 0 = 0 from (hf' h9).trans (by rw [h8]; rfl)]
      refine W.lcmp hx hb dL_law_938 ?_
      refine z_xtop (y := zi 0) (zc_0 _) ?_
      refine z_if_eq (tgt := 944) hx hb dL_law_939 (by decide) (by decide) (fun _ => ?_) (fun h => absurd rfl h)
      refine lv_goto (tgt := 1390) hx hb dL_law_944 (by decide) ?_
      exact hk σ' k a' f' fd _ _ ls hW' h12' hJ hS (by show lv_has ls 8 [(5, .int (zi ((5 * j : Nat) : Int))), (4, .ref od), (3, .ref o), (2, .ref (ad 0)), (1, .ref (a' 1 0)), (0, .ref b)]; rw [ha']; exact lv_sub hl [2, 3, 4, 5, 6, 7] rfl)
    · refine lv_lconst (v := 1) hx hb dL_law_933 rfl ?_
      refine lv_goto (tgt := 938) hx hb dL_law_934 (by decide) ?_
      rw [show f' 0 = 1 from (hf' h9).trans (by rw [(show v = 1 by omega)]; rfl)]
      refine W.lcmp hx hb dL_law_938 ?_
      refine z_xtop (y := zi 0) (zc_0 _) ?_
      refine z_if_eq (tgt := 944) hx hb dL_law_939 (by decide) (by decide) (fun _ => ?_) (fun h => absurd rfl h)
      refine lv_goto (tgt := 1390) hx hb dL_law_944 (by decide) ?_
      exact hk σ' k a' f' fd _ _ ls hW' h12' hJ hS (by show lv_has ls 8 [(5, .int (zi ((5 * j : Nat) : Int))), (4, .ref od), (3, .ref o), (2, .ref (ad 0)), (1, .ref (a' 1 0)), (0, .ref b)]; rw [ha']; exact lv_sub hl [2, 3, 4, 5, 6, 7] rfl)
set_option maxHeartbeats 4000000 in
set_option maxRecDepth 100000 in
theorem L_fallen {p : Program} {e : Env} {s : State} {m : MethodId} {below : List Frame} {meth : Method} {c : Code} {Q : State → Prop} {l : Launch} {b L : Nat} {xs : Nat → Int32} {g : gG} {cL cD : ClassId} {ad : Nat → Nat} {o od : Nat} (hC : LC p l s m c b L xs g cL cD ad o od) {σ : SG} {th : Int} {a : AD} {f : Nat → Int64} {fd : Nat → UInt64} {H : Heap} {locs : List Loc} {ls : Array Slot} {cells slots j : Nat} (hW : WF σ) (h12 : S12 σ) (hJ : LJ g cL cD ad o od σ a σ th f fd s.heap.size H) (hS : va_S (SA s) s.heap H locs) (hl : lv_has ls 8 (lv0 b o od ad a j)) (hj : 5 * j + 4 < L) (hc1 : cells + 4 ≤ 601024) (hc2 : slots + 32 ≤ 7293033) (hk : LK p l e s m below meth c b g cL cD ad o od Q j (cells + 4) (slots + 32) 1390) : W p l e room_1 s m #[Value.ref b] below meth c H locs cells slots Q (F0 m 947 ls []) := by
  obtain ⟨hx, hb, hml, hown, hts, hX, hbl, hK, hT, hN, hL, hF, hfl, hL9⟩ := hC
  have hl : lv_has ls 8 [(5, .int (zi ((5 * j : Nat) : Int))), (4, .ref od), (3, .ref o), (2, .ref (ad 0)), (1, .ref (a 1 0)), (0, .ref b)] := hl
  refine W.widen (k := cells + 4) (n := slots + 32) (by omega) (by omega) ?_
  refine lv_aload_n hx hb dL_law_947 rfl (lv_at hl 4 rfl) ?_
  refine ro_V (rest := []) (As := []) ⟨hx, hb, hml, hown, hts⟩ (c_X3_fallen l g σ a hW) (cwV 0 hts gL_law_X3_fallen rfl rfl rfl (by decide +kernel) ⟨Nat.le_of_ble_eq_true rfl, Nat.le_of_ble_eq_true rfl⟩) (z_recv hK hJ.1.ob rfl) hJ.1 hK rfl hl.1 rfl (Nat.le_of_ble_eq_true rfl) dL_law_948 ⟨by show cells + 4 + 0 ≤ 601024; omega, by show slots + 32 + 0 ≤ 7293033; omega⟩ ?_
  refine lv_aload_n hx hb dL_law_951 rfl (lv_at hl 3 rfl) ?_
  refine lr_V (rest := [.int (zi ((sset (faB σ) (σ 0 0).toNat).toInt))]) (As := []) ⟨hx, hb, hml, hown, hts⟩ (c_X4_fallen l g ad σ th hW hF.1 _) (cwV 0 hts gL_law_X4_fallen rfl rfl rfl (by decide +kernel) ⟨Nat.le_of_ble_eq_true rfl, Nat.le_of_ble_eq_true rfl⟩) (z_recv hK (hJ.2.1 0 _ rfl) rfl) hF hJ hK rfl hl.1 rfl (Nat.le_of_ble_eq_true rfl) dL_law_952 ⟨by show cells + 4 + 0 ≤ 601024; omega, by show slots + 32 + 0 ≤ 7293033; omega⟩ hS (fun H3 locs3 hJ hS => ?_)
  refine z_icmp_eq (tgt := 1390) hx hb dL_law_955 (by decide) (zi_rg _) (zi_rg _) (fun _ => ?_) (fun h => absurd rfl h)
  exact hk σ 0 a f fd _ _ ls hW h12 hJ hS (lv_sub hl [0, 1, 2, 3, 4, 5] rfl)
set_option maxHeartbeats 4000000 in
set_option maxRecDepth 100000 in
theorem L_best {p : Program} {e : Env} {s : State} {m : MethodId} {below : List Frame} {meth : Method} {c : Code} {Q : State → Prop} {l : Launch} {b L : Nat} {xs : Nat → Int32} {g : gG} {cL cD : ClassId} {ad : Nat → Nat} {o od : Nat} (hC : LC p l s m c b L xs g cL cD ad o od) {σ : SG} {th : Int} {a : AD} {f : Nat → Int64} {fd : Nat → UInt64} {H : Heap} {locs : List Loc} {ls : Array Slot} {cells slots j : Nat} (hW : WF σ) (h12 : S12 σ) (hJ : LJ g cL cD ad o od σ a σ th f fd s.heap.size H) (hS : va_S (SA s) s.heap H locs) (hl : lv_has ls 8 (lv0 b o od ad a j)) (hj : 5 * j + 4 < L) (hc1 : cells + 4 ≤ 601024) (hc2 : slots + 32 ≤ 7293033) (hk : LK p l e s m below meth c b g cL cD ad o od Q j (cells + 4) (slots + 32) 1390) : W p l e room_1 s m #[Value.ref b] below meth c H locs cells slots Q (F0 m 960 ls []) := by
  obtain ⟨hx, hb, hml, hown, hts, hX, hbl, hK, hT, hN, hL, hF, hfl, hL9⟩ := hC
  obtain ⟨σ', k, v, rm, hW', h12', hk3, hB, hM1, ⟨r1, r2, r3, r4⟩, hM2⟩ := S_best l hfl g cL cD ad hF.1 σ th a hW h12 (xs (5 * j + 1)).toInt (xs (5 * j + 2)).toInt (xs (5 * j + 3)).toInt (zi_rg _) (zi_rg _) (zi_rg _)
  have hl : lv_has ls 8 [(5, .int (zi ((5 * j : Nat) : Int))), (4, .ref od), (3, .ref o), (2, .ref (ad 0)), (1, .ref (a 1 0)), (0, .ref b)] := hl
  refine lv_aload_n hx hb dL_law_960 rfl (lv_at hl 4 rfl) ?_
  refine lv_aload_n hx hb dL_law_961 rfl (lv_at hl 5 rfl) ?_
  refine lv_iload hx hb dL_law_962 (lv_at hl 0 rfl) ?_
  refine z_iconst hx hb dL_law_964 ?_
  refine z_iadd hx hb dL_law_965 ?_
  refine z_sld hx hb hX hbl hS (5 * j + 1) (by omega) (by omega) hL9 dL_law_966 ?_
  refine lv_aload_n hx hb dL_law_967 rfl (lv_at hl 5 rfl) ?_
  refine lv_iload hx hb dL_law_968 (lv_at hl 0 rfl) ?_
  refine z_iconst hx hb dL_law_970 ?_
  refine z_iadd hx hb dL_law_971 ?_
  refine z_sld hx hb hX hbl hS (5 * j + 2) (by omega) (by omega) hL9 dL_law_972 ?_
  refine lv_aload_n hx hb dL_law_973 rfl (lv_at hl 5 rfl) ?_
  refine lv_iload hx hb dL_law_974 (lv_at hl 0 rfl) ?_
  refine z_iconst hx hb dL_law_976 ?_
  refine z_iadd hx hb dL_law_977 ?_
  refine z_sld hx hb hX hbl hS (5 * j + 3) (by omega) (by omega) hL9 dL_law_978 ?_
  refine lv_aload_n hx hb dL_law_979 rfl (lv_at hl 2 rfl) ?_
  refine lj_S (rest := []) (av := [.int (zi (xs (5 * j + 1)).toInt), .int (zi (xs (5 * j + 2)).toInt), .int (zi (xs (5 * j + 3)).toInt)]) ⟨hx, hb, hml, hown, hts⟩ (hM1 o _) (vx_cwSW 5 hts gL_law_L_best rfl rfl rfl (by decide +kernel) ⟨Nat.le_of_ble_eq_true rfl, Nat.le_of_ble_eq_true rfl⟩) hF hJ hK hT hN hL rfl hl.1 rfl (Nat.le_of_ble_eq_true rfl) dL_law_980 ⟨hc1, hc2⟩ hS (fun a' f' H1 locs1 ha' hf' hJ hS => ?_)
  refine lv_istore (lv' := [(6, .int (zi k)), (5, .int (zi ((5 * j : Nat) : Int))), (4, .ref od), (3, .ref o), (2, .ref (ad 0)), (1, .ref (a 1 0)), (0, .ref b)]) hx hb dL_law_983 hl (by decide) rfl (fun ls hl => ?_)
  refine lv_aload_n hx hb dL_law_985 rfl (lv_at hl 4 rfl) ?_
  refine lv_aload_n hx hb dL_law_986 rfl (lv_at hl 6 rfl) ?_
  refine lv_iload hx hb dL_law_987 (lv_at hl 1 rfl) ?_
  refine z_iconst hx hb dL_law_989 ?_
  refine z_iadd hx hb dL_law_990 ?_
  refine z_sld hx hb hX hbl hS (5 * j + 1) (by omega) (by omega) hL9 dL_law_991 ?_
  refine lv_aload_n hx hb dL_law_992 rfl (lv_at hl 6 rfl) ?_
  refine lv_iload hx hb dL_law_993 (lv_at hl 1 rfl) ?_
  refine z_iconst hx hb dL_law_995 ?_
  refine z_iadd hx hb dL_law_996 ?_
  refine z_sld hx hb hX hbl hS (5 * j + 2) (by omega) (by omega) hL9 dL_law_997 ?_
  refine lv_aload_n hx hb dL_law_998 rfl (lv_at hl 6 rfl) ?_
  refine lv_iload hx hb dL_law_999 (lv_at hl 1 rfl) ?_
  refine z_iconst hx hb dL_law_1001 ?_
  refine z_iadd hx hb dL_law_1002 ?_
  refine z_sld hx hb hX hbl hS (5 * j + 3) (by omega) (by omega) hL9 dL_law_1003 ?_
  refine lr_V (rest := []) (As := [.int (zi (xs (5 * j + 1)).toInt), .int (zi (xs (5 * j + 2)).toInt), .int (zi (xs (5 * j + 3)).toInt)]) ⟨hx, hb, hml, hown, hts⟩ (hM2 _) (cwV 3 hts gL_law_X4_best rfl r1 r2 (by decide +kernel) ⟨by show rm.frames + 1 ≤ 11; omega, by show 8 + (10 + 11) + rm.locals ≤ 398; omega⟩) (z_recv hK (hJ.2.1 0 _ rfl) rfl) hF hJ hK rfl hl.1 rfl (Nat.le_of_ble_eq_true rfl) dL_law_1004 ⟨by show cells + 4 + 0 ≤ 601024; omega, by show slots + 32 + 0 ≤ 7293033; omega⟩ hS (fun H2 locs2 hJ hS => ?_)
  refine lv_istore (lv' := [(7, .int (zi v)), (6, .int (zi k)), (5, .int (zi ((5 * j : Nat) : Int))), (4, .ref od), (3, .ref o), (2, .ref (ad 0)), (1, .ref (a 1 0)), (0, .ref b)]) hx hb dL_law_1007 hl (by decide) rfl (fun ls hl => ?_)
  refine lv_aload_n hx hb dL_law_1009 rfl (lv_at hl 5 rfl) ?_
  refine lr_V (rest := []) (As := []) ⟨hx, hb, hml, hown, hts⟩ (c_X4_thrown l g ad σ' k hW' hF.1 _) (cwV 0 hts gL_law_X4_thrown rfl rfl rfl (by decide +kernel) ⟨Nat.le_of_ble_eq_true rfl, Nat.le_of_ble_eq_true rfl⟩) (z_recv hK (hJ.2.1 0 _ rfl) rfl) hF hJ hK rfl hl.1 rfl (Nat.le_of_ble_eq_true rfl) dL_law_1010 ⟨by show cells + 4 + 0 ≤ 601024; omega, by show slots + 32 + 0 ≤ 7293033; omega⟩ hS (fun H3 locs3 hJ hS => ?_)
  refine lv_iload hx hb dL_law_1013 (lv_at hl 1 rfl) ?_
  refine z_icmp_eq (tgt := 1020) hx hb dL_law_1015 (by decide) (by omega) (by omega) (fun _ => ?_) (fun h => absurd rfl h)
  refine lv_iload hx hb dL_law_1020 (lv_at hl 1 rfl) ?_
  refine z_if_ne (tgt := 1037) hx hb dL_law_1022 (by decide) (by omega) (fun h9 => ?_) (fun h9 => ?_)
  · refine lv_goto (tgt := 1390) hx hb dL_law_1037 (by decide) ?_
    exact hk σ' k a' f' fd _ _ ls hW' h12' hJ hS (by show lv_has ls 8 [(5, .int (zi ((5 * j : Nat) : Int))), (4, .ref od), (3, .ref o), (2, .ref (ad 0)), (1, .ref (a' 1 0)), (0, .ref b)]; rw [ha']; exact lv_sub hl [2, 3, 4, 5, 6, 7] rfl)
  ·
    refine lv_aload_n hx hb dL_law_1025 rfl (lv_at hl 4 rfl) ?_
    refine z_iconst hx hb dL_law_1026 ?_
    refine z_lald hx hb hL hJ.2.2.1 dL_law_1027 ?_
    rw [hf' h9]
    refine lv_iload hx hb dL_law_1028 (lv_at hl 0 rfl) ?_
    refine lv_i2l hx hb dL_law_1030 rfl ?_
    refine W.lcmp hx hb dL_law_1031 ?_
    refine z_xtop (y := zi 0) (zc_0 _) ?_
    refine z_if_eq (tgt := 1037) hx hb dL_law_1032 (by decide) (by decide) (fun _ => ?_) (fun h => absurd rfl h)
    refine lv_goto (tgt := 1390) hx hb dL_law_1037 (by decide) ?_
    exact hk σ' k a' f' fd _ _ ls hW' h12' hJ hS (by show lv_has ls 8 [(5, .int (zi ((5 * j : Nat) : Int))), (4, .ref od), (3, .ref o), (2, .ref (ad 0)), (1, .ref (a' 1 0)), (0, .ref b)]; rw [ha']; exact lv_sub hl [2, 3, 4, 5, 6, 7] rfl)
set_option maxHeartbeats 4000000 in
set_option maxRecDepth 100000 in
theorem L_movement {p : Program} {e : Env} {s : State} {m : MethodId} {below : List Frame} {meth : Method} {c : Code} {Q : State → Prop} {l : Launch} {b L : Nat} {xs : Nat → Int32} {g : gG} {cL cD : ClassId} {ad : Nat → Nat} {o od : Nat} (hC : LC p l s m c b L xs g cL cD ad o od) {σ : SG} {th : Int} {a : AD} {f : Nat → Int64} {fd : Nat → UInt64} {H : Heap} {locs : List Loc} {ls : Array Slot} {cells slots j : Nat} (hW : WF σ) (h12 : S12 σ) (hJ : LJ g cL cD ad o od σ a σ th f fd s.heap.size H) (hS : va_S (SA s) s.heap H locs) (hl : lv_has ls 8 (lv0 b o od ad a j)) (hj : 5 * j + 4 < L) (hc1 : cells + 4 ≤ 601024) (hc2 : slots + 32 ≤ 7293033) (hk : LK p l e s m below meth c b g cL cD ad o od Q j (cells + 4) (slots + 32) 1390) : W p l e room_1 s m #[Value.ref b] below meth c H locs cells slots Q (F0 m 1040 ls []) := by
  obtain ⟨hx, hb, hml, hown, hts, hX, hbl, hK, hT, hN, hL, hF, hfl, hL9⟩ := hC
  obtain ⟨σ', k, v, rm, hW', h12', hk3, hB, hM1, ⟨r1, r2, r3, r4⟩, hM2⟩ := S_movement l hfl g cL cD ad hF.1 σ th a hW h12 (xs (5 * j + 1)).toInt (xs (5 * j + 2)).toInt (zi_rg _) (zi_rg _)
  have hl : lv_has ls 8 [(5, .int (zi ((5 * j : Nat) : Int))), (4, .ref od), (3, .ref o), (2, .ref (ad 0)), (1, .ref (a 1 0)), (0, .ref b)] := hl
  refine lv_aload_n hx hb dL_law_1040 rfl (lv_at hl 4 rfl) ?_
  refine lv_aload_n hx hb dL_law_1041 rfl (lv_at hl 5 rfl) ?_
  refine lv_iload hx hb dL_law_1042 (lv_at hl 0 rfl) ?_
  refine z_iconst hx hb dL_law_1044 ?_
  refine z_iadd hx hb dL_law_1045 ?_
  refine z_sld hx hb hX hbl hS (5 * j + 1) (by omega) (by omega) hL9 dL_law_1046 ?_
  refine lv_aload_n hx hb dL_law_1047 rfl (lv_at hl 5 rfl) ?_
  refine lv_iload hx hb dL_law_1048 (lv_at hl 0 rfl) ?_
  refine z_iconst hx hb dL_law_1050 ?_
  refine z_iadd hx hb dL_law_1051 ?_
  refine z_sld hx hb hX hbl hS (5 * j + 2) (by omega) (by omega) hL9 dL_law_1052 ?_
  refine lv_aload hx hb dL_law_1053 (lv_at hl 1 rfl) ?_
  refine ljd_S (rest := []) (av := [.int (zi (xs (5 * j + 1)).toInt), .int (zi (xs (5 * j + 2)).toInt)]) ⟨hx, hb, hml, hown, hts⟩ (hM1 od _) (vx_cwSW 4 hts gL_law_L_movement rfl rfl rfl (by decide +kernel) ⟨Nat.le_of_ble_eq_true rfl, Nat.le_of_ble_eq_true rfl⟩) hF hJ hK hT hN hL rfl hl.1 rfl (Nat.le_of_ble_eq_true rfl) dL_law_1055 ⟨hc1, hc2⟩ hS (fun a' f' H1 locs1 ha' hf' hJ hS => ?_)
  refine lv_istore (lv' := [(6, .int (zi k)), (5, .int (zi ((5 * j : Nat) : Int))), (4, .ref od), (3, .ref o), (2, .ref (ad 0)), (1, .ref (a 1 0)), (0, .ref b)]) hx hb dL_law_1058 hl (by decide) rfl (fun ls hl => ?_)
  refine lv_aload_n hx hb dL_law_1060 rfl (lv_at hl 4 rfl) ?_
  refine lv_aload_n hx hb dL_law_1061 rfl (lv_at hl 6 rfl) ?_
  refine lv_iload hx hb dL_law_1062 (lv_at hl 1 rfl) ?_
  refine z_iconst hx hb dL_law_1064 ?_
  refine z_iadd hx hb dL_law_1065 ?_
  refine z_sld hx hb hX hbl hS (5 * j + 1) (by omega) (by omega) hL9 dL_law_1066 ?_
  refine lv_aload_n hx hb dL_law_1067 rfl (lv_at hl 6 rfl) ?_
  refine lv_iload hx hb dL_law_1068 (lv_at hl 1 rfl) ?_
  refine z_iconst hx hb dL_law_1070 ?_
  refine z_iadd hx hb dL_law_1071 ?_
  refine z_sld hx hb hX hbl hS (5 * j + 2) (by omega) (by omega) hL9 dL_law_1072 ?_
  refine lrf_V (rest := []) (As := [.int (zi (xs (5 * j + 1)).toInt), .int (zi (xs (5 * j + 2)).toInt)]) ⟨hx, hb, hml, hown, hts⟩ (hM2 _) (cwV 2 hts gL_law_X4_movement rfl r1 r2 (by decide +kernel) ⟨by show rm.frames + 1 ≤ 11; omega, by show 8 + (5 + 11) + rm.locals ≤ 398; omega⟩) (z_recv hK (hJ.2.1 0 _ rfl) rfl) hF hJ hK rfl hl.1 rfl (Nat.le_of_ble_eq_true rfl) dL_law_1073 ⟨by show cells + 4 + 0 ≤ 601024; omega, by show slots + 32 + 0 ≤ 7293033; omega⟩ hS (fun H2 locs2 hJ hS => ?_)
  refine lv_fstore (lv' := [(7, .float v), (6, .int (zi k)), (5, .int (zi ((5 * j : Nat) : Int))), (4, .ref od), (3, .ref o), (2, .ref (ad 0)), (1, .ref (a 1 0)), (0, .ref b)]) hx hb dL_law_1076 hl (by decide) rfl (fun ls hl => ?_)
  refine lv_aload_n hx hb dL_law_1078 rfl (lv_at hl 5 rfl) ?_
  refine lr_V (rest := []) (As := []) ⟨hx, hb, hml, hown, hts⟩ (c_X4_thrown l g ad σ' k hW' hF.1 _) (cwV 0 hts gL_law_X4_thrown rfl rfl rfl (by decide +kernel) ⟨Nat.le_of_ble_eq_true rfl, Nat.le_of_ble_eq_true rfl⟩) (z_recv hK (hJ.2.1 0 _ rfl) rfl) hF hJ hK rfl hl.1 rfl (Nat.le_of_ble_eq_true rfl) dL_law_1079 ⟨by show cells + 4 + 0 ≤ 601024; omega, by show slots + 32 + 0 ≤ 7293033; omega⟩ hS (fun H3 locs3 hJ hS => ?_)
  refine lv_iload hx hb dL_law_1082 (lv_at hl 1 rfl) ?_
  refine z_icmp_eq (tgt := 1089) hx hb dL_law_1084 (by decide) (by omega) (by omega) (fun _ => ?_) (fun h => absurd rfl h)
  refine lv_iload hx hb dL_law_1089 (lv_at hl 1 rfl) ?_
  refine z_if_ne (tgt := 1127) hx hb dL_law_1091 (by decide) (by omega) (fun h9 => ?_) (fun h9 => ?_)
  · refine lv_goto (tgt := 1390) hx hb dL_law_1127 (by decide) ?_
    exact hk σ' k a' f f' _ _ ls hW' h12' hJ hS (by show lv_has ls 8 [(5, .int (zi ((5 * j : Nat) : Int))), (4, .ref od), (3, .ref o), (2, .ref (ad 0)), (1, .ref (a' 1 0)), (0, .ref b)]; rw [ha']; exact lv_sub hl [2, 3, 4, 5, 6, 7] rfl)
  ·
    refine lv_aload hx hb dL_law_1094 (lv_at hl 3 rfl) ?_
    refine z_iconst hx hb dL_law_1096 ?_
    refine z_dald hx hb hL hJ.2.2.2.1 dL_law_1097 ?_
    rw [hf' h9]
    refine lv_fload hx hb dL_law_1098 (lv_at hl 0 rfl) ?_
    refine lv_f2d hx hb dL_law_1100 (flok_d hB) ?_
    refine lv_dcmp hx hb dL_law_1101 ?_
    refine z_xtop (y := zi 0) (flok_c hB) ?_
    refine z_if_eq (tgt := 1127) hx hb dL_law_1102 (by decide) (by decide) (fun _ => ?_) (fun h => absurd rfl h)
    refine lv_goto (tgt := 1390) hx hb dL_law_1127 (by decide) ?_
    exact hk σ' k a' f f' _ _ ls hW' h12' hJ hS (by show lv_has ls 8 [(5, .int (zi ((5 * j : Nat) : Int))), (4, .ref od), (3, .ref o), (2, .ref (ad 0)), (1, .ref (a' 1 0)), (0, .ref b)]; rw [ha']; exact lv_sub hl [2, 3, 4, 5, 6, 7] rfl)
set_option maxHeartbeats 4000000 in
set_option maxRecDepth 100000 in
theorem L_print {p : Program} {e : Env} {s : State} {m : MethodId} {below : List Frame} {meth : Method} {c : Code} {Q : State → Prop} {l : Launch} {b L : Nat} {xs : Nat → Int32} {g : gG} {cL cD : ClassId} {ad : Nat → Nat} {o od : Nat} (hC : LC p l s m c b L xs g cL cD ad o od) {σ : SG} {th : Int} {a : AD} {f : Nat → Int64} {fd : Nat → UInt64} {H : Heap} {locs : List Loc} {ls : Array Slot} {cells slots j : Nat} (hW : WF σ) (h12 : S12 σ) (hJ : LJ g cL cD ad o od σ a σ th f fd s.heap.size H) (hS : va_S (SA s) s.heap H locs) (hl : lv_has ls 8 (lv0 b o od ad a j)) (hj : 5 * j + 4 < L) (hc1 : cells + 4 ≤ 601024) (hc2 : slots + 32 ≤ 7293033) (hk : LK p l e s m below meth c b g cL cD ad o od Q j (cells + 4) (slots + 32) 1390) : W p l e room_1 s m #[Value.ref b] below meth c H locs cells slots Q (F0 m 1130 ls []) := by
  obtain ⟨hx, hb, hml, hown, hts, hX, hbl, hK, hT, hN, hL, hF, hfl, hL9⟩ := hC
  obtain ⟨σ', k, v, rm, hW', h12', hk3, hB, hM1, ⟨r1, r2, r3, r4⟩, hM2⟩ := S_print l hfl g cL cD ad hF.1 σ th a hW h12 (xs (5 * j + 1)).toInt (xs (5 * j + 2)).toInt (zi_rg _) (zi_rg _)
  have hl : lv_has ls 8 [(5, .int (zi ((5 * j : Nat) : Int))), (4, .ref od), (3, .ref o), (2, .ref (ad 0)), (1, .ref (a 1 0)), (0, .ref b)] := hl
  refine lv_aload_n hx hb dL_law_1130 rfl (lv_at hl 4 rfl) ?_
  refine lv_aload_n hx hb dL_law_1131 rfl (lv_at hl 5 rfl) ?_
  refine lv_iload hx hb dL_law_1132 (lv_at hl 0 rfl) ?_
  refine z_iconst hx hb dL_law_1134 ?_
  refine z_iadd hx hb dL_law_1135 ?_
  refine z_sld hx hb hX hbl hS (5 * j + 1) (by omega) (by omega) hL9 dL_law_1136 ?_
  refine lv_aload_n hx hb dL_law_1137 rfl (lv_at hl 5 rfl) ?_
  refine lv_iload hx hb dL_law_1138 (lv_at hl 0 rfl) ?_
  refine z_iconst hx hb dL_law_1140 ?_
  refine z_iadd hx hb dL_law_1141 ?_
  refine z_sld hx hb hX hbl hS (5 * j + 2) (by omega) (by omega) hL9 dL_law_1142 ?_
  refine lv_aload_n hx hb dL_law_1143 rfl (lv_at hl 2 rfl) ?_
  refine lj_S (rest := []) (av := [.int (zi (xs (5 * j + 1)).toInt), .int (zi (xs (5 * j + 2)).toInt)]) ⟨hx, hb, hml, hown, hts⟩ (hM1 o _) (vx_cwSW 4 hts gL_law_L_print rfl rfl rfl (by decide +kernel) ⟨Nat.le_of_ble_eq_true rfl, Nat.le_of_ble_eq_true rfl⟩) hF hJ hK hT hN hL rfl hl.1 rfl (Nat.le_of_ble_eq_true rfl) dL_law_1144 ⟨hc1, hc2⟩ hS (fun a' f' H1 locs1 ha' hf' hJ hS => ?_)
  refine lv_istore (lv' := [(6, .int (zi k)), (5, .int (zi ((5 * j : Nat) : Int))), (4, .ref od), (3, .ref o), (2, .ref (ad 0)), (1, .ref (a 1 0)), (0, .ref b)]) hx hb dL_law_1147 hl (by decide) rfl (fun ls hl => ?_)
  refine lv_aload_n hx hb dL_law_1149 rfl (lv_at hl 4 rfl) ?_
  refine lv_aload_n hx hb dL_law_1150 rfl (lv_at hl 6 rfl) ?_
  refine lv_iload hx hb dL_law_1151 (lv_at hl 1 rfl) ?_
  refine z_iconst hx hb dL_law_1153 ?_
  refine z_iadd hx hb dL_law_1154 ?_
  refine z_sld hx hb hX hbl hS (5 * j + 1) (by omega) (by omega) hL9 dL_law_1155 ?_
  refine lv_aload_n hx hb dL_law_1156 rfl (lv_at hl 6 rfl) ?_
  refine lv_iload hx hb dL_law_1157 (lv_at hl 1 rfl) ?_
  refine z_iconst hx hb dL_law_1159 ?_
  refine z_iadd hx hb dL_law_1160 ?_
  refine z_sld hx hb hX hbl hS (5 * j + 2) (by omega) (by omega) hL9 dL_law_1161 ?_
  refine lr_V (rest := []) (As := [.int (zi (xs (5 * j + 1)).toInt), .int (zi (xs (5 * j + 2)).toInt)]) ⟨hx, hb, hml, hown, hts⟩ (hM2 _) (cwV 2 hts gL_law_X4_print rfl r1 r2 (by decide +kernel) ⟨by show rm.frames + 1 ≤ 11; omega, by show 8 + (5 + 11) + rm.locals ≤ 398; omega⟩) (z_recv hK (hJ.2.1 0 _ rfl) rfl) hF hJ hK rfl hl.1 rfl (Nat.le_of_ble_eq_true rfl) dL_law_1162 ⟨by show cells + 4 + 0 ≤ 601024; omega, by show slots + 32 + 0 ≤ 7293033; omega⟩ hS (fun H2 locs2 hJ hS => ?_)
  refine lv_istore (lv' := [(7, .int (zi v)), (6, .int (zi k)), (5, .int (zi ((5 * j : Nat) : Int))), (4, .ref od), (3, .ref o), (2, .ref (ad 0)), (1, .ref (a 1 0)), (0, .ref b)]) hx hb dL_law_1165 hl (by decide) rfl (fun ls hl => ?_)
  refine lv_aload_n hx hb dL_law_1167 rfl (lv_at hl 5 rfl) ?_
  refine lr_V (rest := []) (As := []) ⟨hx, hb, hml, hown, hts⟩ (c_X4_thrown l g ad σ' k hW' hF.1 _) (cwV 0 hts gL_law_X4_thrown rfl rfl rfl (by decide +kernel) ⟨Nat.le_of_ble_eq_true rfl, Nat.le_of_ble_eq_true rfl⟩) (z_recv hK (hJ.2.1 0 _ rfl) rfl) hF hJ hK rfl hl.1 rfl (Nat.le_of_ble_eq_true rfl) dL_law_1168 ⟨by show cells + 4 + 0 ≤ 601024; omega, by show slots + 32 + 0 ≤ 7293033; omega⟩ hS (fun H3 locs3 hJ hS => ?_)
  refine lv_iload hx hb dL_law_1171 (lv_at hl 1 rfl) ?_
  refine z_icmp_eq (tgt := 1178) hx hb dL_law_1173 (by decide) (by omega) (by omega) (fun _ => ?_) (fun h => absurd rfl h)
  refine lv_iload hx hb dL_law_1178 (lv_at hl 1 rfl) ?_
  refine z_if_ne (tgt := 1195) hx hb dL_law_1180 (by decide) (by omega) (fun h9 => ?_) (fun h9 => ?_)
  · refine lv_goto (tgt := 1390) hx hb dL_law_1195 (by decide) ?_
    exact hk σ' k a' f' fd _ _ ls hW' h12' hJ hS (by show lv_has ls 8 [(5, .int (zi ((5 * j : Nat) : Int))), (4, .ref od), (3, .ref o), (2, .ref (ad 0)), (1, .ref (a' 1 0)), (0, .ref b)]; rw [ha']; exact lv_sub hl [2, 3, 4, 5, 6, 7] rfl)
  ·
    refine lv_aload_n hx hb dL_law_1183 rfl (lv_at hl 4 rfl) ?_
    refine z_iconst hx hb dL_law_1184 ?_
    refine z_lald hx hb hL hJ.2.2.1 dL_law_1185 ?_
    rw [hf' h9]
    refine lv_iload hx hb dL_law_1186 (lv_at hl 0 rfl) ?_
    refine lv_i2l hx hb dL_law_1188 rfl ?_
    refine W.lcmp hx hb dL_law_1189 ?_
    refine z_xtop (y := zi 0) (zc_0 _) ?_
    refine z_if_eq (tgt := 1195) hx hb dL_law_1190 (by decide) (by decide) (fun _ => ?_) (fun h => absurd rfl h)
    refine lv_goto (tgt := 1390) hx hb dL_law_1195 (by decide) ?_
    exact hk σ' k a' f' fd _ _ ls hW' h12' hJ hS (by show lv_has ls 8 [(5, .int (zi ((5 * j : Nat) : Int))), (4, .ref od), (3, .ref o), (2, .ref (ad 0)), (1, .ref (a' 1 0)), (0, .ref b)]; rw [ha']; exact lv_sub hl [2, 3, 4, 5, 6, 7] rfl)
set_option maxHeartbeats 4000000 in
set_option maxRecDepth 100000 in
theorem L_errata {p : Program} {e : Env} {s : State} {m : MethodId} {below : List Frame} {meth : Method} {c : Code} {Q : State → Prop} {l : Launch} {b L : Nat} {xs : Nat → Int32} {g : gG} {cL cD : ClassId} {ad : Nat → Nat} {o od : Nat} (hC : LC p l s m c b L xs g cL cD ad o od) {σ : SG} {th : Int} {a : AD} {f : Nat → Int64} {fd : Nat → UInt64} {H : Heap} {locs : List Loc} {ls : Array Slot} {cells slots j : Nat} (hW : WF σ) (h12 : S12 σ) (hJ : LJ g cL cD ad o od σ a σ th f fd s.heap.size H) (hS : va_S (SA s) s.heap H locs) (hl : lv_has ls 8 (lv0 b o od ad a j)) (hj : 5 * j + 4 < L) (hc1 : cells + 4 ≤ 601024) (hc2 : slots + 32 ≤ 7293033) (hk : LK p l e s m below meth c b g cL cD ad o od Q j (cells + 4) (slots + 32) 1390) : W p l e room_1 s m #[Value.ref b] below meth c H locs cells slots Q (F0 m 1198 ls []) := by
  obtain ⟨hx, hb, hml, hown, hts, hX, hbl, hK, hT, hN, hL, hF, hfl, hL9⟩ := hC
  obtain ⟨σ', k, v, rm, hW', h12', hk3, hB, hM1, ⟨r1, r2, r3, r4⟩, hM2⟩ := S_errata l hfl g cL cD ad hF.1 σ th a hW h12 (xs (5 * j + 1)).toInt (xs (5 * j + 2)).toInt (zi_rg _) (zi_rg _)
  have hl : lv_has ls 8 [(5, .int (zi ((5 * j : Nat) : Int))), (4, .ref od), (3, .ref o), (2, .ref (ad 0)), (1, .ref (a 1 0)), (0, .ref b)] := hl
  refine lv_aload_n hx hb dL_law_1198 rfl (lv_at hl 4 rfl) ?_
  refine lv_aload_n hx hb dL_law_1199 rfl (lv_at hl 5 rfl) ?_
  refine lv_iload hx hb dL_law_1200 (lv_at hl 0 rfl) ?_
  refine z_iconst hx hb dL_law_1202 ?_
  refine z_iadd hx hb dL_law_1203 ?_
  refine z_sld hx hb hX hbl hS (5 * j + 1) (by omega) (by omega) hL9 dL_law_1204 ?_
  refine lv_aload_n hx hb dL_law_1205 rfl (lv_at hl 5 rfl) ?_
  refine lv_iload hx hb dL_law_1206 (lv_at hl 0 rfl) ?_
  refine z_iconst hx hb dL_law_1208 ?_
  refine z_iadd hx hb dL_law_1209 ?_
  refine z_sld hx hb hX hbl hS (5 * j + 2) (by omega) (by omega) hL9 dL_law_1210 ?_
  refine lv_aload_n hx hb dL_law_1211 rfl (lv_at hl 2 rfl) ?_
  refine lj_S (rest := []) (av := [.int (zi (xs (5 * j + 1)).toInt), .int (zi (xs (5 * j + 2)).toInt)]) ⟨hx, hb, hml, hown, hts⟩ (hM1 o _) (vx_cwSW 4 hts gL_law_L_errata rfl rfl rfl (by decide +kernel) ⟨Nat.le_of_ble_eq_true rfl, Nat.le_of_ble_eq_true rfl⟩) hF hJ hK hT hN hL rfl hl.1 rfl (Nat.le_of_ble_eq_true rfl) dL_law_1212 ⟨hc1, hc2⟩ hS (fun a' f' H1 locs1 ha' hf' hJ hS => ?_)
  refine lv_istore (lv' := [(6, .int (zi k)), (5, .int (zi ((5 * j : Nat) : Int))), (4, .ref od), (3, .ref o), (2, .ref (ad 0)), (1, .ref (a 1 0)), (0, .ref b)]) hx hb dL_law_1215 hl (by decide) rfl (fun ls hl => ?_)
  refine lv_aload_n hx hb dL_law_1217 rfl (lv_at hl 4 rfl) ?_
  refine lv_aload_n hx hb dL_law_1218 rfl (lv_at hl 6 rfl) ?_
  refine lv_iload hx hb dL_law_1219 (lv_at hl 1 rfl) ?_
  refine z_iconst hx hb dL_law_1221 ?_
  refine z_iadd hx hb dL_law_1222 ?_
  refine z_sld hx hb hX hbl hS (5 * j + 1) (by omega) (by omega) hL9 dL_law_1223 ?_
  refine lv_aload_n hx hb dL_law_1224 rfl (lv_at hl 6 rfl) ?_
  refine lv_iload hx hb dL_law_1225 (lv_at hl 1 rfl) ?_
  refine z_iconst hx hb dL_law_1227 ?_
  refine z_iadd hx hb dL_law_1228 ?_
  refine z_sld hx hb hX hbl hS (5 * j + 2) (by omega) (by omega) hL9 dL_law_1229 ?_
  refine lr_V (rest := []) (As := [.int (zi (xs (5 * j + 1)).toInt), .int (zi (xs (5 * j + 2)).toInt)]) ⟨hx, hb, hml, hown, hts⟩ (hM2 _) (cwV 2 hts gL_law_X4_errata rfl r1 r2 (by decide +kernel) ⟨by show rm.frames + 1 ≤ 11; omega, by show 8 + (3 + 11) + rm.locals ≤ 398; omega⟩) (z_recv hK (hJ.2.1 0 _ rfl) rfl) hF hJ hK rfl hl.1 rfl (Nat.le_of_ble_eq_true rfl) dL_law_1230 ⟨by show cells + 4 + 0 ≤ 601024; omega, by show slots + 32 + 0 ≤ 7293033; omega⟩ hS (fun H2 locs2 hJ hS => ?_)
  refine lv_istore (lv' := [(7, .int (zi v)), (6, .int (zi k)), (5, .int (zi ((5 * j : Nat) : Int))), (4, .ref od), (3, .ref o), (2, .ref (ad 0)), (1, .ref (a 1 0)), (0, .ref b)]) hx hb dL_law_1233 hl (by decide) rfl (fun ls hl => ?_)
  refine lv_aload_n hx hb dL_law_1235 rfl (lv_at hl 5 rfl) ?_
  refine lr_V (rest := []) (As := []) ⟨hx, hb, hml, hown, hts⟩ (c_X4_thrown l g ad σ' k hW' hF.1 _) (cwV 0 hts gL_law_X4_thrown rfl rfl rfl (by decide +kernel) ⟨Nat.le_of_ble_eq_true rfl, Nat.le_of_ble_eq_true rfl⟩) (z_recv hK (hJ.2.1 0 _ rfl) rfl) hF hJ hK rfl hl.1 rfl (Nat.le_of_ble_eq_true rfl) dL_law_1236 ⟨by show cells + 4 + 0 ≤ 601024; omega, by show slots + 32 + 0 ≤ 7293033; omega⟩ hS (fun H3 locs3 hJ hS => ?_)
  refine lv_iload hx hb dL_law_1239 (lv_at hl 1 rfl) ?_
  refine z_icmp_eq (tgt := 1246) hx hb dL_law_1241 (by decide) (by omega) (by omega) (fun _ => ?_) (fun h => absurd rfl h)
  refine lv_iload hx hb dL_law_1246 (lv_at hl 1 rfl) ?_
  refine z_if_ne (tgt := 1263) hx hb dL_law_1248 (by decide) (by omega) (fun h9 => ?_) (fun h9 => ?_)
  · refine lv_goto (tgt := 1390) hx hb dL_law_1263 (by decide) ?_
    exact hk σ' k a' f' fd _ _ ls hW' h12' hJ hS (by show lv_has ls 8 [(5, .int (zi ((5 * j : Nat) : Int))), (4, .ref od), (3, .ref o), (2, .ref (ad 0)), (1, .ref (a' 1 0)), (0, .ref b)]; rw [ha']; exact lv_sub hl [2, 3, 4, 5, 6, 7] rfl)
  ·
    refine lv_aload_n hx hb dL_law_1251 rfl (lv_at hl 4 rfl) ?_
    refine z_iconst hx hb dL_law_1252 ?_
    refine z_lald hx hb hL hJ.2.2.1 dL_law_1253 ?_
    rw [hf' h9]
    refine lv_iload hx hb dL_law_1254 (lv_at hl 0 rfl) ?_
    refine lv_i2l hx hb dL_law_1256 rfl ?_
    refine W.lcmp hx hb dL_law_1257 ?_
    refine z_xtop (y := zi 0) (zc_0 _) ?_
    refine z_if_eq (tgt := 1263) hx hb dL_law_1258 (by decide) (by decide) (fun _ => ?_) (fun h => absurd rfl h)
    refine lv_goto (tgt := 1390) hx hb dL_law_1263 (by decide) ?_
    exact hk σ' k a' f' fd _ _ ls hW' h12' hJ hS (by show lv_has ls 8 [(5, .int (zi ((5 * j : Nat) : Int))), (4, .ref od), (3, .ref o), (2, .ref (ad 0)), (1, .ref (a' 1 0)), (0, .ref b)]; rw [ha']; exact lv_sub hl [2, 3, 4, 5, 6, 7] rfl)
set_option maxHeartbeats 4000000 in
set_option maxRecDepth 100000 in
theorem L_slip {p : Program} {e : Env} {s : State} {m : MethodId} {below : List Frame} {meth : Method} {c : Code} {Q : State → Prop} {l : Launch} {b L : Nat} {xs : Nat → Int32} {g : gG} {cL cD : ClassId} {ad : Nat → Nat} {o od : Nat} (hC : LC p l s m c b L xs g cL cD ad o od) {σ : SG} {th : Int} {a : AD} {f : Nat → Int64} {fd : Nat → UInt64} {H : Heap} {locs : List Loc} {ls : Array Slot} {cells slots j : Nat} (hW : WF σ) (h12 : S12 σ) (hJ : LJ g cL cD ad o od σ a σ th f fd s.heap.size H) (hS : va_S (SA s) s.heap H locs) (hl : lv_has ls 8 (lv0 b o od ad a j)) (hj : 5 * j + 4 < L) (hc1 : cells + 4 ≤ 601024) (hc2 : slots + 32 ≤ 7293033) (hk : LK p l e s m below meth c b g cL cD ad o od Q j (cells + 4) (slots + 32) 1390) : W p l e room_1 s m #[Value.ref b] below meth c H locs cells slots Q (F0 m 1266 ls []) := by
  obtain ⟨hx, hb, hml, hown, hts, hX, hbl, hK, hT, hN, hL, hF, hfl, hL9⟩ := hC
  obtain ⟨σ', k, v, rm, hW', h12', hk3, hB, hM1, ⟨r1, r2, r3, r4⟩, hM2⟩ := S_slip l hfl g cL cD ad hF.1 σ th a hW h12 (xs (5 * j + 1)).toInt (xs (5 * j + 2)).toInt (zi_rg _) (zi_rg _)
  have hl : lv_has ls 8 [(5, .int (zi ((5 * j : Nat) : Int))), (4, .ref od), (3, .ref o), (2, .ref (ad 0)), (1, .ref (a 1 0)), (0, .ref b)] := hl
  refine lv_aload_n hx hb dL_law_1266 rfl (lv_at hl 4 rfl) ?_
  refine lv_aload_n hx hb dL_law_1267 rfl (lv_at hl 5 rfl) ?_
  refine lv_iload hx hb dL_law_1268 (lv_at hl 0 rfl) ?_
  refine z_iconst hx hb dL_law_1270 ?_
  refine z_iadd hx hb dL_law_1271 ?_
  refine z_sld hx hb hX hbl hS (5 * j + 1) (by omega) (by omega) hL9 dL_law_1272 ?_
  refine lv_aload_n hx hb dL_law_1273 rfl (lv_at hl 5 rfl) ?_
  refine lv_iload hx hb dL_law_1274 (lv_at hl 0 rfl) ?_
  refine z_iconst hx hb dL_law_1276 ?_
  refine z_iadd hx hb dL_law_1277 ?_
  refine z_sld hx hb hX hbl hS (5 * j + 2) (by omega) (by omega) hL9 dL_law_1278 ?_
  refine lv_aload_n hx hb dL_law_1279 rfl (lv_at hl 2 rfl) ?_
  refine lj_S (rest := []) (av := [.int (zi (xs (5 * j + 1)).toInt), .int (zi (xs (5 * j + 2)).toInt)]) ⟨hx, hb, hml, hown, hts⟩ (hM1 o _) (vx_cwSW 4 hts gL_law_L_slip rfl rfl rfl (by decide +kernel) ⟨Nat.le_of_ble_eq_true rfl, Nat.le_of_ble_eq_true rfl⟩) hF hJ hK hT hN hL rfl hl.1 rfl (Nat.le_of_ble_eq_true rfl) dL_law_1280 ⟨hc1, hc2⟩ hS (fun a' f' H1 locs1 ha' hf' hJ hS => ?_)
  refine lv_istore (lv' := [(6, .int (zi k)), (5, .int (zi ((5 * j : Nat) : Int))), (4, .ref od), (3, .ref o), (2, .ref (ad 0)), (1, .ref (a 1 0)), (0, .ref b)]) hx hb dL_law_1283 hl (by decide) rfl (fun ls hl => ?_)
  refine lv_aload_n hx hb dL_law_1285 rfl (lv_at hl 4 rfl) ?_
  refine lv_aload_n hx hb dL_law_1286 rfl (lv_at hl 6 rfl) ?_
  refine lv_iload hx hb dL_law_1287 (lv_at hl 1 rfl) ?_
  refine z_iconst hx hb dL_law_1289 ?_
  refine z_iadd hx hb dL_law_1290 ?_
  refine z_sld hx hb hX hbl hS (5 * j + 1) (by omega) (by omega) hL9 dL_law_1291 ?_
  refine lv_aload_n hx hb dL_law_1292 rfl (lv_at hl 6 rfl) ?_
  refine lv_iload hx hb dL_law_1293 (lv_at hl 1 rfl) ?_
  refine z_iconst hx hb dL_law_1295 ?_
  refine z_iadd hx hb dL_law_1296 ?_
  refine z_sld hx hb hX hbl hS (5 * j + 2) (by omega) (by omega) hL9 dL_law_1297 ?_
  refine lr_V (rest := []) (As := [.int (zi (xs (5 * j + 1)).toInt), .int (zi (xs (5 * j + 2)).toInt)]) ⟨hx, hb, hml, hown, hts⟩ (hM2 _) (cwV 2 hts gL_law_X4_slip rfl r1 r2 (by decide +kernel) ⟨by show rm.frames + 1 ≤ 11; omega, by show 8 + (6 + 11) + rm.locals ≤ 398; omega⟩) (z_recv hK (hJ.2.1 0 _ rfl) rfl) hF hJ hK rfl hl.1 rfl (Nat.le_of_ble_eq_true rfl) dL_law_1298 ⟨by show cells + 4 + 0 ≤ 601024; omega, by show slots + 32 + 0 ≤ 7293033; omega⟩ hS (fun H2 locs2 hJ hS => ?_)
  refine lv_istore (lv' := [(7, .int (zi v)), (6, .int (zi k)), (5, .int (zi ((5 * j : Nat) : Int))), (4, .ref od), (3, .ref o), (2, .ref (ad 0)), (1, .ref (a 1 0)), (0, .ref b)]) hx hb dL_law_1301 hl (by decide) rfl (fun ls hl => ?_)
  refine lv_aload_n hx hb dL_law_1303 rfl (lv_at hl 5 rfl) ?_
  refine lr_V (rest := []) (As := []) ⟨hx, hb, hml, hown, hts⟩ (c_X4_thrown l g ad σ' k hW' hF.1 _) (cwV 0 hts gL_law_X4_thrown rfl rfl rfl (by decide +kernel) ⟨Nat.le_of_ble_eq_true rfl, Nat.le_of_ble_eq_true rfl⟩) (z_recv hK (hJ.2.1 0 _ rfl) rfl) hF hJ hK rfl hl.1 rfl (Nat.le_of_ble_eq_true rfl) dL_law_1304 ⟨by show cells + 4 + 0 ≤ 601024; omega, by show slots + 32 + 0 ≤ 7293033; omega⟩ hS (fun H3 locs3 hJ hS => ?_)
  refine lv_iload hx hb dL_law_1307 (lv_at hl 1 rfl) ?_
  refine z_icmp_eq (tgt := 1314) hx hb dL_law_1309 (by decide) (by omega) (by omega) (fun _ => ?_) (fun h => absurd rfl h)
  refine lv_iload hx hb dL_law_1314 (lv_at hl 1 rfl) ?_
  refine z_if_ne (tgt := 1331) hx hb dL_law_1316 (by decide) (by omega) (fun h9 => ?_) (fun h9 => ?_)
  · refine lv_goto (tgt := 1390) hx hb dL_law_1331 (by decide) ?_
    exact hk σ' k a' f' fd _ _ ls hW' h12' hJ hS (by show lv_has ls 8 [(5, .int (zi ((5 * j : Nat) : Int))), (4, .ref od), (3, .ref o), (2, .ref (ad 0)), (1, .ref (a' 1 0)), (0, .ref b)]; rw [ha']; exact lv_sub hl [2, 3, 4, 5, 6, 7] rfl)
  ·
    refine lv_aload_n hx hb dL_law_1319 rfl (lv_at hl 4 rfl) ?_
    refine z_iconst hx hb dL_law_1320 ?_
    refine z_lald hx hb hL hJ.2.2.1 dL_law_1321 ?_
    rw [hf' h9]
    refine lv_iload hx hb dL_law_1322 (lv_at hl 0 rfl) ?_
    refine lv_i2l hx hb dL_law_1324 rfl ?_
    refine W.lcmp hx hb dL_law_1325 ?_
    refine z_xtop (y := zi 0) (zc_0 _) ?_
    refine z_if_eq (tgt := 1331) hx hb dL_law_1326 (by decide) (by decide) (fun _ => ?_) (fun h => absurd rfl h)
    refine lv_goto (tgt := 1390) hx hb dL_law_1331 (by decide) ?_
    exact hk σ' k a' f' fd _ _ ls hW' h12' hJ hS (by show lv_has ls 8 [(5, .int (zi ((5 * j : Nat) : Int))), (4, .ref od), (3, .ref o), (2, .ref (ad 0)), (1, .ref (a' 1 0)), (0, .ref b)]; rw [ha']; exact lv_sub hl [2, 3, 4, 5, 6, 7] rfl)
set_option maxHeartbeats 4000000 in
set_option maxRecDepth 100000 in
theorem L_slips {p : Program} {e : Env} {s : State} {m : MethodId} {below : List Frame} {meth : Method} {c : Code} {Q : State → Prop} {l : Launch} {b L : Nat} {xs : Nat → Int32} {g : gG} {cL cD : ClassId} {ad : Nat → Nat} {o od : Nat} (hC : LC p l s m c b L xs g cL cD ad o od) {σ : SG} {th : Int} {a : AD} {f : Nat → Int64} {fd : Nat → UInt64} {H : Heap} {locs : List Loc} {ls : Array Slot} {cells slots j : Nat} (hW : WF σ) (h12 : S12 σ) (hJ : LJ g cL cD ad o od σ a σ th f fd s.heap.size H) (hS : va_S (SA s) s.heap H locs) (hl : lv_has ls 8 (lv0 b o od ad a j)) (hj : 5 * j + 4 < L) (hc1 : cells + 4 ≤ 601024) (hc2 : slots + 32 ≤ 7293033) (hk : LK p l e s m below meth c b g cL cD ad o od Q j (cells + 4) (slots + 32) 1390) : W p l e room_1 s m #[Value.ref b] below meth c H locs cells slots Q (F0 m 1334 ls []) := by
  obtain ⟨hx, hb, hml, hown, hts, hX, hbl, hK, hT, hN, hL, hF, hfl, hL9⟩ := hC
  obtain ⟨σ', k, v, rm, hW', h12', hk3, hB, hM1, ⟨r1, r2, r3, r4⟩, hM2⟩ := S_slips l hfl g cL cD ad hF.1 σ th a hW h12 (xs (5 * j + 1)).toInt (zi_rg _)
  have hl : lv_has ls 8 [(5, .int (zi ((5 * j : Nat) : Int))), (4, .ref od), (3, .ref o), (2, .ref (ad 0)), (1, .ref (a 1 0)), (0, .ref b)] := hl
  refine lv_aload_n hx hb dL_law_1334 rfl (lv_at hl 4 rfl) ?_
  refine lv_aload_n hx hb dL_law_1335 rfl (lv_at hl 5 rfl) ?_
  refine lv_iload hx hb dL_law_1336 (lv_at hl 0 rfl) ?_
  refine z_iconst hx hb dL_law_1338 ?_
  refine z_iadd hx hb dL_law_1339 ?_
  refine z_sld hx hb hX hbl hS (5 * j + 1) (by omega) (by omega) hL9 dL_law_1340 ?_
  refine lv_aload_n hx hb dL_law_1341 rfl (lv_at hl 2 rfl) ?_
  refine lj_S (rest := []) (av := [.int (zi (xs (5 * j + 1)).toInt)]) ⟨hx, hb, hml, hown, hts⟩ (hM1 o _) (vx_cwSW 3 hts gL_law_L_slips rfl rfl rfl (by decide +kernel) ⟨Nat.le_of_ble_eq_true rfl, Nat.le_of_ble_eq_true rfl⟩) hF hJ hK hT hN hL rfl hl.1 rfl (Nat.le_of_ble_eq_true rfl) dL_law_1342 ⟨hc1, hc2⟩ hS (fun a' f' H1 locs1 ha' hf' hJ hS => ?_)
  refine lv_istore (lv' := [(6, .int (zi k)), (5, .int (zi ((5 * j : Nat) : Int))), (4, .ref od), (3, .ref o), (2, .ref (ad 0)), (1, .ref (a 1 0)), (0, .ref b)]) hx hb dL_law_1345 hl (by decide) rfl (fun ls hl => ?_)
  refine lv_aload_n hx hb dL_law_1347 rfl (lv_at hl 4 rfl) ?_
  refine lv_aload_n hx hb dL_law_1348 rfl (lv_at hl 6 rfl) ?_
  refine lv_iload hx hb dL_law_1349 (lv_at hl 1 rfl) ?_
  refine z_iconst hx hb dL_law_1351 ?_
  refine z_iadd hx hb dL_law_1352 ?_
  refine z_sld hx hb hX hbl hS (5 * j + 1) (by omega) (by omega) hL9 dL_law_1353 ?_
  refine lr_V (rest := []) (As := [.int (zi (xs (5 * j + 1)).toInt)]) ⟨hx, hb, hml, hown, hts⟩ (hM2 _) (cwV 1 hts gL_law_X4_slips rfl r1 r2 (by decide +kernel) ⟨by show rm.frames + 1 ≤ 11; omega, by show 8 + (2 + 11) + rm.locals ≤ 398; omega⟩) (z_recv hK (hJ.2.1 0 _ rfl) rfl) hF hJ hK rfl hl.1 rfl (Nat.le_of_ble_eq_true rfl) dL_law_1354 ⟨by show cells + 4 + 0 ≤ 601024; omega, by show slots + 32 + 0 ≤ 7293033; omega⟩ hS (fun H2 locs2 hJ hS => ?_)
  refine lv_istore (lv' := [(7, .int (zi v)), (6, .int (zi k)), (5, .int (zi ((5 * j : Nat) : Int))), (4, .ref od), (3, .ref o), (2, .ref (ad 0)), (1, .ref (a 1 0)), (0, .ref b)]) hx hb dL_law_1357 hl (by decide) rfl (fun ls hl => ?_)
  refine lv_aload_n hx hb dL_law_1359 rfl (lv_at hl 5 rfl) ?_
  refine lr_V (rest := []) (As := []) ⟨hx, hb, hml, hown, hts⟩ (c_X4_thrown l g ad σ' k hW' hF.1 _) (cwV 0 hts gL_law_X4_thrown rfl rfl rfl (by decide +kernel) ⟨Nat.le_of_ble_eq_true rfl, Nat.le_of_ble_eq_true rfl⟩) (z_recv hK (hJ.2.1 0 _ rfl) rfl) hF hJ hK rfl hl.1 rfl (Nat.le_of_ble_eq_true rfl) dL_law_1360 ⟨by show cells + 4 + 0 ≤ 601024; omega, by show slots + 32 + 0 ≤ 7293033; omega⟩ hS (fun H3 locs3 hJ hS => ?_)
  refine lv_iload hx hb dL_law_1363 (lv_at hl 1 rfl) ?_
  refine z_icmp_eq (tgt := 1370) hx hb dL_law_1365 (by decide) (by omega) (by omega) (fun _ => ?_) (fun h => absurd rfl h)
  refine lv_iload hx hb dL_law_1370 (lv_at hl 1 rfl) ?_
  refine z_if_ne (tgt := 1387) hx hb dL_law_1372 (by decide) (by omega) (fun h9 => ?_) (fun h9 => ?_)
  · refine lv_goto (tgt := 1390) hx hb dL_law_1387 (by decide) ?_
    exact hk σ' k a' f' fd _ _ ls hW' h12' hJ hS (by show lv_has ls 8 [(5, .int (zi ((5 * j : Nat) : Int))), (4, .ref od), (3, .ref o), (2, .ref (ad 0)), (1, .ref (a' 1 0)), (0, .ref b)]; rw [ha']; exact lv_sub hl [2, 3, 4, 5, 6, 7] rfl)
  ·
    refine lv_aload_n hx hb dL_law_1375 rfl (lv_at hl 4 rfl) ?_
    refine z_iconst hx hb dL_law_1376 ?_
    refine z_lald hx hb hL hJ.2.2.1 dL_law_1377 ?_
    rw [hf' h9]
    refine lv_iload hx hb dL_law_1378 (lv_at hl 0 rfl) ?_
    refine lv_i2l hx hb dL_law_1380 rfl ?_
    refine W.lcmp hx hb dL_law_1381 ?_
    refine z_xtop (y := zi 0) (zc_0 _) ?_
    refine z_if_eq (tgt := 1387) hx hb dL_law_1382 (by decide) (by decide) (fun _ => ?_) (fun h => absurd rfl h)
    refine lv_goto (tgt := 1390) hx hb dL_law_1387 (by decide) ?_
    exact hk σ' k a' f' fd _ _ ls hW' h12' hJ hS (by show lv_has ls 8 [(5, .int (zi ((5 * j : Nat) : Int))), (4, .ref od), (3, .ref o), (2, .ref (ad 0)), (1, .ref (a' 1 0)), (0, .ref b)]; rw [ha']; exact lv_sub hl [2, 3, 4, 5, 6, 7] rfl)
