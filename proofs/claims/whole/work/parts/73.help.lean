/-! ===== the law's helpers, case by case ===== -/
set_option maxHeartbeats 4000000 in
set_option maxRecDepth 100000 in
theorem H_begin_0 (l : Launch) (g : gG) (cL cD : ClassId) (z1 : Int) (o sz : Nat) (σ : SG) (a : AD) (σ' : SG) (v : Int) (rm : Room) (mc ms : Nat) (hrm : rm.cells = mc ∧ rm.slots = ms ∧ mc ≤ 4 ∧ ms ≤ 32 ∧ rm.frames ≤ 7 ∧ rm.locals ≤ 143) (hM : ∀ sz : Nat, DW l yX3_begin wsX3_begin rm g [.int (zi z1)] sz σ a σ' v mc ms) : LH l yL_begin wsL_begin g cL cD [.int (zi z1)] o sz σ a σ' 0 v := by
  refine ZH.ofW (cc := cL_begin) (maxL := 4) (ret := (some .int)) (hh := [(0, 9, 12, 13), (0, 9, 15, 15)]) (by decide) rfl (Nat.le_of_ble_eq_true rfl) ?_
  intro p e s m below meth c ls hx hb hr hml hown hts hlk htb hB hl
  obtain ⟨⟨rfl, hI, ⟨f, hat⟩, ho⟩, hK, hT, hN, hL⟩ := hB
  obtain ⟨r1, r2, r3, r4, r5, r6⟩ := hrm
  have hown : s.vm.findClass RL = some m.cls := hown
  have hl : lv_has ls 4 [(0, .ref (a 1 0)), (1, .int (zi z1)), (2, .ref o)] := hl
  refine lv_aload_n hx hb dL_begin_0 rfl (lv_at hl 2 rfl) ?_
  refine z_iconst hx hb dL_begin_1 ?_
  refine lv_aload_n hx hb dL_begin_2 rfl (lv_at hl 0 rfl) ?_
  refine lv_iload_n hx hb dL_begin_3 rfl (lv_at hl 1 rfl) ?_
  refine dw_V (rest := [.int (zi 0), .ref o]) (As := [.int (zi z1)]) ⟨hx, hb, hml, hown, hts⟩ (hM _) (cwV 1 hts gL_begin_X3_begin rfl r1 r2 (by decide +kernel) ⟨by show rm.frames + 1 ≤ 8; omega, by show 8 + (3 + 11) + rm.locals ≤ 180; omega⟩) (z_recv hK hI.ob rfl) hI hK rfl hl.1 rfl (Nat.le_of_ble_eq_true rfl) dL_begin_4 ⟨by show 0 + mc ≤ 4; omega, by show 0 + ms ≤ 32; omega⟩ (va_S.rf (A := lhA σ a s.heap.size o)) (fun q h => Or.inl h) (fun a' H1 locs1 hI1 hE hz hk hS => ?_)
  have hat1 : va_at g.1 vwCl (outL cL o f) H1 := hat.kept (hk o hat.lt (fun h => h.elim ho (fun h => absurd hat.lt (by show ¬ o < s.heap.size; omega))))
  have hne : ∀ q, Ow σ' a' q → q ≠ o := fun q hq e => by rcases hE.2 q hq with h | h; exact ho (by rw [← e]; exact h); have h9 := hat.lt; have h9 : o < s.heap.size := h9; omega
  refine lv_i2l hx hb dL_begin_7 rfl ?_
  refine z_last hx hb hL hat1 hS (Or.inr rfl) dL_begin_8 (fun H2 locs2 hat2 hoq hz2 hS2 => ?_)
  refine lv_goto (tgt := 18) hx hb dL_begin_9 (by decide) ?_
  refine z_iconst hx hb dL_begin_18 ?_
  refine W.widen (k := 4) (n := 32) (by omega) (by omega) ?_
  exact z_lhret a' _ hx hb hr hlk dL_begin_19 rfl (hI1.far (fun q hq => hoq q (hne q hq))) hE hat2 (fun _ => rfl) hS2
set_option maxHeartbeats 4000000 in
set_option maxRecDepth 100000 in
theorem H_begin_x1 (l : Launch) (g : gG) (cL cD : ClassId) (z1 : Int) (o sz : Nat) (σ : SG) (a : AD) (v : Int) (rm : Room) (hrm : rm.cells = 1 ∧ rm.slots = 6 ∧ 1 ≤ 4 ∧ 6 ≤ 32 ∧ rm.frames ≤ 7 ∧ rm.locals ≤ 143) (hM : XT l yX3_begin wsX3_begin rm g (.ref (a 1 0) :: [.int (zi z1)]) (DI g σ a) eA) : LH l yL_begin wsL_begin g cL cD [.int (zi z1)] o sz σ a σ 1 v := by
  refine ZH.ofW (cc := cL_begin) (maxL := 4) (ret := (some .int)) (hh := [(0, 9, 12, 13), (0, 9, 15, 15)]) (by decide) rfl (Nat.le_of_ble_eq_true rfl) ?_
  intro p e s m below meth c ls hx hb hr hml hown hts hlk htb hB hl
  obtain ⟨⟨rfl, hI, ⟨f, hat⟩, ho⟩, hK, hT, hN, hL⟩ := hB
  obtain ⟨r1, r2, r3, r4, r5, r6⟩ := hrm
  have hown : s.vm.findClass RL = some m.cls := hown
  have hl : lv_has ls 4 [(0, .ref (a 1 0)), (1, .int (zi z1)), (2, .ref o)] := hl
  refine lv_aload_n hx hb dL_begin_0 rfl (lv_at hl 2 rfl) ?_
  refine z_iconst hx hb dL_begin_1 ?_
  refine lv_aload_n hx hb dL_begin_2 rfl (lv_at hl 0 rfl) ?_
  refine lv_iload_n hx hb dL_begin_3 rfl (lv_at hl 1 rfl) ?_
  refine xt_V (A0 := lhA σ a s.heap.size o) (rest := [.int (zi 0), .ref o]) (As := [.int (zi z1)]) ⟨hx, hb, hml, hown, hts⟩ hM (cwV 1 hts gL_begin_X3_begin rfl r1 r2 (by decide +kernel) ⟨by show rm.frames + 1 ≤ 8; omega, by show 8 + (3 + 11) + rm.locals ≤ 180; omega⟩) (z_recv hK hI.ob rfl) hI hK hT rfl hl.1 rfl (Nat.le_of_ble_eq_true rfl) dL_begin_4 ⟨Nat.le_of_ble_eq_true rfl, Nat.le_of_ble_eq_true rfl⟩ (fun H1 q9 ce hz hk hS hce hcv hcl => ?_)
  refine vx_catch (own := RL) (name := eA) (E := eA) hown [] ⟨0, 9, 12, 13⟩ [⟨0, 9, 15, 15⟩] htb (fun z hz => by cases hz) (by decide) (by decide) (hts (.classLink RL 13 eA) (by decide +kernel)) (va_tabs (TWb.tab (.castable eA eA) (by decide)) rfl (hT.2.2.2 (.castable eA eA) (by decide))) hce hcv hcl ?_
  refine lv_astore_n (lv' := [(3, .ref q9), (0, .ref (a 1 0)), (1, .int (zi z1)), (2, .ref o)]) hx hb dL_begin_12 rfl hl (by decide) rfl (fun ls hl => ?_)
  refine z_iconst hx hb dL_begin_13 ?_
  refine W.widen (k := 4) (n := 32) (by omega) (by omega) ?_
  exact z_lhret a f hx hb hr hlk dL_begin_14 rfl (hI.far (fun q hq => hk q (hI.Ow_lt hq))) (DE_same rfl rfl) (hat.kept (hk o hat.lt)) (fun h => absurd h (by decide)) hS
set_option maxHeartbeats 4000000 in
set_option maxRecDepth 100000 in
theorem H_begin_x2 (l : Launch) (g : gG) (cL cD : ClassId) (z1 : Int) (o sz : Nat) (σ : SG) (a : AD) (v : Int) (rm : Room) (hrm : rm.cells = 1 ∧ rm.slots = 6 ∧ 1 ≤ 4 ∧ 6 ≤ 32 ∧ rm.frames ≤ 7 ∧ rm.locals ≤ 143) (hM : XT l yX3_begin wsX3_begin rm g (.ref (a 1 0) :: [.int (zi z1)]) (DI g σ a) eS) : LH l yL_begin wsL_begin g cL cD [.int (zi z1)] o sz σ a σ 2 v := by
  refine ZH.ofW (cc := cL_begin) (maxL := 4) (ret := (some .int)) (hh := [(0, 9, 12, 13), (0, 9, 15, 15)]) (by decide) rfl (Nat.le_of_ble_eq_true rfl) ?_
  intro p e s m below meth c ls hx hb hr hml hown hts hlk htb hB hl
  obtain ⟨⟨rfl, hI, ⟨f, hat⟩, ho⟩, hK, hT, hN, hL⟩ := hB
  obtain ⟨r1, r2, r3, r4, r5, r6⟩ := hrm
  have hown : s.vm.findClass RL = some m.cls := hown
  have hl : lv_has ls 4 [(0, .ref (a 1 0)), (1, .int (zi z1)), (2, .ref o)] := hl
  refine lv_aload_n hx hb dL_begin_0 rfl (lv_at hl 2 rfl) ?_
  refine z_iconst hx hb dL_begin_1 ?_
  refine lv_aload_n hx hb dL_begin_2 rfl (lv_at hl 0 rfl) ?_
  refine lv_iload_n hx hb dL_begin_3 rfl (lv_at hl 1 rfl) ?_
  refine xt_V (A0 := lhA σ a s.heap.size o) (rest := [.int (zi 0), .ref o]) (As := [.int (zi z1)]) ⟨hx, hb, hml, hown, hts⟩ hM (cwV 1 hts gL_begin_X3_begin rfl r1 r2 (by decide +kernel) ⟨by show rm.frames + 1 ≤ 8; omega, by show 8 + (3 + 11) + rm.locals ≤ 180; omega⟩) (z_recv hK hI.ob rfl) hI hK hT rfl hl.1 rfl (Nat.le_of_ble_eq_true rfl) dL_begin_4 ⟨Nat.le_of_ble_eq_true rfl, Nat.le_of_ble_eq_true rfl⟩ (fun H1 q9 ce hz hk hS hce hcv hcl => ?_)
  refine vx_catch (own := RL) (name := eS) (E := eS) hown [⟨0, 9, 12, 13⟩] ⟨0, 9, 15, 15⟩ [] htb (fun z hz => by
    rcases List.mem_singleton.mp hz with rfl
    exact Or.inr ⟨by decide, eA, hts (.classLink RL 13 eA) (by decide +kernel), hN.2.2⟩) (by decide) (by decide) (hts (.classLink RL 15 eS) (by decide +kernel)) (va_tabs (TWb.tab (.castable eS eS) (by decide)) rfl (hT.2.2.2 (.castable eS eS) (by decide))) hce hcv hcl ?_
  refine lv_astore_n (lv' := [(3, .ref q9), (0, .ref (a 1 0)), (1, .int (zi z1)), (2, .ref o)]) hx hb dL_begin_15 rfl hl (by decide) rfl (fun ls hl => ?_)
  refine z_iconst hx hb dL_begin_16 ?_
  refine W.widen (k := 4) (n := 32) (by omega) (by omega) ?_
  exact z_lhret a f hx hb hr hlk dL_begin_17 rfl (hI.far (fun q hq => hk q (hI.Ow_lt hq))) (DE_same rfl rfl) (hat.kept (hk o hat.lt)) (fun h => absurd h (by decide)) hS
set_option maxHeartbeats 4000000 in
set_option maxRecDepth 100000 in
theorem H_branch_0 (l : Launch) (g : gG) (cL cD : ClassId) (z1 : Int) (o sz : Nat) (σ : SG) (a : AD) (σ' : SG) (v : Int) (rm : Room) (mc ms : Nat) (hrm : rm.cells = mc ∧ rm.slots = ms ∧ mc ≤ 4 ∧ ms ≤ 32 ∧ rm.frames ≤ 7 ∧ rm.locals ≤ 143) (hM : ∀ sz : Nat, DW l yX3_branch wsX3_branch rm g [.int (zi z1)] sz σ a σ' v mc ms) : LH l yL_branch wsL_branch g cL cD [.int (zi z1)] o sz σ a σ' 0 v := by
  refine ZH.ofW (cc := cL_branch) (maxL := 4) (ret := (some .int)) (hh := [(0, 9, 12, 20), (0, 9, 15, 15)]) (by decide) rfl (Nat.le_of_ble_eq_true rfl) ?_
  intro p e s m below meth c ls hx hb hr hml hown hts hlk htb hB hl
  obtain ⟨⟨rfl, hI, ⟨f, hat⟩, ho⟩, hK, hT, hN, hL⟩ := hB
  obtain ⟨r1, r2, r3, r4, r5, r6⟩ := hrm
  have hown : s.vm.findClass RL = some m.cls := hown
  have hl : lv_has ls 4 [(0, .ref (a 1 0)), (1, .int (zi z1)), (2, .ref o)] := hl
  refine lv_aload_n hx hb dL_branch_0 rfl (lv_at hl 2 rfl) ?_
  refine z_iconst hx hb dL_branch_1 ?_
  refine lv_aload_n hx hb dL_branch_2 rfl (lv_at hl 0 rfl) ?_
  refine lv_iload_n hx hb dL_branch_3 rfl (lv_at hl 1 rfl) ?_
  refine dw_V (rest := [.int (zi 0), .ref o]) (As := [.int (zi z1)]) ⟨hx, hb, hml, hown, hts⟩ (hM _) (cwV 1 hts gL_branch_X3_branch rfl r1 r2 (by decide +kernel) ⟨by show rm.frames + 1 ≤ 8; omega, by show 8 + (4 + 11) + rm.locals ≤ 180; omega⟩) (z_recv hK hI.ob rfl) hI hK rfl hl.1 rfl (Nat.le_of_ble_eq_true rfl) dL_branch_4 ⟨by show 0 + mc ≤ 4; omega, by show 0 + ms ≤ 32; omega⟩ (va_S.rf (A := lhA σ a s.heap.size o)) (fun q h => Or.inl h) (fun a' H1 locs1 hI1 hE hz hk hS => ?_)
  have hat1 : va_at g.1 vwCl (outL cL o f) H1 := hat.kept (hk o hat.lt (fun h => h.elim ho (fun h => absurd hat.lt (by show ¬ o < s.heap.size; omega))))
  have hne : ∀ q, Ow σ' a' q → q ≠ o := fun q hq e => by rcases hE.2 q hq with h | h; exact ho (by rw [← e]; exact h); have h9 := hat.lt; have h9 : o < s.heap.size := h9; omega
  refine lv_i2l hx hb dL_branch_7 rfl ?_
  refine z_last hx hb hL hat1 hS (Or.inr rfl) dL_branch_8 (fun H2 locs2 hat2 hoq hz2 hS2 => ?_)
  refine lv_goto (tgt := 18) hx hb dL_branch_9 (by decide) ?_
  refine z_iconst hx hb dL_branch_18 ?_
  refine W.widen (k := 4) (n := 32) (by omega) (by omega) ?_
  exact z_lhret a' _ hx hb hr hlk dL_branch_19 rfl (hI1.far (fun q hq => hoq q (hne q hq))) hE hat2 (fun _ => rfl) hS2
set_option maxHeartbeats 4000000 in
set_option maxRecDepth 100000 in
theorem H_branch_x1 (l : Launch) (g : gG) (cL cD : ClassId) (z1 : Int) (o sz : Nat) (σ : SG) (a : AD) (v : Int) (rm : Room) (hrm : rm.cells = 1 ∧ rm.slots = 6 ∧ 1 ≤ 4 ∧ 6 ≤ 32 ∧ rm.frames ≤ 7 ∧ rm.locals ≤ 143) (hM : XT l yX3_branch wsX3_branch rm g (.ref (a 1 0) :: [.int (zi z1)]) (DI g σ a) eI) : LH l yL_branch wsL_branch g cL cD [.int (zi z1)] o sz σ a σ 1 v := by
  refine ZH.ofW (cc := cL_branch) (maxL := 4) (ret := (some .int)) (hh := [(0, 9, 12, 20), (0, 9, 15, 15)]) (by decide) rfl (Nat.le_of_ble_eq_true rfl) ?_
  intro p e s m below meth c ls hx hb hr hml hown hts hlk htb hB hl
  obtain ⟨⟨rfl, hI, ⟨f, hat⟩, ho⟩, hK, hT, hN, hL⟩ := hB
  obtain ⟨r1, r2, r3, r4, r5, r6⟩ := hrm
  have hown : s.vm.findClass RL = some m.cls := hown
  have hl : lv_has ls 4 [(0, .ref (a 1 0)), (1, .int (zi z1)), (2, .ref o)] := hl
  refine lv_aload_n hx hb dL_branch_0 rfl (lv_at hl 2 rfl) ?_
  refine z_iconst hx hb dL_branch_1 ?_
  refine lv_aload_n hx hb dL_branch_2 rfl (lv_at hl 0 rfl) ?_
  refine lv_iload_n hx hb dL_branch_3 rfl (lv_at hl 1 rfl) ?_
  refine xt_V (A0 := lhA σ a s.heap.size o) (rest := [.int (zi 0), .ref o]) (As := [.int (zi z1)]) ⟨hx, hb, hml, hown, hts⟩ hM (cwV 1 hts gL_branch_X3_branch rfl r1 r2 (by decide +kernel) ⟨by show rm.frames + 1 ≤ 8; omega, by show 8 + (4 + 11) + rm.locals ≤ 180; omega⟩) (z_recv hK hI.ob rfl) hI hK hT rfl hl.1 rfl (Nat.le_of_ble_eq_true rfl) dL_branch_4 ⟨Nat.le_of_ble_eq_true rfl, Nat.le_of_ble_eq_true rfl⟩ (fun H1 q9 ce hz hk hS hce hcv hcl => ?_)
  refine vx_catch (own := RL) (name := eI) (E := eI) hown [] ⟨0, 9, 12, 20⟩ [⟨0, 9, 15, 15⟩] htb (fun z hz => by cases hz) (by decide) (by decide) (hts (.classLink RL 20 eI) (by decide +kernel)) (va_tabs (TWb.tab (.castable eI eI) (by decide)) rfl (hT.2.2.2 (.castable eI eI) (by decide))) hce hcv hcl ?_
  refine lv_astore_n (lv' := [(3, .ref q9), (0, .ref (a 1 0)), (1, .int (zi z1)), (2, .ref o)]) hx hb dL_branch_12 rfl hl (by decide) rfl (fun ls hl => ?_)
  refine z_iconst hx hb dL_branch_13 ?_
  refine W.widen (k := 4) (n := 32) (by omega) (by omega) ?_
  exact z_lhret a f hx hb hr hlk dL_branch_14 rfl (hI.far (fun q hq => hk q (hI.Ow_lt hq))) (DE_same rfl rfl) (hat.kept (hk o hat.lt)) (fun h => absurd h (by decide)) hS
set_option maxHeartbeats 4000000 in
set_option maxRecDepth 100000 in
theorem H_branch_x2 (l : Launch) (g : gG) (cL cD : ClassId) (z1 : Int) (o sz : Nat) (σ : SG) (a : AD) (v : Int) (rm : Room) (hrm : rm.cells = 1 ∧ rm.slots = 6 ∧ 1 ≤ 4 ∧ 6 ≤ 32 ∧ rm.frames ≤ 7 ∧ rm.locals ≤ 143) (hM : XT l yX3_branch wsX3_branch rm g (.ref (a 1 0) :: [.int (zi z1)]) (DI g σ a) eS) : LH l yL_branch wsL_branch g cL cD [.int (zi z1)] o sz σ a σ 2 v := by
  refine ZH.ofW (cc := cL_branch) (maxL := 4) (ret := (some .int)) (hh := [(0, 9, 12, 20), (0, 9, 15, 15)]) (by decide) rfl (Nat.le_of_ble_eq_true rfl) ?_
  intro p e s m below meth c ls hx hb hr hml hown hts hlk htb hB hl
  obtain ⟨⟨rfl, hI, ⟨f, hat⟩, ho⟩, hK, hT, hN, hL⟩ := hB
  obtain ⟨r1, r2, r3, r4, r5, r6⟩ := hrm
  have hown : s.vm.findClass RL = some m.cls := hown
  have hl : lv_has ls 4 [(0, .ref (a 1 0)), (1, .int (zi z1)), (2, .ref o)] := hl
  refine lv_aload_n hx hb dL_branch_0 rfl (lv_at hl 2 rfl) ?_
  refine z_iconst hx hb dL_branch_1 ?_
  refine lv_aload_n hx hb dL_branch_2 rfl (lv_at hl 0 rfl) ?_
  refine lv_iload_n hx hb dL_branch_3 rfl (lv_at hl 1 rfl) ?_
  refine xt_V (A0 := lhA σ a s.heap.size o) (rest := [.int (zi 0), .ref o]) (As := [.int (zi z1)]) ⟨hx, hb, hml, hown, hts⟩ hM (cwV 1 hts gL_branch_X3_branch rfl r1 r2 (by decide +kernel) ⟨by show rm.frames + 1 ≤ 8; omega, by show 8 + (4 + 11) + rm.locals ≤ 180; omega⟩) (z_recv hK hI.ob rfl) hI hK hT rfl hl.1 rfl (Nat.le_of_ble_eq_true rfl) dL_branch_4 ⟨Nat.le_of_ble_eq_true rfl, Nat.le_of_ble_eq_true rfl⟩ (fun H1 q9 ce hz hk hS hce hcv hcl => ?_)
  refine vx_catch (own := RL) (name := eS) (E := eS) hown [⟨0, 9, 12, 20⟩] ⟨0, 9, 15, 15⟩ [] htb (fun z hz => by
    rcases List.mem_singleton.mp hz with rfl
    exact Or.inr ⟨by decide, eI, hts (.classLink RL 20 eI) (by decide +kernel), hN.2.1⟩) (by decide) (by decide) (hts (.classLink RL 15 eS) (by decide +kernel)) (va_tabs (TWb.tab (.castable eS eS) (by decide)) rfl (hT.2.2.2 (.castable eS eS) (by decide))) hce hcv hcl ?_
  refine lv_astore_n (lv' := [(3, .ref q9), (0, .ref (a 1 0)), (1, .int (zi z1)), (2, .ref o)]) hx hb dL_branch_15 rfl hl (by decide) rfl (fun ls hl => ?_)
  refine z_iconst hx hb dL_branch_16 ?_
  refine W.widen (k := 4) (n := 32) (by omega) (by omega) ?_
  exact z_lhret a f hx hb hr hlk dL_branch_17 rfl (hI.far (fun q hq => hk q (hI.Ow_lt hq))) (DE_same rfl rfl) (hat.kept (hk o hat.lt)) (fun h => absurd h (by decide)) hS
set_option maxHeartbeats 4000000 in
set_option maxRecDepth 100000 in
theorem H_setNote_0 (l : Launch) (g : gG) (cL cD : ClassId) (z1 z2 z3 z4 : Int) (o sz : Nat) (σ : SG) (a : AD) (σ' : SG) (v : Int) (rm : Room) (mc ms : Nat) (hrm : rm.cells = mc ∧ rm.slots = ms ∧ mc ≤ 4 ∧ ms ≤ 32 ∧ rm.frames ≤ 7 ∧ rm.locals ≤ 143) (hM : ∀ sz : Nat, DW l yX3_setNote wsX3_setNote rm g [.int (zi z1), .int (zi z2), .int (zi z3), .int (zi z4)] sz σ a σ' v mc ms) : LH l yL_setNote wsL_setNote g cL cD [.int (zi z1), .int (zi z2), .int (zi z3), .int (zi z4)] o sz σ a σ' 0 v := by
  refine ZH.ofW (cc := cL_setNote) (maxL := 7) (ret := (some .int)) (hh := [(0, 14, 17, 20), (0, 14, 21, 13), (0, 14, 25, 15)]) (by decide) rfl (Nat.le_of_ble_eq_true rfl) ?_
  intro p e s m below meth c ls hx hb hr hml hown hts hlk htb hB hl
  obtain ⟨⟨rfl, hI, ⟨f, hat⟩, ho⟩, hK, hT, hN, hL⟩ := hB
  obtain ⟨r1, r2, r3, r4, r5, r6⟩ := hrm
  have hown : s.vm.findClass RL = some m.cls := hown
  have hl : lv_has ls 7 [(0, .ref (a 1 0)), (1, .int (zi z1)), (2, .int (zi z2)), (3, .int (zi z3)), (4, .int (zi z4)), (5, .ref o)] := hl
  refine lv_aload hx hb dL_setNote_0 (lv_at hl 5 rfl) ?_
  refine z_iconst hx hb dL_setNote_2 ?_
  refine lv_aload_n hx hb dL_setNote_3 rfl (lv_at hl 0 rfl) ?_
  refine lv_iload_n hx hb dL_setNote_4 rfl (lv_at hl 1 rfl) ?_
  refine lv_iload_n hx hb dL_setNote_5 rfl (lv_at hl 2 rfl) ?_
  refine lv_iload_n hx hb dL_setNote_6 rfl (lv_at hl 3 rfl) ?_
  refine lv_iload hx hb dL_setNote_7 (lv_at hl 4 rfl) ?_
  refine dw_V (rest := [.int (zi 0), .ref o]) (As := [.int (zi z1), .int (zi z2), .int (zi z3), .int (zi z4)]) ⟨hx, hb, hml, hown, hts⟩ (hM _) (cwV 4 hts gL_setNote_X3_setNote rfl r1 r2 (by decide +kernel) ⟨by show rm.frames + 1 ≤ 8; omega, by show 8 + (7 + 11) + rm.locals ≤ 180; omega⟩) (z_recv hK hI.ob rfl) hI hK rfl hl.1 rfl (Nat.le_of_ble_eq_true rfl) dL_setNote_9 ⟨by show 0 + mc ≤ 4; omega, by show 0 + ms ≤ 32; omega⟩ (va_S.rf (A := lhA σ a s.heap.size o)) (fun q h => Or.inl h) (fun a' H1 locs1 hI1 hE hz hk hS => ?_)
  have hat1 : va_at g.1 vwCl (outL cL o f) H1 := hat.kept (hk o hat.lt (fun h => h.elim ho (fun h => absurd hat.lt (by show ¬ o < s.heap.size; omega))))
  have hne : ∀ q, Ow σ' a' q → q ≠ o := fun q hq e => by rcases hE.2 q hq with h | h; exact ho (by rw [← e]; exact h); have h9 := hat.lt; have h9 : o < s.heap.size := h9; omega
  refine lv_i2l hx hb dL_setNote_12 rfl ?_
  refine z_last hx hb hL hat1 hS (Or.inr rfl) dL_setNote_13 (fun H2 locs2 hat2 hoq hz2 hS2 => ?_)
  refine lv_goto (tgt := 29) hx hb dL_setNote_14 (by decide) ?_
  refine z_iconst hx hb dL_setNote_29 ?_
  refine W.widen (k := 4) (n := 32) (by omega) (by omega) ?_
  exact z_lhret a' _ hx hb hr hlk dL_setNote_30 rfl (hI1.far (fun q hq => hoq q (hne q hq))) hE hat2 (fun _ => rfl) hS2
set_option maxHeartbeats 4000000 in
set_option maxRecDepth 100000 in
theorem H_setNote_x1 (l : Launch) (g : gG) (cL cD : ClassId) (z1 z2 z3 z4 : Int) (o sz : Nat) (σ : SG) (a : AD) (v : Int) (rm : Room) (hrm : rm.cells = 1 ∧ rm.slots = 6 ∧ 1 ≤ 4 ∧ 6 ≤ 32 ∧ rm.frames ≤ 7 ∧ rm.locals ≤ 143) (hM : XT l yX3_setNote wsX3_setNote rm g (.ref (a 1 0) :: [.int (zi z1), .int (zi z2), .int (zi z3), .int (zi z4)]) (DI g σ a) eI) : LH l yL_setNote wsL_setNote g cL cD [.int (zi z1), .int (zi z2), .int (zi z3), .int (zi z4)] o sz σ a σ 1 v := by
  refine ZH.ofW (cc := cL_setNote) (maxL := 7) (ret := (some .int)) (hh := [(0, 14, 17, 20), (0, 14, 21, 13), (0, 14, 25, 15)]) (by decide) rfl (Nat.le_of_ble_eq_true rfl) ?_
  intro p e s m below meth c ls hx hb hr hml hown hts hlk htb hB hl
  obtain ⟨⟨rfl, hI, ⟨f, hat⟩, ho⟩, hK, hT, hN, hL⟩ := hB
  obtain ⟨r1, r2, r3, r4, r5, r6⟩ := hrm
  have hown : s.vm.findClass RL = some m.cls := hown
  have hl : lv_has ls 7 [(0, .ref (a 1 0)), (1, .int (zi z1)), (2, .int (zi z2)), (3, .int (zi z3)), (4, .int (zi z4)), (5, .ref o)] := hl
  refine lv_aload hx hb dL_setNote_0 (lv_at hl 5 rfl) ?_
  refine z_iconst hx hb dL_setNote_2 ?_
  refine lv_aload_n hx hb dL_setNote_3 rfl (lv_at hl 0 rfl) ?_
  refine lv_iload_n hx hb dL_setNote_4 rfl (lv_at hl 1 rfl) ?_
  refine lv_iload_n hx hb dL_setNote_5 rfl (lv_at hl 2 rfl) ?_
  refine lv_iload_n hx hb dL_setNote_6 rfl (lv_at hl 3 rfl) ?_
  refine lv_iload hx hb dL_setNote_7 (lv_at hl 4 rfl) ?_
  refine xt_V (A0 := lhA σ a s.heap.size o) (rest := [.int (zi 0), .ref o]) (As := [.int (zi z1), .int (zi z2), .int (zi z3), .int (zi z4)]) ⟨hx, hb, hml, hown, hts⟩ hM (cwV 4 hts gL_setNote_X3_setNote rfl r1 r2 (by decide +kernel) ⟨by show rm.frames + 1 ≤ 8; omega, by show 8 + (7 + 11) + rm.locals ≤ 180; omega⟩) (z_recv hK hI.ob rfl) hI hK hT rfl hl.1 rfl (Nat.le_of_ble_eq_true rfl) dL_setNote_9 ⟨Nat.le_of_ble_eq_true rfl, Nat.le_of_ble_eq_true rfl⟩ (fun H1 q9 ce hz hk hS hce hcv hcl => ?_)
  refine vx_catch (own := RL) (name := eI) (E := eI) hown [] ⟨0, 14, 17, 20⟩ [⟨0, 14, 21, 13⟩, ⟨0, 14, 25, 15⟩] htb (fun z hz => by cases hz) (by decide) (by decide) (hts (.classLink RL 20 eI) (by decide +kernel)) (va_tabs (TWb.tab (.castable eI eI) (by decide)) rfl (hT.2.2.2 (.castable eI eI) (by decide))) hce hcv hcl ?_
  refine lv_astore (lv' := [(6, .ref q9), (0, .ref (a 1 0)), (1, .int (zi z1)), (2, .int (zi z2)), (3, .int (zi z3)), (4, .int (zi z4)), (5, .ref o)]) hx hb dL_setNote_17 hl (by decide) rfl (fun ls hl => ?_)
  refine z_iconst hx hb dL_setNote_19 ?_
  refine W.widen (k := 4) (n := 32) (by omega) (by omega) ?_
  exact z_lhret a f hx hb hr hlk dL_setNote_20 rfl (hI.far (fun q hq => hk q (hI.Ow_lt hq))) (DE_same rfl rfl) (hat.kept (hk o hat.lt)) (fun h => absurd h (by decide)) hS
set_option maxHeartbeats 4000000 in
set_option maxRecDepth 100000 in
theorem H_setNote_x2 (l : Launch) (g : gG) (cL cD : ClassId) (z1 z2 z3 z4 : Int) (o sz : Nat) (σ : SG) (a : AD) (v : Int) (rm : Room) (hrm : rm.cells = 1 ∧ rm.slots = 6 ∧ 1 ≤ 4 ∧ 6 ≤ 32 ∧ rm.frames ≤ 7 ∧ rm.locals ≤ 143) (hM : XT l yX3_setNote wsX3_setNote rm g (.ref (a 1 0) :: [.int (zi z1), .int (zi z2), .int (zi z3), .int (zi z4)]) (DI g σ a) eA) : LH l yL_setNote wsL_setNote g cL cD [.int (zi z1), .int (zi z2), .int (zi z3), .int (zi z4)] o sz σ a σ 2 v := by
  refine ZH.ofW (cc := cL_setNote) (maxL := 7) (ret := (some .int)) (hh := [(0, 14, 17, 20), (0, 14, 21, 13), (0, 14, 25, 15)]) (by decide) rfl (Nat.le_of_ble_eq_true rfl) ?_
  intro p e s m below meth c ls hx hb hr hml hown hts hlk htb hB hl
  obtain ⟨⟨rfl, hI, ⟨f, hat⟩, ho⟩, hK, hT, hN, hL⟩ := hB
  obtain ⟨r1, r2, r3, r4, r5, r6⟩ := hrm
  have hown : s.vm.findClass RL = some m.cls := hown
  have hl : lv_has ls 7 [(0, .ref (a 1 0)), (1, .int (zi z1)), (2, .int (zi z2)), (3, .int (zi z3)), (4, .int (zi z4)), (5, .ref o)] := hl
  refine lv_aload hx hb dL_setNote_0 (lv_at hl 5 rfl) ?_
  refine z_iconst hx hb dL_setNote_2 ?_
  refine lv_aload_n hx hb dL_setNote_3 rfl (lv_at hl 0 rfl) ?_
  refine lv_iload_n hx hb dL_setNote_4 rfl (lv_at hl 1 rfl) ?_
  refine lv_iload_n hx hb dL_setNote_5 rfl (lv_at hl 2 rfl) ?_
  refine lv_iload_n hx hb dL_setNote_6 rfl (lv_at hl 3 rfl) ?_
  refine lv_iload hx hb dL_setNote_7 (lv_at hl 4 rfl) ?_
  refine xt_V (A0 := lhA σ a s.heap.size o) (rest := [.int (zi 0), .ref o]) (As := [.int (zi z1), .int (zi z2), .int (zi z3), .int (zi z4)]) ⟨hx, hb, hml, hown, hts⟩ hM (cwV 4 hts gL_setNote_X3_setNote rfl r1 r2 (by decide +kernel) ⟨by show rm.frames + 1 ≤ 8; omega, by show 8 + (7 + 11) + rm.locals ≤ 180; omega⟩) (z_recv hK hI.ob rfl) hI hK hT rfl hl.1 rfl (Nat.le_of_ble_eq_true rfl) dL_setNote_9 ⟨Nat.le_of_ble_eq_true rfl, Nat.le_of_ble_eq_true rfl⟩ (fun H1 q9 ce hz hk hS hce hcv hcl => ?_)
  refine vx_catch (own := RL) (name := eA) (E := eA) hown [⟨0, 14, 17, 20⟩] ⟨0, 14, 21, 13⟩ [⟨0, 14, 25, 15⟩] htb (fun z hz => by
    rcases List.mem_singleton.mp hz with rfl
    exact Or.inr ⟨by decide, eI, hts (.classLink RL 20 eI) (by decide +kernel), hN.1⟩) (by decide) (by decide) (hts (.classLink RL 13 eA) (by decide +kernel)) (va_tabs (TWb.tab (.castable eA eA) (by decide)) rfl (hT.2.2.2 (.castable eA eA) (by decide))) hce hcv hcl ?_
  refine lv_astore (lv' := [(6, .ref q9), (0, .ref (a 1 0)), (1, .int (zi z1)), (2, .int (zi z2)), (3, .int (zi z3)), (4, .int (zi z4)), (5, .ref o)]) hx hb dL_setNote_21 hl (by decide) rfl (fun ls hl => ?_)
  refine z_iconst hx hb dL_setNote_23 ?_
  refine W.widen (k := 4) (n := 32) (by omega) (by omega) ?_
  exact z_lhret a f hx hb hr hlk dL_setNote_24 rfl (hI.far (fun q hq => hk q (hI.Ow_lt hq))) (DE_same rfl rfl) (hat.kept (hk o hat.lt)) (fun h => absurd h (by decide)) hS
set_option maxHeartbeats 4000000 in
set_option maxRecDepth 100000 in
theorem H_setNote_x3 (l : Launch) (g : gG) (cL cD : ClassId) (z1 z2 z3 z4 : Int) (o sz : Nat) (σ : SG) (a : AD) (v : Int) (rm : Room) (hrm : rm.cells = 1 ∧ rm.slots = 6 ∧ 1 ≤ 4 ∧ 6 ≤ 32 ∧ rm.frames ≤ 7 ∧ rm.locals ≤ 143) (hM : XT l yX3_setNote wsX3_setNote rm g (.ref (a 1 0) :: [.int (zi z1), .int (zi z2), .int (zi z3), .int (zi z4)]) (DI g σ a) eS) : LH l yL_setNote wsL_setNote g cL cD [.int (zi z1), .int (zi z2), .int (zi z3), .int (zi z4)] o sz σ a σ 3 v := by
  refine ZH.ofW (cc := cL_setNote) (maxL := 7) (ret := (some .int)) (hh := [(0, 14, 17, 20), (0, 14, 21, 13), (0, 14, 25, 15)]) (by decide) rfl (Nat.le_of_ble_eq_true rfl) ?_
  intro p e s m below meth c ls hx hb hr hml hown hts hlk htb hB hl
  obtain ⟨⟨rfl, hI, ⟨f, hat⟩, ho⟩, hK, hT, hN, hL⟩ := hB
  obtain ⟨r1, r2, r3, r4, r5, r6⟩ := hrm
  have hown : s.vm.findClass RL = some m.cls := hown
  have hl : lv_has ls 7 [(0, .ref (a 1 0)), (1, .int (zi z1)), (2, .int (zi z2)), (3, .int (zi z3)), (4, .int (zi z4)), (5, .ref o)] := hl
  refine lv_aload hx hb dL_setNote_0 (lv_at hl 5 rfl) ?_
  refine z_iconst hx hb dL_setNote_2 ?_
  refine lv_aload_n hx hb dL_setNote_3 rfl (lv_at hl 0 rfl) ?_
  refine lv_iload_n hx hb dL_setNote_4 rfl (lv_at hl 1 rfl) ?_
  refine lv_iload_n hx hb dL_setNote_5 rfl (lv_at hl 2 rfl) ?_
  refine lv_iload_n hx hb dL_setNote_6 rfl (lv_at hl 3 rfl) ?_
  refine lv_iload hx hb dL_setNote_7 (lv_at hl 4 rfl) ?_
  refine xt_V (A0 := lhA σ a s.heap.size o) (rest := [.int (zi 0), .ref o]) (As := [.int (zi z1), .int (zi z2), .int (zi z3), .int (zi z4)]) ⟨hx, hb, hml, hown, hts⟩ hM (cwV 4 hts gL_setNote_X3_setNote rfl r1 r2 (by decide +kernel) ⟨by show rm.frames + 1 ≤ 8; omega, by show 8 + (7 + 11) + rm.locals ≤ 180; omega⟩) (z_recv hK hI.ob rfl) hI hK hT rfl hl.1 rfl (Nat.le_of_ble_eq_true rfl) dL_setNote_9 ⟨Nat.le_of_ble_eq_true rfl, Nat.le_of_ble_eq_true rfl⟩ (fun H1 q9 ce hz hk hS hce hcv hcl => ?_)
  refine vx_catch (own := RL) (name := eS) (E := eS) hown [⟨0, 14, 17, 20⟩, ⟨0, 14, 21, 13⟩] ⟨0, 14, 25, 15⟩ [] htb (fun z hz => by
    rcases List.mem_cons.mp hz with rfl | hz
    · exact Or.inr ⟨by decide, eI, hts (.classLink RL 20 eI) (by decide +kernel), hN.2.1⟩
    · rcases List.mem_singleton.mp hz with rfl
      exact Or.inr ⟨by decide, eA, hts (.classLink RL 13 eA) (by decide +kernel), hN.2.2⟩) (by decide) (by decide) (hts (.classLink RL 15 eS) (by decide +kernel)) (va_tabs (TWb.tab (.castable eS eS) (by decide)) rfl (hT.2.2.2 (.castable eS eS) (by decide))) hce hcv hcl ?_
  refine lv_astore (lv' := [(6, .ref q9), (0, .ref (a 1 0)), (1, .int (zi z1)), (2, .int (zi z2)), (3, .int (zi z3)), (4, .int (zi z4)), (5, .ref o)]) hx hb dL_setNote_25 hl (by decide) rfl (fun ls hl => ?_)
  refine z_iconst hx hb dL_setNote_27 ?_
  refine W.widen (k := 4) (n := 32) (by omega) (by omega) ?_
  exact z_lhret a f hx hb hr hlk dL_setNote_28 rfl (hI.far (fun q hq => hk q (hI.Ow_lt hq))) (DE_same rfl rfl) (hat.kept (hk o hat.lt)) (fun h => absurd h (by decide)) hS
set_option maxHeartbeats 4000000 in
set_option maxRecDepth 100000 in
theorem H_note_0 (l : Launch) (g : gG) (cL cD : ClassId) (z1 z2 z3 : Int) (o sz : Nat) (σ : SG) (a : AD) (σ' : SG) (v : Int) (rm : Room) (mc ms : Nat) (hrm : rm.cells = mc ∧ rm.slots = ms ∧ mc ≤ 4 ∧ ms ≤ 32 ∧ rm.frames ≤ 7 ∧ rm.locals ≤ 143) (hM : ∀ sz : Nat, DW l yX3_note wsX3_note rm g [.int (zi z1), .int (zi z2), .int (zi z3)] sz σ a σ' v mc ms) : LH l yL_note wsL_note g cL cD [.int (zi z1), .int (zi z2), .int (zi z3)] o sz σ a σ' 0 v := by
  refine ZH.ofW (cc := cL_note) (maxL := 6) (ret := (some .int)) (hh := [(0, 12, 15, 20)]) (by decide) rfl (Nat.le_of_ble_eq_true rfl) ?_
  intro p e s m below meth c ls hx hb hr hml hown hts hlk htb hB hl
  obtain ⟨⟨rfl, hI, ⟨f, hat⟩, ho⟩, hK, hT, hN, hL⟩ := hB
  obtain ⟨r1, r2, r3, r4, r5, r6⟩ := hrm
  have hown : s.vm.findClass RL = some m.cls := hown
  have hl : lv_has ls 6 [(0, .ref (a 1 0)), (1, .int (zi z1)), (2, .int (zi z2)), (3, .int (zi z3)), (4, .ref o)] := hl
  refine lv_aload hx hb dL_note_0 (lv_at hl 4 rfl) ?_
  refine z_iconst hx hb dL_note_2 ?_
  refine lv_aload_n hx hb dL_note_3 rfl (lv_at hl 0 rfl) ?_
  refine lv_iload_n hx hb dL_note_4 rfl (lv_at hl 1 rfl) ?_
  refine lv_iload_n hx hb dL_note_5 rfl (lv_at hl 2 rfl) ?_
  refine lv_iload_n hx hb dL_note_6 rfl (lv_at hl 3 rfl) ?_
  refine dw_V (rest := [.int (zi 0), .ref o]) (As := [.int (zi z1), .int (zi z2), .int (zi z3)]) ⟨hx, hb, hml, hown, hts⟩ (hM _) (cwV 3 hts gL_note_X3_note rfl r1 r2 (by decide +kernel) ⟨by show rm.frames + 1 ≤ 8; omega, by show 8 + (5 + 11) + rm.locals ≤ 180; omega⟩) (z_recv hK hI.ob rfl) hI hK rfl hl.1 rfl (Nat.le_of_ble_eq_true rfl) dL_note_7 ⟨by show 0 + mc ≤ 4; omega, by show 0 + ms ≤ 32; omega⟩ (va_S.rf (A := lhA σ a s.heap.size o)) (fun q h => Or.inl h) (fun a' H1 locs1 hI1 hE hz hk hS => ?_)
  have hat1 : va_at g.1 vwCl (outL cL o f) H1 := hat.kept (hk o hat.lt (fun h => h.elim ho (fun h => absurd hat.lt (by show ¬ o < s.heap.size; omega))))
  have hne : ∀ q, Ow σ' a' q → q ≠ o := fun q hq e => by rcases hE.2 q hq with h | h; exact ho (by rw [← e]; exact h); have h9 := hat.lt; have h9 : o < s.heap.size := h9; omega
  refine lv_i2l hx hb dL_note_10 rfl ?_
  refine z_last hx hb hL hat1 hS (Or.inr rfl) dL_note_11 (fun H2 locs2 hat2 hoq hz2 hS2 => ?_)
  refine lv_goto (tgt := 19) hx hb dL_note_12 (by decide) ?_
  refine z_iconst hx hb dL_note_19 ?_
  refine W.widen (k := 4) (n := 32) (by omega) (by omega) ?_
  exact z_lhret a' _ hx hb hr hlk dL_note_20 rfl (hI1.far (fun q hq => hoq q (hne q hq))) hE hat2 (fun _ => rfl) hS2
set_option maxHeartbeats 4000000 in
set_option maxRecDepth 100000 in
theorem H_note_x1 (l : Launch) (g : gG) (cL cD : ClassId) (z1 z2 z3 : Int) (o sz : Nat) (σ : SG) (a : AD) (v : Int) (rm : Room) (hrm : rm.cells = 1 ∧ rm.slots = 6 ∧ 1 ≤ 4 ∧ 6 ≤ 32 ∧ rm.frames ≤ 7 ∧ rm.locals ≤ 143) (hM : XT l yX3_note wsX3_note rm g (.ref (a 1 0) :: [.int (zi z1), .int (zi z2), .int (zi z3)]) (DI g σ a) eI) : LH l yL_note wsL_note g cL cD [.int (zi z1), .int (zi z2), .int (zi z3)] o sz σ a σ 1 v := by
  refine ZH.ofW (cc := cL_note) (maxL := 6) (ret := (some .int)) (hh := [(0, 12, 15, 20)]) (by decide) rfl (Nat.le_of_ble_eq_true rfl) ?_
  intro p e s m below meth c ls hx hb hr hml hown hts hlk htb hB hl
  obtain ⟨⟨rfl, hI, ⟨f, hat⟩, ho⟩, hK, hT, hN, hL⟩ := hB
  obtain ⟨r1, r2, r3, r4, r5, r6⟩ := hrm
  have hown : s.vm.findClass RL = some m.cls := hown
  have hl : lv_has ls 6 [(0, .ref (a 1 0)), (1, .int (zi z1)), (2, .int (zi z2)), (3, .int (zi z3)), (4, .ref o)] := hl
  refine lv_aload hx hb dL_note_0 (lv_at hl 4 rfl) ?_
  refine z_iconst hx hb dL_note_2 ?_
  refine lv_aload_n hx hb dL_note_3 rfl (lv_at hl 0 rfl) ?_
  refine lv_iload_n hx hb dL_note_4 rfl (lv_at hl 1 rfl) ?_
  refine lv_iload_n hx hb dL_note_5 rfl (lv_at hl 2 rfl) ?_
  refine lv_iload_n hx hb dL_note_6 rfl (lv_at hl 3 rfl) ?_
  refine xt_V (A0 := lhA σ a s.heap.size o) (rest := [.int (zi 0), .ref o]) (As := [.int (zi z1), .int (zi z2), .int (zi z3)]) ⟨hx, hb, hml, hown, hts⟩ hM (cwV 3 hts gL_note_X3_note rfl r1 r2 (by decide +kernel) ⟨by show rm.frames + 1 ≤ 8; omega, by show 8 + (5 + 11) + rm.locals ≤ 180; omega⟩) (z_recv hK hI.ob rfl) hI hK hT rfl hl.1 rfl (Nat.le_of_ble_eq_true rfl) dL_note_7 ⟨Nat.le_of_ble_eq_true rfl, Nat.le_of_ble_eq_true rfl⟩ (fun H1 q9 ce hz hk hS hce hcv hcl => ?_)
  refine vx_catch (own := RL) (name := eI) (E := eI) hown [] ⟨0, 12, 15, 20⟩ [] htb (fun z hz => by cases hz) (by decide) (by decide) (hts (.classLink RL 20 eI) (by decide +kernel)) (va_tabs (TWb.tab (.castable eI eI) (by decide)) rfl (hT.2.2.2 (.castable eI eI) (by decide))) hce hcv hcl ?_
  refine lv_astore (lv' := [(5, .ref q9), (0, .ref (a 1 0)), (1, .int (zi z1)), (2, .int (zi z2)), (3, .int (zi z3)), (4, .ref o)]) hx hb dL_note_15 hl (by decide) rfl (fun ls hl => ?_)
  refine z_iconst hx hb dL_note_17 ?_
  refine W.widen (k := 4) (n := 32) (by omega) (by omega) ?_
  exact z_lhret a f hx hb hr hlk dL_note_18 rfl (hI.far (fun q hq => hk q (hI.Ow_lt hq))) (DE_same rfl rfl) (hat.kept (hk o hat.lt)) (fun h => absurd h (by decide)) hS
set_option maxHeartbeats 4000000 in
set_option maxRecDepth 100000 in
theorem H_base_0 (l : Launch) (g : gG) (cL cD : ClassId) (z1 z2 : Int) (o sz : Nat) (σ : SG) (a : AD) (σ' : SG) (v : Int) (rm : Room) (mc ms : Nat) (hrm : rm.cells = mc ∧ rm.slots = ms ∧ mc ≤ 4 ∧ ms ≤ 32 ∧ rm.frames ≤ 7 ∧ rm.locals ≤ 143) (hM : ∀ sz : Nat, DW l yX3_base wsX3_base rm g [.int (zi z1), .int (zi z2)] sz σ a σ' v mc ms) : LH l yL_base wsL_base g cL cD [.int (zi z1), .int (zi z2)] o sz σ a σ' 0 v := by
  refine ZH.ofW (cc := cL_base) (maxL := 5) (ret := (some .int)) (hh := [(0, 10, 13, 20)]) (by decide) rfl (Nat.le_of_ble_eq_true rfl) ?_
  intro p e s m below meth c ls hx hb hr hml hown hts hlk htb hB hl
  obtain ⟨⟨rfl, hI, ⟨f, hat⟩, ho⟩, hK, hT, hN, hL⟩ := hB
  obtain ⟨r1, r2, r3, r4, r5, r6⟩ := hrm
  have hown : s.vm.findClass RL = some m.cls := hown
  have hl : lv_has ls 5 [(0, .ref (a 1 0)), (1, .int (zi z1)), (2, .int (zi z2)), (3, .ref o)] := hl
  refine lv_aload_n hx hb dL_base_0 rfl (lv_at hl 3 rfl) ?_
  refine z_iconst hx hb dL_base_1 ?_
  refine lv_aload_n hx hb dL_base_2 rfl (lv_at hl 0 rfl) ?_
  refine lv_iload_n hx hb dL_base_3 rfl (lv_at hl 1 rfl) ?_
  refine lv_iload_n hx hb dL_base_4 rfl (lv_at hl 2 rfl) ?_
  refine dw_V (rest := [.int (zi 0), .ref o]) (As := [.int (zi z1), .int (zi z2)]) ⟨hx, hb, hml, hown, hts⟩ (hM _) (cwV 2 hts gL_base_X3_base rfl r1 r2 (by decide +kernel) ⟨by show rm.frames + 1 ≤ 8; omega, by show 8 + (4 + 11) + rm.locals ≤ 180; omega⟩) (z_recv hK hI.ob rfl) hI hK rfl hl.1 rfl (Nat.le_of_ble_eq_true rfl) dL_base_5 ⟨by show 0 + mc ≤ 4; omega, by show 0 + ms ≤ 32; omega⟩ (va_S.rf (A := lhA σ a s.heap.size o)) (fun q h => Or.inl h) (fun a' H1 locs1 hI1 hE hz hk hS => ?_)
  have hat1 : va_at g.1 vwCl (outL cL o f) H1 := hat.kept (hk o hat.lt (fun h => h.elim ho (fun h => absurd hat.lt (by show ¬ o < s.heap.size; omega))))
  have hne : ∀ q, Ow σ' a' q → q ≠ o := fun q hq e => by rcases hE.2 q hq with h | h; exact ho (by rw [← e]; exact h); have h9 := hat.lt; have h9 : o < s.heap.size := h9; omega
  refine lv_i2l hx hb dL_base_8 rfl ?_
  refine z_last hx hb hL hat1 hS (Or.inr rfl) dL_base_9 (fun H2 locs2 hat2 hoq hz2 hS2 => ?_)
  refine lv_goto (tgt := 17) hx hb dL_base_10 (by decide) ?_
  refine z_iconst hx hb dL_base_17 ?_
  refine W.widen (k := 4) (n := 32) (by omega) (by omega) ?_
  exact z_lhret a' _ hx hb hr hlk dL_base_18 rfl (hI1.far (fun q hq => hoq q (hne q hq))) hE hat2 (fun _ => rfl) hS2
set_option maxHeartbeats 4000000 in
set_option maxRecDepth 100000 in
theorem H_base_x1 (l : Launch) (g : gG) (cL cD : ClassId) (z1 z2 : Int) (o sz : Nat) (σ : SG) (a : AD) (v : Int) (rm : Room) (hrm : rm.cells = 1 ∧ rm.slots = 6 ∧ 1 ≤ 4 ∧ 6 ≤ 32 ∧ rm.frames ≤ 7 ∧ rm.locals ≤ 143) (hM : XT l yX3_base wsX3_base rm g (.ref (a 1 0) :: [.int (zi z1), .int (zi z2)]) (DI g σ a) eI) : LH l yL_base wsL_base g cL cD [.int (zi z1), .int (zi z2)] o sz σ a σ 1 v := by
  refine ZH.ofW (cc := cL_base) (maxL := 5) (ret := (some .int)) (hh := [(0, 10, 13, 20)]) (by decide) rfl (Nat.le_of_ble_eq_true rfl) ?_
  intro p e s m below meth c ls hx hb hr hml hown hts hlk htb hB hl
  obtain ⟨⟨rfl, hI, ⟨f, hat⟩, ho⟩, hK, hT, hN, hL⟩ := hB
  obtain ⟨r1, r2, r3, r4, r5, r6⟩ := hrm
  have hown : s.vm.findClass RL = some m.cls := hown
  have hl : lv_has ls 5 [(0, .ref (a 1 0)), (1, .int (zi z1)), (2, .int (zi z2)), (3, .ref o)] := hl
  refine lv_aload_n hx hb dL_base_0 rfl (lv_at hl 3 rfl) ?_
  refine z_iconst hx hb dL_base_1 ?_
  refine lv_aload_n hx hb dL_base_2 rfl (lv_at hl 0 rfl) ?_
  refine lv_iload_n hx hb dL_base_3 rfl (lv_at hl 1 rfl) ?_
  refine lv_iload_n hx hb dL_base_4 rfl (lv_at hl 2 rfl) ?_
  refine xt_V (A0 := lhA σ a s.heap.size o) (rest := [.int (zi 0), .ref o]) (As := [.int (zi z1), .int (zi z2)]) ⟨hx, hb, hml, hown, hts⟩ hM (cwV 2 hts gL_base_X3_base rfl r1 r2 (by decide +kernel) ⟨by show rm.frames + 1 ≤ 8; omega, by show 8 + (4 + 11) + rm.locals ≤ 180; omega⟩) (z_recv hK hI.ob rfl) hI hK hT rfl hl.1 rfl (Nat.le_of_ble_eq_true rfl) dL_base_5 ⟨Nat.le_of_ble_eq_true rfl, Nat.le_of_ble_eq_true rfl⟩ (fun H1 q9 ce hz hk hS hce hcv hcl => ?_)
  refine vx_catch (own := RL) (name := eI) (E := eI) hown [] ⟨0, 10, 13, 20⟩ [] htb (fun z hz => by cases hz) (by decide) (by decide) (hts (.classLink RL 20 eI) (by decide +kernel)) (va_tabs (TWb.tab (.castable eI eI) (by decide)) rfl (hT.2.2.2 (.castable eI eI) (by decide))) hce hcv hcl ?_
  refine lv_astore (lv' := [(4, .ref q9), (0, .ref (a 1 0)), (1, .int (zi z1)), (2, .int (zi z2)), (3, .ref o)]) hx hb dL_base_13 hl (by decide) rfl (fun ls hl => ?_)
  refine z_iconst hx hb dL_base_15 ?_
  refine W.widen (k := 4) (n := 32) (by omega) (by omega) ?_
  exact z_lhret a f hx hb hr hlk dL_base_16 rfl (hI.far (fun q hq => hk q (hI.Ow_lt hq))) (DE_same rfl rfl) (hat.kept (hk o hat.lt)) (fun h => absurd h (by decide)) hS
set_option maxHeartbeats 4000000 in
set_option maxRecDepth 100000 in
theorem H_conflicts_0 (l : Launch) (g : gG) (cL cD : ClassId) (z1 z2 : Int) (o sz : Nat) (σ : SG) (a : AD) (σ' : SG) (v : Int) (rm : Room) (mc ms : Nat) (hrm : rm.cells = mc ∧ rm.slots = ms ∧ mc ≤ 4 ∧ ms ≤ 32 ∧ rm.frames ≤ 7 ∧ rm.locals ≤ 143) (hM : ∀ sz : Nat, DW l yX3_conflicts wsX3_conflicts rm g [.int (zi z1), .int (zi z2)] sz σ a σ' v mc ms) : LH l yL_conflicts wsL_conflicts g cL cD [.int (zi z1), .int (zi z2)] o sz σ a σ' 0 v := by
  refine ZH.ofW (cc := cL_conflicts) (maxL := 5) (ret := (some .int)) (hh := [(0, 10, 13, 20), (0, 10, 17, 15)]) (by decide) rfl (Nat.le_of_ble_eq_true rfl) ?_
  intro p e s m below meth c ls hx hb hr hml hown hts hlk htb hB hl
  obtain ⟨⟨rfl, hI, ⟨f, hat⟩, ho⟩, hK, hT, hN, hL⟩ := hB
  obtain ⟨r1, r2, r3, r4, r5, r6⟩ := hrm
  have hown : s.vm.findClass RL = some m.cls := hown
  have hl : lv_has ls 5 [(0, .ref (a 1 0)), (1, .int (zi z1)), (2, .int (zi z2)), (3, .ref o)] := hl
  refine lv_aload_n hx hb dL_conflicts_0 rfl (lv_at hl 3 rfl) ?_
  refine z_iconst hx hb dL_conflicts_1 ?_
  refine lv_aload_n hx hb dL_conflicts_2 rfl (lv_at hl 0 rfl) ?_
  refine lv_iload_n hx hb dL_conflicts_3 rfl (lv_at hl 1 rfl) ?_
  refine lv_iload_n hx hb dL_conflicts_4 rfl (lv_at hl 2 rfl) ?_
  refine dw_V (rest := [.int (zi 0), .ref o]) (As := [.int (zi z1), .int (zi z2)]) ⟨hx, hb, hml, hown, hts⟩ (hM _) (cwV 2 hts gL_conflicts_X3_conflicts rfl r1 r2 (by decide +kernel) ⟨by show rm.frames + 1 ≤ 8; omega, by show 8 + (6 + 11) + rm.locals ≤ 180; omega⟩) (z_recv hK hI.ob rfl) hI hK rfl hl.1 rfl (Nat.le_of_ble_eq_true rfl) dL_conflicts_5 ⟨by show 0 + mc ≤ 4; omega, by show 0 + ms ≤ 32; omega⟩ (va_S.rf (A := lhA σ a s.heap.size o)) (fun q h => Or.inl h) (fun a' H1 locs1 hI1 hE hz hk hS => ?_)
  have hat1 : va_at g.1 vwCl (outL cL o f) H1 := hat.kept (hk o hat.lt (fun h => h.elim ho (fun h => absurd hat.lt (by show ¬ o < s.heap.size; omega))))
  have hne : ∀ q, Ow σ' a' q → q ≠ o := fun q hq e => by rcases hE.2 q hq with h | h; exact ho (by rw [← e]; exact h); have h9 := hat.lt; have h9 : o < s.heap.size := h9; omega
  refine lv_i2l hx hb dL_conflicts_8 rfl ?_
  refine z_last hx hb hL hat1 hS (Or.inr rfl) dL_conflicts_9 (fun H2 locs2 hat2 hoq hz2 hS2 => ?_)
  refine lv_goto (tgt := 21) hx hb dL_conflicts_10 (by decide) ?_
  refine z_iconst hx hb dL_conflicts_21 ?_
  refine W.widen (k := 4) (n := 32) (by omega) (by omega) ?_
  exact z_lhret a' _ hx hb hr hlk dL_conflicts_22 rfl (hI1.far (fun q hq => hoq q (hne q hq))) hE hat2 (fun _ => rfl) hS2
set_option maxHeartbeats 4000000 in
set_option maxRecDepth 100000 in
theorem H_conflicts_x1 (l : Launch) (g : gG) (cL cD : ClassId) (z1 z2 : Int) (o sz : Nat) (σ : SG) (a : AD) (v : Int) (rm : Room) (hrm : rm.cells = 1 ∧ rm.slots = 6 ∧ 1 ≤ 4 ∧ 6 ≤ 32 ∧ rm.frames ≤ 7 ∧ rm.locals ≤ 143) (hM : XT l yX3_conflicts wsX3_conflicts rm g (.ref (a 1 0) :: [.int (zi z1), .int (zi z2)]) (DI g σ a) eI) : LH l yL_conflicts wsL_conflicts g cL cD [.int (zi z1), .int (zi z2)] o sz σ a σ 1 v := by
  refine ZH.ofW (cc := cL_conflicts) (maxL := 5) (ret := (some .int)) (hh := [(0, 10, 13, 20), (0, 10, 17, 15)]) (by decide) rfl (Nat.le_of_ble_eq_true rfl) ?_
  intro p e s m below meth c ls hx hb hr hml hown hts hlk htb hB hl
  obtain ⟨⟨rfl, hI, ⟨f, hat⟩, ho⟩, hK, hT, hN, hL⟩ := hB
  obtain ⟨r1, r2, r3, r4, r5, r6⟩ := hrm
  have hown : s.vm.findClass RL = some m.cls := hown
  have hl : lv_has ls 5 [(0, .ref (a 1 0)), (1, .int (zi z1)), (2, .int (zi z2)), (3, .ref o)] := hl
  refine lv_aload_n hx hb dL_conflicts_0 rfl (lv_at hl 3 rfl) ?_
  refine z_iconst hx hb dL_conflicts_1 ?_
  refine lv_aload_n hx hb dL_conflicts_2 rfl (lv_at hl 0 rfl) ?_
  refine lv_iload_n hx hb dL_conflicts_3 rfl (lv_at hl 1 rfl) ?_
  refine lv_iload_n hx hb dL_conflicts_4 rfl (lv_at hl 2 rfl) ?_
  refine xt_V (A0 := lhA σ a s.heap.size o) (rest := [.int (zi 0), .ref o]) (As := [.int (zi z1), .int (zi z2)]) ⟨hx, hb, hml, hown, hts⟩ hM (cwV 2 hts gL_conflicts_X3_conflicts rfl r1 r2 (by decide +kernel) ⟨by show rm.frames + 1 ≤ 8; omega, by show 8 + (6 + 11) + rm.locals ≤ 180; omega⟩) (z_recv hK hI.ob rfl) hI hK hT rfl hl.1 rfl (Nat.le_of_ble_eq_true rfl) dL_conflicts_5 ⟨Nat.le_of_ble_eq_true rfl, Nat.le_of_ble_eq_true rfl⟩ (fun H1 q9 ce hz hk hS hce hcv hcl => ?_)
  refine vx_catch (own := RL) (name := eI) (E := eI) hown [] ⟨0, 10, 13, 20⟩ [⟨0, 10, 17, 15⟩] htb (fun z hz => by cases hz) (by decide) (by decide) (hts (.classLink RL 20 eI) (by decide +kernel)) (va_tabs (TWb.tab (.castable eI eI) (by decide)) rfl (hT.2.2.2 (.castable eI eI) (by decide))) hce hcv hcl ?_
  refine lv_astore (lv' := [(4, .ref q9), (0, .ref (a 1 0)), (1, .int (zi z1)), (2, .int (zi z2)), (3, .ref o)]) hx hb dL_conflicts_13 hl (by decide) rfl (fun ls hl => ?_)
  refine z_iconst hx hb dL_conflicts_15 ?_
  refine W.widen (k := 4) (n := 32) (by omega) (by omega) ?_
  exact z_lhret a f hx hb hr hlk dL_conflicts_16 rfl (hI.far (fun q hq => hk q (hI.Ow_lt hq))) (DE_same rfl rfl) (hat.kept (hk o hat.lt)) (fun h => absurd h (by decide)) hS
set_option maxHeartbeats 4000000 in
set_option maxRecDepth 100000 in
theorem H_conflicts_x2 (l : Launch) (g : gG) (cL cD : ClassId) (z1 z2 : Int) (o sz : Nat) (σ : SG) (a : AD) (v : Int) (rm : Room) (hrm : rm.cells = 1 ∧ rm.slots = 6 ∧ 1 ≤ 4 ∧ 6 ≤ 32 ∧ rm.frames ≤ 7 ∧ rm.locals ≤ 143) (hM : XT l yX3_conflicts wsX3_conflicts rm g (.ref (a 1 0) :: [.int (zi z1), .int (zi z2)]) (DI g σ a) eS) : LH l yL_conflicts wsL_conflicts g cL cD [.int (zi z1), .int (zi z2)] o sz σ a σ 2 v := by
  refine ZH.ofW (cc := cL_conflicts) (maxL := 5) (ret := (some .int)) (hh := [(0, 10, 13, 20), (0, 10, 17, 15)]) (by decide) rfl (Nat.le_of_ble_eq_true rfl) ?_
  intro p e s m below meth c ls hx hb hr hml hown hts hlk htb hB hl
  obtain ⟨⟨rfl, hI, ⟨f, hat⟩, ho⟩, hK, hT, hN, hL⟩ := hB
  obtain ⟨r1, r2, r3, r4, r5, r6⟩ := hrm
  have hown : s.vm.findClass RL = some m.cls := hown
  have hl : lv_has ls 5 [(0, .ref (a 1 0)), (1, .int (zi z1)), (2, .int (zi z2)), (3, .ref o)] := hl
  refine lv_aload_n hx hb dL_conflicts_0 rfl (lv_at hl 3 rfl) ?_
  refine z_iconst hx hb dL_conflicts_1 ?_
  refine lv_aload_n hx hb dL_conflicts_2 rfl (lv_at hl 0 rfl) ?_
  refine lv_iload_n hx hb dL_conflicts_3 rfl (lv_at hl 1 rfl) ?_
  refine lv_iload_n hx hb dL_conflicts_4 rfl (lv_at hl 2 rfl) ?_
  refine xt_V (A0 := lhA σ a s.heap.size o) (rest := [.int (zi 0), .ref o]) (As := [.int (zi z1), .int (zi z2)]) ⟨hx, hb, hml, hown, hts⟩ hM (cwV 2 hts gL_conflicts_X3_conflicts rfl r1 r2 (by decide +kernel) ⟨by show rm.frames + 1 ≤ 8; omega, by show 8 + (6 + 11) + rm.locals ≤ 180; omega⟩) (z_recv hK hI.ob rfl) hI hK hT rfl hl.1 rfl (Nat.le_of_ble_eq_true rfl) dL_conflicts_5 ⟨Nat.le_of_ble_eq_true rfl, Nat.le_of_ble_eq_true rfl⟩ (fun H1 q9 ce hz hk hS hce hcv hcl => ?_)
  refine vx_catch (own := RL) (name := eS) (E := eS) hown [⟨0, 10, 13, 20⟩] ⟨0, 10, 17, 15⟩ [] htb (fun z hz => by
    rcases List.mem_singleton.mp hz with rfl
    exact Or.inr ⟨by decide, eI, hts (.classLink RL 20 eI) (by decide +kernel), hN.2.1⟩) (by decide) (by decide) (hts (.classLink RL 15 eS) (by decide +kernel)) (va_tabs (TWb.tab (.castable eS eS) (by decide)) rfl (hT.2.2.2 (.castable eS eS) (by decide))) hce hcv hcl ?_
  refine lv_astore (lv' := [(4, .ref q9), (0, .ref (a 1 0)), (1, .int (zi z1)), (2, .int (zi z2)), (3, .ref o)]) hx hb dL_conflicts_17 hl (by decide) rfl (fun ls hl => ?_)
  refine z_iconst hx hb dL_conflicts_19 ?_
  refine W.widen (k := 4) (n := 32) (by omega) (by omega) ?_
  exact z_lhret a f hx hb hr hlk dL_conflicts_20 rfl (hI.far (fun q hq => hk q (hI.Ow_lt hq))) (DE_same rfl rfl) (hat.kept (hk o hat.lt)) (fun h => absurd h (by decide)) hS
set_option maxHeartbeats 4000000 in
set_option maxRecDepth 100000 in
theorem H_merge_0 (l : Launch) (g : gG) (cL cD : ClassId) (z1 z2 : Int) (o sz : Nat) (σ : SG) (a : AD) (σ' : SG) (v : Int) (rm : Room) (mc ms : Nat) (hrm : rm.cells = mc ∧ rm.slots = ms ∧ mc ≤ 4 ∧ ms ≤ 32 ∧ rm.frames ≤ 7 ∧ rm.locals ≤ 143) (hM : ∀ sz : Nat, DW l yX3_merge wsX3_merge rm g [.int (zi z1), .int (zi z2)] sz σ a σ' v mc ms) : LH l yL_merge wsL_merge g cL cD [.int (zi z1), .int (zi z2)] o sz σ a σ' 0 v := by
  refine ZH.ofW (cc := cL_merge) (maxL := 5) (ret := (some .int)) (hh := [(0, 10, 13, 20), (0, 10, 17, 13), (0, 10, 21, 15)]) (by decide) rfl (Nat.le_of_ble_eq_true rfl) ?_
  intro p e s m below meth c ls hx hb hr hml hown hts hlk htb hB hl
  obtain ⟨⟨rfl, hI, ⟨f, hat⟩, ho⟩, hK, hT, hN, hL⟩ := hB
  obtain ⟨r1, r2, r3, r4, r5, r6⟩ := hrm
  have hown : s.vm.findClass RL = some m.cls := hown
  have hl : lv_has ls 5 [(0, .ref (a 1 0)), (1, .int (zi z1)), (2, .int (zi z2)), (3, .ref o)] := hl
  refine lv_aload_n hx hb dL_merge_0 rfl (lv_at hl 3 rfl) ?_
  refine z_iconst hx hb dL_merge_1 ?_
  refine lv_aload_n hx hb dL_merge_2 rfl (lv_at hl 0 rfl) ?_
  refine lv_iload_n hx hb dL_merge_3 rfl (lv_at hl 1 rfl) ?_
  refine lv_iload_n hx hb dL_merge_4 rfl (lv_at hl 2 rfl) ?_
  refine dw_V (rest := [.int (zi 0), .ref o]) (As := [.int (zi z1), .int (zi z2)]) ⟨hx, hb, hml, hown, hts⟩ (hM _) (cwV 2 hts gL_merge_X3_merge rfl r1 r2 (by decide +kernel) ⟨by show rm.frames + 1 ≤ 8; omega, by show 8 + (7 + 11) + rm.locals ≤ 180; omega⟩) (z_recv hK hI.ob rfl) hI hK rfl hl.1 rfl (Nat.le_of_ble_eq_true rfl) dL_merge_5 ⟨by show 0 + mc ≤ 4; omega, by show 0 + ms ≤ 32; omega⟩ (va_S.rf (A := lhA σ a s.heap.size o)) (fun q h => Or.inl h) (fun a' H1 locs1 hI1 hE hz hk hS => ?_)
  have hat1 : va_at g.1 vwCl (outL cL o f) H1 := hat.kept (hk o hat.lt (fun h => h.elim ho (fun h => absurd hat.lt (by show ¬ o < s.heap.size; omega))))
  have hne : ∀ q, Ow σ' a' q → q ≠ o := fun q hq e => by rcases hE.2 q hq with h | h; exact ho (by rw [← e]; exact h); have h9 := hat.lt; have h9 : o < s.heap.size := h9; omega
  refine lv_i2l hx hb dL_merge_8 rfl ?_
  refine z_last hx hb hL hat1 hS (Or.inr rfl) dL_merge_9 (fun H2 locs2 hat2 hoq hz2 hS2 => ?_)
  refine lv_goto (tgt := 25) hx hb dL_merge_10 (by decide) ?_
  refine z_iconst hx hb dL_merge_25 ?_
  refine W.widen (k := 4) (n := 32) (by omega) (by omega) ?_
  exact z_lhret a' _ hx hb hr hlk dL_merge_26 rfl (hI1.far (fun q hq => hoq q (hne q hq))) hE hat2 (fun _ => rfl) hS2
set_option maxHeartbeats 4000000 in
set_option maxRecDepth 100000 in
theorem H_merge_x1 (l : Launch) (g : gG) (cL cD : ClassId) (z1 z2 : Int) (o sz : Nat) (σ : SG) (a : AD) (v : Int) (rm : Room) (hrm : rm.cells = 1 ∧ rm.slots = 6 ∧ 1 ≤ 4 ∧ 6 ≤ 32 ∧ rm.frames ≤ 7 ∧ rm.locals ≤ 143) (hM : XT l yX3_merge wsX3_merge rm g (.ref (a 1 0) :: [.int (zi z1), .int (zi z2)]) (DI g σ a) eI) : LH l yL_merge wsL_merge g cL cD [.int (zi z1), .int (zi z2)] o sz σ a σ 1 v := by
  refine ZH.ofW (cc := cL_merge) (maxL := 5) (ret := (some .int)) (hh := [(0, 10, 13, 20), (0, 10, 17, 13), (0, 10, 21, 15)]) (by decide) rfl (Nat.le_of_ble_eq_true rfl) ?_
  intro p e s m below meth c ls hx hb hr hml hown hts hlk htb hB hl
  obtain ⟨⟨rfl, hI, ⟨f, hat⟩, ho⟩, hK, hT, hN, hL⟩ := hB
  obtain ⟨r1, r2, r3, r4, r5, r6⟩ := hrm
  have hown : s.vm.findClass RL = some m.cls := hown
  have hl : lv_has ls 5 [(0, .ref (a 1 0)), (1, .int (zi z1)), (2, .int (zi z2)), (3, .ref o)] := hl
  refine lv_aload_n hx hb dL_merge_0 rfl (lv_at hl 3 rfl) ?_
  refine z_iconst hx hb dL_merge_1 ?_
  refine lv_aload_n hx hb dL_merge_2 rfl (lv_at hl 0 rfl) ?_
  refine lv_iload_n hx hb dL_merge_3 rfl (lv_at hl 1 rfl) ?_
  refine lv_iload_n hx hb dL_merge_4 rfl (lv_at hl 2 rfl) ?_
  refine xt_V (A0 := lhA σ a s.heap.size o) (rest := [.int (zi 0), .ref o]) (As := [.int (zi z1), .int (zi z2)]) ⟨hx, hb, hml, hown, hts⟩ hM (cwV 2 hts gL_merge_X3_merge rfl r1 r2 (by decide +kernel) ⟨by show rm.frames + 1 ≤ 8; omega, by show 8 + (7 + 11) + rm.locals ≤ 180; omega⟩) (z_recv hK hI.ob rfl) hI hK hT rfl hl.1 rfl (Nat.le_of_ble_eq_true rfl) dL_merge_5 ⟨Nat.le_of_ble_eq_true rfl, Nat.le_of_ble_eq_true rfl⟩ (fun H1 q9 ce hz hk hS hce hcv hcl => ?_)
  refine vx_catch (own := RL) (name := eI) (E := eI) hown [] ⟨0, 10, 13, 20⟩ [⟨0, 10, 17, 13⟩, ⟨0, 10, 21, 15⟩] htb (fun z hz => by cases hz) (by decide) (by decide) (hts (.classLink RL 20 eI) (by decide +kernel)) (va_tabs (TWb.tab (.castable eI eI) (by decide)) rfl (hT.2.2.2 (.castable eI eI) (by decide))) hce hcv hcl ?_
  refine lv_astore (lv' := [(4, .ref q9), (0, .ref (a 1 0)), (1, .int (zi z1)), (2, .int (zi z2)), (3, .ref o)]) hx hb dL_merge_13 hl (by decide) rfl (fun ls hl => ?_)
  refine z_iconst hx hb dL_merge_15 ?_
  refine W.widen (k := 4) (n := 32) (by omega) (by omega) ?_
  exact z_lhret a f hx hb hr hlk dL_merge_16 rfl (hI.far (fun q hq => hk q (hI.Ow_lt hq))) (DE_same rfl rfl) (hat.kept (hk o hat.lt)) (fun h => absurd h (by decide)) hS
set_option maxHeartbeats 4000000 in
set_option maxRecDepth 100000 in
theorem H_merge_x2 (l : Launch) (g : gG) (cL cD : ClassId) (z1 z2 : Int) (o sz : Nat) (σ : SG) (a : AD) (v : Int) (rm : Room) (hrm : rm.cells = 1 ∧ rm.slots = 6 ∧ 1 ≤ 4 ∧ 6 ≤ 32 ∧ rm.frames ≤ 7 ∧ rm.locals ≤ 143) (hM : XT l yX3_merge wsX3_merge rm g (.ref (a 1 0) :: [.int (zi z1), .int (zi z2)]) (DI g σ a) eA) : LH l yL_merge wsL_merge g cL cD [.int (zi z1), .int (zi z2)] o sz σ a σ 2 v := by
  refine ZH.ofW (cc := cL_merge) (maxL := 5) (ret := (some .int)) (hh := [(0, 10, 13, 20), (0, 10, 17, 13), (0, 10, 21, 15)]) (by decide) rfl (Nat.le_of_ble_eq_true rfl) ?_
  intro p e s m below meth c ls hx hb hr hml hown hts hlk htb hB hl
  obtain ⟨⟨rfl, hI, ⟨f, hat⟩, ho⟩, hK, hT, hN, hL⟩ := hB
  obtain ⟨r1, r2, r3, r4, r5, r6⟩ := hrm
  have hown : s.vm.findClass RL = some m.cls := hown
  have hl : lv_has ls 5 [(0, .ref (a 1 0)), (1, .int (zi z1)), (2, .int (zi z2)), (3, .ref o)] := hl
  refine lv_aload_n hx hb dL_merge_0 rfl (lv_at hl 3 rfl) ?_
  refine z_iconst hx hb dL_merge_1 ?_
  refine lv_aload_n hx hb dL_merge_2 rfl (lv_at hl 0 rfl) ?_
  refine lv_iload_n hx hb dL_merge_3 rfl (lv_at hl 1 rfl) ?_
  refine lv_iload_n hx hb dL_merge_4 rfl (lv_at hl 2 rfl) ?_
  refine xt_V (A0 := lhA σ a s.heap.size o) (rest := [.int (zi 0), .ref o]) (As := [.int (zi z1), .int (zi z2)]) ⟨hx, hb, hml, hown, hts⟩ hM (cwV 2 hts gL_merge_X3_merge rfl r1 r2 (by decide +kernel) ⟨by show rm.frames + 1 ≤ 8; omega, by show 8 + (7 + 11) + rm.locals ≤ 180; omega⟩) (z_recv hK hI.ob rfl) hI hK hT rfl hl.1 rfl (Nat.le_of_ble_eq_true rfl) dL_merge_5 ⟨Nat.le_of_ble_eq_true rfl, Nat.le_of_ble_eq_true rfl⟩ (fun H1 q9 ce hz hk hS hce hcv hcl => ?_)
  refine vx_catch (own := RL) (name := eA) (E := eA) hown [⟨0, 10, 13, 20⟩] ⟨0, 10, 17, 13⟩ [⟨0, 10, 21, 15⟩] htb (fun z hz => by
    rcases List.mem_singleton.mp hz with rfl
    exact Or.inr ⟨by decide, eI, hts (.classLink RL 20 eI) (by decide +kernel), hN.1⟩) (by decide) (by decide) (hts (.classLink RL 13 eA) (by decide +kernel)) (va_tabs (TWb.tab (.castable eA eA) (by decide)) rfl (hT.2.2.2 (.castable eA eA) (by decide))) hce hcv hcl ?_
  refine lv_astore (lv' := [(4, .ref q9), (0, .ref (a 1 0)), (1, .int (zi z1)), (2, .int (zi z2)), (3, .ref o)]) hx hb dL_merge_17 hl (by decide) rfl (fun ls hl => ?_)
  refine z_iconst hx hb dL_merge_19 ?_
  refine W.widen (k := 4) (n := 32) (by omega) (by omega) ?_
  exact z_lhret a f hx hb hr hlk dL_merge_20 rfl (hI.far (fun q hq => hk q (hI.Ow_lt hq))) (DE_same rfl rfl) (hat.kept (hk o hat.lt)) (fun h => absurd h (by decide)) hS
set_option maxHeartbeats 4000000 in
set_option maxRecDepth 100000 in
theorem H_merge_x3 (l : Launch) (g : gG) (cL cD : ClassId) (z1 z2 : Int) (o sz : Nat) (σ : SG) (a : AD) (v : Int) (rm : Room) (hrm : rm.cells = 1 ∧ rm.slots = 6 ∧ 1 ≤ 4 ∧ 6 ≤ 32 ∧ rm.frames ≤ 7 ∧ rm.locals ≤ 143) (hM : XT l yX3_merge wsX3_merge rm g (.ref (a 1 0) :: [.int (zi z1), .int (zi z2)]) (DI g σ a) eS) : LH l yL_merge wsL_merge g cL cD [.int (zi z1), .int (zi z2)] o sz σ a σ 3 v := by
  refine ZH.ofW (cc := cL_merge) (maxL := 5) (ret := (some .int)) (hh := [(0, 10, 13, 20), (0, 10, 17, 13), (0, 10, 21, 15)]) (by decide) rfl (Nat.le_of_ble_eq_true rfl) ?_
  intro p e s m below meth c ls hx hb hr hml hown hts hlk htb hB hl
  obtain ⟨⟨rfl, hI, ⟨f, hat⟩, ho⟩, hK, hT, hN, hL⟩ := hB
  obtain ⟨r1, r2, r3, r4, r5, r6⟩ := hrm
  have hown : s.vm.findClass RL = some m.cls := hown
  have hl : lv_has ls 5 [(0, .ref (a 1 0)), (1, .int (zi z1)), (2, .int (zi z2)), (3, .ref o)] := hl
  refine lv_aload_n hx hb dL_merge_0 rfl (lv_at hl 3 rfl) ?_
  refine z_iconst hx hb dL_merge_1 ?_
  refine lv_aload_n hx hb dL_merge_2 rfl (lv_at hl 0 rfl) ?_
  refine lv_iload_n hx hb dL_merge_3 rfl (lv_at hl 1 rfl) ?_
  refine lv_iload_n hx hb dL_merge_4 rfl (lv_at hl 2 rfl) ?_
  refine xt_V (A0 := lhA σ a s.heap.size o) (rest := [.int (zi 0), .ref o]) (As := [.int (zi z1), .int (zi z2)]) ⟨hx, hb, hml, hown, hts⟩ hM (cwV 2 hts gL_merge_X3_merge rfl r1 r2 (by decide +kernel) ⟨by show rm.frames + 1 ≤ 8; omega, by show 8 + (7 + 11) + rm.locals ≤ 180; omega⟩) (z_recv hK hI.ob rfl) hI hK hT rfl hl.1 rfl (Nat.le_of_ble_eq_true rfl) dL_merge_5 ⟨Nat.le_of_ble_eq_true rfl, Nat.le_of_ble_eq_true rfl⟩ (fun H1 q9 ce hz hk hS hce hcv hcl => ?_)
  refine vx_catch (own := RL) (name := eS) (E := eS) hown [⟨0, 10, 13, 20⟩, ⟨0, 10, 17, 13⟩] ⟨0, 10, 21, 15⟩ [] htb (fun z hz => by
    rcases List.mem_cons.mp hz with rfl | hz
    · exact Or.inr ⟨by decide, eI, hts (.classLink RL 20 eI) (by decide +kernel), hN.2.1⟩
    · rcases List.mem_singleton.mp hz with rfl
      exact Or.inr ⟨by decide, eA, hts (.classLink RL 13 eA) (by decide +kernel), hN.2.2⟩) (by decide) (by decide) (hts (.classLink RL 15 eS) (by decide +kernel)) (va_tabs (TWb.tab (.castable eS eS) (by decide)) rfl (hT.2.2.2 (.castable eS eS) (by decide))) hce hcv hcl ?_
  refine lv_astore (lv' := [(4, .ref q9), (0, .ref (a 1 0)), (1, .int (zi z1)), (2, .int (zi z2)), (3, .ref o)]) hx hb dL_merge_21 hl (by decide) rfl (fun ls hl => ?_)
  refine z_iconst hx hb dL_merge_23 ?_
  refine W.widen (k := 4) (n := 32) (by omega) (by omega) ?_
  exact z_lhret a f hx hb hr hlk dL_merge_24 rfl (hI.far (fun q hq => hk q (hI.Ow_lt hq))) (DE_same rfl rfl) (hat.kept (hk o hat.lt)) (fun h => absurd h (by decide)) hS
set_option maxHeartbeats 4000000 in
set_option maxRecDepth 100000 in
theorem H_setWeight_0 (l : Launch) (g : gG) (cL cD : ClassId) (z1 z2 : Int) (o sz : Nat) (σ : SG) (a : AD) (σ' : SG) (v : Int) (rm : Room) (mc ms : Nat) (hrm : rm.cells = mc ∧ rm.slots = ms ∧ mc ≤ 4 ∧ ms ≤ 32 ∧ rm.frames ≤ 7 ∧ rm.locals ≤ 143) (hM : ∀ sz : Nat, DW l yX3_setWeight wsX3_setWeight rm g [.int (zi z1), .int (zi z2)] sz σ a σ' v mc ms) : LH l yL_setWeight wsL_setWeight g cL cD [.int (zi z1), .int (zi z2)] o sz σ a σ' 0 v := by
  refine ZH.ofW (cc := cL_setWeight) (maxL := 5) (ret := (some .int)) (hh := [(0, 10, 13, 20), (0, 10, 17, 13)]) (by decide) rfl (Nat.le_of_ble_eq_true rfl) ?_
  intro p e s m below meth c ls hx hb hr hml hown hts hlk htb hB hl
  obtain ⟨⟨rfl, hI, ⟨f, hat⟩, ho⟩, hK, hT, hN, hL⟩ := hB
  obtain ⟨r1, r2, r3, r4, r5, r6⟩ := hrm
  have hown : s.vm.findClass RL = some m.cls := hown
  have hl : lv_has ls 5 [(0, .ref (a 1 0)), (1, .int (zi z1)), (2, .int (zi z2)), (3, .ref o)] := hl
  refine lv_aload_n hx hb dL_setWeight_0 rfl (lv_at hl 3 rfl) ?_
  refine z_iconst hx hb dL_setWeight_1 ?_
  refine lv_aload_n hx hb dL_setWeight_2 rfl (lv_at hl 0 rfl) ?_
  refine lv_iload_n hx hb dL_setWeight_3 rfl (lv_at hl 1 rfl) ?_
  refine lv_iload_n hx hb dL_setWeight_4 rfl (lv_at hl 2 rfl) ?_
  refine dw_V (rest := [.int (zi 0), .ref o]) (As := [.int (zi z1), .int (zi z2)]) ⟨hx, hb, hml, hown, hts⟩ (hM _) (cwV 2 hts gL_setWeight_X3_setWeight rfl r1 r2 (by decide +kernel) ⟨by show rm.frames + 1 ≤ 8; omega, by show 8 + (4 + 11) + rm.locals ≤ 180; omega⟩) (z_recv hK hI.ob rfl) hI hK rfl hl.1 rfl (Nat.le_of_ble_eq_true rfl) dL_setWeight_5 ⟨by show 0 + mc ≤ 4; omega, by show 0 + ms ≤ 32; omega⟩ (va_S.rf (A := lhA σ a s.heap.size o)) (fun q h => Or.inl h) (fun a' H1 locs1 hI1 hE hz hk hS => ?_)
  have hat1 : va_at g.1 vwCl (outL cL o f) H1 := hat.kept (hk o hat.lt (fun h => h.elim ho (fun h => absurd hat.lt (by show ¬ o < s.heap.size; omega))))
  have hne : ∀ q, Ow σ' a' q → q ≠ o := fun q hq e => by rcases hE.2 q hq with h | h; exact ho (by rw [← e]; exact h); have h9 := hat.lt; have h9 : o < s.heap.size := h9; omega
  refine lv_i2l hx hb dL_setWeight_8 rfl ?_
  refine z_last hx hb hL hat1 hS (Or.inr rfl) dL_setWeight_9 (fun H2 locs2 hat2 hoq hz2 hS2 => ?_)
  refine lv_goto (tgt := 21) hx hb dL_setWeight_10 (by decide) ?_
  refine z_iconst hx hb dL_setWeight_21 ?_
  refine W.widen (k := 4) (n := 32) (by omega) (by omega) ?_
  exact z_lhret a' _ hx hb hr hlk dL_setWeight_22 rfl (hI1.far (fun q hq => hoq q (hne q hq))) hE hat2 (fun _ => rfl) hS2
set_option maxHeartbeats 4000000 in
set_option maxRecDepth 100000 in
theorem H_setWeight_x1 (l : Launch) (g : gG) (cL cD : ClassId) (z1 z2 : Int) (o sz : Nat) (σ : SG) (a : AD) (v : Int) (rm : Room) (hrm : rm.cells = 1 ∧ rm.slots = 6 ∧ 1 ≤ 4 ∧ 6 ≤ 32 ∧ rm.frames ≤ 7 ∧ rm.locals ≤ 143) (hM : XT l yX3_setWeight wsX3_setWeight rm g (.ref (a 1 0) :: [.int (zi z1), .int (zi z2)]) (DI g σ a) eI) : LH l yL_setWeight wsL_setWeight g cL cD [.int (zi z1), .int (zi z2)] o sz σ a σ 1 v := by
  refine ZH.ofW (cc := cL_setWeight) (maxL := 5) (ret := (some .int)) (hh := [(0, 10, 13, 20), (0, 10, 17, 13)]) (by decide) rfl (Nat.le_of_ble_eq_true rfl) ?_
  intro p e s m below meth c ls hx hb hr hml hown hts hlk htb hB hl
  obtain ⟨⟨rfl, hI, ⟨f, hat⟩, ho⟩, hK, hT, hN, hL⟩ := hB
  obtain ⟨r1, r2, r3, r4, r5, r6⟩ := hrm
  have hown : s.vm.findClass RL = some m.cls := hown
  have hl : lv_has ls 5 [(0, .ref (a 1 0)), (1, .int (zi z1)), (2, .int (zi z2)), (3, .ref o)] := hl
  refine lv_aload_n hx hb dL_setWeight_0 rfl (lv_at hl 3 rfl) ?_
  refine z_iconst hx hb dL_setWeight_1 ?_
  refine lv_aload_n hx hb dL_setWeight_2 rfl (lv_at hl 0 rfl) ?_
  refine lv_iload_n hx hb dL_setWeight_3 rfl (lv_at hl 1 rfl) ?_
  refine lv_iload_n hx hb dL_setWeight_4 rfl (lv_at hl 2 rfl) ?_
  refine xt_V (A0 := lhA σ a s.heap.size o) (rest := [.int (zi 0), .ref o]) (As := [.int (zi z1), .int (zi z2)]) ⟨hx, hb, hml, hown, hts⟩ hM (cwV 2 hts gL_setWeight_X3_setWeight rfl r1 r2 (by decide +kernel) ⟨by show rm.frames + 1 ≤ 8; omega, by show 8 + (4 + 11) + rm.locals ≤ 180; omega⟩) (z_recv hK hI.ob rfl) hI hK hT rfl hl.1 rfl (Nat.le_of_ble_eq_true rfl) dL_setWeight_5 ⟨Nat.le_of_ble_eq_true rfl, Nat.le_of_ble_eq_true rfl⟩ (fun H1 q9 ce hz hk hS hce hcv hcl => ?_)
  refine vx_catch (own := RL) (name := eI) (E := eI) hown [] ⟨0, 10, 13, 20⟩ [⟨0, 10, 17, 13⟩] htb (fun z hz => by cases hz) (by decide) (by decide) (hts (.classLink RL 20 eI) (by decide +kernel)) (va_tabs (TWb.tab (.castable eI eI) (by decide)) rfl (hT.2.2.2 (.castable eI eI) (by decide))) hce hcv hcl ?_
  refine lv_astore (lv' := [(4, .ref q9), (0, .ref (a 1 0)), (1, .int (zi z1)), (2, .int (zi z2)), (3, .ref o)]) hx hb dL_setWeight_13 hl (by decide) rfl (fun ls hl => ?_)
  refine z_iconst hx hb dL_setWeight_15 ?_
  refine W.widen (k := 4) (n := 32) (by omega) (by omega) ?_
  exact z_lhret a f hx hb hr hlk dL_setWeight_16 rfl (hI.far (fun q hq => hk q (hI.Ow_lt hq))) (DE_same rfl rfl) (hat.kept (hk o hat.lt)) (fun h => absurd h (by decide)) hS
set_option maxHeartbeats 4000000 in
set_option maxRecDepth 100000 in
theorem H_setWeight_x2 (l : Launch) (g : gG) (cL cD : ClassId) (z1 z2 : Int) (o sz : Nat) (σ : SG) (a : AD) (v : Int) (rm : Room) (hrm : rm.cells = 1 ∧ rm.slots = 6 ∧ 1 ≤ 4 ∧ 6 ≤ 32 ∧ rm.frames ≤ 7 ∧ rm.locals ≤ 143) (hM : XT l yX3_setWeight wsX3_setWeight rm g (.ref (a 1 0) :: [.int (zi z1), .int (zi z2)]) (DI g σ a) eA) : LH l yL_setWeight wsL_setWeight g cL cD [.int (zi z1), .int (zi z2)] o sz σ a σ 2 v := by
  refine ZH.ofW (cc := cL_setWeight) (maxL := 5) (ret := (some .int)) (hh := [(0, 10, 13, 20), (0, 10, 17, 13)]) (by decide) rfl (Nat.le_of_ble_eq_true rfl) ?_
  intro p e s m below meth c ls hx hb hr hml hown hts hlk htb hB hl
  obtain ⟨⟨rfl, hI, ⟨f, hat⟩, ho⟩, hK, hT, hN, hL⟩ := hB
  obtain ⟨r1, r2, r3, r4, r5, r6⟩ := hrm
  have hown : s.vm.findClass RL = some m.cls := hown
  have hl : lv_has ls 5 [(0, .ref (a 1 0)), (1, .int (zi z1)), (2, .int (zi z2)), (3, .ref o)] := hl
  refine lv_aload_n hx hb dL_setWeight_0 rfl (lv_at hl 3 rfl) ?_
  refine z_iconst hx hb dL_setWeight_1 ?_
  refine lv_aload_n hx hb dL_setWeight_2 rfl (lv_at hl 0 rfl) ?_
  refine lv_iload_n hx hb dL_setWeight_3 rfl (lv_at hl 1 rfl) ?_
  refine lv_iload_n hx hb dL_setWeight_4 rfl (lv_at hl 2 rfl) ?_
  refine xt_V (A0 := lhA σ a s.heap.size o) (rest := [.int (zi 0), .ref o]) (As := [.int (zi z1), .int (zi z2)]) ⟨hx, hb, hml, hown, hts⟩ hM (cwV 2 hts gL_setWeight_X3_setWeight rfl r1 r2 (by decide +kernel) ⟨by show rm.frames + 1 ≤ 8; omega, by show 8 + (4 + 11) + rm.locals ≤ 180; omega⟩) (z_recv hK hI.ob rfl) hI hK hT rfl hl.1 rfl (Nat.le_of_ble_eq_true rfl) dL_setWeight_5 ⟨Nat.le_of_ble_eq_true rfl, Nat.le_of_ble_eq_true rfl⟩ (fun H1 q9 ce hz hk hS hce hcv hcl => ?_)
  refine vx_catch (own := RL) (name := eA) (E := eA) hown [⟨0, 10, 13, 20⟩] ⟨0, 10, 17, 13⟩ [] htb (fun z hz => by
    rcases List.mem_singleton.mp hz with rfl
    exact Or.inr ⟨by decide, eI, hts (.classLink RL 20 eI) (by decide +kernel), hN.1⟩) (by decide) (by decide) (hts (.classLink RL 13 eA) (by decide +kernel)) (va_tabs (TWb.tab (.castable eA eA) (by decide)) rfl (hT.2.2.2 (.castable eA eA) (by decide))) hce hcv hcl ?_
  refine lv_astore (lv' := [(4, .ref q9), (0, .ref (a 1 0)), (1, .int (zi z1)), (2, .int (zi z2)), (3, .ref o)]) hx hb dL_setWeight_17 hl (by decide) rfl (fun ls hl => ?_)
  refine z_iconst hx hb dL_setWeight_19 ?_
  refine W.widen (k := 4) (n := 32) (by omega) (by omega) ?_
  exact z_lhret a f hx hb hr hlk dL_setWeight_20 rfl (hI.far (fun q hq => hk q (hI.Ow_lt hq))) (DE_same rfl rfl) (hat.kept (hk o hat.lt)) (fun h => absurd h (by decide)) hS
set_option maxHeartbeats 4000000 in
set_option maxRecDepth 100000 in
theorem H_setPass_0 (l : Launch) (g : gG) (cL cD : ClassId) (z1 : Int) (o sz : Nat) (σ : SG) (a : AD) (σ' : SG) (v : Int) (rm : Room) (mc ms : Nat) (hrm : rm.cells = mc ∧ rm.slots = ms ∧ mc ≤ 4 ∧ ms ≤ 32 ∧ rm.frames ≤ 7 ∧ rm.locals ≤ 143) (hM : ∀ sz : Nat, DW l yX3_setPass wsX3_setPass rm g [.int (zi z1)] sz σ a σ' v mc ms) : LH l yL_setPass wsL_setPass g cL cD [.int (zi z1)] o sz σ a σ' 0 v := by
  refine ZH.ofW (cc := cL_setPass) (maxL := 4) (ret := (some .int)) (hh := [(0, 9, 12, 13)]) (by decide) rfl (Nat.le_of_ble_eq_true rfl) ?_
  intro p e s m below meth c ls hx hb hr hml hown hts hlk htb hB hl
  obtain ⟨⟨rfl, hI, ⟨f, hat⟩, ho⟩, hK, hT, hN, hL⟩ := hB
  obtain ⟨r1, r2, r3, r4, r5, r6⟩ := hrm
  have hown : s.vm.findClass RL = some m.cls := hown
  have hl : lv_has ls 4 [(0, .ref (a 1 0)), (1, .int (zi z1)), (2, .ref o)] := hl
  refine lv_aload_n hx hb dL_setPass_0 rfl (lv_at hl 2 rfl) ?_
  refine z_iconst hx hb dL_setPass_1 ?_
  refine lv_aload_n hx hb dL_setPass_2 rfl (lv_at hl 0 rfl) ?_
  refine lv_iload_n hx hb dL_setPass_3 rfl (lv_at hl 1 rfl) ?_
  refine dw_V (rest := [.int (zi 0), .ref o]) (As := [.int (zi z1)]) ⟨hx, hb, hml, hown, hts⟩ (hM _) (cwV 1 hts gL_setPass_X3_setPass rfl r1 r2 (by decide +kernel) ⟨by show rm.frames + 1 ≤ 8; omega, by show 8 + (3 + 11) + rm.locals ≤ 180; omega⟩) (z_recv hK hI.ob rfl) hI hK rfl hl.1 rfl (Nat.le_of_ble_eq_true rfl) dL_setPass_4 ⟨by show 0 + mc ≤ 4; omega, by show 0 + ms ≤ 32; omega⟩ (va_S.rf (A := lhA σ a s.heap.size o)) (fun q h => Or.inl h) (fun a' H1 locs1 hI1 hE hz hk hS => ?_)
  have hat1 : va_at g.1 vwCl (outL cL o f) H1 := hat.kept (hk o hat.lt (fun h => h.elim ho (fun h => absurd hat.lt (by show ¬ o < s.heap.size; omega))))
  have hne : ∀ q, Ow σ' a' q → q ≠ o := fun q hq e => by rcases hE.2 q hq with h | h; exact ho (by rw [← e]; exact h); have h9 := hat.lt; have h9 : o < s.heap.size := h9; omega
  refine lv_i2l hx hb dL_setPass_7 rfl ?_
  refine z_last hx hb hL hat1 hS (Or.inr rfl) dL_setPass_8 (fun H2 locs2 hat2 hoq hz2 hS2 => ?_)
  refine lv_goto (tgt := 15) hx hb dL_setPass_9 (by decide) ?_
  refine z_iconst hx hb dL_setPass_15 ?_
  refine W.widen (k := 4) (n := 32) (by omega) (by omega) ?_
  exact z_lhret a' _ hx hb hr hlk dL_setPass_16 rfl (hI1.far (fun q hq => hoq q (hne q hq))) hE hat2 (fun _ => rfl) hS2
set_option maxHeartbeats 4000000 in
set_option maxRecDepth 100000 in
theorem H_setPass_x1 (l : Launch) (g : gG) (cL cD : ClassId) (z1 : Int) (o sz : Nat) (σ : SG) (a : AD) (v : Int) (rm : Room) (hrm : rm.cells = 1 ∧ rm.slots = 6 ∧ 1 ≤ 4 ∧ 6 ≤ 32 ∧ rm.frames ≤ 7 ∧ rm.locals ≤ 143) (hM : XT l yX3_setPass wsX3_setPass rm g (.ref (a 1 0) :: [.int (zi z1)]) (DI g σ a) eA) : LH l yL_setPass wsL_setPass g cL cD [.int (zi z1)] o sz σ a σ 1 v := by
  refine ZH.ofW (cc := cL_setPass) (maxL := 4) (ret := (some .int)) (hh := [(0, 9, 12, 13)]) (by decide) rfl (Nat.le_of_ble_eq_true rfl) ?_
  intro p e s m below meth c ls hx hb hr hml hown hts hlk htb hB hl
  obtain ⟨⟨rfl, hI, ⟨f, hat⟩, ho⟩, hK, hT, hN, hL⟩ := hB
  obtain ⟨r1, r2, r3, r4, r5, r6⟩ := hrm
  have hown : s.vm.findClass RL = some m.cls := hown
  have hl : lv_has ls 4 [(0, .ref (a 1 0)), (1, .int (zi z1)), (2, .ref o)] := hl
  refine lv_aload_n hx hb dL_setPass_0 rfl (lv_at hl 2 rfl) ?_
  refine z_iconst hx hb dL_setPass_1 ?_
  refine lv_aload_n hx hb dL_setPass_2 rfl (lv_at hl 0 rfl) ?_
  refine lv_iload_n hx hb dL_setPass_3 rfl (lv_at hl 1 rfl) ?_
  refine xt_V (A0 := lhA σ a s.heap.size o) (rest := [.int (zi 0), .ref o]) (As := [.int (zi z1)]) ⟨hx, hb, hml, hown, hts⟩ hM (cwV 1 hts gL_setPass_X3_setPass rfl r1 r2 (by decide +kernel) ⟨by show rm.frames + 1 ≤ 8; omega, by show 8 + (3 + 11) + rm.locals ≤ 180; omega⟩) (z_recv hK hI.ob rfl) hI hK hT rfl hl.1 rfl (Nat.le_of_ble_eq_true rfl) dL_setPass_4 ⟨Nat.le_of_ble_eq_true rfl, Nat.le_of_ble_eq_true rfl⟩ (fun H1 q9 ce hz hk hS hce hcv hcl => ?_)
  refine vx_catch (own := RL) (name := eA) (E := eA) hown [] ⟨0, 9, 12, 13⟩ [] htb (fun z hz => by cases hz) (by decide) (by decide) (hts (.classLink RL 13 eA) (by decide +kernel)) (va_tabs (TWb.tab (.castable eA eA) (by decide)) rfl (hT.2.2.2 (.castable eA eA) (by decide))) hce hcv hcl ?_
  refine lv_astore_n (lv' := [(3, .ref q9), (0, .ref (a 1 0)), (1, .int (zi z1)), (2, .ref o)]) hx hb dL_setPass_12 rfl hl (by decide) rfl (fun ls hl => ?_)
  refine z_iconst hx hb dL_setPass_13 ?_
  refine W.widen (k := 4) (n := 32) (by omega) (by omega) ?_
  exact z_lhret a f hx hb hr hlk dL_setPass_14 rfl (hI.far (fun q hq => hk q (hI.Ow_lt hq))) (DE_same rfl rfl) (hat.kept (hk o hat.lt)) (fun h => absurd h (by decide)) hS
set_option maxHeartbeats 4000000 in
set_option maxRecDepth 100000 in
theorem H_faults_0 (l : Launch) (g : gG) (cL cD : ClassId) (z1 z2 z3 : Int) (o sz : Nat) (σ : SG) (a : AD) (σ' : SG) (v : Int) (rm : Room) (mc ms : Nat) (hrm : rm.cells = mc ∧ rm.slots = ms ∧ mc ≤ 4 ∧ ms ≤ 32 ∧ rm.frames ≤ 7 ∧ rm.locals ≤ 143) (hM : ∀ sz : Nat, DW l yX3_faults wsX3_faults rm g [.int (zi z1), .int (zi z2), .int (zi z3)] sz σ a σ' v mc ms) : LH l yL_faults wsL_faults g cL cD [.int (zi z1), .int (zi z2), .int (zi z3)] o sz σ a σ' 0 v := by
  refine ZH.ofW (cc := cL_faults) (maxL := 6) (ret := (some .int)) (hh := [(0, 12, 15, 20)]) (by decide) rfl (Nat.le_of_ble_eq_true rfl) ?_
  intro p e s m below meth c ls hx hb hr hml hown hts hlk htb hB hl
  obtain ⟨⟨rfl, hI, ⟨f, hat⟩, ho⟩, hK, hT, hN, hL⟩ := hB
  obtain ⟨r1, r2, r3, r4, r5, r6⟩ := hrm
  have hown : s.vm.findClass RL = some m.cls := hown
  have hl : lv_has ls 6 [(0, .ref (a 1 0)), (1, .int (zi z1)), (2, .int (zi z2)), (3, .int (zi z3)), (4, .ref o)] := hl
  refine lv_aload hx hb dL_faults_0 (lv_at hl 4 rfl) ?_
  refine z_iconst hx hb dL_faults_2 ?_
  refine lv_aload_n hx hb dL_faults_3 rfl (lv_at hl 0 rfl) ?_
  refine lv_iload_n hx hb dL_faults_4 rfl (lv_at hl 1 rfl) ?_
  refine lv_iload_n hx hb dL_faults_5 rfl (lv_at hl 2 rfl) ?_
  refine lv_iload_n hx hb dL_faults_6 rfl (lv_at hl 3 rfl) ?_
  refine dw_V (rest := [.int (zi 0), .ref o]) (As := [.int (zi z1), .int (zi z2), .int (zi z3)]) ⟨hx, hb, hml, hown, hts⟩ (hM _) (cwV 3 hts gL_faults_X3_faults rfl r1 r2 (by decide +kernel) ⟨by show rm.frames + 1 ≤ 8; omega, by show 8 + (5 + 11) + rm.locals ≤ 180; omega⟩) (z_recv hK hI.ob rfl) hI hK rfl hl.1 rfl (Nat.le_of_ble_eq_true rfl) dL_faults_7 ⟨by show 0 + mc ≤ 4; omega, by show 0 + ms ≤ 32; omega⟩ (va_S.rf (A := lhA σ a s.heap.size o)) (fun q h => Or.inl h) (fun a' H1 locs1 hI1 hE hz hk hS => ?_)
  have hat1 : va_at g.1 vwCl (outL cL o f) H1 := hat.kept (hk o hat.lt (fun h => h.elim ho (fun h => absurd hat.lt (by show ¬ o < s.heap.size; omega))))
  have hne : ∀ q, Ow σ' a' q → q ≠ o := fun q hq e => by rcases hE.2 q hq with h | h; exact ho (by rw [← e]; exact h); have h9 := hat.lt; have h9 : o < s.heap.size := h9; omega
  refine lv_i2l hx hb dL_faults_10 rfl ?_
  refine z_last hx hb hL hat1 hS (Or.inr rfl) dL_faults_11 (fun H2 locs2 hat2 hoq hz2 hS2 => ?_)
  refine lv_goto (tgt := 19) hx hb dL_faults_12 (by decide) ?_
  refine z_iconst hx hb dL_faults_19 ?_
  refine W.widen (k := 4) (n := 32) (by omega) (by omega) ?_
  exact z_lhret a' _ hx hb hr hlk dL_faults_20 rfl (hI1.far (fun q hq => hoq q (hne q hq))) hE hat2 (fun _ => rfl) hS2
set_option maxHeartbeats 4000000 in
set_option maxRecDepth 100000 in
theorem H_faults_x1 (l : Launch) (g : gG) (cL cD : ClassId) (z1 z2 z3 : Int) (o sz : Nat) (σ : SG) (a : AD) (v : Int) (rm : Room) (hrm : rm.cells = 1 ∧ rm.slots = 6 ∧ 1 ≤ 4 ∧ 6 ≤ 32 ∧ rm.frames ≤ 7 ∧ rm.locals ≤ 143) (hM : XT l yX3_faults wsX3_faults rm g (.ref (a 1 0) :: [.int (zi z1), .int (zi z2), .int (zi z3)]) (DI g σ a) eI) : LH l yL_faults wsL_faults g cL cD [.int (zi z1), .int (zi z2), .int (zi z3)] o sz σ a σ 1 v := by
  refine ZH.ofW (cc := cL_faults) (maxL := 6) (ret := (some .int)) (hh := [(0, 12, 15, 20)]) (by decide) rfl (Nat.le_of_ble_eq_true rfl) ?_
  intro p e s m below meth c ls hx hb hr hml hown hts hlk htb hB hl
  obtain ⟨⟨rfl, hI, ⟨f, hat⟩, ho⟩, hK, hT, hN, hL⟩ := hB
  obtain ⟨r1, r2, r3, r4, r5, r6⟩ := hrm
  have hown : s.vm.findClass RL = some m.cls := hown
  have hl : lv_has ls 6 [(0, .ref (a 1 0)), (1, .int (zi z1)), (2, .int (zi z2)), (3, .int (zi z3)), (4, .ref o)] := hl
  refine lv_aload hx hb dL_faults_0 (lv_at hl 4 rfl) ?_
  refine z_iconst hx hb dL_faults_2 ?_
  refine lv_aload_n hx hb dL_faults_3 rfl (lv_at hl 0 rfl) ?_
  refine lv_iload_n hx hb dL_faults_4 rfl (lv_at hl 1 rfl) ?_
  refine lv_iload_n hx hb dL_faults_5 rfl (lv_at hl 2 rfl) ?_
  refine lv_iload_n hx hb dL_faults_6 rfl (lv_at hl 3 rfl) ?_
  refine xt_V (A0 := lhA σ a s.heap.size o) (rest := [.int (zi 0), .ref o]) (As := [.int (zi z1), .int (zi z2), .int (zi z3)]) ⟨hx, hb, hml, hown, hts⟩ hM (cwV 3 hts gL_faults_X3_faults rfl r1 r2 (by decide +kernel) ⟨by show rm.frames + 1 ≤ 8; omega, by show 8 + (5 + 11) + rm.locals ≤ 180; omega⟩) (z_recv hK hI.ob rfl) hI hK hT rfl hl.1 rfl (Nat.le_of_ble_eq_true rfl) dL_faults_7 ⟨Nat.le_of_ble_eq_true rfl, Nat.le_of_ble_eq_true rfl⟩ (fun H1 q9 ce hz hk hS hce hcv hcl => ?_)
  refine vx_catch (own := RL) (name := eI) (E := eI) hown [] ⟨0, 12, 15, 20⟩ [] htb (fun z hz => by cases hz) (by decide) (by decide) (hts (.classLink RL 20 eI) (by decide +kernel)) (va_tabs (TWb.tab (.castable eI eI) (by decide)) rfl (hT.2.2.2 (.castable eI eI) (by decide))) hce hcv hcl ?_
  refine lv_astore (lv' := [(5, .ref q9), (0, .ref (a 1 0)), (1, .int (zi z1)), (2, .int (zi z2)), (3, .int (zi z3)), (4, .ref o)]) hx hb dL_faults_15 hl (by decide) rfl (fun ls hl => ?_)
  refine z_iconst hx hb dL_faults_17 ?_
  refine W.widen (k := 4) (n := 32) (by omega) (by omega) ?_
  exact z_lhret a f hx hb hr hlk dL_faults_18 rfl (hI.far (fun q hq => hk q (hI.Ow_lt hq))) (DE_same rfl rfl) (hat.kept (hk o hat.lt)) (fun h => absurd h (by decide)) hS
set_option maxHeartbeats 4000000 in
set_option maxRecDepth 100000 in
theorem H_mark_0 (l : Launch) (g : gG) (cL cD : ClassId) (z1 : Int) (o sz : Nat) (σ : SG) (a : AD) (σ' : SG) (v : Int) (rm : Room) (mc ms : Nat) (hrm : rm.cells = mc ∧ rm.slots = ms ∧ mc ≤ 4 ∧ ms ≤ 32 ∧ rm.frames ≤ 7 ∧ rm.locals ≤ 143) (hM : ∀ sz : Nat, DW l yX3_mark wsX3_mark rm g [.int (zi z1)] sz σ a σ' v mc ms) : LH l yL_mark wsL_mark g cL cD [.int (zi z1)] o sz σ a σ' 0 v := by
  refine ZH.ofW (cc := cL_mark) (maxL := 4) (ret := (some .int)) (hh := [(0, 9, 12, 20)]) (by decide) rfl (Nat.le_of_ble_eq_true rfl) ?_
  intro p e s m below meth c ls hx hb hr hml hown hts hlk htb hB hl
  obtain ⟨⟨rfl, hI, ⟨f, hat⟩, ho⟩, hK, hT, hN, hL⟩ := hB
  obtain ⟨r1, r2, r3, r4, r5, r6⟩ := hrm
  have hown : s.vm.findClass RL = some m.cls := hown
  have hl : lv_has ls 4 [(0, .ref (a 1 0)), (1, .int (zi z1)), (2, .ref o)] := hl
  refine lv_aload_n hx hb dL_mark_0 rfl (lv_at hl 2 rfl) ?_
  refine z_iconst hx hb dL_mark_1 ?_
  refine lv_aload_n hx hb dL_mark_2 rfl (lv_at hl 0 rfl) ?_
  refine lv_iload_n hx hb dL_mark_3 rfl (lv_at hl 1 rfl) ?_
  refine dw_V (rest := [.int (zi 0), .ref o]) (As := [.int (zi z1)]) ⟨hx, hb, hml, hown, hts⟩ (hM _) (cwV 1 hts gL_mark_X3_mark rfl r1 r2 (by decide +kernel) ⟨by show rm.frames + 1 ≤ 8; omega, by show 8 + (2 + 11) + rm.locals ≤ 180; omega⟩) (z_recv hK hI.ob rfl) hI hK rfl hl.1 rfl (Nat.le_of_ble_eq_true rfl) dL_mark_4 ⟨by show 0 + mc ≤ 4; omega, by show 0 + ms ≤ 32; omega⟩ (va_S.rf (A := lhA σ a s.heap.size o)) (fun q h => Or.inl h) (fun a' H1 locs1 hI1 hE hz hk hS => ?_)
  have hat1 : va_at g.1 vwCl (outL cL o f) H1 := hat.kept (hk o hat.lt (fun h => h.elim ho (fun h => absurd hat.lt (by show ¬ o < s.heap.size; omega))))
  have hne : ∀ q, Ow σ' a' q → q ≠ o := fun q hq e => by rcases hE.2 q hq with h | h; exact ho (by rw [← e]; exact h); have h9 := hat.lt; have h9 : o < s.heap.size := h9; omega
  refine lv_i2l hx hb dL_mark_7 rfl ?_
  refine z_last hx hb hL hat1 hS (Or.inr rfl) dL_mark_8 (fun H2 locs2 hat2 hoq hz2 hS2 => ?_)
  refine lv_goto (tgt := 15) hx hb dL_mark_9 (by decide) ?_
  refine z_iconst hx hb dL_mark_15 ?_
  refine W.widen (k := 4) (n := 32) (by omega) (by omega) ?_
  exact z_lhret a' _ hx hb hr hlk dL_mark_16 rfl (hI1.far (fun q hq => hoq q (hne q hq))) hE hat2 (fun _ => rfl) hS2
set_option maxHeartbeats 4000000 in
set_option maxRecDepth 100000 in
theorem H_mark_x1 (l : Launch) (g : gG) (cL cD : ClassId) (z1 : Int) (o sz : Nat) (σ : SG) (a : AD) (v : Int) (rm : Room) (hrm : rm.cells = 1 ∧ rm.slots = 6 ∧ 1 ≤ 4 ∧ 6 ≤ 32 ∧ rm.frames ≤ 7 ∧ rm.locals ≤ 143) (hM : XT l yX3_mark wsX3_mark rm g (.ref (a 1 0) :: [.int (zi z1)]) (DI g σ a) eI) : LH l yL_mark wsL_mark g cL cD [.int (zi z1)] o sz σ a σ 1 v := by
  refine ZH.ofW (cc := cL_mark) (maxL := 4) (ret := (some .int)) (hh := [(0, 9, 12, 20)]) (by decide) rfl (Nat.le_of_ble_eq_true rfl) ?_
  intro p e s m below meth c ls hx hb hr hml hown hts hlk htb hB hl
  obtain ⟨⟨rfl, hI, ⟨f, hat⟩, ho⟩, hK, hT, hN, hL⟩ := hB
  obtain ⟨r1, r2, r3, r4, r5, r6⟩ := hrm
  have hown : s.vm.findClass RL = some m.cls := hown
  have hl : lv_has ls 4 [(0, .ref (a 1 0)), (1, .int (zi z1)), (2, .ref o)] := hl
  refine lv_aload_n hx hb dL_mark_0 rfl (lv_at hl 2 rfl) ?_
  refine z_iconst hx hb dL_mark_1 ?_
  refine lv_aload_n hx hb dL_mark_2 rfl (lv_at hl 0 rfl) ?_
  refine lv_iload_n hx hb dL_mark_3 rfl (lv_at hl 1 rfl) ?_
  refine xt_V (A0 := lhA σ a s.heap.size o) (rest := [.int (zi 0), .ref o]) (As := [.int (zi z1)]) ⟨hx, hb, hml, hown, hts⟩ hM (cwV 1 hts gL_mark_X3_mark rfl r1 r2 (by decide +kernel) ⟨by show rm.frames + 1 ≤ 8; omega, by show 8 + (2 + 11) + rm.locals ≤ 180; omega⟩) (z_recv hK hI.ob rfl) hI hK hT rfl hl.1 rfl (Nat.le_of_ble_eq_true rfl) dL_mark_4 ⟨Nat.le_of_ble_eq_true rfl, Nat.le_of_ble_eq_true rfl⟩ (fun H1 q9 ce hz hk hS hce hcv hcl => ?_)
  refine vx_catch (own := RL) (name := eI) (E := eI) hown [] ⟨0, 9, 12, 20⟩ [] htb (fun z hz => by cases hz) (by decide) (by decide) (hts (.classLink RL 20 eI) (by decide +kernel)) (va_tabs (TWb.tab (.castable eI eI) (by decide)) rfl (hT.2.2.2 (.castable eI eI) (by decide))) hce hcv hcl ?_
  refine lv_astore_n (lv' := [(3, .ref q9), (0, .ref (a 1 0)), (1, .int (zi z1)), (2, .ref o)]) hx hb dL_mark_12 rfl hl (by decide) rfl (fun ls hl => ?_)
  refine z_iconst hx hb dL_mark_13 ?_
  refine W.widen (k := 4) (n := 32) (by omega) (by omega) ?_
  exact z_lhret a f hx hb hr hlk dL_mark_14 rfl (hI.far (fun q hq => hk q (hI.Ow_lt hq))) (DE_same rfl rfl) (hat.kept (hk o hat.lt)) (fun h => absurd h (by decide)) hS
set_option maxHeartbeats 4000000 in
set_option maxRecDepth 100000 in
theorem H_handIn_0 (l : Launch) (g : gG) (cL cD : ClassId) (z1 : Int) (o sz : Nat) (σ : SG) (a : AD) (σ' : SG) (v : Int) (h01 : v = 0 ∨ v = 1) (rm : Room) (mc ms : Nat) (hrm : rm.cells = mc ∧ rm.slots = ms ∧ mc ≤ 4 ∧ ms ≤ 32 ∧ rm.frames ≤ 7 ∧ rm.locals ≤ 143) (hM : ∀ sz : Nat, DW l yX3_handIn wsX3_handIn rm g [.int (zi z1)] sz σ a σ' v mc ms) : LH l yL_handIn wsL_handIn g cL cD [.int (zi z1)] o sz σ a σ' 0 v := by
  refine ZH.ofW (cc := cL_handIn) (maxL := 4) (ret := (some .int)) (hh := [(0, 16, 19, 20)]) (by decide) rfl (Nat.le_of_ble_eq_true rfl) ?_
  intro p e s m below meth c ls hx hb hr hml hown hts hlk htb hB hl
  obtain ⟨⟨rfl, hI, ⟨f, hat⟩, ho⟩, hK, hT, hN, hL⟩ := hB
  obtain ⟨r1, r2, r3, r4, r5, r6⟩ := hrm
  have hown : s.vm.findClass RL = some m.cls := hown
  have hl : lv_has ls 4 [(0, .ref (a 1 0)), (1, .int (zi z1)), (2, .ref o)] := hl
  refine lv_aload_n hx hb dL_handIn_0 rfl (lv_at hl 2 rfl) ?_
  refine z_iconst hx hb dL_handIn_1 ?_
  refine lv_aload_n hx hb dL_handIn_2 rfl (lv_at hl 0 rfl) ?_
  refine lv_iload_n hx hb dL_handIn_3 rfl (lv_at hl 1 rfl) ?_
  refine dw_V (rest := [.int (zi 0), .ref o]) (As := [.int (zi z1)]) ⟨hx, hb, hml, hown, hts⟩ (hM _) (cwV 1 hts gL_handIn_X3_handIn rfl r1 r2 (by decide +kernel) ⟨by show rm.frames + 1 ≤ 8; omega, by show 8 + (3 + 11) + rm.locals ≤ 180; omega⟩) (z_recv hK hI.ob rfl) hI hK rfl hl.1 rfl (Nat.le_of_ble_eq_true rfl) dL_handIn_4 ⟨by show 0 + mc ≤ 4; omega, by show 0 + ms ≤ 32; omega⟩ (va_S.rf (A := lhA σ a s.heap.size o)) (fun q h => Or.inl h) (fun a' H1 locs1 hI1 hE hz hk hS => ?_)
  have hat1 : va_at g.1 vwCl (outL cL o f) H1 := hat.kept (hk o hat.lt (fun h => h.elim ho (fun h => absurd hat.lt (by show ¬ o < s.heap.size; omega))))
  have hne : ∀ q, Ow σ' a' q → q ≠ o := fun q hq e => by rcases hE.2 q hq with h | h; exact ho (by rw [← e]; exact h); have h9 := hat.lt; have h9 : o < s.heap.size := h9; omega
  refine z_if_eq (tgt := 14) hx hb dL_handIn_7 (by decide) (by omega) (fun h7 => ?_) (fun h7 => ?_)
  · refine lv_lconst (v := 0) hx hb dL_handIn_14 rfl ?_
    refine z_last hx hb hL hat1 hS (Or.inr rfl) dL_handIn_15 (fun H2 locs2 hat2 hoq hz2 hS2 => ?_)
    refine lv_goto (tgt := 22) hx hb dL_handIn_16 (by decide) ?_
    refine z_iconst hx hb dL_handIn_22 ?_
    refine W.widen (k := 4) (n := 32) (by omega) (by omega) ?_
    exact z_lhret a' _ hx hb hr hlk dL_handIn_23 rfl (hI1.far (fun q hq => hoq q (hne q hq))) hE hat2 (fun _ => by rw [h7]; rfl) hS2
  · refine lv_lconst (v := 1) hx hb dL_handIn_10 rfl ?_
    refine lv_goto (tgt := 15) hx hb dL_handIn_11 (by decide) ?_
    refine z_last hx hb hL hat1 hS (Or.inr rfl) dL_handIn_15 (fun H2 locs2 hat2 hoq hz2 hS2 => ?_)
    refine lv_goto (tgt := 22) hx hb dL_handIn_16 (by decide) ?_
    refine z_iconst hx hb dL_handIn_22 ?_
    refine W.widen (k := 4) (n := 32) (by omega) (by omega) ?_
    exact z_lhret a' _ hx hb hr hlk dL_handIn_23 rfl (hI1.far (fun q hq => hoq q (hne q hq))) hE hat2 (fun _ => by rw [show v = 1 by omega]; rfl) hS2
set_option maxHeartbeats 4000000 in
set_option maxRecDepth 100000 in
theorem H_handIn_x1 (l : Launch) (g : gG) (cL cD : ClassId) (z1 : Int) (o sz : Nat) (σ : SG) (a : AD) (v : Int) (rm : Room) (hrm : rm.cells = 1 ∧ rm.slots = 6 ∧ 1 ≤ 4 ∧ 6 ≤ 32 ∧ rm.frames ≤ 7 ∧ rm.locals ≤ 143) (hM : XT l yX3_handIn wsX3_handIn rm g (.ref (a 1 0) :: [.int (zi z1)]) (DI g σ a) eI) : LH l yL_handIn wsL_handIn g cL cD [.int (zi z1)] o sz σ a σ 1 v := by
  refine ZH.ofW (cc := cL_handIn) (maxL := 4) (ret := (some .int)) (hh := [(0, 16, 19, 20)]) (by decide) rfl (Nat.le_of_ble_eq_true rfl) ?_
  intro p e s m below meth c ls hx hb hr hml hown hts hlk htb hB hl
  obtain ⟨⟨rfl, hI, ⟨f, hat⟩, ho⟩, hK, hT, hN, hL⟩ := hB
  obtain ⟨r1, r2, r3, r4, r5, r6⟩ := hrm
  have hown : s.vm.findClass RL = some m.cls := hown
  have hl : lv_has ls 4 [(0, .ref (a 1 0)), (1, .int (zi z1)), (2, .ref o)] := hl
  refine lv_aload_n hx hb dL_handIn_0 rfl (lv_at hl 2 rfl) ?_
  refine z_iconst hx hb dL_handIn_1 ?_
  refine lv_aload_n hx hb dL_handIn_2 rfl (lv_at hl 0 rfl) ?_
  refine lv_iload_n hx hb dL_handIn_3 rfl (lv_at hl 1 rfl) ?_
  refine xt_V (A0 := lhA σ a s.heap.size o) (rest := [.int (zi 0), .ref o]) (As := [.int (zi z1)]) ⟨hx, hb, hml, hown, hts⟩ hM (cwV 1 hts gL_handIn_X3_handIn rfl r1 r2 (by decide +kernel) ⟨by show rm.frames + 1 ≤ 8; omega, by show 8 + (3 + 11) + rm.locals ≤ 180; omega⟩) (z_recv hK hI.ob rfl) hI hK hT rfl hl.1 rfl (Nat.le_of_ble_eq_true rfl) dL_handIn_4 ⟨Nat.le_of_ble_eq_true rfl, Nat.le_of_ble_eq_true rfl⟩ (fun H1 q9 ce hz hk hS hce hcv hcl => ?_)
  refine vx_catch (own := RL) (name := eI) (E := eI) hown [] ⟨0, 16, 19, 20⟩ [] htb (fun z hz => by cases hz) (by decide) (by decide) (hts (.classLink RL 20 eI) (by decide +kernel)) (va_tabs (TWb.tab (.castable eI eI) (by decide)) rfl (hT.2.2.2 (.castable eI eI) (by decide))) hce hcv hcl ?_
  refine lv_astore_n (lv' := [(3, .ref q9), (0, .ref (a 1 0)), (1, .int (zi z1)), (2, .ref o)]) hx hb dL_handIn_19 rfl hl (by decide) rfl (fun ls hl => ?_)
  refine z_iconst hx hb dL_handIn_20 ?_
  refine W.widen (k := 4) (n := 32) (by omega) (by omega) ?_
  exact z_lhret a f hx hb hr hlk dL_handIn_21 rfl (hI.far (fun q hq => hk q (hI.Ow_lt hq))) (DE_same rfl rfl) (hat.kept (hk o hat.lt)) (fun h => absurd h (by decide)) hS
set_option maxHeartbeats 4000000 in
set_option maxRecDepth 100000 in
theorem H_best_0 (l : Launch) (g : gG) (cL cD : ClassId) (z1 z2 z3 : Int) (o sz : Nat) (σ : SG) (a : AD) (σ' : SG) (v : Int) (rm : Room) (mc ms : Nat) (hrm : rm.cells = mc ∧ rm.slots = ms ∧ mc ≤ 4 ∧ ms ≤ 32 ∧ rm.frames ≤ 7 ∧ rm.locals ≤ 143) (hM : ∀ sz : Nat, DW l yX3_best wsX3_best rm g [.int (zi z1), .int (zi z2), .int (zi z3)] sz σ a σ' v mc ms) : LH l yL_best wsL_best g cL cD [.int (zi z1), .int (zi z2), .int (zi z3)] o sz σ a σ' 0 v := by
  refine ZH.ofW (cc := cL_best) (maxL := 6) (ret := (some .int)) (hh := [(0, 12, 15, 20)]) (by decide) rfl (Nat.le_of_ble_eq_true rfl) ?_
  intro p e s m below meth c ls hx hb hr hml hown hts hlk htb hB hl
  obtain ⟨⟨rfl, hI, ⟨f, hat⟩, ho⟩, hK, hT, hN, hL⟩ := hB
  obtain ⟨r1, r2, r3, r4, r5, r6⟩ := hrm
  have hown : s.vm.findClass RL = some m.cls := hown
  have hl : lv_has ls 6 [(0, .ref (a 1 0)), (1, .int (zi z1)), (2, .int (zi z2)), (3, .int (zi z3)), (4, .ref o)] := hl
  refine lv_aload hx hb dL_best_0 (lv_at hl 4 rfl) ?_
  refine z_iconst hx hb dL_best_2 ?_
  refine lv_aload_n hx hb dL_best_3 rfl (lv_at hl 0 rfl) ?_
  refine lv_iload_n hx hb dL_best_4 rfl (lv_at hl 1 rfl) ?_
  refine lv_iload_n hx hb dL_best_5 rfl (lv_at hl 2 rfl) ?_
  refine lv_iload_n hx hb dL_best_6 rfl (lv_at hl 3 rfl) ?_
  refine dw_V (rest := [.int (zi 0), .ref o]) (As := [.int (zi z1), .int (zi z2), .int (zi z3)]) ⟨hx, hb, hml, hown, hts⟩ (hM _) (cwV 3 hts gL_best_X3_best rfl r1 r2 (by decide +kernel) ⟨by show rm.frames + 1 ≤ 8; omega, by show 8 + (5 + 11) + rm.locals ≤ 180; omega⟩) (z_recv hK hI.ob rfl) hI hK rfl hl.1 rfl (Nat.le_of_ble_eq_true rfl) dL_best_7 ⟨by show 0 + mc ≤ 4; omega, by show 0 + ms ≤ 32; omega⟩ (va_S.rf (A := lhA σ a s.heap.size o)) (fun q h => Or.inl h) (fun a' H1 locs1 hI1 hE hz hk hS => ?_)
  have hat1 : va_at g.1 vwCl (outL cL o f) H1 := hat.kept (hk o hat.lt (fun h => h.elim ho (fun h => absurd hat.lt (by show ¬ o < s.heap.size; omega))))
  have hne : ∀ q, Ow σ' a' q → q ≠ o := fun q hq e => by rcases hE.2 q hq with h | h; exact ho (by rw [← e]; exact h); have h9 := hat.lt; have h9 : o < s.heap.size := h9; omega
  refine lv_i2l hx hb dL_best_10 rfl ?_
  refine z_last hx hb hL hat1 hS (Or.inr rfl) dL_best_11 (fun H2 locs2 hat2 hoq hz2 hS2 => ?_)
  refine lv_goto (tgt := 19) hx hb dL_best_12 (by decide) ?_
  refine z_iconst hx hb dL_best_19 ?_
  refine W.widen (k := 4) (n := 32) (by omega) (by omega) ?_
  exact z_lhret a' _ hx hb hr hlk dL_best_20 rfl (hI1.far (fun q hq => hoq q (hne q hq))) hE hat2 (fun _ => rfl) hS2
set_option maxHeartbeats 4000000 in
set_option maxRecDepth 100000 in
theorem H_best_x1 (l : Launch) (g : gG) (cL cD : ClassId) (z1 z2 z3 : Int) (o sz : Nat) (σ : SG) (a : AD) (v : Int) (rm : Room) (hrm : rm.cells = 1 ∧ rm.slots = 6 ∧ 1 ≤ 4 ∧ 6 ≤ 32 ∧ rm.frames ≤ 7 ∧ rm.locals ≤ 143) (hM : XT l yX3_best wsX3_best rm g (.ref (a 1 0) :: [.int (zi z1), .int (zi z2), .int (zi z3)]) (DI g σ a) eI) : LH l yL_best wsL_best g cL cD [.int (zi z1), .int (zi z2), .int (zi z3)] o sz σ a σ 1 v := by
  refine ZH.ofW (cc := cL_best) (maxL := 6) (ret := (some .int)) (hh := [(0, 12, 15, 20)]) (by decide) rfl (Nat.le_of_ble_eq_true rfl) ?_
  intro p e s m below meth c ls hx hb hr hml hown hts hlk htb hB hl
  obtain ⟨⟨rfl, hI, ⟨f, hat⟩, ho⟩, hK, hT, hN, hL⟩ := hB
  obtain ⟨r1, r2, r3, r4, r5, r6⟩ := hrm
  have hown : s.vm.findClass RL = some m.cls := hown
  have hl : lv_has ls 6 [(0, .ref (a 1 0)), (1, .int (zi z1)), (2, .int (zi z2)), (3, .int (zi z3)), (4, .ref o)] := hl
  refine lv_aload hx hb dL_best_0 (lv_at hl 4 rfl) ?_
  refine z_iconst hx hb dL_best_2 ?_
  refine lv_aload_n hx hb dL_best_3 rfl (lv_at hl 0 rfl) ?_
  refine lv_iload_n hx hb dL_best_4 rfl (lv_at hl 1 rfl) ?_
  refine lv_iload_n hx hb dL_best_5 rfl (lv_at hl 2 rfl) ?_
  refine lv_iload_n hx hb dL_best_6 rfl (lv_at hl 3 rfl) ?_
  refine xt_V (A0 := lhA σ a s.heap.size o) (rest := [.int (zi 0), .ref o]) (As := [.int (zi z1), .int (zi z2), .int (zi z3)]) ⟨hx, hb, hml, hown, hts⟩ hM (cwV 3 hts gL_best_X3_best rfl r1 r2 (by decide +kernel) ⟨by show rm.frames + 1 ≤ 8; omega, by show 8 + (5 + 11) + rm.locals ≤ 180; omega⟩) (z_recv hK hI.ob rfl) hI hK hT rfl hl.1 rfl (Nat.le_of_ble_eq_true rfl) dL_best_7 ⟨Nat.le_of_ble_eq_true rfl, Nat.le_of_ble_eq_true rfl⟩ (fun H1 q9 ce hz hk hS hce hcv hcl => ?_)
  refine vx_catch (own := RL) (name := eI) (E := eI) hown [] ⟨0, 12, 15, 20⟩ [] htb (fun z hz => by cases hz) (by decide) (by decide) (hts (.classLink RL 20 eI) (by decide +kernel)) (va_tabs (TWb.tab (.castable eI eI) (by decide)) rfl (hT.2.2.2 (.castable eI eI) (by decide))) hce hcv hcl ?_
  refine lv_astore (lv' := [(5, .ref q9), (0, .ref (a 1 0)), (1, .int (zi z1)), (2, .int (zi z2)), (3, .int (zi z3)), (4, .ref o)]) hx hb dL_best_15 hl (by decide) rfl (fun ls hl => ?_)
  refine z_iconst hx hb dL_best_17 ?_
  refine W.widen (k := 4) (n := 32) (by omega) (by omega) ?_
  exact z_lhret a f hx hb hr hlk dL_best_18 rfl (hI.far (fun q hq => hk q (hI.Ow_lt hq))) (DE_same rfl rfl) (hat.kept (hk o hat.lt)) (fun h => absurd h (by decide)) hS
set_option maxHeartbeats 4000000 in
set_option maxRecDepth 100000 in
theorem H_movement_0 (l : Launch) (g : gG) (cL cD : ClassId) (z1 z2 : Int) (o sz : Nat) (σ : SG) (a : AD) (v : UInt32) (hok : flok v = true) (rm : Room) (hrm : rm.cells = 0 ∧ rm.slots = 0 ∧ 0 ≤ 4 ∧ 0 ≤ 32 ∧ rm.frames ≤ 7 ∧ rm.locals ≤ 143) (hM : RF l yX3_movement wsX3_movement rm g (.ref (a 1 0) :: [.int (zi z1), .int (zi z2)]) (DI g σ a) v) : LHd l yL_movement wsL_movement g cL cD [.int (zi z1), .int (zi z2)] o sz σ a σ 0 v := by
  refine ZH.ofW (cc := cL_movement) (maxL := 5) (ret := (some .int)) (hh := [(0, 10, 13, 20)]) (by decide) rfl (Nat.le_of_ble_eq_true rfl) ?_
  intro p e s m below meth c ls hx hb hr hml hown hts hlk htb hB hl
  obtain ⟨⟨rfl, hI, ⟨f, hat⟩, ho⟩, hK, hT, hN, hL⟩ := hB
  obtain ⟨r1, r2, r3, r4, r5, r6⟩ := hrm
  have hown : s.vm.findClass RL = some m.cls := hown
  have hl : lv_has ls 5 [(0, .ref (a 1 0)), (1, .int (zi z1)), (2, .int (zi z2)), (3, .ref o)] := hl
  refine lv_aload_n hx hb dL_movement_0 rfl (lv_at hl 3 rfl) ?_
  refine z_iconst hx hb dL_movement_1 ?_
  refine lv_aload_n hx hb dL_movement_2 rfl (lv_at hl 0 rfl) ?_
  refine lv_iload_n hx hb dL_movement_3 rfl (lv_at hl 1 rfl) ?_
  refine lv_iload_n hx hb dL_movement_4 rfl (lv_at hl 2 rfl) ?_
  refine rf_V (rest := [.int (zi 0), .ref o]) (As := [.int (zi z1), .int (zi z2)]) ⟨hx, hb, hml, hown, hts⟩ hM (cwV 2 hts gL_movement_X3_movement rfl r1 r2 (by decide +kernel) ⟨by show rm.frames + 1 ≤ 8; omega, by show 8 + (5 + 11) + rm.locals ≤ 180; omega⟩) (z_recv hK hI.ob rfl) hI hK rfl hl.1 rfl (Nat.le_of_ble_eq_true rfl) dL_movement_5 ⟨by show 0 + 0 ≤ 4; omega, by show 0 + 0 ≤ 32; omega⟩ ?_
  refine lv_f2d hx hb dL_movement_8 (flok_d hok) ?_
  refine z_dast hx hb hL hat (va_S.rf (A := lhA σ a s.heap.size o)) (Or.inr rfl) dL_movement_9 (fun H2 locs2 hat2 hoq hz2 hS2 => ?_)
  refine lv_goto (tgt := 17) hx hb dL_movement_10 (by decide) ?_
  refine z_iconst hx hb dL_movement_17 ?_
  refine W.widen (k := 4) (n := 32) (by omega) (by omega) ?_
  exact z_ldret a _ hx hb hr hlk dL_movement_18 rfl (hI.far (fun q hq => hoq q (fun e => ho (by rw [← e]; exact hq)))) (DE_same rfl rfl) hat2 (fun _ => rfl) hS2
set_option maxHeartbeats 4000000 in
set_option maxRecDepth 100000 in
theorem H_movement_x1 (l : Launch) (g : gG) (cL cD : ClassId) (z1 z2 : Int) (o sz : Nat) (σ : SG) (a : AD) (v : UInt32) (rm : Room) (hrm : rm.cells = 1 ∧ rm.slots = 6 ∧ 1 ≤ 4 ∧ 6 ≤ 32 ∧ rm.frames ≤ 7 ∧ rm.locals ≤ 143) (hM : XT l yX3_movement wsX3_movement rm g (.ref (a 1 0) :: [.int (zi z1), .int (zi z2)]) (DI g σ a) eI) : LHd l yL_movement wsL_movement g cL cD [.int (zi z1), .int (zi z2)] o sz σ a σ 1 v := by
  refine ZH.ofW (cc := cL_movement) (maxL := 5) (ret := (some .int)) (hh := [(0, 10, 13, 20)]) (by decide) rfl (Nat.le_of_ble_eq_true rfl) ?_
  intro p e s m below meth c ls hx hb hr hml hown hts hlk htb hB hl
  obtain ⟨⟨rfl, hI, ⟨f, hat⟩, ho⟩, hK, hT, hN, hL⟩ := hB
  obtain ⟨r1, r2, r3, r4, r5, r6⟩ := hrm
  have hown : s.vm.findClass RL = some m.cls := hown
  have hl : lv_has ls 5 [(0, .ref (a 1 0)), (1, .int (zi z1)), (2, .int (zi z2)), (3, .ref o)] := hl
  refine lv_aload_n hx hb dL_movement_0 rfl (lv_at hl 3 rfl) ?_
  refine z_iconst hx hb dL_movement_1 ?_
  refine lv_aload_n hx hb dL_movement_2 rfl (lv_at hl 0 rfl) ?_
  refine lv_iload_n hx hb dL_movement_3 rfl (lv_at hl 1 rfl) ?_
  refine lv_iload_n hx hb dL_movement_4 rfl (lv_at hl 2 rfl) ?_
  refine xt_V (A0 := lhA σ a s.heap.size o) (rest := [.int (zi 0), .ref o]) (As := [.int (zi z1), .int (zi z2)]) ⟨hx, hb, hml, hown, hts⟩ hM (cwV 2 hts gL_movement_X3_movement rfl r1 r2 (by decide +kernel) ⟨by show rm.frames + 1 ≤ 8; omega, by show 8 + (5 + 11) + rm.locals ≤ 180; omega⟩) (z_recv hK hI.ob rfl) hI hK hT rfl hl.1 rfl (Nat.le_of_ble_eq_true rfl) dL_movement_5 ⟨Nat.le_of_ble_eq_true rfl, Nat.le_of_ble_eq_true rfl⟩ (fun H1 q9 ce hz hk hS hce hcv hcl => ?_)
  refine vx_catch (own := RL) (name := eI) (E := eI) hown [] ⟨0, 10, 13, 20⟩ [] htb (fun z hz => by cases hz) (by decide) (by decide) (hts (.classLink RL 20 eI) (by decide +kernel)) (va_tabs (TWb.tab (.castable eI eI) (by decide)) rfl (hT.2.2.2 (.castable eI eI) (by decide))) hce hcv hcl ?_
  refine lv_astore (lv' := [(4, .ref q9), (0, .ref (a 1 0)), (1, .int (zi z1)), (2, .int (zi z2)), (3, .ref o)]) hx hb dL_movement_13 hl (by decide) rfl (fun ls hl => ?_)
  refine z_iconst hx hb dL_movement_15 ?_
  refine W.widen (k := 4) (n := 32) (by omega) (by omega) ?_
  exact z_ldret a f hx hb hr hlk dL_movement_16 rfl (hI.far (fun q hq => hk q (hI.Ow_lt hq))) (DE_same rfl rfl) (hat.kept (hk o hat.lt)) (fun h => absurd h (by decide)) hS
set_option maxHeartbeats 4000000 in
set_option maxRecDepth 100000 in
theorem H_print_0 (l : Launch) (g : gG) (cL cD : ClassId) (z1 z2 : Int) (o sz : Nat) (σ : SG) (a : AD) (σ' : SG) (v : Int) (rm : Room) (mc ms : Nat) (hrm : rm.cells = mc ∧ rm.slots = ms ∧ mc ≤ 4 ∧ ms ≤ 32 ∧ rm.frames ≤ 7 ∧ rm.locals ≤ 143) (hM : ∀ sz : Nat, DW l yX3_print wsX3_print rm g [.int (zi z1), .int (zi z2)] sz σ a σ' v mc ms) : LH l yL_print wsL_print g cL cD [.int (zi z1), .int (zi z2)] o sz σ a σ' 0 v := by
  refine ZH.ofW (cc := cL_print) (maxL := 5) (ret := (some .int)) (hh := [(0, 10, 13, 20), (0, 10, 17, 15)]) (by decide) rfl (Nat.le_of_ble_eq_true rfl) ?_
  intro p e s m below meth c ls hx hb hr hml hown hts hlk htb hB hl
  obtain ⟨⟨rfl, hI, ⟨f, hat⟩, ho⟩, hK, hT, hN, hL⟩ := hB
  obtain ⟨r1, r2, r3, r4, r5, r6⟩ := hrm
  have hown : s.vm.findClass RL = some m.cls := hown
  have hl : lv_has ls 5 [(0, .ref (a 1 0)), (1, .int (zi z1)), (2, .int (zi z2)), (3, .ref o)] := hl
  refine lv_aload_n hx hb dL_print_0 rfl (lv_at hl 3 rfl) ?_
  refine z_iconst hx hb dL_print_1 ?_
  refine lv_aload_n hx hb dL_print_2 rfl (lv_at hl 0 rfl) ?_
  refine lv_iload_n hx hb dL_print_3 rfl (lv_at hl 1 rfl) ?_
  refine lv_iload_n hx hb dL_print_4 rfl (lv_at hl 2 rfl) ?_
  refine dw_V (rest := [.int (zi 0), .ref o]) (As := [.int (zi z1), .int (zi z2)]) ⟨hx, hb, hml, hown, hts⟩ (hM _) (cwV 2 hts gL_print_X3_print rfl r1 r2 (by decide +kernel) ⟨by show rm.frames + 1 ≤ 8; omega, by show 8 + (5 + 11) + rm.locals ≤ 180; omega⟩) (z_recv hK hI.ob rfl) hI hK rfl hl.1 rfl (Nat.le_of_ble_eq_true rfl) dL_print_5 ⟨by show 0 + mc ≤ 4; omega, by show 0 + ms ≤ 32; omega⟩ (va_S.rf (A := lhA σ a s.heap.size o)) (fun q h => Or.inl h) (fun a' H1 locs1 hI1 hE hz hk hS => ?_)
  have hat1 : va_at g.1 vwCl (outL cL o f) H1 := hat.kept (hk o hat.lt (fun h => h.elim ho (fun h => absurd hat.lt (by show ¬ o < s.heap.size; omega))))
  have hne : ∀ q, Ow σ' a' q → q ≠ o := fun q hq e => by rcases hE.2 q hq with h | h; exact ho (by rw [← e]; exact h); have h9 := hat.lt; have h9 : o < s.heap.size := h9; omega
  refine lv_i2l hx hb dL_print_8 rfl ?_
  refine z_last hx hb hL hat1 hS (Or.inr rfl) dL_print_9 (fun H2 locs2 hat2 hoq hz2 hS2 => ?_)
  refine lv_goto (tgt := 21) hx hb dL_print_10 (by decide) ?_
  refine z_iconst hx hb dL_print_21 ?_
  refine W.widen (k := 4) (n := 32) (by omega) (by omega) ?_
  exact z_lhret a' _ hx hb hr hlk dL_print_22 rfl (hI1.far (fun q hq => hoq q (hne q hq))) hE hat2 (fun _ => rfl) hS2
set_option maxHeartbeats 4000000 in
set_option maxRecDepth 100000 in
theorem H_print_x1 (l : Launch) (g : gG) (cL cD : ClassId) (z1 z2 : Int) (o sz : Nat) (σ : SG) (a : AD) (v : Int) (rm : Room) (hrm : rm.cells = 1 ∧ rm.slots = 6 ∧ 1 ≤ 4 ∧ 6 ≤ 32 ∧ rm.frames ≤ 7 ∧ rm.locals ≤ 143) (hM : XT l yX3_print wsX3_print rm g (.ref (a 1 0) :: [.int (zi z1), .int (zi z2)]) (DI g σ a) eI) : LH l yL_print wsL_print g cL cD [.int (zi z1), .int (zi z2)] o sz σ a σ 1 v := by
  refine ZH.ofW (cc := cL_print) (maxL := 5) (ret := (some .int)) (hh := [(0, 10, 13, 20), (0, 10, 17, 15)]) (by decide) rfl (Nat.le_of_ble_eq_true rfl) ?_
  intro p e s m below meth c ls hx hb hr hml hown hts hlk htb hB hl
  obtain ⟨⟨rfl, hI, ⟨f, hat⟩, ho⟩, hK, hT, hN, hL⟩ := hB
  obtain ⟨r1, r2, r3, r4, r5, r6⟩ := hrm
  have hown : s.vm.findClass RL = some m.cls := hown
  have hl : lv_has ls 5 [(0, .ref (a 1 0)), (1, .int (zi z1)), (2, .int (zi z2)), (3, .ref o)] := hl
  refine lv_aload_n hx hb dL_print_0 rfl (lv_at hl 3 rfl) ?_
  refine z_iconst hx hb dL_print_1 ?_
  refine lv_aload_n hx hb dL_print_2 rfl (lv_at hl 0 rfl) ?_
  refine lv_iload_n hx hb dL_print_3 rfl (lv_at hl 1 rfl) ?_
  refine lv_iload_n hx hb dL_print_4 rfl (lv_at hl 2 rfl) ?_
  refine xt_V (A0 := lhA σ a s.heap.size o) (rest := [.int (zi 0), .ref o]) (As := [.int (zi z1), .int (zi z2)]) ⟨hx, hb, hml, hown, hts⟩ hM (cwV 2 hts gL_print_X3_print rfl r1 r2 (by decide +kernel) ⟨by show rm.frames + 1 ≤ 8; omega, by show 8 + (5 + 11) + rm.locals ≤ 180; omega⟩) (z_recv hK hI.ob rfl) hI hK hT rfl hl.1 rfl (Nat.le_of_ble_eq_true rfl) dL_print_5 ⟨Nat.le_of_ble_eq_true rfl, Nat.le_of_ble_eq_true rfl⟩ (fun H1 q9 ce hz hk hS hce hcv hcl => ?_)
  refine vx_catch (own := RL) (name := eI) (E := eI) hown [] ⟨0, 10, 13, 20⟩ [⟨0, 10, 17, 15⟩] htb (fun z hz => by cases hz) (by decide) (by decide) (hts (.classLink RL 20 eI) (by decide +kernel)) (va_tabs (TWb.tab (.castable eI eI) (by decide)) rfl (hT.2.2.2 (.castable eI eI) (by decide))) hce hcv hcl ?_
  refine lv_astore (lv' := [(4, .ref q9), (0, .ref (a 1 0)), (1, .int (zi z1)), (2, .int (zi z2)), (3, .ref o)]) hx hb dL_print_13 hl (by decide) rfl (fun ls hl => ?_)
  refine z_iconst hx hb dL_print_15 ?_
  refine W.widen (k := 4) (n := 32) (by omega) (by omega) ?_
  exact z_lhret a f hx hb hr hlk dL_print_16 rfl (hI.far (fun q hq => hk q (hI.Ow_lt hq))) (DE_same rfl rfl) (hat.kept (hk o hat.lt)) (fun h => absurd h (by decide)) hS
set_option maxHeartbeats 4000000 in
set_option maxRecDepth 100000 in
theorem H_print_x2 (l : Launch) (g : gG) (cL cD : ClassId) (z1 z2 : Int) (o sz : Nat) (σ : SG) (a : AD) (v : Int) (rm : Room) (hrm : rm.cells = 1 ∧ rm.slots = 6 ∧ 1 ≤ 4 ∧ 6 ≤ 32 ∧ rm.frames ≤ 7 ∧ rm.locals ≤ 143) (hM : XT l yX3_print wsX3_print rm g (.ref (a 1 0) :: [.int (zi z1), .int (zi z2)]) (DI g σ a) eS) : LH l yL_print wsL_print g cL cD [.int (zi z1), .int (zi z2)] o sz σ a σ 2 v := by
  refine ZH.ofW (cc := cL_print) (maxL := 5) (ret := (some .int)) (hh := [(0, 10, 13, 20), (0, 10, 17, 15)]) (by decide) rfl (Nat.le_of_ble_eq_true rfl) ?_
  intro p e s m below meth c ls hx hb hr hml hown hts hlk htb hB hl
  obtain ⟨⟨rfl, hI, ⟨f, hat⟩, ho⟩, hK, hT, hN, hL⟩ := hB
  obtain ⟨r1, r2, r3, r4, r5, r6⟩ := hrm
  have hown : s.vm.findClass RL = some m.cls := hown
  have hl : lv_has ls 5 [(0, .ref (a 1 0)), (1, .int (zi z1)), (2, .int (zi z2)), (3, .ref o)] := hl
  refine lv_aload_n hx hb dL_print_0 rfl (lv_at hl 3 rfl) ?_
  refine z_iconst hx hb dL_print_1 ?_
  refine lv_aload_n hx hb dL_print_2 rfl (lv_at hl 0 rfl) ?_
  refine lv_iload_n hx hb dL_print_3 rfl (lv_at hl 1 rfl) ?_
  refine lv_iload_n hx hb dL_print_4 rfl (lv_at hl 2 rfl) ?_
  refine xt_V (A0 := lhA σ a s.heap.size o) (rest := [.int (zi 0), .ref o]) (As := [.int (zi z1), .int (zi z2)]) ⟨hx, hb, hml, hown, hts⟩ hM (cwV 2 hts gL_print_X3_print rfl r1 r2 (by decide +kernel) ⟨by show rm.frames + 1 ≤ 8; omega, by show 8 + (5 + 11) + rm.locals ≤ 180; omega⟩) (z_recv hK hI.ob rfl) hI hK hT rfl hl.1 rfl (Nat.le_of_ble_eq_true rfl) dL_print_5 ⟨Nat.le_of_ble_eq_true rfl, Nat.le_of_ble_eq_true rfl⟩ (fun H1 q9 ce hz hk hS hce hcv hcl => ?_)
  refine vx_catch (own := RL) (name := eS) (E := eS) hown [⟨0, 10, 13, 20⟩] ⟨0, 10, 17, 15⟩ [] htb (fun z hz => by
    rcases List.mem_singleton.mp hz with rfl
    exact Or.inr ⟨by decide, eI, hts (.classLink RL 20 eI) (by decide +kernel), hN.2.1⟩) (by decide) (by decide) (hts (.classLink RL 15 eS) (by decide +kernel)) (va_tabs (TWb.tab (.castable eS eS) (by decide)) rfl (hT.2.2.2 (.castable eS eS) (by decide))) hce hcv hcl ?_
  refine lv_astore (lv' := [(4, .ref q9), (0, .ref (a 1 0)), (1, .int (zi z1)), (2, .int (zi z2)), (3, .ref o)]) hx hb dL_print_17 hl (by decide) rfl (fun ls hl => ?_)
  refine z_iconst hx hb dL_print_19 ?_
  refine W.widen (k := 4) (n := 32) (by omega) (by omega) ?_
  exact z_lhret a f hx hb hr hlk dL_print_20 rfl (hI.far (fun q hq => hk q (hI.Ow_lt hq))) (DE_same rfl rfl) (hat.kept (hk o hat.lt)) (fun h => absurd h (by decide)) hS
set_option maxHeartbeats 4000000 in
set_option maxRecDepth 100000 in
theorem H_errata_0 (l : Launch) (g : gG) (cL cD : ClassId) (z1 z2 : Int) (o sz : Nat) (σ : SG) (a : AD) (σ' : SG) (v : Int) (rm : Room) (mc ms : Nat) (hrm : rm.cells = mc ∧ rm.slots = ms ∧ mc ≤ 4 ∧ ms ≤ 32 ∧ rm.frames ≤ 7 ∧ rm.locals ≤ 143) (hM : ∀ sz : Nat, DW l yX3_errata wsX3_errata rm g [.int (zi z1), .int (zi z2)] sz σ a σ' v mc ms) : LH l yL_errata wsL_errata g cL cD [.int (zi z1), .int (zi z2)] o sz σ a σ' 0 v := by
  refine ZH.ofW (cc := cL_errata) (maxL := 5) (ret := (some .int)) (hh := [(0, 10, 13, 20), (0, 10, 17, 15)]) (by decide) rfl (Nat.le_of_ble_eq_true rfl) ?_
  intro p e s m below meth c ls hx hb hr hml hown hts hlk htb hB hl
  obtain ⟨⟨rfl, hI, ⟨f, hat⟩, ho⟩, hK, hT, hN, hL⟩ := hB
  obtain ⟨r1, r2, r3, r4, r5, r6⟩ := hrm
  have hown : s.vm.findClass RL = some m.cls := hown
  have hl : lv_has ls 5 [(0, .ref (a 1 0)), (1, .int (zi z1)), (2, .int (zi z2)), (3, .ref o)] := hl
  refine lv_aload_n hx hb dL_errata_0 rfl (lv_at hl 3 rfl) ?_
  refine z_iconst hx hb dL_errata_1 ?_
  refine lv_aload_n hx hb dL_errata_2 rfl (lv_at hl 0 rfl) ?_
  refine lv_iload_n hx hb dL_errata_3 rfl (lv_at hl 1 rfl) ?_
  refine lv_iload_n hx hb dL_errata_4 rfl (lv_at hl 2 rfl) ?_
  refine dw_V (rest := [.int (zi 0), .ref o]) (As := [.int (zi z1), .int (zi z2)]) ⟨hx, hb, hml, hown, hts⟩ (hM _) (cwV 2 hts gL_errata_X3_errata rfl r1 r2 (by decide +kernel) ⟨by show rm.frames + 1 ≤ 8; omega, by show 8 + (5 + 11) + rm.locals ≤ 180; omega⟩) (z_recv hK hI.ob rfl) hI hK rfl hl.1 rfl (Nat.le_of_ble_eq_true rfl) dL_errata_5 ⟨by show 0 + mc ≤ 4; omega, by show 0 + ms ≤ 32; omega⟩ (va_S.rf (A := lhA σ a s.heap.size o)) (fun q h => Or.inl h) (fun a' H1 locs1 hI1 hE hz hk hS => ?_)
  have hat1 : va_at g.1 vwCl (outL cL o f) H1 := hat.kept (hk o hat.lt (fun h => h.elim ho (fun h => absurd hat.lt (by show ¬ o < s.heap.size; omega))))
  have hne : ∀ q, Ow σ' a' q → q ≠ o := fun q hq e => by rcases hE.2 q hq with h | h; exact ho (by rw [← e]; exact h); have h9 := hat.lt; have h9 : o < s.heap.size := h9; omega
  refine lv_i2l hx hb dL_errata_8 rfl ?_
  refine z_last hx hb hL hat1 hS (Or.inr rfl) dL_errata_9 (fun H2 locs2 hat2 hoq hz2 hS2 => ?_)
  refine lv_goto (tgt := 21) hx hb dL_errata_10 (by decide) ?_
  refine z_iconst hx hb dL_errata_21 ?_
  refine W.widen (k := 4) (n := 32) (by omega) (by omega) ?_
  exact z_lhret a' _ hx hb hr hlk dL_errata_22 rfl (hI1.far (fun q hq => hoq q (hne q hq))) hE hat2 (fun _ => rfl) hS2
set_option maxHeartbeats 4000000 in
set_option maxRecDepth 100000 in
theorem H_errata_x1 (l : Launch) (g : gG) (cL cD : ClassId) (z1 z2 : Int) (o sz : Nat) (σ : SG) (a : AD) (v : Int) (rm : Room) (hrm : rm.cells = 1 ∧ rm.slots = 6 ∧ 1 ≤ 4 ∧ 6 ≤ 32 ∧ rm.frames ≤ 7 ∧ rm.locals ≤ 143) (hM : XT l yX3_errata wsX3_errata rm g (.ref (a 1 0) :: [.int (zi z1), .int (zi z2)]) (DI g σ a) eI) : LH l yL_errata wsL_errata g cL cD [.int (zi z1), .int (zi z2)] o sz σ a σ 1 v := by
  refine ZH.ofW (cc := cL_errata) (maxL := 5) (ret := (some .int)) (hh := [(0, 10, 13, 20), (0, 10, 17, 15)]) (by decide) rfl (Nat.le_of_ble_eq_true rfl) ?_
  intro p e s m below meth c ls hx hb hr hml hown hts hlk htb hB hl
  obtain ⟨⟨rfl, hI, ⟨f, hat⟩, ho⟩, hK, hT, hN, hL⟩ := hB
  obtain ⟨r1, r2, r3, r4, r5, r6⟩ := hrm
  have hown : s.vm.findClass RL = some m.cls := hown
  have hl : lv_has ls 5 [(0, .ref (a 1 0)), (1, .int (zi z1)), (2, .int (zi z2)), (3, .ref o)] := hl
  refine lv_aload_n hx hb dL_errata_0 rfl (lv_at hl 3 rfl) ?_
  refine z_iconst hx hb dL_errata_1 ?_
  refine lv_aload_n hx hb dL_errata_2 rfl (lv_at hl 0 rfl) ?_
  refine lv_iload_n hx hb dL_errata_3 rfl (lv_at hl 1 rfl) ?_
  refine lv_iload_n hx hb dL_errata_4 rfl (lv_at hl 2 rfl) ?_
  refine xt_V (A0 := lhA σ a s.heap.size o) (rest := [.int (zi 0), .ref o]) (As := [.int (zi z1), .int (zi z2)]) ⟨hx, hb, hml, hown, hts⟩ hM (cwV 2 hts gL_errata_X3_errata rfl r1 r2 (by decide +kernel) ⟨by show rm.frames + 1 ≤ 8; omega, by show 8 + (5 + 11) + rm.locals ≤ 180; omega⟩) (z_recv hK hI.ob rfl) hI hK hT rfl hl.1 rfl (Nat.le_of_ble_eq_true rfl) dL_errata_5 ⟨Nat.le_of_ble_eq_true rfl, Nat.le_of_ble_eq_true rfl⟩ (fun H1 q9 ce hz hk hS hce hcv hcl => ?_)
  refine vx_catch (own := RL) (name := eI) (E := eI) hown [] ⟨0, 10, 13, 20⟩ [⟨0, 10, 17, 15⟩] htb (fun z hz => by cases hz) (by decide) (by decide) (hts (.classLink RL 20 eI) (by decide +kernel)) (va_tabs (TWb.tab (.castable eI eI) (by decide)) rfl (hT.2.2.2 (.castable eI eI) (by decide))) hce hcv hcl ?_
  refine lv_astore (lv' := [(4, .ref q9), (0, .ref (a 1 0)), (1, .int (zi z1)), (2, .int (zi z2)), (3, .ref o)]) hx hb dL_errata_13 hl (by decide) rfl (fun ls hl => ?_)
  refine z_iconst hx hb dL_errata_15 ?_
  refine W.widen (k := 4) (n := 32) (by omega) (by omega) ?_
  exact z_lhret a f hx hb hr hlk dL_errata_16 rfl (hI.far (fun q hq => hk q (hI.Ow_lt hq))) (DE_same rfl rfl) (hat.kept (hk o hat.lt)) (fun h => absurd h (by decide)) hS
set_option maxHeartbeats 4000000 in
set_option maxRecDepth 100000 in
theorem H_errata_x2 (l : Launch) (g : gG) (cL cD : ClassId) (z1 z2 : Int) (o sz : Nat) (σ : SG) (a : AD) (v : Int) (rm : Room) (hrm : rm.cells = 1 ∧ rm.slots = 6 ∧ 1 ≤ 4 ∧ 6 ≤ 32 ∧ rm.frames ≤ 7 ∧ rm.locals ≤ 143) (hM : XT l yX3_errata wsX3_errata rm g (.ref (a 1 0) :: [.int (zi z1), .int (zi z2)]) (DI g σ a) eS) : LH l yL_errata wsL_errata g cL cD [.int (zi z1), .int (zi z2)] o sz σ a σ 2 v := by
  refine ZH.ofW (cc := cL_errata) (maxL := 5) (ret := (some .int)) (hh := [(0, 10, 13, 20), (0, 10, 17, 15)]) (by decide) rfl (Nat.le_of_ble_eq_true rfl) ?_
  intro p e s m below meth c ls hx hb hr hml hown hts hlk htb hB hl
  obtain ⟨⟨rfl, hI, ⟨f, hat⟩, ho⟩, hK, hT, hN, hL⟩ := hB
  obtain ⟨r1, r2, r3, r4, r5, r6⟩ := hrm
  have hown : s.vm.findClass RL = some m.cls := hown
  have hl : lv_has ls 5 [(0, .ref (a 1 0)), (1, .int (zi z1)), (2, .int (zi z2)), (3, .ref o)] := hl
  refine lv_aload_n hx hb dL_errata_0 rfl (lv_at hl 3 rfl) ?_
  refine z_iconst hx hb dL_errata_1 ?_
  refine lv_aload_n hx hb dL_errata_2 rfl (lv_at hl 0 rfl) ?_
  refine lv_iload_n hx hb dL_errata_3 rfl (lv_at hl 1 rfl) ?_
  refine lv_iload_n hx hb dL_errata_4 rfl (lv_at hl 2 rfl) ?_
  refine xt_V (A0 := lhA σ a s.heap.size o) (rest := [.int (zi 0), .ref o]) (As := [.int (zi z1), .int (zi z2)]) ⟨hx, hb, hml, hown, hts⟩ hM (cwV 2 hts gL_errata_X3_errata rfl r1 r2 (by decide +kernel) ⟨by show rm.frames + 1 ≤ 8; omega, by show 8 + (5 + 11) + rm.locals ≤ 180; omega⟩) (z_recv hK hI.ob rfl) hI hK hT rfl hl.1 rfl (Nat.le_of_ble_eq_true rfl) dL_errata_5 ⟨Nat.le_of_ble_eq_true rfl, Nat.le_of_ble_eq_true rfl⟩ (fun H1 q9 ce hz hk hS hce hcv hcl => ?_)
  refine vx_catch (own := RL) (name := eS) (E := eS) hown [⟨0, 10, 13, 20⟩] ⟨0, 10, 17, 15⟩ [] htb (fun z hz => by
    rcases List.mem_singleton.mp hz with rfl
    exact Or.inr ⟨by decide, eI, hts (.classLink RL 20 eI) (by decide +kernel), hN.2.1⟩) (by decide) (by decide) (hts (.classLink RL 15 eS) (by decide +kernel)) (va_tabs (TWb.tab (.castable eS eS) (by decide)) rfl (hT.2.2.2 (.castable eS eS) (by decide))) hce hcv hcl ?_
  refine lv_astore (lv' := [(4, .ref q9), (0, .ref (a 1 0)), (1, .int (zi z1)), (2, .int (zi z2)), (3, .ref o)]) hx hb dL_errata_17 hl (by decide) rfl (fun ls hl => ?_)
  refine z_iconst hx hb dL_errata_19 ?_
  refine W.widen (k := 4) (n := 32) (by omega) (by omega) ?_
  exact z_lhret a f hx hb hr hlk dL_errata_20 rfl (hI.far (fun q hq => hk q (hI.Ow_lt hq))) (DE_same rfl rfl) (hat.kept (hk o hat.lt)) (fun h => absurd h (by decide)) hS
set_option maxHeartbeats 4000000 in
set_option maxRecDepth 100000 in
theorem H_slip_0 (l : Launch) (g : gG) (cL cD : ClassId) (z1 z2 : Int) (o sz : Nat) (σ : SG) (a : AD) (σ' : SG) (v : Int) (rm : Room) (mc ms : Nat) (hrm : rm.cells = mc ∧ rm.slots = ms ∧ mc ≤ 4 ∧ ms ≤ 32 ∧ rm.frames ≤ 7 ∧ rm.locals ≤ 143) (hM : ∀ sz : Nat, DW l yX3_slip wsX3_slip rm g [.int (zi z1), .int (zi z2)] sz σ a σ' v mc ms) : LH l yL_slip wsL_slip g cL cD [.int (zi z1), .int (zi z2)] o sz σ a σ' 0 v := by
  refine ZH.ofW (cc := cL_slip) (maxL := 5) (ret := (some .int)) (hh := [(0, 10, 13, 20), (0, 10, 17, 15)]) (by decide) rfl (Nat.le_of_ble_eq_true rfl) ?_
  intro p e s m below meth c ls hx hb hr hml hown hts hlk htb hB hl
  obtain ⟨⟨rfl, hI, ⟨f, hat⟩, ho⟩, hK, hT, hN, hL⟩ := hB
  obtain ⟨r1, r2, r3, r4, r5, r6⟩ := hrm
  have hown : s.vm.findClass RL = some m.cls := hown
  have hl : lv_has ls 5 [(0, .ref (a 1 0)), (1, .int (zi z1)), (2, .int (zi z2)), (3, .ref o)] := hl
  refine lv_aload_n hx hb dL_slip_0 rfl (lv_at hl 3 rfl) ?_
  refine z_iconst hx hb dL_slip_1 ?_
  refine lv_aload_n hx hb dL_slip_2 rfl (lv_at hl 0 rfl) ?_
  refine lv_iload_n hx hb dL_slip_3 rfl (lv_at hl 1 rfl) ?_
  refine lv_iload_n hx hb dL_slip_4 rfl (lv_at hl 2 rfl) ?_
  refine dw_V (rest := [.int (zi 0), .ref o]) (As := [.int (zi z1), .int (zi z2)]) ⟨hx, hb, hml, hown, hts⟩ (hM _) (cwV 2 hts gL_slip_X3_slip rfl r1 r2 (by decide +kernel) ⟨by show rm.frames + 1 ≤ 8; omega, by show 8 + (6 + 11) + rm.locals ≤ 180; omega⟩) (z_recv hK hI.ob rfl) hI hK rfl hl.1 rfl (Nat.le_of_ble_eq_true rfl) dL_slip_5 ⟨by show 0 + mc ≤ 4; omega, by show 0 + ms ≤ 32; omega⟩ (va_S.rf (A := lhA σ a s.heap.size o)) (fun q h => Or.inl h) (fun a' H1 locs1 hI1 hE hz hk hS => ?_)
  have hat1 : va_at g.1 vwCl (outL cL o f) H1 := hat.kept (hk o hat.lt (fun h => h.elim ho (fun h => absurd hat.lt (by show ¬ o < s.heap.size; omega))))
  have hne : ∀ q, Ow σ' a' q → q ≠ o := fun q hq e => by rcases hE.2 q hq with h | h; exact ho (by rw [← e]; exact h); have h9 := hat.lt; have h9 : o < s.heap.size := h9; omega
  refine lv_i2l hx hb dL_slip_8 rfl ?_
  refine z_last hx hb hL hat1 hS (Or.inr rfl) dL_slip_9 (fun H2 locs2 hat2 hoq hz2 hS2 => ?_)
  refine lv_goto (tgt := 21) hx hb dL_slip_10 (by decide) ?_
  refine z_iconst hx hb dL_slip_21 ?_
  refine W.widen (k := 4) (n := 32) (by omega) (by omega) ?_
  exact z_lhret a' _ hx hb hr hlk dL_slip_22 rfl (hI1.far (fun q hq => hoq q (hne q hq))) hE hat2 (fun _ => rfl) hS2
set_option maxHeartbeats 4000000 in
set_option maxRecDepth 100000 in
theorem H_slip_x1 (l : Launch) (g : gG) (cL cD : ClassId) (z1 z2 : Int) (o sz : Nat) (σ : SG) (a : AD) (v : Int) (rm : Room) (hrm : rm.cells = 1 ∧ rm.slots = 6 ∧ 1 ≤ 4 ∧ 6 ≤ 32 ∧ rm.frames ≤ 7 ∧ rm.locals ≤ 143) (hM : XT l yX3_slip wsX3_slip rm g (.ref (a 1 0) :: [.int (zi z1), .int (zi z2)]) (DI g σ a) eI) : LH l yL_slip wsL_slip g cL cD [.int (zi z1), .int (zi z2)] o sz σ a σ 1 v := by
  refine ZH.ofW (cc := cL_slip) (maxL := 5) (ret := (some .int)) (hh := [(0, 10, 13, 20), (0, 10, 17, 15)]) (by decide) rfl (Nat.le_of_ble_eq_true rfl) ?_
  intro p e s m below meth c ls hx hb hr hml hown hts hlk htb hB hl
  obtain ⟨⟨rfl, hI, ⟨f, hat⟩, ho⟩, hK, hT, hN, hL⟩ := hB
  obtain ⟨r1, r2, r3, r4, r5, r6⟩ := hrm
  have hown : s.vm.findClass RL = some m.cls := hown
  have hl : lv_has ls 5 [(0, .ref (a 1 0)), (1, .int (zi z1)), (2, .int (zi z2)), (3, .ref o)] := hl
  refine lv_aload_n hx hb dL_slip_0 rfl (lv_at hl 3 rfl) ?_
  refine z_iconst hx hb dL_slip_1 ?_
  refine lv_aload_n hx hb dL_slip_2 rfl (lv_at hl 0 rfl) ?_
  refine lv_iload_n hx hb dL_slip_3 rfl (lv_at hl 1 rfl) ?_
  refine lv_iload_n hx hb dL_slip_4 rfl (lv_at hl 2 rfl) ?_
  refine xt_V (A0 := lhA σ a s.heap.size o) (rest := [.int (zi 0), .ref o]) (As := [.int (zi z1), .int (zi z2)]) ⟨hx, hb, hml, hown, hts⟩ hM (cwV 2 hts gL_slip_X3_slip rfl r1 r2 (by decide +kernel) ⟨by show rm.frames + 1 ≤ 8; omega, by show 8 + (6 + 11) + rm.locals ≤ 180; omega⟩) (z_recv hK hI.ob rfl) hI hK hT rfl hl.1 rfl (Nat.le_of_ble_eq_true rfl) dL_slip_5 ⟨Nat.le_of_ble_eq_true rfl, Nat.le_of_ble_eq_true rfl⟩ (fun H1 q9 ce hz hk hS hce hcv hcl => ?_)
  refine vx_catch (own := RL) (name := eI) (E := eI) hown [] ⟨0, 10, 13, 20⟩ [⟨0, 10, 17, 15⟩] htb (fun z hz => by cases hz) (by decide) (by decide) (hts (.classLink RL 20 eI) (by decide +kernel)) (va_tabs (TWb.tab (.castable eI eI) (by decide)) rfl (hT.2.2.2 (.castable eI eI) (by decide))) hce hcv hcl ?_
  refine lv_astore (lv' := [(4, .ref q9), (0, .ref (a 1 0)), (1, .int (zi z1)), (2, .int (zi z2)), (3, .ref o)]) hx hb dL_slip_13 hl (by decide) rfl (fun ls hl => ?_)
  refine z_iconst hx hb dL_slip_15 ?_
  refine W.widen (k := 4) (n := 32) (by omega) (by omega) ?_
  exact z_lhret a f hx hb hr hlk dL_slip_16 rfl (hI.far (fun q hq => hk q (hI.Ow_lt hq))) (DE_same rfl rfl) (hat.kept (hk o hat.lt)) (fun h => absurd h (by decide)) hS
set_option maxHeartbeats 4000000 in
set_option maxRecDepth 100000 in
theorem H_slip_x2 (l : Launch) (g : gG) (cL cD : ClassId) (z1 z2 : Int) (o sz : Nat) (σ : SG) (a : AD) (v : Int) (rm : Room) (hrm : rm.cells = 1 ∧ rm.slots = 6 ∧ 1 ≤ 4 ∧ 6 ≤ 32 ∧ rm.frames ≤ 7 ∧ rm.locals ≤ 143) (hM : XT l yX3_slip wsX3_slip rm g (.ref (a 1 0) :: [.int (zi z1), .int (zi z2)]) (DI g σ a) eS) : LH l yL_slip wsL_slip g cL cD [.int (zi z1), .int (zi z2)] o sz σ a σ 2 v := by
  refine ZH.ofW (cc := cL_slip) (maxL := 5) (ret := (some .int)) (hh := [(0, 10, 13, 20), (0, 10, 17, 15)]) (by decide) rfl (Nat.le_of_ble_eq_true rfl) ?_
  intro p e s m below meth c ls hx hb hr hml hown hts hlk htb hB hl
  obtain ⟨⟨rfl, hI, ⟨f, hat⟩, ho⟩, hK, hT, hN, hL⟩ := hB
  obtain ⟨r1, r2, r3, r4, r5, r6⟩ := hrm
  have hown : s.vm.findClass RL = some m.cls := hown
  have hl : lv_has ls 5 [(0, .ref (a 1 0)), (1, .int (zi z1)), (2, .int (zi z2)), (3, .ref o)] := hl
  refine lv_aload_n hx hb dL_slip_0 rfl (lv_at hl 3 rfl) ?_
  refine z_iconst hx hb dL_slip_1 ?_
  refine lv_aload_n hx hb dL_slip_2 rfl (lv_at hl 0 rfl) ?_
  refine lv_iload_n hx hb dL_slip_3 rfl (lv_at hl 1 rfl) ?_
  refine lv_iload_n hx hb dL_slip_4 rfl (lv_at hl 2 rfl) ?_
  refine xt_V (A0 := lhA σ a s.heap.size o) (rest := [.int (zi 0), .ref o]) (As := [.int (zi z1), .int (zi z2)]) ⟨hx, hb, hml, hown, hts⟩ hM (cwV 2 hts gL_slip_X3_slip rfl r1 r2 (by decide +kernel) ⟨by show rm.frames + 1 ≤ 8; omega, by show 8 + (6 + 11) + rm.locals ≤ 180; omega⟩) (z_recv hK hI.ob rfl) hI hK hT rfl hl.1 rfl (Nat.le_of_ble_eq_true rfl) dL_slip_5 ⟨Nat.le_of_ble_eq_true rfl, Nat.le_of_ble_eq_true rfl⟩ (fun H1 q9 ce hz hk hS hce hcv hcl => ?_)
  refine vx_catch (own := RL) (name := eS) (E := eS) hown [⟨0, 10, 13, 20⟩] ⟨0, 10, 17, 15⟩ [] htb (fun z hz => by
    rcases List.mem_singleton.mp hz with rfl
    exact Or.inr ⟨by decide, eI, hts (.classLink RL 20 eI) (by decide +kernel), hN.2.1⟩) (by decide) (by decide) (hts (.classLink RL 15 eS) (by decide +kernel)) (va_tabs (TWb.tab (.castable eS eS) (by decide)) rfl (hT.2.2.2 (.castable eS eS) (by decide))) hce hcv hcl ?_
  refine lv_astore (lv' := [(4, .ref q9), (0, .ref (a 1 0)), (1, .int (zi z1)), (2, .int (zi z2)), (3, .ref o)]) hx hb dL_slip_17 hl (by decide) rfl (fun ls hl => ?_)
  refine z_iconst hx hb dL_slip_19 ?_
  refine W.widen (k := 4) (n := 32) (by omega) (by omega) ?_
  exact z_lhret a f hx hb hr hlk dL_slip_20 rfl (hI.far (fun q hq => hk q (hI.Ow_lt hq))) (DE_same rfl rfl) (hat.kept (hk o hat.lt)) (fun h => absurd h (by decide)) hS
set_option maxHeartbeats 4000000 in
set_option maxRecDepth 100000 in
theorem H_slips_0 (l : Launch) (g : gG) (cL cD : ClassId) (z1 : Int) (o sz : Nat) (σ : SG) (a : AD) (σ' : SG) (v : Int) (rm : Room) (mc ms : Nat) (hrm : rm.cells = mc ∧ rm.slots = ms ∧ mc ≤ 4 ∧ ms ≤ 32 ∧ rm.frames ≤ 7 ∧ rm.locals ≤ 143) (hM : ∀ sz : Nat, DW l yX3_slips wsX3_slips rm g [.int (zi z1)] sz σ a σ' v mc ms) : LH l yL_slips wsL_slips g cL cD [.int (zi z1)] o sz σ a σ' 0 v := by
  refine ZH.ofW (cc := cL_slips) (maxL := 4) (ret := (some .int)) (hh := [(0, 9, 12, 20)]) (by decide) rfl (Nat.le_of_ble_eq_true rfl) ?_
  intro p e s m below meth c ls hx hb hr hml hown hts hlk htb hB hl
  obtain ⟨⟨rfl, hI, ⟨f, hat⟩, ho⟩, hK, hT, hN, hL⟩ := hB
  obtain ⟨r1, r2, r3, r4, r5, r6⟩ := hrm
  have hown : s.vm.findClass RL = some m.cls := hown
  have hl : lv_has ls 4 [(0, .ref (a 1 0)), (1, .int (zi z1)), (2, .ref o)] := hl
  refine lv_aload_n hx hb dL_slips_0 rfl (lv_at hl 2 rfl) ?_
  refine z_iconst hx hb dL_slips_1 ?_
  refine lv_aload_n hx hb dL_slips_2 rfl (lv_at hl 0 rfl) ?_
  refine lv_iload_n hx hb dL_slips_3 rfl (lv_at hl 1 rfl) ?_
  refine dw_V (rest := [.int (zi 0), .ref o]) (As := [.int (zi z1)]) ⟨hx, hb, hml, hown, hts⟩ (hM _) (cwV 1 hts gL_slips_X3_slips rfl r1 r2 (by decide +kernel) ⟨by show rm.frames + 1 ≤ 8; omega, by show 8 + (2 + 11) + rm.locals ≤ 180; omega⟩) (z_recv hK hI.ob rfl) hI hK rfl hl.1 rfl (Nat.le_of_ble_eq_true rfl) dL_slips_4 ⟨by show 0 + mc ≤ 4; omega, by show 0 + ms ≤ 32; omega⟩ (va_S.rf (A := lhA σ a s.heap.size o)) (fun q h => Or.inl h) (fun a' H1 locs1 hI1 hE hz hk hS => ?_)
  have hat1 : va_at g.1 vwCl (outL cL o f) H1 := hat.kept (hk o hat.lt (fun h => h.elim ho (fun h => absurd hat.lt (by show ¬ o < s.heap.size; omega))))
  have hne : ∀ q, Ow σ' a' q → q ≠ o := fun q hq e => by rcases hE.2 q hq with h | h; exact ho (by rw [← e]; exact h); have h9 := hat.lt; have h9 : o < s.heap.size := h9; omega
  refine lv_i2l hx hb dL_slips_7 rfl ?_
  refine z_last hx hb hL hat1 hS (Or.inr rfl) dL_slips_8 (fun H2 locs2 hat2 hoq hz2 hS2 => ?_)
  refine lv_goto (tgt := 15) hx hb dL_slips_9 (by decide) ?_
  refine z_iconst hx hb dL_slips_15 ?_
  refine W.widen (k := 4) (n := 32) (by omega) (by omega) ?_
  exact z_lhret a' _ hx hb hr hlk dL_slips_16 rfl (hI1.far (fun q hq => hoq q (hne q hq))) hE hat2 (fun _ => rfl) hS2
set_option maxHeartbeats 4000000 in
set_option maxRecDepth 100000 in
theorem H_slips_x1 (l : Launch) (g : gG) (cL cD : ClassId) (z1 : Int) (o sz : Nat) (σ : SG) (a : AD) (v : Int) (rm : Room) (hrm : rm.cells = 1 ∧ rm.slots = 6 ∧ 1 ≤ 4 ∧ 6 ≤ 32 ∧ rm.frames ≤ 7 ∧ rm.locals ≤ 143) (hM : XT l yX3_slips wsX3_slips rm g (.ref (a 1 0) :: [.int (zi z1)]) (DI g σ a) eI) : LH l yL_slips wsL_slips g cL cD [.int (zi z1)] o sz σ a σ 1 v := by
  refine ZH.ofW (cc := cL_slips) (maxL := 4) (ret := (some .int)) (hh := [(0, 9, 12, 20)]) (by decide) rfl (Nat.le_of_ble_eq_true rfl) ?_
  intro p e s m below meth c ls hx hb hr hml hown hts hlk htb hB hl
  obtain ⟨⟨rfl, hI, ⟨f, hat⟩, ho⟩, hK, hT, hN, hL⟩ := hB
  obtain ⟨r1, r2, r3, r4, r5, r6⟩ := hrm
  have hown : s.vm.findClass RL = some m.cls := hown
  have hl : lv_has ls 4 [(0, .ref (a 1 0)), (1, .int (zi z1)), (2, .ref o)] := hl
  refine lv_aload_n hx hb dL_slips_0 rfl (lv_at hl 2 rfl) ?_
  refine z_iconst hx hb dL_slips_1 ?_
  refine lv_aload_n hx hb dL_slips_2 rfl (lv_at hl 0 rfl) ?_
  refine lv_iload_n hx hb dL_slips_3 rfl (lv_at hl 1 rfl) ?_
  refine xt_V (A0 := lhA σ a s.heap.size o) (rest := [.int (zi 0), .ref o]) (As := [.int (zi z1)]) ⟨hx, hb, hml, hown, hts⟩ hM (cwV 1 hts gL_slips_X3_slips rfl r1 r2 (by decide +kernel) ⟨by show rm.frames + 1 ≤ 8; omega, by show 8 + (2 + 11) + rm.locals ≤ 180; omega⟩) (z_recv hK hI.ob rfl) hI hK hT rfl hl.1 rfl (Nat.le_of_ble_eq_true rfl) dL_slips_4 ⟨Nat.le_of_ble_eq_true rfl, Nat.le_of_ble_eq_true rfl⟩ (fun H1 q9 ce hz hk hS hce hcv hcl => ?_)
  refine vx_catch (own := RL) (name := eI) (E := eI) hown [] ⟨0, 9, 12, 20⟩ [] htb (fun z hz => by cases hz) (by decide) (by decide) (hts (.classLink RL 20 eI) (by decide +kernel)) (va_tabs (TWb.tab (.castable eI eI) (by decide)) rfl (hT.2.2.2 (.castable eI eI) (by decide))) hce hcv hcl ?_
  refine lv_astore_n (lv' := [(3, .ref q9), (0, .ref (a 1 0)), (1, .int (zi z1)), (2, .ref o)]) hx hb dL_slips_12 rfl hl (by decide) rfl (fun ls hl => ?_)
  refine z_iconst hx hb dL_slips_13 ?_
  refine W.widen (k := 4) (n := 32) (by omega) (by omega) ?_
  exact z_lhret a f hx hb hr hlk dL_slips_14 rfl (hI.far (fun q hq => hk q (hI.Ow_lt hq))) (DE_same rfl rfl) (hat.kept (hk o hat.lt)) (fun h => absurd h (by decide)) hS
