/-! ===== the law's loop ===== -/
theorem and31 (x : Int32) : 0 ≤ (x &&& zi 31).toInt ∧ (x &&& zi 31).toInt ≤ 31 := by
  have h1 : (x &&& zi 31).toBitVec = x.toBitVec &&& 31#32 := rfl
  have h2 : (x.toBitVec &&& 31#32).toNat ≤ 31 := by
    rw [BitVec.toNat_and]
    exact Nat.and_le_right
  have h3 : (x &&& zi 31).toInt = ((x.toBitVec &&& 31#32).toNat : Int) := by
    show (x &&& zi 31).toBitVec.toInt = _
    rw [h1]
    exact BitVec.toInt_eq_toNat_of_lt (by omega)
  omega
abbrev lvH (b o od : Nat) (ad : Nat → Nat) (a : AD) (j : Nat) : List (Nat × Value) := lv0 b o od ad a j
set_option maxHeartbeats 4000000 in
set_option maxRecDepth 100000 in
theorem law_head {p : Program} {e : Env} {s : State} {m : MethodId} {below : List Frame} {meth : Method} {c : Code} {Q : State → Prop} {l : Launch} {b L : Nat} {xs : Nat → Int32} {g : gG} {cL cD : ClassId} {ad : Nat → Nat} {o od : Nat} (hC : LC p l s m c b L xs g cL cD ad o od) {σ : SG} {th : Int} {a : AD} {f : Nat → Int64} {fd : Nat → UInt64} {H : Heap} {locs : List Loc} {ls : Array Slot} {cells slots j : Nat} (hW : WF σ) (h12 : S12 σ) (hJ : LJ g cL cD ad o od σ a σ th f fd s.heap.size H) (hS : va_S (SA s) s.heap H locs) (hl : lv_has ls 8 (lv0 b o od ad a j)) (hj : 5 * j ≤ L) (hc1 : cells + 4 ≤ 601024) (hc2 : slots + 32 ≤ 7293033)
    (hend : ∀ (H : Heap) (locs : List Loc) (ls : Array Slot), va_S (SA s) s.heap H locs → W p l e room_1 s m #[Value.ref b] below meth c H locs cells slots Q (F0 m 1396 ls []))
    (hk : 5 * j + 5 ≤ L → LK p l e s m below meth c b g cL cD ad o od Q (j + 1) (cells + 4) (slots + 32) 28) : W p l e room_1 s m #[Value.ref b] below meth c H locs cells slots Q (F0 m 28 ls []) := by
  have hC0 := hC
  obtain ⟨hx, hb, hml, hown, hts, hX, hbl, hK, hT, hN, hL, hF, hfl, hL9⟩ := hC
  have hl : lv_has ls 8 [(5, .int (zi ((5 * j : Nat) : Int))), (4, .ref od), (3, .ref o), (2, .ref (ad 0)), (1, .ref (a 1 0)), (0, .ref b)] := hl
  refine lv_iload hx hb dL_law_28 (lv_at hl 0 rfl) ?_
  refine lv_aload_n hx hb dL_law_30 rfl (lv_at hl 5 rfl) ?_
  refine z_slen hx hb hX hbl hS dL_law_31 ?_
  refine z_iconst hx hb dL_law_32 ?_
  refine z_isub hx hb dL_law_33 ?_
  refine z_icmp_gt (tgt := 1396) hx hb dL_law_34 (by decide) (by omega) (by omega) (fun h => ?_) (fun h => ?_)
  · exact hend _ _ _ hS
  have hj5 : 5 * j + 5 ≤ L := by omega
  have hk1 : LK p l e s m below meth c b g cL cD ad o od Q j (cells + 4) (slots + 32) 1390 := by
    intro σ th a f fd H locs ls hW h12 hJ hS hl
    have hl : lv_has ls 8 [(5, .int (zi ((5 * j : Nat) : Int))), (4, .ref od), (3, .ref o), (2, .ref (ad 0)), (1, .ref (a 1 0)), (0, .ref b)] := hl
    refine z_iinc (b := ((5 * (j + 1) : Nat) : Int)) (lv' := [(5, .int (zi ((5 * (j + 1) : Nat) : Int))), (4, .ref od), (3, .ref o), (2, .ref (ad 0)), (1, .ref (a 1 0)), (0, .ref b)]) hx hb dL_law_1390 hl (k := 0) rfl (by omega) (by decide) rfl (fun ls hl => ?_)
    refine lv_goto (tgt := 28) hx hb dL_law_1393 (by decide) ?_
    exact hk hj5 σ th a f fd H locs ls hW h12 hJ hS hl
  refine lv_aload_n hx hb dL_law_37 rfl (lv_at hl 5 rfl) ?_
  refine lv_iload hx hb dL_law_38 (lv_at hl 0 rfl) ?_
  refine z_sld hx hb hX hbl hS (5 * j) (by omega) (by omega) hL9 dL_law_40 ?_
  refine z_bipush hx hb dL_law_41 (by decide) ?_
  refine lv_iand hx hb dL_law_43 ?_
  have h31 := and31 (zi (xs (5 * j)).toInt)
  generalize zi (xs (5 * j)).toInt &&& zi 31 = y at h31
  have hj4 : 5 * j + 4 < L := by omega
  by_cases y0 : y.toInt = 0
  · refine lv_tableIn (off := 92) (tgt := 136) hx hb dL_law_44 (by rw [y0]; decide) (by rw [y0]; decide) (by rw [y0]; rfl) (by decide) ?_
    exact L_begin hC0 hW h12 hJ hS hl hj4 hc1 hc2 hk1
  by_cases y1 : y.toInt = 1
  · refine lv_tableIn (off := 148) (tgt := 192) hx hb dL_law_44 (by rw [y1]; decide) (by rw [y1]; decide) (by rw [y1]; rfl) (by decide) ?_
    exact L_branch hC0 hW h12 hJ hS hl hj4 hc1 hc2 hk1
  by_cases y2 : y.toInt = 2
  · refine lv_tableIn (off := 204) (tgt := 248) hx hb dL_law_44 (by rw [y2]; decide) (by rw [y2]; decide) (by rw [y2]; rfl) (by decide) ?_
    exact L_setNote hC0 hW h12 hJ hS hl hj4 hc1 hc2 hk1
  by_cases y3 : y.toInt = 3
  · refine lv_tableIn (off := 296) (tgt := 340) hx hb dL_law_44 (by rw [y3]; decide) (by rw [y3]; decide) (by rw [y3]; rfl) (by decide) ?_
    exact L_note hC0 hW h12 hJ hS hl hj4 hc1 hc2 hk1
  by_cases y4 : y.toInt = 4
  · refine lv_tableIn (off := 376) (tgt := 420) hx hb dL_law_44 (by rw [y4]; decide) (by rw [y4]; decide) (by rw [y4]; rfl) (by decide) ?_
    exact L_base hC0 hW h12 hJ hS hl hj4 hc1 hc2 hk1
  by_cases y5 : y.toInt = 5
  · refine lv_tableIn (off := 444) (tgt := 488) hx hb dL_law_44 (by rw [y5]; decide) (by rw [y5]; decide) (by rw [y5]; rfl) (by decide) ?_
    exact L_conflicts hC0 hW h12 hJ hS hl hj4 hc1 hc2 hk1
  by_cases y6 : y.toInt = 6
  · refine lv_tableIn (off := 512) (tgt := 556) hx hb dL_law_44 (by rw [y6]; decide) (by rw [y6]; decide) (by rw [y6]; rfl) (by decide) ?_
    exact L_merge hC0 hW h12 hJ hS hl hj4 hc1 hc2 hk1
  by_cases y7 : y.toInt = 7
  · refine lv_tableIn (off := 580) (tgt := 624) hx hb dL_law_44 (by rw [y7]; decide) (by rw [y7]; decide) (by rw [y7]; rfl) (by decide) ?_
    exact L_setWeight hC0 hW h12 hJ hS hl hj4 hc1 hc2 hk1
  by_cases y8 : y.toInt = 8
  · refine lv_tableIn (off := 648) (tgt := 692) hx hb dL_law_44 (by rw [y8]; decide) (by rw [y8]; decide) (by rw [y8]; rfl) (by decide) ?_
    exact L_setPass hC0 hW h12 hJ hS hl hj4 hc1 hc2 hk1
  by_cases y9 : y.toInt = 9
  · refine lv_tableIn (off := 704) (tgt := 748) hx hb dL_law_44 (by rw [y9]; decide) (by rw [y9]; decide) (by rw [y9]; rfl) (by decide) ?_
    exact L_faults hC0 hW h12 hJ hS hl hj4 hc1 hc2 hk1
  by_cases y10 : y.toInt = 10
  · refine lv_tableIn (off := 784) (tgt := 828) hx hb dL_law_44 (by rw [y10]; decide) (by rw [y10]; decide) (by rw [y10]; rfl) (by decide) ?_
    exact L_mark hC0 hW h12 hJ hS hl hj4 hc1 hc2 hk1
  by_cases y11 : y.toInt = 11
  · refine lv_tableIn (off := 840) (tgt := 884) hx hb dL_law_44 (by rw [y11]; decide) (by rw [y11]; decide) (by rw [y11]; rfl) (by decide) ?_
    exact L_handIn hC0 hW h12 hJ hS hl hj4 hc1 hc2 hk1
  by_cases y12 : y.toInt = 12
  · refine lv_tableIn (off := 903) (tgt := 947) hx hb dL_law_44 (by rw [y12]; decide) (by rw [y12]; decide) (by rw [y12]; rfl) (by decide) ?_
    exact L_fallen hC0 hW h12 hJ hS hl hj4 hc1 hc2 hk1
  by_cases y13 : y.toInt = 13
  · refine lv_tableIn (off := 916) (tgt := 960) hx hb dL_law_44 (by rw [y13]; decide) (by rw [y13]; decide) (by rw [y13]; rfl) (by decide) ?_
    exact L_best hC0 hW h12 hJ hS hl hj4 hc1 hc2 hk1
  by_cases y14 : y.toInt = 14
  · refine lv_tableIn (off := 996) (tgt := 1040) hx hb dL_law_44 (by rw [y14]; decide) (by rw [y14]; decide) (by rw [y14]; rfl) (by decide) ?_
    exact L_movement hC0 hW h12 hJ hS hl hj4 hc1 hc2 hk1
  by_cases y15 : y.toInt = 15
  · refine lv_tableIn (off := 1086) (tgt := 1130) hx hb dL_law_44 (by rw [y15]; decide) (by rw [y15]; decide) (by rw [y15]; rfl) (by decide) ?_
    exact L_print hC0 hW h12 hJ hS hl hj4 hc1 hc2 hk1
  by_cases y16 : y.toInt = 16
  · refine lv_tableIn (off := 1154) (tgt := 1198) hx hb dL_law_44 (by rw [y16]; decide) (by rw [y16]; decide) (by rw [y16]; rfl) (by decide) ?_
    exact L_errata hC0 hW h12 hJ hS hl hj4 hc1 hc2 hk1
  by_cases y17 : y.toInt = 17
  · refine lv_tableIn (off := 1222) (tgt := 1266) hx hb dL_law_44 (by rw [y17]; decide) (by rw [y17]; decide) (by rw [y17]; rfl) (by decide) ?_
    exact L_slip hC0 hW h12 hJ hS hl hj4 hc1 hc2 hk1
  by_cases y18 : y.toInt = 18
  · refine lv_tableIn (off := 1290) (tgt := 1334) hx hb dL_law_44 (by rw [y18]; decide) (by rw [y18]; decide) (by rw [y18]; rfl) (by decide) ?_
    exact L_slips hC0 hW h12 hJ hS hl hj4 hc1 hc2 hk1
  refine lv_tableOut (tgt := 1390) hx hb dL_law_44 (Or.inr (by omega)) (by decide) ?_
  refine W.widen (k := cells + 4) (n := slots + 32) (by omega) (by omega) ?_
  exact hk1 σ th a f fd H locs ls hW h12 hJ hS hl
theorem law_loop {p : Program} {e : Env} {s : State} {m : MethodId} {below : List Frame} {meth : Method} {c : Code} {Q : State → Prop} {l : Launch} {b L : Nat} {xs : Nat → Int32} {g : gG} {cL cD : ClassId} {ad : Nat → Nat} {o od : Nat} (hC : LC p l s m c b L xs g cL cD ad o od)
    (hend : ∀ (k n : Nat), k ≤ 601024 → n ≤ 7293033 → ∀ (H : Heap) (locs : List Loc) (ls : Array Slot), va_S (SA s) s.heap H locs → W p l e room_1 s m #[Value.ref b] below meth c H locs k n Q (F0 m 1396 ls [])) :
    ∀ (d j : Nat), 512 - j = d → 5 * j ≤ L → LK p l e s m below meth c b g cL cD ad o od Q j (20 + 4 * j) (1252 + 32 * j) 28 := by
  have hL9 : L ≤ 2560 := hC.2.2.2.2.2.2.2.2.2.2.2.2.2
  intro d
  induction d with
  | zero =>
    intro j hd hj σ th a f fd H locs ls hW h12 hJ hS hl
    exact law_head hC hW h12 hJ hS hl hj (by omega) (by omega) (hend _ _ (by omega) (by omega)) (fun h => by omega)
  | succ d ih =>
    intro j hd hj σ th a f fd H locs ls hW h12 hJ hS hl
    refine law_head hC hW h12 hJ hS hl hj (by omega) (by omega) (hend _ _ (by omega) (by omega)) (fun h => ?_)
    have h1 := ih (j + 1) (by omega) (by omega)
    have e1 : 20 + 4 * (j + 1) = 20 + 4 * j + 4 := by omega
    have e2 : 1252 + 32 * (j + 1) = 1252 + 32 * j + 32 := by omega
    rw [e1, e2] at h1
    exact h1
