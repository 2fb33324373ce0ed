theorem btC_r {σ : SG} (hw6 : ∀ r, 0 ≤ σ 6 r ∧ σ 6 r ≤ 50) (v : Int) (b nb : Nat) {mm : Nat} (hm : mm ≤ 12) (u lo : Nat → Int) (t : Nat) : 0 ≤ btC σ v b nb mm u lo t ∧ btC σ v b nb mm u lo t ≤ 7200 := by
  have h := wfs_r hw6 nb (tuS v b u (t + 1)) (tlS v b lo (t + 1)) b mm hm 6
  unfold btC
  omega
theorem lsB_r {c : Nat → Int} (h : ∀ t, 0 ≤ c t ∧ c t ≤ 7200) (j : Nat) : 0 ≤ lsB c j ∧ lsB c j ≤ 7200 := by
  cases j with
  | zero => show 0 ≤ (0 : Int) ∧ (0 : Int) ≤ 7200; omega
  | succ j => exact h _
set_option maxHeartbeats 4000000 in
set_option maxRecDepth 100000 in
theorem c_X3_bestTone (l : Launch) (g : gG) (σ : SG) (a : AD) (n : Int) (u lo : Nat → Int) (hd3 : D3s (a 5 0) (a 6 0) (a 7 0)) (hnD : a 1 0 ∉ [a 5 0, a 6 0, a 7 0]) (hnW : a 4 0 ∉ [a 5 0, a 6 0, a 7 0]) (hw6 : ∀ r, 0 ≤ σ 6 r ∧ σ 6 r ≤ 50) (hu : Nt u) (hlo : Nt lo) (v : Int) (hv : zr v) (nb : Nat) (hnb : n = (nb : Int)) (hnb12 : nb ≤ 12) (b : Nat) (hb9 : b < nb) (zb : Int) (hzb : zb = (b : Int)) (mm : Nat) (hmm : (b + 3 ≤ nb ∧ mm = 3) ∨ (nb < b + 3 ∧ b + mm = nb)) (sz : Nat) : WNi (Unit) l yX3_bestTone wsX3_bestTone ({ frames := 5, cells := 0, slots := 0, locals := 116 }) g [.ref (a 1 0), .int (zi (v)), .int (zi (zb))] sz [((a 5 0), .inr (1, [.int (zi (n)), .ref (a 6 0), .ref (a 7 0)])), ((a 6 0), .inl (g.2.1, 12, .inl (fun j9 => zi ((u) j9)))), ((a 7 0), .inl (g.2.1, 12, .inl (fun j9 => zi ((lo) j9))))] (fun H => va_at g.1 vwCl (deskO σ a) H ∧ va_at g.1 vwCl (wtO g σ a) H) (fun _ => [((a 5 0), .inr (1, [.int (zi (n)), .ref (a 6 0), .ref (a 7 0)])), ((a 6 0), .inl (g.2.1, 12, .inl (fun j9 => zi ((tuS v b u (41)) j9)))), ((a 7 0), .inl (g.2.1, 12, .inl (fun j9 => zi ((tlS v b lo (41)) j9))))]) (((bst (btC σ v b nb mm u lo) 40 : Nat) : Int)) 0 0 := by
  refine ZM.ofW (cc := cX3_bestTone) (maxL := 8) (ret := (some .int)) (by decide) rfl (Nat.le_of_ble_eq_true rfl) ?_
  intro p e s m below meth c ls hx hb hr hml hown hts hlk hP hK hl hin
  obtain ⟨rfl, hP, hQ⟩ := hP
  have hP : va_P g.1 vwCl [((a 5 0), .inr (1, [.int (zi (n)), .ref (a 6 0), .ref (a 7 0)])), ((a 6 0), .inl (g.2.1, 12, .inl (fun j9 => zi ((u) j9)))), ((a 7 0), .inl (g.2.1, 12, .inl (fun j9 => zi ((lo) j9))))] s.heap := hP
  have hD : va_D (va_A [((a 5 0), .inr (1, [.int (zi (n)), .ref (a 6 0), .ref (a 7 0)])), ((a 6 0), .inl (g.2.1, 12, .inl (fun j9 => zi ((u) j9)))), ((a 7 0), .inl (g.2.1, 12, .inl (fun j9 => zi ((lo) j9))))] s.heap.size) [((a 5 0), .inr (1, [.int (zi (n)), .ref (a 6 0), .ref (a 7 0)])), ((a 6 0), .inl (g.2.1, 12, .inl (fun j9 => zi ((u) j9)))), ((a 7 0), .inl (g.2.1, 12, .inl (fun j9 => zi ((lo) j9))))] := z_Dn (D3s.n hd3)
  have hS : va_S (va_A [((a 5 0), .inr (1, [.int (zi (n)), .ref (a 6 0), .ref (a 7 0)])), ((a 6 0), .inl (g.2.1, 12, .inl (fun j9 => zi ((u) j9)))), ((a 7 0), .inl (g.2.1, 12, .inl (fun j9 => zi ((lo) j9))))] s.heap.size) s.heap s.heap [] := va_S.rf
  have hA : ∀ x9 : Nat, s.heap.size ≤ x9 → (va_A [((a 5 0), .inr (1, [.int (zi (n)), .ref (a 6 0), .ref (a 7 0)])), ((a 6 0), .inl (g.2.1, 12, .inl (fun j9 => zi ((u) j9)))), ((a 7 0), .inl (g.2.1, 12, .inl (fun j9 => zi ((lo) j9))))] s.heap.size) x9 := fun _ h => Or.inr h
  have hown : s.vm.findClass RX3 = some m.cls := hown
  have hl : lv_has ls 8 [(0, .ref (a 1 0)), (1, .int (zi (v))), (2, .int (zi (zb)))] := hl
  have hiX1 : ∀ w ∈ u_ws RX1 TX1 3, w ∈ wsX3_bestTone := by decide +kernel
  have hiX3 : ∀ w ∈ u_ws RX3 TX3 7, w ∈ wsX3_bestTone := by decide +kernel
  have nD : ¬ (va_A [((a 5 0), .inr (1, [.int (zi (n)), .ref (a 6 0), .ref (a 7 0)])), ((a 6 0), .inl (g.2.1, 12, .inl (fun j9 => zi ((u) j9)))), ((a 7 0), .inl (g.2.1, 12, .inl (fun j9 => zi ((lo) j9))))] s.heap.size) (a 1 0) := z_nA hQ.1.lt hnD
  have nW : ¬ (va_A [((a 5 0), .inr (1, [.int (zi (n)), .ref (a 6 0), .ref (a 7 0)])), ((a 6 0), .inl (g.2.1, 12, .inl (fun j9 => zi ((u) j9)))), ((a 7 0), .inl (g.2.1, 12, .inl (fun j9 => zi ((lo) j9))))] s.heap.size) (a 4 0) := z_nA hQ.2.lt hnW
  refine lv_iload_n hx hb dX3_bestTone_0 rfl (lv_at hl 2 rfl) ?_
  refine z_iconst hx hb dX3_bestTone_1 ?_
  refine z_iadd hx hb dX3_bestTone_2 ?_
  refine lv_aload_n hx hb dX3_bestTone_3 rfl (lv_at hl 0 rfl) ?_
  refine z_get (C := RX3) (T := TX3) (N := 7) hx hb hts hiX3 hown hK (z_stay hQ.1 hS nD) rfl 6 (by decide) (hts (.fieldLink RX3 38 "HarmoniumDesk" "trial" "LHarmoniumDesk$Score;") (by decide +kernel)) rfl rfl dX3_bestTone_4 ?_
  refine z_getN (C := RX1) (T := TX1) (N := 3) (ref := "HarmoniumDesk$Score") (host := RX3) hx hb hts hiX1 hown hK (hP 0 _ rfl) rfl 0 (by decide) (by decide +kernel) rfl rfl dX3_bestTone_7 ?_
  refine z_min (d := ((b + mm : Nat) : Int)) hx hb (hml.trans hl.1.symm) hown (hts (.methodLink RX3 215 Lib.Math.min.name) (by decide +kernel)) (hts (.static Lib.Math.min.name) (by decide +kernel)) (hts (.initialized "java/lang/Math") (by decide +kernel)) (hts (.code Lib.Math.min.name Lib.Math.min.code 2 (some .int)) (by decide +kernel)) (Nat.le_of_ble_eq_true rfl) (Nat.le_of_ble_eq_true rfl) (Nat.zero_le _) (Nat.zero_le _) (by omega) (by omega) (by omega) (by omega) dX3_bestTone_10 ?_
  refine lv_istore_n (lv' := [(3, .int (zi (((b + mm : Nat) : Int)))), (0, .ref (a 1 0)), (1, .int (zi (v))), (2, .int (zi (zb)))]) hx hb dX3_bestTone_13 rfl hl (by decide) rfl (fun ls hl => ?_)
  refine z_iconst hx hb dX3_bestTone_14 ?_
  refine z_top (b := ((bsB (btC σ v b nb mm u lo) 0 : Nat) : Int)) (rfl) ?_
  refine lv_istore (lv' := [(4, .int (zi (((bsB (btC σ v b nb mm u lo) 0 : Nat) : Int)))), (3, .int (zi (((b + mm : Nat) : Int)))), (0, .ref (a 1 0)), (1, .int (zi (v))), (2, .int (zi (zb)))]) hx hb dX3_bestTone_15 hl (by decide) rfl (fun ls hl => ?_)
  refine z_iconst hx hb dX3_bestTone_17 ?_
  refine z_top (b := lsB (btC σ v b nb mm u lo) 0) (rfl) ?_
  refine lv_istore (lv' := [(5, .int (zi (lsB (btC σ v b nb mm u lo) 0))), (4, .int (zi (((bsB (btC σ v b nb mm u lo) 0 : Nat) : Int)))), (3, .int (zi (((b + mm : Nat) : Int)))), (0, .ref (a 1 0)), (1, .int (zi (v))), (2, .int (zi (zb)))]) hx hb dX3_bestTone_18 hl (by decide) rfl (fun ls hl => ?_)
  refine z_iconst hx hb dX3_bestTone_20 ?_
  refine z_top (b := ((0 : Nat) : Int)) (rfl) ?_
  refine lv_istore (lv' := [(6, .int (zi (((0 : Nat) : Int)))), (5, .int (zi (lsB (btC σ v b nb mm u lo) 0))), (4, .int (zi (((bsB (btC σ v b nb mm u lo) 0 : Nat) : Int)))), (3, .int (zi (((b + mm : Nat) : Int)))), (0, .ref (a 1 0)), (1, .int (zi (v))), (2, .int (zi (zb)))]) hx hb dX3_bestTone_21 hl (by decide) rfl (fun ls hl => ?_)
  have loop23 : ∀ (d j : Nat), j ≤ 41 → 41 - j = d → ∀ (H : Heap) (locs : List Loc), va_P g.1 vwCl [((a 5 0), .inr (1, [.int (zi (n)), .ref (a 6 0), .ref (a 7 0)])), ((a 6 0), .inl (g.2.1, 12, .inl (fun j9 => zi ((tuS v b u (j)) j9)))), ((a 7 0), .inl (g.2.1, 12, .inl (fun j9 => zi ((tlS v b lo (j)) j9))))] H → va_S (va_A [((a 5 0), .inr (1, [.int (zi (n)), .ref (a 6 0), .ref (a 7 0)])), ((a 6 0), .inl (g.2.1, 12, .inl (fun j9 => zi ((u) j9)))), ((a 7 0), .inl (g.2.1, 12, .inl (fun j9 => zi ((lo) j9))))] s.heap.size) s.heap H locs → ∀ ls : Array Slot, lv_has ls 8 [(6, .int (zi ((j : Int)))), (5, .int (zi (lsB (btC σ v b nb mm u lo) j))), (4, .int (zi (((bsB (btC σ v b nb mm u lo) j : Nat) : Int)))), (3, .int (zi (((b + mm : Nat) : Int)))), (0, .ref (a 1 0)), (1, .int (zi (v))), (2, .int (zi (zb)))] → W p l e ({ frames := 5, cells := 0, slots := 0, locals := 116 }) s m ([.ref (a 1 0), .int (zi (v)), .int (zi (zb))] : List Value).toArray below meth c H locs 0 0 (MQ below (va_Qi (fun z9 (_ : Unit) => z9 = zi (((bst (btC σ v b nb mm u lo) 40 : Nat) : Int))) (fun u9 t9 => va_P g.1 vwCl ((fun _ => [((a 5 0), .inr (1, [.int (zi (n)), .ref (a 6 0), .ref (a 7 0)])), ((a 6 0), .inl (g.2.1, 12, .inl (fun j9 => zi ((tuS v b u (41)) j9)))), ((a 7 0), .inl (g.2.1, 12, .inl (fun j9 => zi ((tlS v b lo (41)) j9))))]) u9) t9.heap ∧ va_D (va_A [((a 5 0), .inr (1, [.int (zi (n)), .ref (a 6 0), .ref (a 7 0)])), ((a 6 0), .inl (g.2.1, 12, .inl (fun j9 => zi ((u) j9)))), ((a 7 0), .inl (g.2.1, 12, .inl (fun j9 => zi ((lo) j9))))] s.heap.size) ((fun _ => [((a 5 0), .inr (1, [.int (zi (n)), .ref (a 6 0), .ref (a 7 0)])), ((a 6 0), .inl (g.2.1, 12, .inl (fun j9 => zi ((tuS v b u (41)) j9)))), ((a 7 0), .inl (g.2.1, 12, .inl (fun j9 => zi ((tlS v b lo (41)) j9))))]) u9)) (va_A [((a 5 0), .inr (1, [.int (zi (n)), .ref (a 6 0), .ref (a 7 0)])), ((a 6 0), .inl (g.2.1, 12, .inl (fun j9 => zi ((u) j9)))), ((a 7 0), .inl (g.2.1, 12, .inl (fun j9 => zi ((lo) j9))))] s.heap.size)) ([.ref (a 1 0), .int (zi (v)), .int (zi (zb))] : List Value).toArray s 0 0 (va_A [((a 5 0), .inr (1, [.int (zi (n)), .ref (a 6 0), .ref (a 7 0)])), ((a 6 0), .inl (g.2.1, 12, .inl (fun j9 => zi ((u) j9)))), ((a 7 0), .inl (g.2.1, 12, .inl (fun j9 => zi ((lo) j9))))] s.heap.size)) (F0 m 23 ls []) := by
    intro d
    induction d with
    | zero =>
      intro j hj hd2 H locs hP hS ls hl
      have ej : j = 41 := by omega
      have hD : va_D (va_A [((a 5 0), .inr (1, [.int (zi (n)), .ref (a 6 0), .ref (a 7 0)])), ((a 6 0), .inl (g.2.1, 12, .inl (fun j9 => zi ((u) j9)))), ((a 7 0), .inl (g.2.1, 12, .inl (fun j9 => zi ((lo) j9))))] s.heap.size) [((a 5 0), .inr (1, [.int (zi (n)), .ref (a 6 0), .ref (a 7 0)])), ((a 6 0), .inl (g.2.1, 12, .inl (fun j9 => zi ((tuS v b u (j)) j9)))), ((a 7 0), .inl (g.2.1, 12, .inl (fun j9 => zi ((tlS v b lo (j)) j9))))] := z_D hD rfl
      refine lv_iload hx hb dX3_bestTone_23 (lv_at hl 0 rfl) ?_
      refine z_bipush hx hb dX3_bestTone_25 (by decide) ?_
      refine z_icmp_gt (tgt := 79) hx hb dX3_bestTone_27 (by decide) (by omega) (by omega) (fun h27 => ?_) (fun h27 => ?_)
      ·
        refine lv_iload hx hb dX3_bestTone_79 (lv_at hl 2 rfl) ?_
        exact z_wniret () hx hb hr hlk dX3_bestTone_81 (by rw [ej]; rfl) (by rw [ej] at hP; exact hP) (z_D hD rfl) hS
      · exfalso; omega
    | succ d ih =>
      intro j hj hd2 H locs hP hS ls hl
      have hD : va_D (va_A [((a 5 0), .inr (1, [.int (zi (n)), .ref (a 6 0), .ref (a 7 0)])), ((a 6 0), .inl (g.2.1, 12, .inl (fun j9 => zi ((u) j9)))), ((a 7 0), .inl (g.2.1, 12, .inl (fun j9 => zi ((lo) j9))))] s.heap.size) [((a 5 0), .inr (1, [.int (zi (n)), .ref (a 6 0), .ref (a 7 0)])), ((a 6 0), .inl (g.2.1, 12, .inl (fun j9 => zi ((tuS v b u (j)) j9)))), ((a 7 0), .inl (g.2.1, 12, .inl (fun j9 => zi ((tlS v b lo (j)) j9))))] := z_D hD rfl
      have r1 := btC_r (σ := σ) hw6 v b nb (mm := mm) (by omega) u lo j
      have r2 := lsB_r (c := (btC σ v b nb mm u lo)) (btC_r hw6 v b nb (by omega) u lo) j
      refine lv_iload hx hb dX3_bestTone_23 (lv_at hl 0 rfl) ?_
      refine z_bipush hx hb dX3_bestTone_25 (by decide) ?_
      refine z_icmp_gt (tgt := 79) hx hb dX3_bestTone_27 (by decide) (by omega) (by omega) (fun h27 => ?_) (fun h27 => ?_)
      · exfalso; omega
      ·
        refine lv_aload_n hx hb dX3_bestTone_30 rfl (lv_at hl 4 rfl) ?_
        refine z_get (C := RX3) (T := TX3) (N := 7) hx hb hts hiX3 hown hK (z_stay hQ.1 hS nD) rfl 6 (by decide) (hts (.fieldLink RX3 38 "HarmoniumDesk" "trial" "LHarmoniumDesk$Score;") (by decide +kernel)) rfl rfl dX3_bestTone_31 ?_
        refine lv_iload_n hx hb dX3_bestTone_34 rfl (lv_at hl 5 rfl) ?_
        refine lv_iload_n hx hb dX3_bestTone_35 rfl (lv_at hl 6 rfl) ?_
        refine lv_iload hx hb dX3_bestTone_36 (lv_at hl 0 rfl) ?_
        refine wv_V (rest := []) (As := [.int (zi (v)), .int (zi (zb)), .int (zi ((j : Int)))]) ⟨hx, hb, hml, hown, hts⟩ (c_X1_setTone l g (a 5 0) (a 6 0) (a 7 0) n (tuS v b u (j)) (tlS v b lo (j)) hd3 (v) hv b (by omega) (zb) (by omega) ((j : Int)) (tuS v b u (j + 1)) (tlS v b lo (j + 1)) (fun h => su0 h b u lo j) (fun h => su1 h b u lo j) _) (cwV 3 hts gX3_bestTone_X1_setTone rfl rfl rfl (by decide +kernel) ⟨Nat.le_of_ble_eq_true rfl, Nat.le_of_ble_eq_true rfl⟩) (z_recv hK (hP 0 _ rfl) rfl) hP trivial hK rfl hl.1 rfl (Nat.le_of_ble_eq_true rfl) dX3_bestTone_38 ⟨Nat.le_of_ble_eq_true rfl, Nat.le_of_ble_eq_true rfl⟩ hS (va_fr3 hS.1) (fun H1 locs hP1 hz1 hk1 hS => ?_)
        have hP := hP1
        have hD : va_D (va_A [((a 5 0), .inr (1, [.int (zi (n)), .ref (a 6 0), .ref (a 7 0)])), ((a 6 0), .inl (g.2.1, 12, .inl (fun j9 => zi ((u) j9)))), ((a 7 0), .inl (g.2.1, 12, .inl (fun j9 => zi ((lo) j9))))] s.heap.size) [((a 5 0), .inr (1, [.int (zi (n)), .ref (a 6 0), .ref (a 7 0)])), ((a 6 0), .inl (g.2.1, 12, .inl (fun j9 => zi ((tuS v b u (j + 1)) j9)))), ((a 7 0), .inl (g.2.1, 12, .inl (fun j9 => zi ((tlS v b lo (j + 1)) j9))))] := z_D hD rfl
        generalize H1 = H at hP hS ⊢
        have hP : va_P g.1 vwCl [((a 5 0), .inr (1, [.int (zi (n)), .ref (a 6 0), .ref (a 7 0)])), ((a 6 0), .inl (g.2.1, 12, .inl (fun j9 => zi ((tuS v b u (j + 1)) j9)))), ((a 7 0), .inl (g.2.1, 12, .inl (fun j9 => zi ((tlS v b lo (j + 1)) j9))))] H := hP
        have hD : va_D (va_A [((a 5 0), .inr (1, [.int (zi (n)), .ref (a 6 0), .ref (a 7 0)])), ((a 6 0), .inl (g.2.1, 12, .inl (fun j9 => zi ((u) j9)))), ((a 7 0), .inl (g.2.1, 12, .inl (fun j9 => zi ((lo) j9))))] s.heap.size) [((a 5 0), .inr (1, [.int (zi (n)), .ref (a 6 0), .ref (a 7 0)])), ((a 6 0), .inl (g.2.1, 12, .inl (fun j9 => zi ((tuS v b u (j + 1)) j9)))), ((a 7 0), .inl (g.2.1, 12, .inl (fun j9 => zi ((tlS v b lo (j + 1)) j9))))] := hD
        refine lv_aload_n hx hb dX3_bestTone_41 rfl (lv_at hl 4 rfl) ?_
        refine lv_aload_n hx hb dX3_bestTone_42 rfl (lv_at hl 4 rfl) ?_
        refine z_get (C := RX3) (T := TX3) (N := 7) hx hb hts hiX3 hown hK (z_stay hQ.1 hS nD) rfl 6 (by decide) (hts (.fieldLink RX3 38 "HarmoniumDesk" "trial" "LHarmoniumDesk$Score;") (by decide +kernel)) rfl rfl dX3_bestTone_43 ?_
        refine lv_iload_n hx hb dX3_bestTone_46 rfl (lv_at hl 6 rfl) ?_
        refine lv_iload_n hx hb dX3_bestTone_47 rfl (lv_at hl 3 rfl) ?_
        refine ro_V (rest := []) (As := [.ref (a 5 0), .int (zi (zb)), .int (zi (((b + mm : Nat) : Int)))]) ⟨hx, hb, hml, hown, hts⟩ (c_X3_weightedFaults l g σ a (a 5 0) (a 6 0) (a 7 0) n (tuS v b u (j + 1)) (tlS v b lo (j + 1)) (tuS_Nt hu (by omega)) (tlS_Nt hlo (by omega)) nb hnb hnb12 b mm (by omega) (zb) (by omega) (((b + mm : Nat) : Int)) (by omega)) (cwV 3 hts gX3_bestTone_X3_weightedFaults rfl rfl rfl (by decide +kernel) ⟨Nat.le_of_ble_eq_true rfl, Nat.le_of_ble_eq_true rfl⟩) (z_recv hK (z_stay hQ.1 hS nD) rfl) ⟨z_stay hQ.1 hS nD, z_stay hQ.2 hS nW, ⟨hP 0 _ rfl, hP 1 _ rfl, hP 2 _ rfl⟩⟩ hK rfl hl.1 rfl (Nat.le_of_ble_eq_true rfl) dX3_bestTone_48 ⟨Nat.le_of_ble_eq_true rfl, Nat.le_of_ble_eq_true rfl⟩ ?_
        refine z_top (b := (btC σ v b nb mm u lo) j) rfl ?_
        refine lv_istore (lv' := [(7, .int (zi ((btC σ v b nb mm u lo) j))), (6, .int (zi ((j : Int)))), (5, .int (zi (lsB (btC σ v b nb mm u lo) j))), (4, .int (zi (((bsB (btC σ v b nb mm u lo) j : Nat) : Int)))), (3, .int (zi (((b + mm : Nat) : Int)))), (0, .ref (a 1 0)), (1, .int (zi (v))), (2, .int (zi (zb)))]) hx hb dX3_bestTone_51 hl (by decide) rfl (fun ls hl => ?_)
        refine lv_iload hx hb dX3_bestTone_53 (lv_at hl 1 rfl) ?_
        refine z_if_eq (tgt := 65) hx hb dX3_bestTone_55 (by decide) (by omega) (fun h55 => ?_) (fun h55 => ?_)
        ·
          refine lv_iload hx hb dX3_bestTone_65 (lv_at hl 0 rfl) ?_
          refine z_top (b := lsB (btC σ v b nb mm u lo) (j + 1)) (by first | exact lsB_t (Or.inl (by omega)) | exact lsB_t (Or.inr (by omega))) ?_
          refine lv_istore (lv' := [(5, .int (zi (lsB (btC σ v b nb mm u lo) (j + 1)))), (7, .int (zi ((btC σ v b nb mm u lo) j))), (6, .int (zi ((j : Int)))), (4, .int (zi (((bsB (btC σ v b nb mm u lo) j : Nat) : Int)))), (3, .int (zi (((b + mm : Nat) : Int)))), (0, .ref (a 1 0)), (1, .int (zi (v))), (2, .int (zi (zb)))]) hx hb dX3_bestTone_67 hl (by decide) rfl (fun ls hl => ?_)
          refine lv_iload hx hb dX3_bestTone_69 (lv_at hl 2 rfl) ?_
          refine z_top (b := ((bsB (btC σ v b nb mm u lo) (j + 1) : Nat) : Int)) (by first | exact bsB_t (Or.inl (by omega)) | exact bsB_t (Or.inr (by omega))) ?_
          refine lv_istore (lv' := [(4, .int (zi (((bsB (btC σ v b nb mm u lo) (j + 1) : Nat) : Int)))), (5, .int (zi (lsB (btC σ v b nb mm u lo) (j + 1)))), (7, .int (zi ((btC σ v b nb mm u lo) j))), (6, .int (zi ((j : Int)))), (3, .int (zi (((b + mm : Nat) : Int)))), (0, .ref (a 1 0)), (1, .int (zi (v))), (2, .int (zi (zb)))]) hx hb dX3_bestTone_71 hl (by decide) rfl (fun ls hl => ?_)
          refine z_iinc (b := ((j + 1 : Nat) : Int)) (lv' := [(6, .int (zi (((j + 1 : Nat) : Int)))), (4, .int (zi (((bsB (btC σ v b nb mm u lo) (j + 1) : Nat) : Int)))), (5, .int (zi (lsB (btC σ v b nb mm u lo) (j + 1)))), (7, .int (zi ((btC σ v b nb mm u lo) j))), (3, .int (zi (((b + mm : Nat) : Int)))), (0, .ref (a 1 0)), (1, .int (zi (v))), (2, .int (zi (zb)))]) hx hb dX3_bestTone_73 hl (k := 3) rfl (by omega) (by decide) rfl (fun ls hl => ?_)
          refine lv_goto (tgt := 23) hx hb dX3_bestTone_76 (by decide) ?_
          exact ih (j + 1) (by omega) (by omega) H locs hP hS ls (lv_sub hl [0, 2, 1, 4, 5, 6, 7] rfl)
        ·
          refine lv_iload hx hb dX3_bestTone_58 (lv_at hl 0 rfl) ?_
          refine lv_iload hx hb dX3_bestTone_60 (lv_at hl 2 rfl) ?_
          refine z_icmp_ge (tgt := 73) hx hb dX3_bestTone_62 (by decide) (by omega) (by omega) (fun h62 => ?_) (fun h62 => ?_)
          ·
            rw [show lsB (btC σ v b nb mm u lo) j = lsB (btC σ v b nb mm u lo) (j + 1) from lsB_f (by omega) (by omega), show bsB (btC σ v b nb mm u lo) j = bsB (btC σ v b nb mm u lo) (j + 1) from bsB_f (by omega) (by omega)] at hl
            refine z_iinc (b := ((j + 1 : Nat) : Int)) (lv' := [(6, .int (zi (((j + 1 : Nat) : Int)))), (7, .int (zi ((btC σ v b nb mm u lo) j))), (5, .int (zi (lsB (btC σ v b nb mm u lo) (j + 1)))), (4, .int (zi (((bsB (btC σ v b nb mm u lo) (j + 1) : Nat) : Int)))), (3, .int (zi (((b + mm : Nat) : Int)))), (0, .ref (a 1 0)), (1, .int (zi (v))), (2, .int (zi (zb)))]) hx hb dX3_bestTone_73 hl (k := 1) rfl (by omega) (by decide) rfl (fun ls hl => ?_)
            refine lv_goto (tgt := 23) hx hb dX3_bestTone_76 (by decide) ?_
            exact ih (j + 1) (by omega) (by omega) H locs hP hS ls (lv_sub hl [0, 2, 3, 4, 5, 6, 7] rfl)
          ·
            refine lv_iload hx hb dX3_bestTone_65 (lv_at hl 0 rfl) ?_
            refine z_top (b := lsB (btC σ v b nb mm u lo) (j + 1)) (by first | exact lsB_t (Or.inl (by omega)) | exact lsB_t (Or.inr (by omega))) ?_
            refine lv_istore (lv' := [(5, .int (zi (lsB (btC σ v b nb mm u lo) (j + 1)))), (7, .int (zi ((btC σ v b nb mm u lo) j))), (6, .int (zi ((j : Int)))), (4, .int (zi (((bsB (btC σ v b nb mm u lo) j : Nat) : Int)))), (3, .int (zi (((b + mm : Nat) : Int)))), (0, .ref (a 1 0)), (1, .int (zi (v))), (2, .int (zi (zb)))]) hx hb dX3_bestTone_67 hl (by decide) rfl (fun ls hl => ?_)
            refine lv_iload hx hb dX3_bestTone_69 (lv_at hl 2 rfl) ?_
            refine z_top (b := ((bsB (btC σ v b nb mm u lo) (j + 1) : Nat) : Int)) (by first | exact bsB_t (Or.inl (by omega)) | exact bsB_t (Or.inr (by omega))) ?_
            refine lv_istore (lv' := [(4, .int (zi (((bsB (btC σ v b nb mm u lo) (j + 1) : Nat) : Int)))), (5, .int (zi (lsB (btC σ v b nb mm u lo) (j + 1)))), (7, .int (zi ((btC σ v b nb mm u lo) j))), (6, .int (zi ((j : Int)))), (3, .int (zi (((b + mm : Nat) : Int)))), (0, .ref (a 1 0)), (1, .int (zi (v))), (2, .int (zi (zb)))]) hx hb dX3_bestTone_71 hl (by decide) rfl (fun ls hl => ?_)
            refine z_iinc (b := ((j + 1 : Nat) : Int)) (lv' := [(6, .int (zi (((j + 1 : Nat) : Int)))), (4, .int (zi (((bsB (btC σ v b nb mm u lo) (j + 1) : Nat) : Int)))), (5, .int (zi (lsB (btC σ v b nb mm u lo) (j + 1)))), (7, .int (zi ((btC σ v b nb mm u lo) j))), (3, .int (zi (((b + mm : Nat) : Int)))), (0, .ref (a 1 0)), (1, .int (zi (v))), (2, .int (zi (zb)))]) hx hb dX3_bestTone_73 hl (k := 3) rfl (by omega) (by decide) rfl (fun ls hl => ?_)
            refine lv_goto (tgt := 23) hx hb dX3_bestTone_76 (by decide) ?_
            exact ih (j + 1) (by omega) (by omega) H locs hP hS ls (lv_sub hl [0, 2, 1, 4, 5, 6, 7] rfl)
  have hP : va_P g.1 vwCl [((a 5 0), .inr (1, [.int (zi (n)), .ref (a 6 0), .ref (a 7 0)])), ((a 6 0), .inl (g.2.1, 12, .inl (fun j9 => zi ((tuS v b u (0)) j9)))), ((a 7 0), .inl (g.2.1, 12, .inl (fun j9 => zi ((tlS v b lo (0)) j9))))] s.heap := hP
  exact loop23 _ 0 (by omega) rfl _ _ hP hS ls (lv_sub hl [0, 1, 2, 3, 4, 5, 6] rfl)
