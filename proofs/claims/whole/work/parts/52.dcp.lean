set_option maxHeartbeats 4000000 in
set_option maxRecDepth 100000 in
theorem c_X3_addCopy (l : Launch) (g : gG) (σ : SG) (a : AD) (C : Nat) (hC : σ 8 0 = (C : Int)) (hcf : C < 20) (h13 : a 1 0 ≠ a 3 0) (v : Int) (hv : zr v) (q2 a2 b2 : Nat) (n2 : Int) (u2 lo2 : Nat → Int) (hu2 : Nt u2) (hlo2 : Nt lo2) (hap : q2 ∉ [a 1 0, a 3 0] ∧ a2 ∉ [a 1 0, a 3 0] ∧ b2 ∉ [a 1 0, a 3 0]) (w : Nat → Int) (hw0 : v = 0 → w = u2) (hw1 : ¬ v = 0 → w = lo2) (nb : Nat) (hn2 : n2 = (nb : Int)) (hnb : nb ≤ 12) (sz : Nat) : WNi (Nat × Nat) l yX3_addCopy wsX3_addCopy ({ frames := 3, cells := 2, slots := 16, locals := 67 }) g [.ref (a 1 0), .int (zi (v)), .ref q2] sz [((a 1 0), .inr (3, [.ref (a 2 0), .int (zi (σ 0 0)), .ref (a 3 0), .int (zi (σ 8 0)), .ref (a 4 0), .int (zi (σ 7 0)), .ref (a 5 0)])), ((a 3 0), .inl (g.2.2.2.2, 20, .inr (.inr (.inr (.inr (csF σ a))))))] (fun H => ScP g q2 a2 b2 n2 u2 lo2 H) (fun x => [((a 1 0), .inr (3, [.ref (a 2 0), .int (zi (σ 0 0)), .ref (a 3 0), .int (zi (((C + 1 : Nat) : Int))), .ref (a 4 0), .int (zi (σ 7 0)), .ref (a 5 0)])), ((a 3 0), .inl (g.2.2.2.2, 20, .inr (.inr (.inr (.inr (va_up (csF σ a) C (some x.1))))))), (x.1, .inr (0, [.int (zi (v)), .int (zi (n2)), .ref x.2, .int (zi (0))])), (x.2, .inl (g.2.1, 12, .inl (fun j9 => zi ((mx nb w (fun _ => 0)) j9))))]) ((C : Int)) 2 16 := by
  refine ZM.ofW (cc := cX3_addCopy) (maxL := 4) (ret := (some .int)) (by decide) rfl (Nat.le_of_ble_eq_true rfl) ?_
  intro p e s m below meth c ls hx hb hr hml hown hts hlk hP hK hl hin
  obtain ⟨rfl, hP, hQ⟩ := hP
  have hP : va_P g.1 vwCl [((a 1 0), .inr (3, [.ref (a 2 0), .int (zi (σ 0 0)), .ref (a 3 0), .int (zi (σ 8 0)), .ref (a 4 0), .int (zi (σ 7 0)), .ref (a 5 0)])), ((a 3 0), .inl (g.2.2.2.2, 20, .inr (.inr (.inr (.inr (csF σ a))))))] s.heap := hP
  have hD : va_D (va_A [((a 1 0), .inr (3, [.ref (a 2 0), .int (zi (σ 0 0)), .ref (a 3 0), .int (zi (σ 8 0)), .ref (a 4 0), .int (zi (σ 7 0)), .ref (a 5 0)])), ((a 3 0), .inl (g.2.2.2.2, 20, .inr (.inr (.inr (.inr (csF σ a))))))] s.heap.size) [((a 1 0), .inr (3, [.ref (a 2 0), .int (zi (σ 0 0)), .ref (a 3 0), .int (zi (σ 8 0)), .ref (a 4 0), .int (zi (σ 7 0)), .ref (a 5 0)])), ((a 3 0), .inl (g.2.2.2.2, 20, .inr (.inr (.inr (.inr (csF σ a))))))] := z_Dn (by simp [h13])
  have hS : va_S (va_A [((a 1 0), .inr (3, [.ref (a 2 0), .int (zi (σ 0 0)), .ref (a 3 0), .int (zi (σ 8 0)), .ref (a 4 0), .int (zi (σ 7 0)), .ref (a 5 0)])), ((a 3 0), .inl (g.2.2.2.2, 20, .inr (.inr (.inr (.inr (csF σ a))))))] s.heap.size) s.heap s.heap [] := va_S.rf
  have hA : ∀ x9 : Nat, s.heap.size ≤ x9 → (va_A [((a 1 0), .inr (3, [.ref (a 2 0), .int (zi (σ 0 0)), .ref (a 3 0), .int (zi (σ 8 0)), .ref (a 4 0), .int (zi (σ 7 0)), .ref (a 5 0)])), ((a 3 0), .inl (g.2.2.2.2, 20, .inr (.inr (.inr (.inr (csF σ a))))))] s.heap.size) x9 := fun _ h => Or.inr h
  have hown : s.vm.findClass RX3 = some m.cls := hown
  have hl : lv_has ls 4 [(0, .ref (a 1 0)), (1, .int (zi (v))), (2, .ref q2)] := hl
  have hiX0 : ∀ w ∈ u_ws RX0 TX0 4, w ∈ wsX3_addCopy := by decide +kernel
  have hiX3 : ∀ w ∈ u_ws RX3 TX3 7, w ∈ wsX3_addCopy := by decide +kernel
  have nA1 : ¬ (va_A [((a 1 0), .inr (3, [.ref (a 2 0), .int (zi (σ 0 0)), .ref (a 3 0), .int (zi (σ 8 0)), .ref (a 4 0), .int (zi (σ 7 0)), .ref (a 5 0)])), ((a 3 0), .inl (g.2.2.2.2, 20, .inr (.inr (.inr (.inr (csF σ a))))))] s.heap.size) q2 := z_nA hQ.lt.1 hap.1
  have nA2 : ¬ (va_A [((a 1 0), .inr (3, [.ref (a 2 0), .int (zi (σ 0 0)), .ref (a 3 0), .int (zi (σ 8 0)), .ref (a 4 0), .int (zi (σ 7 0)), .ref (a 5 0)])), ((a 3 0), .inl (g.2.2.2.2, 20, .inr (.inr (.inr (.inr (csF σ a))))))] s.heap.size) a2 := z_nA hQ.lt.2.1 hap.2.1
  have nA3 : ¬ (va_A [((a 1 0), .inr (3, [.ref (a 2 0), .int (zi (σ 0 0)), .ref (a 3 0), .int (zi (σ 8 0)), .ref (a 4 0), .int (zi (σ 7 0)), .ref (a 5 0)])), ((a 3 0), .inl (g.2.2.2.2, 20, .inr (.inr (.inr (.inr (csF σ a))))))] s.heap.size) b2 := z_nA hQ.lt.2.2 hap.2.2
  refine lv_aload_n hx hb dX3_addCopy_0 rfl (lv_at hl 0 rfl) ?_
  refine z_get (C := RX3) (T := TX3) (N := 7) hx hb hts hiX3 hown hK (hP 0 _ rfl) rfl 3 (by decide) (hts (.fieldLink RX3 25 "HarmoniumDesk" "copyCount" "I") (by decide +kernel)) rfl rfl dX3_addCopy_1 ?_
  refine z_top (b := (C : Int)) (hC) ?_
  refine lv_istore_n (lv' := [(3, .int (zi ((C : Int)))), (0, .ref (a 1 0)), (1, .int (zi (v))), (2, .ref q2)]) hx hb dX3_addCopy_4 rfl hl (by decide) rfl (fun ls hl => ?_)
  refine lv_iload_n hx hb dX3_addCopy_5 rfl (lv_at hl 0 rfl) ?_
  refine z_if_lt (tgt := 18) hx hb dX3_addCopy_6 (by decide) (by omega) (fun h6 => ?_) (fun h6 => ?_)
  · exfalso; omega
  ·
    refine lv_iload_n hx hb dX3_addCopy_9 rfl (lv_at hl 0 rfl) ?_
    refine lv_aload_n hx hb dX3_addCopy_10 rfl (lv_at hl 1 rfl) ?_
    refine z_get (C := RX3) (T := TX3) (N := 7) hx hb hts hiX3 hown hK (hP 0 _ rfl) rfl 2 (by decide) (hts (.fieldLink RX3 21 "HarmoniumDesk" "copies" "[LHarmoniumDesk$Copy;") (by decide +kernel)) rfl rfl dX3_addCopy_11 ?_
    refine z_alen hx hb hK (hP 1 _ rfl) 3 rfl dX3_addCopy_14 ?_
    refine z_icmp_lt (tgt := 28) hx hb dX3_addCopy_15 (by decide) (by omega) (by omega) (fun h15 => ?_) (fun h15 => ?_)
    ·
      refine lv_aload_n hx hb dX3_addCopy_28 rfl (lv_at hl 1 rfl) ?_
      refine z_get (C := RX3) (T := TX3) (N := 7) hx hb hts hiX3 hown hK (hP 0 _ rfl) rfl 2 (by decide) (hts (.fieldLink RX3 21 "HarmoniumDesk" "copies" "[LHarmoniumDesk$Copy;") (by decide +kernel)) rfl rfl dX3_addCopy_29 ?_
      refine lv_iload_n hx hb dX3_addCopy_32 rfl (lv_at hl 0 rfl) ?_
      refine va_new (ci := 0) (fs := [.int (zi (0)), .int (zi (0)), .null, .int (zi (0))]) (C := RX0) (T := TX0) (N := 4) hx hb hts hiX0 tyX0 tyX0_ok hown (hts (.classLink RX3 19 RX0) (by decide +kernel)) (hts (.instantiable RX0 4) (by decide +kernel)) (hts (.initialized RX0) (by decide +kernel)) hK.1 hP hD hS hA rfl (fun j hj => by rcases (show j = 0 ∨ j = 1 ∨ j = 2 ∨ j = 3 by omega) with rfl | rfl | rfl | rfl <;> rfl) (Nat.le_of_ble_eq_true rfl) (Nat.le_of_ble_eq_true rfl) dX3_addCopy_33 (fun q33 H hP hD hS => ?_)
      have hP : va_P g.1 vwCl [((a 1 0), .inr (3, [.ref (a 2 0), .int (zi (σ 0 0)), .ref (a 3 0), .int (zi (σ 8 0)), .ref (a 4 0), .int (zi (σ 7 0)), .ref (a 5 0)])), ((a 3 0), .inl (g.2.2.2.2, 20, .inr (.inr (.inr (.inr (csF σ a)))))), (q33, .inr (0, [.int (zi (0)), .int (zi (0)), .null, .int (zi (0))]))] H := hP
      have hD : va_D (va_A [((a 1 0), .inr (3, [.ref (a 2 0), .int (zi (σ 0 0)), .ref (a 3 0), .int (zi (σ 8 0)), .ref (a 4 0), .int (zi (σ 7 0)), .ref (a 5 0)])), ((a 3 0), .inl (g.2.2.2.2, 20, .inr (.inr (.inr (.inr (csF σ a))))))] s.heap.size) [((a 1 0), .inr (3, [.ref (a 2 0), .int (zi (σ 0 0)), .ref (a 3 0), .int (zi (σ 8 0)), .ref (a 4 0), .int (zi (σ 7 0)), .ref (a 5 0)])), ((a 3 0), .inl (g.2.2.2.2, 20, .inr (.inr (.inr (.inr (csF σ a)))))), (q33, .inr (0, [.int (zi (0)), .int (zi (0)), .null, .int (zi (0))]))] := hD
      refine W.widen (k := 1) (n := 4) (by omega) (by omega) ?_
      refine lv_dup hx hb dX3_addCopy_36 rfl ?_
      refine lv_iload_n hx hb dX3_addCopy_37 rfl (lv_at hl 2 rfl) ?_
      refine lv_aload_n hx hb dX3_addCopy_38 rfl (lv_at hl 3 rfl) ?_
      have nw : s.heap.size ≤ q33 := z_new hD (i := 2) rfl (fun h9 => by
        simp only [List.map, List.mem_cons, List.not_mem_nil, or_false] at h9
        rcases h9 with h9 | h9
        · exact z_ap hD (i := 2) (j := 0) rfl rfl (by decide) h9
        · exact z_ap hD (i := 2) (j := 1) rfl rfl (by decide) h9)
      have hap9 : ∀ x, x < s.heap.size → x ∉ [q33] := fun x hx h9 => by have := List.mem_singleton.mp h9; omega
      have hS0 := hS
      refine wn_I (rest := [.ref q33, .int (zi ((C : Int))), .ref (a 3 0)]) (As := [.int (zi (v)), .ref q2]) ⟨hx, hb, hml, hown, hts⟩ (c_X0_init l g q33 v hv q2 a2 b2 n2 u2 lo2 hu2 hlo2 ⟨hap9 _ hQ.lt.1, hap9 _ hQ.lt.2.1, hap9 _ hQ.lt.2.2⟩ w hw0 hw1 nb hn2 hnb _) (cwI 2 hts ggX3_addCopy_X0_init rfl rfl rfl (hts (.initialized RX0) (by decide +kernel)) (hts (.methodLink RX3 187 yX0_init) (by decide +kernel)) (hts (.instanceMethod yX0_init) (by decide +kernel)) rfl (by decide +kernel) ⟨Nat.le_of_ble_eq_true rfl, Nat.le_of_ble_eq_true rfl⟩) (hP.sub [2] rfl) (ScP.stay hQ hS nA1 nA2 nA3) hK rfl hl.1 rfl (Nat.le_of_ble_eq_true rfl) dX3_addCopy_39 ⟨Nat.le_of_ble_eq_true rfl, Nat.le_of_ble_eq_true rfl⟩ hS (va_free hD hS hA [2] rfl) (fun u39 H1 locs hP1 hD1 hz1 hk1 hS => ?_)
      obtain ⟨hP, hD⟩ := va_join (wr := [((a 1 0), .inr (3, [.ref (a 2 0), .int (zi (σ 0 0)), .ref (a 3 0), .int (zi (σ 8 0)), .ref (a 4 0), .int (zi (σ 7 0)), .ref (a 5 0)])), ((a 3 0), .inl (g.2.2.2.2, 20, .inr (.inr (.inr (.inr (csF σ a))))))]) (w1 := [(q33, .inr (0, [.int (zi (v)), .int (zi (n2)), .ref u39, .int (zi (0))])), (u39, .inl (g.2.1, 12, .inl (fun j9 => zi ((mx nb w (fun _ => 0)) j9))))]) hP hD [2] [0, 1] rfl rfl (by decide) (by decide) hk1 (va_free hD hS0 hA [2] rfl) hP1 hD1
      generalize H1 = H at hP hS ⊢
      have hP : va_P g.1 vwCl [((a 1 0), .inr (3, [.ref (a 2 0), .int (zi (σ 0 0)), .ref (a 3 0), .int (zi (σ 8 0)), .ref (a 4 0), .int (zi (σ 7 0)), .ref (a 5 0)])), ((a 3 0), .inl (g.2.2.2.2, 20, .inr (.inr (.inr (.inr (csF σ a)))))), (q33, .inr (0, [.int (zi (v)), .int (zi (n2)), .ref u39, .int (zi (0))])), (u39, .inl (g.2.1, 12, .inl (fun j9 => zi ((mx nb w (fun _ => 0)) j9))))] H := hP
      have hD : va_D (va_A [((a 1 0), .inr (3, [.ref (a 2 0), .int (zi (σ 0 0)), .ref (a 3 0), .int (zi (σ 8 0)), .ref (a 4 0), .int (zi (σ 7 0)), .ref (a 5 0)])), ((a 3 0), .inl (g.2.2.2.2, 20, .inr (.inr (.inr (.inr (csF σ a))))))] s.heap.size) [((a 1 0), .inr (3, [.ref (a 2 0), .int (zi (σ 0 0)), .ref (a 3 0), .int (zi (σ 8 0)), .ref (a 4 0), .int (zi (σ 7 0)), .ref (a 5 0)])), ((a 3 0), .inl (g.2.2.2.2, 20, .inr (.inr (.inr (.inr (csF σ a)))))), (q33, .inr (0, [.int (zi (v)), .int (zi (n2)), .ref u39, .int (zi (0))])), (u39, .inl (g.2.1, 12, .inl (fun j9 => zi ((mx nb w (fun _ => 0)) j9))))] := hD
      refine W.widen (k := 2) (n := 16) (by omega) (by omega) ?_
      refine z_astq hx hb hK hP hD hS 1 3 2 0 rfl rfl rfl rfl (C) (by omega) (by omega) (by decide) dX3_addCopy_42 (fun H locs hP hD hS => ?_)
      have hP : va_P g.1 vwCl [((a 1 0), .inr (3, [.ref (a 2 0), .int (zi (σ 0 0)), .ref (a 3 0), .int (zi (σ 8 0)), .ref (a 4 0), .int (zi (σ 7 0)), .ref (a 5 0)])), ((a 3 0), .inl (g.2.2.2.2, 20, .inr (.inr (.inr (.inr (va_up (csF σ a) (C) (some q33))))))), (q33, .inr (0, [.int (zi (v)), .int (zi (n2)), .ref u39, .int (zi (0))])), (u39, .inl (g.2.1, 12, .inl (fun j9 => zi ((mx nb w (fun _ => 0)) j9))))] H := hP
      have hD : va_D (va_A [((a 1 0), .inr (3, [.ref (a 2 0), .int (zi (σ 0 0)), .ref (a 3 0), .int (zi (σ 8 0)), .ref (a 4 0), .int (zi (σ 7 0)), .ref (a 5 0)])), ((a 3 0), .inl (g.2.2.2.2, 20, .inr (.inr (.inr (.inr (csF σ a))))))] s.heap.size) [((a 1 0), .inr (3, [.ref (a 2 0), .int (zi (σ 0 0)), .ref (a 3 0), .int (zi (σ 8 0)), .ref (a 4 0), .int (zi (σ 7 0)), .ref (a 5 0)])), ((a 3 0), .inl (g.2.2.2.2, 20, .inr (.inr (.inr (.inr (va_up (csF σ a) (C) (some q33))))))), (q33, .inr (0, [.int (zi (v)), .int (zi (n2)), .ref u39, .int (zi (0))])), (u39, .inl (g.2.1, 12, .inl (fun j9 => zi ((mx nb w (fun _ => 0)) j9))))] := hD
      refine lv_aload_n hx hb dX3_addCopy_43 rfl (lv_at hl 1 rfl) ?_
      refine lv_dup hx hb dX3_addCopy_44 rfl ?_
      refine z_get (C := RX3) (T := TX3) (N := 7) hx hb hts hiX3 hown hK (hP 0 _ rfl) rfl 3 (by decide) (hts (.fieldLink RX3 25 "HarmoniumDesk" "copyCount" "I") (by decide +kernel)) rfl rfl dX3_addCopy_45 ?_
      refine z_top (b := (C : Int)) (hC) ?_
      refine z_iconst hx hb dX3_addCopy_48 ?_
      refine z_iadd hx hb dX3_addCopy_49 ?_
      refine z_top (b := ((C + 1 : Nat) : Int)) (by omega) ?_
      refine z_put (v := .int (zi (((C + 1 : Nat) : Int)))) hx hb hts hiX3 tyX3 tyX3_ok nmX3 hown hK hP hD hS 0 rfl rfl 3 (by decide) (hts (.fieldLink RX3 25 "HarmoniumDesk" "copyCount" "I") (by decide +kernel)) rfl (Or.inl rfl) rfl rfl (Nat.le_of_ble_eq_true rfl) dX3_addCopy_50 (fun H locs hP hD hS => ?_)
      have hP : va_P g.1 vwCl [((a 1 0), .inr (3, [.ref (a 2 0), .int (zi (σ 0 0)), .ref (a 3 0), .int (zi (((C + 1 : Nat) : Int))), .ref (a 4 0), .int (zi (σ 7 0)), .ref (a 5 0)])), ((a 3 0), .inl (g.2.2.2.2, 20, .inr (.inr (.inr (.inr (va_up (csF σ a) (C) (some q33))))))), (q33, .inr (0, [.int (zi (v)), .int (zi (n2)), .ref u39, .int (zi (0))])), (u39, .inl (g.2.1, 12, .inl (fun j9 => zi ((mx nb w (fun _ => 0)) j9))))] H := hP
      have hD : va_D (va_A [((a 1 0), .inr (3, [.ref (a 2 0), .int (zi (σ 0 0)), .ref (a 3 0), .int (zi (σ 8 0)), .ref (a 4 0), .int (zi (σ 7 0)), .ref (a 5 0)])), ((a 3 0), .inl (g.2.2.2.2, 20, .inr (.inr (.inr (.inr (csF σ a))))))] s.heap.size) [((a 1 0), .inr (3, [.ref (a 2 0), .int (zi (σ 0 0)), .ref (a 3 0), .int (zi (((C + 1 : Nat) : Int))), .ref (a 4 0), .int (zi (σ 7 0)), .ref (a 5 0)])), ((a 3 0), .inl (g.2.2.2.2, 20, .inr (.inr (.inr (.inr (va_up (csF σ a) (C) (some q33))))))), (q33, .inr (0, [.int (zi (v)), .int (zi (n2)), .ref u39, .int (zi (0))])), (u39, .inl (g.2.1, 12, .inl (fun j9 => zi ((mx nb w (fun _ => 0)) j9))))] := hD
      refine lv_iload_n hx hb dX3_addCopy_53 rfl (lv_at hl 0 rfl) ?_
      exact z_wniret (q33, u39) hx hb hr hlk dX3_addCopy_54 (rfl) hP hD hS
    · exfalso; omega
