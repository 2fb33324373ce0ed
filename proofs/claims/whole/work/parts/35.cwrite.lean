theorem va_fr3 {a0 a1 a2 : Nat} {e0 e1 e2 e0' e1' e2' : va_E} {sz sz' : Nat} (h : sz' ≤ sz) : ∀ q, va_A [(a0, e0), (a1, e1), (a2, e2)] sz q → va_A [(a0, e0'), (a1, e1'), (a2, e2')] sz' q := by
  rintro q (⟨k, e, hk⟩ | hq)
  · match k, hk with
    | 0, hk => cases hk; exact Or.inl ⟨0, e0', rfl⟩
    | 1, hk => cases hk; exact Or.inl ⟨1, e1', rfl⟩
    | 2, hk => cases hk; exact Or.inl ⟨2, e2', rfl⟩
    | k + 3, hk => simp at hk
  · exact Or.inr (Nat.le_trans h hq)
set_option maxHeartbeats 4000000 in
set_option maxRecDepth 100000 in
/-- a note is put -/
theorem c_X1_setTone (l : Launch) (g : gG) (q a b : Nat) (n : Int) (u lo : Nat → Int) (hd3 : D3s q a b) (v : Int) (hv : zr v) (k : Nat) (hk : k < 12) (z : Int) (hz : z = (k : Int)) (t : Int) (u9 lo9 : Nat → Int) (hv0 : v = 0 → u9 = va_up u k t ∧ lo9 = lo) (hv1 : ¬ v = 0 → u9 = u ∧ lo9 = va_up lo k t) (sz : Nat) : WV l yX1_setTone wsX1_setTone ({ frames := 0, cells := 0, slots := 0, locals := 0 }) g [.ref q, .int (zi (v)), .int (zi (z)), .int (zi (t))] sz [(q, .inr (1, [.int (zi (n)), .ref a, .ref b])), (a, .inl (g.2.1, 12, .inl (fun j9 => zi ((u) j9)))), (b, .inl (g.2.1, 12, .inl (fun j9 => zi ((lo) j9))))] (fun _ => True) ([(q, .inr (1, [.int (zi (n)), .ref a, .ref b])), (a, .inl (g.2.1, 12, .inl (fun j9 => zi ((u9) j9)))), (b, .inl (g.2.1, 12, .inl (fun j9 => zi ((lo9) j9))))]) := by
  refine ZM.ofW (cc := cX1_setTone) (maxL := 5) (ret := none) (by decide) rfl (Nat.le_of_ble_eq_true rfl) ?_
  intro p e s m below meth c ls hx hb hr hml hown hts hlk hP hK hl hin
  obtain ⟨rfl, hP, hQ⟩ := hP
  have hP : va_P g.1 vwCl [(q, .inr (1, [.int (zi (n)), .ref a, .ref b])), (a, .inl (g.2.1, 12, .inl (fun j9 => zi ((u) j9)))), (b, .inl (g.2.1, 12, .inl (fun j9 => zi ((lo) j9))))] s.heap := hP
  have hD : va_D (va_A [(q, .inr (1, [.int (zi (n)), .ref a, .ref b])), (a, .inl (g.2.1, 12, .inl (fun j9 => zi ((u) j9)))), (b, .inl (g.2.1, 12, .inl (fun j9 => zi ((lo) j9))))] s.heap.size) [(q, .inr (1, [.int (zi (n)), .ref a, .ref b])), (a, .inl (g.2.1, 12, .inl (fun j9 => zi ((u) j9)))), (b, .inl (g.2.1, 12, .inl (fun j9 => zi ((lo) j9))))] := z_Dn (D3s.n hd3)
  have hS : va_S (va_A [(q, .inr (1, [.int (zi (n)), .ref a, .ref b])), (a, .inl (g.2.1, 12, .inl (fun j9 => zi ((u) j9)))), (b, .inl (g.2.1, 12, .inl (fun j9 => zi ((lo) j9))))] s.heap.size) s.heap s.heap [] := va_S.rf
  have hA : ∀ x9 : Nat, s.heap.size ≤ x9 → (va_A [(q, .inr (1, [.int (zi (n)), .ref a, .ref b])), (a, .inl (g.2.1, 12, .inl (fun j9 => zi ((u) j9)))), (b, .inl (g.2.1, 12, .inl (fun j9 => zi ((lo) j9))))] s.heap.size) x9 := fun _ h => Or.inr h
  have hown : s.vm.findClass RX1 = some m.cls := hown
  have hl : lv_has ls 5 [(0, .ref q), (1, .int (zi (v))), (2, .int (zi (z))), (3, .int (zi (t)))] := hl
  have hiX1 : ∀ w ∈ u_ws RX1 TX1 3, w ∈ wsX1_setTone := by decide +kernel
  refine lv_iload_n hx hb dX1_setTone_0 rfl (lv_at hl 1 rfl) ?_
  refine z_if_ne (tgt := 11) hx hb dX1_setTone_1 (by decide) (by omega) (fun h1 => ?_) (fun h1 => ?_)
  ·
    refine lv_aload_n hx hb dX1_setTone_11 rfl (lv_at hl 0 rfl) ?_
    refine z_get (C := RX1) (T := TX1) (N := 3) hx hb hts hiX1 hown hK (hP 0 _ rfl) rfl 2 (by decide) (hts (.fieldLink RX1 19 "HarmoniumDesk$Score" "lower" "[I") (by decide +kernel)) rfl rfl dX1_setTone_12 ?_
    refine lv_astore (lv' := [(4, .ref b), (0, .ref q), (1, .int (zi (v))), (2, .int (zi (z))), (3, .int (zi (t)))]) hx hb dX1_setTone_15 hl (by decide) rfl (fun ls hl => ?_)
    refine lv_iload_n hx hb dX1_setTone_17 rfl (lv_at hl 3 rfl) ?_
    refine z_if_lt (tgt := 33) hx hb dX1_setTone_18 (by decide) (by omega) (fun h18 => ?_) (fun h18 => ?_)
    · exfalso; omega
    ·
      refine lv_iload_n hx hb dX1_setTone_21 rfl (lv_at hl 3 rfl) ?_
      refine lv_aload hx hb dX1_setTone_22 (lv_at hl 0 rfl) ?_
      refine z_alen hx hb hK (hP 2 _ rfl) 0 rfl dX1_setTone_24 ?_
      refine z_icmp_ge (tgt := 33) hx hb dX1_setTone_25 (by decide) (by omega) (by omega) (fun h25 => ?_) (fun h25 => ?_)
      · exfalso; omega
      ·
        refine lv_aload hx hb dX1_setTone_28 (lv_at hl 0 rfl) ?_
        refine lv_iload_n hx hb dX1_setTone_30 rfl (lv_at hl 3 rfl) ?_
        refine lv_iload_n hx hb dX1_setTone_31 rfl (lv_at hl 4 rfl) ?_
        refine z_iast (f := lo) (x := t) hx hb hK hP hD hS 2 rfl (k) (by omega) (by omega) (by decide) dX1_setTone_32 (fun H locs hP hD hS => ?_)
        have hP : va_P g.1 vwCl [(q, .inr (1, [.int (zi (n)), .ref a, .ref b])), (a, .inl (g.2.1, 12, .inl (fun j9 => zi ((u) j9)))), (b, .inl (g.2.1, 12, .inl (fun j9 => zi ((va_up (lo) (k) (t)) j9))))] H := hP
        have hD : va_D (va_A [(q, .inr (1, [.int (zi (n)), .ref a, .ref b])), (a, .inl (g.2.1, 12, .inl (fun j9 => zi ((u) j9)))), (b, .inl (g.2.1, 12, .inl (fun j9 => zi ((lo) j9))))] s.heap.size) [(q, .inr (1, [.int (zi (n)), .ref a, .ref b])), (a, .inl (g.2.1, 12, .inl (fun j9 => zi ((u) j9)))), (b, .inl (g.2.1, 12, .inl (fun j9 => zi ((va_up (lo) (k) (t)) j9))))] := hD
        exact z_wvret hx hb hr hlk dX1_setTone_33 (by obtain ⟨e1, e2⟩ := hv1 (by omega); rw [e1, e2]; exact hP) hS
  ·
    refine lv_aload_n hx hb dX1_setTone_4 rfl (lv_at hl 0 rfl) ?_
    refine z_get (C := RX1) (T := TX1) (N := 3) hx hb hts hiX1 hown hK (hP 0 _ rfl) rfl 1 (by decide) (hts (.fieldLink RX1 15 "HarmoniumDesk$Score" "upper" "[I") (by decide +kernel)) rfl rfl dX1_setTone_5 ?_
    refine lv_goto (tgt := 15) hx hb dX1_setTone_8 (by decide) ?_
    refine lv_astore (lv' := [(4, .ref a), (0, .ref q), (1, .int (zi (v))), (2, .int (zi (z))), (3, .int (zi (t)))]) hx hb dX1_setTone_15 hl (by decide) rfl (fun ls hl => ?_)
    refine lv_iload_n hx hb dX1_setTone_17 rfl (lv_at hl 3 rfl) ?_
    refine z_if_lt (tgt := 33) hx hb dX1_setTone_18 (by decide) (by omega) (fun h18 => ?_) (fun h18 => ?_)
    · exfalso; omega
    ·
      refine lv_iload_n hx hb dX1_setTone_21 rfl (lv_at hl 3 rfl) ?_
      refine lv_aload hx hb dX1_setTone_22 (lv_at hl 0 rfl) ?_
      refine z_alen hx hb hK (hP 1 _ rfl) 0 rfl dX1_setTone_24 ?_
      refine z_icmp_ge (tgt := 33) hx hb dX1_setTone_25 (by decide) (by omega) (by omega) (fun h25 => ?_) (fun h25 => ?_)
      · exfalso; omega
      ·
        refine lv_aload hx hb dX1_setTone_28 (lv_at hl 0 rfl) ?_
        refine lv_iload_n hx hb dX1_setTone_30 rfl (lv_at hl 3 rfl) ?_
        refine lv_iload_n hx hb dX1_setTone_31 rfl (lv_at hl 4 rfl) ?_
        refine z_iast (f := u) (x := t) hx hb hK hP hD hS 1 rfl (k) (by omega) (by omega) (by decide) dX1_setTone_32 (fun H locs hP hD hS => ?_)
        have hP : va_P g.1 vwCl [(q, .inr (1, [.int (zi (n)), .ref a, .ref b])), (a, .inl (g.2.1, 12, .inl (fun j9 => zi ((va_up (u) (k) (t)) j9)))), (b, .inl (g.2.1, 12, .inl (fun j9 => zi ((lo) j9))))] H := hP
        have hD : va_D (va_A [(q, .inr (1, [.int (zi (n)), .ref a, .ref b])), (a, .inl (g.2.1, 12, .inl (fun j9 => zi ((u) j9)))), (b, .inl (g.2.1, 12, .inl (fun j9 => zi ((lo) j9))))] s.heap.size) [(q, .inr (1, [.int (zi (n)), .ref a, .ref b])), (a, .inl (g.2.1, 12, .inl (fun j9 => zi ((va_up (u) (k) (t)) j9)))), (b, .inl (g.2.1, 12, .inl (fun j9 => zi ((lo) j9))))] := hD
        exact z_wvret hx hb hr hlk dX1_setTone_33 (by obtain ⟨e1, e2⟩ := hv0 (by omega); rw [e1, e2]; exact hP) hS

set_option maxHeartbeats 4000000 in
set_option maxRecDepth 100000 in
theorem c_X1_takeBar (l : Launch) (g : gG) (q a b : Nat) (n : Int) (u lo : Nat → Int) (hd3 : D3s q a b) (q2 a2 b2 : Nat) (n2 : Int) (u2 lo2 : Nat → Int) (hu2 : Nt u2) (hlo2 : Nt lo2) (hap : q2 ∉ [q, a, b] ∧ a2 ∉ [q, a, b] ∧ b2 ∉ [q, a, b]) (k : Nat) (hk : k < 12) (z : Int) (hz : z = (k : Int)) (sz : Nat) : WV l yX1_takeBar wsX1_takeBar ({ frames := 1, cells := 0, slots := 0, locals := 24 }) g [.ref q, .ref q2, .int (zi (z))] sz [(q, .inr (1, [.int (zi (n)), .ref a, .ref b])), (a, .inl (g.2.1, 12, .inl (fun j9 => zi ((u) j9)))), (b, .inl (g.2.1, 12, .inl (fun j9 => zi ((lo) j9))))] (fun H => ScP g q2 a2 b2 n2 u2 lo2 H) ([(q, .inr (1, [.int (zi (n)), .ref a, .ref b])), (a, .inl (g.2.1, 12, .inl (fun j9 => zi ((va_up u k (u2 k)) j9)))), (b, .inl (g.2.1, 12, .inl (fun j9 => zi ((va_up lo k (lo2 k)) j9))))]) := by
  refine ZM.ofW (cc := cX1_takeBar) (maxL := 3) (ret := none) (by decide) rfl (Nat.le_of_ble_eq_true rfl) ?_
  intro p e s m below meth c ls hx hb hr hml hown hts hlk hP hK hl hin
  obtain ⟨rfl, hP, hQ⟩ := hP
  have hP : va_P g.1 vwCl [(q, .inr (1, [.int (zi (n)), .ref a, .ref b])), (a, .inl (g.2.1, 12, .inl (fun j9 => zi ((u) j9)))), (b, .inl (g.2.1, 12, .inl (fun j9 => zi ((lo) j9))))] s.heap := hP
  have hD : va_D (va_A [(q, .inr (1, [.int (zi (n)), .ref a, .ref b])), (a, .inl (g.2.1, 12, .inl (fun j9 => zi ((u) j9)))), (b, .inl (g.2.1, 12, .inl (fun j9 => zi ((lo) j9))))] s.heap.size) [(q, .inr (1, [.int (zi (n)), .ref a, .ref b])), (a, .inl (g.2.1, 12, .inl (fun j9 => zi ((u) j9)))), (b, .inl (g.2.1, 12, .inl (fun j9 => zi ((lo) j9))))] := z_Dn (D3s.n hd3)
  have hS : va_S (va_A [(q, .inr (1, [.int (zi (n)), .ref a, .ref b])), (a, .inl (g.2.1, 12, .inl (fun j9 => zi ((u) j9)))), (b, .inl (g.2.1, 12, .inl (fun j9 => zi ((lo) j9))))] s.heap.size) s.heap s.heap [] := va_S.rf
  have hA : ∀ x9 : Nat, s.heap.size ≤ x9 → (va_A [(q, .inr (1, [.int (zi (n)), .ref a, .ref b])), (a, .inl (g.2.1, 12, .inl (fun j9 => zi ((u) j9)))), (b, .inl (g.2.1, 12, .inl (fun j9 => zi ((lo) j9))))] s.heap.size) x9 := fun _ h => Or.inr h
  have hown : s.vm.findClass RX1 = some m.cls := hown
  have hl : lv_has ls 3 [(0, .ref q), (1, .ref q2), (2, .int (zi (z)))] := hl
  have nA1 : ¬ (va_A [(q, .inr (1, [.int (zi (n)), .ref a, .ref b])), (a, .inl (g.2.1, 12, .inl (fun j9 => zi ((u) j9)))), (b, .inl (g.2.1, 12, .inl (fun j9 => zi ((lo) j9))))] s.heap.size) q2 := z_nA hQ.lt.1 hap.1
  have nA2 : ¬ (va_A [(q, .inr (1, [.int (zi (n)), .ref a, .ref b])), (a, .inl (g.2.1, 12, .inl (fun j9 => zi ((u) j9)))), (b, .inl (g.2.1, 12, .inl (fun j9 => zi ((lo) j9))))] s.heap.size) a2 := z_nA hQ.lt.2.1 hap.2.1
  have nA3 : ¬ (va_A [(q, .inr (1, [.int (zi (n)), .ref a, .ref b])), (a, .inl (g.2.1, 12, .inl (fun j9 => zi ((u) j9)))), (b, .inl (g.2.1, 12, .inl (fun j9 => zi ((lo) j9))))] s.heap.size) b2 := z_nA hQ.lt.2.2 hap.2.2
  have h1 := hu2 k
  have h2 := hlo2 k
  refine lv_aload_n hx hb dX1_takeBar_0 rfl (lv_at hl 0 rfl) ?_
  refine z_iconst hx hb dX1_takeBar_1 ?_
  refine lv_iload_n hx hb dX1_takeBar_2 rfl (lv_at hl 2 rfl) ?_
  refine lv_aload_n hx hb dX1_takeBar_3 rfl (lv_at hl 1 rfl) ?_
  refine z_iconst hx hb dX1_takeBar_4 ?_
  refine lv_iload_n hx hb dX1_takeBar_5 rfl (lv_at hl 2 rfl) ?_
  refine ro_V (rest := [.int (zi (z)), .int (zi (0)), .ref q]) (As := [.int (zi (0)), .int (zi (z))]) ⟨hx, hb, hml, hown, hts⟩ (c_X1_tone l g q2 a2 b2 n2 u2 lo2 hu2 hlo2 (0) (by omega) k (by omega) (z) (by omega) (u2 (k)) (fun _ => rfl) (fun h => absurd rfl h)) (cwV 2 hts gX1_takeBar_X1_tone rfl rfl rfl (by decide +kernel) ⟨Nat.le_of_ble_eq_true rfl, Nat.le_of_ble_eq_true rfl⟩) (z_recv hK (ScP.stay hQ hS nA1 nA2 nA3).1 rfl) (ScP.stay hQ hS nA1 nA2 nA3) hK rfl hl.1 rfl (Nat.le_of_ble_eq_true rfl) dX1_takeBar_6 ⟨Nat.le_of_ble_eq_true rfl, Nat.le_of_ble_eq_true rfl⟩ ?_
  refine wv_V (rest := []) (As := [.int (zi (0)), .int (zi (z)), .int (zi (u2 (k)))]) ⟨hx, hb, hml, hown, hts⟩ (c_X1_setTone l g q a b (n) (u) (lo) hd3 (0) (by omega) k (by omega) (z) (by omega) (u2 (k)) (va_up (u) (k) (u2 (k))) (lo) (fun _ => ⟨rfl, rfl⟩) (fun h => absurd rfl h) _) (cwV 3 hts gX1_takeBar_X1_setTone rfl rfl rfl (by decide +kernel) ⟨Nat.le_of_ble_eq_true rfl, Nat.le_of_ble_eq_true rfl⟩) (z_recv hK (hP 0 _ rfl) rfl) hP trivial hK rfl hl.1 rfl (Nat.le_of_ble_eq_true rfl) dX1_takeBar_9 ⟨Nat.le_of_ble_eq_true rfl, Nat.le_of_ble_eq_true rfl⟩ hS (va_fr3 hS.1) (fun H1 locs hP1 hz1 hk1 hS => ?_)
  have hP := hP1
  have hD : va_D (va_A [(q, .inr (1, [.int (zi (n)), .ref a, .ref b])), (a, .inl (g.2.1, 12, .inl (fun j9 => zi ((u) j9)))), (b, .inl (g.2.1, 12, .inl (fun j9 => zi ((lo) j9))))] s.heap.size) [(q, .inr (1, [.int (zi (n)), .ref a, .ref b])), (a, .inl (g.2.1, 12, .inl (fun j9 => zi ((va_up (u) (k) (u2 (k))) j9)))), (b, .inl (g.2.1, 12, .inl (fun j9 => zi ((lo) j9))))] := z_D hD rfl
  generalize H1 = H at hP hS ⊢
  have hP : va_P g.1 vwCl [(q, .inr (1, [.int (zi (n)), .ref a, .ref b])), (a, .inl (g.2.1, 12, .inl (fun j9 => zi ((va_up (u) (k) (u2 (k))) j9)))), (b, .inl (g.2.1, 12, .inl (fun j9 => zi ((lo) j9))))] H := hP
  have hD : va_D (va_A [(q, .inr (1, [.int (zi (n)), .ref a, .ref b])), (a, .inl (g.2.1, 12, .inl (fun j9 => zi ((u) j9)))), (b, .inl (g.2.1, 12, .inl (fun j9 => zi ((lo) j9))))] s.heap.size) [(q, .inr (1, [.int (zi (n)), .ref a, .ref b])), (a, .inl (g.2.1, 12, .inl (fun j9 => zi ((va_up (u) (k) (u2 (k))) j9)))), (b, .inl (g.2.1, 12, .inl (fun j9 => zi ((lo) j9))))] := hD
  refine lv_aload_n hx hb dX1_takeBar_12 rfl (lv_at hl 0 rfl) ?_
  refine z_iconst hx hb dX1_takeBar_13 ?_
  refine lv_iload_n hx hb dX1_takeBar_14 rfl (lv_at hl 2 rfl) ?_
  refine lv_aload_n hx hb dX1_takeBar_15 rfl (lv_at hl 1 rfl) ?_
  refine z_iconst hx hb dX1_takeBar_16 ?_
  refine lv_iload_n hx hb dX1_takeBar_17 rfl (lv_at hl 2 rfl) ?_
  refine ro_V (rest := [.int (zi (z)), .int (zi (1)), .ref q]) (As := [.int (zi (1)), .int (zi (z))]) ⟨hx, hb, hml, hown, hts⟩ (c_X1_tone l g q2 a2 b2 n2 u2 lo2 hu2 hlo2 (1) (by omega) k (by omega) (z) (by omega) (lo2 (k)) (fun h => absurd h (by decide)) (fun _ => rfl)) (cwV 2 hts gX1_takeBar_X1_tone rfl rfl rfl (by decide +kernel) ⟨Nat.le_of_ble_eq_true rfl, Nat.le_of_ble_eq_true rfl⟩) (z_recv hK (ScP.stay hQ hS nA1 nA2 nA3).1 rfl) (ScP.stay hQ hS nA1 nA2 nA3) hK rfl hl.1 rfl (Nat.le_of_ble_eq_true rfl) dX1_takeBar_18 ⟨Nat.le_of_ble_eq_true rfl, Nat.le_of_ble_eq_true rfl⟩ ?_
  refine wv_V (rest := []) (As := [.int (zi (1)), .int (zi (z)), .int (zi (lo2 (k)))]) ⟨hx, hb, hml, hown, hts⟩ (c_X1_setTone l g q a b (n) (va_up (u) (k) (u2 (k))) (lo) hd3 (1) (by omega) k (by omega) (z) (by omega) (lo2 (k)) (va_up (u) (k) (u2 (k))) (va_up (lo) (k) (lo2 (k))) (fun h => absurd h (by decide)) (fun _ => ⟨rfl, rfl⟩) _) (cwV 3 hts gX1_takeBar_X1_setTone rfl rfl rfl (by decide +kernel) ⟨Nat.le_of_ble_eq_true rfl, Nat.le_of_ble_eq_true rfl⟩) (z_recv hK (hP 0 _ rfl) rfl) hP trivial hK rfl hl.1 rfl (Nat.le_of_ble_eq_true rfl) dX1_takeBar_21 ⟨Nat.le_of_ble_eq_true rfl, Nat.le_of_ble_eq_true rfl⟩ hS (va_fr3 hS.1) (fun H1 locs hP1 hz1 hk1 hS => ?_)
  have hP := hP1
  have hD : va_D (va_A [(q, .inr (1, [.int (zi (n)), .ref a, .ref b])), (a, .inl (g.2.1, 12, .inl (fun j9 => zi ((u) j9)))), (b, .inl (g.2.1, 12, .inl (fun j9 => zi ((lo) j9))))] s.heap.size) [(q, .inr (1, [.int (zi (n)), .ref a, .ref b])), (a, .inl (g.2.1, 12, .inl (fun j9 => zi ((va_up (u) (k) (u2 (k))) j9)))), (b, .inl (g.2.1, 12, .inl (fun j9 => zi ((va_up (lo) (k) (lo2 (k))) j9))))] := z_D hD rfl
  generalize H1 = H at hP hS ⊢
  have hP : va_P g.1 vwCl [(q, .inr (1, [.int (zi (n)), .ref a, .ref b])), (a, .inl (g.2.1, 12, .inl (fun j9 => zi ((va_up (u) (k) (u2 (k))) j9)))), (b, .inl (g.2.1, 12, .inl (fun j9 => zi ((va_up (lo) (k) (lo2 (k))) j9))))] H := hP
  have hD : va_D (va_A [(q, .inr (1, [.int (zi (n)), .ref a, .ref b])), (a, .inl (g.2.1, 12, .inl (fun j9 => zi ((u) j9)))), (b, .inl (g.2.1, 12, .inl (fun j9 => zi ((lo) j9))))] s.heap.size) [(q, .inr (1, [.int (zi (n)), .ref a, .ref b])), (a, .inl (g.2.1, 12, .inl (fun j9 => zi ((va_up (u) (k) (u2 (k))) j9)))), (b, .inl (g.2.1, 12, .inl (fun j9 => zi ((va_up (lo) (k) (lo2 (k))) j9))))] := hD
  exact z_wvret hx hb hr hlk dX1_takeBar_24 hP hS

set_option maxHeartbeats 4000000 in
set_option maxRecDepth 100000 in
theorem c_X1_takeAll (l : Launch) (g : gG) (q a b : Nat) (n : Int) (u lo : Nat → Int) (hd3 : D3s q a b) (q2 a2 b2 : Nat) (n2 : Int) (u2 lo2 : Nat → Int) (hu2 : Nt u2) (hlo2 : Nt lo2) (hap : q2 ∉ [q, a, b] ∧ a2 ∉ [q, a, b] ∧ b2 ∉ [q, a, b]) (nb : Nat) (hn2 : n2 = (nb : Int)) (hnb : nb ≤ 12) (sz : Nat) : WV l yX1_takeAll wsX1_takeAll ({ frames := 2, cells := 0, slots := 0, locals := 46 }) g [.ref q, .ref q2] sz [(q, .inr (1, [.int (zi (n)), .ref a, .ref b])), (a, .inl (g.2.1, 12, .inl (fun j9 => zi ((u) j9)))), (b, .inl (g.2.1, 12, .inl (fun j9 => zi ((lo) j9))))] (fun H => ScP g q2 a2 b2 n2 u2 lo2 H) ([(q, .inr (1, [.int (zi (n2)), .ref a, .ref b])), (a, .inl (g.2.1, 12, .inl (fun j9 => zi ((mx nb u2 u) j9)))), (b, .inl (g.2.1, 12, .inl (fun j9 => zi ((mx nb lo2 lo) j9))))]) := by
  refine ZM.ofW (cc := cX1_takeAll) (maxL := 3) (ret := none) (by decide) rfl (Nat.le_of_ble_eq_true rfl) ?_
  intro p e s m below meth c ls hx hb hr hml hown hts hlk hP hK hl hin
  obtain ⟨rfl, hP, hQ⟩ := hP
  have hP : va_P g.1 vwCl [(q, .inr (1, [.int (zi (n)), .ref a, .ref b])), (a, .inl (g.2.1, 12, .inl (fun j9 => zi ((u) j9)))), (b, .inl (g.2.1, 12, .inl (fun j9 => zi ((lo) j9))))] s.heap := hP
  have hD : va_D (va_A [(q, .inr (1, [.int (zi (n)), .ref a, .ref b])), (a, .inl (g.2.1, 12, .inl (fun j9 => zi ((u) j9)))), (b, .inl (g.2.1, 12, .inl (fun j9 => zi ((lo) j9))))] s.heap.size) [(q, .inr (1, [.int (zi (n)), .ref a, .ref b])), (a, .inl (g.2.1, 12, .inl (fun j9 => zi ((u) j9)))), (b, .inl (g.2.1, 12, .inl (fun j9 => zi ((lo) j9))))] := z_Dn (D3s.n hd3)
  have hS : va_S (va_A [(q, .inr (1, [.int (zi (n)), .ref a, .ref b])), (a, .inl (g.2.1, 12, .inl (fun j9 => zi ((u) j9)))), (b, .inl (g.2.1, 12, .inl (fun j9 => zi ((lo) j9))))] s.heap.size) s.heap s.heap [] := va_S.rf
  have hA : ∀ x9 : Nat, s.heap.size ≤ x9 → (va_A [(q, .inr (1, [.int (zi (n)), .ref a, .ref b])), (a, .inl (g.2.1, 12, .inl (fun j9 => zi ((u) j9)))), (b, .inl (g.2.1, 12, .inl (fun j9 => zi ((lo) j9))))] s.heap.size) x9 := fun _ h => Or.inr h
  have hown : s.vm.findClass RX1 = some m.cls := hown
  have hl : lv_has ls 3 [(0, .ref q), (1, .ref q2)] := hl
  have hiX1 : ∀ w ∈ u_ws RX1 TX1 3, w ∈ wsX1_takeAll := by decide +kernel
  have nA1 : ¬ (va_A [(q, .inr (1, [.int (zi (n)), .ref a, .ref b])), (a, .inl (g.2.1, 12, .inl (fun j9 => zi ((u) j9)))), (b, .inl (g.2.1, 12, .inl (fun j9 => zi ((lo) j9))))] s.heap.size) q2 := z_nA hQ.lt.1 hap.1
  have nA2 : ¬ (va_A [(q, .inr (1, [.int (zi (n)), .ref a, .ref b])), (a, .inl (g.2.1, 12, .inl (fun j9 => zi ((u) j9)))), (b, .inl (g.2.1, 12, .inl (fun j9 => zi ((lo) j9))))] s.heap.size) a2 := z_nA hQ.lt.2.1 hap.2.1
  have nA3 : ¬ (va_A [(q, .inr (1, [.int (zi (n)), .ref a, .ref b])), (a, .inl (g.2.1, 12, .inl (fun j9 => zi ((u) j9)))), (b, .inl (g.2.1, 12, .inl (fun j9 => zi ((lo) j9))))] s.heap.size) b2 := z_nA hQ.lt.2.2 hap.2.2
  refine lv_aload_n hx hb dX1_takeAll_0 rfl (lv_at hl 0 rfl) ?_
  refine lv_aload_n hx hb dX1_takeAll_1 rfl (lv_at hl 1 rfl) ?_
  refine z_get (C := RX1) (T := TX1) (N := 3) hx hb hts hiX1 hown hK (ScP.stay hQ hS nA1 nA2 nA3).1 rfl 0 (by decide) (hts (.fieldLink RX1 9 "HarmoniumDesk$Score" "bars" "I") (by decide +kernel)) rfl rfl dX1_takeAll_2 ?_
  refine z_put (v := .int (zi (n2))) hx hb hts hiX1 tyX1 tyX1_ok nmX1 hown hK hP hD hS 0 rfl rfl 0 (by decide) (hts (.fieldLink RX1 9 "HarmoniumDesk$Score" "bars" "I") (by decide +kernel)) rfl (Or.inl rfl) rfl rfl (Nat.le_of_ble_eq_true rfl) dX1_takeAll_5 (fun H locs hP hD hS => ?_)
  have hP : va_P g.1 vwCl [(q, .inr (1, [.int (zi (n2)), .ref a, .ref b])), (a, .inl (g.2.1, 12, .inl (fun j9 => zi ((u) j9)))), (b, .inl (g.2.1, 12, .inl (fun j9 => zi ((lo) j9))))] H := hP
  have hD : va_D (va_A [(q, .inr (1, [.int (zi (n)), .ref a, .ref b])), (a, .inl (g.2.1, 12, .inl (fun j9 => zi ((u) j9)))), (b, .inl (g.2.1, 12, .inl (fun j9 => zi ((lo) j9))))] s.heap.size) [(q, .inr (1, [.int (zi (n2)), .ref a, .ref b])), (a, .inl (g.2.1, 12, .inl (fun j9 => zi ((u) j9)))), (b, .inl (g.2.1, 12, .inl (fun j9 => zi ((lo) j9))))] := hD
  refine z_iconst hx hb dX1_takeAll_8 ?_
  refine z_top (b := ((0 : Nat) : Int)) (rfl) ?_
  refine lv_istore_n (lv' := [(2, .int (zi (((0 : Nat) : Int)))), (0, .ref q), (1, .ref q2)]) hx hb dX1_takeAll_9 rfl hl (by decide) rfl (fun ls hl => ?_)
  have loop10 : ∀ (d j : Nat), j ≤ nb → nb - j = d → ∀ (H : Heap) (locs : List Loc), va_P g.1 vwCl [(q, .inr (1, [.int (zi (n2)), .ref a, .ref b])), (a, .inl (g.2.1, 12, .inl (fun j9 => zi ((mx j u2 u) j9)))), (b, .inl (g.2.1, 12, .inl (fun j9 => zi ((mx j lo2 lo) j9))))] H → va_S (va_A [(q, .inr (1, [.int (zi (n)), .ref a, .ref b])), (a, .inl (g.2.1, 12, .inl (fun j9 => zi ((u) j9)))), (b, .inl (g.2.1, 12, .inl (fun j9 => zi ((lo) j9))))] s.heap.size) s.heap H locs → ∀ ls : Array Slot, lv_has ls 3 [(2, .int (zi ((j : Int)))), (0, .ref q), (1, .ref q2)] → W p l e ({ frames := 2, cells := 0, slots := 0, locals := 46 }) s m ([.ref q, .ref q2] : List Value).toArray below meth c H locs 0 0 (MQ below (va_Qv (fun _ : Unit => True) (fun _ t9 => va_P g.1 vwCl ([(q, .inr (1, [.int (zi (n2)), .ref a, .ref b])), (a, .inl (g.2.1, 12, .inl (fun j9 => zi ((mx nb u2 u) j9)))), (b, .inl (g.2.1, 12, .inl (fun j9 => zi ((mx nb lo2 lo) j9))))]) t9.heap) (va_A [(q, .inr (1, [.int (zi (n)), .ref a, .ref b])), (a, .inl (g.2.1, 12, .inl (fun j9 => zi ((u) j9)))), (b, .inl (g.2.1, 12, .inl (fun j9 => zi ((lo) j9))))] s.heap.size)) ([.ref q, .ref q2] : List Value).toArray s 0 0 (va_A [(q, .inr (1, [.int (zi (n)), .ref a, .ref b])), (a, .inl (g.2.1, 12, .inl (fun j9 => zi ((u) j9)))), (b, .inl (g.2.1, 12, .inl (fun j9 => zi ((lo) j9))))] s.heap.size)) (F0 m 10 ls []) := by
    intro d
    induction d with
    | zero =>
      intro j hj hd2 H locs hP hS ls hl
      have ej : j = nb := by omega
      have hD : va_D (va_A [(q, .inr (1, [.int (zi (n)), .ref a, .ref b])), (a, .inl (g.2.1, 12, .inl (fun j9 => zi ((u) j9)))), (b, .inl (g.2.1, 12, .inl (fun j9 => zi ((lo) j9))))] s.heap.size) [(q, .inr (1, [.int (zi (n2)), .ref a, .ref b])), (a, .inl (g.2.1, 12, .inl (fun j9 => zi ((mx j u2 u) j9)))), (b, .inl (g.2.1, 12, .inl (fun j9 => zi ((mx j lo2 lo) j9))))] := z_D hD rfl
      refine lv_iload_n hx hb dX1_takeAll_10 rfl (lv_at hl 0 rfl) ?_
      refine lv_aload_n hx hb dX1_takeAll_11 rfl (lv_at hl 2 rfl) ?_
      refine z_get (C := RX1) (T := TX1) (N := 3) hx hb hts hiX1 hown hK (ScP.stay hQ hS nA1 nA2 nA3).1 rfl 0 (by decide) (hts (.fieldLink RX1 9 "HarmoniumDesk$Score" "bars" "I") (by decide +kernel)) rfl rfl dX1_takeAll_12 ?_
      refine z_icmp_ge (tgt := 30) hx hb dX1_takeAll_15 (by decide) (by omega) (by omega) (fun h15 => ?_) (fun h15 => ?_)
      ·
        exact z_wvret hx hb hr hlk dX1_takeAll_30 (by rw [← ej]; exact hP) hS
      · exfalso; omega
    | succ d ih =>
      intro j hj hd2 H locs hP hS ls hl
      have hD : va_D (va_A [(q, .inr (1, [.int (zi (n)), .ref a, .ref b])), (a, .inl (g.2.1, 12, .inl (fun j9 => zi ((u) j9)))), (b, .inl (g.2.1, 12, .inl (fun j9 => zi ((lo) j9))))] s.heap.size) [(q, .inr (1, [.int (zi (n2)), .ref a, .ref b])), (a, .inl (g.2.1, 12, .inl (fun j9 => zi ((mx j u2 u) j9)))), (b, .inl (g.2.1, 12, .inl (fun j9 => zi ((mx j lo2 lo) j9))))] := z_D hD rfl
      refine lv_iload_n hx hb dX1_takeAll_10 rfl (lv_at hl 0 rfl) ?_
      refine lv_aload_n hx hb dX1_takeAll_11 rfl (lv_at hl 2 rfl) ?_
      refine z_get (C := RX1) (T := TX1) (N := 3) hx hb hts hiX1 hown hK (ScP.stay hQ hS nA1 nA2 nA3).1 rfl 0 (by decide) (hts (.fieldLink RX1 9 "HarmoniumDesk$Score" "bars" "I") (by decide +kernel)) rfl rfl dX1_takeAll_12 ?_
      refine z_icmp_ge (tgt := 30) hx hb dX1_takeAll_15 (by decide) (by omega) (by omega) (fun h15 => ?_) (fun h15 => ?_)
      · exfalso; omega
      ·
        refine lv_aload_n hx hb dX1_takeAll_18 rfl (lv_at hl 1 rfl) ?_
        refine lv_aload_n hx hb dX1_takeAll_19 rfl (lv_at hl 2 rfl) ?_
        refine lv_iload_n hx hb dX1_takeAll_20 rfl (lv_at hl 0 rfl) ?_
        refine wv_V (rest := []) (As := [.ref q2, .int (zi ((j : Int)))]) ⟨hx, hb, hml, hown, hts⟩ (c_X1_takeBar l g q a b n2 (mx j u2 u) (mx j lo2 lo) hd3 q2 a2 b2 n2 u2 lo2 hu2 hlo2 hap j (by omega) ((j : Int)) (by omega) _) (cwV 2 hts gX1_takeAll_X1_takeBar rfl rfl rfl (by decide +kernel) ⟨Nat.le_of_ble_eq_true rfl, Nat.le_of_ble_eq_true rfl⟩) (z_recv hK (hP 0 _ rfl) rfl) hP (ScP.stay hQ hS nA1 nA2 nA3) hK rfl hl.1 rfl (Nat.le_of_ble_eq_true rfl) dX1_takeAll_21 ⟨Nat.le_of_ble_eq_true rfl, Nat.le_of_ble_eq_true rfl⟩ hS (va_fr3 hS.1) (fun H1 locs hP1 hz1 hk1 hS => ?_)
        rw [mx_s, mx_s] at hP1
        have hP := hP1
        have hD : va_D (va_A [(q, .inr (1, [.int (zi (n)), .ref a, .ref b])), (a, .inl (g.2.1, 12, .inl (fun j9 => zi ((u) j9)))), (b, .inl (g.2.1, 12, .inl (fun j9 => zi ((lo) j9))))] s.heap.size) [(q, .inr (1, [.int (zi (n2)), .ref a, .ref b])), (a, .inl (g.2.1, 12, .inl (fun j9 => zi ((mx (j + 1) u2 u) j9)))), (b, .inl (g.2.1, 12, .inl (fun j9 => zi ((mx (j + 1) lo2 lo) j9))))] := z_D hD rfl
        generalize H1 = H at hP hS ⊢
        have hP : va_P g.1 vwCl [(q, .inr (1, [.int (zi (n2)), .ref a, .ref b])), (a, .inl (g.2.1, 12, .inl (fun j9 => zi ((mx (j + 1) u2 u) j9)))), (b, .inl (g.2.1, 12, .inl (fun j9 => zi ((mx (j + 1) lo2 lo) j9))))] H := hP
        have hD : va_D (va_A [(q, .inr (1, [.int (zi (n)), .ref a, .ref b])), (a, .inl (g.2.1, 12, .inl (fun j9 => zi ((u) j9)))), (b, .inl (g.2.1, 12, .inl (fun j9 => zi ((lo) j9))))] s.heap.size) [(q, .inr (1, [.int (zi (n2)), .ref a, .ref b])), (a, .inl (g.2.1, 12, .inl (fun j9 => zi ((mx (j + 1) u2 u) j9)))), (b, .inl (g.2.1, 12, .inl (fun j9 => zi ((mx (j + 1) lo2 lo) j9))))] := hD
        refine z_iinc (b := ((j + 1 : Nat) : Int)) (lv' := [(2, .int (zi (((j + 1 : Nat) : Int)))), (0, .ref q), (1, .ref q2)]) hx hb dX1_takeAll_24 hl (k := 0) rfl (by omega) (by decide) rfl (fun ls hl => ?_)
        refine lv_goto (tgt := 10) hx hb dX1_takeAll_27 (by decide) ?_
        exact ih (j + 1) (by omega) (by omega) H locs hP hS ls (lv_sub hl [0, 1, 2] rfl)
  rw [← mx_0 u2 u, ← mx_0 lo2 lo] at hP
  exact loop10 _ 0 (by omega) rfl _ _ hP hS ls (lv_sub hl [0, 1, 2] rfl)

set_option maxHeartbeats 4000000 in
set_option maxRecDepth 100000 in
theorem c_X1_fill (l : Launch) (g : gG) (q a b : Nat) (n : Int) (u lo : Nat → Int) (hd3 : D3s q a b) (nb : Nat) (zn : Int) (hzn : zn = (nb : Int)) (hnb : nb ≤ 12) (t : Int) (sz : Nat) : WV l yX1_fill wsX1_fill ({ frames := 1, cells := 0, slots := 0, locals := 24 }) g [.ref q, .int (zi (zn)), .int (zi (t))] sz [(q, .inr (1, [.int (zi (n)), .ref a, .ref b])), (a, .inl (g.2.1, 12, .inl (fun j9 => zi ((u) j9)))), (b, .inl (g.2.1, 12, .inl (fun j9 => zi ((lo) j9))))] (fun _ => True) ([(q, .inr (1, [.int (zi (zn)), .ref a, .ref b])), (a, .inl (g.2.1, 12, .inl (fun j9 => zi ((mx nb (fun _ => t) u) j9)))), (b, .inl (g.2.1, 12, .inl (fun j9 => zi ((mx nb (fun _ => t) lo) j9))))]) := by
  refine ZM.ofW (cc := cX1_fill) (maxL := 4) (ret := none) (by decide) rfl (Nat.le_of_ble_eq_true rfl) ?_
  intro p e s m below meth c ls hx hb hr hml hown hts hlk hP hK hl hin
  obtain ⟨rfl, hP, hQ⟩ := hP
  have hP : va_P g.1 vwCl [(q, .inr (1, [.int (zi (n)), .ref a, .ref b])), (a, .inl (g.2.1, 12, .inl (fun j9 => zi ((u) j9)))), (b, .inl (g.2.1, 12, .inl (fun j9 => zi ((lo) j9))))] s.heap := hP
  have hD : va_D (va_A [(q, .inr (1, [.int (zi (n)), .ref a, .ref b])), (a, .inl (g.2.1, 12, .inl (fun j9 => zi ((u) j9)))), (b, .inl (g.2.1, 12, .inl (fun j9 => zi ((lo) j9))))] s.heap.size) [(q, .inr (1, [.int (zi (n)), .ref a, .ref b])), (a, .inl (g.2.1, 12, .inl (fun j9 => zi ((u) j9)))), (b, .inl (g.2.1, 12, .inl (fun j9 => zi ((lo) j9))))] := z_Dn (D3s.n hd3)
  have hS : va_S (va_A [(q, .inr (1, [.int (zi (n)), .ref a, .ref b])), (a, .inl (g.2.1, 12, .inl (fun j9 => zi ((u) j9)))), (b, .inl (g.2.1, 12, .inl (fun j9 => zi ((lo) j9))))] s.heap.size) s.heap s.heap [] := va_S.rf
  have hA : ∀ x9 : Nat, s.heap.size ≤ x9 → (va_A [(q, .inr (1, [.int (zi (n)), .ref a, .ref b])), (a, .inl (g.2.1, 12, .inl (fun j9 => zi ((u) j9)))), (b, .inl (g.2.1, 12, .inl (fun j9 => zi ((lo) j9))))] s.heap.size) x9 := fun _ h => Or.inr h
  have hown : s.vm.findClass RX1 = some m.cls := hown
  have hl : lv_has ls 4 [(0, .ref q), (1, .int (zi (zn))), (2, .int (zi (t)))] := hl
  have hiX1 : ∀ w ∈ u_ws RX1 TX1 3, w ∈ wsX1_fill := by decide +kernel
  refine lv_aload_n hx hb dX1_fill_0 rfl (lv_at hl 0 rfl) ?_
  refine lv_iload_n hx hb dX1_fill_1 rfl (lv_at hl 1 rfl) ?_
  refine z_put (v := .int (zi (zn))) hx hb hts hiX1 tyX1 tyX1_ok nmX1 hown hK hP hD hS 0 rfl rfl 0 (by decide) (hts (.fieldLink RX1 9 "HarmoniumDesk$Score" "bars" "I") (by decide +kernel)) rfl (Or.inl rfl) rfl rfl (Nat.le_of_ble_eq_true rfl) dX1_fill_2 (fun H locs hP hD hS => ?_)
  have hP : va_P g.1 vwCl [(q, .inr (1, [.int (zi (zn)), .ref a, .ref b])), (a, .inl (g.2.1, 12, .inl (fun j9 => zi ((u) j9)))), (b, .inl (g.2.1, 12, .inl (fun j9 => zi ((lo) j9))))] H := hP
  have hD : va_D (va_A [(q, .inr (1, [.int (zi (n)), .ref a, .ref b])), (a, .inl (g.2.1, 12, .inl (fun j9 => zi ((u) j9)))), (b, .inl (g.2.1, 12, .inl (fun j9 => zi ((lo) j9))))] s.heap.size) [(q, .inr (1, [.int (zi (zn)), .ref a, .ref b])), (a, .inl (g.2.1, 12, .inl (fun j9 => zi ((u) j9)))), (b, .inl (g.2.1, 12, .inl (fun j9 => zi ((lo) j9))))] := hD
  refine z_iconst hx hb dX1_fill_5 ?_
  refine z_top (b := ((0 : Nat) : Int)) (rfl) ?_
  refine lv_istore_n (lv' := [(3, .int (zi (((0 : Nat) : Int)))), (0, .ref q), (1, .int (zi (zn))), (2, .int (zi (t)))]) hx hb dX1_fill_6 rfl hl (by decide) rfl (fun ls hl => ?_)
  have loop7 : ∀ (d j : Nat), j ≤ nb → nb - j = d → ∀ (H : Heap) (locs : List Loc), va_P g.1 vwCl [(q, .inr (1, [.int (zi (zn)), .ref a, .ref b])), (a, .inl (g.2.1, 12, .inl (fun j9 => zi ((mx j (fun _ => t) u) j9)))), (b, .inl (g.2.1, 12, .inl (fun j9 => zi ((mx j (fun _ => t) lo) j9))))] H → va_S (va_A [(q, .inr (1, [.int (zi (n)), .ref a, .ref b])), (a, .inl (g.2.1, 12, .inl (fun j9 => zi ((u) j9)))), (b, .inl (g.2.1, 12, .inl (fun j9 => zi ((lo) j9))))] s.heap.size) s.heap H locs → ∀ ls : Array Slot, lv_has ls 4 [(3, .int (zi ((j : Int)))), (0, .ref q), (1, .int (zi (zn))), (2, .int (zi (t)))] → W p l e ({ frames := 1, cells := 0, slots := 0, locals := 24 }) s m ([.ref q, .int (zi (zn)), .int (zi (t))] : List Value).toArray below meth c H locs 0 0 (MQ below (va_Qv (fun _ : Unit => True) (fun _ t9 => va_P g.1 vwCl ([(q, .inr (1, [.int (zi (zn)), .ref a, .ref b])), (a, .inl (g.2.1, 12, .inl (fun j9 => zi ((mx nb (fun _ => t) u) j9)))), (b, .inl (g.2.1, 12, .inl (fun j9 => zi ((mx nb (fun _ => t) lo) j9))))]) t9.heap) (va_A [(q, .inr (1, [.int (zi (n)), .ref a, .ref b])), (a, .inl (g.2.1, 12, .inl (fun j9 => zi ((u) j9)))), (b, .inl (g.2.1, 12, .inl (fun j9 => zi ((lo) j9))))] s.heap.size)) ([.ref q, .int (zi (zn)), .int (zi (t))] : List Value).toArray s 0 0 (va_A [(q, .inr (1, [.int (zi (n)), .ref a, .ref b])), (a, .inl (g.2.1, 12, .inl (fun j9 => zi ((u) j9)))), (b, .inl (g.2.1, 12, .inl (fun j9 => zi ((lo) j9))))] s.heap.size)) (F0 m 7 ls []) := by
    intro d
    induction d with
    | zero =>
      intro j hj hd2 H locs hP hS ls hl
      have ej : j = nb := by omega
      have hD : va_D (va_A [(q, .inr (1, [.int (zi (n)), .ref a, .ref b])), (a, .inl (g.2.1, 12, .inl (fun j9 => zi ((u) j9)))), (b, .inl (g.2.1, 12, .inl (fun j9 => zi ((lo) j9))))] s.heap.size) [(q, .inr (1, [.int (zi (zn)), .ref a, .ref b])), (a, .inl (g.2.1, 12, .inl (fun j9 => zi ((mx j (fun _ => t) u) j9)))), (b, .inl (g.2.1, 12, .inl (fun j9 => zi ((mx j (fun _ => t) lo) j9))))] := z_D hD rfl
      refine lv_iload_n hx hb dX1_fill_7 rfl (lv_at hl 0 rfl) ?_
      refine lv_iload_n hx hb dX1_fill_8 rfl (lv_at hl 2 rfl) ?_
      refine z_icmp_ge (tgt := 32) hx hb dX1_fill_9 (by decide) (by omega) (by omega) (fun h9 => ?_) (fun h9 => ?_)
      ·
        exact z_wvret hx hb hr hlk dX1_fill_32 (by rw [← ej]; exact hP) hS
      · exfalso; omega
    | succ d ih =>
      intro j hj hd2 H locs hP hS ls hl
      have hD : va_D (va_A [(q, .inr (1, [.int (zi (n)), .ref a, .ref b])), (a, .inl (g.2.1, 12, .inl (fun j9 => zi ((u) j9)))), (b, .inl (g.2.1, 12, .inl (fun j9 => zi ((lo) j9))))] s.heap.size) [(q, .inr (1, [.int (zi (zn)), .ref a, .ref b])), (a, .inl (g.2.1, 12, .inl (fun j9 => zi ((mx j (fun _ => t) u) j9)))), (b, .inl (g.2.1, 12, .inl (fun j9 => zi ((mx j (fun _ => t) lo) j9))))] := z_D hD rfl
      refine lv_iload_n hx hb dX1_fill_7 rfl (lv_at hl 0 rfl) ?_
      refine lv_iload_n hx hb dX1_fill_8 rfl (lv_at hl 2 rfl) ?_
      refine z_icmp_ge (tgt := 32) hx hb dX1_fill_9 (by decide) (by omega) (by omega) (fun h9 => ?_) (fun h9 => ?_)
      · exfalso; omega
      ·
        refine lv_aload_n hx hb dX1_fill_12 rfl (lv_at hl 1 rfl) ?_
        refine z_iconst hx hb dX1_fill_13 ?_
        refine lv_iload_n hx hb dX1_fill_14 rfl (lv_at hl 0 rfl) ?_
        refine lv_iload_n hx hb dX1_fill_15 rfl (lv_at hl 3 rfl) ?_
        refine wv_V (rest := []) (As := [.int (zi (0)), .int (zi ((j : Int))), .int (zi (t))]) ⟨hx, hb, hml, hown, hts⟩ (c_X1_setTone l g q a b zn (mx j (fun _ => t) u) (mx j (fun _ => t) lo) hd3 (0) (by omega) j (by omega) ((j : Int)) (by omega) (t) (mx (j + 1) (fun _ => t) u) (mx j (fun _ => t) lo) (fun _ => ⟨(mx_s j (fun _ => t) u).symm, rfl⟩) (fun h => absurd rfl h) _) (cwV 3 hts gX1_fill_X1_setTone rfl rfl rfl (by decide +kernel) ⟨Nat.le_of_ble_eq_true rfl, Nat.le_of_ble_eq_true rfl⟩) (z_recv hK (hP 0 _ rfl) rfl) hP trivial hK rfl hl.1 rfl (Nat.le_of_ble_eq_true rfl) dX1_fill_16 ⟨Nat.le_of_ble_eq_true rfl, Nat.le_of_ble_eq_true rfl⟩ hS (va_fr3 hS.1) (fun H1 locs hP1 hz1 hk1 hS => ?_)
        have hP := hP1
        have hD : va_D (va_A [(q, .inr (1, [.int (zi (n)), .ref a, .ref b])), (a, .inl (g.2.1, 12, .inl (fun j9 => zi ((u) j9)))), (b, .inl (g.2.1, 12, .inl (fun j9 => zi ((lo) j9))))] s.heap.size) [(q, .inr (1, [.int (zi (zn)), .ref a, .ref b])), (a, .inl (g.2.1, 12, .inl (fun j9 => zi ((mx (j + 1) (fun _ => t) u) j9)))), (b, .inl (g.2.1, 12, .inl (fun j9 => zi ((mx j (fun _ => t) lo) j9))))] := z_D hD rfl
        generalize H1 = H at hP hS ⊢
        have hP : va_P g.1 vwCl [(q, .inr (1, [.int (zi (zn)), .ref a, .ref b])), (a, .inl (g.2.1, 12, .inl (fun j9 => zi ((mx (j + 1) (fun _ => t) u) j9)))), (b, .inl (g.2.1, 12, .inl (fun j9 => zi ((mx j (fun _ => t) lo) j9))))] H := hP
        have hD : va_D (va_A [(q, .inr (1, [.int (zi (n)), .ref a, .ref b])), (a, .inl (g.2.1, 12, .inl (fun j9 => zi ((u) j9)))), (b, .inl (g.2.1, 12, .inl (fun j9 => zi ((lo) j9))))] s.heap.size) [(q, .inr (1, [.int (zi (zn)), .ref a, .ref b])), (a, .inl (g.2.1, 12, .inl (fun j9 => zi ((mx (j + 1) (fun _ => t) u) j9)))), (b, .inl (g.2.1, 12, .inl (fun j9 => zi ((mx j (fun _ => t) lo) j9))))] := hD
        refine lv_aload_n hx hb dX1_fill_19 rfl (lv_at hl 1 rfl) ?_
        refine z_iconst hx hb dX1_fill_20 ?_
        refine lv_iload_n hx hb dX1_fill_21 rfl (lv_at hl 0 rfl) ?_
        refine lv_iload_n hx hb dX1_fill_22 rfl (lv_at hl 3 rfl) ?_
        refine wv_V (rest := []) (As := [.int (zi (1)), .int (zi ((j : Int))), .int (zi (t))]) ⟨hx, hb, hml, hown, hts⟩ (c_X1_setTone l g q a b zn (mx (j + 1) (fun _ => t) u) (mx j (fun _ => t) lo) hd3 (1) (by omega) j (by omega) ((j : Int)) (by omega) (t) (mx (j + 1) (fun _ => t) u) (mx (j + 1) (fun _ => t) lo) (fun h => absurd h (by decide)) (fun _ => ⟨rfl, (mx_s j (fun _ => t) lo).symm⟩) _) (cwV 3 hts gX1_fill_X1_setTone rfl rfl rfl (by decide +kernel) ⟨Nat.le_of_ble_eq_true rfl, Nat.le_of_ble_eq_true rfl⟩) (z_recv hK (hP 0 _ rfl) rfl) hP trivial hK rfl hl.1 rfl (Nat.le_of_ble_eq_true rfl) dX1_fill_23 ⟨Nat.le_of_ble_eq_true rfl, Nat.le_of_ble_eq_true rfl⟩ hS (va_fr3 hS.1) (fun H1 locs hP1 hz1 hk1 hS => ?_)
        have hP := hP1
        have hD : va_D (va_A [(q, .inr (1, [.int (zi (n)), .ref a, .ref b])), (a, .inl (g.2.1, 12, .inl (fun j9 => zi ((u) j9)))), (b, .inl (g.2.1, 12, .inl (fun j9 => zi ((lo) j9))))] s.heap.size) [(q, .inr (1, [.int (zi (zn)), .ref a, .ref b])), (a, .inl (g.2.1, 12, .inl (fun j9 => zi ((mx (j + 1) (fun _ => t) u) j9)))), (b, .inl (g.2.1, 12, .inl (fun j9 => zi ((mx (j + 1) (fun _ => t) lo) j9))))] := z_D hD rfl
        generalize H1 = H at hP hS ⊢
        have hP : va_P g.1 vwCl [(q, .inr (1, [.int (zi (zn)), .ref a, .ref b])), (a, .inl (g.2.1, 12, .inl (fun j9 => zi ((mx (j + 1) (fun _ => t) u) j9)))), (b, .inl (g.2.1, 12, .inl (fun j9 => zi ((mx (j + 1) (fun _ => t) lo) j9))))] H := hP
        have hD : va_D (va_A [(q, .inr (1, [.int (zi (n)), .ref a, .ref b])), (a, .inl (g.2.1, 12, .inl (fun j9 => zi ((u) j9)))), (b, .inl (g.2.1, 12, .inl (fun j9 => zi ((lo) j9))))] s.heap.size) [(q, .inr (1, [.int (zi (zn)), .ref a, .ref b])), (a, .inl (g.2.1, 12, .inl (fun j9 => zi ((mx (j + 1) (fun _ => t) u) j9)))), (b, .inl (g.2.1, 12, .inl (fun j9 => zi ((mx (j + 1) (fun _ => t) lo) j9))))] := hD
        refine z_iinc (b := ((j + 1 : Nat) : Int)) (lv' := [(3, .int (zi (((j + 1 : Nat) : Int)))), (0, .ref q), (1, .int (zi (zn))), (2, .int (zi (t)))]) hx hb dX1_fill_26 hl (k := 0) rfl (by omega) (by decide) rfl (fun ls hl => ?_)
        refine lv_goto (tgt := 7) hx hb dX1_fill_29 (by decide) ?_
        exact ih (j + 1) (by omega) (by omega) H locs hP hS ls (lv_sub hl [0, 1, 2, 3] rfl)
  rw [← mx_0 (fun _ => t) u, ← mx_0 (fun _ => t) lo] at hP
  exact loop7 _ 0 (by omega) rfl _ _ hP hS ls (lv_sub hl [0, 1, 2, 3] rfl)

set_option maxHeartbeats 4000000 in
set_option maxRecDepth 100000 in
theorem c_X1_init (l : Launch) (g : gG) (q : Nat) (sz : Nat) : WN (S := Nat × Nat) l yX1_init wsX1_init ({ frames := 1, cells := 2, slots := 24, locals := 12 }) g [.ref q] sz [(q, .inr (1, [.int (zi (0)), .null, .null]))] (fun _ => True) (fun x => [(q, .inr (1, [.int (zi (0)), .ref x.1, .ref x.2])), (x.1, .inl (g.2.1, 12, .inl (fun j9 => zi ((fun _ => 0) j9)))), (x.2, .inl (g.2.1, 12, .inl (fun j9 => zi ((fun _ => 0) j9))))]) 2 24 := by
  refine ZM.ofW (cc := cX1_init) (maxL := 1) (ret := none) (by decide) rfl (Nat.le_of_ble_eq_true rfl) ?_
  intro p e s m below meth c ls hx hb hr hml hown hts hlk hP hK hl hin
  obtain ⟨rfl, hP, hQ⟩ := hP
  have hP : va_P g.1 vwCl [(q, .inr (1, [.int (zi (0)), .null, .null]))] s.heap := hP
  have hD : va_D (va_A [(q, .inr (1, [.int (zi (0)), .null, .null]))] s.heap.size) [(q, .inr (1, [.int (zi (0)), .null, .null]))] := z_Dn (by simp)
  have hS : va_S (va_A [(q, .inr (1, [.int (zi (0)), .null, .null]))] s.heap.size) s.heap s.heap [] := va_S.rf
  have hA : ∀ x9 : Nat, s.heap.size ≤ x9 → (va_A [(q, .inr (1, [.int (zi (0)), .null, .null]))] s.heap.size) x9 := fun _ h => Or.inr h
  have hown : s.vm.findClass RX1 = some m.cls := hown
  have hin : meth.name = "<init>" := hin rfl
  have hl : lv_has ls 1 [(0, .ref q)] := hl
  have hiX1 : ∀ w ∈ u_ws RX1 TX1 3, w ∈ wsX1_init := by decide +kernel
  refine lv_aload_n hx hb dX1_init_0 rfl (lv_at hl 0 rfl) ?_
  refine W.objInit hx hb hown (hts (.methodLink RX1 3 objectInit) (by decide +kernel)) (hts (.instanceMethod objectInit) (by decide +kernel)) (hts (.code objectInit ⟨#[0xb1]⟩ 1 none) (by decide +kernel)) rfl (by rw [hml]; exact hl.1) rfl dX1_init_1 (Nat.le_of_ble_eq_true rfl) (Nat.le_of_ble_eq_true rfl) ?_
  refine W.eq (g2 := F0 m 4 ls []) rfl ?_
  refine lv_aload_n hx hb dX1_init_4 rfl (lv_at hl 0 rfl) ?_
  refine z_iconst hx hb dX1_init_5 ?_
  refine z_put (v := .int (zi (0))) hx hb hts hiX1 tyX1 tyX1_ok nmX1 hown hK hP hD hS 0 rfl rfl 0 (by decide) (hts (.fieldLink RX1 9 "HarmoniumDesk$Score" "bars" "I") (by decide +kernel)) rfl (Or.inl rfl) rfl rfl (Nat.le_of_ble_eq_true rfl) dX1_init_6 (fun H locs hP hD hS => ?_)
  have hP : va_P g.1 vwCl [(q, .inr (1, [.int (zi (0)), .null, .null]))] H := hP
  have hD : va_D (va_A [(q, .inr (1, [.int (zi (0)), .null, .null]))] s.heap.size) [(q, .inr (1, [.int (zi (0)), .null, .null]))] := hD
  refine lv_aload_n hx hb dX1_init_9 rfl (lv_at hl 0 rfl) ?_
  refine z_bipush hx hb dX1_init_10 (by decide) ?_
  refine z_newi hx hb (hts (.arrayClass .int) (by decide +kernel)) hK hP hD hS hA 12 rfl (by decide) (Nat.le_of_ble_eq_true rfl) (Nat.le_of_ble_eq_true rfl) dX1_init_12 (fun q12 H hP hD hS => ?_)
  have hP : va_P g.1 vwCl [(q, .inr (1, [.int (zi (0)), .null, .null])), (q12, .inl (g.2.1, 12, .inl (fun j9 => zi ((fun _ => 0) j9))))] H := hP
  have hD : va_D (va_A [(q, .inr (1, [.int (zi (0)), .null, .null]))] s.heap.size) [(q, .inr (1, [.int (zi (0)), .null, .null])), (q12, .inl (g.2.1, 12, .inl (fun j9 => zi ((fun _ => 0) j9))))] := hD
  refine W.widen (k := 1) (n := 12) (by omega) (by omega) ?_
  refine z_put (v := .ref q12) hx hb hts hiX1 tyX1 tyX1_ok nmX1 hown hK hP hD hS 0 rfl rfl 1 (by decide) (hts (.fieldLink RX1 15 "HarmoniumDesk$Score" "upper" "[I") (by decide +kernel)) rfl (Or.inr ⟨rfl, hin, rfl⟩) rfl rfl (Nat.le_of_ble_eq_true rfl) dX1_init_14 (fun H locs hP hD hS => ?_)
  have hP : va_P g.1 vwCl [(q, .inr (1, [.int (zi (0)), .ref q12, .null])), (q12, .inl (g.2.1, 12, .inl (fun j9 => zi ((fun _ => 0) j9))))] H := hP
  have hD : va_D (va_A [(q, .inr (1, [.int (zi (0)), .null, .null]))] s.heap.size) [(q, .inr (1, [.int (zi (0)), .ref q12, .null])), (q12, .inl (g.2.1, 12, .inl (fun j9 => zi ((fun _ => 0) j9))))] := hD
  refine lv_aload_n hx hb dX1_init_17 rfl (lv_at hl 0 rfl) ?_
  refine z_bipush hx hb dX1_init_18 (by decide) ?_
  refine z_newi hx hb (hts (.arrayClass .int) (by decide +kernel)) hK hP hD hS hA 12 rfl (by decide) (Nat.le_of_ble_eq_true rfl) (Nat.le_of_ble_eq_true rfl) dX1_init_20 (fun q20 H hP hD hS => ?_)
  have hP : va_P g.1 vwCl [(q, .inr (1, [.int (zi (0)), .ref q12, .null])), (q12, .inl (g.2.1, 12, .inl (fun j9 => zi ((fun _ => 0) j9)))), (q20, .inl (g.2.1, 12, .inl (fun j9 => zi ((fun _ => 0) j9))))] H := hP
  have hD : va_D (va_A [(q, .inr (1, [.int (zi (0)), .null, .null]))] s.heap.size) [(q, .inr (1, [.int (zi (0)), .ref q12, .null])), (q12, .inl (g.2.1, 12, .inl (fun j9 => zi ((fun _ => 0) j9)))), (q20, .inl (g.2.1, 12, .inl (fun j9 => zi ((fun _ => 0) j9))))] := hD
  refine W.widen (k := 2) (n := 24) (by omega) (by omega) ?_
  refine z_put (v := .ref q20) hx hb hts hiX1 tyX1 tyX1_ok nmX1 hown hK hP hD hS 0 rfl rfl 2 (by decide) (hts (.fieldLink RX1 19 "HarmoniumDesk$Score" "lower" "[I") (by decide +kernel)) rfl (Or.inr ⟨rfl, hin, rfl⟩) rfl rfl (Nat.le_of_ble_eq_true rfl) dX1_init_22 (fun H locs hP hD hS => ?_)
  have hP : va_P g.1 vwCl [(q, .inr (1, [.int (zi (0)), .ref q12, .ref q20])), (q12, .inl (g.2.1, 12, .inl (fun j9 => zi ((fun _ => 0) j9)))), (q20, .inl (g.2.1, 12, .inl (fun j9 => zi ((fun _ => 0) j9))))] H := hP
  have hD : va_D (va_A [(q, .inr (1, [.int (zi (0)), .null, .null]))] s.heap.size) [(q, .inr (1, [.int (zi (0)), .ref q12, .ref q20])), (q12, .inl (g.2.1, 12, .inl (fun j9 => zi ((fun _ => 0) j9)))), (q20, .inl (g.2.1, 12, .inl (fun j9 => zi ((fun _ => 0) j9))))] := hD
  exact z_wnret (q12, q20) hx hb hr hlk dX1_init_25 hP hD hS

set_option maxHeartbeats 4000000 in
set_option maxRecDepth 100000 in
theorem c_X2_init_n (l : Launch) (g : gG) (q : Nat) (zn : Int) (sz : Nat) : WN (S := Nat × Nat × Nat) l yX2_init wsX2_init ({ frames := 2, cells := 3, slots := 27, locals := 32 }) g [.ref q, .int (zi (zn)), .null] sz [(q, .inr (2, [.int (zi (0)), .null, .null, .int (zi (0)), .int (zi (0))]))] (fun _ => True) (fun x => [(q, .inr (2, [.int (zi (zn)), .null, .ref x.1, .int (zi (0)), .int (zi (0))])), (x.1, .inr (1, [.int (zi (0)), .ref x.2.1, .ref x.2.2])), (x.2.1, .inl (g.2.1, 12, .inl (fun j9 => zi ((fun _ => 0) j9)))), (x.2.2, .inl (g.2.1, 12, .inl (fun j9 => zi ((fun _ => 0) j9))))]) 3 27 := by
  refine ZM.ofW (cc := cX2_init) (maxL := 3) (ret := none) (by decide) rfl (Nat.le_of_ble_eq_true rfl) ?_
  intro p e s m below meth c ls hx hb hr hml hown hts hlk hP hK hl hin
  obtain ⟨rfl, hP, hQ⟩ := hP
  have hP : va_P g.1 vwCl [(q, .inr (2, [.int (zi (0)), .null, .null, .int (zi (0)), .int (zi (0))]))] s.heap := hP
  have hD : va_D (va_A [(q, .inr (2, [.int (zi (0)), .null, .null, .int (zi (0)), .int (zi (0))]))] s.heap.size) [(q, .inr (2, [.int (zi (0)), .null, .null, .int (zi (0)), .int (zi (0))]))] := z_Dn (by simp)
  have hS : va_S (va_A [(q, .inr (2, [.int (zi (0)), .null, .null, .int (zi (0)), .int (zi (0))]))] s.heap.size) s.heap s.heap [] := va_S.rf
  have hA : ∀ x9 : Nat, s.heap.size ≤ x9 → (va_A [(q, .inr (2, [.int (zi (0)), .null, .null, .int (zi (0)), .int (zi (0))]))] s.heap.size) x9 := fun _ h => Or.inr h
  have hown : s.vm.findClass RX2 = some m.cls := hown
  have hin : meth.name = "<init>" := hin rfl
  have hl : lv_has ls 3 [(0, .ref q), (1, .int (zi (zn))), (2, .null)] := hl
  have hiX1 : ∀ w ∈ u_ws RX1 TX1 3, w ∈ wsX2_init := by decide +kernel
  have hiX2 : ∀ w ∈ u_ws RX2 TX2 5, w ∈ wsX2_init := by decide +kernel
  refine lv_aload_n hx hb dX2_init_0 rfl (lv_at hl 0 rfl) ?_
  refine W.objInit hx hb hown (hts (.methodLink RX2 1 objectInit) (by decide +kernel)) (hts (.instanceMethod objectInit) (by decide +kernel)) (hts (.code objectInit ⟨#[0xb1]⟩ 1 none) (by decide +kernel)) rfl (by rw [hml]; exact hl.1) rfl dX2_init_1 (Nat.le_of_ble_eq_true rfl) (Nat.le_of_ble_eq_true rfl) ?_
  refine W.eq (g2 := F0 m 4 ls []) rfl ?_
  refine lv_aload_n hx hb dX2_init_4 rfl (lv_at hl 0 rfl) ?_
  refine va_new (ci := 1) (fs := [.int (zi (0)), .null, .null]) (C := RX1) (T := TX1) (N := 3) hx hb hts hiX1 tyX1 tyX1_ok hown (hts (.classLink RX2 7 RX1) (by decide +kernel)) (hts (.instantiable RX1 3) (by decide +kernel)) (hts (.initialized RX1) (by decide +kernel)) hK.1 hP hD hS hA rfl (fun j hj => by rcases (show j = 0 ∨ j = 1 ∨ j = 2 by omega) with rfl | rfl | rfl <;> rfl) (Nat.le_of_ble_eq_true rfl) (Nat.le_of_ble_eq_true rfl) dX2_init_5 (fun q5 H hP hD hS => ?_)
  have hP : va_P g.1 vwCl [(q, .inr (2, [.int (zi (0)), .null, .null, .int (zi (0)), .int (zi (0))])), (q5, .inr (1, [.int (zi (0)), .null, .null]))] H := hP
  have hD : va_D (va_A [(q, .inr (2, [.int (zi (0)), .null, .null, .int (zi (0)), .int (zi (0))]))] s.heap.size) [(q, .inr (2, [.int (zi (0)), .null, .null, .int (zi (0)), .int (zi (0))])), (q5, .inr (1, [.int (zi (0)), .null, .null]))] := hD
  refine W.widen (k := 1) (n := 3) (by omega) (by omega) ?_
  refine lv_dup hx hb dX2_init_8 rfl ?_
  have hS0 := hS
  refine wn_IN (host := RX3) (rest := [.ref q5, .ref q]) (As := []) ⟨hx, hb, hml, hown, hts⟩ (c_X1_init l g q5 _) ⟨va_cnB 0 hts ggX2_init_X1_init rfl rfl rfl (hK.2 _ (by decide +kernel)) (hts (.initialized RX1) (by decide +kernel)) (by decide +kernel) ⟨Nat.le_of_ble_eq_true rfl, Nat.le_of_ble_eq_true rfl⟩, rfl, hts (.instanceMethod yX1_init) (by decide +kernel)⟩ (hP.sub [1] rfl) trivial hK rfl hl.1 rfl (Nat.le_of_ble_eq_true rfl) dX2_init_9 ⟨Nat.le_of_ble_eq_true rfl, Nat.le_of_ble_eq_true rfl⟩ hS (va_free hD hS hA [1] rfl) (fun u9 H1 locs hP1 hD1 hz1 hk1 hS => ?_)
  obtain ⟨a9, b9⟩ := u9
  obtain ⟨hP, hD⟩ := va_join (wr := [(q, .inr (2, [.int (zi (0)), .null, .null, .int (zi (0)), .int (zi (0))]))]) (w1 := [(q5, .inr (1, [.int (zi (0)), .ref a9, .ref b9])), (a9, .inl (g.2.1, 12, .inl (fun j9 => zi ((fun _ => 0) j9)))), (b9, .inl (g.2.1, 12, .inl (fun j9 => zi ((fun _ => 0) j9))))]) hP hD [1] [0] rfl rfl (by decide) (by decide) hk1 (va_free hD hS0 hA [1] rfl) hP1 hD1
  generalize H1 = H at hP hS ⊢
  have hP : va_P g.1 vwCl [(q, .inr (2, [.int (zi (0)), .null, .null, .int (zi (0)), .int (zi (0))])), (q5, .inr (1, [.int (zi (0)), .ref a9, .ref b9])), (a9, .inl (g.2.1, 12, .inl (fun j9 => zi ((fun _ => 0) j9)))), (b9, .inl (g.2.1, 12, .inl (fun j9 => zi ((fun _ => 0) j9))))] H := hP
  have hD : va_D (va_A [(q, .inr (2, [.int (zi (0)), .null, .null, .int (zi (0)), .int (zi (0))]))] s.heap.size) [(q, .inr (2, [.int (zi (0)), .null, .null, .int (zi (0)), .int (zi (0))])), (q5, .inr (1, [.int (zi (0)), .ref a9, .ref b9])), (a9, .inl (g.2.1, 12, .inl (fun j9 => zi ((fun _ => 0) j9)))), (b9, .inl (g.2.1, 12, .inl (fun j9 => zi ((fun _ => 0) j9))))] := hD
  refine W.widen (k := 3) (n := 27) (by omega) (by omega) ?_
  refine z_put (v := .ref q5) hx hb hts hiX2 tyX2 tyX2_ok nmX2 hown hK hP hD hS 0 rfl rfl 2 (by decide) (hts (.fieldLink RX2 10 "HarmoniumDesk$Version" "score" "LHarmoniumDesk$Score;") (by decide +kernel)) rfl (Or.inr ⟨rfl, hin, rfl⟩) rfl rfl (Nat.le_of_ble_eq_true rfl) dX2_init_12 (fun H locs hP hD hS => ?_)
  have hP : va_P g.1 vwCl [(q, .inr (2, [.int (zi (0)), .null, .ref q5, .int (zi (0)), .int (zi (0))])), (q5, .inr (1, [.int (zi (0)), .ref a9, .ref b9])), (a9, .inl (g.2.1, 12, .inl (fun j9 => zi ((fun _ => 0) j9)))), (b9, .inl (g.2.1, 12, .inl (fun j9 => zi ((fun _ => 0) j9))))] H := hP
  have hD : va_D (va_A [(q, .inr (2, [.int (zi (0)), .null, .null, .int (zi (0)), .int (zi (0))]))] s.heap.size) [(q, .inr (2, [.int (zi (0)), .null, .ref q5, .int (zi (0)), .int (zi (0))])), (q5, .inr (1, [.int (zi (0)), .ref a9, .ref b9])), (a9, .inl (g.2.1, 12, .inl (fun j9 => zi ((fun _ => 0) j9)))), (b9, .inl (g.2.1, 12, .inl (fun j9 => zi ((fun _ => 0) j9))))] := hD
  refine lv_aload_n hx hb dX2_init_15 rfl (lv_at hl 0 rfl) ?_
  refine z_iconst hx hb dX2_init_16 ?_
  refine z_put (v := .int (zi (0))) hx hb hts hiX2 tyX2 tyX2_ok nmX2 hown hK hP hD hS 0 rfl rfl 3 (by decide) (hts (.fieldLink RX2 16 "HarmoniumDesk$Version" "fixed" "Z") (by decide +kernel)) rfl (Or.inl rfl) rfl rfl (Nat.le_of_ble_eq_true rfl) dX2_init_17 (fun H locs hP hD hS => ?_)
  have hP : va_P g.1 vwCl [(q, .inr (2, [.int (zi (0)), .null, .ref q5, .int (zi (0)), .int (zi (0))])), (q5, .inr (1, [.int (zi (0)), .ref a9, .ref b9])), (a9, .inl (g.2.1, 12, .inl (fun j9 => zi ((fun _ => 0) j9)))), (b9, .inl (g.2.1, 12, .inl (fun j9 => zi ((fun _ => 0) j9))))] H := hP
  have hD : va_D (va_A [(q, .inr (2, [.int (zi (0)), .null, .null, .int (zi (0)), .int (zi (0))]))] s.heap.size) [(q, .inr (2, [.int (zi (0)), .null, .ref q5, .int (zi (0)), .int (zi (0))])), (q5, .inr (1, [.int (zi (0)), .ref a9, .ref b9])), (a9, .inl (g.2.1, 12, .inl (fun j9 => zi ((fun _ => 0) j9)))), (b9, .inl (g.2.1, 12, .inl (fun j9 => zi ((fun _ => 0) j9))))] := hD
  refine lv_aload_n hx hb dX2_init_20 rfl (lv_at hl 0 rfl) ?_
  refine z_iconst hx hb dX2_init_21 ?_
  refine z_put (v := .int (zi (0))) hx hb hts hiX2 tyX2 tyX2_ok nmX2 hown hK hP hD hS 0 rfl rfl 4 (by decide) (hts (.fieldLink RX2 20 "HarmoniumDesk$Version" "passedWhenHandedIn" "Z") (by decide +kernel)) rfl (Or.inl rfl) rfl rfl (Nat.le_of_ble_eq_true rfl) dX2_init_22 (fun H locs hP hD hS => ?_)
  have hP : va_P g.1 vwCl [(q, .inr (2, [.int (zi (0)), .null, .ref q5, .int (zi (0)), .int (zi (0))])), (q5, .inr (1, [.int (zi (0)), .ref a9, .ref b9])), (a9, .inl (g.2.1, 12, .inl (fun j9 => zi ((fun _ => 0) j9)))), (b9, .inl (g.2.1, 12, .inl (fun j9 => zi ((fun _ => 0) j9))))] H := hP
  have hD : va_D (va_A [(q, .inr (2, [.int (zi (0)), .null, .null, .int (zi (0)), .int (zi (0))]))] s.heap.size) [(q, .inr (2, [.int (zi (0)), .null, .ref q5, .int (zi (0)), .int (zi (0))])), (q5, .inr (1, [.int (zi (0)), .ref a9, .ref b9])), (a9, .inl (g.2.1, 12, .inl (fun j9 => zi ((fun _ => 0) j9)))), (b9, .inl (g.2.1, 12, .inl (fun j9 => zi ((fun _ => 0) j9))))] := hD
  refine lv_aload_n hx hb dX2_init_25 rfl (lv_at hl 0 rfl) ?_
  refine lv_iload_n hx hb dX2_init_26 rfl (lv_at hl 1 rfl) ?_
  refine z_put (v := .int (zi (zn))) hx hb hts hiX2 tyX2 tyX2_ok nmX2 hown hK hP hD hS 0 rfl rfl 0 (by decide) (hts (.fieldLink RX2 23 "HarmoniumDesk$Version" "number" "I") (by decide +kernel)) rfl (Or.inr ⟨rfl, hin, rfl⟩) rfl rfl (Nat.le_of_ble_eq_true rfl) dX2_init_27 (fun H locs hP hD hS => ?_)
  have hP : va_P g.1 vwCl [(q, .inr (2, [.int (zi (zn)), .null, .ref q5, .int (zi (0)), .int (zi (0))])), (q5, .inr (1, [.int (zi (0)), .ref a9, .ref b9])), (a9, .inl (g.2.1, 12, .inl (fun j9 => zi ((fun _ => 0) j9)))), (b9, .inl (g.2.1, 12, .inl (fun j9 => zi ((fun _ => 0) j9))))] H := hP
  have hD : va_D (va_A [(q, .inr (2, [.int (zi (0)), .null, .null, .int (zi (0)), .int (zi (0))]))] s.heap.size) [(q, .inr (2, [.int (zi (zn)), .null, .ref q5, .int (zi (0)), .int (zi (0))])), (q5, .inr (1, [.int (zi (0)), .ref a9, .ref b9])), (a9, .inl (g.2.1, 12, .inl (fun j9 => zi ((fun _ => 0) j9)))), (b9, .inl (g.2.1, 12, .inl (fun j9 => zi ((fun _ => 0) j9))))] := hD
  refine lv_aload_n hx hb dX2_init_30 rfl (lv_at hl 0 rfl) ?_
  refine lv_aload_nN hx hb dX2_init_31 rfl (lv_at hl 2 rfl) ?_
  refine z_put (v := .null) hx hb hts hiX2 tyX2 tyX2_ok nmX2 hown hK hP hD hS 0 rfl rfl 1 (by decide) (hts (.fieldLink RX2 27 "HarmoniumDesk$Version" "parent" "LHarmoniumDesk$Version;") (by decide +kernel)) rfl (Or.inr ⟨rfl, hin, rfl⟩) rfl rfl (Nat.le_of_ble_eq_true rfl) dX2_init_32 (fun H locs hP hD hS => ?_)
  have hP : va_P g.1 vwCl [(q, .inr (2, [.int (zi (zn)), .null, .ref q5, .int (zi (0)), .int (zi (0))])), (q5, .inr (1, [.int (zi (0)), .ref a9, .ref b9])), (a9, .inl (g.2.1, 12, .inl (fun j9 => zi ((fun _ => 0) j9)))), (b9, .inl (g.2.1, 12, .inl (fun j9 => zi ((fun _ => 0) j9))))] H := hP
  have hD : va_D (va_A [(q, .inr (2, [.int (zi (0)), .null, .null, .int (zi (0)), .int (zi (0))]))] s.heap.size) [(q, .inr (2, [.int (zi (zn)), .null, .ref q5, .int (zi (0)), .int (zi (0))])), (q5, .inr (1, [.int (zi (0)), .ref a9, .ref b9])), (a9, .inl (g.2.1, 12, .inl (fun j9 => zi ((fun _ => 0) j9)))), (b9, .inl (g.2.1, 12, .inl (fun j9 => zi ((fun _ => 0) j9))))] := hD
  exact z_wnret (q5, a9, b9) hx hb hr hlk dX2_init_35 hP hD hS

set_option maxHeartbeats 4000000 in
set_option maxRecDepth 100000 in
theorem c_X2_init_r (l : Launch) (g : gG) (pa : Nat) (q : Nat) (zn : Int) (sz : Nat) : WN (S := Nat × Nat × Nat) l yX2_init wsX2_init ({ frames := 2, cells := 3, slots := 27, locals := 32 }) g [.ref q, .int (zi (zn)), .ref pa] sz [(q, .inr (2, [.int (zi (0)), .null, .null, .int (zi (0)), .int (zi (0))]))] (fun _ => True) (fun x => [(q, .inr (2, [.int (zi (zn)), .ref pa, .ref x.1, .int (zi (0)), .int (zi (0))])), (x.1, .inr (1, [.int (zi (0)), .ref x.2.1, .ref x.2.2])), (x.2.1, .inl (g.2.1, 12, .inl (fun j9 => zi ((fun _ => 0) j9)))), (x.2.2, .inl (g.2.1, 12, .inl (fun j9 => zi ((fun _ => 0) j9))))]) 3 27 := by
  refine ZM.ofW (cc := cX2_init) (maxL := 3) (ret := none) (by decide) rfl (Nat.le_of_ble_eq_true rfl) ?_
  intro p e s m below meth c ls hx hb hr hml hown hts hlk hP hK hl hin
  obtain ⟨rfl, hP, hQ⟩ := hP
  have hP : va_P g.1 vwCl [(q, .inr (2, [.int (zi (0)), .null, .null, .int (zi (0)), .int (zi (0))]))] s.heap := hP
  have hD : va_D (va_A [(q, .inr (2, [.int (zi (0)), .null, .null, .int (zi (0)), .int (zi (0))]))] s.heap.size) [(q, .inr (2, [.int (zi (0)), .null, .null, .int (zi (0)), .int (zi (0))]))] := z_Dn (by simp)
  have hS : va_S (va_A [(q, .inr (2, [.int (zi (0)), .null, .null, .int (zi (0)), .int (zi (0))]))] s.heap.size) s.heap s.heap [] := va_S.rf
  have hA : ∀ x9 : Nat, s.heap.size ≤ x9 → (va_A [(q, .inr (2, [.int (zi (0)), .null, .null, .int (zi (0)), .int (zi (0))]))] s.heap.size) x9 := fun _ h => Or.inr h
  have hown : s.vm.findClass RX2 = some m.cls := hown
  have hin : meth.name = "<init>" := hin rfl
  have hl : lv_has ls 3 [(0, .ref q), (1, .int (zi (zn))), (2, .ref pa)] := hl
  have hiX1 : ∀ w ∈ u_ws RX1 TX1 3, w ∈ wsX2_init := by decide +kernel
  have hiX2 : ∀ w ∈ u_ws RX2 TX2 5, w ∈ wsX2_init := by decide +kernel
  refine lv_aload_n hx hb dX2_init_0 rfl (lv_at hl 0 rfl) ?_
  refine W.objInit hx hb hown (hts (.methodLink RX2 1 objectInit) (by decide +kernel)) (hts (.instanceMethod objectInit) (by decide +kernel)) (hts (.code objectInit ⟨#[0xb1]⟩ 1 none) (by decide +kernel)) rfl (by rw [hml]; exact hl.1) rfl dX2_init_1 (Nat.le_of_ble_eq_true rfl) (Nat.le_of_ble_eq_true rfl) ?_
  refine W.eq (g2 := F0 m 4 ls []) rfl ?_
  refine lv_aload_n hx hb dX2_init_4 rfl (lv_at hl 0 rfl) ?_
  refine va_new (ci := 1) (fs := [.int (zi (0)), .null, .null]) (C := RX1) (T := TX1) (N := 3) hx hb hts hiX1 tyX1 tyX1_ok hown (hts (.classLink RX2 7 RX1) (by decide +kernel)) (hts (.instantiable RX1 3) (by decide +kernel)) (hts (.initialized RX1) (by decide +kernel)) hK.1 hP hD hS hA rfl (fun j hj => by rcases (show j = 0 ∨ j = 1 ∨ j = 2 by omega) with rfl | rfl | rfl <;> rfl) (Nat.le_of_ble_eq_true rfl) (Nat.le_of_ble_eq_true rfl) dX2_init_5 (fun q5 H hP hD hS => ?_)
  have hP : va_P g.1 vwCl [(q, .inr (2, [.int (zi (0)), .null, .null, .int (zi (0)), .int (zi (0))])), (q5, .inr (1, [.int (zi (0)), .null, .null]))] H := hP
  have hD : va_D (va_A [(q, .inr (2, [.int (zi (0)), .null, .null, .int (zi (0)), .int (zi (0))]))] s.heap.size) [(q, .inr (2, [.int (zi (0)), .null, .null, .int (zi (0)), .int (zi (0))])), (q5, .inr (1, [.int (zi (0)), .null, .null]))] := hD
  refine W.widen (k := 1) (n := 3) (by omega) (by omega) ?_
  refine lv_dup hx hb dX2_init_8 rfl ?_
  have hS0 := hS
  refine wn_IN (host := RX3) (rest := [.ref q5, .ref q]) (As := []) ⟨hx, hb, hml, hown, hts⟩ (c_X1_init l g q5 _) ⟨va_cnB 0 hts ggX2_init_X1_init rfl rfl rfl (hK.2 _ (by decide +kernel)) (hts (.initialized RX1) (by decide +kernel)) (by decide +kernel) ⟨Nat.le_of_ble_eq_true rfl, Nat.le_of_ble_eq_true rfl⟩, rfl, hts (.instanceMethod yX1_init) (by decide +kernel)⟩ (hP.sub [1] rfl) trivial hK rfl hl.1 rfl (Nat.le_of_ble_eq_true rfl) dX2_init_9 ⟨Nat.le_of_ble_eq_true rfl, Nat.le_of_ble_eq_true rfl⟩ hS (va_free hD hS hA [1] rfl) (fun u9 H1 locs hP1 hD1 hz1 hk1 hS => ?_)
  obtain ⟨a9, b9⟩ := u9
  obtain ⟨hP, hD⟩ := va_join (wr := [(q, .inr (2, [.int (zi (0)), .null, .null, .int (zi (0)), .int (zi (0))]))]) (w1 := [(q5, .inr (1, [.int (zi (0)), .ref a9, .ref b9])), (a9, .inl (g.2.1, 12, .inl (fun j9 => zi ((fun _ => 0) j9)))), (b9, .inl (g.2.1, 12, .inl (fun j9 => zi ((fun _ => 0) j9))))]) hP hD [1] [0] rfl rfl (by decide) (by decide) hk1 (va_free hD hS0 hA [1] rfl) hP1 hD1
  generalize H1 = H at hP hS ⊢
  have hP : va_P g.1 vwCl [(q, .inr (2, [.int (zi (0)), .null, .null, .int (zi (0)), .int (zi (0))])), (q5, .inr (1, [.int (zi (0)), .ref a9, .ref b9])), (a9, .inl (g.2.1, 12, .inl (fun j9 => zi ((fun _ => 0) j9)))), (b9, .inl (g.2.1, 12, .inl (fun j9 => zi ((fun _ => 0) j9))))] H := hP
  have hD : va_D (va_A [(q, .inr (2, [.int (zi (0)), .null, .null, .int (zi (0)), .int (zi (0))]))] s.heap.size) [(q, .inr (2, [.int (zi (0)), .null, .null, .int (zi (0)), .int (zi (0))])), (q5, .inr (1, [.int (zi (0)), .ref a9, .ref b9])), (a9, .inl (g.2.1, 12, .inl (fun j9 => zi ((fun _ => 0) j9)))), (b9, .inl (g.2.1, 12, .inl (fun j9 => zi ((fun _ => 0) j9))))] := hD
  refine W.widen (k := 3) (n := 27) (by omega) (by omega) ?_
  refine z_put (v := .ref q5) hx hb hts hiX2 tyX2 tyX2_ok nmX2 hown hK hP hD hS 0 rfl rfl 2 (by decide) (hts (.fieldLink RX2 10 "HarmoniumDesk$Version" "score" "LHarmoniumDesk$Score;") (by decide +kernel)) rfl (Or.inr ⟨rfl, hin, rfl⟩) rfl rfl (Nat.le_of_ble_eq_true rfl) dX2_init_12 (fun H locs hP hD hS => ?_)
  have hP : va_P g.1 vwCl [(q, .inr (2, [.int (zi (0)), .null, .ref q5, .int (zi (0)), .int (zi (0))])), (q5, .inr (1, [.int (zi (0)), .ref a9, .ref b9])), (a9, .inl (g.2.1, 12, .inl (fun j9 => zi ((fun _ => 0) j9)))), (b9, .inl (g.2.1, 12, .inl (fun j9 => zi ((fun _ => 0) j9))))] H := hP
  have hD : va_D (va_A [(q, .inr (2, [.int (zi (0)), .null, .null, .int (zi (0)), .int (zi (0))]))] s.heap.size) [(q, .inr (2, [.int (zi (0)), .null, .ref q5, .int (zi (0)), .int (zi (0))])), (q5, .inr (1, [.int (zi (0)), .ref a9, .ref b9])), (a9, .inl (g.2.1, 12, .inl (fun j9 => zi ((fun _ => 0) j9)))), (b9, .inl (g.2.1, 12, .inl (fun j9 => zi ((fun _ => 0) j9))))] := hD
  refine lv_aload_n hx hb dX2_init_15 rfl (lv_at hl 0 rfl) ?_
  refine z_iconst hx hb dX2_init_16 ?_
  refine z_put (v := .int (zi (0))) hx hb hts hiX2 tyX2 tyX2_ok nmX2 hown hK hP hD hS 0 rfl rfl 3 (by decide) (hts (.fieldLink RX2 16 "HarmoniumDesk$Version" "fixed" "Z") (by decide +kernel)) rfl (Or.inl rfl) rfl rfl (Nat.le_of_ble_eq_true rfl) dX2_init_17 (fun H locs hP hD hS => ?_)
  have hP : va_P g.1 vwCl [(q, .inr (2, [.int (zi (0)), .null, .ref q5, .int (zi (0)), .int (zi (0))])), (q5, .inr (1, [.int (zi (0)), .ref a9, .ref b9])), (a9, .inl (g.2.1, 12, .inl (fun j9 => zi ((fun _ => 0) j9)))), (b9, .inl (g.2.1, 12, .inl (fun j9 => zi ((fun _ => 0) j9))))] H := hP
  have hD : va_D (va_A [(q, .inr (2, [.int (zi (0)), .null, .null, .int (zi (0)), .int (zi (0))]))] s.heap.size) [(q, .inr (2, [.int (zi (0)), .null, .ref q5, .int (zi (0)), .int (zi (0))])), (q5, .inr (1, [.int (zi (0)), .ref a9, .ref b9])), (a9, .inl (g.2.1, 12, .inl (fun j9 => zi ((fun _ => 0) j9)))), (b9, .inl (g.2.1, 12, .inl (fun j9 => zi ((fun _ => 0) j9))))] := hD
  refine lv_aload_n hx hb dX2_init_20 rfl (lv_at hl 0 rfl) ?_
  refine z_iconst hx hb dX2_init_21 ?_
  refine z_put (v := .int (zi (0))) hx hb hts hiX2 tyX2 tyX2_ok nmX2 hown hK hP hD hS 0 rfl rfl 4 (by decide) (hts (.fieldLink RX2 20 "HarmoniumDesk$Version" "passedWhenHandedIn" "Z") (by decide +kernel)) rfl (Or.inl rfl) rfl rfl (Nat.le_of_ble_eq_true rfl) dX2_init_22 (fun H locs hP hD hS => ?_)
  have hP : va_P g.1 vwCl [(q, .inr (2, [.int (zi (0)), .null, .ref q5, .int (zi (0)), .int (zi (0))])), (q5, .inr (1, [.int (zi (0)), .ref a9, .ref b9])), (a9, .inl (g.2.1, 12, .inl (fun j9 => zi ((fun _ => 0) j9)))), (b9, .inl (g.2.1, 12, .inl (fun j9 => zi ((fun _ => 0) j9))))] H := hP
  have hD : va_D (va_A [(q, .inr (2, [.int (zi (0)), .null, .null, .int (zi (0)), .int (zi (0))]))] s.heap.size) [(q, .inr (2, [.int (zi (0)), .null, .ref q5, .int (zi (0)), .int (zi (0))])), (q5, .inr (1, [.int (zi (0)), .ref a9, .ref b9])), (a9, .inl (g.2.1, 12, .inl (fun j9 => zi ((fun _ => 0) j9)))), (b9, .inl (g.2.1, 12, .inl (fun j9 => zi ((fun _ => 0) j9))))] := hD
  refine lv_aload_n hx hb dX2_init_25 rfl (lv_at hl 0 rfl) ?_
  refine lv_iload_n hx hb dX2_init_26 rfl (lv_at hl 1 rfl) ?_
  refine z_put (v := .int (zi (zn))) hx hb hts hiX2 tyX2 tyX2_ok nmX2 hown hK hP hD hS 0 rfl rfl 0 (by decide) (hts (.fieldLink RX2 23 "HarmoniumDesk$Version" "number" "I") (by decide +kernel)) rfl (Or.inr ⟨rfl, hin, rfl⟩) rfl rfl (Nat.le_of_ble_eq_true rfl) dX2_init_27 (fun H locs hP hD hS => ?_)
  have hP : va_P g.1 vwCl [(q, .inr (2, [.int (zi (zn)), .null, .ref q5, .int (zi (0)), .int (zi (0))])), (q5, .inr (1, [.int (zi (0)), .ref a9, .ref b9])), (a9, .inl (g.2.1, 12, .inl (fun j9 => zi ((fun _ => 0) j9)))), (b9, .inl (g.2.1, 12, .inl (fun j9 => zi ((fun _ => 0) j9))))] H := hP
  have hD : va_D (va_A [(q, .inr (2, [.int (zi (0)), .null, .null, .int (zi (0)), .int (zi (0))]))] s.heap.size) [(q, .inr (2, [.int (zi (zn)), .null, .ref q5, .int (zi (0)), .int (zi (0))])), (q5, .inr (1, [.int (zi (0)), .ref a9, .ref b9])), (a9, .inl (g.2.1, 12, .inl (fun j9 => zi ((fun _ => 0) j9)))), (b9, .inl (g.2.1, 12, .inl (fun j9 => zi ((fun _ => 0) j9))))] := hD
  refine lv_aload_n hx hb dX2_init_30 rfl (lv_at hl 0 rfl) ?_
  refine lv_aload_n hx hb dX2_init_31 rfl (lv_at hl 2 rfl) ?_
  refine z_put (v := .ref pa) hx hb hts hiX2 tyX2 tyX2_ok nmX2 hown hK hP hD hS 0 rfl rfl 1 (by decide) (hts (.fieldLink RX2 27 "HarmoniumDesk$Version" "parent" "LHarmoniumDesk$Version;") (by decide +kernel)) rfl (Or.inr ⟨rfl, hin, rfl⟩) rfl rfl (Nat.le_of_ble_eq_true rfl) dX2_init_32 (fun H locs hP hD hS => ?_)
  have hP : va_P g.1 vwCl [(q, .inr (2, [.int (zi (zn)), .ref pa, .ref q5, .int (zi (0)), .int (zi (0))])), (q5, .inr (1, [.int (zi (0)), .ref a9, .ref b9])), (a9, .inl (g.2.1, 12, .inl (fun j9 => zi ((fun _ => 0) j9)))), (b9, .inl (g.2.1, 12, .inl (fun j9 => zi ((fun _ => 0) j9))))] H := hP
  have hD : va_D (va_A [(q, .inr (2, [.int (zi (0)), .null, .null, .int (zi (0)), .int (zi (0))]))] s.heap.size) [(q, .inr (2, [.int (zi (zn)), .ref pa, .ref q5, .int (zi (0)), .int (zi (0))])), (q5, .inr (1, [.int (zi (0)), .ref a9, .ref b9])), (a9, .inl (g.2.1, 12, .inl (fun j9 => zi ((fun _ => 0) j9)))), (b9, .inl (g.2.1, 12, .inl (fun j9 => zi ((fun _ => 0) j9))))] := hD
  exact z_wnret (q5, a9, b9) hx hb hr hlk dX2_init_35 hP hD hS

set_option maxHeartbeats 4000000 in
set_option maxRecDepth 100000 in
theorem c_X0_takeVoice (l : Launch) (g : gG) (q a : Nat) (v n sl : Int) (hv : zr v) (f : Nat → Int) (hqa : q ≠ a) (q2 a2 b2 : Nat) (n2 : Int) (u2 lo2 : Nat → Int) (hu2 : Nt u2) (hlo2 : Nt lo2) (hap : q2 ∉ [q, a] ∧ a2 ∉ [q, a] ∧ b2 ∉ [q, a]) (w : Nat → Int) (hw0 : v = 0 → w = u2) (hw1 : ¬ v = 0 → w = lo2) (nb : Nat) (hn : n = (nb : Int)) (hnb : nb ≤ 12) (sz : Nat) : WV l yX0_takeVoice wsX0_takeVoice ({ frames := 1, cells := 0, slots := 0, locals := 23 }) g [.ref q, .ref q2] sz [(q, .inr (0, [.int (zi (v)), .int (zi (n)), .ref a, .int (zi (sl))])), (a, .inl (g.2.1, 12, .inl (fun j9 => zi ((f) j9))))] (fun H => ScP g q2 a2 b2 n2 u2 lo2 H) ([(q, .inr (0, [.int (zi (v)), .int (zi (n)), .ref a, .int (zi (sl))])), (a, .inl (g.2.1, 12, .inl (fun j9 => zi ((mx nb w f) j9))))]) := by
  refine ZM.ofW (cc := cX0_takeVoice) (maxL := 3) (ret := none) (by decide) rfl (Nat.le_of_ble_eq_true rfl) ?_
  intro p e s m below meth c ls hx hb hr hml hown hts hlk hP hK hl hin
  obtain ⟨rfl, hP, hQ⟩ := hP
  have hP : va_P g.1 vwCl [(q, .inr (0, [.int (zi (v)), .int (zi (n)), .ref a, .int (zi (sl))])), (a, .inl (g.2.1, 12, .inl (fun j9 => zi ((f) j9))))] s.heap := hP
  have hD : va_D (va_A [(q, .inr (0, [.int (zi (v)), .int (zi (n)), .ref a, .int (zi (sl))])), (a, .inl (g.2.1, 12, .inl (fun j9 => zi ((f) j9))))] s.heap.size) [(q, .inr (0, [.int (zi (v)), .int (zi (n)), .ref a, .int (zi (sl))])), (a, .inl (g.2.1, 12, .inl (fun j9 => zi ((f) j9))))] := z_Dn (by simp [hqa])
  have hS : va_S (va_A [(q, .inr (0, [.int (zi (v)), .int (zi (n)), .ref a, .int (zi (sl))])), (a, .inl (g.2.1, 12, .inl (fun j9 => zi ((f) j9))))] s.heap.size) s.heap s.heap [] := va_S.rf
  have hA : ∀ x9 : Nat, s.heap.size ≤ x9 → (va_A [(q, .inr (0, [.int (zi (v)), .int (zi (n)), .ref a, .int (zi (sl))])), (a, .inl (g.2.1, 12, .inl (fun j9 => zi ((f) j9))))] s.heap.size) x9 := fun _ h => Or.inr h
  have hown : s.vm.findClass RX0 = some m.cls := hown
  have hl : lv_has ls 3 [(0, .ref q), (1, .ref q2)] := hl
  have hiX0 : ∀ w ∈ u_ws RX0 TX0 4, w ∈ wsX0_takeVoice := by decide +kernel
  have nA1 : ¬ (va_A [(q, .inr (0, [.int (zi (v)), .int (zi (n)), .ref a, .int (zi (sl))])), (a, .inl (g.2.1, 12, .inl (fun j9 => zi ((f) j9))))] s.heap.size) q2 := z_nA hQ.lt.1 hap.1
  have nA2 : ¬ (va_A [(q, .inr (0, [.int (zi (v)), .int (zi (n)), .ref a, .int (zi (sl))])), (a, .inl (g.2.1, 12, .inl (fun j9 => zi ((f) j9))))] s.heap.size) a2 := z_nA hQ.lt.2.1 hap.2.1
  have nA3 : ¬ (va_A [(q, .inr (0, [.int (zi (v)), .int (zi (n)), .ref a, .int (zi (sl))])), (a, .inl (g.2.1, 12, .inl (fun j9 => zi ((f) j9))))] s.heap.size) b2 := z_nA hQ.lt.2.2 hap.2.2
  refine z_iconst hx hb dX0_takeVoice_0 ?_
  refine z_top (b := ((0 : Nat) : Int)) (rfl) ?_
  refine lv_istore_n (lv' := [(2, .int (zi (((0 : Nat) : Int)))), (0, .ref q), (1, .ref q2)]) hx hb dX0_takeVoice_1 rfl hl (by decide) rfl (fun ls hl => ?_)
  have loop2 : ∀ (d j : Nat), j ≤ nb → nb - j = d → ∀ (H : Heap) (locs : List Loc), va_P g.1 vwCl [(q, .inr (0, [.int (zi (v)), .int (zi (n)), .ref a, .int (zi (sl))])), (a, .inl (g.2.1, 12, .inl (fun j9 => zi ((mx j w f) j9))))] H → va_S (va_A [(q, .inr (0, [.int (zi (v)), .int (zi (n)), .ref a, .int (zi (sl))])), (a, .inl (g.2.1, 12, .inl (fun j9 => zi ((f) j9))))] s.heap.size) s.heap H locs → ∀ ls : Array Slot, lv_has ls 3 [(2, .int (zi ((j : Int)))), (0, .ref q), (1, .ref q2)] → W p l e ({ frames := 1, cells := 0, slots := 0, locals := 23 }) s m ([.ref q, .ref q2] : List Value).toArray below meth c H locs 0 0 (MQ below (va_Qv (fun _ : Unit => True) (fun _ t9 => va_P g.1 vwCl ([(q, .inr (0, [.int (zi (v)), .int (zi (n)), .ref a, .int (zi (sl))])), (a, .inl (g.2.1, 12, .inl (fun j9 => zi ((mx nb w f) j9))))]) t9.heap) (va_A [(q, .inr (0, [.int (zi (v)), .int (zi (n)), .ref a, .int (zi (sl))])), (a, .inl (g.2.1, 12, .inl (fun j9 => zi ((f) j9))))] s.heap.size)) ([.ref q, .ref q2] : List Value).toArray s 0 0 (va_A [(q, .inr (0, [.int (zi (v)), .int (zi (n)), .ref a, .int (zi (sl))])), (a, .inl (g.2.1, 12, .inl (fun j9 => zi ((f) j9))))] s.heap.size)) (F0 m 2 ls []) := by
    intro d
    induction d with
    | zero =>
      intro j hj hd2 H locs hP hS ls hl
      have ej : j = nb := by omega
      have hD : va_D (va_A [(q, .inr (0, [.int (zi (v)), .int (zi (n)), .ref a, .int (zi (sl))])), (a, .inl (g.2.1, 12, .inl (fun j9 => zi ((f) j9))))] s.heap.size) [(q, .inr (0, [.int (zi (v)), .int (zi (n)), .ref a, .int (zi (sl))])), (a, .inl (g.2.1, 12, .inl (fun j9 => zi ((mx j w f) j9))))] := z_D hD rfl
      refine lv_iload_n hx hb dX0_takeVoice_2 rfl (lv_at hl 0 rfl) ?_
      refine lv_aload_n hx hb dX0_takeVoice_3 rfl (lv_at hl 1 rfl) ?_
      refine z_get (C := RX0) (T := TX0) (N := 4) hx hb hts hiX0 hown hK (hP 0 _ rfl) rfl 1 (by decide) (hts (.fieldLink RX0 27 "HarmoniumDesk$Copy" "bars" "I") (by decide +kernel)) rfl rfl dX0_takeVoice_4 ?_
      refine z_icmp_ge (tgt := 40) hx hb dX0_takeVoice_7 (by decide) (by omega) (by omega) (fun h7 => ?_) (fun h7 => ?_)
      ·
        exact z_wvret hx hb hr hlk dX0_takeVoice_40 (by rw [← ej]; exact hP) hS
      · exfalso; omega
    | succ d ih =>
      intro j hj hd2 H locs hP hS ls hl
      have hD : va_D (va_A [(q, .inr (0, [.int (zi (v)), .int (zi (n)), .ref a, .int (zi (sl))])), (a, .inl (g.2.1, 12, .inl (fun j9 => zi ((f) j9))))] s.heap.size) [(q, .inr (0, [.int (zi (v)), .int (zi (n)), .ref a, .int (zi (sl))])), (a, .inl (g.2.1, 12, .inl (fun j9 => zi ((mx j w f) j9))))] := z_D hD rfl
      refine lv_iload_n hx hb dX0_takeVoice_2 rfl (lv_at hl 0 rfl) ?_
      refine lv_aload_n hx hb dX0_takeVoice_3 rfl (lv_at hl 1 rfl) ?_
      refine z_get (C := RX0) (T := TX0) (N := 4) hx hb hts hiX0 hown hK (hP 0 _ rfl) rfl 1 (by decide) (hts (.fieldLink RX0 27 "HarmoniumDesk$Copy" "bars" "I") (by decide +kernel)) rfl rfl dX0_takeVoice_4 ?_
      refine z_icmp_ge (tgt := 40) hx hb dX0_takeVoice_7 (by decide) (by omega) (by omega) (fun h7 => ?_) (fun h7 => ?_)
      · exfalso; omega
      ·
        refine lv_iload_n hx hb dX0_takeVoice_10 rfl (lv_at hl 0 rfl) ?_
        refine lv_aload_n hx hb dX0_takeVoice_11 rfl (lv_at hl 1 rfl) ?_
        refine z_get (C := RX0) (T := TX0) (N := 4) hx hb hts hiX0 hown hK (hP 0 _ rfl) rfl 2 (by decide) (hts (.fieldLink RX0 9 "HarmoniumDesk$Copy" "tones" "[I") (by decide +kernel)) rfl rfl dX0_takeVoice_12 ?_
        refine z_alen hx hb hK (hP 1 _ rfl) 0 rfl dX0_takeVoice_15 ?_
        refine z_icmp_ge (tgt := 40) hx hb dX0_takeVoice_16 (by decide) (by omega) (by omega) (fun h16 => ?_) (fun h16 => ?_)
        · exfalso; omega
        ·
          refine lv_aload_n hx hb dX0_takeVoice_19 rfl (lv_at hl 1 rfl) ?_
          refine z_get (C := RX0) (T := TX0) (N := 4) hx hb hts hiX0 hown hK (hP 0 _ rfl) rfl 2 (by decide) (hts (.fieldLink RX0 9 "HarmoniumDesk$Copy" "tones" "[I") (by decide +kernel)) rfl rfl dX0_takeVoice_20 ?_
          refine lv_iload_n hx hb dX0_takeVoice_23 rfl (lv_at hl 0 rfl) ?_
          refine lv_aload_n hx hb dX0_takeVoice_24 rfl (lv_at hl 2 rfl) ?_
          refine lv_aload_n hx hb dX0_takeVoice_25 rfl (lv_at hl 1 rfl) ?_
          refine z_get (C := RX0) (T := TX0) (N := 4) hx hb hts hiX0 hown hK (hP 0 _ rfl) rfl 0 (by decide) (hts (.fieldLink RX0 19 "HarmoniumDesk$Copy" "voice" "I") (by decide +kernel)) rfl rfl dX0_takeVoice_26 ?_
          refine lv_iload_n hx hb dX0_takeVoice_29 rfl (lv_at hl 0 rfl) ?_
          refine ro_V (rest := [.int (zi ((j : Int))), .ref a]) (As := [.int (zi (v)), .int (zi ((j : Int)))]) ⟨hx, hb, hml, hown, hts⟩ (c_X1_tone l g q2 a2 b2 n2 u2 lo2 hu2 hlo2 (v) hv j (by omega) ((j : Int)) (by omega) (w j) (fun h => by rw [hw0 h]) (fun h => by rw [hw1 h])) (cwV 2 hts gX0_takeVoice_X1_tone rfl rfl rfl (by decide +kernel) ⟨Nat.le_of_ble_eq_true rfl, Nat.le_of_ble_eq_true rfl⟩) (z_recv hK (ScP.stay hQ hS nA1 nA2 nA3).1 rfl) (ScP.stay hQ hS nA1 nA2 nA3) hK rfl hl.1 rfl (Nat.le_of_ble_eq_true rfl) dX0_takeVoice_30 ⟨Nat.le_of_ble_eq_true rfl, Nat.le_of_ble_eq_true rfl⟩ ?_
          refine z_iast (f := mx j w f) (x := w j) hx hb hK hP hD hS 1 rfl (j) (by omega) (by omega) (by decide) dX0_takeVoice_33 (fun H locs hP hD hS => ?_)
          have hP : va_P g.1 vwCl [(q, .inr (0, [.int (zi (v)), .int (zi (n)), .ref a, .int (zi (sl))])), (a, .inl (g.2.1, 12, .inl (fun j9 => zi ((va_up (mx j w f) (j) (w j)) j9))))] H := hP
          have hD : va_D (va_A [(q, .inr (0, [.int (zi (v)), .int (zi (n)), .ref a, .int (zi (sl))])), (a, .inl (g.2.1, 12, .inl (fun j9 => zi ((f) j9))))] s.heap.size) [(q, .inr (0, [.int (zi (v)), .int (zi (n)), .ref a, .int (zi (sl))])), (a, .inl (g.2.1, 12, .inl (fun j9 => zi ((va_up (mx j w f) (j) (w j)) j9))))] := hD
          refine z_iinc (b := ((j + 1 : Nat) : Int)) (lv' := [(2, .int (zi (((j + 1 : Nat) : Int)))), (0, .ref q), (1, .ref q2)]) hx hb dX0_takeVoice_34 hl (k := 0) rfl (by omega) (by decide) rfl (fun ls hl => ?_)
          refine lv_goto (tgt := 2) hx hb dX0_takeVoice_37 (by decide) ?_
          rw [mx_s] at hP
          exact ih (j + 1) (by omega) (by omega) H locs hP hS ls (lv_sub hl [0, 1, 2] rfl)
  rw [← mx_0 w f] at hP
  exact loop2 _ 0 (by omega) rfl _ _ hP hS ls (lv_sub hl [0, 1, 2] rfl)

set_option maxHeartbeats 4000000 in
set_option maxRecDepth 100000 in
theorem c_X0_init (l : Launch) (g : gG) (q : Nat) (v : Int) (hv : zr v) (q2 a2 b2 : Nat) (n2 : Int) (u2 lo2 : Nat → Int) (hu2 : Nt u2) (hlo2 : Nt lo2) (hap : q2 ∉ [q] ∧ a2 ∉ [q] ∧ b2 ∉ [q]) (w : Nat → Int) (hw0 : v = 0 → w = u2) (hw1 : ¬ v = 0 → w = lo2) (nb : Nat) (hn2 : n2 = (nb : Int)) (hnb : nb ≤ 12) (sz : Nat) : WN (S := Nat) l yX0_init wsX0_init ({ frames := 2, cells := 1, slots := 12, locals := 45 }) g [.ref q, .int (zi (v)), .ref q2] sz [(q, .inr (0, [.int (zi (0)), .int (zi (0)), .null, .int (zi (0))]))] (fun H => ScP g q2 a2 b2 n2 u2 lo2 H) (fun x => [(q, .inr (0, [.int (zi (v)), .int (zi (n2)), .ref x, .int (zi (0))])), (x, .inl (g.2.1, 12, .inl (fun j9 => zi ((mx nb w (fun _ => 0)) j9))))]) 1 12 := by
  refine ZM.ofW (cc := cX0_init) (maxL := 3) (ret := none) (by decide) rfl (Nat.le_of_ble_eq_true rfl) ?_
  intro p e s m below meth c ls hx hb hr hml hown hts hlk hP hK hl hin
  obtain ⟨rfl, hP, hQ⟩ := hP
  have hP : va_P g.1 vwCl [(q, .inr (0, [.int (zi (0)), .int (zi (0)), .null, .int (zi (0))]))] s.heap := hP
  have hD : va_D (va_A [(q, .inr (0, [.int (zi (0)), .int (zi (0)), .null, .int (zi (0))]))] s.heap.size) [(q, .inr (0, [.int (zi (0)), .int (zi (0)), .null, .int (zi (0))]))] := z_Dn (by simp)
  have hS : va_S (va_A [(q, .inr (0, [.int (zi (0)), .int (zi (0)), .null, .int (zi (0))]))] s.heap.size) s.heap s.heap [] := va_S.rf
  have hA : ∀ x9 : Nat, s.heap.size ≤ x9 → (va_A [(q, .inr (0, [.int (zi (0)), .int (zi (0)), .null, .int (zi (0))]))] s.heap.size) x9 := fun _ h => Or.inr h
  have hown : s.vm.findClass RX0 = some m.cls := hown
  have hin : meth.name = "<init>" := hin rfl
  have hl : lv_has ls 3 [(0, .ref q), (1, .int (zi (v))), (2, .ref q2)] := hl
  have hiX0 : ∀ w ∈ u_ws RX0 TX0 4, w ∈ wsX0_init := by decide +kernel
  have hiX1 : ∀ w ∈ u_ws RX1 TX1 3, w ∈ wsX0_init := by decide +kernel
  have nA1 : ¬ (va_A [(q, .inr (0, [.int (zi (0)), .int (zi (0)), .null, .int (zi (0))]))] s.heap.size) q2 := z_nA hQ.lt.1 hap.1
  have nA2 : ¬ (va_A [(q, .inr (0, [.int (zi (0)), .int (zi (0)), .null, .int (zi (0))]))] s.heap.size) a2 := z_nA hQ.lt.2.1 hap.2.1
  have nA3 : ¬ (va_A [(q, .inr (0, [.int (zi (0)), .int (zi (0)), .null, .int (zi (0))]))] s.heap.size) b2 := z_nA hQ.lt.2.2 hap.2.2
  refine lv_aload_n hx hb dX0_init_0 rfl (lv_at hl 0 rfl) ?_
  refine W.objInit hx hb hown (hts (.methodLink RX0 3 objectInit) (by decide +kernel)) (hts (.instanceMethod objectInit) (by decide +kernel)) (hts (.code objectInit ⟨#[0xb1]⟩ 1 none) (by decide +kernel)) rfl (by rw [hml]; exact hl.1) rfl dX0_init_1 (Nat.le_of_ble_eq_true rfl) (Nat.le_of_ble_eq_true rfl) ?_
  refine W.eq (g2 := F0 m 4 ls []) rfl ?_
  refine lv_aload_n hx hb dX0_init_4 rfl (lv_at hl 0 rfl) ?_
  refine z_bipush hx hb dX0_init_5 (by decide) ?_
  refine z_newi hx hb (hts (.arrayClass .int) (by decide +kernel)) hK hP hD hS hA 12 rfl (by decide) (Nat.le_of_ble_eq_true rfl) (Nat.le_of_ble_eq_true rfl) dX0_init_7 (fun q7 H hP hD hS => ?_)
  have hP : va_P g.1 vwCl [(q, .inr (0, [.int (zi (0)), .int (zi (0)), .null, .int (zi (0))])), (q7, .inl (g.2.1, 12, .inl (fun j9 => zi ((fun _ => 0) j9))))] H := hP
  have hD : va_D (va_A [(q, .inr (0, [.int (zi (0)), .int (zi (0)), .null, .int (zi (0))]))] s.heap.size) [(q, .inr (0, [.int (zi (0)), .int (zi (0)), .null, .int (zi (0))])), (q7, .inl (g.2.1, 12, .inl (fun j9 => zi ((fun _ => 0) j9))))] := hD
  refine W.widen (k := 1) (n := 12) (by omega) (by omega) ?_
  refine z_put (v := .ref q7) hx hb hts hiX0 tyX0 tyX0_ok nmX0 hown hK hP hD hS 0 rfl rfl 2 (by decide) (hts (.fieldLink RX0 9 "HarmoniumDesk$Copy" "tones" "[I") (by decide +kernel)) rfl (Or.inr ⟨rfl, hin, rfl⟩) rfl rfl (Nat.le_of_ble_eq_true rfl) dX0_init_9 (fun H locs hP hD hS => ?_)
  have hP : va_P g.1 vwCl [(q, .inr (0, [.int (zi (0)), .int (zi (0)), .ref q7, .int (zi (0))])), (q7, .inl (g.2.1, 12, .inl (fun j9 => zi ((fun _ => 0) j9))))] H := hP
  have hD : va_D (va_A [(q, .inr (0, [.int (zi (0)), .int (zi (0)), .null, .int (zi (0))]))] s.heap.size) [(q, .inr (0, [.int (zi (0)), .int (zi (0)), .ref q7, .int (zi (0))])), (q7, .inl (g.2.1, 12, .inl (fun j9 => zi ((fun _ => 0) j9))))] := hD
  refine lv_aload_n hx hb dX0_init_12 rfl (lv_at hl 0 rfl) ?_
  refine z_iconst hx hb dX0_init_13 ?_
  refine z_put (v := .int (zi (0))) hx hb hts hiX0 tyX0 tyX0_ok nmX0 hown hK hP hD hS 0 rfl rfl 3 (by decide) (hts (.fieldLink RX0 15 "HarmoniumDesk$Copy" "slipCount" "I") (by decide +kernel)) rfl (Or.inl rfl) rfl rfl (Nat.le_of_ble_eq_true rfl) dX0_init_14 (fun H locs hP hD hS => ?_)
  have hP : va_P g.1 vwCl [(q, .inr (0, [.int (zi (0)), .int (zi (0)), .ref q7, .int (zi (0))])), (q7, .inl (g.2.1, 12, .inl (fun j9 => zi ((fun _ => 0) j9))))] H := hP
  have hD : va_D (va_A [(q, .inr (0, [.int (zi (0)), .int (zi (0)), .null, .int (zi (0))]))] s.heap.size) [(q, .inr (0, [.int (zi (0)), .int (zi (0)), .ref q7, .int (zi (0))])), (q7, .inl (g.2.1, 12, .inl (fun j9 => zi ((fun _ => 0) j9))))] := hD
  refine lv_aload_n hx hb dX0_init_17 rfl (lv_at hl 0 rfl) ?_
  refine lv_iload_n hx hb dX0_init_18 rfl (lv_at hl 1 rfl) ?_
  refine z_put (v := .int (zi (v))) hx hb hts hiX0 tyX0 tyX0_ok nmX0 hown hK hP hD hS 0 rfl rfl 0 (by decide) (hts (.fieldLink RX0 19 "HarmoniumDesk$Copy" "voice" "I") (by decide +kernel)) rfl (Or.inr ⟨rfl, hin, rfl⟩) rfl rfl (Nat.le_of_ble_eq_true rfl) dX0_init_19 (fun H locs hP hD hS => ?_)
  have hP : va_P g.1 vwCl [(q, .inr (0, [.int (zi (v)), .int (zi (0)), .ref q7, .int (zi (0))])), (q7, .inl (g.2.1, 12, .inl (fun j9 => zi ((fun _ => 0) j9))))] H := hP
  have hD : va_D (va_A [(q, .inr (0, [.int (zi (0)), .int (zi (0)), .null, .int (zi (0))]))] s.heap.size) [(q, .inr (0, [.int (zi (v)), .int (zi (0)), .ref q7, .int (zi (0))])), (q7, .inl (g.2.1, 12, .inl (fun j9 => zi ((fun _ => 0) j9))))] := hD
  refine lv_aload_n hx hb dX0_init_22 rfl (lv_at hl 0 rfl) ?_
  refine lv_aload_n hx hb dX0_init_23 rfl (lv_at hl 2 rfl) ?_
  refine z_getN (C := RX1) (T := TX1) (N := 3) (ref := "HarmoniumDesk$Score") (host := RX3) hx hb hts hiX1 hown hK (ScP.stay hQ hS nA1 nA2 nA3).1 rfl 0 (by decide) (by decide +kernel) rfl rfl dX0_init_24 ?_
  refine z_put (v := .int (zi (n2))) hx hb hts hiX0 tyX0 tyX0_ok nmX0 hown hK hP hD hS 0 rfl rfl 1 (by decide) (hts (.fieldLink RX0 27 "HarmoniumDesk$Copy" "bars" "I") (by decide +kernel)) rfl (Or.inr ⟨rfl, hin, rfl⟩) rfl rfl (Nat.le_of_ble_eq_true rfl) dX0_init_27 (fun H locs hP hD hS => ?_)
  have hP : va_P g.1 vwCl [(q, .inr (0, [.int (zi (v)), .int (zi (n2)), .ref q7, .int (zi (0))])), (q7, .inl (g.2.1, 12, .inl (fun j9 => zi ((fun _ => 0) j9))))] H := hP
  have hD : va_D (va_A [(q, .inr (0, [.int (zi (0)), .int (zi (0)), .null, .int (zi (0))]))] s.heap.size) [(q, .inr (0, [.int (zi (v)), .int (zi (n2)), .ref q7, .int (zi (0))])), (q7, .inl (g.2.1, 12, .inl (fun j9 => zi ((fun _ => 0) j9))))] := hD
  have hq9 : q ≠ q7 := fun e => absurd (hD.1 0 1 _ _ rfl rfl e) (by decide)
  have hnew : ¬ q7 < s.heap.size := (z_inA (hD.2 1 _ rfl)).elim (fun h => absurd (List.mem_singleton.mp h).symm hq9) (fun h => Nat.not_lt.mpr h)
  have hap9 : ∀ x, x < s.heap.size → x ∉ [q] → x ∉ [q, q7] := fun x hx hn hm => by
    rcases List.mem_cons.mp hm with h | h
    · exact hn (by rw [h]; exact List.mem_cons_self)
    · exact hnew (by rw [← List.mem_singleton.mp h]; exact hx)
  refine lv_aload_n hx hb dX0_init_30 rfl (lv_at hl 0 rfl) ?_
  refine lv_aload_n hx hb dX0_init_31 rfl (lv_at hl 2 rfl) ?_
  refine wv_V (rest := []) (As := [.ref q2]) ⟨hx, hb, hml, hown, hts⟩ (c_X0_takeVoice l g q q7 v n2 0 hv (fun _ => 0) hq9 q2 a2 b2 n2 u2 lo2 hu2 hlo2 ⟨hap9 q2 hQ.lt.1 hap.1, hap9 a2 hQ.lt.2.1 hap.2.1, hap9 b2 hQ.lt.2.2 hap.2.2⟩ w hw0 hw1 nb hn2 hnb _) (cwV 1 hts gX0_init_X0_takeVoice rfl rfl rfl (by decide +kernel) ⟨Nat.le_of_ble_eq_true rfl, Nat.le_of_ble_eq_true rfl⟩) (z_recv hK (hP 0 _ rfl) rfl) hP (ScP.stay hQ hS nA1 nA2 nA3) hK rfl hl.1 rfl (Nat.le_of_ble_eq_true rfl) dX0_init_32 ⟨Nat.le_of_ble_eq_true rfl, Nat.le_of_ble_eq_true rfl⟩ hS (va_free hD hS hA [0, 1] rfl) (fun H1 locs hP1 hz1 hk1 hS => ?_)
  have hP := hP1
  have hD : va_D (va_A [(q, .inr (0, [.int (zi (0)), .int (zi (0)), .null, .int (zi (0))]))] s.heap.size) [(q, .inr (0, [.int (zi (v)), .int (zi (n2)), .ref q7, .int (zi (0))])), (q7, .inl (g.2.1, 12, .inl (fun j9 => zi ((mx nb w (fun _ => 0)) j9))))] := z_D hD rfl
  generalize H1 = H at hP hS ⊢
  have hP : va_P g.1 vwCl [(q, .inr (0, [.int (zi (v)), .int (zi (n2)), .ref q7, .int (zi (0))])), (q7, .inl (g.2.1, 12, .inl (fun j9 => zi ((mx nb w (fun _ => 0)) j9))))] H := hP
  have hD : va_D (va_A [(q, .inr (0, [.int (zi (0)), .int (zi (0)), .null, .int (zi (0))]))] s.heap.size) [(q, .inr (0, [.int (zi (v)), .int (zi (n2)), .ref q7, .int (zi (0))])), (q7, .inl (g.2.1, 12, .inl (fun j9 => zi ((mx nb w (fun _ => 0)) j9))))] := hD
  exact z_wnret q7 hx hb hr hlk dX0_init_35 hP hD hS

def dB (w f : Nat → Int) : Nat → Bool := fun j => decide (¬ f j = w j)

set_option maxHeartbeats 4000000 in
set_option maxRecDepth 100000 in
theorem c_X0_differingBars (l : Launch) (g : gG) (q a : Nat) (v n sl : Int) (hv : zr v) (f : Nat → Int) (hf : Nt f) (q2 a2 b2 : Nat) (n2 : Int) (u2 lo2 : Nat → Int) (hu2 : Nt u2) (hlo2 : Nt lo2) (w : Nat → Int) (hw0 : v = 0 → w = u2) (hw1 : ¬ v = 0 → w = lo2) (nb : Nat) (hn : n = (nb : Int)) (hnb : nb ≤ 12) : RO l yX0_differingBars wsX0_differingBars ({ frames := 1, cells := 0, slots := 0, locals := 23 }) g [.ref q, .ref q2] (fun H => va_at g.1 vwCl (q, .inr (0, [.int (zi v), .int (zi n), .ref a, .int (zi sl)])) H ∧ va_at g.1 vwCl (a, .inl (g.2.1, 12, .inl (fun j => zi (f j)))) H ∧ ScP g q2 a2 b2 n2 u2 lo2 H) ((sset (dB w f) nb).toInt) := by
  refine RO.ofW (cc := cX0_differingBars) (maxL := 4) (ret := (some .int)) (by decide) rfl (Nat.le_of_ble_eq_true rfl) ?_
  intro p e s m below meth c ls hx hb hr hml hown hts hlk hP hK hl
  have hown : s.vm.findClass RX0 = some m.cls := hown
  have hl : lv_has ls 4 [(0, .ref q), (1, .ref q2)] := hl
  have hiX0 : ∀ w ∈ u_ws RX0 TX0 4, w ∈ wsX0_differingBars := by decide +kernel
  have hwN : Nt w := if h : v = 0 then by rw [hw0 h]; exact hu2 else by rw [hw1 h]; exact hlo2
  refine z_iconst hx hb dX0_differingBars_0 ?_
  refine z_xtop (y := sset (dB w f) 0) (rfl) ?_
  refine lv_istore_n (lv' := [(2, .int (sset (dB w f) 0)), (0, .ref q), (1, .ref q2)]) hx hb dX0_differingBars_1 rfl hl (by decide) rfl (fun ls hl => ?_)
  refine z_iconst hx hb dX0_differingBars_2 ?_
  refine z_top (b := ((0 : Nat) : Int)) (rfl) ?_
  refine lv_istore_n (lv' := [(3, .int (zi (((0 : Nat) : Int)))), (2, .int (sset (dB w f) 0)), (0, .ref q), (1, .ref q2)]) hx hb dX0_differingBars_3 rfl hl (by decide) rfl (fun ls hl => ?_)
  have loop4 : ∀ (d j : Nat), j ≤ nb → nb - j = d → ∀ ls : Array Slot, lv_has ls 4 [(3, .int (zi ((j : Int)))), (2, .int (sset (dB w f) j)), (0, .ref q), (1, .ref q2)] → W p l e ({ frames := 1, cells := 0, slots := 0, locals := 23 }) s m ([.ref q, .ref q2] : List Value).toArray below meth c s.heap [] 0 0 (MQ below (vp_Si (fun z9 => z9 = zi ((sset (dB w f) nb).toInt))) ([.ref q, .ref q2] : List Value).toArray s 0 0 (fun _ => False)) (F0 m 4 ls []) := by
    intro d
    induction d with
    | zero =>
      intro j hj hd2 ls hl
      have ej : j = nb := by omega
      refine lv_iload_n hx hb dX0_differingBars_4 rfl (lv_at hl 0 rfl) ?_
      refine lv_aload_n hx hb dX0_differingBars_5 rfl (lv_at hl 2 rfl) ?_
      refine z_get (C := RX0) (T := TX0) (N := 4) hx hb hts hiX0 hown hK hP.1 rfl 1 (by decide) (hts (.fieldLink RX0 27 "HarmoniumDesk$Copy" "bars" "I") (by decide +kernel)) rfl rfl dX0_differingBars_6 ?_
      refine z_icmp_ge (tgt := 51) hx hb dX0_differingBars_9 (by decide) (by omega) (by omega) (fun h9 => ?_) (fun h9 => ?_)
      ·
        refine lv_iload_n hx hb dX0_differingBars_51 rfl (lv_at hl 1 rfl) ?_
        refine z_xtop (y := zi ((sset (dB w f) nb).toInt)) (by rw [ej]; exact zi_of _) ?_
        exact z_iret hx hb hr hlk dX0_differingBars_52 (rfl)
      · exfalso; omega
    | succ d ih =>
      intro j hj hd2 ls hl
      have f1 := hf j
      have f2 := hwN j
      refine lv_iload_n hx hb dX0_differingBars_4 rfl (lv_at hl 0 rfl) ?_
      refine lv_aload_n hx hb dX0_differingBars_5 rfl (lv_at hl 2 rfl) ?_
      refine z_get (C := RX0) (T := TX0) (N := 4) hx hb hts hiX0 hown hK hP.1 rfl 1 (by decide) (hts (.fieldLink RX0 27 "HarmoniumDesk$Copy" "bars" "I") (by decide +kernel)) rfl rfl dX0_differingBars_6 ?_
      refine z_icmp_ge (tgt := 51) hx hb dX0_differingBars_9 (by decide) (by omega) (by omega) (fun h9 => ?_) (fun h9 => ?_)
      · exfalso; omega
      ·
        refine lv_iload_n hx hb dX0_differingBars_12 rfl (lv_at hl 0 rfl) ?_
        refine lv_aload_n hx hb dX0_differingBars_13 rfl (lv_at hl 2 rfl) ?_
        refine z_get (C := RX0) (T := TX0) (N := 4) hx hb hts hiX0 hown hK hP.1 rfl 2 (by decide) (hts (.fieldLink RX0 9 "HarmoniumDesk$Copy" "tones" "[I") (by decide +kernel)) rfl rfl dX0_differingBars_14 ?_
        refine z_alen hx hb hK hP.2.1 0 rfl dX0_differingBars_17 ?_
        refine z_icmp_ge (tgt := 51) hx hb dX0_differingBars_18 (by decide) (by omega) (by omega) (fun h18 => ?_) (fun h18 => ?_)
        · exfalso; omega
        ·
          refine lv_aload_n hx hb dX0_differingBars_21 rfl (lv_at hl 2 rfl) ?_
          refine z_get (C := RX0) (T := TX0) (N := 4) hx hb hts hiX0 hown hK hP.1 rfl 2 (by decide) (hts (.fieldLink RX0 9 "HarmoniumDesk$Copy" "tones" "[I") (by decide +kernel)) rfl rfl dX0_differingBars_22 ?_
          refine lv_iload_n hx hb dX0_differingBars_25 rfl (lv_at hl 0 rfl) ?_
          refine z_iald hx hb hK hP.2.1 (j) (by omega) (by omega) (by decide) dX0_differingBars_26 ?_
          refine lv_aload_n hx hb dX0_differingBars_27 rfl (lv_at hl 3 rfl) ?_
          refine lv_aload_n hx hb dX0_differingBars_28 rfl (lv_at hl 2 rfl) ?_
          refine z_get (C := RX0) (T := TX0) (N := 4) hx hb hts hiX0 hown hK hP.1 rfl 0 (by decide) (hts (.fieldLink RX0 19 "HarmoniumDesk$Copy" "voice" "I") (by decide +kernel)) rfl rfl dX0_differingBars_29 ?_
          refine lv_iload_n hx hb dX0_differingBars_32 rfl (lv_at hl 0 rfl) ?_
          refine ro_V (rest := [.int (zi (f (j)))]) (As := [.int (zi (v)), .int (zi ((j : Int)))]) ⟨hx, hb, hml, hown, hts⟩ (c_X1_tone l g q2 a2 b2 n2 u2 lo2 hu2 hlo2 (v) hv j (by omega) ((j : Int)) (by omega) (w j) (fun h => by rw [hw0 h]) (fun h => by rw [hw1 h])) (cwV 2 hts gX0_differingBars_X1_tone rfl rfl rfl (by decide +kernel) ⟨Nat.le_of_ble_eq_true rfl, Nat.le_of_ble_eq_true rfl⟩) (z_recv hK hP.2.2.1 rfl) hP.2.2 hK rfl hl.1 rfl (Nat.le_of_ble_eq_true rfl) dX0_differingBars_33 ⟨Nat.zero_le _, Nat.zero_le _⟩ ?_
          refine z_icmp_eq (tgt := 45) hx hb dX0_differingBars_36 (by decide) (by omega) (by omega) (fun h36 => ?_) (fun h36 => ?_)
          ·
            rw [show sset (dB w f) j = sset (dB w f) (j + 1) from (if_neg (fun hh => of_decide_eq_true (p := ¬ f j = w j) hh h36)).symm] at hl
            refine z_iinc (b := ((j + 1 : Nat) : Int)) (lv' := [(3, .int (zi (((j + 1 : Nat) : Int)))), (2, .int (sset (dB w f) (j + 1))), (0, .ref q), (1, .ref q2)]) hx hb dX0_differingBars_45 hl (k := 0) rfl (by omega) (by decide) rfl (fun ls hl => ?_)
            refine lv_goto (tgt := 4) hx hb dX0_differingBars_48 (by decide) ?_
            exact ih (j + 1) (by omega) (by omega) ls (lv_sub hl [0, 1, 2, 3] rfl)
          ·
            refine lv_iload_n hx hb dX0_differingBars_39 rfl (lv_at hl 1 rfl) ?_
            refine z_iconst hx hb dX0_differingBars_40 ?_
            refine lv_iload_n hx hb dX0_differingBars_41 rfl (lv_at hl 0 rfl) ?_
            refine lv_ishl hx hb dX0_differingBars_42 ?_
            refine lv_ior hx hb dX0_differingBars_43 ?_
            refine z_xtop (y := sset (dB w f) (j + 1)) (sset_t (dB w f) j (decide_eq_true h36)) ?_
            refine lv_istore_n (lv' := [(2, .int (sset (dB w f) (j + 1))), (3, .int (zi ((j : Int)))), (0, .ref q), (1, .ref q2)]) hx hb dX0_differingBars_44 rfl hl (by decide) rfl (fun ls hl => ?_)
            refine z_iinc (b := ((j + 1 : Nat) : Int)) (lv' := [(3, .int (zi (((j + 1 : Nat) : Int)))), (2, .int (sset (dB w f) (j + 1))), (0, .ref q), (1, .ref q2)]) hx hb dX0_differingBars_45 hl (k := 1) rfl (by omega) (by decide) rfl (fun ls hl => ?_)
            refine lv_goto (tgt := 4) hx hb dX0_differingBars_48 (by decide) ?_
            exact ih (j + 1) (by omega) (by omega) ls (lv_sub hl [0, 1, 2, 3] rfl)
  exact loop4 _ 0 (by omega) rfl ls (lv_sub hl [0, 1, 2, 3] rfl)
