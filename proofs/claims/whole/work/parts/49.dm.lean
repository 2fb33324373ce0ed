/-! ===== merge ===== -/
/-- where c says so f, else o, for the first k places -/
def mgv (c : Nat → Bool) (f o : Nat → Int) : Nat → Nat → Int
  | 0 => o
  | k + 1 => if c k = true then va_up (mgv c f o k) k (f k) else mgv c f o k
theorem mgv_t (c : Nat → Bool) (f o : Nat → Int) {k : Nat} (h : c k = true) : va_up (mgv c f o k) k (f k) = mgv c f o (k + 1) := (if_pos h).symm
theorem mgv_f (c : Nat → Bool) (f o : Nat → Int) {k : Nat} (h : ¬ c k = true) : mgv c f o k = mgv c f o (k + 1) := (if_neg h).symm
theorem mgv_at (c : Nat → Bool) (f o : Nat → Int) (x : Nat) : ∀ k : Nat, mgv c f o k x = if x < k ∧ c x = true then f x else o x := by
  intro k
  induction k with
  | zero => rw [if_neg (by omega)]; rfl
  | succ k ih =>
    unfold mgv
    by_cases hc : c k = true
    · rw [if_pos hc]
      by_cases e : x = k
      · subst e
        rw [if_pos ⟨by omega, hc⟩]
        exact if_pos rfl
      · rw [show va_up (mgv c f o k) k (f k) x = mgv c f o k x from if_neg e, ih]
        by_cases h : x < k ∧ c x = true
        · rw [if_pos h, if_pos ⟨by omega, h.2⟩]
        · rw [if_neg h, if_neg (fun h2 => h ⟨by omega, h2.2⟩)]
    · rw [if_neg hc, ih]
      by_cases h : x < k ∧ c x = true
      · rw [if_pos h, if_pos ⟨by omega, h.2⟩]
      · rw [if_neg h]
        rw [if_neg (fun h2 => by
          by_cases e : x = k
          · subst e; exact hc h2.2
          · exact h ⟨by omega, h2.2⟩)]
theorem mgv_Nt (c : Nat → Bool) {f o : Nat → Int} (hf : Nt f) (ho : Nt o) (k : Nat) : Nt (mgv c f o k) := fun x => by
  rw [mgv_at]
  split
  · exact hf x
  · exact ho x
/-- the bars where the first has what the base has -/
def sbB (u1 l1 u2 l2 : Nat → Int) : Nat → Bool := fun b => decide (Sb u1 l1 u2 l2 b)
set_option maxHeartbeats 4000000 in
set_option maxRecDepth 100000 in
theorem c_X3_mergeInto (l : Launch) (g : gG) (q a b : Nat) (n : Int) (u lo : Nat → Int) (hd3 : D3s q a b) (q2 a2 b2 : Nat) (n2 : Int) (u2 lo2 : Nat → Int) (hu2 : Nt u2) (hlo2 : Nt lo2) (hap2 : q2 ∉ [q, a, b] ∧ a2 ∉ [q, a, b] ∧ b2 ∉ [q, a, b]) (q3 a3 b3 : Nat) (n3 : Int) (u3 lo3 : Nat → Int) (hu3 : Nt u3) (hlo3 : Nt lo3) (hap3 : q3 ∉ [q, a, b] ∧ a3 ∉ [q, a, b] ∧ b3 ∉ [q, a, b]) (q4 a4 b4 : Nat) (n4 : Int) (u4 lo4 : Nat → Int) (hu4 : Nt u4) (hlo4 : Nt lo4) (hap4 : q4 ∉ [q, a, b] ∧ a4 ∉ [q, a, b] ∧ b4 ∉ [q, a, b]) (nb : Nat) (hn2 : n2 = (nb : Int)) (hnb : nb ≤ 12) (sz : Nat) : WV l yX3_mergeInto wsX3_mergeInto ({ frames := 3, cells := 0, slots := 0, locals := 68 }) g [.ref q, .ref q2, .ref q3, .ref q4] sz [(q, .inr (1, [.int (zi (n)), .ref a, .ref b])), (a, .inl (g.2.1, 12, .inl (fun j9 => zi ((u) j9)))), (b, .inl (g.2.1, 12, .inl (fun j9 => zi ((lo) j9))))] (fun H => ScP g q2 a2 b2 n2 u2 lo2 H ∧ ScP g q3 a3 b3 n3 u3 lo3 H ∧ ScP g q4 a4 b4 n4 u4 lo4 H) ([(q, .inr (1, [.int (zi (n2)), .ref a, .ref b])), (a, .inl (g.2.1, 12, .inl (fun j9 => zi ((mgv (sbB u2 lo2 u4 lo4) u3 (mx nb u2 u) nb) j9)))), (b, .inl (g.2.1, 12, .inl (fun j9 => zi ((mgv (sbB u2 lo2 u4 lo4) lo3 (mx nb lo2 lo) nb) j9))))]) := by
  refine ZM.ofW (cc := cX3_mergeInto) (maxL := 5) (ret := none) (by decide) rfl (Nat.le_of_ble_eq_true rfl) ?_
  intro p e s m below meth c ls hx hb hr hml hown hts hlk hP hK hl hin
  obtain ⟨rfl, hP, hQ⟩ := hP
  have hP : va_P g.1 vwCl [(q, .inr (1, [.int (zi (n)), .ref a, .ref b])), (a, .inl (g.2.1, 12, .inl (fun j9 => zi ((u) j9)))), (b, .inl (g.2.1, 12, .inl (fun j9 => zi ((lo) j9))))] s.heap := hP
  have hD : va_D (va_A [(q, .inr (1, [.int (zi (n)), .ref a, .ref b])), (a, .inl (g.2.1, 12, .inl (fun j9 => zi ((u) j9)))), (b, .inl (g.2.1, 12, .inl (fun j9 => zi ((lo) j9))))] s.heap.size) [(q, .inr (1, [.int (zi (n)), .ref a, .ref b])), (a, .inl (g.2.1, 12, .inl (fun j9 => zi ((u) j9)))), (b, .inl (g.2.1, 12, .inl (fun j9 => zi ((lo) j9))))] := z_Dn (D3s.n hd3)
  have hS : va_S (va_A [(q, .inr (1, [.int (zi (n)), .ref a, .ref b])), (a, .inl (g.2.1, 12, .inl (fun j9 => zi ((u) j9)))), (b, .inl (g.2.1, 12, .inl (fun j9 => zi ((lo) j9))))] s.heap.size) s.heap s.heap [] := va_S.rf
  have hA : ∀ x9 : Nat, s.heap.size ≤ x9 → (va_A [(q, .inr (1, [.int (zi (n)), .ref a, .ref b])), (a, .inl (g.2.1, 12, .inl (fun j9 => zi ((u) j9)))), (b, .inl (g.2.1, 12, .inl (fun j9 => zi ((lo) j9))))] s.heap.size) x9 := fun _ h => Or.inr h
  have hown : s.vm.findClass RX3 = some m.cls := hown
  have hl : lv_has ls 5 [(0, .ref q), (1, .ref q2), (2, .ref q3), (3, .ref q4)] := hl
  have hiX1 : ∀ w ∈ u_ws RX1 TX1 3, w ∈ wsX3_mergeInto := by decide +kernel
  have nA2 : ¬ (va_A [(q, .inr (1, [.int (zi (n)), .ref a, .ref b])), (a, .inl (g.2.1, 12, .inl (fun j9 => zi ((u) j9)))), (b, .inl (g.2.1, 12, .inl (fun j9 => zi ((lo) j9))))] s.heap.size) q2 := z_nA hQ.1.lt.1 hap2.1
  have nB2 : ¬ (va_A [(q, .inr (1, [.int (zi (n)), .ref a, .ref b])), (a, .inl (g.2.1, 12, .inl (fun j9 => zi ((u) j9)))), (b, .inl (g.2.1, 12, .inl (fun j9 => zi ((lo) j9))))] s.heap.size) a2 := z_nA hQ.1.lt.2.1 hap2.2.1
  have nC2 : ¬ (va_A [(q, .inr (1, [.int (zi (n)), .ref a, .ref b])), (a, .inl (g.2.1, 12, .inl (fun j9 => zi ((u) j9)))), (b, .inl (g.2.1, 12, .inl (fun j9 => zi ((lo) j9))))] s.heap.size) b2 := z_nA hQ.1.lt.2.2 hap2.2.2
  have nA3 : ¬ (va_A [(q, .inr (1, [.int (zi (n)), .ref a, .ref b])), (a, .inl (g.2.1, 12, .inl (fun j9 => zi ((u) j9)))), (b, .inl (g.2.1, 12, .inl (fun j9 => zi ((lo) j9))))] s.heap.size) q3 := z_nA hQ.2.1.lt.1 hap3.1
  have nB3 : ¬ (va_A [(q, .inr (1, [.int (zi (n)), .ref a, .ref b])), (a, .inl (g.2.1, 12, .inl (fun j9 => zi ((u) j9)))), (b, .inl (g.2.1, 12, .inl (fun j9 => zi ((lo) j9))))] s.heap.size) a3 := z_nA hQ.2.1.lt.2.1 hap3.2.1
  have nC3 : ¬ (va_A [(q, .inr (1, [.int (zi (n)), .ref a, .ref b])), (a, .inl (g.2.1, 12, .inl (fun j9 => zi ((u) j9)))), (b, .inl (g.2.1, 12, .inl (fun j9 => zi ((lo) j9))))] s.heap.size) b3 := z_nA hQ.2.1.lt.2.2 hap3.2.2
  have nA4 : ¬ (va_A [(q, .inr (1, [.int (zi (n)), .ref a, .ref b])), (a, .inl (g.2.1, 12, .inl (fun j9 => zi ((u) j9)))), (b, .inl (g.2.1, 12, .inl (fun j9 => zi ((lo) j9))))] s.heap.size) q4 := z_nA hQ.2.2.lt.1 hap4.1
  have nB4 : ¬ (va_A [(q, .inr (1, [.int (zi (n)), .ref a, .ref b])), (a, .inl (g.2.1, 12, .inl (fun j9 => zi ((u) j9)))), (b, .inl (g.2.1, 12, .inl (fun j9 => zi ((lo) j9))))] s.heap.size) a4 := z_nA hQ.2.2.lt.2.1 hap4.2.1
  have nC4 : ¬ (va_A [(q, .inr (1, [.int (zi (n)), .ref a, .ref b])), (a, .inl (g.2.1, 12, .inl (fun j9 => zi ((u) j9)))), (b, .inl (g.2.1, 12, .inl (fun j9 => zi ((lo) j9))))] s.heap.size) b4 := z_nA hQ.2.2.lt.2.2 hap4.2.2
  refine lv_aload_n hx hb dX3_mergeInto_0 rfl (lv_at hl 0 rfl) ?_
  refine lv_aload_n hx hb dX3_mergeInto_1 rfl (lv_at hl 1 rfl) ?_
  refine wv_V (rest := []) (As := [.ref q2]) ⟨hx, hb, hml, hown, hts⟩ (c_X1_takeAll l g q a b n u lo hd3 q2 a2 b2 n2 u2 lo2 hu2 hlo2 hap2 nb hn2 hnb _) (cwV 1 hts gX3_mergeInto_X1_takeAll rfl rfl rfl (by decide +kernel) ⟨Nat.le_of_ble_eq_true rfl, Nat.le_of_ble_eq_true rfl⟩) (z_recv hK (hP 0 _ rfl) rfl) hP (ScP.stay hQ.1 hS nA2 nB2 nC2) hK rfl hl.1 rfl (Nat.le_of_ble_eq_true rfl) dX3_mergeInto_2 ⟨Nat.le_of_ble_eq_true rfl, Nat.le_of_ble_eq_true rfl⟩ hS (va_fr3 hS.1) (fun H1 locs hP1 hz1 hk1 hS => ?_)
  have hP := hP1
  have hD : va_D (va_A [(q, .inr (1, [.int (zi (n)), .ref a, .ref b])), (a, .inl (g.2.1, 12, .inl (fun j9 => zi ((u) j9)))), (b, .inl (g.2.1, 12, .inl (fun j9 => zi ((lo) j9))))] s.heap.size) [(q, .inr (1, [.int (zi (n2)), .ref a, .ref b])), (a, .inl (g.2.1, 12, .inl (fun j9 => zi ((mx nb u2 u) j9)))), (b, .inl (g.2.1, 12, .inl (fun j9 => zi ((mx nb lo2 lo) j9))))] := z_D hD rfl
  generalize H1 = H at hP hS ⊢
  have hP : va_P g.1 vwCl [(q, .inr (1, [.int (zi (n2)), .ref a, .ref b])), (a, .inl (g.2.1, 12, .inl (fun j9 => zi ((mx nb u2 u) j9)))), (b, .inl (g.2.1, 12, .inl (fun j9 => zi ((mx nb lo2 lo) j9))))] H := hP
  have hD : va_D (va_A [(q, .inr (1, [.int (zi (n)), .ref a, .ref b])), (a, .inl (g.2.1, 12, .inl (fun j9 => zi ((u) j9)))), (b, .inl (g.2.1, 12, .inl (fun j9 => zi ((lo) j9))))] s.heap.size) [(q, .inr (1, [.int (zi (n2)), .ref a, .ref b])), (a, .inl (g.2.1, 12, .inl (fun j9 => zi ((mx nb u2 u) j9)))), (b, .inl (g.2.1, 12, .inl (fun j9 => zi ((mx nb lo2 lo) j9))))] := hD
  refine z_iconst hx hb dX3_mergeInto_5 ?_
  refine z_top (b := ((0 : Nat) : Int)) (rfl) ?_
  refine lv_istore (lv' := [(4, .int (zi (((0 : Nat) : Int)))), (0, .ref q), (1, .ref q2), (2, .ref q3), (3, .ref q4)]) hx hb dX3_mergeInto_6 hl (by decide) rfl (fun ls hl => ?_)
  have loop8 : ∀ (d j : Nat), j ≤ nb → nb - j = d → ∀ (H : Heap) (locs : List Loc), va_P g.1 vwCl [(q, .inr (1, [.int (zi (n2)), .ref a, .ref b])), (a, .inl (g.2.1, 12, .inl (fun j9 => zi ((mgv (sbB u2 lo2 u4 lo4) u3 (mx nb u2 u) j) j9)))), (b, .inl (g.2.1, 12, .inl (fun j9 => zi ((mgv (sbB u2 lo2 u4 lo4) lo3 (mx nb lo2 lo) j) j9))))] H → va_S (va_A [(q, .inr (1, [.int (zi (n)), .ref a, .ref b])), (a, .inl (g.2.1, 12, .inl (fun j9 => zi ((u) j9)))), (b, .inl (g.2.1, 12, .inl (fun j9 => zi ((lo) j9))))] s.heap.size) s.heap H locs → ∀ ls : Array Slot, lv_has ls 5 [(4, .int (zi ((j : Int)))), (0, .ref q), (1, .ref q2), (2, .ref q3), (3, .ref q4)] → W p l e ({ frames := 3, cells := 0, slots := 0, locals := 68 }) s m ([.ref q, .ref q2, .ref q3, .ref q4] : List Value).toArray below meth c H locs 0 0 (MQ below (va_Qv (fun _ : Unit => True) (fun _ t9 => va_P g.1 vwCl ([(q, .inr (1, [.int (zi (n2)), .ref a, .ref b])), (a, .inl (g.2.1, 12, .inl (fun j9 => zi ((mgv (sbB u2 lo2 u4 lo4) u3 (mx nb u2 u) nb) j9)))), (b, .inl (g.2.1, 12, .inl (fun j9 => zi ((mgv (sbB u2 lo2 u4 lo4) lo3 (mx nb lo2 lo) nb) j9))))]) t9.heap) (va_A [(q, .inr (1, [.int (zi (n)), .ref a, .ref b])), (a, .inl (g.2.1, 12, .inl (fun j9 => zi ((u) j9)))), (b, .inl (g.2.1, 12, .inl (fun j9 => zi ((lo) j9))))] s.heap.size)) ([.ref q, .ref q2, .ref q3, .ref q4] : List Value).toArray s 0 0 (va_A [(q, .inr (1, [.int (zi (n)), .ref a, .ref b])), (a, .inl (g.2.1, 12, .inl (fun j9 => zi ((u) j9)))), (b, .inl (g.2.1, 12, .inl (fun j9 => zi ((lo) j9))))] s.heap.size)) (F0 m 8 ls []) := by
    intro d
    induction d with
    | zero =>
      intro j hj hd2 H locs hP hS ls hl
      have ej : j = nb := by omega
      have hD : va_D (va_A [(q, .inr (1, [.int (zi (n)), .ref a, .ref b])), (a, .inl (g.2.1, 12, .inl (fun j9 => zi ((u) j9)))), (b, .inl (g.2.1, 12, .inl (fun j9 => zi ((lo) j9))))] s.heap.size) [(q, .inr (1, [.int (zi (n2)), .ref a, .ref b])), (a, .inl (g.2.1, 12, .inl (fun j9 => zi ((mgv (sbB u2 lo2 u4 lo4) u3 (mx nb u2 u) j) j9)))), (b, .inl (g.2.1, 12, .inl (fun j9 => zi ((mgv (sbB u2 lo2 u4 lo4) lo3 (mx nb lo2 lo) j) j9))))] := z_D hD rfl
      refine lv_iload hx hb dX3_mergeInto_8 (lv_at hl 0 rfl) ?_
      refine lv_aload_n hx hb dX3_mergeInto_10 rfl (lv_at hl 2 rfl) ?_
      refine z_getN (C := RX1) (T := TX1) (N := 3) (ref := "HarmoniumDesk$Score") (host := RX3) hx hb hts hiX1 hown hK (ScP.stay hQ.1 hS nA2 nB2 nC2).1 rfl 0 (by decide) (by decide +kernel) rfl rfl dX3_mergeInto_11 ?_
      refine z_icmp_ge (tgt := 40) hx hb dX3_mergeInto_14 (by decide) (by omega) (by omega) (fun h14 => ?_) (fun h14 => ?_)
      ·
        exact z_wvret hx hb hr hlk dX3_mergeInto_40 (by rw [ej] at hP; exact hP) hS
      · exfalso; omega
    | succ d ih =>
      intro j hj hd2 H locs hP hS ls hl
      have hD : va_D (va_A [(q, .inr (1, [.int (zi (n)), .ref a, .ref b])), (a, .inl (g.2.1, 12, .inl (fun j9 => zi ((u) j9)))), (b, .inl (g.2.1, 12, .inl (fun j9 => zi ((lo) j9))))] s.heap.size) [(q, .inr (1, [.int (zi (n2)), .ref a, .ref b])), (a, .inl (g.2.1, 12, .inl (fun j9 => zi ((mgv (sbB u2 lo2 u4 lo4) u3 (mx nb u2 u) j) j9)))), (b, .inl (g.2.1, 12, .inl (fun j9 => zi ((mgv (sbB u2 lo2 u4 lo4) lo3 (mx nb lo2 lo) j) j9))))] := z_D hD rfl
      refine lv_iload hx hb dX3_mergeInto_8 (lv_at hl 0 rfl) ?_
      refine lv_aload_n hx hb dX3_mergeInto_10 rfl (lv_at hl 2 rfl) ?_
      refine z_getN (C := RX1) (T := TX1) (N := 3) (ref := "HarmoniumDesk$Score") (host := RX3) hx hb hts hiX1 hown hK (ScP.stay hQ.1 hS nA2 nB2 nC2).1 rfl 0 (by decide) (by decide +kernel) rfl rfl dX3_mergeInto_11 ?_
      refine z_icmp_ge (tgt := 40) hx hb dX3_mergeInto_14 (by decide) (by omega) (by omega) (fun h14 => ?_) (fun h14 => ?_)
      · exfalso; omega
      ·
        refine lv_aload_n hx hb dX3_mergeInto_17 rfl (lv_at hl 2 rfl) ?_
        refine lv_aload_n hx hb dX3_mergeInto_18 rfl (lv_at hl 4 rfl) ?_
        refine lv_iload hx hb dX3_mergeInto_19 (lv_at hl 0 rfl) ?_
        refine ro_V (rest := []) (As := [.ref q4, .int (zi ((j : Int)))]) ⟨hx, hb, hml, hown, hts⟩ (c_X1_sameBar l g q2 a2 b2 n2 u2 lo2 hu2 hlo2 q4 a4 b4 n4 u4 lo4 hu4 hlo4 j (by omega) ((j : Int)) (by omega)) (cwV 2 hts gX3_mergeInto_X1_sameBar rfl rfl rfl (by decide +kernel) ⟨Nat.le_of_ble_eq_true rfl, Nat.le_of_ble_eq_true rfl⟩) (z_recv hK (ScP.stay hQ.1 hS nA2 nB2 nC2).1 rfl) ⟨(ScP.stay hQ.1 hS nA2 nB2 nC2), (ScP.stay hQ.2.2 hS nA4 nB4 nC4)⟩ hK rfl hl.1 rfl (Nat.le_of_ble_eq_true rfl) dX3_mergeInto_21 ⟨Nat.le_of_ble_eq_true rfl, Nat.le_of_ble_eq_true rfl⟩ ?_
        refine z_ifp_eq (P := Sb u2 lo2 u4 lo4 j) (tgt := 34) hx hb dX3_mergeInto_24 (by decide)  (fun h24 => ?_) (fun h24 => ?_)
        ·
          have hc9 : ¬ (sbB u2 lo2 u4 lo4) j = true := fun h9 => h24 (of_decide_eq_true h9)
          rw [mgv_f (sbB u2 lo2 u4 lo4) u3 _ hc9, mgv_f (sbB u2 lo2 u4 lo4) lo3 _ hc9] at hP
          have hD : va_D (va_A [(q, .inr (1, [.int (zi (n)), .ref a, .ref b])), (a, .inl (g.2.1, 12, .inl (fun j9 => zi ((u) j9)))), (b, .inl (g.2.1, 12, .inl (fun j9 => zi ((lo) j9))))] s.heap.size) [(q, .inr (1, [.int (zi (n2)), .ref a, .ref b])), (a, .inl (g.2.1, 12, .inl (fun j9 => zi ((mgv (sbB u2 lo2 u4 lo4) u3 (mx nb u2 u) (j + 1)) j9)))), (b, .inl (g.2.1, 12, .inl (fun j9 => zi ((mgv (sbB u2 lo2 u4 lo4) lo3 (mx nb lo2 lo) (j + 1)) j9))))] := z_D hD rfl
          have hP : va_P g.1 vwCl [(q, .inr (1, [.int (zi (n2)), .ref a, .ref b])), (a, .inl (g.2.1, 12, .inl (fun j9 => zi ((mgv (sbB u2 lo2 u4 lo4) u3 (mx nb u2 u) (j + 1)) j9)))), (b, .inl (g.2.1, 12, .inl (fun j9 => zi ((mgv (sbB u2 lo2 u4 lo4) lo3 (mx nb lo2 lo) (j + 1)) j9))))] H := hP
          have hD : va_D (va_A [(q, .inr (1, [.int (zi (n)), .ref a, .ref b])), (a, .inl (g.2.1, 12, .inl (fun j9 => zi ((u) j9)))), (b, .inl (g.2.1, 12, .inl (fun j9 => zi ((lo) j9))))] s.heap.size) [(q, .inr (1, [.int (zi (n2)), .ref a, .ref b])), (a, .inl (g.2.1, 12, .inl (fun j9 => zi ((mgv (sbB u2 lo2 u4 lo4) u3 (mx nb u2 u) (j + 1)) j9)))), (b, .inl (g.2.1, 12, .inl (fun j9 => zi ((mgv (sbB u2 lo2 u4 lo4) lo3 (mx nb lo2 lo) (j + 1)) j9))))] := hD
          refine z_iinc (b := ((j + 1 : Nat) : Int)) (lv' := [(4, .int (zi (((j + 1 : Nat) : Int)))), (0, .ref q), (1, .ref q2), (2, .ref q3), (3, .ref q4)]) hx hb dX3_mergeInto_34 hl (k := 0) rfl (by omega) (by decide) rfl (fun ls hl => ?_)
          refine lv_goto (tgt := 8) hx hb dX3_mergeInto_37 (by decide) ?_
          exact ih (j + 1) (by omega) (by omega) H locs hP hS ls (lv_sub hl [0, 1, 2, 3, 4] rfl)
        ·
          refine lv_aload_n hx hb dX3_mergeInto_27 rfl (lv_at hl 1 rfl) ?_
          refine lv_aload_n hx hb dX3_mergeInto_28 rfl (lv_at hl 3 rfl) ?_
          refine lv_iload hx hb dX3_mergeInto_29 (lv_at hl 0 rfl) ?_
          have hc9 : (sbB u2 lo2 u4 lo4) j = true := decide_eq_true h24
          refine wv_V (rest := []) (As := [.ref q3, .int (zi ((j : Int)))]) ⟨hx, hb, hml, hown, hts⟩ (c_X1_takeBar l g q a b n2 (mgv (sbB u2 lo2 u4 lo4) u3 (mx nb u2 u) j) (mgv (sbB u2 lo2 u4 lo4) lo3 (mx nb lo2 lo) j) hd3 q3 a3 b3 n3 u3 lo3 hu3 hlo3 hap3 j (by omega) ((j : Int)) (by omega) _) (cwV 2 hts gX3_mergeInto_X1_takeBar rfl rfl rfl (by decide +kernel) ⟨Nat.le_of_ble_eq_true rfl, Nat.le_of_ble_eq_true rfl⟩) (z_recv hK (hP 0 _ rfl) rfl) hP (ScP.stay hQ.2.1 hS nA3 nB3 nC3) hK rfl hl.1 rfl (Nat.le_of_ble_eq_true rfl) dX3_mergeInto_31 ⟨Nat.le_of_ble_eq_true rfl, Nat.le_of_ble_eq_true rfl⟩ hS (va_fr3 hS.1) (fun H1 locs hP1 hz1 hk1 hS => ?_)
          rw [mgv_t (sbB u2 lo2 u4 lo4) u3 _ hc9, mgv_t (sbB u2 lo2 u4 lo4) lo3 _ hc9] at hP1
          have hP := hP1
          have hD : va_D (va_A [(q, .inr (1, [.int (zi (n)), .ref a, .ref b])), (a, .inl (g.2.1, 12, .inl (fun j9 => zi ((u) j9)))), (b, .inl (g.2.1, 12, .inl (fun j9 => zi ((lo) j9))))] s.heap.size) [(q, .inr (1, [.int (zi (n2)), .ref a, .ref b])), (a, .inl (g.2.1, 12, .inl (fun j9 => zi ((mgv (sbB u2 lo2 u4 lo4) u3 (mx nb u2 u) (j + 1)) j9)))), (b, .inl (g.2.1, 12, .inl (fun j9 => zi ((mgv (sbB u2 lo2 u4 lo4) lo3 (mx nb lo2 lo) (j + 1)) j9))))] := z_D hD rfl
          generalize H1 = H at hP hS ⊢
          have hP : va_P g.1 vwCl [(q, .inr (1, [.int (zi (n2)), .ref a, .ref b])), (a, .inl (g.2.1, 12, .inl (fun j9 => zi ((mgv (sbB u2 lo2 u4 lo4) u3 (mx nb u2 u) (j + 1)) j9)))), (b, .inl (g.2.1, 12, .inl (fun j9 => zi ((mgv (sbB u2 lo2 u4 lo4) lo3 (mx nb lo2 lo) (j + 1)) j9))))] H := hP
          have hD : va_D (va_A [(q, .inr (1, [.int (zi (n)), .ref a, .ref b])), (a, .inl (g.2.1, 12, .inl (fun j9 => zi ((u) j9)))), (b, .inl (g.2.1, 12, .inl (fun j9 => zi ((lo) j9))))] s.heap.size) [(q, .inr (1, [.int (zi (n2)), .ref a, .ref b])), (a, .inl (g.2.1, 12, .inl (fun j9 => zi ((mgv (sbB u2 lo2 u4 lo4) u3 (mx nb u2 u) (j + 1)) j9)))), (b, .inl (g.2.1, 12, .inl (fun j9 => zi ((mgv (sbB u2 lo2 u4 lo4) lo3 (mx nb lo2 lo) (j + 1)) j9))))] := hD
          refine z_iinc (b := ((j + 1 : Nat) : Int)) (lv' := [(4, .int (zi (((j + 1 : Nat) : Int)))), (0, .ref q), (1, .ref q2), (2, .ref q3), (3, .ref q4)]) hx hb dX3_mergeInto_34 hl (k := 0) rfl (by omega) (by decide) rfl (fun ls hl => ?_)
          refine lv_goto (tgt := 8) hx hb dX3_mergeInto_37 (by decide) ?_
          exact ih (j + 1) (by omega) (by omega) H locs hP hS ls (lv_sub hl [0, 1, 2, 3, 4] rfl)
  have hP : va_P g.1 vwCl [(q, .inr (1, [.int (zi (n2)), .ref a, .ref b])), (a, .inl (g.2.1, 12, .inl (fun j9 => zi ((mgv (sbB u2 lo2 u4 lo4) u3 (mx nb u2 u) 0) j9)))), (b, .inl (g.2.1, 12, .inl (fun j9 => zi ((mgv (sbB u2 lo2 u4 lo4) lo3 (mx nb lo2 lo) 0) j9))))] H := hP
  exact loop8 _ 0 (by omega) rfl _ _ hP hS ls (lv_sub hl [0, 1, 2, 3, 4] rfl)
