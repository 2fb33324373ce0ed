/-! ===== how many bits a set has ===== -/
def pc1 (z : Int) : Int32 := ((zi z) - (((zi z).toUInt32 >>> (Int32.toUInt32 (1) &&& Int32.toUInt32 31)).toInt32 &&& 1431655765))
def pc2 (z : Int) : Int32 := (((pc1 z) &&& 858993459) + (((pc1 z).toUInt32 >>> (Int32.toUInt32 (2) &&& Int32.toUInt32 31)).toInt32 &&& 858993459))
def pc3 (z : Int) : Int32 := (((pc2 z) + ((pc2 z).toUInt32 >>> (Int32.toUInt32 (4) &&& Int32.toUInt32 31)).toInt32) &&& 252645135)
def pc4 (z : Int) : Int32 := ((pc3 z) + ((pc3 z).toUInt32 >>> (Int32.toUInt32 (8) &&& Int32.toUInt32 31)).toInt32)
def pc5 (z : Int) : Int32 := ((pc4 z) + ((pc4 z).toUInt32 >>> (Int32.toUInt32 (16) &&& Int32.toUInt32 31)).toInt32)
def pcE (z : Int) : Int32 := ((pc5 z) &&& 63)
set_option maxHeartbeats 4000000 in
set_option maxRecDepth 100000 in
theorem c_J6_bitCount (l : Launch) (g : gG) (z v : Int) (hv : pcE z = zi v) : RO l yJ6_bitCount_0f7a4 wsJ6_bitCount_0f7a4 ({ frames := 0, cells := 0, slots := 0, locals := 0 }) g [.int (zi z)] (fun _ => True) v := by
  refine RO.ofW (cc := cJ6_bitCount_0f7a4) (maxL := 1) (ret := (some .int)) (by decide) rfl (Nat.le_of_ble_eq_true rfl) ?_
  intro p e s m below meth c ls hx hb hr hml hown hts hlk hP hK hl
  have hown : s.vm.findClass RJ6 = some m.cls := hown
  have hl : lv_has ls 1 [(0, .int (zi z))] := hl
  refine lv_iload_n hx hb dJ6_bitCount_0f7a4_0 rfl (lv_at hl 0 rfl) ?_
  refine lv_iload_n hx hb dJ6_bitCount_0f7a4_1 rfl (lv_at hl 0 rfl) ?_
  refine lv_iconst (v := 1) hx hb dJ6_bitCount_0f7a4_2 rfl ?_
  refine lv_iushr hx hb dJ6_bitCount_0f7a4_3 rfl ?_
  refine lv_ldcw hx hb hown (hts (.constant RJ6 265 (1431655765)) (by decide +kernel)) dJ6_bitCount_0f7a4_4 ?_
  refine lv_iand hx hb dJ6_bitCount_0f7a4_7 ?_
  refine lv_isub hx hb dJ6_bitCount_0f7a4_8 ?_
  refine lv_istore_n (lv' := [(0, .int (pc1 z))]) hx hb dJ6_bitCount_0f7a4_9 rfl hl (by decide) rfl (fun ls hl => ?_)
  refine lv_iload_n hx hb dJ6_bitCount_0f7a4_10 rfl (lv_at hl 0 rfl) ?_
  refine lv_ldcw hx hb hown (hts (.constant RJ6 266 (858993459)) (by decide +kernel)) dJ6_bitCount_0f7a4_11 ?_
  refine lv_iand hx hb dJ6_bitCount_0f7a4_14 ?_
  refine lv_iload_n hx hb dJ6_bitCount_0f7a4_15 rfl (lv_at hl 0 rfl) ?_
  refine lv_iconst (v := 2) hx hb dJ6_bitCount_0f7a4_16 rfl ?_
  refine lv_iushr hx hb dJ6_bitCount_0f7a4_17 rfl ?_
  refine lv_ldcw hx hb hown (hts (.constant RJ6 266 (858993459)) (by decide +kernel)) dJ6_bitCount_0f7a4_18 ?_
  refine lv_iand hx hb dJ6_bitCount_0f7a4_21 ?_
  refine lv_iadd hx hb dJ6_bitCount_0f7a4_22 ?_
  refine lv_istore_n (lv' := [(0, .int (pc2 z))]) hx hb dJ6_bitCount_0f7a4_23 rfl hl (by decide) rfl (fun ls hl => ?_)
  refine lv_iload_n hx hb dJ6_bitCount_0f7a4_24 rfl (lv_at hl 0 rfl) ?_
  refine lv_iload_n hx hb dJ6_bitCount_0f7a4_25 rfl (lv_at hl 0 rfl) ?_
  refine lv_iconst (v := 4) hx hb dJ6_bitCount_0f7a4_26 rfl ?_
  refine lv_iushr hx hb dJ6_bitCount_0f7a4_27 rfl ?_
  refine lv_iadd hx hb dJ6_bitCount_0f7a4_28 ?_
  refine lv_ldcw hx hb hown (hts (.constant RJ6 267 (252645135)) (by decide +kernel)) dJ6_bitCount_0f7a4_29 ?_
  refine lv_iand hx hb dJ6_bitCount_0f7a4_32 ?_
  refine lv_istore_n (lv' := [(0, .int (pc3 z))]) hx hb dJ6_bitCount_0f7a4_33 rfl hl (by decide) rfl (fun ls hl => ?_)
  refine lv_iload_n hx hb dJ6_bitCount_0f7a4_34 rfl (lv_at hl 0 rfl) ?_
  refine lv_iload_n hx hb dJ6_bitCount_0f7a4_35 rfl (lv_at hl 0 rfl) ?_
  refine lv_bipush (v := 8) hx hb dJ6_bitCount_0f7a4_36 rfl ?_
  refine lv_iushr hx hb dJ6_bitCount_0f7a4_38 rfl ?_
  refine lv_iadd hx hb dJ6_bitCount_0f7a4_39 ?_
  refine lv_istore_n (lv' := [(0, .int (pc4 z))]) hx hb dJ6_bitCount_0f7a4_40 rfl hl (by decide) rfl (fun ls hl => ?_)
  refine lv_iload_n hx hb dJ6_bitCount_0f7a4_41 rfl (lv_at hl 0 rfl) ?_
  refine lv_iload_n hx hb dJ6_bitCount_0f7a4_42 rfl (lv_at hl 0 rfl) ?_
  refine lv_bipush (v := 16) hx hb dJ6_bitCount_0f7a4_43 rfl ?_
  refine lv_iushr hx hb dJ6_bitCount_0f7a4_45 rfl ?_
  refine lv_iadd hx hb dJ6_bitCount_0f7a4_46 ?_
  refine lv_istore_n (lv' := [(0, .int (pc5 z))]) hx hb dJ6_bitCount_0f7a4_47 rfl hl (by decide) rfl (fun ls hl => ?_)
  refine lv_iload_n hx hb dJ6_bitCount_0f7a4_48 rfl (lv_at hl 0 rfl) ?_
  refine lv_bipush (v := 63) hx hb dJ6_bitCount_0f7a4_49 rfl ?_
  refine lv_iand hx hb dJ6_bitCount_0f7a4_51 ?_
  refine z_xtop (y := zi v) hv ?_
  exact z_iret hx hb hr hlk dJ6_bitCount_0f7a4_52 rfl
set_option maxRecDepth 100000 in
set_option maxHeartbeats 4000000 in
theorem bc_12 : ∀ b0 b1 b2 b3 b4 b5 b6 b7 b8 b9 b10 b11 : Bool, pcE (sset (fun k => [b0, b1, b2, b3, b4, b5, b6, b7, b8, b9, b10, b11].getD k false) 12).toInt = zi (cnt (fun k => [b0, b1, b2, b3, b4, b5, b6, b7, b8, b9, b10, b11].getD k false) 12) := by decide +kernel
theorem sset_pad {f f' : Nat → Bool} {n : Nat} (h1 : ∀ k, k < n → f' k = f k) (h2 : ∀ k, n ≤ k → f' k = false) : ∀ d : Nat, sset f' (n + d) = sset f n ∧ cnt f' (n + d) = cnt f n := by
  intro d
  induction d with
  | zero => exact ⟨sset_cong _ h1, cnt_cong _ h1⟩
  | succ d ih =>
    have e := h2 (n + d) (by omega)
    refine ⟨?_, ?_⟩
    · show (if f' (n + d) = true then _ else sset f' (n + d)) = _
      rw [e, if_neg (by decide)]
      exact ih.1
    · show cnt f' (n + d) + pz (f' (n + d) = true) = _
      rw [ih.2, pz_f (by rw [e]; decide)]
      omega
theorem bc_set (f : Nat → Bool) {n : Nat} (hn : n ≤ 12) : pcE (sset f n).toInt = zi (cnt f n) := by
  have h := sset_pad (f := f) (f' := fun k => if k < n then f k else false) (n := n) (fun k hk => if_pos hk) (fun k hk => if_neg (by omega)) (12 - n)
  rw [show n + (12 - n) = 12 by omega] at h
  rw [← h.1, ← h.2]
  generalize (fun k => if k < n then f k else false) = f
  have e : ∀ k, k < 12 → f k = [f 0, f 1, f 2, f 3, f 4, f 5, f 6, f 7, f 8, f 9, f 10, f 11].getD k false := by
    intro k hk
    match k, hk with
    | 0, _ => rfl
    | 1, _ => rfl
    | 2, _ => rfl
    | 3, _ => rfl
    | 4, _ => rfl
    | 5, _ => rfl
    | 6, _ => rfl
    | 7, _ => rfl
    | 8, _ => rfl
    | 9, _ => rfl
    | 10, _ => rfl
    | 11, _ => rfl
    | k + 12, h => omega
  rw [sset_cong 12 e, cnt_cong 12 e]
  exact bc_12 _ _ _ _ _ _ _ _ _ _ _ _
