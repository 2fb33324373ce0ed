/-! ===== the law's rounds ===== -/
/-- what the law's rounds rest on -/
def LC (p : Program) (l : Launch) (s : State) (m : MethodId) (c : Code) (b L : Nat) (xs : Nat → Int32) (g : gG) (cL cD : ClassId) (ad : Nat → Nat) (o od : Nat) : Prop :=
  p.tables.exec = Jvm.exec ∧ c.code = cL_law ∧ c.maxLocals = 8 ∧ s.vm.findClass RL = some m.cls ∧ (∀ w ∈ wsL_law, w.before #[Value.ref b] s = true) ∧ va_X b L xs s s.heap ∧ b < s.heap.size ∧ KK g s ∧ TW s ∧ NC s ∧ KLD g cL cD s ∧ Fx ad o od s.heap.size ∧ l.stackTraces = false ∧ L ≤ 2560
abbrev lv0 (b o od : Nat) (ad : Nat → Nat) (a : AD) (j : Nat) : List (Nat × Value) := [(5, .int (zi ((5 * j : Nat) : Int))), (4, .ref od), (3, .ref o), (2, .ref (ad 0)), (1, .ref (a 1 0)), (0, .ref b)]
/-- from the end of a round on -/
def LK (p : Program) (l : Launch) (e : Env) (s : State) (m : MethodId) (below : List Frame) (meth : Method) (c : Code) (b : Nat) (g : gG) (cL cD : ClassId) (ad : Nat → Nat) (o od : Nat) (Q : State → Prop) (j cells slots pc : Nat) : Prop :=
  ∀ (σ : SG) (th : Int) (a : AD) (f : Nat → Int64) (fd : Nat → UInt64) (H : Heap) (locs : List Loc) (ls : Array Slot), WF σ → S12 σ → LJ g cL cD ad o od σ a σ th f fd s.heap.size H → va_S (SA s) s.heap H locs → lv_has ls 8 (lv0 b o od ad a j) → W p l e room_1 s m #[Value.ref b] below meth c H locs cells slots Q (F0 m pc ls [])
set_option maxHeartbeats 4000000 in
set_option maxRecDepth 100000 in
theorem c_X4_thrown (l : Launch) (g : gG) (ad : Nat → Nat) (σ : SG) (th : Int) (hW : WF σ) (hd : Dst ad) (sz : Nat)  : MI l yX4_thrown wsX4_thrown ({ frames := 0, cells := 0, slots := 0, locals := 0 }) g ad [] sz σ th (σ) (th) (th) := by
  refine ZM.ofW (cc := cX4_thrown) (maxL := 1) (ret := (some .int)) (by decide) rfl (Nat.le_of_ble_eq_true rfl) ?_
  intro p e s m below meth c ls hx hb hr hml hown hts hlk hP hK hl _
  obtain ⟨rfl, hP, -⟩ := hP
  have hS : va_S (va_A (MWs g ad σ th) s.heap.size) s.heap s.heap [] := va_S.rf
  have hown : s.vm.findClass RX4 = some m.cls := hown
  have hl : lv_has ls 1 [(0, .ref (ad 0))] := hl
  have hiX4 : ∀ w ∈ u_ws RX4 TX4 14, w ∈ wsX4_thrown := by decide +kernel
  refine lv_aload_n hx hb dX4_thrown_0 rfl (lv_at hl 0 rfl) ?_
  refine z_get (C := RX4) (T := TX4) (N := 14) hx hb hts hiX4 hown hK (hP 0 _ rfl) rfl 13 (by decide) (hts (.fieldLink RX4 45 "HarmoniumDeskModel" "thrown" "I") (by decide +kernel)) rfl rfl dX4_thrown_1 ?_
  exact z_wiret hx hb hr hlk dX4_thrown_4 (rfl) hP hS

set_option maxHeartbeats 4000000 in
set_option maxRecDepth 100000 in
theorem L_begin {p : Program} {e : Env} {s : State} {m : MethodId} {below : List Frame} {meth : Method} {c : Code} {Q : State → Prop} {l : Launch} {b L : Nat} {xs : Nat → Int32} {g : gG} {cL cD : ClassId} {ad : Nat → Nat} {o od : Nat} (hC : LC p l s m c b L xs g cL cD ad o od) {σ : SG} {th : Int} {a : AD} {f : Nat → Int64} {fd : Nat → UInt64} {H : Heap} {locs : List Loc} {ls : Array Slot} {cells slots j : Nat} (hW : WF σ) (h12 : S12 σ) (hJ : LJ g cL cD ad o od σ a σ th f fd s.heap.size H) (hS : va_S (SA s) s.heap H locs) (hl : lv_has ls 8 (lv0 b o od ad a j)) (hj : 5 * j + 4 < L) (hc1 : cells + 4 ≤ 601024) (hc2 : slots + 32 ≤ 7293033) (hk : LK p l e s m below meth c b g cL cD ad o od Q j (cells + 4) (slots + 32) 1390) : W p l e room_1 s m #[Value.ref b] below meth c H locs cells slots Q (F0 m 136 ls []) := by
  obtain ⟨hx, hb, hml, hown, hts, hX, hbl, hK, hT, hN, hL, hF, hfl, hL9⟩ := hC
  obtain ⟨σ', k, v, rm, hW', h12', hk3, hB, hM1, ⟨r1, r2, r3, r4⟩, hM2⟩ := S_begin l hfl g cL cD ad hF.1 σ th a hW h12 (xs (5 * j + 1)).toInt (zi_rg _)
  have hl : lv_has ls 8 [(5, .int (zi ((5 * j : Nat) : Int))), (4, .ref od), (3, .ref o), (2, .ref (ad 0)), (1, .ref (a 1 0)), (0, .ref b)] := hl
  refine lv_aload_n hx hb dL_law_136 rfl (lv_at hl 4 rfl) ?_
  refine lv_aload_n hx hb dL_law_137 rfl (lv_at hl 5 rfl) ?_
  refine lv_iload hx hb dL_law_138 (lv_at hl 0 rfl) ?_
  refine z_iconst hx hb dL_law_140 ?_
  refine z_iadd hx hb dL_law_141 ?_
  refine z_sld hx hb hX hbl hS (5 * j + 1) (by omega) (by omega) hL9 dL_law_142 ?_
  refine lv_aload_n hx hb dL_law_143 rfl (lv_at hl 2 rfl) ?_
  refine lj_S (rest := []) (av := [.int (zi (xs (5 * j + 1)).toInt)]) ⟨hx, hb, hml, hown, hts⟩ (hM1 o _) (vx_cwSW 3 hts gL_law_L_begin rfl rfl rfl (by decide +kernel) ⟨Nat.le_of_ble_eq_true rfl, Nat.le_of_ble_eq_true rfl⟩) hF hJ hK hT hN hL rfl hl.1 rfl (Nat.le_of_ble_eq_true rfl) dL_law_144 ⟨hc1, hc2⟩ hS (fun a' f' H1 locs1 ha' hf' hJ hS => ?_)
  refine lv_istore (lv' := [(6, .int (zi k)), (5, .int (zi ((5 * j : Nat) : Int))), (4, .ref od), (3, .ref o), (2, .ref (ad 0)), (1, .ref (a 1 0)), (0, .ref b)]) hx hb dL_law_147 hl (by decide) rfl (fun ls hl => ?_)
  refine lv_aload_n hx hb dL_law_149 rfl (lv_at hl 4 rfl) ?_
  refine lv_aload_n hx hb dL_law_150 rfl (lv_at hl 6 rfl) ?_
  refine lv_iload hx hb dL_law_151 (lv_at hl 1 rfl) ?_
  refine z_iconst hx hb dL_law_153 ?_
  refine z_iadd hx hb dL_law_154 ?_
  refine z_sld hx hb hX hbl hS (5 * j + 1) (by omega) (by omega) hL9 dL_law_155 ?_
  refine lr_V (rest := []) (As := [.int (zi (xs (5 * j + 1)).toInt)]) ⟨hx, hb, hml, hown, hts⟩ (hM2 _) (cwV 1 hts gL_law_X4_begin rfl r1 r2 (by decide +kernel) ⟨by show rm.frames + 1 ≤ 11; omega, by show 8 + (3 + 11) + rm.locals ≤ 398; omega⟩) (z_recv hK (hJ.2.1 0 _ rfl) rfl) hF hJ hK rfl hl.1 rfl (Nat.le_of_ble_eq_true rfl) dL_law_156 ⟨by show cells + 4 + 0 ≤ 601024; omega, by show slots + 32 + 0 ≤ 7293033; omega⟩ hS (fun H2 locs2 hJ hS => ?_)
  refine lv_istore (lv' := [(7, .int (zi v)), (6, .int (zi k)), (5, .int (zi ((5 * j : Nat) : Int))), (4, .ref od), (3, .ref o), (2, .ref (ad 0)), (1, .ref (a 1 0)), (0, .ref b)]) hx hb dL_law_159 hl (by decide) rfl (fun ls hl => ?_)
  refine lv_aload_n hx hb dL_law_161 rfl (lv_at hl 5 rfl) ?_
  refine lr_V (rest := []) (As := []) ⟨hx, hb, hml, hown, hts⟩ (c_X4_thrown l g ad σ' k hW' hF.1 _) (cwV 0 hts gL_law_X4_thrown rfl rfl rfl (by decide +kernel) ⟨Nat.le_of_ble_eq_true rfl, Nat.le_of_ble_eq_true rfl⟩) (z_recv hK (hJ.2.1 0 _ rfl) rfl) hF hJ hK rfl hl.1 rfl (Nat.le_of_ble_eq_true rfl) dL_law_162 ⟨by show cells + 4 + 0 ≤ 601024; omega, by show slots + 32 + 0 ≤ 7293033; omega⟩ hS (fun H3 locs3 hJ hS => ?_)
  refine lv_iload hx hb dL_law_165 (lv_at hl 1 rfl) ?_
  refine z_icmp_eq (tgt := 172) hx hb dL_law_167 (by decide) (by omega) (by omega) (fun _ => ?_) (fun h => absurd rfl h)
  refine lv_iload hx hb dL_law_172 (lv_at hl 1 rfl) ?_
  refine z_if_ne (tgt := 189) hx hb dL_law_174 (by decide) (by omega) (fun h9 => ?_) (fun h9 => ?_)
  · refine lv_goto (tgt := 1390) hx hb dL_law_189 (by decide) ?_
    exact hk σ' k a' f' fd _ _ ls hW' h12' hJ hS (by show lv_has ls 8 [(5, .int (zi ((5 * j : Nat) : Int))), (4, .ref od), (3, .ref o), (2, .ref (ad 0)), (1, .ref (a' 1 0)), (0, .ref b)]; rw [ha']; exact lv_sub hl [2, 3, 4, 5, 6, 7] rfl)
  ·
    refine lv_aload_n hx hb dL_law_177 rfl (lv_at hl 4 rfl) ?_
    refine z_iconst hx hb dL_law_178 ?_
    refine z_lald hx hb hL hJ.2.2.1 dL_law_179 ?_
    rw [hf' h9]
    refine lv_iload hx hb dL_law_180 (lv_at hl 0 rfl) ?_
    refine lv_i2l hx hb dL_law_182 rfl ?_
    refine W.lcmp hx hb dL_law_183 ?_
    refine z_xtop (y := zi 0) (zc_0 _) ?_
    refine z_if_eq (tgt := 189) hx hb dL_law_184 (by decide) (by decide) (fun _ => ?_) (fun h => absurd rfl h)
    refine lv_goto (tgt := 1390) hx hb dL_law_189 (by decide) ?_
    exact hk σ' k a' f' fd _ _ ls hW' h12' hJ hS (by show lv_has ls 8 [(5, .int (zi ((5 * j : Nat) : Int))), (4, .ref od), (3, .ref o), (2, .ref (ad 0)), (1, .ref (a' 1 0)), (0, .ref b)]; rw [ha']; exact lv_sub hl [2, 3, 4, 5, 6, 7] rfl)
set_option maxHeartbeats 4000000 in
set_option maxRecDepth 100000 in
theorem L_branch {p : Program} {e : Env} {s : State} {m : MethodId} {below : List Frame} {meth : Method} {c : Code} {Q : State → Prop} {l : Launch} {b L : Nat} {xs : Nat → Int32} {g : gG} {cL cD : ClassId} {ad : Nat → Nat} {o od : Nat} (hC : LC p l s m c b L xs g cL cD ad o od) {σ : SG} {th : Int} {a : AD} {f : Nat → Int64} {fd : Nat → UInt64} {H : Heap} {locs : List Loc} {ls : Array Slot} {cells slots j : Nat} (hW : WF σ) (h12 : S12 σ) (hJ : LJ g cL cD ad o od σ a σ th f fd s.heap.size H) (hS : va_S (SA s) s.heap H locs) (hl : lv_has ls 8 (lv0 b o od ad a j)) (hj : 5 * j + 4 < L) (hc1 : cells + 4 ≤ 601024) (hc2 : slots + 32 ≤ 7293033) (hk : LK p l e s m below meth c b g cL cD ad o od Q j (cells + 4) (slots + 32) 1390) : W p l e room_1 s m #[Value.ref b] below meth c H locs cells slots Q (F0 m 192 ls []) := by
  obtain ⟨hx, hb, hml, hown, hts, hX, hbl, hK, hT, hN, hL, hF, hfl, hL9⟩ := hC
  obtain ⟨σ', k, v, rm, hW', h12', hk3, hB, hM1, ⟨r1, r2, r3, r4⟩, hM2⟩ := S_branch l hfl g cL cD ad hF.1 σ th a hW h12 (xs (5 * j + 1)).toInt (zi_rg _)
  have hl : lv_has ls 8 [(5, .int (zi ((5 * j : Nat) : Int))), (4, .ref od), (3, .ref o), (2, .ref (ad 0)), (1, .ref (a 1 0)), (0, .ref b)] := hl
  refine lv_aload_n hx hb dL_law_192 rfl (lv_at hl 4 rfl) ?_
  refine lv_aload_n hx hb dL_law_193 rfl (lv_at hl 5 rfl) ?_
  refine lv_iload hx hb dL_law_194 (lv_at hl 0 rfl) ?_
  refine z_iconst hx hb dL_law_196 ?_
  refine z_iadd hx hb dL_law_197 ?_
  refine z_sld hx hb hX hbl hS (5 * j + 1) (by omega) (by omega) hL9 dL_law_198 ?_
  refine lv_aload_n hx hb dL_law_199 rfl (lv_at hl 2 rfl) ?_
  refine lj_S (rest := []) (av := [.int (zi (xs (5 * j + 1)).toInt)]) ⟨hx, hb, hml, hown, hts⟩ (hM1 o _) (vx_cwSW 3 hts gL_law_L_branch rfl rfl rfl (by decide +kernel) ⟨Nat.le_of_ble_eq_true rfl, Nat.le_of_ble_eq_true rfl⟩) hF hJ hK hT hN hL rfl hl.1 rfl (Nat.le_of_ble_eq_true rfl) dL_law_200 ⟨hc1, hc2⟩ hS (fun a' f' H1 locs1 ha' hf' hJ hS => ?_)
  refine lv_istore (lv' := [(6, .int (zi k)), (5, .int (zi ((5 * j : Nat) : Int))), (4, .ref od), (3, .ref o), (2, .ref (ad 0)), (1, .ref (a 1 0)), (0, .ref b)]) hx hb dL_law_203 hl (by decide) rfl (fun ls hl => ?_)
  refine lv_aload_n hx hb dL_law_205 rfl (lv_at hl 4 rfl) ?_
  refine lv_aload_n hx hb dL_law_206 rfl (lv_at hl 6 rfl) ?_
  refine lv_iload hx hb dL_law_207 (lv_at hl 1 rfl) ?_
  refine z_iconst hx hb dL_law_209 ?_
  refine z_iadd hx hb dL_law_210 ?_
  refine z_sld hx hb hX hbl hS (5 * j + 1) (by omega) (by omega) hL9 dL_law_211 ?_
  refine lr_V (rest := []) (As := [.int (zi (xs (5 * j + 1)).toInt)]) ⟨hx, hb, hml, hown, hts⟩ (hM2 _) (cwV 1 hts gL_law_X4_branch rfl r1 r2 (by decide +kernel) ⟨by show rm.frames + 1 ≤ 11; omega, by show 8 + (2 + 11) + rm.locals ≤ 398; omega⟩) (z_recv hK (hJ.2.1 0 _ rfl) rfl) hF hJ hK rfl hl.1 rfl (Nat.le_of_ble_eq_true rfl) dL_law_212 ⟨by show cells + 4 + 0 ≤ 601024; omega, by show slots + 32 + 0 ≤ 7293033; omega⟩ hS (fun H2 locs2 hJ hS => ?_)
  refine lv_istore (lv' := [(7, .int (zi v)), (6, .int (zi k)), (5, .int (zi ((5 * j : Nat) : Int))), (4, .ref od), (3, .ref o), (2, .ref (ad 0)), (1, .ref (a 1 0)), (0, .ref b)]) hx hb dL_law_215 hl (by decide) rfl (fun ls hl => ?_)
  refine lv_aload_n hx hb dL_law_217 rfl (lv_at hl 5 rfl) ?_
  refine lr_V (rest := []) (As := []) ⟨hx, hb, hml, hown, hts⟩ (c_X4_thrown l g ad σ' k hW' hF.1 _) (cwV 0 hts gL_law_X4_thrown rfl rfl rfl (by decide +kernel) ⟨Nat.le_of_ble_eq_true rfl, Nat.le_of_ble_eq_true rfl⟩) (z_recv hK (hJ.2.1 0 _ rfl) rfl) hF hJ hK rfl hl.1 rfl (Nat.le_of_ble_eq_true rfl) dL_law_218 ⟨by show cells + 4 + 0 ≤ 601024; omega, by show slots + 32 + 0 ≤ 7293033; omega⟩ hS (fun H3 locs3 hJ hS => ?_)
  refine lv_iload hx hb dL_law_221 (lv_at hl 1 rfl) ?_
  refine z_icmp_eq (tgt := 228) hx hb dL_law_223 (by decide) (by omega) (by omega) (fun _ => ?_) (fun h => absurd rfl h)
  refine lv_iload hx hb dL_law_228 (lv_at hl 1 rfl) ?_
  refine z_if_ne (tgt := 245) hx hb dL_law_230 (by decide) (by omega) (fun h9 => ?_) (fun h9 => ?_)
  · refine lv_goto (tgt := 1390) hx hb dL_law_245 (by decide) ?_
    exact hk σ' k a' f' fd _ _ ls hW' h12' hJ hS (by show lv_has ls 8 [(5, .int (zi ((5 * j : Nat) : Int))), (4, .ref od), (3, .ref o), (2, .ref (ad 0)), (1, .ref (a' 1 0)), (0, .ref b)]; rw [ha']; exact lv_sub hl [2, 3, 4, 5, 6, 7] rfl)
  ·
    refine lv_aload_n hx hb dL_law_233 rfl (lv_at hl 4 rfl) ?_
    refine z_iconst hx hb dL_law_234 ?_
    refine z_lald hx hb hL hJ.2.2.1 dL_law_235 ?_
    rw [hf' h9]
    refine lv_iload hx hb dL_law_236 (lv_at hl 0 rfl) ?_
    refine lv_i2l hx hb dL_law_238 rfl ?_
    refine W.lcmp hx hb dL_law_239 ?_
    refine z_xtop (y := zi 0) (zc_0 _) ?_
    refine z_if_eq (tgt := 245) hx hb dL_law_240 (by decide) (by decide) (fun _ => ?_) (fun h => absurd rfl h)
    refine lv_goto (tgt := 1390) hx hb dL_law_245 (by decide) ?_
    exact hk σ' k a' f' fd _ _ ls hW' h12' hJ hS (by show lv_has ls 8 [(5, .int (zi ((5 * j : Nat) : Int))), (4, .ref od), (3, .ref o), (2, .ref (ad 0)), (1, .ref (a' 1 0)), (0, .ref b)]; rw [ha']; exact lv_sub hl [2, 3, 4, 5, 6, 7] rfl)
set_option maxHeartbeats 4000000 in
set_option maxRecDepth 100000 in
theorem L_setNote {p : Program} {e : Env} {s : State} {m : MethodId} {below : List Frame} {meth : Method} {c : Code} {Q : State → Prop} {l : Launch} {b L : Nat} {xs : Nat → Int32} {g : gG} {cL cD : ClassId} {ad : Nat → Nat} {o od : Nat} (hC : LC p l s m c b L xs g cL cD ad o od) {σ : SG} {th : Int} {a : AD} {f : Nat → Int64} {fd : Nat → UInt64} {H : Heap} {locs : List Loc} {ls : Array Slot} {cells slots j : Nat} (hW : WF σ) (h12 : S12 σ) (hJ : LJ g cL cD ad o od σ a σ th f fd s.heap.size H) (hS : va_S (SA s) s.heap H locs) (hl : lv_has ls 8 (lv0 b o od ad a j)) (hj : 5 * j + 4 < L) (hc1 : cells + 4 ≤ 601024) (hc2 : slots + 32 ≤ 7293033) (hk : LK p l e s m below meth c b g cL cD ad o od Q j (cells + 4) (slots + 32) 1390) : W p l e room_1 s m #[Value.ref b] below meth c H locs cells slots Q (F0 m 248 ls []) := by
  obtain ⟨hx, hb, hml, hown, hts, hX, hbl, hK, hT, hN, hL, hF, hfl, hL9⟩ := hC
  obtain ⟨σ', k, v, rm, hW', h12', hk3, hB, hM1, ⟨r1, r2, r3, r4⟩, hM2⟩ := S_setNote l hfl g cL cD ad hF.1 σ th a hW h12 (xs (5 * j + 1)).toInt (xs (5 * j + 2)).toInt (xs (5 * j + 3)).toInt (xs (5 * j + 4)).toInt (zi_rg _) (zi_rg _) (zi_rg _) (zi_rg _)
  have hl : lv_has ls 8 [(5, .int (zi ((5 * j : Nat) : Int))), (4, .ref od), (3, .ref o), (2, .ref (ad 0)), (1, .ref (a 1 0)), (0, .ref b)] := hl
  refine lv_aload_n hx hb dL_law_248 rfl (lv_at hl 4 rfl) ?_
  refine lv_aload_n hx hb dL_law_249 rfl (lv_at hl 5 rfl) ?_
  refine lv_iload hx hb dL_law_250 (lv_at hl 0 rfl) ?_
  refine z_iconst hx hb dL_law_252 ?_
  refine z_iadd hx hb dL_law_253 ?_
  refine z_sld hx hb hX hbl hS (5 * j + 1) (by omega) (by omega) hL9 dL_law_254 ?_
  refine lv_aload_n hx hb dL_law_255 rfl (lv_at hl 5 rfl) ?_
  refine lv_iload hx hb dL_law_256 (lv_at hl 0 rfl) ?_
  refine z_iconst hx hb dL_law_258 ?_
  refine z_iadd hx hb dL_law_259 ?_
  refine z_sld hx hb hX hbl hS (5 * j + 2) (by omega) (by omega) hL9 dL_law_260 ?_
  refine lv_aload_n hx hb dL_law_261 rfl (lv_at hl 5 rfl) ?_
  refine lv_iload hx hb dL_law_262 (lv_at hl 0 rfl) ?_
  refine z_iconst hx hb dL_law_264 ?_
  refine z_iadd hx hb dL_law_265 ?_
  refine z_sld hx hb hX hbl hS (5 * j + 3) (by omega) (by omega) hL9 dL_law_266 ?_
  refine lv_aload_n hx hb dL_law_267 rfl (lv_at hl 5 rfl) ?_
  refine lv_iload hx hb dL_law_268 (lv_at hl 0 rfl) ?_
  refine z_iconst hx hb dL_law_270 ?_
  refine z_iadd hx hb dL_law_271 ?_
  refine z_sld hx hb hX hbl hS (5 * j + 4) (by omega) (by omega) hL9 dL_law_272 ?_
  refine lv_aload_n hx hb dL_law_273 rfl (lv_at hl 2 rfl) ?_
  refine lj_S (rest := []) (av := [.int (zi (xs (5 * j + 1)).toInt), .int (zi (xs (5 * j + 2)).toInt), .int (zi (xs (5 * j + 3)).toInt), .int (zi (xs (5 * j + 4)).toInt)]) ⟨hx, hb, hml, hown, hts⟩ (hM1 o _) (vx_cwSW 6 hts gL_law_L_setNote rfl rfl rfl (by decide +kernel) ⟨Nat.le_of_ble_eq_true rfl, Nat.le_of_ble_eq_true rfl⟩) hF hJ hK hT hN hL rfl hl.1 rfl (Nat.le_of_ble_eq_true rfl) dL_law_274 ⟨hc1, hc2⟩ hS (fun a' f' H1 locs1 ha' hf' hJ hS => ?_)
  refine lv_istore (lv' := [(6, .int (zi k)), (5, .int (zi ((5 * j : Nat) : Int))), (4, .ref od), (3, .ref o), (2, .ref (ad 0)), (1, .ref (a 1 0)), (0, .ref b)]) hx hb dL_law_277 hl (by decide) rfl (fun ls hl => ?_)
  refine lv_aload_n hx hb dL_law_279 rfl (lv_at hl 4 rfl) ?_
  refine lv_aload_n hx hb dL_law_280 rfl (lv_at hl 6 rfl) ?_
  refine lv_iload hx hb dL_law_281 (lv_at hl 1 rfl) ?_
  refine z_iconst hx hb dL_law_283 ?_
  refine z_iadd hx hb dL_law_284 ?_
  refine z_sld hx hb hX hbl hS (5 * j + 1) (by omega) (by omega) hL9 dL_law_285 ?_
  refine lv_aload_n hx hb dL_law_286 rfl (lv_at hl 6 rfl) ?_
  refine lv_iload hx hb dL_law_287 (lv_at hl 1 rfl) ?_
  refine z_iconst hx hb dL_law_289 ?_
  refine z_iadd hx hb dL_law_290 ?_
  refine z_sld hx hb hX hbl hS (5 * j + 2) (by omega) (by omega) hL9 dL_law_291 ?_
  refine lv_aload_n hx hb dL_law_292 rfl (lv_at hl 6 rfl) ?_
  refine lv_iload hx hb dL_law_293 (lv_at hl 1 rfl) ?_
  refine z_iconst hx hb dL_law_295 ?_
  refine z_iadd hx hb dL_law_296 ?_
  refine z_sld hx hb hX hbl hS (5 * j + 3) (by omega) (by omega) hL9 dL_law_297 ?_
  refine lv_aload_n hx hb dL_law_298 rfl (lv_at hl 6 rfl) ?_
  refine lv_iload hx hb dL_law_299 (lv_at hl 1 rfl) ?_
  refine z_iconst hx hb dL_law_301 ?_
  refine z_iadd hx hb dL_law_302 ?_
  refine z_sld hx hb hX hbl hS (5 * j + 4) (by omega) (by omega) hL9 dL_law_303 ?_
  refine lr_V (rest := []) (As := [.int (zi (xs (5 * j + 1)).toInt), .int (zi (xs (5 * j + 2)).toInt), .int (zi (xs (5 * j + 3)).toInt), .int (zi (xs (5 * j + 4)).toInt)]) ⟨hx, hb, hml, hown, hts⟩ (hM2 _) (cwV 4 hts gL_law_X4_setNote rfl r1 r2 (by decide +kernel) ⟨by show rm.frames + 1 ≤ 11; omega, by show 8 + (7 + 11) + rm.locals ≤ 398; omega⟩) (z_recv hK (hJ.2.1 0 _ rfl) rfl) hF hJ hK rfl hl.1 rfl (Nat.le_of_ble_eq_true rfl) dL_law_304 ⟨by show cells + 4 + 0 ≤ 601024; omega, by show slots + 32 + 0 ≤ 7293033; omega⟩ hS (fun H2 locs2 hJ hS => ?_)
  refine lv_istore (lv' := [(7, .int (zi v)), (6, .int (zi k)), (5, .int (zi ((5 * j : Nat) : Int))), (4, .ref od), (3, .ref o), (2, .ref (ad 0)), (1, .ref (a 1 0)), (0, .ref b)]) hx hb dL_law_307 hl (by decide) rfl (fun ls hl => ?_)
  refine lv_aload_n hx hb dL_law_309 rfl (lv_at hl 5 rfl) ?_
  refine lr_V (rest := []) (As := []) ⟨hx, hb, hml, hown, hts⟩ (c_X4_thrown l g ad σ' k hW' hF.1 _) (cwV 0 hts gL_law_X4_thrown rfl rfl rfl (by decide +kernel) ⟨Nat.le_of_ble_eq_true rfl, Nat.le_of_ble_eq_true rfl⟩) (z_recv hK (hJ.2.1 0 _ rfl) rfl) hF hJ hK rfl hl.1 rfl (Nat.le_of_ble_eq_true rfl) dL_law_310 ⟨by show cells + 4 + 0 ≤ 601024; omega, by show slots + 32 + 0 ≤ 7293033; omega⟩ hS (fun H3 locs3 hJ hS => ?_)
  refine lv_iload hx hb dL_law_313 (lv_at hl 1 rfl) ?_
  refine z_icmp_eq (tgt := 320) hx hb dL_law_315 (by decide) (by omega) (by omega) (fun _ => ?_) (fun h => absurd rfl h)
  refine lv_iload hx hb dL_law_320 (lv_at hl 1 rfl) ?_
  refine z_if_ne (tgt := 337) hx hb dL_law_322 (by decide) (by omega) (fun h9 => ?_) (fun h9 => ?_)
  · refine lv_goto (tgt := 1390) hx hb dL_law_337 (by decide) ?_
    exact hk σ' k a' f' fd _ _ ls hW' h12' hJ hS (by show lv_has ls 8 [(5, .int (zi ((5 * j : Nat) : Int))), (4, .ref od), (3, .ref o), (2, .ref (ad 0)), (1, .ref (a' 1 0)), (0, .ref b)]; rw [ha']; exact lv_sub hl [2, 3, 4, 5, 6, 7] rfl)
  ·
    refine lv_aload_n hx hb dL_law_325 rfl (lv_at hl 4 rfl) ?_
    refine z_iconst hx hb dL_law_326 ?_
    refine z_lald hx hb hL hJ.2.2.1 dL_law_327 ?_
    rw [hf' h9]
    refine lv_iload hx hb dL_law_328 (lv_at hl 0 rfl) ?_
    refine lv_i2l hx hb dL_law_330 rfl ?_
    refine W.lcmp hx hb dL_law_331 ?_
    refine z_xtop (y := zi 0) (zc_0 _) ?_
    refine z_if_eq (tgt := 337) hx hb dL_law_332 (by decide) (by decide) (fun _ => ?_) (fun h => absurd rfl h)
    refine lv_goto (tgt := 1390) hx hb dL_law_337 (by decide) ?_
    exact hk σ' k a' f' fd _ _ ls hW' h12' hJ hS (by show lv_has ls 8 [(5, .int (zi ((5 * j : Nat) : Int))), (4, .ref od), (3, .ref o), (2, .ref (ad 0)), (1, .ref (a' 1 0)), (0, .ref b)]; rw [ha']; exact lv_sub hl [2, 3, 4, 5, 6, 7] rfl)
set_option maxHeartbeats 4000000 in
set_option maxRecDepth 100000 in
theorem L_note {p : Program} {e : Env} {s : State} {m : MethodId} {below : List Frame} {meth : Method} {c : Code} {Q : State → Prop} {l : Launch} {b L : Nat} {xs : Nat → Int32} {g : gG} {cL cD : ClassId} {ad : Nat → Nat} {o od : Nat} (hC : LC p l s m c b L xs g cL cD ad o od) {σ : SG} {th : Int} {a : AD} {f : Nat → Int64} {fd : Nat → UInt64} {H : Heap} {locs : List Loc} {ls : Array Slot} {cells slots j : Nat} (hW : WF σ) (h12 : S12 σ) (hJ : LJ g cL cD ad o od σ a σ th f fd s.heap.size H) (hS : va_S (SA s) s.heap H locs) (hl : lv_has ls 8 (lv0 b o od ad a j)) (hj : 5 * j + 4 < L) (hc1 : cells + 4 ≤ 601024) (hc2 : slots + 32 ≤ 7293033) (hk : LK p l e s m below meth c b g cL cD ad o od Q j (cells + 4) (slots + 32) 1390) : W p l e room_1 s m #[Value.ref b] below meth c H locs cells slots Q (F0 m 340 ls []) := by
  obtain ⟨hx, hb, hml, hown, hts, hX, hbl, hK, hT, hN, hL, hF, hfl, hL9⟩ := hC
  obtain ⟨σ', k, v, rm, hW', h12', hk3, hB, hM1, ⟨r1, r2, r3, r4⟩, hM2⟩ := S_note l hfl g cL cD ad hF.1 σ th a hW h12 (xs (5 * j + 1)).toInt (xs (5 * j + 2)).toInt (xs (5 * j + 3)).toInt (zi_rg _) (zi_rg _) (zi_rg _)
  have hl : lv_has ls 8 [(5, .int (zi ((5 * j : Nat) : Int))), (4, .ref od), (3, .ref o), (2, .ref (ad 0)), (1, .ref (a 1 0)), (0, .ref b)] := hl
  refine lv_aload_n hx hb dL_law_340 rfl (lv_at hl 4 rfl) ?_
  refine lv_aload_n hx hb dL_law_341 rfl (lv_at hl 5 rfl) ?_
  refine lv_iload hx hb dL_law_342 (lv_at hl 0 rfl) ?_
  refine z_iconst hx hb dL_law_344 ?_
  refine z_iadd hx hb dL_law_345 ?_
  refine z_sld hx hb hX hbl hS (5 * j + 1) (by omega) (by omega) hL9 dL_law_346 ?_
  refine lv_aload_n hx hb dL_law_347 rfl (lv_at hl 5 rfl) ?_
  refine lv_iload hx hb dL_law_348 (lv_at hl 0 rfl) ?_
  refine z_iconst hx hb dL_law_350 ?_
  refine z_iadd hx hb dL_law_351 ?_
  refine z_sld hx hb hX hbl hS (5 * j + 2) (by omega) (by omega) hL9 dL_law_352 ?_
  refine lv_aload_n hx hb dL_law_353 rfl (lv_at hl 5 rfl) ?_
  refine lv_iload hx hb dL_law_354 (lv_at hl 0 rfl) ?_
  refine z_iconst hx hb dL_law_356 ?_
  refine z_iadd hx hb dL_law_357 ?_
  refine z_sld hx hb hX hbl hS (5 * j + 3) (by omega) (by omega) hL9 dL_law_358 ?_
  refine lv_aload_n hx hb dL_law_359 rfl (lv_at hl 2 rfl) ?_
  refine lj_S (rest := []) (av := [.int (zi (xs (5 * j + 1)).toInt), .int (zi (xs (5 * j + 2)).toInt), .int (zi (xs (5 * j + 3)).toInt)]) ⟨hx, hb, hml, hown, hts⟩ (hM1 o _) (vx_cwSW 5 hts gL_law_L_note rfl rfl rfl (by decide +kernel) ⟨Nat.le_of_ble_eq_true rfl, Nat.le_of_ble_eq_true rfl⟩) hF hJ hK hT hN hL rfl hl.1 rfl (Nat.le_of_ble_eq_true rfl) dL_law_360 ⟨hc1, hc2⟩ hS (fun a' f' H1 locs1 ha' hf' hJ hS => ?_)
  refine lv_istore (lv' := [(6, .int (zi k)), (5, .int (zi ((5 * j : Nat) : Int))), (4, .ref od), (3, .ref o), (2, .ref (ad 0)), (1, .ref (a 1 0)), (0, .ref b)]) hx hb dL_law_363 hl (by decide) rfl (fun ls hl => ?_)
  refine lv_aload_n hx hb dL_law_365 rfl (lv_at hl 4 rfl) ?_
  refine lv_aload_n hx hb dL_law_366 rfl (lv_at hl 6 rfl) ?_
  refine lv_iload hx hb dL_law_367 (lv_at hl 1 rfl) ?_
  refine z_iconst hx hb dL_law_369 ?_
  refine z_iadd hx hb dL_law_370 ?_
  refine z_sld hx hb hX hbl hS (5 * j + 1) (by omega) (by omega) hL9 dL_law_371 ?_
  refine lv_aload_n hx hb dL_law_372 rfl (lv_at hl 6 rfl) ?_
  refine lv_iload hx hb dL_law_373 (lv_at hl 1 rfl) ?_
  refine z_iconst hx hb dL_law_375 ?_
  refine z_iadd hx hb dL_law_376 ?_
  refine z_sld hx hb hX hbl hS (5 * j + 2) (by omega) (by omega) hL9 dL_law_377 ?_
  refine lv_aload_n hx hb dL_law_378 rfl (lv_at hl 6 rfl) ?_
  refine lv_iload hx hb dL_law_379 (lv_at hl 1 rfl) ?_
  refine z_iconst hx hb dL_law_381 ?_
  refine z_iadd hx hb dL_law_382 ?_
  refine z_sld hx hb hX hbl hS (5 * j + 3) (by omega) (by omega) hL9 dL_law_383 ?_
  refine lr_V (rest := []) (As := [.int (zi (xs (5 * j + 1)).toInt), .int (zi (xs (5 * j + 2)).toInt), .int (zi (xs (5 * j + 3)).toInt)]) ⟨hx, hb, hml, hown, hts⟩ (hM2 _) (cwV 3 hts gL_law_X4_note rfl r1 r2 (by decide +kernel) ⟨by show rm.frames + 1 ≤ 11; omega, by show 8 + (4 + 11) + rm.locals ≤ 398; omega⟩) (z_recv hK (hJ.2.1 0 _ rfl) rfl) hF hJ hK rfl hl.1 rfl (Nat.le_of_ble_eq_true rfl) dL_law_384 ⟨by show cells + 4 + 0 ≤ 601024; omega, by show slots + 32 + 0 ≤ 7293033; omega⟩ hS (fun H2 locs2 hJ hS => ?_)
  refine lv_istore (lv' := [(7, .int (zi v)), (6, .int (zi k)), (5, .int (zi ((5 * j : Nat) : Int))), (4, .ref od), (3, .ref o), (2, .ref (ad 0)), (1, .ref (a 1 0)), (0, .ref b)]) hx hb dL_law_387 hl (by decide) rfl (fun ls hl => ?_)
  refine lv_aload_n hx hb dL_law_389 rfl (lv_at hl 5 rfl) ?_
  refine lr_V (rest := []) (As := []) ⟨hx, hb, hml, hown, hts⟩ (c_X4_thrown l g ad σ' k hW' hF.1 _) (cwV 0 hts gL_law_X4_thrown rfl rfl rfl (by decide +kernel) ⟨Nat.le_of_ble_eq_true rfl, Nat.le_of_ble_eq_true rfl⟩) (z_recv hK (hJ.2.1 0 _ rfl) rfl) hF hJ hK rfl hl.1 rfl (Nat.le_of_ble_eq_true rfl) dL_law_390 ⟨by show cells + 4 + 0 ≤ 601024; omega, by show slots + 32 + 0 ≤ 7293033; omega⟩ hS (fun H3 locs3 hJ hS => ?_)
  refine lv_iload hx hb dL_law_393 (lv_at hl 1 rfl) ?_
  refine z_icmp_eq (tgt := 400) hx hb dL_law_395 (by decide) (by omega) (by omega) (fun _ => ?_) (fun h => absurd rfl h)
  refine lv_iload hx hb dL_law_400 (lv_at hl 1 rfl) ?_
  refine z_if_ne (tgt := 417) hx hb dL_law_402 (by decide) (by omega) (fun h9 => ?_) (fun h9 => ?_)
  · refine lv_goto (tgt := 1390) hx hb dL_law_417 (by decide) ?_
    exact hk σ' k a' f' fd _ _ ls hW' h12' hJ hS (by show lv_has ls 8 [(5, .int (zi ((5 * j : Nat) : Int))), (4, .ref od), (3, .ref o), (2, .ref (ad 0)), (1, .ref (a' 1 0)), (0, .ref b)]; rw [ha']; exact lv_sub hl [2, 3, 4, 5, 6, 7] rfl)
  ·
    refine lv_aload_n hx hb dL_law_405 rfl (lv_at hl 4 rfl) ?_
    refine z_iconst hx hb dL_law_406 ?_
    refine z_lald hx hb hL hJ.2.2.1 dL_law_407 ?_
    rw [hf' h9]
    refine lv_iload hx hb dL_law_408 (lv_at hl 0 rfl) ?_
    refine lv_i2l hx hb dL_law_410 rfl ?_
    refine W.lcmp hx hb dL_law_411 ?_
    refine z_xtop (y := zi 0) (zc_0 _) ?_
    refine z_if_eq (tgt := 417) hx hb dL_law_412 (by decide) (by decide) (fun _ => ?_) (fun h => absurd rfl h)
    refine lv_goto (tgt := 1390) hx hb dL_law_417 (by decide) ?_
    exact hk σ' k a' f' fd _ _ ls hW' h12' hJ hS (by show lv_has ls 8 [(5, .int (zi ((5 * j : Nat) : Int))), (4, .ref od), (3, .ref o), (2, .ref (ad 0)), (1, .ref (a' 1 0)), (0, .ref b)]; rw [ha']; exact lv_sub hl [2, 3, 4, 5, 6, 7] rfl)
set_option maxHeartbeats 4000000 in
set_option maxRecDepth 100000 in
theorem L_base {p : Program} {e : Env} {s : State} {m : MethodId} {below : List Frame} {meth : Method} {c : Code} {Q : State → Prop} {l : Launch} {b L : Nat} {xs : Nat → Int32} {g : gG} {cL cD : ClassId} {ad : Nat → Nat} {o od : Nat} (hC : LC p l s m c b L xs g cL cD ad o od) {σ : SG} {th : Int} {a : AD} {f : Nat → Int64} {fd : Nat → UInt64} {H : Heap} {locs : List Loc} {ls : Array Slot} {cells slots j : Nat} (hW : WF σ) (h12 : S12 σ) (hJ : LJ g cL cD ad o od σ a σ th f fd s.heap.size H) (hS : va_S (SA s) s.heap H locs) (hl : lv_has ls 8 (lv0 b o od ad a j)) (hj : 5 * j + 4 < L) (hc1 : cells + 4 ≤ 601024) (hc2 : slots + 32 ≤ 7293033) (hk : LK p l e s m below meth c b g cL cD ad o od Q j (cells + 4) (slots + 32) 1390) : W p l e room_1 s m #[Value.ref b] below meth c H locs cells slots Q (F0 m 420 ls []) := by
  obtain ⟨hx, hb, hml, hown, hts, hX, hbl, hK, hT, hN, hL, hF, hfl, hL9⟩ := hC
  obtain ⟨σ', k, v, rm, hW', h12', hk3, hB, hM1, ⟨r1, r2, r3, r4⟩, hM2⟩ := S_base l hfl g cL cD ad hF.1 σ th a hW h12 (xs (5 * j + 1)).toInt (xs (5 * j + 2)).toInt (zi_rg _) (zi_rg _)
  have hl : lv_has ls 8 [(5, .int (zi ((5 * j : Nat) : Int))), (4, .ref od), (3, .ref o), (2, .ref (ad 0)), (1, .ref (a 1 0)), (0, .ref b)] := hl
  refine lv_aload_n hx hb dL_law_420 rfl (lv_at hl 4 rfl) ?_
  refine lv_aload_n hx hb dL_law_421 rfl (lv_at hl 5 rfl) ?_
  refine lv_iload hx hb dL_law_422 (lv_at hl 0 rfl) ?_
  refine z_iconst hx hb dL_law_424 ?_
  refine z_iadd hx hb dL_law_425 ?_
  refine z_sld hx hb hX hbl hS (5 * j + 1) (by omega) (by omega) hL9 dL_law_426 ?_
  refine lv_aload_n hx hb dL_law_427 rfl (lv_at hl 5 rfl) ?_
  refine lv_iload hx hb dL_law_428 (lv_at hl 0 rfl) ?_
  refine z_iconst hx hb dL_law_430 ?_
  refine z_iadd hx hb dL_law_431 ?_
  refine z_sld hx hb hX hbl hS (5 * j + 2) (by omega) (by omega) hL9 dL_law_432 ?_
  refine lv_aload_n hx hb dL_law_433 rfl (lv_at hl 2 rfl) ?_
  refine lj_S (rest := []) (av := [.int (zi (xs (5 * j + 1)).toInt), .int (zi (xs (5 * j + 2)).toInt)]) ⟨hx, hb, hml, hown, hts⟩ (hM1 o _) (vx_cwSW 4 hts gL_law_L_base rfl rfl rfl (by decide +kernel) ⟨Nat.le_of_ble_eq_true rfl, Nat.le_of_ble_eq_true rfl⟩) hF hJ hK hT hN hL rfl hl.1 rfl (Nat.le_of_ble_eq_true rfl) dL_law_434 ⟨hc1, hc2⟩ hS (fun a' f' H1 locs1 ha' hf' hJ hS => ?_)
  refine lv_istore (lv' := [(6, .int (zi k)), (5, .int (zi ((5 * j : Nat) : Int))), (4, .ref od), (3, .ref o), (2, .ref (ad 0)), (1, .ref (a 1 0)), (0, .ref b)]) hx hb dL_law_437 hl (by decide) rfl (fun ls hl => ?_)
  refine lv_aload_n hx hb dL_law_439 rfl (lv_at hl 4 rfl) ?_
  refine lv_aload_n hx hb dL_law_440 rfl (lv_at hl 6 rfl) ?_
  refine lv_iload hx hb dL_law_441 (lv_at hl 1 rfl) ?_
  refine z_iconst hx hb dL_law_443 ?_
  refine z_iadd hx hb dL_law_444 ?_
  refine z_sld hx hb hX hbl hS (5 * j + 1) (by omega) (by omega) hL9 dL_law_445 ?_
  refine lv_aload_n hx hb dL_law_446 rfl (lv_at hl 6 rfl) ?_
  refine lv_iload hx hb dL_law_447 (lv_at hl 1 rfl) ?_
  refine z_iconst hx hb dL_law_449 ?_
  refine z_iadd hx hb dL_law_450 ?_
  refine z_sld hx hb hX hbl hS (5 * j + 2) (by omega) (by omega) hL9 dL_law_451 ?_
  refine lr_V (rest := []) (As := [.int (zi (xs (5 * j + 1)).toInt), .int (zi (xs (5 * j + 2)).toInt)]) ⟨hx, hb, hml, hown, hts⟩ (hM2 _) (cwV 2 hts gL_law_X4_base rfl r1 r2 (by decide +kernel) ⟨by show rm.frames + 1 ≤ 11; omega, by show 8 + (3 + 11) + rm.locals ≤ 398; omega⟩) (z_recv hK (hJ.2.1 0 _ rfl) rfl) hF hJ hK rfl hl.1 rfl (Nat.le_of_ble_eq_true rfl) dL_law_452 ⟨by show cells + 4 + 0 ≤ 601024; omega, by show slots + 32 + 0 ≤ 7293033; omega⟩ hS (fun H2 locs2 hJ hS => ?_)
  refine lv_istore (lv' := [(7, .int (zi v)), (6, .int (zi k)), (5, .int (zi ((5 * j : Nat) : Int))), (4, .ref od), (3, .ref o), (2, .ref (ad 0)), (1, .ref (a 1 0)), (0, .ref b)]) hx hb dL_law_455 hl (by decide) rfl (fun ls hl => ?_)
  refine lv_aload_n hx hb dL_law_457 rfl (lv_at hl 5 rfl) ?_
  refine lr_V (rest := []) (As := []) ⟨hx, hb, hml, hown, hts⟩ (c_X4_thrown l g ad σ' k hW' hF.1 _) (cwV 0 hts gL_law_X4_thrown rfl rfl rfl (by decide +kernel) ⟨Nat.le_of_ble_eq_true rfl, Nat.le_of_ble_eq_true rfl⟩) (z_recv hK (hJ.2.1 0 _ rfl) rfl) hF hJ hK rfl hl.1 rfl (Nat.le_of_ble_eq_true rfl) dL_law_458 ⟨by show cells + 4 + 0 ≤ 601024; omega, by show slots + 32 + 0 ≤ 7293033; omega⟩ hS (fun H3 locs3 hJ hS => ?_)
  refine lv_iload hx hb dL_law_461 (lv_at hl 1 rfl) ?_
  refine z_icmp_eq (tgt := 468) hx hb dL_law_463 (by decide) (by omega) (by omega) (fun _ => ?_) (fun h => absurd rfl h)
  refine lv_iload hx hb dL_law_468 (lv_at hl 1 rfl) ?_
  refine z_if_ne (tgt := 485) hx hb dL_law_470 (by decide) (by omega) (fun h9 => ?_) (fun h9 => ?_)
  · refine lv_goto (tgt := 1390) hx hb dL_law_485 (by decide) ?_
    exact hk σ' k a' f' fd _ _ ls hW' h12' hJ hS (by show lv_has ls 8 [(5, .int (zi ((5 * j : Nat) : Int))), (4, .ref od), (3, .ref o), (2, .ref (ad 0)), (1, .ref (a' 1 0)), (0, .ref b)]; rw [ha']; exact lv_sub hl [2, 3, 4, 5, 6, 7] rfl)
  ·
    refine lv_aload_n hx hb dL_law_473 rfl (lv_at hl 4 rfl) ?_
    refine z_iconst hx hb dL_law_474 ?_
    refine z_lald hx hb hL hJ.2.2.1 dL_law_475 ?_
    rw [hf' h9]
    refine lv_iload hx hb dL_law_476 (lv_at hl 0 rfl) ?_
    refine lv_i2l hx hb dL_law_478 rfl ?_
    refine W.lcmp hx hb dL_law_479 ?_
    refine z_xtop (y := zi 0) (zc_0 _) ?_
    refine z_if_eq (tgt := 485) hx hb dL_law_480 (by decide) (by decide) (fun _ => ?_) (fun h => absurd rfl h)
    refine lv_goto (tgt := 1390) hx hb dL_law_485 (by decide) ?_
    exact hk σ' k a' f' fd _ _ ls hW' h12' hJ hS (by show lv_has ls 8 [(5, .int (zi ((5 * j : Nat) : Int))), (4, .ref od), (3, .ref o), (2, .ref (ad 0)), (1, .ref (a' 1 0)), (0, .ref b)]; rw [ha']; exact lv_sub hl [2, 3, 4, 5, 6, 7] rfl)
set_option maxHeartbeats 4000000 in
set_option maxRecDepth 100000 in
theorem L_conflicts {p : Program} {e : Env} {s : State} {m : MethodId} {below : List Frame} {meth : Method} {c : Code} {Q : State → Prop} {l : Launch} {b L : Nat} {xs : Nat → Int32} {g : gG} {cL cD : ClassId} {ad : Nat → Nat} {o od : Nat} (hC : LC p l s m c b L xs g cL cD ad o od) {σ : SG} {th : Int} {a : AD} {f : Nat → Int64} {fd : Nat → UInt64} {H : Heap} {locs : List Loc} {ls : Array Slot} {cells slots j : Nat} (hW : WF σ) (h12 : S12 σ) (hJ : LJ g cL cD ad o od σ a σ th f fd s.heap.size H) (hS : va_S (SA s) s.heap H locs) (hl : lv_has ls 8 (lv0 b o od ad a j)) (hj : 5 * j + 4 < L) (hc1 : cells + 4 ≤ 601024) (hc2 : slots + 32 ≤ 7293033) (hk : LK p l e s m below meth c b g cL cD ad o od Q j (cells + 4) (slots + 32) 1390) : W p l e room_1 s m #[Value.ref b] below meth c H locs cells slots Q (F0 m 488 ls []) := by
  obtain ⟨hx, hb, hml, hown, hts, hX, hbl, hK, hT, hN, hL, hF, hfl, hL9⟩ := hC
  obtain ⟨σ', k, v, rm, hW', h12', hk3, hB, hM1, ⟨r1, r2, r3, r4⟩, hM2⟩ := S_conflicts l hfl g cL cD ad hF.1 σ th a hW h12 (xs (5 * j + 1)).toInt (xs (5 * j + 2)).toInt (zi_rg _) (zi_rg _)
  have hl : lv_has ls 8 [(5, .int (zi ((5 * j : Nat) : Int))), (4, .ref od), (3, .ref o), (2, .ref (ad 0)), (1, .ref (a 1 0)), (0, .ref b)] := hl
  refine lv_aload_n hx hb dL_law_488 rfl (lv_at hl 4 rfl) ?_
  refine lv_aload_n hx hb dL_law_489 rfl (lv_at hl 5 rfl) ?_
  refine lv_iload hx hb dL_law_490 (lv_at hl 0 rfl) ?_
  refine z_iconst hx hb dL_law_492 ?_
  refine z_iadd hx hb dL_law_493 ?_
  refine z_sld hx hb hX hbl hS (5 * j + 1) (by omega) (by omega) hL9 dL_law_494 ?_
  refine lv_aload_n hx hb dL_law_495 rfl (lv_at hl 5 rfl) ?_
  refine lv_iload hx hb dL_law_496 (lv_at hl 0 rfl) ?_
  refine z_iconst hx hb dL_law_498 ?_
  refine z_iadd hx hb dL_law_499 ?_
  refine z_sld hx hb hX hbl hS (5 * j + 2) (by omega) (by omega) hL9 dL_law_500 ?_
  refine lv_aload_n hx hb dL_law_501 rfl (lv_at hl 2 rfl) ?_
  refine lj_S (rest := []) (av := [.int (zi (xs (5 * j + 1)).toInt), .int (zi (xs (5 * j + 2)).toInt)]) ⟨hx, hb, hml, hown, hts⟩ (hM1 o _) (vx_cwSW 4 hts gL_law_L_conflicts rfl rfl rfl (by decide +kernel) ⟨Nat.le_of_ble_eq_true rfl, Nat.le_of_ble_eq_true rfl⟩) hF hJ hK hT hN hL rfl hl.1 rfl (Nat.le_of_ble_eq_true rfl) dL_law_502 ⟨hc1, hc2⟩ hS (fun a' f' H1 locs1 ha' hf' hJ hS => ?_)
  refine lv_istore (lv' := [(6, .int (zi k)), (5, .int (zi ((5 * j : Nat) : Int))), (4, .ref od), (3, .ref o), (2, .ref (ad 0)), (1, .ref (a 1 0)), (0, .ref b)]) hx hb dL_law_505 hl (by decide) rfl (fun ls hl => ?_)
  refine lv_aload_n hx hb dL_law_507 rfl (lv_at hl 4 rfl) ?_
  refine lv_aload_n hx hb dL_law_508 rfl (lv_at hl 6 rfl) ?_
  refine lv_iload hx hb dL_law_509 (lv_at hl 1 rfl) ?_
  refine z_iconst hx hb dL_law_511 ?_
  refine z_iadd hx hb dL_law_512 ?_
  refine z_sld hx hb hX hbl hS (5 * j + 1) (by omega) (by omega) hL9 dL_law_513 ?_
  refine lv_aload_n hx hb dL_law_514 rfl (lv_at hl 6 rfl) ?_
  refine lv_iload hx hb dL_law_515 (lv_at hl 1 rfl) ?_
  refine z_iconst hx hb dL_law_517 ?_
  refine z_iadd hx hb dL_law_518 ?_
  refine z_sld hx hb hX hbl hS (5 * j + 2) (by omega) (by omega) hL9 dL_law_519 ?_
  refine lr_V (rest := []) (As := [.int (zi (xs (5 * j + 1)).toInt), .int (zi (xs (5 * j + 2)).toInt)]) ⟨hx, hb, hml, hown, hts⟩ (hM2 _) (cwV 2 hts gL_law_X4_conflicts rfl r1 r2 (by decide +kernel) ⟨by show rm.frames + 1 ≤ 11; omega, by show 8 + (7 + 11) + rm.locals ≤ 398; omega⟩) (z_recv hK (hJ.2.1 0 _ rfl) rfl) hF hJ hK rfl hl.1 rfl (Nat.le_of_ble_eq_true rfl) dL_law_520 ⟨by show cells + 4 + 0 ≤ 601024; omega, by show slots + 32 + 0 ≤ 7293033; omega⟩ hS (fun H2 locs2 hJ hS => ?_)
  refine lv_istore (lv' := [(7, .int (zi v)), (6, .int (zi k)), (5, .int (zi ((5 * j : Nat) : Int))), (4, .ref od), (3, .ref o), (2, .ref (ad 0)), (1, .ref (a 1 0)), (0, .ref b)]) hx hb dL_law_523 hl (by decide) rfl (fun ls hl => ?_)
  refine lv_aload_n hx hb dL_law_525 rfl (lv_at hl 5 rfl) ?_
  refine lr_V (rest := []) (As := []) ⟨hx, hb, hml, hown, hts⟩ (c_X4_thrown l g ad σ' k hW' hF.1 _) (cwV 0 hts gL_law_X4_thrown rfl rfl rfl (by decide +kernel) ⟨Nat.le_of_ble_eq_true rfl, Nat.le_of_ble_eq_true rfl⟩) (z_recv hK (hJ.2.1 0 _ rfl) rfl) hF hJ hK rfl hl.1 rfl (Nat.le_of_ble_eq_true rfl) dL_law_526 ⟨by show cells + 4 + 0 ≤ 601024; omega, by show slots + 32 + 0 ≤ 7293033; omega⟩ hS (fun H3 locs3 hJ hS => ?_)
  refine lv_iload hx hb dL_law_529 (lv_at hl 1 rfl) ?_
  refine z_icmp_eq (tgt := 536) hx hb dL_law_531 (by decide) (by omega) (by omega) (fun _ => ?_) (fun h => absurd rfl h)
  refine lv_iload hx hb dL_law_536 (lv_at hl 1 rfl) ?_
  refine z_if_ne (tgt := 553) hx hb dL_law_538 (by decide) (by omega) (fun h9 => ?_) (fun h9 => ?_)
  · refine lv_goto (tgt := 1390) hx hb dL_law_553 (by decide) ?_
    exact hk σ' k a' f' fd _ _ ls hW' h12' hJ hS (by show lv_has ls 8 [(5, .int (zi ((5 * j : Nat) : Int))), (4, .ref od), (3, .ref o), (2, .ref (ad 0)), (1, .ref (a' 1 0)), (0, .ref b)]; rw [ha']; exact lv_sub hl [2, 3, 4, 5, 6, 7] rfl)
  ·
    refine lv_aload_n hx hb dL_law_541 rfl (lv_at hl 4 rfl) ?_
    refine z_iconst hx hb dL_law_542 ?_
    refine z_lald hx hb hL hJ.2.2.1 dL_law_543 ?_
    rw [hf' h9]
    refine lv_iload hx hb dL_law_544 (lv_at hl 0 rfl) ?_
    refine lv_i2l hx hb dL_law_546 rfl ?_
    refine W.lcmp hx hb dL_law_547 ?_
    refine z_xtop (y := zi 0) (zc_0 _) ?_
    refine z_if_eq (tgt := 553) hx hb dL_law_548 (by decide) (by decide) (fun _ => ?_) (fun h => absurd rfl h)
    refine lv_goto (tgt := 1390) hx hb dL_law_553 (by decide) ?_
    exact hk σ' k a' f' fd _ _ ls hW' h12' hJ hS (by show lv_has ls 8 [(5, .int (zi ((5 * j : Nat) : Int))), (4, .ref od), (3, .ref o), (2, .ref (ad 0)), (1, .ref (a' 1 0)), (0, .ref b)]; rw [ha']; exact lv_sub hl [2, 3, 4, 5, 6, 7] rfl)
set_option maxHeartbeats 4000000 in
set_option maxRecDepth 100000 in
theorem L_merge {p : Program} {e : Env} {s : State} {m : MethodId} {below : List Frame} {meth : Method} {c : Code} {Q : State → Prop} {l : Launch} {b L : Nat} {xs : Nat → Int32} {g : gG} {cL cD : ClassId} {ad : Nat → Nat} {o od : Nat} (hC : LC p l s m c b L xs g cL cD ad o od) {σ : SG} {th : Int} {a : AD} {f : Nat → Int64} {fd : Nat → UInt64} {H : Heap} {locs : List Loc} {ls : Array Slot} {cells slots j : Nat} (hW : WF σ) (h12 : S12 σ) (hJ : LJ g cL cD ad o od σ a σ th f fd s.heap.size H) (hS : va_S (SA s) s.heap H locs) (hl : lv_has ls 8 (lv0 b o od ad a j)) (hj : 5 * j + 4 < L) (hc1 : cells + 4 ≤ 601024) (hc2 : slots + 32 ≤ 7293033) (hk : LK p l e s m below meth c b g cL cD ad o od Q j (cells + 4) (slots + 32) 1390) : W p l e room_1 s m #[Value.ref b] below meth c H locs cells slots Q (F0 m 556 ls []) := by
  obtain ⟨hx, hb, hml, hown, hts, hX, hbl, hK, hT, hN, hL, hF, hfl, hL9⟩ := hC
  obtain ⟨σ', k, v, rm, hW', h12', hk3, hB, hM1, ⟨r1, r2, r3, r4⟩, hM2⟩ := S_merge l hfl g cL cD ad hF.1 σ th a hW h12 (xs (5 * j + 1)).toInt (xs (5 * j + 2)).toInt (zi_rg _) (zi_rg _)
  have hl : lv_has ls 8 [(5, .int (zi ((5 * j : Nat) : Int))), (4, .ref od), (3, .ref o), (2, .ref (ad 0)), (1, .ref (a 1 0)), (0, .ref b)] := hl
  refine lv_aload_n hx hb dL_law_556 rfl (lv_at hl 4 rfl) ?_
  refine lv_aload_n hx hb dL_law_557 rfl (lv_at hl 5 rfl) ?_
  refine lv_iload hx hb dL_law_558 (lv_at hl 0 rfl) ?_
  refine z_iconst hx hb dL_law_560 ?_
  refine z_iadd hx hb dL_law_561 ?_
  refine z_sld hx hb hX hbl hS (5 * j + 1) (by omega) (by omega) hL9 dL_law_562 ?_
  refine lv_aload_n hx hb dL_law_563 rfl (lv_at hl 5 rfl) ?_
  refine lv_iload hx hb dL_law_564 (lv_at hl 0 rfl) ?_
  refine z_iconst hx hb dL_law_566 ?_
  refine z_iadd hx hb dL_law_567 ?_
  refine z_sld hx hb hX hbl hS (5 * j + 2) (by omega) (by omega) hL9 dL_law_568 ?_
  refine lv_aload_n hx hb dL_law_569 rfl (lv_at hl 2 rfl) ?_
  refine lj_S (rest := []) (av := [.int (zi (xs (5 * j + 1)).toInt), .int (zi (xs (5 * j + 2)).toInt)]) ⟨hx, hb, hml, hown, hts⟩ (hM1 o _) (vx_cwSW 4 hts gL_law_L_merge rfl rfl rfl (by decide +kernel) ⟨Nat.le_of_ble_eq_true rfl, Nat.le_of_ble_eq_true rfl⟩) hF hJ hK hT hN hL rfl hl.1 rfl (Nat.le_of_ble_eq_true rfl) dL_law_570 ⟨hc1, hc2⟩ hS (fun a' f' H1 locs1 ha' hf' hJ hS => ?_)
  refine lv_istore (lv' := [(6, .int (zi k)), (5, .int (zi ((5 * j : Nat) : Int))), (4, .ref od), (3, .ref o), (2, .ref (ad 0)), (1, .ref (a 1 0)), (0, .ref b)]) hx hb dL_law_573 hl (by decide) rfl (fun ls hl => ?_)
  refine lv_aload_n hx hb dL_law_575 rfl (lv_at hl 4 rfl) ?_
  refine lv_aload_n hx hb dL_law_576 rfl (lv_at hl 6 rfl) ?_
  refine lv_iload hx hb dL_law_577 (lv_at hl 1 rfl) ?_
  refine z_iconst hx hb dL_law_579 ?_
  refine z_iadd hx hb dL_law_580 ?_
  refine z_sld hx hb hX hbl hS (5 * j + 1) (by omega) (by omega) hL9 dL_law_581 ?_
  refine lv_aload_n hx hb dL_law_582 rfl (lv_at hl 6 rfl) ?_
  refine lv_iload hx hb dL_law_583 (lv_at hl 1 rfl) ?_
  refine z_iconst hx hb dL_law_585 ?_
  refine z_iadd hx hb dL_law_586 ?_
  refine z_sld hx hb hX hbl hS (5 * j + 2) (by omega) (by omega) hL9 dL_law_587 ?_
  refine lr_V (rest := []) (As := [.int (zi (xs (5 * j + 1)).toInt), .int (zi (xs (5 * j + 2)).toInt)]) ⟨hx, hb, hml, hown, hts⟩ (hM2 _) (cwV 2 hts gL_law_X4_merge rfl r1 r2 (by decide +kernel) ⟨by show rm.frames + 1 ≤ 11; omega, by show 8 + (7 + 11) + rm.locals ≤ 398; omega⟩) (z_recv hK (hJ.2.1 0 _ rfl) rfl) hF hJ hK rfl hl.1 rfl (Nat.le_of_ble_eq_true rfl) dL_law_588 ⟨by show cells + 4 + 0 ≤ 601024; omega, by show slots + 32 + 0 ≤ 7293033; omega⟩ hS (fun H2 locs2 hJ hS => ?_)
  refine lv_istore (lv' := [(7, .int (zi v)), (6, .int (zi k)), (5, .int (zi ((5 * j : Nat) : Int))), (4, .ref od), (3, .ref o), (2, .ref (ad 0)), (1, .ref (a 1 0)), (0, .ref b)]) hx hb dL_law_591 hl (by decide) rfl (fun ls hl => ?_)
  refine lv_aload_n hx hb dL_law_593 rfl (lv_at hl 5 rfl) ?_
  refine lr_V (rest := []) (As := []) ⟨hx, hb, hml, hown, hts⟩ (c_X4_thrown l g ad σ' k hW' hF.1 _) (cwV 0 hts gL_law_X4_thrown rfl rfl rfl (by decide +kernel) ⟨Nat.le_of_ble_eq_true rfl, Nat.le_of_ble_eq_true rfl⟩) (z_recv hK (hJ.2.1 0 _ rfl) rfl) hF hJ hK rfl hl.1 rfl (Nat.le_of_ble_eq_true rfl) dL_law_594 ⟨by show cells + 4 + 0 ≤ 601024; omega, by show slots + 32 + 0 ≤ 7293033; omega⟩ hS (fun H3 locs3 hJ hS => ?_)
  refine lv_iload hx hb dL_law_597 (lv_at hl 1 rfl) ?_
  refine z_icmp_eq (tgt := 604) hx hb dL_law_599 (by decide) (by omega) (by omega) (fun _ => ?_) (fun h => absurd rfl h)
  refine lv_iload hx hb dL_law_604 (lv_at hl 1 rfl) ?_
  refine z_if_ne (tgt := 621) hx hb dL_law_606 (by decide) (by omega) (fun h9 => ?_) (fun h9 => ?_)
  · refine lv_goto (tgt := 1390) hx hb dL_law_621 (by decide) ?_
    exact hk σ' k a' f' fd _ _ ls hW' h12' hJ hS (by show lv_has ls 8 [(5, .int (zi ((5 * j : Nat) : Int))), (4, .ref od), (3, .ref o), (2, .ref (ad 0)), (1, .ref (a' 1 0)), (0, .ref b)]; rw [ha']; exact lv_sub hl [2, 3, 4, 5, 6, 7] rfl)
  ·
    refine lv_aload_n hx hb dL_law_609 rfl (lv_at hl 4 rfl) ?_
    refine z_iconst hx hb dL_law_610 ?_
    refine z_lald hx hb hL hJ.2.2.1 dL_law_611 ?_
    rw [hf' h9]
    refine lv_iload hx hb dL_law_612 (lv_at hl 0 rfl) ?_
    refine lv_i2l hx hb dL_law_614 rfl ?_
    refine W.lcmp hx hb dL_law_615 ?_
    refine z_xtop (y := zi 0) (zc_0 _) ?_
    refine z_if_eq (tgt := 621) hx hb dL_law_616 (by decide) (by decide) (fun _ => ?_) (fun h => absurd rfl h)
    refine lv_goto (tgt := 1390) hx hb dL_law_621 (by decide) ?_
    exact hk σ' k a' f' fd _ _ ls hW' h12' hJ hS (by show lv_has ls 8 [(5, .int (zi ((5 * j : Nat) : Int))), (4, .ref od), (3, .ref o), (2, .ref (ad 0)), (1, .ref (a' 1 0)), (0, .ref b)]; rw [ha']; exact lv_sub hl [2, 3, 4, 5, 6, 7] rfl)
set_option maxHeartbeats 4000000 in
set_option maxRecDepth 100000 in
theorem L_setWeight {p : Program} {e : Env} {s : State} {m : MethodId} {below : List Frame} {meth : Method} {c : Code} {Q : State → Prop} {l : Launch} {b L : Nat} {xs : Nat → Int32} {g : gG} {cL cD : ClassId} {ad : Nat → Nat} {o od : Nat} (hC : LC p l s m c b L xs g cL cD ad o od) {σ : SG} {th : Int} {a : AD} {f : Nat → Int64} {fd : Nat → UInt64} {H : Heap} {locs : List Loc} {ls : Array Slot} {cells slots j : Nat} (hW : WF σ) (h12 : S12 σ) (hJ : LJ g cL cD ad o od σ a σ th f fd s.heap.size H) (hS : va_S (SA s) s.heap H locs) (hl : lv_has ls 8 (lv0 b o od ad a j)) (hj : 5 * j + 4 < L) (hc1 : cells + 4 ≤ 601024) (hc2 : slots + 32 ≤ 7293033) (hk : LK p l e s m below meth c b g cL cD ad o od Q j (cells + 4) (slots + 32) 1390) : W p l e room_1 s m #[Value.ref b] below meth c H locs cells slots Q (F0 m 624 ls []) := by
  obtain ⟨hx, hb, hml, hown, hts, hX, hbl, hK, hT, hN, hL, hF, hfl, hL9⟩ := hC
  obtain ⟨σ', k, v, rm, hW', h12', hk3, hB, hM1, ⟨r1, r2, r3, r4⟩, hM2⟩ := S_setWeight l hfl g cL cD ad hF.1 σ th a hW h12 (xs (5 * j + 1)).toInt (xs (5 * j + 2)).toInt (zi_rg _) (zi_rg _)
  have hl : lv_has ls 8 [(5, .int (zi ((5 * j : Nat) : Int))), (4, .ref od), (3, .ref o), (2, .ref (ad 0)), (1, .ref (a 1 0)), (0, .ref b)] := hl
  refine lv_aload_n hx hb dL_law_624 rfl (lv_at hl 4 rfl) ?_
  refine lv_aload_n hx hb dL_law_625 rfl (lv_at hl 5 rfl) ?_
  refine lv_iload hx hb dL_law_626 (lv_at hl 0 rfl) ?_
  refine z_iconst hx hb dL_law_628 ?_
  refine z_iadd hx hb dL_law_629 ?_
  refine z_sld hx hb hX hbl hS (5 * j + 1) (by omega) (by omega) hL9 dL_law_630 ?_
  refine lv_aload_n hx hb dL_law_631 rfl (lv_at hl 5 rfl) ?_
  refine lv_iload hx hb dL_law_632 (lv_at hl 0 rfl) ?_
  refine z_iconst hx hb dL_law_634 ?_
  refine z_iadd hx hb dL_law_635 ?_
  refine z_sld hx hb hX hbl hS (5 * j + 2) (by omega) (by omega) hL9 dL_law_636 ?_
  refine lv_aload_n hx hb dL_law_637 rfl (lv_at hl 2 rfl) ?_
  refine lj_S (rest := []) (av := [.int (zi (xs (5 * j + 1)).toInt), .int (zi (xs (5 * j + 2)).toInt)]) ⟨hx, hb, hml, hown, hts⟩ (hM1 o _) (vx_cwSW 4 hts gL_law_L_setWeight rfl rfl rfl (by decide +kernel) ⟨Nat.le_of_ble_eq_true rfl, Nat.le_of_ble_eq_true rfl⟩) hF hJ hK hT hN hL rfl hl.1 rfl (Nat.le_of_ble_eq_true rfl) dL_law_638 ⟨hc1, hc2⟩ hS (fun a' f' H1 locs1 ha' hf' hJ hS => ?_)
  refine lv_istore (lv' := [(6, .int (zi k)), (5, .int (zi ((5 * j : Nat) : Int))), (4, .ref od), (3, .ref o), (2, .ref (ad 0)), (1, .ref (a 1 0)), (0, .ref b)]) hx hb dL_law_641 hl (by decide) rfl (fun ls hl => ?_)
  refine lv_aload_n hx hb dL_law_643 rfl (lv_at hl 4 rfl) ?_
  refine lv_aload_n hx hb dL_law_644 rfl (lv_at hl 6 rfl) ?_
  refine lv_iload hx hb dL_law_645 (lv_at hl 1 rfl) ?_
  refine z_iconst hx hb dL_law_647 ?_
  refine z_iadd hx hb dL_law_648 ?_
  refine z_sld hx hb hX hbl hS (5 * j + 1) (by omega) (by omega) hL9 dL_law_649 ?_
  refine lv_aload_n hx hb dL_law_650 rfl (lv_at hl 6 rfl) ?_
  refine lv_iload hx hb dL_law_651 (lv_at hl 1 rfl) ?_
  refine z_iconst hx hb dL_law_653 ?_
  refine z_iadd hx hb dL_law_654 ?_
  refine z_sld hx hb hX hbl hS (5 * j + 2) (by omega) (by omega) hL9 dL_law_655 ?_
  refine lr_V (rest := []) (As := [.int (zi (xs (5 * j + 1)).toInt), .int (zi (xs (5 * j + 2)).toInt)]) ⟨hx, hb, hml, hown, hts⟩ (hM2 _) (cwV 2 hts gL_law_X4_setWeight rfl r1 r2 (by decide +kernel) ⟨by show rm.frames + 1 ≤ 11; omega, by show 8 + (5 + 11) + rm.locals ≤ 398; omega⟩) (z_recv hK (hJ.2.1 0 _ rfl) rfl) hF hJ hK rfl hl.1 rfl (Nat.le_of_ble_eq_true rfl) dL_law_656 ⟨by show cells + 4 + 0 ≤ 601024; omega, by show slots + 32 + 0 ≤ 7293033; omega⟩ hS (fun H2 locs2 hJ hS => ?_)
  refine lv_istore (lv' := [(7, .int (zi v)), (6, .int (zi k)), (5, .int (zi ((5 * j : Nat) : Int))), (4, .ref od), (3, .ref o), (2, .ref (ad 0)), (1, .ref (a 1 0)), (0, .ref b)]) hx hb dL_law_659 hl (by decide) rfl (fun ls hl => ?_)
  refine lv_aload_n hx hb dL_law_661 rfl (lv_at hl 5 rfl) ?_
  refine lr_V (rest := []) (As := []) ⟨hx, hb, hml, hown, hts⟩ (c_X4_thrown l g ad σ' k hW' hF.1 _) (cwV 0 hts gL_law_X4_thrown rfl rfl rfl (by decide +kernel) ⟨Nat.le_of_ble_eq_true rfl, Nat.le_of_ble_eq_true rfl⟩) (z_recv hK (hJ.2.1 0 _ rfl) rfl) hF hJ hK rfl hl.1 rfl (Nat.le_of_ble_eq_true rfl) dL_law_662 ⟨by show cells + 4 + 0 ≤ 601024; omega, by show slots + 32 + 0 ≤ 7293033; omega⟩ hS (fun H3 locs3 hJ hS => ?_)
  refine lv_iload hx hb dL_law_665 (lv_at hl 1 rfl) ?_
  refine z_icmp_eq (tgt := 672) hx hb dL_law_667 (by decide) (by omega) (by omega) (fun _ => ?_) (fun h => absurd rfl h)
  refine lv_iload hx hb dL_law_672 (lv_at hl 1 rfl) ?_
  refine z_if_ne (tgt := 689) hx hb dL_law_674 (by decide) (by omega) (fun h9 => ?_) (fun h9 => ?_)
  · refine lv_goto (tgt := 1390) hx hb dL_law_689 (by decide) ?_
    exact hk σ' k a' f' fd _ _ ls hW' h12' hJ hS (by show lv_has ls 8 [(5, .int (zi ((5 * j : Nat) : Int))), (4, .ref od), (3, .ref o), (2, .ref (ad 0)), (1, .ref (a' 1 0)), (0, .ref b)]; rw [ha']; exact lv_sub hl [2, 3, 4, 5, 6, 7] rfl)
  ·
    refine lv_aload_n hx hb dL_law_677 rfl (lv_at hl 4 rfl) ?_
    refine z_iconst hx hb dL_law_678 ?_
    refine z_lald hx hb hL hJ.2.2.1 dL_law_679 ?_
    rw [hf' h9]
    refine lv_iload hx hb dL_law_680 (lv_at hl 0 rfl) ?_
    refine lv_i2l hx hb dL_law_682 rfl ?_
    refine W.lcmp hx hb dL_law_683 ?_
    refine z_xtop (y := zi 0) (zc_0 _) ?_
    refine z_if_eq (tgt := 689) hx hb dL_law_684 (by decide) (by decide) (fun _ => ?_) (fun h => absurd rfl h)
    refine lv_goto (tgt := 1390) hx hb dL_law_689 (by decide) ?_
    exact hk σ' k a' f' fd _ _ ls hW' h12' hJ hS (by show lv_has ls 8 [(5, .int (zi ((5 * j : Nat) : Int))), (4, .ref od), (3, .ref o), (2, .ref (ad 0)), (1, .ref (a' 1 0)), (0, .ref b)]; rw [ha']; exact lv_sub hl [2, 3, 4, 5, 6, 7] rfl)
set_option maxHeartbeats 4000000 in
set_option maxRecDepth 100000 in
theorem L_setPass {p : Program} {e : Env} {s : State} {m : MethodId} {below : List Frame} {meth : Method} {c : Code} {Q : State → Prop} {l : Launch} {b L : Nat} {xs : Nat → Int32} {g : gG} {cL cD : ClassId} {ad : Nat → Nat} {o od : Nat} (hC : LC p l s m c b L xs g cL cD ad o od) {σ : SG} {th : Int} {a : AD} {f : Nat → Int64} {fd : Nat → UInt64} {H : Heap} {locs : List Loc} {ls : Array Slot} {cells slots j : Nat} (hW : WF σ) (h12 : S12 σ) (hJ : LJ g cL cD ad o od σ a σ th f fd s.heap.size H) (hS : va_S (SA s) s.heap H locs) (hl : lv_has ls 8 (lv0 b o od ad a j)) (hj : 5 * j + 4 < L) (hc1 : cells + 4 ≤ 601024) (hc2 : slots + 32 ≤ 7293033) (hk : LK p l e s m below meth c b g cL cD ad o od Q j (cells + 4) (slots + 32) 1390) : W p l e room_1 s m #[Value.ref b] below meth c H locs cells slots Q (F0 m 692 ls []) := by
  obtain ⟨hx, hb, hml, hown, hts, hX, hbl, hK, hT, hN, hL, hF, hfl, hL9⟩ := hC
  obtain ⟨σ', k, v, rm, hW', h12', hk3, hB, hM1, ⟨r1, r2, r3, r4⟩, hM2⟩ := S_setPass l hfl g cL cD ad hF.1 σ th a hW h12 (xs (5 * j + 1)).toInt (zi_rg _)
  have hl : lv_has ls 8 [(5, .int (zi ((5 * j : Nat) : Int))), (4, .ref od), (3, .ref o), (2, .ref (ad 0)), (1, .ref (a 1 0)), (0, .ref b)] := hl
  refine lv_aload_n hx hb dL_law_692 rfl (lv_at hl 4 rfl) ?_
  refine lv_aload_n hx hb dL_law_693 rfl (lv_at hl 5 rfl) ?_
  refine lv_iload hx hb dL_law_694 (lv_at hl 0 rfl) ?_
  refine z_iconst hx hb dL_law_696 ?_
  refine z_iadd hx hb dL_law_697 ?_
  refine z_sld hx hb hX hbl hS (5 * j + 1) (by omega) (by omega) hL9 dL_law_698 ?_
  refine lv_aload_n hx hb dL_law_699 rfl (lv_at hl 2 rfl) ?_
  refine lj_S (rest := []) (av := [.int (zi (xs (5 * j + 1)).toInt)]) ⟨hx, hb, hml, hown, hts⟩ (hM1 o _) (vx_cwSW 3 hts gL_law_L_setPass rfl rfl rfl (by decide +kernel) ⟨Nat.le_of_ble_eq_true rfl, Nat.le_of_ble_eq_true rfl⟩) hF hJ hK hT hN hL rfl hl.1 rfl (Nat.le_of_ble_eq_true rfl) dL_law_700 ⟨hc1, hc2⟩ hS (fun a' f' H1 locs1 ha' hf' hJ hS => ?_)
  refine lv_istore (lv' := [(6, .int (zi k)), (5, .int (zi ((5 * j : Nat) : Int))), (4, .ref od), (3, .ref o), (2, .ref (ad 0)), (1, .ref (a 1 0)), (0, .ref b)]) hx hb dL_law_703 hl (by decide) rfl (fun ls hl => ?_)
  refine lv_aload_n hx hb dL_law_705 rfl (lv_at hl 4 rfl) ?_
  refine lv_aload_n hx hb dL_law_706 rfl (lv_at hl 6 rfl) ?_
  refine lv_iload hx hb dL_law_707 (lv_at hl 1 rfl) ?_
  refine z_iconst hx hb dL_law_709 ?_
  refine z_iadd hx hb dL_law_710 ?_
  refine z_sld hx hb hX hbl hS (5 * j + 1) (by omega) (by omega) hL9 dL_law_711 ?_
  refine lr_V (rest := []) (As := [.int (zi (xs (5 * j + 1)).toInt)]) ⟨hx, hb, hml, hown, hts⟩ (hM2 _) (cwV 1 hts gL_law_X4_setPass rfl r1 r2 (by decide +kernel) ⟨by show rm.frames + 1 ≤ 11; omega, by show 8 + (3 + 11) + rm.locals ≤ 398; omega⟩) (z_recv hK (hJ.2.1 0 _ rfl) rfl) hF hJ hK rfl hl.1 rfl (Nat.le_of_ble_eq_true rfl) dL_law_712 ⟨by show cells + 4 + 0 ≤ 601024; omega, by show slots + 32 + 0 ≤ 7293033; omega⟩ hS (fun H2 locs2 hJ hS => ?_)
  refine lv_istore (lv' := [(7, .int (zi v)), (6, .int (zi k)), (5, .int (zi ((5 * j : Nat) : Int))), (4, .ref od), (3, .ref o), (2, .ref (ad 0)), (1, .ref (a 1 0)), (0, .ref b)]) hx hb dL_law_715 hl (by decide) rfl (fun ls hl => ?_)
  refine lv_aload_n hx hb dL_law_717 rfl (lv_at hl 5 rfl) ?_
  refine lr_V (rest := []) (As := []) ⟨hx, hb, hml, hown, hts⟩ (c_X4_thrown l g ad σ' k hW' hF.1 _) (cwV 0 hts gL_law_X4_thrown rfl rfl rfl (by decide +kernel) ⟨Nat.le_of_ble_eq_true rfl, Nat.le_of_ble_eq_true rfl⟩) (z_recv hK (hJ.2.1 0 _ rfl) rfl) hF hJ hK rfl hl.1 rfl (Nat.le_of_ble_eq_true rfl) dL_law_718 ⟨by show cells + 4 + 0 ≤ 601024; omega, by show slots + 32 + 0 ≤ 7293033; omega⟩ hS (fun H3 locs3 hJ hS => ?_)
  refine lv_iload hx hb dL_law_721 (lv_at hl 1 rfl) ?_
  refine z_icmp_eq (tgt := 728) hx hb dL_law_723 (by decide) (by omega) (by omega) (fun _ => ?_) (fun h => absurd rfl h)
  refine lv_iload hx hb dL_law_728 (lv_at hl 1 rfl) ?_
  refine z_if_ne (tgt := 745) hx hb dL_law_730 (by decide) (by omega) (fun h9 => ?_) (fun h9 => ?_)
  · refine lv_goto (tgt := 1390) hx hb dL_law_745 (by decide) ?_
    exact hk σ' k a' f' fd _ _ ls hW' h12' hJ hS (by show lv_has ls 8 [(5, .int (zi ((5 * j : Nat) : Int))), (4, .ref od), (3, .ref o), (2, .ref (ad 0)), (1, .ref (a' 1 0)), (0, .ref b)]; rw [ha']; exact lv_sub hl [2, 3, 4, 5, 6, 7] rfl)
  ·
    refine lv_aload_n hx hb dL_law_733 rfl (lv_at hl 4 rfl) ?_
    refine z_iconst hx hb dL_law_734 ?_
    refine z_lald hx hb hL hJ.2.2.1 dL_law_735 ?_
    rw [hf' h9]
    refine lv_iload hx hb dL_law_736 (lv_at hl 0 rfl) ?_
    refine lv_i2l hx hb dL_law_738 rfl ?_
    refine W.lcmp hx hb dL_law_739 ?_
    refine z_xtop (y := zi 0) (zc_0 _) ?_
    refine z_if_eq (tgt := 745) hx hb dL_law_740 (by decide) (by decide) (fun _ => ?_) (fun h => absurd rfl h)
    refine lv_goto (tgt := 1390) hx hb dL_law_745 (by decide) ?_
    exact hk σ' k a' f' fd _ _ ls hW' h12' hJ hS (by show lv_has ls 8 [(5, .int (zi ((5 * j : Nat) : Int))), (4, .ref od), (3, .ref o), (2, .ref (ad 0)), (1, .ref (a' 1 0)), (0, .ref b)]; rw [ha']; exact lv_sub hl [2, 3, 4, 5, 6, 7] rfl)
