/-! ===== the law: its state from one round to the next ===== -/
theorem TW.go {s U : State} {H : Heap} {locs : List Loc} (hW : s.WarmedH U.vm) (hU : U.heap = H) (hS : va_S (fun q => s.heap.size ≤ q) s.heap H locs) (h : TW s) : TW U := by
  obtain ⟨h1, h2, h3, h4⟩ := h
  have hk : ∀ a : Nat, a < s.heap.size → ¬ s.heap.size ≤ a → H[a]? = s.heap[a]? := fun a h5 h6 => hS.2.1 a h5 h6
  refine ⟨?_, ?_, fun k hk2 => ?_, ?_⟩
  · rw [hU]; exact vx_Zq.moved hW.alike ((h1.kept hk).narrow (fun q hq => Nat.le_trans hS.1 hq))
  · rw [hU]; exact vx_Zq.moved hW.alike ((h2.kept hk).narrow (fun q hq => Nat.le_trans hS.1 hq))
  · obtain ⟨t, sa, h⟩ := h3 k hk2
    exact ⟨t, sa, vk_R.warm hW h⟩
  · have tr : ∀ {c : Cond}, c.onTables = true → c.before #[] (s.setVm U.vm) = true → c.before #[] U = true := by
      intro c hc h
      exact va_tabs (u := s.setVm U.vm) hc rfl h
    simp only [TWb, List.forall_mem_cons] at h4 ⊢
    obtain ⟨a1, a2, a3, a4, a5, a6, -⟩ := h4
    exact ⟨tr rfl (by rw [Cond.castable_setVm hW.alike]; exact a1), tr rfl (by rw [Cond.castable_setVm hW.alike]; exact a2), tr rfl (by rw [Cond.castable_setVm hW.alike]; exact a3), tr rfl (by rw [Cond.declares_setVm hW.alike]; exact a4), tr rfl (by rw [Cond.declares_setVm hW.alike]; exact a5), tr rfl (by rw [Cond.declares_setVm hW.alike]; exact a6), fun w hw => by cases hw⟩
/-- the law's own cells: the two rows and the reference's, all new, all apart -/
def Fx (ad : Nat → Nat) (o od sz : Nat) : Prop := Dst ad ∧ (∀ i : Nat, i < 11 → sz ≤ ad i ∧ ad i ≠ o ∧ ad i ≠ od) ∧ o ≠ od ∧ sz ≤ o ∧ sz ≤ od
def LJ (g : gG) (cL cD : ClassId) (ad : Nat → Nat) (o od : Nat) (σ : SG) (a : AD) (σM : SG) (th : Int) (f : Nat → Int64) (fd : Nat → UInt64) (sz : Nat) (H : Heap) : Prop :=
  DI g σ a H ∧ MP g ad σM th H ∧ va_at g.1 vwCl (outL cL o f) H ∧ va_at g.1 vwCl (outD cD od fd) H ∧ ∀ q, Ow σ a q → sz ≤ q ∧ q ≠ o ∧ q ≠ od ∧ ∀ i : Nat, i < 11 → q ≠ ad i
theorem MP.far {g : gG} {ad : Nat → Nat} {σ : SG} {th : Int} {H H1 : Heap} (h : MP g ad σ th H) (hk : ∀ i : Nat, i < 11 → ad i < H.size → H1[ad i]? = H[ad i]?) : MP g ad σ th H1 := by
  intro k q hq
  obtain ⟨h1, h2⟩ := MW_at g ad σ th hq
  have h3 := h k q hq
  exact h3.kept (by rw [h2]; exact hk k h1 (by rw [← h2]; exact h3.lt))
theorem MP.lt {g : gG} {ad : Nat → Nat} {σ : SG} {th : Int} {H : Heap} (h : MP g ad σ th H) {i : Nat} (hi : i < 11) : ad i < H.size := by
  have h2 : i < (MWs g ad σ th).length := hi
  have h3 := MW_at g ad σ th (List.getElem?_eq_getElem h2)
  rw [← h3.2]
  exact (h i _ (List.getElem?_eq_getElem h2)).lt
theorem LJ.hl {g : gG} {cL cD : ClassId} {ad : Nat → Nat} {o od : Nat} {σ σ' : SG} {a a' : AD} {σM : SG} {th : Int} {f f' : Nat → Int64} {fd : Nat → UInt64} {sz : Nat} {H H1 : Heap} (hF : Fx ad o od sz) (h : LJ g cL cD ad o od σ a σM th f fd sz H) (hsz : sz ≤ H.size) (hI : DI g σ' a' H1) (hE : DE σ a σ' a' H.size) (ho : va_at g.1 vwCl (outL cL o f') H1) (hk : ∀ q : Nat, q < H.size → ¬ lhA σ a H.size o q → H1[q]? = H[q]?) : LJ g cL cD ad o od σ' a' σM th f' fd sz H1 := by
  obtain ⟨j1, j2, j3, j4, j5⟩ := h
  obtain ⟨f1, f2, f3, f4, f5⟩ := hF
  have l3 : o < H.size := j3.lt
  have l4 : od < H.size := j4.lt
  refine ⟨hI, j2.far (fun i hi hl => hk _ hl ?_), ho, j4.kept (hk od l4 ?_), fun q hq => ?_⟩
  · rintro ((h | h) | h)
    · exact (j5 _ h).2.2.2 i hi rfl
    · omega
    · exact (f2 i hi).2.1 h
  · rintro ((h | h) | h)
    · exact (j5 _ h).2.2.1 rfl
    · omega
    · exact f3 h.symm
  · rcases hE.2 q hq with h | h
    · exact j5 q h
    · exact ⟨by omega, by omega, by omega, fun i hi => by have := j2.lt hi; omega⟩
theorem LJ.hd {g : gG} {cL cD : ClassId} {ad : Nat → Nat} {o od : Nat} {σ σ' : SG} {a a' : AD} {σM : SG} {th : Int} {f : Nat → Int64} {fd fd' : Nat → UInt64} {sz : Nat} {H H1 : Heap} (hF : Fx ad o od sz) (h : LJ g cL cD ad o od σ a σM th f fd sz H) (hsz : sz ≤ H.size) (hI : DI g σ' a' H1) (hE : DE σ a σ' a' H.size) (ho : va_at g.1 vwCl (outD cD od fd') H1) (hk : ∀ q : Nat, q < H.size → ¬ lhA σ a H.size od q → H1[q]? = H[q]?) : LJ g cL cD ad o od σ' a' σM th f fd' sz H1 := by
  obtain ⟨j1, j2, j3, j4, j5⟩ := h
  obtain ⟨f1, f2, f3, f4, f5⟩ := hF
  have l3 : o < H.size := j3.lt
  have l4 : od < H.size := j4.lt
  refine ⟨hI, j2.far (fun i hi hl => hk _ hl ?_), j3.kept (hk o l3 ?_), ho, fun q hq => ?_⟩
  · rintro ((h | h) | h)
    · exact (j5 _ h).2.2.2 i hi rfl
    · omega
    · exact (f2 i hi).2.2 h
  · rintro ((h | h) | h)
    · exact (j5 _ h).2.1 rfl
    · omega
    · exact f3 h
  · rcases hE.2 q hq with h | h
    · exact j5 q h
    · exact ⟨by omega, by omega, by omega, fun i hi => by have := j2.lt hi; omega⟩
theorem MW_nA {g : gG} {ad : Nat → Nat} {σ : SG} {th : Int} {sz q : Nat} (h : ∀ i : Nat, i < 11 → q ≠ ad i) (hq : q < sz) : ¬ va_A (MWs g ad σ th) sz q := by
  rintro (⟨k, e, hk⟩ | h2)
  · obtain ⟨h3, h4⟩ := MW_at g ad σ th hk
    exact h k h3 h4
  · omega
theorem LJ.rf {g : gG} {cL cD : ClassId} {ad : Nat → Nat} {o od : Nat} {σ : SG} {a : AD} {σM σN : SG} {th th' : Int} {f : Nat → Int64} {fd : Nat → UInt64} {sz : Nat} {H H1 : Heap} (hF : Fx ad o od sz) (h : LJ g cL cD ad o od σ a σM th f fd sz H) (hP : MP g ad σN th' H1) (hk : ∀ q : Nat, q < H.size → ¬ va_A (MWs g ad σM th) H.size q → H1[q]? = H[q]?) : LJ g cL cD ad o od σ a σN th' f fd sz H1 := by
  obtain ⟨j1, j2, j3, j4, j5⟩ := h
  obtain ⟨f1, f2, f3, f4, f5⟩ := hF
  exact ⟨j1.far (fun q hq => hk q (j1.Ow_lt hq) (MW_nA (fun i hi => (j5 q hq).2.2.2 i hi) (j1.Ow_lt hq))), hP, j3.kept (hk o j3.lt (MW_nA (fun i hi h => (f2 i hi).2.1 h.symm) j3.lt)), j4.kept (hk od j4.lt (MW_nA (fun i hi h => (f2 i hi).2.2 h.symm) j4.lt)), j5⟩
theorem zc_0 (x : Int64) : lg_cmp x x = zi 0 := by
  unfold lg_cmp
  rw [if_neg (by simp [Int64.lt_iff_toInt_lt]), if_pos rfl]
  rfl
abbrev SA (s : State) : Nat → Prop := fun q => s.heap.size ≤ q
section ZLJ
variable {p : Program} {l : Launch} {e : Env} {R : Room} {s : State} {m : MethodId} {args : Array Value} {below : List Frame} {meth : Method} {c : Code} {H : Heap} {locs : List Loc} {cells slots : Nat} {Q : State → Prop}
variable {cc : ByteArray} {pc : Nat} {ls : Array Slot} {rest : List Value}
theorem lj_S {y : MethodName} {bytes : ByteArray} {maxL nL n index : Nat} {ret : Option FieldType} {hh : List (Nat × Nat × Nat × Nat)} {ws : List Cond} {Ts : List Cond} {own : String} {av st0 : List Value} {g : gG} {cL cD : ClassId} {ad : Nat → Nat} {o od : Nat} {σ σ' : SG} {a : AD} {σM : SG} {th k v : Int} {f : Nat → Int64} {fd : Nat → UInt64}
    (Sx : CallFix p m c cc nL s args Ts own) (hM : LH l y ws g cL cD av o H.size σ a σ' k v) (cw : vx_CSW R s args own index y bytes maxL ret hh ws LR 4 32 n) (hF : Fx ad o od s.heap.size) (hJ : LJ g cL cD ad o od σ a σM th f fd s.heap.size H) (hK : KK g s) (hT : TW s) (hN : NC s) (hL : KLD g cL cD s)
    (hn : (Value.ref (a 1 0) :: (av ++ [.ref o])).length = n) (hsize : ls.size = nL) (hst : st0 = (Value.ref (a 1 0) :: (av ++ [.ref o])).reverse ++ rest) (hW : (rest.map fun v => v.category).sum ≤ 8) (hdg : decode cc pc = .ok (.invokestatic index, 3)) (hf : cells + 4 ≤ R.cells ∧ slots + 32 ≤ R.slots) (hS : va_S (SA s) s.heap H locs)
    (kk : ∀ (a' : AD) (f' : Nat → Int64) (H1 : Heap) (locs1 : List Loc), a' 1 0 = a 1 0 → (k = 0 → f' 0 = (zi v).toInt64) → LJ g cL cD ad o od σ' a' σM th f' fd s.heap.size H1 → va_S (SA s) s.heap H1 locs1 → W p l e R s m args below meth c H1 locs1 (cells + 4) (slots + 32) Q (F0 m (pc + 3) ls (.int (zi k) :: rest))) : W p l e R s m args below meth c H locs cells slots Q (F0 m pc ls st0) := by
  have hfree : ∀ q, lhA σ a H.size o q → SA s q := by
    rintro q ((h | h) | h)
    · exact (hJ.2.2.2.2 q h).1
    · exact Nat.le_trans hS.1 h
    · rw [h]; exact hF.2.2.2.1
  exact va_calli (vx_runSW Sx hM cw ⟨hPc.blind g cL cD _ _, fun U hU hW => ⟨rfl, ⟨by rw [hU], by rw [hU]; exact hJ.1, ⟨f, by rw [hU]; exact hJ.2.2.1⟩, fun h => (hJ.2.2.2.2 o h).2.1 rfl⟩, hK.warm hW, hT.go hW hU hS, hN.warm hW, hL.warm hW⟩⟩ rfl hn hsize hst (lv_room hW) hdg hf) hS (fun q _ h => hfree q h) hfree (fun r u t H1 locs1 ht hvm hw hB hz hk hS1 => by rw [hw]; exact kk u.1 u.2 H1 locs1 hB.2.1.1 hB.2.2.2 (hJ.hl hF hS.1 (by rw [← ht]; exact hB.1) hB.2.1 (by rw [← ht]; exact hB.2.2.1) hk) hS1)
theorem ljd_S {y : MethodName} {bytes : ByteArray} {maxL nL n index : Nat} {ret : Option FieldType} {hh : List (Nat × Nat × Nat × Nat)} {ws : List Cond} {Ts : List Cond} {own : String} {av st0 : List Value} {g : gG} {cL cD : ClassId} {ad : Nat → Nat} {o od : Nat} {σ σ' : SG} {a : AD} {σM : SG} {th k : Int} {v : UInt32} {f : Nat → Int64} {fd : Nat → UInt64}
    (Sx : CallFix p m c cc nL s args Ts own) (hM : LHd l y ws g cL cD av od H.size σ a σ' k v) (cw : vx_CSW R s args own index y bytes maxL ret hh ws LR 4 32 n) (hF : Fx ad o od s.heap.size) (hJ : LJ g cL cD ad o od σ a σM th f fd s.heap.size H) (hK : KK g s) (hT : TW s) (hN : NC s) (hL : KLD g cL cD s)
    (hn : (Value.ref (a 1 0) :: (av ++ [.ref od])).length = n) (hsize : ls.size = nL) (hst : st0 = (Value.ref (a 1 0) :: (av ++ [.ref od])).reverse ++ rest) (hW : (rest.map fun v => v.category).sum ≤ 8) (hdg : decode cc pc = .ok (.invokestatic index, 3)) (hf : cells + 4 ≤ R.cells ∧ slots + 32 ≤ R.slots) (hS : va_S (SA s) s.heap H locs)
    (kk : ∀ (a' : AD) (fd' : Nat → UInt64) (H1 : Heap) (locs1 : List Loc), a' 1 0 = a 1 0 → (k = 0 → fd' 0 = FP.f2d v) → LJ g cL cD ad o od σ' a' σM th f fd' s.heap.size H1 → va_S (SA s) s.heap H1 locs1 → W p l e R s m args below meth c H1 locs1 (cells + 4) (slots + 32) Q (F0 m (pc + 3) ls (.int (zi k) :: rest))) : W p l e R s m args below meth c H locs cells slots Q (F0 m pc ls st0) := by
  have hfree : ∀ q, lhA σ a H.size od q → SA s q := by
    rintro q ((h | h) | h)
    · exact (hJ.2.2.2.2 q h).1
    · exact Nat.le_trans hS.1 h
    · rw [h]; exact hF.2.2.2.2
  exact va_calli (vx_runSW Sx hM cw ⟨hPc.blind g cL cD _ _, fun U hU hW => ⟨rfl, ⟨by rw [hU], by rw [hU]; exact hJ.1, ⟨fd, by rw [hU]; exact hJ.2.2.2.1⟩, fun h => (hJ.2.2.2.2 od h).2.2.1 rfl⟩, hK.warm hW, hT.go hW hU hS, hN.warm hW, hL.warm hW⟩⟩ rfl hn hsize hst (lv_room hW) hdg hf) hS (fun q _ h => hfree q h) hfree (fun r u t H1 locs1 ht hvm hw hB hz hk hS1 => by rw [hw]; exact kk u.1 u.2 H1 locs1 hB.2.1.1 hB.2.2.2 (hJ.hd hF hS.1 (by rw [← ht]; exact hB.1) hB.2.1 (by rw [← ht]; exact hB.2.2.1) hk) hS1)
theorem lr_V {y : MethodName} {bytes : ByteArray} {maxL nL n index : Nat} {ret : Option FieldType} {ws : List Cond} {rm : Room} {Ts : List Cond} {own C : String} {As st0 : List Value} {g : gG} {cL cD : ClassId} {ad : Nat → Nat} {o od : Nat} {σ : SG} {a : AD} {σM σN : SG} {th th' v : Int} {f : Nat → Int64} {fd : Nat → UInt64}
    (Sx : CallFix p m c cc nL s args Ts own) (hM : MI l y ws rm g ad As H.size σM th σN th' v) (cw : CallW R s args own C index y bytes maxL ret ws rm 0 0 n) (hr : ∃ cell : Cell, H[ad 0]? = some cell ∧ cell.vm.isStatics = false ∧ s.vm.findClass C = some cell.cls) (hF : Fx ad o od s.heap.size) (hJ : LJ g cL cD ad o od σ a σM th f fd s.heap.size H) (hK : KK g s)
    (hn : As.length = n) (hsize : ls.size = nL) (hst : st0 = As.reverse ++ .ref (ad 0) :: rest) (hW : (rest.map fun v => v.category).sum ≤ 8) (hdg : decode cc pc = .ok (.invokevirtual index, 3)) (hf : cells + 0 ≤ R.cells ∧ slots + 0 ≤ R.slots) (hS : va_S (SA s) s.heap H locs)
    (kk : ∀ (H1 : Heap) (locs1 : List Loc), LJ g cL cD ad o od σ a σN th' f fd s.heap.size H1 → va_S (SA s) s.heap H1 locs1 → W p l e R s m args below meth c H1 locs1 cells slots Q (F0 m (pc + 3) ls (.int (zi v) :: rest))) : W p l e R s m args below meth c H locs cells slots Q (F0 m pc ls st0) :=
  wi_V Sx hM cw hr hJ.2.1 trivial hK hn hsize hst hW hdg hf hS (by
    rintro q (⟨k, x9, hk⟩ | h)
    · obtain ⟨h3, h4⟩ := MW_at g ad σM th hk
      have h5 : q = ad k := h4
      rw [h5]; exact (hF.2.1 k h3).1
    · exact Nat.le_trans hS.1 h) (fun H1 locs1 hP hz hk hS1 => kk H1 locs1 (hJ.rf hF hP hk) hS1)
theorem lrf_V {y : MethodName} {bytes : ByteArray} {maxL nL n index : Nat} {ret : Option FieldType} {ws : List Cond} {rm : Room} {Ts : List Cond} {own C : String} {As st0 : List Value} {g : gG} {cL cD : ClassId} {ad : Nat → Nat} {o od : Nat} {σ : SG} {a : AD} {σM σN : SG} {th th' : Int} {v : UInt32} {f : Nat → Int64} {fd : Nat → UInt64}
    (Sx : CallFix p m c cc nL s args Ts own) (hM : MFl l y ws rm g ad As H.size σM th σN th' v) (cw : CallW R s args own C index y bytes maxL ret ws rm 0 0 n) (hr : ∃ cell : Cell, H[ad 0]? = some cell ∧ cell.vm.isStatics = false ∧ s.vm.findClass C = some cell.cls) (hF : Fx ad o od s.heap.size) (hJ : LJ g cL cD ad o od σ a σM th f fd s.heap.size H) (hK : KK g s)
    (hn : As.length = n) (hsize : ls.size = nL) (hst : st0 = As.reverse ++ .ref (ad 0) :: rest) (hW : (rest.map fun v => v.category).sum ≤ 8) (hdg : decode cc pc = .ok (.invokevirtual index, 3)) (hf : cells + 0 ≤ R.cells ∧ slots + 0 ≤ R.slots) (hS : va_S (SA s) s.heap H locs)
    (kk : ∀ (H1 : Heap) (locs1 : List Loc), LJ g cL cD ad o od σ a σN th' f fd s.heap.size H1 → va_S (SA s) s.heap H1 locs1 → W p l e R s m args below meth c H1 locs1 cells slots Q (F0 m (pc + 3) ls (.float v :: rest))) : W p l e R s m args below meth c H locs cells slots Q (F0 m pc ls st0) := by
  have hfree : ∀ q, va_A (MWs g ad σM th) H.size q → SA s q := by
    rintro q (⟨k, x9, hk⟩ | h)
    · obtain ⟨h3, h4⟩ := MW_at g ad σM th hk
      have h5 : q = ad k := h4
      rw [h5]; exact (hF.2.1 k h3).1
    · exact Nat.le_trans hS.1 h
  exact va_callf (va_runV Sx hM cw ⟨zPc.blind g _ _, hr, fun U hU hW => ⟨rfl, ⟨by rw [hU], by rw [hU]; exact hJ.2.1, trivial⟩, hK.warm hW⟩⟩ rfl hn hsize hst (lv_room hW) hdg hf) hS (fun q _ h => hfree q h) hfree (fun r u t H1 locs1 ht hvm hw hB hz hk hS1 => by rw [hw]; exact kk H1 locs1 (hJ.rf hF (by show va_P _ _ _ H1; rw [← ht]; exact hB) hk) hS1)
theorem z_lald (hx : p.tables.exec = Jvm.exec) (hb : c.code = cc) {g : gG} {cL cD : ClassId} (hL : KLD g cL cD s) {o : Nat} {f : Nat → Int64} (hat : va_at g.1 vwCl (outL cL o f) H) (hdg : decode cc pc = .ok (.laload, 1)) (kk : W p l e R s m args below meth c H locs cells slots Q (F0 m (pc + 1) ls (.long (f 0) :: rest))) : W p l e R s m args below meth c H locs cells slots Q (F0 m pc ls (.int (zi 0) :: .ref o :: rest)) :=
  va_lald hx hb hL (z_one hat) 0 0 rfl rfl (zi_in (i := 0) (n := 1) (by decide) (by decide)) hdg kk
theorem z_dald (hx : p.tables.exec = Jvm.exec) (hb : c.code = cc) {g : gG} {cL cD : ClassId} (hL : KLD g cL cD s) {o : Nat} {f : Nat → UInt64} (hat : va_at g.1 vwCl (outD cD o f) H) (hdg : decode cc pc = .ok (.daload, 1)) (kk : W p l e R s m args below meth c H locs cells slots Q (F0 m (pc + 1) ls (.double (f 0) :: rest))) : W p l e R s m args below meth c H locs cells slots Q (F0 m pc ls (.int (zi 0) :: .ref o :: rest)) :=
  va_dald hx hb hL (z_one hat) 0 1 rfl rfl (zi_in (i := 0) (n := 1) (by decide) (by decide)) hdg kk
theorem z_sld (hx : p.tables.exec = Jvm.exec) (hb : c.code = cc) {b L : Nat} {xs : Nat → Int32} (hX : va_X b L xs s s.heap) (hbl : b < s.heap.size) (hS : va_S (SA s) s.heap H locs) {z : Int} (i : Nat) (hz : z = (i : Int)) (hi : i < L) (hL : L ≤ 2560) (hdg : decode cc pc = .ok (.iaload, 1)) (kk : W p l e R s m args below meth c H locs cells slots Q (F0 m (pc + 1) ls (.int (zi (xs i).toInt) :: rest))) : W p l e R s m args below meth c H locs cells slots Q (F0 m pc ls (.int (zi z) :: .ref b :: rest)) := by
  subst hz
  refine va_sld hx hb hX hbl (fun h => absurd hbl (Nat.not_lt.mpr h)) hS (zi_in hi (by omega)) hdg ?_
  rw [zi_ix (by omega), zi_of (xs i)]
  exact kk
theorem z_slen (hx : p.tables.exec = Jvm.exec) (hb : c.code = cc) {b L : Nat} {xs : Nat → Int32} (hX : va_X b L xs s s.heap) (hbl : b < s.heap.size) (hS : va_S (SA s) s.heap H locs) (hdg : decode cc pc = .ok (.arraylength, 1)) (kk : W p l e R s m args below meth c H locs cells slots Q (F0 m (pc + 1) ls (.int (zi (L : Int)) :: rest))) : W p l e R s m args below meth c H locs cells slots Q (F0 m pc ls (.ref b :: rest)) := by
  refine va_slen hx hb hX hbl (fun h => absurd hbl (Nat.not_lt.mpr h)) hS hdg ?_
  rw [zi_ofNat]
  exact kk
end ZLJ
