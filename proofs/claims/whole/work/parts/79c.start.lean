def R_law : String := "HarmoniumDeskLaw"
def lw_P (b : Addr) (xs : List Int32) (args : Array Value) (s : State) : Prop := args = #[.ref b] ∧ s.IntsAt b xs ∧ xs.length ≤ 2560 ∧ (Jvm.Cond.and given_1 narrow_1).before args s = true
/-- what a walk over the start with the record d0 says of its end, said of the start itself -/
theorem lw_closed {s t : State} {o : Outcome} {d0 : Drawn} {L : List Loc} {k n : Nat} (hd0 : s.drawn.sameBut d0 lw_cs) (hv : ∃ v, o = .returned v) (hW : (s.setDrawn d0).WarmedH t.vm) (hs : (s.setDrawn d0).sameButNew ({ t with vm := s.vm } : State) L k n) : State.butDraws s t lw_cs (fun t1 => Framed s o t1 L k n) := by
  have h2 : t.drawn = d0 := congrArg State.drawn hs.1
  refine ⟨⟨hv, hW, State.sameButNew.setDrawn hs s.drawn⟩, ?_, by decide⟩
  rw [h2]
  exact hd0
def lw_Q (_ : Array Value) (s : State) (o : Outcome) (t : State) : Prop := o = .returned (some (.int 1)) ∧ State.butDraws s t lw_cs (fun t1 => Framed s o t1 [] 601024 7293033)
def lw_Z (below : List Frame) (a : Array Value) (s : State) : State → Prop := fun t => ∃ o, t.status = .running ∧ Ended t below o ∧ lw_Q a s o t
/-- the law's own end, with 1 on the stack, nothing written that was there before, its room as the claim has it; d0: the record of draws at this point (at the entry s.drawn: begin with 'refine W.base ?_' and 'have hd0 := Drawn.sameBut.refl s.drawn lw_cs') -/
theorem lw_ret {p : Program} {l : Launch} {e : Env} {s : State} {m : MethodId} {below : List Frame} {meth : Method} {c : Code} {b : Nat} {d0 : Drawn} (hd0 : s.drawn.sameBut d0 lw_cs) (hx : p.tables.exec = Jvm.exec) (hb : c.code = code) (hr : meth.sig.returnType = ret) (hlocks : meth.locks = false) {pc : Nat} {H : Heap} {ls : Array Slot} (hdg : decode code pc = .ok (.ireturn, 1)) : W p l e room_1 (s.setDrawn d0) m #[Value.ref b] below meth c H [] 601024 7293033 (lw_Z below #[Value.ref b] s) (F0 m pc ls [.int 1]) := by
  intro T hT X
  obtain ⟨fs, hret, hrun, hended, hW, hframe⟩ := X.leave (v := some (.int 1)) (hlocks := hlocks) (fun h => by rw [hr] at h; cases h)
  have hmeth' : T.vm.method? m = some meth := X.method'
  refine ⟨T.setFrames fs, ?_, .returned (some (.int 1)), hrun, hended, rfl, lw_closed hd0 ⟨_, rfl⟩ hW hframe⟩
  jvm_step X.here [X.here.top, hx, hb, hdg, hmeth', hr, ret, narrow_b1]
  (try refine ⟨rfl, ?_⟩); (try refine ⟨rfl, ?_⟩)
  first | (intro acts; rw [hret _ acts rfl rfl rfl]) | rw [hret _ _ rfl rfl rfl]
  exact Steps.refl _
/-- what holds at the law's entry: the machine, the code, the tables' words (any of lw_tbl by 'hts w (by decide +kernel)'), the script of L ints xs at the cell b, what the Statement gives of the start (any of its parts by flat_of_before) -/
def lw_At (p : Program) (s : State) (m : MethodId) (meth : Method) (c : Code) (b L : Nat) (xs : Nat → Int32) : Prop :=
  p.tables.exec = Jvm.exec ∧ c.code = code ∧ meth.sig.returnType = ret ∧ c.maxLocals = 8 ∧ s.vm.findClass R_law = some m.cls ∧ (∀ w ∈ lw_tbl, w.before #[Value.ref b] s = true) ∧ va_X b L xs s s.heap ∧ b < s.heap.size ∧ meth.locks = false ∧ (Jvm.Cond.and given_1 narrow_1).before #[Value.ref b] s = true
theorem Dst_of {g : gG} {ad : Nat → Nat} {σ : SG} {th : Int} {A : Nat → Prop} (hD : va_D A (MWs g ad σ th)) : Dst ad := fun i j hi hj e => by
  have h2 : i < (MWs g ad σ th).length := hi
  have h3 : j < (MWs g ad σ th).length := hj
  have e1 := MW_at g ad σ th (List.getElem?_eq_getElem h2)
  have e2 := MW_at g ad σ th (List.getElem?_eq_getElem h3)
  exact hD.1 i j _ _ (List.getElem?_eq_getElem h2) (List.getElem?_eq_getElem h3) (by rw [e1.2, e2.2]; exact e)
theorem start_Ow {a : AD} {q : Nat} (h : Ow sg0 a q) : ∃ i : Nat, (1 ≤ i ∧ i ≤ 7) ∧ q = a i 0 := by
  obtain ⟨i, j, h1 | h1 | h1, rfl⟩ := h
  · exact ⟨i, h1.1, by rw [h1.2]⟩
  · exact absurd h1.2 (by show ¬ ((j : Int) < 0); omega)
  · exact absurd h1.2 (by show ¬ ((j : Int) < 0); omega)
set_option maxHeartbeats 4000000 in
set_option maxRecDepth 100000 in
theorem whole_start {p : Program} {e : Env} {s : State} {m : MethodId} {below : List Frame} {meth : Method} {c : Code} (l : Launch) (hflags : l.flags = flags0) {b L : Nat} {xs : Nat → Int32} (hL : L ≤ 2560) (C0 : lw_At p s m meth c b L xs) : W p l e room_1 s m #[Value.ref b] below meth c s.heap [] 0 0 (lw_Z below #[Value.ref b] s) (entryFrame m ([Value.ref b] : List Value).toArray 8) := by
  obtain ⟨hx, hb, hr, hml, hown, htl, hX, hbl, hlk, hgv⟩ := C0
  have hb : c.code = cL_law := hb
  have hfl : l.stackTraces = false := by unfold Launch.stackTraces; rw [hflags]; decide
  have hts : ∀ w ∈ wsL_law, w.before #[Value.ref b] s = true := fun w hw => htl w (wsL_law_in w hw)
  obtain ⟨g, hK⟩ := KK.of htl
  have hT : TW s := TW.of htl hgv (hK.1.1 3 _ rfl).2.1
  have hN : NC s := NC.of hgv
  have hKA : KA g s := ⟨hK, va_AO.of (htl _ lzV), va_AO.of (htl _ lzC)⟩
  have hown : s.vm.findClass RL = some m.cls := hown
  have hl0 := lv_entry [Value.ref b] (n := 8) (Nat.le_of_ble_eq_true rfl)
  rw [lg_entry_eq]
  generalize (lg_sl [Value.ref b] ++ List.replicate (8 - (lg_sl [Value.ref b]).length) Slot.unset).toArray = ls at hl0
  have hl : lv_has ls 8 [(0, .ref b)] := hl0
  have hP : va_P g.1 vwCl [] s.heap := fun k q h => by cases h
  have hD : va_D (SA s) [] := ⟨fun i j p q h => (by cases h), fun k q h => (by cases h)⟩
  have hS : va_S (SA s) s.heap s.heap [] := va_S.rf
  have hA : ∀ q, s.heap.size ≤ q → SA s q := fun _ h => h
  have hiX3 : ∀ w ∈ u_ws RX3 TX3 7, w ∈ wsL_law := fun w hw => inlX3 w (ux3 w hw)
  have hiX4 : ∀ w ∈ u_ws RX4 TX4 14, w ∈ wsL_law := fun w hw => inlX4 w (ux4 w hw)
  refine va_new (ci := 3) (fs := [.null, .int (zi (0)), .null, .int (zi (0)), .null, .int (zi (0)), .null]) (C := RX3) (T := TX3) (N := 7) hx hb hts hiX3 tyX3 tyX3_ok hown (hts (.classLink RL 8 RX3) (by decide +kernel)) (hts (.instantiable RX3 7) (by decide +kernel)) (hts (.initialized RX3) (by decide +kernel)) hK.1 hP hD hS hA rfl (fun j hj => by rcases (show j = 0 ∨ j = 1 ∨ j = 2 ∨ j = 3 ∨ j = 4 ∨ j = 5 ∨ j = 6 by omega) with rfl | rfl | rfl | rfl | rfl | rfl | rfl <;> rfl) (Nat.le_of_ble_eq_true rfl) (Nat.le_of_ble_eq_true rfl) dL_law_0 (fun q0 H hP hD hS => ?_)
  have hP : va_P g.1 vwCl [(q0, .inr (3, [.null, .int (zi (0)), .null, .int (zi (0)), .null, .int (zi (0)), .null]))] H := hP
  have hD : va_D (SA s) [(q0, .inr (3, [.null, .int (zi (0)), .null, .int (zi (0)), .null, .int (zi (0)), .null]))] := hD
  refine lv_dup hx hb dL_law_3 rfl ?_
  have hS0 := hS
  refine wna_I (rest := [.ref q0]) (As := []) ⟨hx, hb, hml, hown, hts⟩ (c_X3_initq l g q0 _) (cwI 0 hts gL_law_X3_init rfl rfl rfl (hts (.initialized RX3) (by decide +kernel)) (hts (.methodLink RL 75 yX3_init) (by decide +kernel)) (hts (.instanceMethod yX3_init) (by decide +kernel)) rfl (by decide +kernel) ⟨Nat.le_of_ble_eq_true rfl, Nat.le_of_ble_eq_true rfl⟩) hP trivial hKA rfl hl.1 rfl (Nat.le_of_ble_eq_true rfl) dL_law_4 ⟨Nat.le_of_ble_eq_true rfl, Nat.le_of_ble_eq_true rfl⟩ hS (va_free hD hS hA [0] rfl) (fun a H1 locs1 hP1 hD1 hz1 hk1 hS => ?_)
  obtain ⟨hP, hD⟩ := va_join (wr := []) (w1 := [(q0, .inr (3, [.ref (a 2 0), .int (zi (0)), .ref (a 3 0), .int (zi (0)), .ref (a 4 0), .int (zi (60)), .ref (a 5 0)])), ((a 2 0), .inl (g.2.2.2.1, 30, .inr (.inr (.inr (.inr (fun _ => none)))))), ((a 3 0), .inl (g.2.2.2.2, 20, .inr (.inr (.inr (.inr (fun _ => none)))))), ((a 4 0), .inl (g.2.1, 6, .inl (fun j9 => zi ((mx 6 (fun _ => 5) (fun _ => 0)) j9)))), ((a 5 0), .inr (1, [.int (zi (0)), .ref (a 6 0), .ref (a 7 0)])), ((a 6 0), .inl (g.2.1, 12, .inl (fun j9 => zi ((fun _ => 0) j9)))), ((a 7 0), .inl (g.2.1, 12, .inl (fun j9 => zi ((fun _ => 0) j9))))]) hP hD [0] [] rfl rfl (by decide) (by decide) hk1 (va_free hD hS0 hA [0] rfl) hP1 hD1
  have hP : va_P g.1 vwCl [(q0, .inr (3, [.ref (a 2 0), .int (zi (0)), .ref (a 3 0), .int (zi (0)), .ref (a 4 0), .int (zi (60)), .ref (a 5 0)])), ((a 2 0), .inl (g.2.2.2.1, 30, .inr (.inr (.inr (.inr (fun _ => none)))))), ((a 3 0), .inl (g.2.2.2.2, 20, .inr (.inr (.inr (.inr (fun _ => none)))))), ((a 4 0), .inl (g.2.1, 6, .inl (fun j9 => zi ((mx 6 (fun _ => 5) (fun _ => 0)) j9)))), ((a 5 0), .inr (1, [.int (zi (0)), .ref (a 6 0), .ref (a 7 0)])), ((a 6 0), .inl (g.2.1, 12, .inl (fun j9 => zi ((fun _ => 0) j9)))), ((a 7 0), .inl (g.2.1, 12, .inl (fun j9 => zi ((fun _ => 0) j9))))] H1 := hP
  have hD : va_D (SA s) [(q0, .inr (3, [.ref (a 2 0), .int (zi (0)), .ref (a 3 0), .int (zi (0)), .ref (a 4 0), .int (zi (60)), .ref (a 5 0)])), ((a 2 0), .inl (g.2.2.2.1, 30, .inr (.inr (.inr (.inr (fun _ => none)))))), ((a 3 0), .inl (g.2.2.2.2, 20, .inr (.inr (.inr (.inr (fun _ => none)))))), ((a 4 0), .inl (g.2.1, 6, .inl (fun j9 => zi ((mx 6 (fun _ => 5) (fun _ => 0)) j9)))), ((a 5 0), .inr (1, [.int (zi (0)), .ref (a 6 0), .ref (a 7 0)])), ((a 6 0), .inl (g.2.1, 12, .inl (fun j9 => zi ((fun _ => 0) j9)))), ((a 7 0), .inl (g.2.1, 12, .inl (fun j9 => zi ((fun _ => 0) j9))))] := hD
  refine lv_astore_n (lv' := [(1, .ref q0), (0, .ref b)]) hx hb dL_law_7 rfl hl (by decide) rfl (fun ls hl => ?_)
  refine va_new (ci := 4) (fs := [.int (zi (0)), .null, .null, .null, .null, .null, .null, .int (zi (0)), .int (zi (0)), .null, .null, .null, .null, .int (zi (0))]) (C := RX4) (T := TX4) (N := 14) hx hb hts hiX4 tyX4 tyX4_ok hown (hts (.classLink RL 76 RX4) (by decide +kernel)) (hts (.instantiable RX4 14) (by decide +kernel)) (hts (.initialized RX4) (by decide +kernel)) hK.1 hP hD hS hA rfl (fun j hj => by rcases (show j = 0 ∨ j = 1 ∨ j = 2 ∨ j = 3 ∨ j = 4 ∨ j = 5 ∨ j = 6 ∨ j = 7 ∨ j = 8 ∨ j = 9 ∨ j = 10 ∨ j = 11 ∨ j = 12 ∨ j = 13 by omega) with rfl | rfl | rfl | rfl | rfl | rfl | rfl | rfl | rfl | rfl | rfl | rfl | rfl | rfl <;> rfl) (Nat.le_of_ble_eq_true rfl) (Nat.le_of_ble_eq_true rfl) dL_law_8 (fun q8 H hP hD hS => ?_)
  have hP : va_P g.1 vwCl ([(q0, .inr (3, [.ref (a 2 0), .int (zi (0)), .ref (a 3 0), .int (zi (0)), .ref (a 4 0), .int (zi (60)), .ref (a 5 0)])), ((a 2 0), .inl (g.2.2.2.1, 30, .inr (.inr (.inr (.inr (fun _ => none)))))), ((a 3 0), .inl (g.2.2.2.2, 20, .inr (.inr (.inr (.inr (fun _ => none)))))), ((a 4 0), .inl (g.2.1, 6, .inl (fun j9 => zi ((mx 6 (fun _ => 5) (fun _ => 0)) j9)))), ((a 5 0), .inr (1, [.int (zi (0)), .ref (a 6 0), .ref (a 7 0)])), ((a 6 0), .inl (g.2.1, 12, .inl (fun j9 => zi ((fun _ => 0) j9)))), ((a 7 0), .inl (g.2.1, 12, .inl (fun j9 => zi ((fun _ => 0) j9))))] ++ [(q8, .inr (4, [.int (zi (0)), .null, .null, .null, .null, .null, .null, .int (zi (0)), .int (zi (0)), .null, .null, .null, .null, .int (zi (0))]))]) H := hP
  have hD : va_D (SA s) ([(q0, .inr (3, [.ref (a 2 0), .int (zi (0)), .ref (a 3 0), .int (zi (0)), .ref (a 4 0), .int (zi (60)), .ref (a 5 0)])), ((a 2 0), .inl (g.2.2.2.1, 30, .inr (.inr (.inr (.inr (fun _ => none)))))), ((a 3 0), .inl (g.2.2.2.2, 20, .inr (.inr (.inr (.inr (fun _ => none)))))), ((a 4 0), .inl (g.2.1, 6, .inl (fun j9 => zi ((mx 6 (fun _ => 5) (fun _ => 0)) j9)))), ((a 5 0), .inr (1, [.int (zi (0)), .ref (a 6 0), .ref (a 7 0)])), ((a 6 0), .inl (g.2.1, 12, .inl (fun j9 => zi ((fun _ => 0) j9)))), ((a 7 0), .inl (g.2.1, 12, .inl (fun j9 => zi ((fun _ => 0) j9))))] ++ [(q8, .inr (4, [.int (zi (0)), .null, .null, .null, .null, .null, .null, .int (zi (0)), .int (zi (0)), .null, .null, .null, .null, .int (zi (0))]))]) := hD
  refine lv_dup hx hb dL_law_11 rfl ?_
  have hS0 := hS
  refine wn_I (rest := [.ref q8]) (As := []) ⟨hx, hb, hml, hown, hts⟩ (c_X4_initq l g q8 _) (cwI 0 hts gL_law_X4_init rfl rfl rfl (hts (.initialized RX4) (by decide +kernel)) (hts (.methodLink RL 78 yX4_init) (by decide +kernel)) (hts (.instanceMethod yX4_init) (by decide +kernel)) rfl (by decide +kernel) ⟨Nat.le_of_ble_eq_true rfl, Nat.le_of_ble_eq_true rfl⟩) (hP.sub [7] rfl) trivial hK rfl hl.1 rfl (Nat.le_of_ble_eq_true rfl) dL_law_12 ⟨Nat.le_of_ble_eq_true rfl, Nat.le_of_ble_eq_true rfl⟩ hS (va_free hD hS hA [7] rfl) (fun ad H1 locs1 hP1 hD1 hz1 hk1 hS => ?_)
  obtain ⟨hP, hD⟩ := va_join (wr := [(q0, .inr (3, [.ref (a 2 0), .int (zi (0)), .ref (a 3 0), .int (zi (0)), .ref (a 4 0), .int (zi (60)), .ref (a 5 0)])), ((a 2 0), .inl (g.2.2.2.1, 30, .inr (.inr (.inr (.inr (fun _ => none)))))), ((a 3 0), .inl (g.2.2.2.2, 20, .inr (.inr (.inr (.inr (fun _ => none)))))), ((a 4 0), .inl (g.2.1, 6, .inl (fun j9 => zi ((mx 6 (fun _ => 5) (fun _ => 0)) j9)))), ((a 5 0), .inr (1, [.int (zi (0)), .ref (a 6 0), .ref (a 7 0)])), ((a 6 0), .inl (g.2.1, 12, .inl (fun j9 => zi ((fun _ => 0) j9)))), ((a 7 0), .inl (g.2.1, 12, .inl (fun j9 => zi ((fun _ => 0) j9))))]) (w1 := MWs g (adq q8 ad) sg0 0) hP hD [7] [0, 1, 2, 3, 4, 5, 6] rfl rfl (by decide) (by decide) hk1 (va_free hD hS0 hA [7] rfl) hP1 hD1
  refine lv_astore_n (lv' := [(2, .ref q8), (1, .ref q0), (0, .ref b)]) hx hb dL_law_15 rfl hl (by decide) rfl (fun ls hl => ?_)
  refine z_iconst hx hb dL_law_16 ?_
  refine va_newa (atype := .long) (ty := .long) (N' := 1) (a0 := (1, .inr (.inl (fun _ => 0)))) (tys := []) hx hb (hts (.arrayClass .long) (by decide +kernel)) rfl ⟨hK.1.1, fun k q h => (by cases h)⟩ hP hD hS hA (fun cA => rfl) (by decide) (by decide) (Nat.le_of_ble_eq_true rfl) (Nat.le_of_ble_eq_true rfl) (Nat.le_of_ble_eq_true rfl) dL_law_17 (fun o cL H2 hKL hP hD hS => ?_)
  refine lv_astore_n (lv' := [(3, .ref o), (2, .ref q8), (1, .ref q0), (0, .ref b)]) hx hb dL_law_19 rfl hl (by decide) rfl (fun ls hl => ?_)
  refine z_iconst hx hb dL_law_20 ?_
  refine va_newa (atype := .double) (ty := .double) (N' := 1) (a0 := (1, .inr (.inr (.inr (.inl (fun _ => 0)))))) hx hb (hts (.arrayClass .double) (by decide +kernel)) rfl hKL hP hD hS hA (fun cA => rfl) (by decide) (by decide) (Nat.le_of_ble_eq_true rfl) (Nat.le_of_ble_eq_true rfl) (Nat.le_of_ble_eq_true rfl) dL_law_21 (fun od cD H3 hKD hP hD hS => ?_)
  have hL9 : KLD g cL cD s := hKD
  refine lv_astore (lv' := [(4, .ref od), (3, .ref o), (2, .ref q8), (1, .ref q0), (0, .ref b)]) hx hb dL_law_23 hl (by decide) rfl (fun ls hl => ?_)
  refine z_iconst hx hb dL_law_25 ?_
  refine lv_istore (lv' := [(5, .int (zi 0)), (4, .ref od), (3, .ref o), (2, .ref q8), (1, .ref q0), (0, .ref b)]) hx hb dL_law_26 hl (by decide) rfl (fun ls hl => ?_)
  have hPw : va_P g.1 vwCl ((([(q0, .inr (3, [.ref (a 2 0), .int (zi (0)), .ref (a 3 0), .int (zi (0)), .ref (a 4 0), .int (zi (60)), .ref (a 5 0)])), ((a 2 0), .inl (g.2.2.2.1, 30, .inr (.inr (.inr (.inr (fun _ => none)))))), ((a 3 0), .inl (g.2.2.2.2, 20, .inr (.inr (.inr (.inr (fun _ => none)))))), ((a 4 0), .inl (g.2.1, 6, .inl (fun j9 => zi ((mx 6 (fun _ => 5) (fun _ => 0)) j9)))), ((a 5 0), .inr (1, [.int (zi (0)), .ref (a 6 0), .ref (a 7 0)])), ((a 6 0), .inl (g.2.1, 12, .inl (fun j9 => zi ((fun _ => 0) j9)))), ((a 7 0), .inl (g.2.1, 12, .inl (fun j9 => zi ((fun _ => 0) j9))))] ++ MWs g (adq q8 ad) sg0 0) ++ [outL cL o (fun _ => 0)]) ++ [outD cD od (fun _ => 0)]) H3 := hP
  have hDw : va_D (SA s) ((([(q0, .inr (3, [.ref (a 2 0), .int (zi (0)), .ref (a 3 0), .int (zi (0)), .ref (a 4 0), .int (zi (60)), .ref (a 5 0)])), ((a 2 0), .inl (g.2.2.2.1, 30, .inr (.inr (.inr (.inr (fun _ => none)))))), ((a 3 0), .inl (g.2.2.2.2, 20, .inr (.inr (.inr (.inr (fun _ => none)))))), ((a 4 0), .inl (g.2.1, 6, .inl (fun j9 => zi ((mx 6 (fun _ => 5) (fun _ => 0)) j9)))), ((a 5 0), .inr (1, [.int (zi (0)), .ref (a 6 0), .ref (a 7 0)])), ((a 6 0), .inl (g.2.1, 12, .inl (fun j9 => zi ((fun _ => 0) j9)))), ((a 7 0), .inl (g.2.1, 12, .inl (fun j9 => zi ((fun _ => 0) j9))))] ++ MWs g (adq q8 ad) sg0 0) ++ [outL cL o (fun _ => 0)]) ++ [outD cD od (fun _ => 0)]) := hD
  have hDI : DI g sg0 (axq q0 a) H3 := DI.start (a := axq q0 a) (A := SA s) (hPw.sub [0, 1, 2, 3, 4, 5, 6] rfl) (hDw.sub [0, 1, 2, 3, 4, 5, 6] (by decide) rfl)
  have hMP : MP g (adq q8 ad) sg0 0 H3 := hPw.sub [7, 8, 9, 10, 11, 12, 13, 14, 15, 16, 17] rfl
  have hMD : va_D (SA s) (MWs g (adq q8 ad) sg0 0) := hDw.sub [7, 8, 9, 10, 11, 12, 13, 14, 15, 16, 17] (by decide) rfl
  have hne : ∀ (i j : Nat) (p q : Nat × va_E), ((([(q0, .inr (3, [.ref (a 2 0), .int (zi (0)), .ref (a 3 0), .int (zi (0)), .ref (a 4 0), .int (zi (60)), .ref (a 5 0)])), ((a 2 0), .inl (g.2.2.2.1, 30, .inr (.inr (.inr (.inr (fun _ => none)))))), ((a 3 0), .inl (g.2.2.2.2, 20, .inr (.inr (.inr (.inr (fun _ => none)))))), ((a 4 0), .inl (g.2.1, 6, .inl (fun j9 => zi ((mx 6 (fun _ => 5) (fun _ => 0)) j9)))), ((a 5 0), .inr (1, [.int (zi (0)), .ref (a 6 0), .ref (a 7 0)])), ((a 6 0), .inl (g.2.1, 12, .inl (fun j9 => zi ((fun _ => 0) j9)))), ((a 7 0), .inl (g.2.1, 12, .inl (fun j9 => zi ((fun _ => 0) j9))))] ++ MWs g (adq q8 ad) sg0 0) ++ [outL cL o (fun _ => 0)]) ++ [outD cD od (fun _ => 0)])[i]? = some p → ((([(q0, .inr (3, [.ref (a 2 0), .int (zi (0)), .ref (a 3 0), .int (zi (0)), .ref (a 4 0), .int (zi (60)), .ref (a 5 0)])), ((a 2 0), .inl (g.2.2.2.1, 30, .inr (.inr (.inr (.inr (fun _ => none)))))), ((a 3 0), .inl (g.2.2.2.2, 20, .inr (.inr (.inr (.inr (fun _ => none)))))), ((a 4 0), .inl (g.2.1, 6, .inl (fun j9 => zi ((mx 6 (fun _ => 5) (fun _ => 0)) j9)))), ((a 5 0), .inr (1, [.int (zi (0)), .ref (a 6 0), .ref (a 7 0)])), ((a 6 0), .inl (g.2.1, 12, .inl (fun j9 => zi ((fun _ => 0) j9)))), ((a 7 0), .inl (g.2.1, 12, .inl (fun j9 => zi ((fun _ => 0) j9))))] ++ MWs g (adq q8 ad) sg0 0) ++ [outL cL o (fun _ => 0)]) ++ [outD cD od (fun _ => 0)])[j]? = some q → i ≠ j → p.1 ≠ q.1 := fun i j p q h1 h2 h3 h4 => h3 (hDw.1 i j p q h1 h2 h4)
  have hMi : ∀ i : Nat, i < 11 → ∃ p : Nat × va_E, ((([(q0, .inr (3, [.ref (a 2 0), .int (zi (0)), .ref (a 3 0), .int (zi (0)), .ref (a 4 0), .int (zi (60)), .ref (a 5 0)])), ((a 2 0), .inl (g.2.2.2.1, 30, .inr (.inr (.inr (.inr (fun _ => none)))))), ((a 3 0), .inl (g.2.2.2.2, 20, .inr (.inr (.inr (.inr (fun _ => none)))))), ((a 4 0), .inl (g.2.1, 6, .inl (fun j9 => zi ((mx 6 (fun _ => 5) (fun _ => 0)) j9)))), ((a 5 0), .inr (1, [.int (zi (0)), .ref (a 6 0), .ref (a 7 0)])), ((a 6 0), .inl (g.2.1, 12, .inl (fun j9 => zi ((fun _ => 0) j9)))), ((a 7 0), .inl (g.2.1, 12, .inl (fun j9 => zi ((fun _ => 0) j9))))] ++ MWs g (adq q8 ad) sg0 0) ++ [outL cL o (fun _ => 0)]) ++ [outD cD od (fun _ => 0)])[7 + i]? = some p ∧ p.1 = adq q8 ad i := fun i hi => by
    rcases (show i = 0 ∨ i = 1 ∨ i = 2 ∨ i = 3 ∨ i = 4 ∨ i = 5 ∨ i = 6 ∨ i = 7 ∨ i = 8 ∨ i = 9 ∨ i = 10 by omega) with rfl | rfl | rfl | rfl | rfl | rfl | rfl | rfl | rfl | rfl | rfl <;> exact ⟨_, rfl, rfl⟩
  have hXi : ∀ i : Nat, 1 ≤ i ∧ i ≤ 7 → ∃ p : Nat × va_E, ((([(q0, .inr (3, [.ref (a 2 0), .int (zi (0)), .ref (a 3 0), .int (zi (0)), .ref (a 4 0), .int (zi (60)), .ref (a 5 0)])), ((a 2 0), .inl (g.2.2.2.1, 30, .inr (.inr (.inr (.inr (fun _ => none)))))), ((a 3 0), .inl (g.2.2.2.2, 20, .inr (.inr (.inr (.inr (fun _ => none)))))), ((a 4 0), .inl (g.2.1, 6, .inl (fun j9 => zi ((mx 6 (fun _ => 5) (fun _ => 0)) j9)))), ((a 5 0), .inr (1, [.int (zi (0)), .ref (a 6 0), .ref (a 7 0)])), ((a 6 0), .inl (g.2.1, 12, .inl (fun j9 => zi ((fun _ => 0) j9)))), ((a 7 0), .inl (g.2.1, 12, .inl (fun j9 => zi ((fun _ => 0) j9))))] ++ MWs g (adq q8 ad) sg0 0) ++ [outL cL o (fun _ => 0)]) ++ [outD cD od (fun _ => 0)])[i - 1]? = some p ∧ p.1 = axq q0 a i 0 := fun i hi => by
    rcases (show i = 1 ∨ i = 2 ∨ i = 3 ∨ i = 4 ∨ i = 5 ∨ i = 6 ∨ i = 7 by omega) with rfl | rfl | rfl | rfl | rfl | rfl | rfl <;> exact ⟨_, rfl, rfl⟩
  have hF : Fx (adq q8 ad) o od s.heap.size := by
    refine ⟨Dst_of hMD, fun i hi => ?_, hne 18 19 _ _ rfl rfl (by decide), hDw.2 18 _ rfl, hDw.2 19 _ rfl⟩
    obtain ⟨p9, h1, h2⟩ := hMi i hi
    rw [← h2]
    exact ⟨hDw.2 _ _ h1, hne _ 18 _ _ h1 rfl (by omega), hne _ 19 _ _ h1 rfl (by omega)⟩
  have hJ : LJ g cL cD (adq q8 ad) o od sg0 (axq q0 a) sg0 0 (fun _ => 0) (fun _ => 0) s.heap.size H3 := by
    refine ⟨hDI, hMP, hPw 18 _ rfl, hPw 19 _ rfl, fun q hq => ?_⟩
    obtain ⟨i, hi, rfl⟩ := start_Ow hq
    obtain ⟨p9, h1, h2⟩ := hXi i hi
    rw [← h2]
    refine ⟨hDw.2 _ _ h1, hne _ 18 _ _ h1 rfl (by omega), hne _ 19 _ _ h1 rfl (by omega), fun k hk => ?_⟩
    obtain ⟨p8, h3, h4⟩ := hMi k hk
    rw [← h4]
    exact hne _ _ _ _ h1 h3 (by omega)
  have hC : LC p l s m c b L xs g cL cD (adq q8 ad) o od := ⟨hx, hb, hml, hown, hts, hX, hbl, hK, hT, hN, hL9, hF, hfl, hL⟩
  refine W.widen (k := 20 + 4 * 0) (n := 1252 + 32 * 0) (by omega) (by omega) ?_
  refine law_loop hC (fun k n hk hn H locs ls hS => ?_) _ 0 rfl (by omega) sg0 0 (axq q0 a) (fun _ => 0) (fun _ => 0) H3 _ ls WF.start S12.start hJ hS hl
  refine va_forget (fun q hq => hS.2.2 q hq) ?_
  refine W.widen (k := 601024) (n := 7293033) hk hn ?_
  refine z_iconst hx hb dL_law_1396 ?_
  exact W.base (lw_ret (Drawn.sameBut.refl s.drawn lw_cs) hx hb hr hlk dL_law_1397)
