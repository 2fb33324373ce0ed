/-! ===== what writes: worlds, their contracts, calls of them ===== -/
theorem z_D {A : Nat → Prop} {ws ws' : va_W} (h : va_D A ws) (e : ws'.map Prod.fst = ws.map Prod.fst) : va_D A ws' := by
  have key : ∀ (k : Nat) (q : Nat × va_E), ws'[k]? = some q → ∃ q0, ws[k]? = some q0 ∧ q0.1 = q.1 := by
    intro k q hk
    have h1 : (ws'.map Prod.fst)[k]? = some q.1 := by rw [List.getElem?_map, hk]; rfl
    rw [e, List.getElem?_map] at h1
    cases hw : ws[k]? with
    | none => rw [hw] at h1; cases h1
    | some q0 => rw [hw] at h1; exact ⟨q0, rfl, Option.some.inj h1⟩
  refine ⟨fun i j x y hi hj hxy => ?_, fun k q hk => ?_⟩
  · obtain ⟨x0, h1, h2⟩ := key i x hi
    obtain ⟨y0, h3, h4⟩ := key j y hj
    exact h.1 i j x0 y0 h1 h3 (h2.trans (hxy.trans h4.symm))
  · obtain ⟨q0, h1, h2⟩ := key k q hk
    rw [← h2]
    exact h.2 k q0 h1
theorem z_nA {w0 : va_W} {sz x : Nat} (hl : x < sz) (hn : x ∉ w0.map Prod.fst) : ¬ va_A w0 sz x := by
  rintro (⟨k, e, h⟩ | h)
  · exact hn (List.mem_map.mpr ⟨(x, e), List.mem_of_getElem? h, rfl⟩)
  · omega
theorem z_inA {w0 : va_W} {sz x : Nat} (h : va_A w0 sz x) : x ∈ w0.map Prod.fst ∨ sz ≤ x := by
  rcases h with ⟨k, e, h⟩ | h
  · exact Or.inl (List.mem_map.mpr ⟨(x, e), List.mem_of_getElem? h, rfl⟩)
  · exact Or.inr h
theorem ScP.stay {g : gG} {q a b : Nat} {n : Int} {u lo : Nat → Int} {A : Nat → Prop} {H0 H : Heap} {locs : List Loc} (h : ScP g q a b n u lo H0) (hS : va_S A H0 H locs) (h1 : ¬ A q) (h2 : ¬ A a) (h3 : ¬ A b) : ScP g q a b n u lo H := ⟨z_stay h.1 hS h1, z_stay h.2.1 hS h2, z_stay h.2.2 hS h3⟩
theorem ScP.kept {g : gG} {q a b : Nat} {n : Int} {u lo : Nat → Int} {H0 H : Heap} (h : ScP g q a b n u lo H0) (h1 : H[q]? = H0[q]?) (h2 : H[a]? = H0[a]?) (h3 : H[b]? = H0[b]?) : ScP g q a b n u lo H := ⟨h.1.kept h1, h.2.1.kept h2, h.2.2.kept h3⟩
theorem ScP.lt {g : gG} {q a b : Nat} {n : Int} {u lo : Nat → Int} {H : Heap} (h : ScP g q a b n u lo H) : q < H.size ∧ a < H.size ∧ b < H.size := ⟨h.1.lt, h.2.1.lt, h.2.2.lt⟩
abbrev ScW (g : gG) (q a b : Nat) (n : Int) (u lo : Nat → Int) : va_W := [(q, .inr (1, [.int (zi n), .ref a, .ref b])), (a, .inl (g.2.1, 12, .inl (fun j => zi (u j)))), (b, .inl (g.2.1, 12, .inl (fun j => zi (lo j))))]
theorem ScW.P {g : gG} {q a b : Nat} {n : Int} {u lo : Nat → Int} {H : Heap} (h : va_P g.1 vwCl (ScW g q a b n u lo) H) : ScP g q a b n u lo H := ⟨h 0 _ rfl, h 1 _ rfl, h 2 _ rfl⟩
theorem ScP.W {g : gG} {q a b : Nat} {n : Int} {u lo : Nat → Int} {H : Heap} (h : ScP g q a b n u lo H) : va_P g.1 vwCl (ScW g q a b n u lo) H := by
  intro k x hk
  match k, hk with
  | 0, hk => cases hk; exact h.1
  | 1, hk => cases hk; exact h.2.1
  | 2, hk => cases hk; exact h.2.2
  | k + 3, hk => simp at hk
abbrev wP (g : gG) (sz : Nat) (w0 : va_W) (P : Heap → Prop) : Heap → Prop := fun H => H.size = sz ∧ va_P g.1 vwCl w0 H ∧ P H
/-- writes cells of its world alone, makes none, answers nothing -/
abbrev WV (l : Launch) (y : MethodName) (ws : List Cond) (rm : Room) (g : gG) (av : List Value) (sz : Nat) (w0 : va_W) (P : Heap → Prop) (w1 : va_W) : Prop :=
  Met l y ws rm (zPc g av (wP g sz w0 P)) (va_Qv (fun _ : Unit => True) (fun _ t => va_P g.1 vwCl w1 t.heap) (va_A w0 sz)) 0 0 (va_A w0 sz)
abbrev WI (l : Launch) (y : MethodName) (ws : List Cond) (rm : Room) (g : gG) (av : List Value) (sz : Nat) (w0 : va_W) (P : Heap → Prop) (w1 : va_W) (v : Int) : Prop :=
  Met l y ws rm (zPc g av (wP g sz w0 P)) (va_Qi (fun r (_ : Unit) => r = zi v) (fun _ t => va_P g.1 vwCl w1 t.heap) (va_A w0 sz)) 0 0 (va_A w0 sz)
section ZW
variable {p : Program} {l : Launch} {e : Env} {R : Room} {s : State} {m : MethodId} {args : Array Value} {below : List Frame} {meth : Method} {c : Code} {H : Heap} {locs : List Loc} {cells slots : Nat} {Q : State → Prop}
variable {cc : ByteArray} {pc : Nat} {ls : Array Slot} {rest : List Value}
theorem z_put (hx : p.tables.exec = Jvm.exec) (hb : c.code = cc) {own ref C : String} {T : u_T} {N ci index a : Nat} {Ts : List Cond} {g : gG} {ws : va_W} {A : Nat → Prop} {H0 : Heap} (hts : ∀ w ∈ Ts, w.before args s = true) (hin : ∀ w ∈ u_ws C T N, w ∈ Ts) (ty0 : Nat → FieldType) (hty : ∀ k, k < N → parseFieldDescriptor (T k).2.2.1 = some (ty0 k)) (hnm : ∀ a, a < N → ∀ b, b < N → a ≠ b → (T a).2.1 ≠ (T b).2.1) (hown : s.vm.findClass own = some m.cls) (hK : KK g s) (hP : va_P g.1 vwCl ws H) (hD : va_D A ws) (hS : va_S A H0 H locs) (q0 : Nat) {fs : List Value} (he : ws[q0]? = some (a, .inr (ci, fs))) (hc : vwCl[ci]? = some (C, T, N)) (k : Nat) (hk : k < N) (hlink : (Cond.fieldLink own index ref (T k).2.1 (T k).2.2.1).before args s = true) (hsame : ref = (T k).1) (hfin : (T k).2.2.2 = false ∨ ((T k).2.2.2 = true ∧ meth.name = "<init>" ∧ (T k).1 = own)) {v : Value} (hn : narrow (ty0 k) v = v) (hfit : fits (ty0 k) v = true) (hl : k < fs.length) (hdg : decode cc pc = .ok (.putfield index, 3))
    (kk : ∀ (H1 : Heap) (locs1 : List Loc), va_P g.1 vwCl (ws.set q0 (a, .inr (ci, fs.set k v))) H1 → va_D A (ws.set q0 (a, .inr (ci, fs.set k v))) → va_S A H0 H1 locs1 → W p l e R s m args below meth c H1 locs1 cells slots Q (F0 m (pc + 3) ls rest)) : W p l e R s m args below meth c H locs cells slots Q (F0 m pc ls (v :: .ref a :: rest)) := by
  rcases hfin with hfin | ⟨h1, h2, h3⟩
  · exact va_put hx hb hts hin ty0 hty hnm hown hK.1 hP hD hS q0 he hc k hk hlink (fun _ h => by rw [hsame]; exact h) hfin (hty k hk) hn hfit hl hdg kk
  · exact va_putF hx hb hts hin ty0 hty hnm hown hK.1 hP hD hS q0 he hc k hk hlink (fun _ h => by rw [hsame]; exact h) h1 h2 h3 (hty k hk) hn hfit hl hdg kk
theorem z_putN (hx : p.tables.exec = Jvm.exec) (hb : c.code = cc) {own ref C host : String} {T : u_T} {N ci index a : Nat} {Ts : List Cond} {g : gG} {ws : va_W} {A : Nat → Prop} {H0 : Heap} (hts : ∀ w ∈ Ts, w.before args s = true) (hin : ∀ w ∈ u_ws C T N, w ∈ Ts) (ty0 : Nat → FieldType) (hty : ∀ k, k < N → parseFieldDescriptor (T k).2.2.1 = some (ty0 k)) (hnm : ∀ a, a < N → ∀ b, b < N → a ≠ b → (T a).2.1 ≠ (T b).2.1) (hown : s.vm.findClass own = some m.cls) (hK : KK g s) (hP : va_P g.1 vwCl ws H) (hD : va_D A ws) (hS : va_S A H0 H locs) (q0 : Nat) {fs : List Value} (he : ws[q0]? = some (a, .inr (ci, fs))) (hc : vwCl[ci]? = some (C, T, N)) (k : Nat) (hk : k < N) (hlink : (Cond.fieldLinkNest own index ref (T k).2.1 (T k).2.2.1 host) ∈ nwL) (hsame : ref = (T k).1) (hfin : (T k).2.2.2 = false) {v : Value} (hn : narrow (ty0 k) v = v) (hfit : fits (ty0 k) v = true) (hl : k < fs.length) (hdg : decode cc pc = .ok (.putfield index, 3))
    (kk : ∀ (H1 : Heap) (locs1 : List Loc), va_P g.1 vwCl (ws.set q0 (a, .inr (ci, fs.set k v))) H1 → va_D A (ws.set q0 (a, .inr (ci, fs.set k v))) → va_S A H0 H1 locs1 → W p l e R s m args below meth c H1 locs1 cells slots Q (F0 m (pc + 3) ls rest)) : W p l e R s m args below meth c H locs cells slots Q (F0 m pc ls (v :: .ref a :: rest)) :=
  va_putN hx hb hts hin ty0 hty hnm hown hK.1 hP hD hS q0 he hc k hk (va_Nw.use rfl (hK.2 _ hlink)) (fun _ h => by rw [hsame]; exact h) hfin (hty k hk) hn hfit hl hdg kk
theorem z_vret {Qc : Array Value → State → Outcome → State → Prop} {free : Addr → Prop} (hx : p.tables.exec = Jvm.exec) (hb : c.code = cc) (hr : meth.sig.returnType = none) (hlk : meth.locks = false) (hdg : decode cc pc = .ok (.return_, 1)) (hq : ∀ t : State, t.heap = H → s.WarmedH t.vm → Qc args s (.returned none) t) (hf : ∀ q ∈ locs, free q.base) : W p l e R s m args below meth c H locs cells slots (MQ below Qc args s cells slots free) (F0 m pc ls []) := W.vret hx hb hr hq hf hdg hlk
theorem wv_V {y : MethodName} {bytes : ByteArray} {maxL nL n index b : Nat} {ret : Option FieldType} {ws : List Cond} {rm : Room} {Ts : List Cond} {own C : String} {As st0 : List Value} {g : gG} {w0 w1 : va_W} {P : Heap → Prop} {A0 : Nat → Prop} {H0 : Heap}
    (S : CallFix p m c cc nL s args Ts own) (hM : WV l y ws rm g (.ref b :: As) H.size w0 P w1) (cw : CallW R s args own C index y bytes maxL ret ws rm 0 0 n) (hr : ∃ cell : Cell, H[b]? = some cell ∧ cell.vm.isStatics = false ∧ s.vm.findClass C = some cell.cls) (hP0 : va_P g.1 vwCl w0 H) (hP : P H) (hK : KK g s)
    (hn : As.length = n) (hsize : ls.size = nL) (hst : st0 = As.reverse ++ .ref b :: rest) (hW : (rest.map fun v => v.category).sum ≤ 8) (hdg : decode cc pc = .ok (.invokevirtual index, 3)) (hf : cells + 0 ≤ R.cells ∧ slots + 0 ≤ R.slots) (hS : va_S A0 H0 H locs) (hfree : ∀ q, va_A w0 H.size q → A0 q)
    (kk : ∀ (H1 : Heap) (locs1 : List Loc), va_P g.1 vwCl w1 H1 → H.size ≤ H1.size → (∀ q : Nat, q < H.size → ¬ va_A w0 H.size q → H1[q]? = H[q]?) → va_S A0 H0 H1 locs1 → W p l e R s m args below meth c H1 locs1 cells slots Q (F0 m (pc + 3) ls rest)) : W p l e R s m args below meth c H locs cells slots Q (F0 m pc ls st0) :=
  va_callv (va_runV S hM cw ⟨zPc.blind g _ _, hr, fun U hU hW => ⟨rfl, ⟨by rw [hU], by rw [hU]; exact hP0, by rw [hU]; exact hP⟩, hK.warm hW⟩⟩ rfl hn hsize hst (lv_room hW) hdg hf) hS (fun q _ h => hfree q h) hfree (fun u t H1 locs1 ht hvm hw hB hz hk hS1 => kk H1 locs1 (by rw [← ht]; exact hB) hz hk hS1)
theorem wi_V {y : MethodName} {bytes : ByteArray} {maxL nL n index b : Nat} {ret : Option FieldType} {ws : List Cond} {rm : Room} {Ts : List Cond} {own C : String} {As st0 : List Value} {g : gG} {w0 w1 : va_W} {P : Heap → Prop} {A0 : Nat → Prop} {H0 : Heap} {v : Int}
    (S : CallFix p m c cc nL s args Ts own) (hM : WI l y ws rm g (.ref b :: As) H.size w0 P w1 v) (cw : CallW R s args own C index y bytes maxL ret ws rm 0 0 n) (hr : ∃ cell : Cell, H[b]? = some cell ∧ cell.vm.isStatics = false ∧ s.vm.findClass C = some cell.cls) (hP0 : va_P g.1 vwCl w0 H) (hP : P H) (hK : KK g s)
    (hn : As.length = n) (hsize : ls.size = nL) (hst : st0 = As.reverse ++ .ref b :: rest) (hW : (rest.map fun v => v.category).sum ≤ 8) (hdg : decode cc pc = .ok (.invokevirtual index, 3)) (hf : cells + 0 ≤ R.cells ∧ slots + 0 ≤ R.slots) (hS : va_S A0 H0 H locs) (hfree : ∀ q, va_A w0 H.size q → A0 q)
    (kk : ∀ (H1 : Heap) (locs1 : List Loc), va_P g.1 vwCl w1 H1 → H.size ≤ H1.size → (∀ q : Nat, q < H.size → ¬ va_A w0 H.size q → H1[q]? = H[q]?) → va_S A0 H0 H1 locs1 → W p l e R s m args below meth c H1 locs1 cells slots Q (F0 m (pc + 3) ls (.int (zi v) :: rest))) : W p l e R s m args below meth c H locs cells slots Q (F0 m pc ls st0) :=
  va_calli (va_runV S hM cw ⟨zPc.blind g _ _, hr, fun U hU hW => ⟨rfl, ⟨by rw [hU], by rw [hU]; exact hP0, by rw [hU]; exact hP⟩, hK.warm hW⟩⟩ rfl hn hsize hst (lv_room hW) hdg hf) hS (fun q _ h => hfree q h) hfree (fun r u t H1 locs1 ht hvm hw hB hz hk hS1 => by rw [hw]; exact kk H1 locs1 (by rw [← ht]; exact hB) hz hk hS1)
theorem z_wiret {v a : Int} {w0 w1 : va_W} {g : gG} (hx : p.tables.exec = Jvm.exec) (hb : c.code = cc) (hr : meth.sig.returnType = some .int) (hlk : meth.locks = false) (hdg : decode cc pc = .ok (.ireturn, 1)) (h : a = v) (hP : va_P g.1 vwCl w1 H) (hS : va_S (va_A w0 s.heap.size) s.heap H locs) : W p l e R s m args below meth c H locs cells slots (MQ below (va_Qi (fun r (_ : Unit) => r = zi v) (fun _ t => va_P g.1 vwCl w1 t.heap) (va_A w0 s.heap.size)) args s cells slots (va_A w0 s.heap.size)) (F0 m pc ls [.int (zi a)]) :=
  W.iret hx hb hr (fun t ht _ => ⟨⟨_, (), rfl, by rw [h], by show va_P _ _ _ t.heap; rw [ht]; exact hP⟩, hS.F ht⟩) hS.2.2 hdg hlk
theorem z_wzret {v a : Int} {w0 w1 : va_W} {g : gG} (hx : p.tables.exec = Jvm.exec) (hb : c.code = cc) (hr : meth.sig.returnType = some .boolean) (hlk : meth.locks = false) (hdg : decode cc pc = .ok (.ireturn, 1)) (h01 : a = 0 ∨ a = 1) (h : a = v) (hP : va_P g.1 vwCl w1 H) (hS : va_S (va_A w0 s.heap.size) s.heap H locs) : W p l e R s m args below meth c H locs cells slots (MQ below (va_Qi (fun r (_ : Unit) => r = zi v) (fun _ t => va_P g.1 vwCl w1 t.heap) (va_A w0 s.heap.size)) args s cells slots (va_A w0 s.heap.size)) (F0 m pc ls [.int (zi a)]) :=
  W.zret hx hb hr (by rcases h01 with rfl | rfl <;> rfl) (fun t ht _ => ⟨⟨_, (), rfl, by rw [h], by show va_P _ _ _ t.heap; rw [ht]; exact hP⟩, hS.F ht⟩) hS.2.2 hdg hlk
theorem z_wvret {w0 w1 : va_W} {g : gG} (hx : p.tables.exec = Jvm.exec) (hb : c.code = cc) (hr : meth.sig.returnType = none) (hlk : meth.locks = false) (hdg : decode cc pc = .ok (.return_, 1)) (hP : va_P g.1 vwCl w1 H) (hS : va_S (va_A w0 s.heap.size) s.heap H locs) : W p l e R s m args below meth c H locs cells slots (MQ below (va_Qv (fun _ : Unit => True) (fun _ t => va_P g.1 vwCl w1 t.heap) (va_A w0 s.heap.size)) args s cells slots (va_A w0 s.heap.size)) (F0 m pc ls []) :=
  W.vret hx hb hr (fun t ht _ => ⟨⟨(), rfl, trivial, by show va_P _ _ _ t.heap; rw [ht]; exact hP⟩, hS.F ht⟩) hS.2.2 hdg hlk
end ZW
