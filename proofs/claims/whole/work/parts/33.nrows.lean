/-! ===== rows that make objects and rows of ints; calls of constructors ===== -/
theorem va_F.mono {A B : Nat → Prop} {st t : State} (h : va_F A st t) (hAB : ∀ q, A q → B q) : va_F B st t := ⟨h.1, fun q h1 h2 => h.2 q h1 (fun z => h2 (hAB q z))⟩
/-- a world, by its cells and apart -/
abbrev nwP (g : gG) (sz : Nat) (w0 : va_W) (P : Heap → Prop) : Heap → Prop := fun H => H.size = sz ∧ va_P g.1 vwCl w0 H ∧ P H
/-- writes its world and makes cells: what it leaves is told by u -/
abbrev WN {S : Type} (l : Launch) (y : MethodName) (ws : List Cond) (rm : Room) (g : gG) (av : List Value) (sz : Nat) (w0 : va_W) (P : Heap → Prop) (w1 : S → va_W) (mc ms : Nat) : Prop :=
  Met l y ws rm (zPc g av (nwP g sz w0 P)) (va_Qv (fun _ : S => True) (fun u t => va_P g.1 vwCl (w1 u) t.heap ∧ va_D (va_A w0 sz) (w1 u)) (va_A w0 sz)) mc ms (va_A w0 sz)
section ZN
variable {p : Program} {l : Launch} {e : Env} {R : Room} {s : State} {m : MethodId} {args : Array Value} {below : List Frame} {meth : Method} {c : Code} {H : Heap} {locs : List Loc} {cells slots : Nat} {Q : State → Prop}
variable {cc : ByteArray} {pc : Nat} {ls : Array Slot} {rest : List Value}
theorem KK.sameI {g : gG} {cA : ClassId} (hK : KK g s) (h : va_K g.1 vwCl ([(g.2.1, FieldType.int), (g.2.2.1, .boolean), (g.2.2.2.1, .object RX2), (g.2.2.2.2, .object RX0)] ++ [(cA, .int)]) s) : cA = g.2.1 := by
  have h1 : s.vm.findClass ("[" ++ FieldType.int.toString) = some cA := (h.2 4 _ rfl).2
  have h2 : s.vm.findClass ("[" ++ FieldType.int.toString) = some g.2.1 := (hK.1.2 0 _ rfl).2
  exact Option.some.inj (h1.symm.trans h2)
theorem KK.sameZ {g : gG} {cA : ClassId} (hK : KK g s) (h : va_K g.1 vwCl ([(g.2.1, FieldType.int), (g.2.2.1, .boolean), (g.2.2.2.1, .object RX2), (g.2.2.2.2, .object RX0)] ++ [(cA, .boolean)]) s) : cA = g.2.2.1 := by
  have h1 : s.vm.findClass ("[" ++ FieldType.boolean.toString) = some cA := (h.2 4 _ rfl).2
  have h2 : s.vm.findClass ("[" ++ FieldType.boolean.toString) = some g.2.2.1 := (hK.1.2 1 _ rfl).2
  exact Option.some.inj (h1.symm.trans h2)
theorem KK.sameV {g : gG} {cA : ClassId} (hK : KK g s) (h : va_K g.1 vwCl ([(g.2.1, FieldType.int), (g.2.2.1, .boolean), (g.2.2.2.1, .object RX2), (g.2.2.2.2, .object RX0)] ++ [(cA, .object RX2)]) s) : cA = g.2.2.2.1 := by
  obtain ⟨k1, c1, a1, a2, a3, a4⟩ := (h.2 4 _ rfl).2
  obtain ⟨k2, c2, b1, b2, b3, b4⟩ := (hK.1.2 2 _ rfl).2
  exact Option.some.inj (a4.symm.trans b4)
theorem KK.sameC {g : gG} {cA : ClassId} (hK : KK g s) (h : va_K g.1 vwCl ([(g.2.1, FieldType.int), (g.2.2.1, .boolean), (g.2.2.2.1, .object RX2), (g.2.2.2.2, .object RX0)] ++ [(cA, .object RX0)]) s) : cA = g.2.2.2.2 := by
  obtain ⟨k1, c1, a1, a2, a3, a4⟩ := (h.2 4 _ rfl).2
  obtain ⟨k2, c2, b1, b2, b3, b4⟩ := (hK.1.2 3 _ rfl).2
  exact Option.some.inj (a4.symm.trans b4)
theorem z_newi (hx : p.tables.exec = Jvm.exec) (hb : c.code = cc) {g : gG} {ws : va_W} {A : Nat → Prop} {H0 : Heap} (harr : (Cond.arrayClass .int).before args s = true) (hK : KK g s) (hP : va_P g.1 vwCl ws H) (hD : va_D A ws) (hS : va_S A H0 H locs) (hA : ∀ q, H0.size ≤ q → A q)
    {z : Int} (n : Nat) (hz : z = (n : Int)) (hn : n < 134217728) (hcells : cells + 1 ≤ R.cells) (hslots : slots + n ≤ R.slots) (hdg : decode cc pc = .ok (.newarray .int, 2))
    (kk : ∀ (q : Nat) (H1 : Heap), va_P g.1 vwCl (ws ++ [(q, .inl (g.2.1, n, .inl (fun _ => zi 0)))]) H1 → va_D A (ws ++ [(q, .inl (g.2.1, n, .inl (fun _ => zi 0)))]) → va_S A H0 H1 locs → W p l e R s m args below meth c H1 locs (cells + 1) (slots + n) Q (F0 m (pc + 2) ls (.ref q :: rest))) : W p l e R s m args below meth c H locs cells slots Q (F0 m pc ls (.int (zi z) :: rest)) := by
  subst hz
  refine va_newa (atype := .int) (ty := .int) (N' := n) (a0 := (n, .inl (fun _ => zi 0))) hx hb harr rfl hK.1 hP hD hS hA (fun cA => rfl) ?_ (zi_ix (by omega)) (by show n * 4 ≤ 536870912; omega) hcells hslots hdg (fun q cA H1 h1 h2 h3 h4 => ?_)
  · intro h
    have := (zi_lt (b := 0) (a := (n : Int)) (by omega) zr_0).mp h
    omega
  · have e := KK.sameI hK h1
    subst e
    exact kk q H1 h2 h3 h4
theorem z_newz (hx : p.tables.exec = Jvm.exec) (hb : c.code = cc) {g : gG} {ws : va_W} {A : Nat → Prop} {H0 : Heap} (harr : (Cond.arrayClass .boolean).before args s = true) (hK : KK g s) (hP : va_P g.1 vwCl ws H) (hD : va_D A ws) (hS : va_S A H0 H locs) (hA : ∀ q, H0.size ≤ q → A q)
    {z : Int} (n : Nat) (hz : z = (n : Int)) (hn : n < 134217728) (hcells : cells + 1 ≤ R.cells) (hslots : slots + n ≤ R.slots) (hdg : decode cc pc = .ok (.newarray .boolean, 2))
    (kk : ∀ (q : Nat) (H1 : Heap), va_P g.1 vwCl (ws ++ [(q, .inl (g.2.2.1, n, .inl (fun _ => zi 0)))]) H1 → va_D A (ws ++ [(q, .inl (g.2.2.1, n, .inl (fun _ => zi 0)))]) → va_S A H0 H1 locs → W p l e R s m args below meth c H1 locs (cells + 1) (slots + n) Q (F0 m (pc + 2) ls (.ref q :: rest))) : W p l e R s m args below meth c H locs cells slots Q (F0 m pc ls (.int (zi z) :: rest)) := by
  subst hz
  refine va_newa (atype := .boolean) (ty := .boolean) (N' := n) (a0 := (n, .inl (fun _ => zi 0))) hx hb harr rfl hK.1 hP hD hS hA (fun cA => rfl) ?_ (zi_ix (by omega)) (by show n * 1 ≤ 536870912; omega) hcells hslots hdg (fun q cA H1 h1 h2 h3 h4 => ?_)
  · intro h
    have := (zi_lt (b := 0) (a := (n : Int)) (by omega) zr_0).mp h
    omega
  · have e := KK.sameZ hK h1
    subst e
    exact kk q H1 h2 h3 h4
theorem wn_V {S : Type} {y : MethodName} {bytes : ByteArray} {maxL nL n index b mc ms : Nat} {ret : Option FieldType} {ws : List Cond} {rm : Room} {Ts : List Cond} {own C : String} {As st0 : List Value} {g : gG} {w0 : va_W} {w1 : S → va_W} {P : Heap → Prop} {A0 : Nat → Prop} {H0 : Heap}
    (Sx : CallFix p m c cc nL s args Ts own) (hM : WN l y ws rm g (.ref b :: As) H.size w0 P w1 mc ms) (cw : CallW R s args own C index y bytes maxL ret ws rm mc ms n) (hr : ∃ cell : Cell, H[b]? = some cell ∧ cell.vm.isStatics = false ∧ s.vm.findClass C = some cell.cls) (hP0 : va_P g.1 vwCl w0 H) (hP : P H) (hK : KK g s)
    (hn : As.length = n) (hsize : ls.size = nL) (hst : st0 = As.reverse ++ .ref b :: rest) (hW : (rest.map fun v => v.category).sum ≤ 8) (hdg : decode cc pc = .ok (.invokevirtual index, 3)) (hf : cells + mc ≤ R.cells ∧ slots + ms ≤ R.slots) (hS : va_S A0 H0 H locs) (hfree : ∀ q, va_A w0 H.size q → A0 q)
    (kk : ∀ (u : S) (H1 : Heap) (locs1 : List Loc), va_P g.1 vwCl (w1 u) H1 → va_D (va_A w0 H.size) (w1 u) → H.size ≤ H1.size → (∀ q : Nat, q < H.size → ¬ va_A w0 H.size q → H1[q]? = H[q]?) → va_S A0 H0 H1 locs1 → W p l e R s m args below meth c H1 locs1 (cells + mc) (slots + ms) Q (F0 m (pc + 3) ls rest)) : W p l e R s m args below meth c H locs cells slots Q (F0 m pc ls st0) :=
  va_callv (va_runV Sx hM cw ⟨zPc.blind g _ _, hr, fun U hU hW => ⟨rfl, ⟨by rw [hU], by rw [hU]; exact hP0, by rw [hU]; exact hP⟩, hK.warm hW⟩⟩ rfl hn hsize hst (lv_room hW) hdg hf) hS (fun q _ h => hfree q h) hfree (fun u t H1 locs1 ht hvm hw hB hz hk hS1 => kk u H1 locs1 (by rw [← ht]; exact hB.1) hB.2 hz hk hS1)
/-- a constructor, by its own class' file -/
theorem wn_I {S : Type} {y : MethodName} {bytes : ByteArray} {maxL nL n index b mc ms : Nat} {ws : List Cond} {rm : Room} {Ts : List Cond} {own : String} {As st0 : List Value} {g : gG} {w0 : va_W} {w1 : S → va_W} {P : Heap → Prop} {A0 : Nat → Prop} {H0 : Heap}
    (Sx : CallFix p m c cc nL s args Ts own) (hM : WN l y ws rm g (.ref b :: As) H.size w0 P w1 mc ms) (cw : CallB R s args own index y bytes maxL none ws rm mc ms n ∧ y.name = "<init>" ∧ (Cond.instanceMethod y).before args s = true) (hP0 : va_P g.1 vwCl w0 H) (hP : P H) (hK : KK g s)
    (hn : As.length = n) (hsize : ls.size = nL) (hst : st0 = As.reverse ++ .ref b :: rest) (hW : (rest.map fun v => v.category).sum ≤ 8) (hdg : decode cc pc = .ok (.invokespecial index, 3)) (hf : cells + mc ≤ R.cells ∧ slots + ms ≤ R.slots) (hS : va_S A0 H0 H locs) (hfree : ∀ q, va_A w0 H.size q → A0 q)
    (kk : ∀ (u : S) (H1 : Heap) (locs1 : List Loc), va_P g.1 vwCl (w1 u) H1 → va_D (va_A w0 H.size) (w1 u) → H.size ≤ H1.size → (∀ q : Nat, q < H.size → ¬ va_A w0 H.size q → H1[q]? = H[q]?) → va_S A0 H0 H1 locs1 → W p l e R s m args below meth c H1 locs1 (cells + mc) (slots + ms) Q (F0 m (pc + 3) ls rest)) : W p l e R s m args below meth c H locs cells slots Q (F0 m pc ls st0) :=
  va_callv (va_runI Sx hM cw ⟨zPc.blind g _ _, fun U hU hW => ⟨rfl, ⟨by rw [hU], by rw [hU]; exact hP0, by rw [hU]; exact hP⟩, hK.warm hW⟩⟩ rfl hn hsize hst (lv_room hW) hdg hf) hS (fun q _ h => hfree q h) hfree (fun u t H1 locs1 ht hvm hw hB hz hk hS1 => kk u H1 locs1 (by rw [← ht]; exact hB.1) hB.2 hz hk hS1)
/-- a private constructor of a nest mate -/
theorem wn_IN {S : Type} {y : MethodName} {bytes : ByteArray} {maxL nL n index b mc ms : Nat} {ws : List Cond} {rm : Room} {Ts : List Cond} {own host : String} {As st0 : List Value} {g : gG} {w0 : va_W} {w1 : S → va_W} {P : Heap → Prop} {A0 : Nat → Prop} {H0 : Heap}
    (Sx : CallFix p m c cc nL s args Ts own) (hM : WN l y ws rm g (.ref b :: As) H.size w0 P w1 mc ms) (cw : va_CN R s args own index y host bytes maxL none ws rm mc ms n ∧ y.name = "<init>" ∧ (Cond.instanceMethod y).before args s = true) (hP0 : va_P g.1 vwCl w0 H) (hP : P H) (hK : KK g s)
    (hn : As.length = n) (hsize : ls.size = nL) (hst : st0 = As.reverse ++ .ref b :: rest) (hW : (rest.map fun v => v.category).sum ≤ 8) (hdg : decode cc pc = .ok (.invokespecial index, 3)) (hf : cells + mc ≤ R.cells ∧ slots + ms ≤ R.slots) (hS : va_S A0 H0 H locs) (hfree : ∀ q, va_A w0 H.size q → A0 q)
    (kk : ∀ (u : S) (H1 : Heap) (locs1 : List Loc), va_P g.1 vwCl (w1 u) H1 → va_D (va_A w0 H.size) (w1 u) → H.size ≤ H1.size → (∀ q : Nat, q < H.size → ¬ va_A w0 H.size q → H1[q]? = H[q]?) → va_S A0 H0 H1 locs1 → W p l e R s m args below meth c H1 locs1 (cells + mc) (slots + ms) Q (F0 m (pc + 3) ls rest)) : W p l e R s m args below meth c H locs cells slots Q (F0 m pc ls st0) :=
  va_callv (va_runIN Sx hM cw ⟨zPc.blind g _ _, fun U hU hW => ⟨rfl, ⟨by rw [hU], by rw [hU]; exact hP0, by rw [hU]; exact hP⟩, hK.warm hW⟩⟩ rfl hn hsize hst (lv_room hW) hdg hf) hS (fun q _ h => hfree q h) hfree (fun u t H1 locs1 ht hvm hw hB hz hk hS1 => kk u H1 locs1 (by rw [← ht]; exact hB.1) hB.2 hz hk hS1)
end ZN
