/-! ===== rows of references that are made; a constructor that makes them ===== -/
abbrev KA (g : gG) (U : State) : Prop := KK g U ∧ va_AO RX2 U ∧ va_AO RX0 U
theorem KA.warm {g : gG} {s U : State} (hW : s.WarmedH U.vm) (h : KA g s) : KA g U := ⟨h.1.warm hW, va_AO.moved hW.alike h.2.1, va_AO.moved hW.alike h.2.2⟩
theorem KA.same {g : gG} {u U : State} (hv : u.vm = U.vm) (h : KA g u) : KA g U := ⟨KK.same hv h.1, va_AO.moved (by rw [hv]; exact Vm.Alike.refl U.vm) h.2.1, va_AO.moved (by rw [hv]; exact Vm.Alike.refl U.vm) h.2.2⟩
theorem KA.calling {g : gG} {U : State} {f : JFrame} {mk : MethodId} {a : Array Value} (h : KA g U) : KA g (U.calling f mk a) := KA.same (u := U) rfl h
abbrev zPa (g : gG) (av : List Value) (P : Heap → Prop) : Array Value → State → Prop := va_Pc av (fun U => P U.heap ∧ KA g U)
theorem zPa.blind (g : gG) (av : List Value) (P : Heap → Prop) : FrameBlind (zPa g av P) := fun _ _ _ _ h => ⟨h.1, h.2.1, KA.calling h.2.2⟩
theorem ZA.ofW {l : Launch} {y : MethodName} {ws ws' : List Cond} {rm : Room} {g : gG} {av : List Value} {P : Heap → Prop} {Qc : Array Value → State → Outcome → State → Prop} {mc ms : Nat} {free : Addr → Prop} {cc : ByteArray} {maxL : Nat} {ret : Option FieldType} (hy : plainName y.cls = true) (hw : ws = Cond.code y cc maxL ret :: ws') (hn : (lg_sl av).length ≤ maxL)
    (body : ∀ (p : Program) (e : Env) (s : State) (m : MethodId) (below : List Frame) (meth : Method) (c : Code) (ls : Array Slot), p.tables.exec = Jvm.exec → c.code = cc → meth.sig.returnType = ret → c.maxLocals = maxL → s.vm.findClass y.cls = some m.cls → (∀ w ∈ ws, w.before av.toArray s = true) → meth.locks = false → P s.heap → KA g s → lv_has ls maxL (lv_args 0 av) → (y.name = "<init>" → meth.name = "<init>") →
      W p l e rm s m av.toArray below meth c s.heap [] 0 0 (MQ below Qc av.toArray s mc ms free) (F0 m 0 ls [])) : Met l y ws rm (zPa g av P) Qc mc ms free := by
  refine Met.ofW hy hw ?_
  intro p e s m args below meth c s₁ B hml hv
  obtain ⟨rfl, hP, hK⟩ := hv
  have hl := lv_entry av (n := maxL) hn
  rw [lg_entry_eq]
  exact body p e s m below meth c _ B.exec B.bytes B.returns hml (findClass_of_methodNamed B.named) (atoms_spec (ws := ws) B.pre) B.notSynchronized hP hK hl (fun h => by rw [← h]; exact (name_of_methodNamed B.named B.method).1)
abbrev WNA {S : Type} (l : Launch) (y : MethodName) (ws : List Cond) (rm : Room) (g : gG) (av : List Value) (sz : Nat) (w0 : va_W) (P : Heap → Prop) (w1 : S → va_W) (mc ms : Nat) : Prop :=
  Met l y ws rm (zPa g av (nwP g sz w0 P)) (va_Qv (fun _ : S => True) (fun u t => va_P g.1 vwCl (w1 u) t.heap ∧ va_D (va_A w0 sz) (w1 u)) (va_A w0 sz)) mc ms (va_A w0 sz)
section ZNA
variable {p : Program} {l : Launch} {e : Env} {R : Room} {s : State} {m : MethodId} {args : Array Value} {below : List Frame} {meth : Method} {c : Code} {H : Heap} {locs : List Loc} {cells slots : Nat} {Q : State → Prop}
variable {cc : ByteArray} {pc : Nat} {ls : Array Slot} {rest : List Value}
theorem wna_I {S : Type} {y : MethodName} {bytes : ByteArray} {maxL nL n index b mc ms : Nat} {ws : List Cond} {rm : Room} {Ts : List Cond} {own : String} {As st0 : List Value} {g : gG} {w0 : va_W} {w1 : S → va_W} {P : Heap → Prop} {A0 : Nat → Prop} {H0 : Heap}
    (Sx : CallFix p m c cc nL s args Ts own) (hM : WNA l y ws rm g (.ref b :: As) H.size w0 P w1 mc ms) (cw : CallB R s args own index y bytes maxL none ws rm mc ms n ∧ y.name = "<init>" ∧ (Cond.instanceMethod y).before args s = true) (hP0 : va_P g.1 vwCl w0 H) (hP : P H) (hK : KA g s)
    (hn : As.length = n) (hsize : ls.size = nL) (hst : st0 = As.reverse ++ .ref b :: rest) (hW : (rest.map fun v => v.category).sum ≤ 8) (hdg : decode cc pc = .ok (.invokespecial index, 3)) (hf : cells + mc ≤ R.cells ∧ slots + ms ≤ R.slots) (hS : va_S A0 H0 H locs) (hfree : ∀ q, va_A w0 H.size q → A0 q)
    (kk : ∀ (u : S) (H1 : Heap) (locs1 : List Loc), va_P g.1 vwCl (w1 u) H1 → va_D (va_A w0 H.size) (w1 u) → H.size ≤ H1.size → (∀ q : Nat, q < H.size → ¬ va_A w0 H.size q → H1[q]? = H[q]?) → va_S A0 H0 H1 locs1 → W p l e R s m args below meth c H1 locs1 (cells + mc) (slots + ms) Q (F0 m (pc + 3) ls rest)) : W p l e R s m args below meth c H locs cells slots Q (F0 m pc ls st0) :=
  va_callv (va_runI Sx hM cw ⟨zPa.blind g _ _, fun U hU hW => ⟨rfl, ⟨by rw [hU], by rw [hU]; exact hP0, by rw [hU]; exact hP⟩, hK.warm hW⟩⟩ rfl hn hsize hst (lv_room hW) hdg hf) hS (fun q _ h => hfree q h) hfree (fun u t H1 locs1 ht hvm hw hB hz hk hS1 => kk u H1 locs1 (by rw [← ht]; exact hB.1) hB.2 hz hk hS1)
theorem z_newV (hx : p.tables.exec = Jvm.exec) (hb : c.code = cc) {own : String} {index : Nat} (hown : s.vm.findClass own = some m.cls) (hcl : (Cond.classLink own index RX2).before args s = true) (hO : va_AO RX2 s) {g : gG} {ws : va_W} {A : Nat → Prop} {H0 : Heap} (hK : KK g s) (hP : va_P g.1 vwCl ws H) (hD : va_D A ws) (hS : va_S A H0 H locs) (hA : ∀ q, H0.size ≤ q → A q)
    {z : Int} (n : Nat) (hz : z = (n : Int)) (hn : n < 134217728) (hcells : cells + 1 ≤ R.cells) (hslots : slots + n ≤ R.slots) (hdg : decode cc pc = .ok (.anewarray index, 3))
    (kk : ∀ (q : Nat) (H1 : Heap), va_P g.1 vwCl (ws ++ [(q, .inl (g.2.2.2.1, n, .inr (.inr (.inr (.inr (fun _ => none))))))]) H1 → va_D A (ws ++ [(q, .inl (g.2.2.2.1, n, .inr (.inr (.inr (.inr (fun _ => none))))))]) → va_S A H0 H1 locs → W p l e R s m args below meth c H1 locs (cells + 1) (slots + n) Q (F0 m (pc + 3) ls (.ref q :: rest))) : W p l e R s m args below meth c H locs cells slots Q (F0 m pc ls (.int (zi z) :: rest)) := by
  subst hz
  refine va_newq hx hb hown hcl hO hK.1 hP hD hS hA (N' := n) ?_ (zi_ix (by omega)) (by omega) hcells hslots hdg (fun q cA H1 h1 h2 h3 h4 => ?_)
  · intro h
    have := (zi_lt (b := 0) (a := (n : Int)) (by omega) zr_0).mp h
    omega
  · have e := KK.sameV hK h1
    subst e
    exact kk q H1 h2 h3 h4
theorem z_newC (hx : p.tables.exec = Jvm.exec) (hb : c.code = cc) {own : String} {index : Nat} (hown : s.vm.findClass own = some m.cls) (hcl : (Cond.classLink own index RX0).before args s = true) (hO : va_AO RX0 s) {g : gG} {ws : va_W} {A : Nat → Prop} {H0 : Heap} (hK : KK g s) (hP : va_P g.1 vwCl ws H) (hD : va_D A ws) (hS : va_S A H0 H locs) (hA : ∀ q, H0.size ≤ q → A q)
    {z : Int} (n : Nat) (hz : z = (n : Int)) (hn : n < 134217728) (hcells : cells + 1 ≤ R.cells) (hslots : slots + n ≤ R.slots) (hdg : decode cc pc = .ok (.anewarray index, 3))
    (kk : ∀ (q : Nat) (H1 : Heap), va_P g.1 vwCl (ws ++ [(q, .inl (g.2.2.2.2, n, .inr (.inr (.inr (.inr (fun _ => none))))))]) H1 → va_D A (ws ++ [(q, .inl (g.2.2.2.2, n, .inr (.inr (.inr (.inr (fun _ => none))))))]) → va_S A H0 H1 locs → W p l e R s m args below meth c H1 locs (cells + 1) (slots + n) Q (F0 m (pc + 3) ls (.ref q :: rest))) : W p l e R s m args below meth c H locs cells slots Q (F0 m pc ls (.int (zi z) :: rest)) := by
  subst hz
  refine va_newq hx hb hown hcl hO hK.1 hP hD hS hA (N' := n) ?_ (zi_ix (by omega)) (by omega) hcells hslots hdg (fun q cA H1 h1 h2 h3 h4 => ?_)
  · intro h
    have := (zi_lt (b := 0) (a := (n : Int)) (by omega) zr_0).mp h
    omega
  · have e := KK.sameC hK h1
    subst e
    exact kk q H1 h2 h3 h4
end ZNA
