/-! ===== the law's helpers: what they need, what they give ===== -/
theorem DI.far {g : gG} {σ : SG} {a : AD} {H0 H : Heap} (hI : DI g σ a H0) (hk : ∀ q, Ow σ a q → H[q]? = H0[q]?) : DI g σ a H := by
  have hk' : ∀ {i j : Nat}, dOk σ i j → H[a i j]? = H0[a i j]? := fun hv => hk _ ⟨_, _, hv, rfl⟩
  refine ⟨hI.ob.kept (hk' (dOk_0 σ (by omega))), hI.vs.kept (hk' (dOk_0 σ (by omega))), hI.cs.kept (hk' (dOk_0 σ (by omega))), hI.wt.kept (hk' (dOk_0 σ (by omega))), hI.tr.mv (fun _ _ _ => rfl) (fun i h1 h2 => hk' (dOk_0 σ (by omega))), fun k h => ?_, fun k h => ?_, hI.inj⟩
  · exact (hI.vk h).mv (fun _ _ _ => rfl) (fun i h1 h2 => hk' (dOk_v (by omega) h)) rfl rfl rfl rfl (fun _ _ => ⟨rfl, rfl⟩)
  · exact (hI.ck h).mv (fun _ _ _ => rfl) (fun i h1 h2 => hk' (dOk_c (by omega) h)) rfl rfl rfl (fun _ _ => rfl)
theorem DI.Ow_lt {g : gG} {σ : SG} {a : AD} {H : Heap} (hI : DI g σ a H) {q : Nat} (h : Ow σ a q) : q < H.size := by
  obtain ⟨i, j, h1, rfl⟩ := h
  exact hI.lt h1
/-- none of the three exceptions is another one -/
def NC (U : State) : Prop := va_Nc eA eI U ∧ va_Nc eS eI U ∧ va_Nc eS eA U
theorem NC.warm {s U : State} (hW : s.WarmedH U.vm) (h : NC s) : NC U := ⟨h.1.moved hW.alike, h.2.1.moved hW.alike, h.2.2.moved hW.alike⟩
theorem NC.same {u U : State} (hv : u.vm = U.vm) (h : NC u) : NC U := by
  have ha : u.vm.Alike U.vm := by rw [hv]; exact Vm.Alike.refl U.vm
  exact ⟨h.1.moved ha, h.2.1.moved ha, h.2.2.moved ha⟩
/-- the classes of the law's two rows -/
def KLD (g : gG) (cL cD : ClassId) (U : State) : Prop := va_K g.1 vwCl [(cL, .long), (cD, .double)] U
theorem KLD.warm {g : gG} {cL cD : ClassId} {s U : State} (hW : s.WarmedH U.vm) (h : KLD g cL cD s) : KLD g cL cD U := va_K.moved hW.alike h
theorem KLD.same {g : gG} {cL cD : ClassId} {u U : State} (hv : u.vm = U.vm) (h : KLD g cL cD u) : KLD g cL cD U := va_K.moved (by rw [hv]; exact Vm.Alike.refl U.vm) h
abbrev outL (cL : ClassId) (o : Nat) (f : Nat → Int64) : Nat × va_E := (o, .inl (cL, 1, .inr (.inl f)))
abbrev outD (cD : ClassId) (o : Nat) (f : Nat → UInt64) : Nat × va_E := (o, .inl (cD, 1, .inr (.inr (.inr (.inl f)))))
abbrev lhA (σ : SG) (a : AD) (sz o : Nat) : Nat → Prop := fun q => dA σ a sz q ∨ q = o
abbrev LR : Room := { frames := 8, cells := 4, slots := 32, locals := 180 }
abbrev hPc (g : gG) (cL cD : ClassId) (av : List Value) (P : Heap → Prop) : Array Value → State → Prop := va_Pc av (fun U => P U.heap ∧ KK g U ∧ TW U ∧ NC U ∧ KLD g cL cD U)
theorem hPc.blind (g : gG) (cL cD : ClassId) (av : List Value) (P : Heap → Prop) : FrameBlind (hPc g cL cD av P) := fun U f mk a h => ⟨h.1, h.2.1, KK.calling h.2.2.1, TW.same (u := f) rfl rfl h.2.2.2.1, NC.same (u := f) rfl h.2.2.2.2.1, KLD.same (u := f) rfl h.2.2.2.2.2⟩
/-- a helper: the answer k is 0 and v stands in the row, or k is the number of what the class threw -/
abbrev LH (l : Launch) (y : MethodName) (ws : List Cond) (g : gG) (cL cD : ClassId) (av : List Value) (o sz : Nat) (σ : SG) (a : AD) (σ' : SG) (k v : Int) : Prop :=
  Met l y ws LR (hPc g cL cD (.ref (a 1 0) :: (av ++ [.ref o])) (fun H => H.size = sz ∧ DI g σ a H ∧ (∃ f, va_at g.1 vwCl (outL cL o f) H) ∧ ¬ Ow σ a o))
    (va_Qi (fun r (_ : AD × (Nat → Int64)) => r = zi k) (fun u t => DI g σ' u.1 t.heap ∧ DE σ a σ' u.1 sz ∧ va_at g.1 vwCl (outL cL o u.2) t.heap ∧ (k = 0 → u.2 0 = (zi v).toInt64)) (lhA σ a sz o)) 4 32 (lhA σ a sz o)
abbrev LHd (l : Launch) (y : MethodName) (ws : List Cond) (g : gG) (cL cD : ClassId) (av : List Value) (o sz : Nat) (σ : SG) (a : AD) (σ' : SG) (k : Int) (v : UInt32) : Prop :=
  Met l y ws LR (hPc g cL cD (.ref (a 1 0) :: (av ++ [.ref o])) (fun H => H.size = sz ∧ DI g σ a H ∧ (∃ f, va_at g.1 vwCl (outD cD o f) H) ∧ ¬ Ow σ a o))
    (va_Qi (fun r (_ : AD × (Nat → UInt64)) => r = zi k) (fun u t => DI g σ' u.1 t.heap ∧ DE σ a σ' u.1 sz ∧ va_at g.1 vwCl (outD cD o u.2) t.heap ∧ (k = 0 → u.2 0 = FP.f2d v)) (lhA σ a sz o)) 4 32 (lhA σ a sz o)
theorem ZH.ofW {l : Launch} {y : MethodName} {ws ws' : List Cond} {rm : Room} {av : List Value} {B : State → Prop} {Qc : Array Value → State → Outcome → State → Prop} {mc ms : Nat} {free : Addr → Prop} {cc : ByteArray} {maxL : Nat} {ret : Option FieldType} {hh : List (Nat × Nat × Nat × Nat)} (hy : plainName y.cls = true) (hw : ws = Cond.codeWith y cc maxL ret hh :: ws') (hn : (lg_sl av).length ≤ maxL)
    (body : ∀ (p : Program) (e : Env) (s : State) (m : MethodId) (below : List Frame) (meth : Method) (c : Code) (ls : Array Slot), p.tables.exec = Jvm.exec → c.code = cc → meth.sig.returnType = ret → c.maxLocals = maxL → s.vm.findClass y.cls = some m.cls → (∀ w ∈ ws, w.before av.toArray s = true) → meth.locks = false → c.exceptionTable.toList = tableOf hh → B s → lv_has ls maxL (lv_args 0 av) →
      W p l e rm s m av.toArray below meth c s.heap [] 0 0 (MQ below Qc av.toArray s mc ms free) (F0 m 0 ls [])) : Met l y ws rm (va_Pc av B) Qc mc ms free := by
  have h1 : vx_Met l y ws rm (va_Pc av B) Qc (fun _ _ _ => False) mc ms free := by
    refine vx_ofWH hy hw ?_
    intro p e s m args below meth c s₁ BL hml hv
    obtain ⟨rfl, hB⟩ := hv
    have hl := lv_entry av (n := maxL) hn
    rw [lg_entry_eq]
    have hat := atoms_spec (ws := ws) BL.pre
    exact vx_ret (body p e s m below meth c _ BL.exec BL.bytes BL.returns hml (findClass_of_methodNamed BL.named) hat BL.notSynchronized (vx_table (x := y) BL (hat _ (by rw [hw]; exact List.mem_cons_self))) hB hl)
  refine MetFree.mono h1 (fun _ _ h => h) (fun _ _ _ _ _ h => h) ?_
  intro arr s o t _ hq
  rcases hq with h | ⟨q, _, E, ce, L, hX, _⟩
  · exact h
  · exact hX.elim
theorem RO.dw {l : Launch} {y : MethodName} {ws : List Cond} {rm : Room} {g : gG} {av : List Value} {σ : SG} {a : AD} {v : Int} (h : RO l y ws rm g (.ref (a 1 0) :: av) (DI g σ a) v) (sz : Nat) : DW l y ws rm g av sz σ a σ v 0 0 := by
  refine MetFree.mono (show MetFree l y (headSpec ws rm) _ _ _ from h) ?_ (fun _ _ _ _ _ h => h) ?_
  · intro arr s h1
    exact ⟨h1.1, h1.2.1.2, h1.2.2⟩
  · rintro arr s o t hP ⟨⟨r, ho, hr, hh⟩, L, hL, hf⟩
    exact ⟨⟨⟨r, a, ho, hr, by rw [hh]; exact hP.2.1.2, DE_same rfl rfl⟩, by unfold va_F; rw [hh]; exact ⟨Nat.le_refl _, fun _ _ _ => rfl⟩⟩, L, hL, fun q hq => (hf q hq).elim⟩
section ZH
variable {p : Program} {l : Launch} {e : Env} {R : Room} {s : State} {m : MethodId} {args : Array Value} {below : List Frame} {meth : Method} {c : Code} {H : Heap} {locs : List Loc} {cells slots : Nat} {Q : State → Prop}
variable {cc : ByteArray} {pc : Nat} {ls : Array Slot} {rest : List Value}
theorem dw_V {y : MethodName} {bytes : ByteArray} {maxL nL n index mc ms : Nat} {ret : Option FieldType} {ws : List Cond} {rm : Room} {Ts : List Cond} {own C : String} {As st0 : List Value} {g : gG} {σ σ' : SG} {a : AD} {A0 : Nat → Prop} {H0 : Heap} {v : Int}
    (Sx : CallFix p m c cc nL s args Ts own) (hM : DW l y ws rm g As H.size σ a σ' v mc ms) (cw : CallW R s args own C index y bytes maxL ret ws rm mc ms n) (hr : ∃ cell : Cell, H[a 1 0]? = some cell ∧ cell.vm.isStatics = false ∧ s.vm.findClass C = some cell.cls) (hI : DI g σ a H) (hK : KK g s)
    (hn : As.length = n) (hsize : ls.size = nL) (hst : st0 = As.reverse ++ .ref (a 1 0) :: rest) (hW : (rest.map fun v => v.category).sum ≤ 8) (hdg : decode cc pc = .ok (.invokevirtual index, 3)) (hf : cells + mc ≤ R.cells ∧ slots + ms ≤ R.slots) (hS : va_S A0 H0 H locs) (hfree : ∀ q, dA σ a H.size q → A0 q)
    (kk : ∀ (a' : AD) (H1 : Heap) (locs1 : List Loc), DI g σ' a' H1 → DE σ a σ' a' H.size → H.size ≤ H1.size → (∀ q : Nat, q < H.size → ¬ dA σ a H.size q → H1[q]? = H[q]?) → va_S A0 H0 H1 locs1 → W p l e R s m args below meth c H1 locs1 (cells + mc) (slots + ms) Q (F0 m (pc + 3) ls (.int (zi v) :: rest))) : W p l e R s m args below meth c H locs cells slots Q (F0 m pc ls st0) :=
  va_calli (va_runV Sx hM cw ⟨zPc.blind g _ _, hr, fun U hU hW => ⟨rfl, ⟨by rw [hU], by rw [hU]; exact hI⟩, hK.warm hW⟩⟩ rfl hn hsize hst (lv_room hW) hdg hf) hS (fun q _ h => hfree q h) hfree (fun r u t H1 locs1 ht hvm hw hB hz hk hS1 => by rw [hw]; exact kk u H1 locs1 (by rw [← ht]; exact hB.1) hB.2 hz hk hS1)
theorem z_last (hx : p.tables.exec = Jvm.exec) (hb : c.code = cc) {g : gG} {cL cD : ClassId} (hL : KLD g cL cD s) {o : Nat} {f : Nat → Int64} {x : Int64} (hat : va_at g.1 vwCl (outL cL o f) H) {A0 : Nat → Prop} {H0 : Heap} (hS : va_S A0 H0 H locs) (ho : A0 o) (hdg : decode cc pc = .ok (.lastore, 1))
    (kk : ∀ (H1 : Heap) (locs1 : List Loc), va_at g.1 vwCl (outL cL o (vp_updL f 0 x)) H1 → (∀ q, q ≠ o → H1[q]? = H[q]?) → H1.size = H.size → va_S A0 H0 H1 locs1 → W p l e R s m args below meth c H1 locs1 cells slots Q (F0 m (pc + 1) ls rest)) : W p l e R s m args below meth c H locs cells slots Q (F0 m pc ls (.long x :: .int (zi 0) :: .ref o :: rest)) := by
  refine W.last hx hb (show H[o]? = some (vp_cell cL (1, .inr (.inl f))) from hat) ((hL.2 0 _ rfl).1 1 (fun j => .long (f j))) (fun q => by cases q) (by show ¬ (zi 0 < 0 ∨ (arrV _ _ _).slots.size ≤ _); rw [arrV_size]; exact zi_in (i := 0) (n := 1) (by decide) (by decide)) rfl rfl hdg fun H1 e z oq => ?_
  refine kk H1 _ ?_ oq z (hS.put z oq ho)
  show H1[o]? = some (vp_cell _ _)
  rw [e]
  rw [vp_cell_l, vp_cell_l, arrV_store]
  congr 2
  funext q
  have h0 : (zi 0).toNatClampNeg = 0 := by decide
  by_cases hq : q = 0
  · subst hq
    simp [updV, vp_updL, h0]
  · simp [updV, vp_updL, h0, hq]
theorem z_dast (hx : p.tables.exec = Jvm.exec) (hb : c.code = cc) {g : gG} {cL cD : ClassId} (hL : KLD g cL cD s) {o : Nat} {f : Nat → UInt64} {x : UInt64} (hat : va_at g.1 vwCl (outD cD o f) H) {A0 : Nat → Prop} {H0 : Heap} (hS : va_S A0 H0 H locs) (ho : A0 o) (hdg : decode cc pc = .ok (.dastore, 1))
    (kk : ∀ (H1 : Heap) (locs1 : List Loc), va_at g.1 vwCl (outD cD o (vf_upd f 0 x)) H1 → (∀ q, q ≠ o → H1[q]? = H[q]?) → H1.size = H.size → va_S A0 H0 H1 locs1 → W p l e R s m args below meth c H1 locs1 cells slots Q (F0 m (pc + 1) ls rest)) : W p l e R s m args below meth c H locs cells slots Q (F0 m pc ls (.double x :: .int (zi 0) :: .ref o :: rest)) := by
  refine W.dast hx hb (show H[o]? = some (vp_cell cD (1, .inr (.inr (.inr (.inl f))))) from hat) ((hL.2 1 _ rfl).1 1 (fun j => .double (f j))) (fun q => by cases q) (by show ¬ (zi 0 < 0 ∨ (arrV _ _ _).slots.size ≤ _); rw [arrV_size]; exact zi_in (i := 0) (n := 1) (by decide) (by decide)) rfl rfl hdg fun H1 e z oq => ?_
  refine kk H1 _ ?_ oq z (hS.put z oq ho)
  show H1[o]? = some (vp_cell _ _)
  rw [e]
  rw [vp_cell_d, vp_cell_d, arrV_store]
  congr 2
  funext q
  have h0 : (zi 0).toNatClampNeg = 0 := by decide
  by_cases hq : q = 0
  · subst hq
    simp [updV, vf_upd, h0]
  · simp [updV, vf_upd, h0, hq]
/-- a call that throws, as the caller's own handlers see it -/
theorem zx_c {E : String} {st0 : List Value} {A0 : Nat → Prop} {H0 : Heap} (hr : vx_Run p l e R s m args below meth c H locs cells slots 1 6 (F0 m pc ls st0) rest (fun _ _ _ => False) (XE E) (fun _ => False)) (hS : va_S A0 H0 H locs)
    (kk : ∀ (H1 : Heap) (q9 : Addr) (ce : Cell), H.size ≤ H1.size → (∀ q : Nat, q < H.size → H1[q]? = H[q]?) → va_S A0 H0 H1 locs → H1[q9]? = some ce → ce.vm = .none → s.vm.findClass E = some ce.cls → vx_W p l e R s m args below meth c H1 locs (cells + 1) (slots + 6) Q (F0 m pc ls rest) q9) :
    W p l e R s m args below meth c H locs cells slots Q (F0 m pc ls st0) := by
  intro T hT X
  rcases hr T hT X with ⟨v, st₀, t, T', L, h0, X', hL, e1, e2, hF, st⟩ | ⟨q, st₀, t, T', L, E', ce, h0, X', hL, e1, e2, ⟨hE, hF⟩, hce, hcv, hcl, st⟩
  · exact hF.elim
  · subst hE
    have hLn : L = [] := List.eq_nil_iff_forall_not_mem.mpr (fun z hz => hL z hz)
    subst hLn
    obtain ⟨k1, k2, k3⟩ := vx_keep (A1 := fun _ => False) (free := fun _ => False) (L := []) h0 e1 hS (fun _ _ h => h.elim) (fun _ h => h.elim) (fun _ h => by cases h) hF
    rw [List.append_nil] at k3 X'
    obtain ⟨t2, a1, b1⟩ := kk T'.heap q ce k1 (fun q hq => k2 q hq (fun h => h)) k3 (by rw [e1]; exact hce) hcv hcl T' rfl X'
    exact ⟨t2, st.trans a1, b1⟩
theorem xt_V {E C : String} {y : MethodName} {bytes : ByteArray} {maxL nL n index b : Nat} {ret : Option FieldType} {ws : List Cond} {rm : Room} {Ts : List Cond} {own : String} {As st0 : List Value} {g : gG} {P : Heap → Prop} {A0 : Nat → Prop}
    (S : CallFix p m c cc nL s args Ts own) (hM : XT l y ws rm g (.ref b :: As) P E) (cw : CallW R s args own C index y bytes maxL ret ws rm 1 6 n) (hr : ∃ cell : Cell, s.heap[b]? = some cell ∧ cell.vm.isStatics = false ∧ s.vm.findClass C = some cell.cls) (hP : P s.heap) (hK : KK g s) (hT : TW s)
    (hn : As.length = n) (hsize : ls.size = nL) (hst : st0 = As.reverse ++ .ref b :: rest) (hW : (rest.map fun v => v.category).sum ≤ 8) (hdg : decode cc pc = .ok (.invokevirtual index, 3)) (hf : 1 ≤ R.cells ∧ 6 ≤ R.slots)
    (kk : ∀ (H1 : Heap) (q9 : Addr) (ce : Cell), s.heap.size ≤ H1.size → (∀ q : Nat, q < s.heap.size → H1[q]? = s.heap[q]?) → va_S A0 s.heap H1 [] → H1[q9]? = some ce → ce.vm = .none → s.vm.findClass E = some ce.cls → vx_W p l e R s m args below meth c H1 [] (0 + 1) (0 + 6) Q (F0 m pc ls rest) q9) :
    W p l e R s m args below meth c s.heap [] 0 0 Q (F0 m pc ls st0) :=
  zx_c (vx_runV S hM cw ⟨zPt.blind g _ _, hr, fun U hU hW => ⟨rfl, by rw [hU]; exact hP, hK.warm hW, hT.warm hW hU⟩⟩ rfl hn hsize hst (lv_room hW) hdg (by omega)) va_S.rf kk
theorem z_lhret {k v : Int} {x : Int} {g : gG} {cL : ClassId} {o : Nat} {σ σ' : SG} {a : AD} (a' : AD) (f' : Nat → Int64) (hx : p.tables.exec = Jvm.exec) (hb : c.code = cc) (hr : meth.sig.returnType = some .int) (hlk : meth.locks = false) (hdg : decode cc pc = .ok (.ireturn, 1)) (h : x = k) (hI : DI g σ' a' H) (hE : DE σ a σ' a' s.heap.size) (hat : va_at g.1 vwCl (outL cL o f') H) (hf : k = 0 → f' 0 = (zi v).toInt64) (hS : va_S (lhA σ a s.heap.size o) s.heap H locs) : W p l e R s m args below meth c H locs 4 32 (MQ below (va_Qi (fun r (_ : AD × (Nat → Int64)) => r = zi k) (fun u t => DI g σ' u.1 t.heap ∧ DE σ a σ' u.1 s.heap.size ∧ va_at g.1 vwCl (outL cL o u.2) t.heap ∧ (k = 0 → u.2 0 = (zi v).toInt64)) (lhA σ a s.heap.size o)) args s 4 32 (lhA σ a s.heap.size o)) (F0 m pc ls [.int (zi x)]) :=
  W.iret hx hb hr (fun t ht _ => ⟨⟨_, (a', f'), rfl, by rw [h], by rw [ht]; exact hI, hE, by rw [ht]; exact hat, hf⟩, hS.F ht⟩) (fun q hq => hS.2.2 q hq) hdg hlk
theorem z_ldret {k : Int} {v : UInt32} {x : Int} {g : gG} {cD : ClassId} {o : Nat} {σ σ' : SG} {a : AD} (a' : AD) (f' : Nat → UInt64) (hx : p.tables.exec = Jvm.exec) (hb : c.code = cc) (hr : meth.sig.returnType = some .int) (hlk : meth.locks = false) (hdg : decode cc pc = .ok (.ireturn, 1)) (h : x = k) (hI : DI g σ' a' H) (hE : DE σ a σ' a' s.heap.size) (hat : va_at g.1 vwCl (outD cD o f') H) (hf : k = 0 → f' 0 = FP.f2d v) (hS : va_S (lhA σ a s.heap.size o) s.heap H locs) : W p l e R s m args below meth c H locs 4 32 (MQ below (va_Qi (fun r (_ : AD × (Nat → UInt64)) => r = zi k) (fun u t => DI g σ' u.1 t.heap ∧ DE σ a σ' u.1 s.heap.size ∧ va_at g.1 vwCl (outD cD o u.2) t.heap ∧ (k = 0 → u.2 0 = FP.f2d v)) (lhA σ a s.heap.size o)) args s 4 32 (lhA σ a s.heap.size o)) (F0 m pc ls [.int (zi x)]) :=
  W.iret hx hb hr (fun t ht _ => ⟨⟨_, (a', f'), rfl, by rw [h], by rw [ht]; exact hI, hE, by rw [ht]; exact hat, hf⟩, hS.F ht⟩) (fun q hq => hS.2.2 q hq) hdg hlk
end ZH
