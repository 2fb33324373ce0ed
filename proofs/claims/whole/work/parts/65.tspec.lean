/-! ===== the Desk's throws: what every thrower needs of the tables ===== -/
abbrev nTH : List String := ["java/lang/RuntimeException", "java/lang/Exception"]
abbrev eI : String := "java/lang/IndexOutOfBoundsException"
abbrev eA : String := "java/lang/IllegalArgumentException"
abbrev eS : String := "java/lang/IllegalStateException"
/-- the words of a throw that no call keeps by itself -/
def TWb : List Cond := [.castable eI eI, .castable eA eA, .castable eS eS, .declares (Bundle.initS "java/lang/RuntimeException"), .declares (Bundle.initS "java/lang/Exception"), .declares (Bundle.initS Bundle.tN)]
def TWk : List Nat := [185, 180, 44, 178, 175, 173, 102, 116, 171, 169, 108, 83, 87, 121, 119]
/-- the two marks of Throwable, the texts, and those words -/
def TW (U : State) : Prop := vx_Zq Bundle.tN "UNASSIGNED_STACK" Bundle.steD (fun q => U.heap.size ≤ q) U U.heap ∧ vx_Zq Bundle.tN "SUPPRESSED_SENTINEL" Bundle.listD (fun q => U.heap.size ≤ q) U U.heap ∧ (∀ k : Nat, k ∈ TWk → ∃ (t : String) (sa : Nat), vk_R RX3 k t sa U) ∧ ∀ w : Cond, w ∈ TWb → w.before #[] U = true
theorem TW.warm {s U : State} (hW : s.WarmedH U.vm) (hh : U.heap = s.heap) (h : TW s) : TW U := by
  obtain ⟨h1, h2, h3, h4⟩ := h
  refine ⟨by rw [hh]; exact vx_Zq.moved hW.alike h1, by rw [hh]; exact vx_Zq.moved hW.alike h2, fun k hk => ?_, ?_⟩
  · obtain ⟨t, sa, h⟩ := h3 k hk
    exact ⟨t, sa, vk_R.warm hW h⟩
  · have tr : ∀ {c : Cond}, c.onTables = true → c.before #[] (s.setVm U.vm) = true → c.before #[] U = true := by
      intro c hc h
      exact va_tabs (u := s.setVm U.vm) hc rfl h
    simp only [TWb, List.forall_mem_cons] at h4 ⊢
    obtain ⟨a1, a2, a3, a4, a5, a6, -⟩ := h4
    exact ⟨tr rfl (by rw [Cond.castable_setVm hW.alike]; exact a1), tr rfl (by rw [Cond.castable_setVm hW.alike]; exact a2), tr rfl (by rw [Cond.castable_setVm hW.alike]; exact a3), tr rfl (by rw [Cond.declares_setVm hW.alike]; exact a4), tr rfl (by rw [Cond.declares_setVm hW.alike]; exact a5), tr rfl (by rw [Cond.declares_setVm hW.alike]; exact a6), fun w hw => by cases hw⟩
theorem TWb.tab : ∀ w ∈ TWb, w.onTables = true := by decide +kernel
theorem TW.hat {args : Array Value} {s : State} {L : List Cond} (h : TW s) (h1 : ∀ w ∈ L.filter goodWord, w.before args s = true) (h2 : ∀ w ∈ L.filter (fun w => !goodWord w), w ∈ TWb) : ∀ w ∈ L, w.before args s = true :=
  vx_hat h1 h2 (fun w hw => va_tabs (TWb.tab w hw) rfl (h.2.2.2 w hw))
theorem TW.fit : ∀ n ∈ nTH, Bundle.fit n = true := by decide +kernel
abbrev zPt (g : gG) (av : List Value) (P : Heap → Prop) : Array Value → State → Prop := va_Pc av (fun U => P U.heap ∧ KK g U ∧ TW U)
/-- it throws an E, and changes nothing -/
abbrev XE (E : String) : String → State → State → Prop := fun E' st t => E' = E ∧ va_F (fun _ => False) st t
abbrev XT (l : Launch) (y : MethodName) (ws : List Cond) (rm : Room) (g : gG) (av : List Value) (P : Heap → Prop) (E : String) : Prop :=
  vx_Met l y ws rm (zPt g av P) (fun _ _ _ _ => False) (XE E) 1 6 (fun _ => False)
theorem ZT.ofW {l : Launch} {y : MethodName} {ws ws' : List Cond} {rm : Room} {g : gG} {av : List Value} {P : Heap → Prop} {Qc : Array Value → State → Outcome → State → Prop} {XC : String → State → State → Prop} {mc ms : Nat} {free : Addr → Prop} {cc : ByteArray} {maxL : Nat} {ret : Option FieldType} (hy : plainName y.cls = true) (hw : ws = Cond.code y cc maxL ret :: ws') (hn : (lg_sl av).length ≤ maxL)
    (body : ∀ (p : Program) (e : Env) (s : State) (m : MethodId) (below : List Frame) (meth : Method) (c : Code) (ls : Array Slot), p.tables.exec = Jvm.exec → c.code = cc → meth.sig.returnType = ret → c.maxLocals = maxL → s.vm.findClass y.cls = some m.cls → (∀ w ∈ ws, w.before av.toArray s = true) → meth.locks = false → (∀ x ∈ c.exceptionTable.toList, False) → P s.heap → KK g s → TW s → lv_has ls maxL (lv_args 0 av) →
      W p l e rm s m av.toArray below meth c s.heap [] 0 0 (vx_MQ below Qc XC av.toArray s mc ms free) (F0 m 0 ls [])) : vx_Met l y ws rm (zPt g av P) Qc XC mc ms free := by
  refine vx_ofW hy hw ?_
  intro p e s m args below meth c s₁ B hml ht hv
  obtain ⟨rfl, hP, hK, hT⟩ := hv
  have hl := lv_entry av (n := maxL) hn
  rw [lg_entry_eq]
  exact body p e s m below meth c _ B.exec B.bytes B.returns hml (findClass_of_methodNamed B.named) (atoms_spec (ws := ws) B.pre) B.notSynchronized ht hP hK hT hl
