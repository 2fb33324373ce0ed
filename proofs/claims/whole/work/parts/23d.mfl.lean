/-! ===== a call of the reference that answers a float ===== -/
abbrev MFl (l : Launch) (y : MethodName) (ws : List Cond) (rm : Room) (g : gG) (ad : Nat → Nat) (av : List Value) (sz : Nat) (σ : SG) (th : Int) (σ' : SG) (th' : Int) (v : UInt32) : Prop :=
  Met l y ws rm (zPc g (.ref (ad 0) :: av) (wP g sz (MWs g ad σ th) (fun _ => True))) (va_Qf (fun r (_ : Unit) => r = v) (fun _ t => va_P g.1 vwCl (MWs g ad σ' th') t.heap) (va_A (MWs g ad σ th) sz)) 0 0 (va_A (MWs g ad σ th) sz)
section ZMF
variable {p : Program} {l : Launch} {e : Env} {R : Room} {s : State} {m : MethodId} {args : Array Value} {below : List Frame} {meth : Method} {c : Code} {H : Heap} {locs : List Loc} {cells slots : Nat} {Q : State → Prop}
variable {cc : ByteArray} {pc : Nat} {ls : Array Slot} {rest : List Value}
theorem z_wfret {v a : UInt32} {w0 w1 : va_W} {g : gG} (hx : p.tables.exec = Jvm.exec) (hb : c.code = cc) (hr : meth.sig.returnType = some .float) (hlk : meth.locks = false) (hdg : decode cc pc = .ok (.freturn, 1)) (h : a = v) (hP : va_P g.1 vwCl w1 H) (hS : va_S (va_A w0 s.heap.size) s.heap H locs) : W p l e R s m args below meth c H locs cells slots (MQ below (va_Qf (fun r (_ : Unit) => r = v) (fun _ t => va_P g.1 vwCl w1 t.heap) (va_A w0 s.heap.size)) args s cells slots (va_A w0 s.heap.size)) (F0 m pc ls [.float a]) :=
  W.fret hx hb hr (fun t ht _ => ⟨⟨_, (), rfl, h, by show va_P _ _ _ t.heap; rw [ht]; exact hP⟩, hS.F ht⟩) hS.2.2 hdg hlk
end ZMF
theorem bst_t (c : Nat → Int) (i : Nat) (h : c (i + 1) < c (bst c i)) : bst c (i + 1) = i + 1 := if_pos h
theorem bst_f (c : Nat → Int) (i : Nat) (h : ¬ c (i + 1) < c (bst c i)) : bst c (i + 1) = bst c i := if_neg h
