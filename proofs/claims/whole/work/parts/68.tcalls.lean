/-! ===== a call whose exception goes on ===== -/
theorem TW.same {u U : State} (hv : u.vm = U.vm) (hh : U.heap = u.heap) (h : TW u) : TW U := by
  obtain ⟨h1, h2, h3, h4⟩ := h
  have ha : u.vm.Alike U.vm := by rw [hv]; exact Vm.Alike.refl U.vm
  refine ⟨by rw [hh]; exact vx_Zq.moved ha h1, by rw [hh]; exact vx_Zq.moved ha h2, fun k hk => ?_, fun w hw => va_tabs (TWb.tab w hw) hv (h4 w hw)⟩
  obtain ⟨t, sa, h⟩ := h3 k hk
  exact ⟨t, sa, vk_R.same hv.symm h⟩
theorem zPt.blind (g : gG) (av : List Value) (P : Heap → Prop) : FrameBlind (zPt g av P) := fun U f mk a h => ⟨h.1, h.2.1, KK.calling h.2.2.1, by have h9 := h.2.2.2; exact TW.same (u := f) rfl rfl h9⟩
section ZX
variable {p : Program} {l : Launch} {e : Env} {R : Room} {s : State} {m : MethodId} {args : Array Value} {below : List Frame} {meth : Method} {c : Code}
variable {cc : ByteArray} {pc : Nat} {ls : Array Slot} {rest : List Value}
theorem zx_go {Qc : Array Value → State → Outcome → State → Prop} {E : String} {st0 : List Value} (hr : vx_Run p l e R s m args below meth c s.heap [] 0 0 1 6 (F0 m pc ls st0) rest (fun _ _ _ => False) (XE E) (fun _ => False)) (hte : ∀ x ∈ c.exceptionTable.toList, False) (hlk : meth.locks = false) :
    W p l e R s m args below meth c s.heap [] 0 0 (vx_MQ below Qc (XE E) args s 1 6 (fun _ => False)) (F0 m pc ls st0) := by
  intro T hT X
  rcases hr T hT X with ⟨v, st₀, t, T', L, h0, X', hL, e1, e2, hF, st⟩ | ⟨q, st₀, t, T', L, E', ce, h0, X', hL, e1, e2, ⟨hE, hF⟩, hce, hcv, hcl, st⟩
  · exact hF.elim
  · subst hE
    unfold va_F at hF
    rw [h0] at hF
    obtain ⟨t2, a1, b1⟩ := vx_out (Qc := Qc) (XC := XE E') (mc := 1) (ms := 6) (free := fun _ => False) (args := args) (fun x hx => (hte x hx).elim) hlk (by rw [e1]; exact hce) hcv hcl (fun u hu _ => ⟨rfl, by rw [hu, e1]; exact hF.1, fun q hq hn => by rw [hu, e1]; exact hF.2 q hq hn⟩) (fun z hz => hL z (by simpa using hz)) (by omega) (by omega) T' rfl X'
    exact ⟨t2, st.trans a1, b1⟩
theorem zx_V {Qc : Array Value → State → Outcome → State → Prop} {E C : String} {y : MethodName} {bytes : ByteArray} {maxL nL n index b : Nat} {ret : Option FieldType} {ws : List Cond} {rm : Room} {Ts : List Cond} {own : String} {As st0 : List Value} {g : gG} {P : Heap → Prop}
    (S : CallFix p m c cc nL s args Ts own) (hM : XT l y ws rm g (.ref b :: As) P E) (cw : CallW R s args own C index y bytes maxL ret ws rm 1 6 n) (hr : ∃ cell : Cell, s.heap[b]? = some cell ∧ cell.vm.isStatics = false ∧ s.vm.findClass C = some cell.cls) (hP : P s.heap) (hK : KK g s) (hT : TW s)
    (hn : As.length = n) (hsize : ls.size = nL) (hst : st0 = As.reverse ++ .ref b :: rest) (hW : (rest.map fun v => v.category).sum ≤ 8) (hdg : decode cc pc = .ok (.invokevirtual index, 3)) (hf : 1 ≤ R.cells ∧ 6 ≤ R.slots) (hte : ∀ x ∈ c.exceptionTable.toList, False) (hlk : meth.locks = false) :
    W p l e R s m args below meth c s.heap [] 0 0 (vx_MQ below Qc (XE E) args s 1 6 (fun _ => False)) (F0 m pc ls st0) :=
  zx_go (vx_runV S hM cw ⟨zPt.blind g _ _, hr, fun U hU hW => ⟨rfl, by rw [hU]; exact hP, hK.warm hW, hT.warm hW hU⟩⟩ rfl hn hsize hst (lv_room hW) hdg (by omega)) hte hlk
theorem zx_S {Qc : Array Value → State → Outcome → State → Prop} {E : String} {y : MethodName} {bytes : ByteArray} {maxL nL n index : Nat} {ret : Option FieldType} {ws : List Cond} {rm : Room} {Ts : List Cond} {own : String} {As st0 : List Value} {g : gG} {P : Heap → Prop}
    (S : CallFix p m c cc nL s args Ts own) (hM : XT l y ws rm g As P E) (cw : CallB R s args own index y bytes maxL ret ws rm 1 6 n ∧ (Cond.static y).before args s = true) (hP : P s.heap) (hK : KK g s) (hT : TW s)
    (hn : As.length = n) (hsize : ls.size = nL) (hst : st0 = As.reverse ++ rest) (hW : (rest.map fun v => v.category).sum ≤ 8) (hdg : decode cc pc = .ok (.invokestatic index, 3)) (hf : 1 ≤ R.cells ∧ 6 ≤ R.slots) (hte : ∀ x ∈ c.exceptionTable.toList, False) (hlk : meth.locks = false) :
    W p l e R s m args below meth c s.heap [] 0 0 (vx_MQ below Qc (XE E) args s 1 6 (fun _ => False)) (F0 m pc ls st0) :=
  zx_go (vx_runS S hM cw ⟨zPt.blind g _ _, fun U hU hW => ⟨rfl, by rw [hU]; exact hP, hK.warm hW, hT.warm hW hU⟩⟩ rfl hn hsize hst (lv_room hW) hdg (by omega)) hte hlk
end ZX
