/-! ===== a throw by the Desk ===== -/
section ZT
variable {p : Program} {l : Launch} {e : Env} {R : Room} {s : State} {m : MethodId} {args : Array Value} {below : List Frame} {meth : Method} {c : Code}
variable {cc : ByteArray} {pc : Nat} {ls : Array Slot} {rest : List Value}
theorem z_thr {Qc : Array Value → State → Outcome → State → Prop} {E : String} {ik is ic nL : Nat} {lv : List (Nat × Value)} (hx : p.tables.exec = Jvm.exec) (hb : c.code = cc) (hfl : l.stackTraces = false) (hml : c.maxLocals = nL) (hl : lv_has ls nL lv) (hown : s.vm.findClass RX3 = some m.cls) (hE : Bundle.fit E = true) (hlk : meth.locks = false) (hte : ∀ x ∈ c.exceptionTable.toList, False)
    (hT : TW s) (hk : is ∈ TWk) (hcl : (Cond.classLink RX3 ik E).before args s = true) (hini : (Cond.initialized E).before args s = true) (h1 : ∀ w ∈ (vx_atS RX3 ic E nTH).filter goodWord, w.before args s = true) (h2 : ∀ w ∈ (vx_atS RX3 ic E nTH).filter (fun w => !goodWord w), w ∈ TWb) (hg : ∀ w ∈ Cond.classLink RX3 ik E :: Cond.initialized E :: vx_atS RX3 ic E nTH, vx_ot w = true)
    (d0 : decode cc pc = .ok (.new ik, 3)) (d3 : decode cc (pc + 3) = .ok (.dup, 1)) (d4 : decode cc (pc + 4) = .ok (.ldc is, 2)) (d6 : decode cc (pc + 6) = .ok (.invokespecial ic, 3)) (d9 : decode cc (pc + 9) = .ok (.athrow, 1))
    (hR : 6 ≤ R.frames ∧ 90 ≤ R.locals ∧ 1 ≤ R.cells ∧ 6 ≤ R.slots) (hrest : rest = []) :
    W p l e R s m args below meth c s.heap [] 0 0 (vx_MQ below Qc (XE E) args s 1 6 (fun _ => False)) (F0 m pc ls rest) := by
  subst hrest
  obtain ⟨t, sa, hs⟩ := hT.2.2.1 is hk
  exact vx_throwS (A := fun q => s.heap.size ≤ q) (names := nTH) hx hb hfl hown hE TW.fit hcl hini hs (hT.hat h1 h2) hg hT.1 hT.2.1 va_S.rf (hl.1.trans hml.symm) d0 d3 d4 d6 d9 (fun x hx => (hte x hx).elim) (by show 2 + 3 < R.frames; omega) (by show 0 + (13 * (2 + 1) + 43) ≤ R.locals; omega) (by omega) (by omega) hlk (fun t _ h1 h2 => ⟨rfl, h1, fun q hq _ => h2 q hq⟩) (fun z hz => by cases hz) (by omega) (by omega)
end ZT
theorem TW.h2I : ∀ w ∈ (vx_atS RX3 118 eI nTH).filter (fun w => !goodWord w), w ∈ TWb := by decide +kernel
theorem TW.hgI : ∀ w ∈ Cond.classLink RX3 114 eI :: Cond.initialized eI :: vx_atS RX3 118 eI nTH, vx_ot w = true := by decide +kernel
set_option maxHeartbeats 4000000 in
set_option maxRecDepth 100000 in
theorem c_X3_findVersion_x (l : Launch) (hfl : l.stackTraces = false) (g : gG) (σ : SG) (a : AD) (hW : WF σ) (z : Int) (hz : zr z) (hbad : ¬ (0 ≤ z ∧ z < σ 0 0)) : XT l yX3_findVersion wsX3_findVersion ({ frames := 6, cells := 1, slots := 6, locals := 90 }) g [.ref (a 1 0), .int (zi z)] (DI g σ a) eI := by
  refine ZT.ofW (cc := cX3_findVersion) (maxL := 3) (ret := (some (.object "HarmoniumDesk$Version"))) (by decide) rfl (Nat.le_of_ble_eq_true rfl) ?_
  intro p e s m below meth c ls hx hb hr hml hown hts hlk hte hP hK hT hl
  have hown : s.vm.findClass RX3 = some m.cls := hown
  have hl : lv_has ls 3 [(0, .ref (a 1 0)), (1, .int (zi z))] := hl
  have hiX3 : ∀ w ∈ u_ws RX3 TX3 7, w ∈ wsX3_findVersion := by decide +kernel
  have hn := hW.n
  have h1g : ∀ w ∈ (vx_atS RX3 118 eI nTH).filter goodWord, w.before ([.ref (a 1 0), .int (zi z)] : List Value).toArray s = true := fun w hw => hts w (List.mem_cons_of_mem _ (List.mem_append_right _ hw))
  have hcl := hts (.classLink RX3 114 eI) (by decide +kernel)
  have hini := hts (.initialized eI) (by decide +kernel)
  refine lv_iload_n hx hb dX3_findVersion_0 rfl (lv_at hl 1 rfl) ?_
  refine z_if_lt (tgt := 13) hx hb dX3_findVersion_1 (by decide) hz (fun h1 => ?_) (fun h1 => ?_)
  · exact z_thr hx hb hfl hml hl hown (by decide +kernel) hlk hte hT (is := 169) (by decide) hcl hini h1g TW.h2I TW.hgI dX3_findVersion_13 dX3_findVersion_16 dX3_findVersion_17 dX3_findVersion_19 dX3_findVersion_22 (by decide) rfl
  · refine lv_iload_n hx hb dX3_findVersion_4 rfl (lv_at hl 1 rfl) ?_
    refine lv_aload_n hx hb dX3_findVersion_5 rfl (lv_at hl 0 rfl) ?_
    refine z_get (C := RX3) (T := TX3) (N := 7) hx hb hts hiX3 hown hK hP.ob rfl 0 (by decide) (hts (.fieldLink RX3 11 "HarmoniumDesk" "versions" "[LHarmoniumDesk$Version;") (by decide +kernel)) rfl rfl dX3_findVersion_6 ?_
    refine z_alen hx hb hK hP.vs 2 rfl dX3_findVersion_9 ?_
    refine z_icmp_lt (tgt := 23) hx hb dX3_findVersion_10 (by decide) hz (by omega) (fun h10 => ?_) (fun h10 => ?_)
    · refine lv_aload_n hx hb dX3_findVersion_23 rfl (lv_at hl 0 rfl) ?_
      refine z_get (C := RX3) (T := TX3) (N := 7) hx hb hts hiX3 hown hK hP.ob rfl 0 (by decide) (hts (.fieldLink RX3 11 "HarmoniumDesk" "versions" "[LHarmoniumDesk$Version;") (by decide +kernel)) rfl rfl dX3_findVersion_24 ?_
      refine lv_iload_n hx hb dX3_findVersion_27 rfl (lv_at hl 1 rfl) ?_
      refine z_aldq hx hb hK hP.vs 2 rfl z.toNat (by omega) (by omega) (by decide) (o := none) (if_neg (by omega)) dX3_findVersion_28 ?_
      refine lv_astore_nN (lv' := [(2, .null), (0, .ref (a 1 0)), (1, .int (zi z))]) hx hb dX3_findVersion_29 rfl hl (by decide) rfl (fun ls hl => ?_)
      refine lv_aload_nN hx hb dX3_findVersion_30 rfl (lv_at hl 0 rfl) ?_
      refine lv_ifnonnullN hx hb dX3_findVersion_31 ?_
      exact z_thr hx hb hfl hml hl hown (by decide +kernel) hlk hte hT (is := 169) (by decide) hcl hini h1g TW.h2I TW.hgI dX3_findVersion_34 dX3_findVersion_37 dX3_findVersion_38 dX3_findVersion_40 dX3_findVersion_43 (by decide) rfl
    · exact z_thr hx hb hfl hml hl hown (by decide +kernel) hlk hte hT (is := 169) (by decide) hcl hini h1g TW.h2I TW.hgI dX3_findVersion_13 dX3_findVersion_16 dX3_findVersion_17 dX3_findVersion_19 dX3_findVersion_22 (by decide) rfl
