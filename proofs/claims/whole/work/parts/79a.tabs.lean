/-! ===== the law's start: what the tables and the Statement give ===== -/
theorem TWl : ∀ w ∈ TWb, w ∈ lw_tbl := by decide +kernel
theorem nwl : ∀ w ∈ nwL, w ∈ lw_tbl := by decide +kernel
theorem nwo : ∀ w ∈ nwL, w.onTables = true := by decide +kernel
def tx15 : List (Nat × String) := [(102, "the versions have no base"), (108, "both versions are the same"), (116, "no such rule"), (119, "weight is out of range"), (121, "mark is out of range"), (169, "no such version"), (171, "no such copy"), (173, "no such voice"), (175, "no such bar"), (178, "the version has not as many bars"), (180, "there are 30 versions"), (185, "there are 20 copies"), (44, "bars is out of range"), (83, "note is out of range"), (87, "the version cannot be changed")]
theorem txl : ∀ q ∈ tx15, Cond.stringRef RX3 q.1 q.2 ∈ lw_tbl := by decide +kernel
theorem txk : ∀ k ∈ TWk, ∃ q ∈ tx15, q.1 = k := by decide +kernel
theorem lzU : Cond.laysStatic Bundle.tN "UNASSIGNED_STACK" Bundle.steD ∈ lw_tbl := by decide +kernel
theorem lzN : Cond.laysStatic Bundle.tN "SUPPRESSED_SENTINEL" Bundle.listD ∈ lw_tbl := by decide +kernel
theorem lzI : Cond.initialized Bundle.tN ∈ lw_tbl := by decide +kernel
theorem lzV : Cond.arrayOver (.object RX2) ∈ lw_tbl := by decide +kernel
theorem lzC : Cond.arrayOver (.object RX0) ∈ lw_tbl := by decide +kernel
theorem lzi : Cond.arrayClass .int ∈ lw_tbl := by decide +kernel
theorem lzb : Cond.arrayClass .boolean ∈ lw_tbl := by decide +kernel
theorem lf1 : Cond.isRef (.static Bundle.tN "UNASSIGNED_STACK" Bundle.steD) ∈ flatC (Jvm.Cond.and given_1 narrow_1) := by decide +kernel
theorem lf2 : Cond.isRef (.static Bundle.tN "SUPPRESSED_SENTINEL" Bundle.listD) ∈ flatC (Jvm.Cond.and given_1 narrow_1) := by decide +kernel
theorem lf3 : Cond.not (.castable eA eI) ∈ flatC (Jvm.Cond.and given_1 narrow_1) := by decide +kernel
theorem lf4 : Cond.not (.castable eS eI) ∈ flatC (Jvm.Cond.and given_1 narrow_1) := by decide +kernel
theorem lf5 : Cond.not (.castable eS eA) ∈ flatC (Jvm.Cond.and given_1 narrow_1) := by decide +kernel
theorem TW.of {A : Array Value} {s : State} (hts : ∀ w ∈ lw_tbl, w.before A s = true) (hg : (Jvm.Cond.and given_1 narrow_1).before A s = true) {cc : ClassId} (hcc : s.vm.findClass RX3 = some cc) : TW s := by
  have hf := flat_of_before _ hg
  refine ⟨vx_Zqof (hts _ lzU) (hts _ lzI) (hf _ lf1) (fun a h1 h2 => absurd h1 (Nat.not_lt.mpr h2)), vx_Zqof (hts _ lzN) (hts _ lzI) (hf _ lf2) (fun a h1 h2 => absurd h1 (Nat.not_lt.mpr h2)), fun k hk => ?_, fun w hw => va_tabs (TWb.tab w hw) rfl (hts w (TWl w hw))⟩
  obtain ⟨q, hq, rfl⟩ := txk k hk
  have h1 := hts _ (txl q hq)
  have h2 : (Cond.stringRef RX3 q.1 q.2).before #[] s = true := by
    first
      | exact va_tabs rfl rfl h1
      | (simp only [Cond.before, Cond.holds, Cond.value] at h1 ⊢; exact h1)
  obtain ⟨_, _, _, a, _, _, _, _, _, hev⟩ := Cond.stringRef_spec hcc h2
  exact ⟨q.2, a, vk_R.of h2 hev⟩
theorem NC.of {A : Array Value} {s : State} (hg : (Jvm.Cond.and given_1 narrow_1).before A s = true) : NC s := by
  have hf := flat_of_before _ hg
  exact ⟨va_Nc.of (hf _ lf3), va_Nc.of (hf _ lf4), va_Nc.of (hf _ lf5)⟩
theorem arr_I {A : Array Value} {s : State} (h : (Cond.arrayClass .int).before A s = true) : ∃ cA : ClassId, ArrOfT s cA .int ∧ va_RA s cA .int := by
  obtain ⟨c, k, comp, h1, h2, h3⟩ := Cond.arrayClass_spec h
  exact ⟨c, fun n z => ⟨(fun k h => by cases h), k, h2, comp, h3⟩, h1⟩
theorem arr_B {A : Array Value} {s : State} (h : (Cond.arrayClass .boolean).before A s = true) : ∃ cA : ClassId, ArrOfT s cA .boolean ∧ va_RA s cA .boolean := by
  obtain ⟨c, k, comp, h1, h2, h3⟩ := Cond.arrayClass_spec h
  exact ⟨c, fun n z => ⟨(fun k h => by cases h), k, h2, comp, h3⟩, h1⟩
theorem arr_O {A : Array Value} {s : State} {C : String} (h : (Cond.arrayOver (.object C)).before A s = true) : ∃ cA : ClassId, ArrOfT s cA (.object C) ∧ va_RA s cA (.object C) := by
  obtain ⟨comp, c, k, f1, f2, f3, f4, f5⟩ := Cond.arrayOver_spec h
  exact ⟨c, fun n z => ⟨(fun k h => by cases h), k, f3, comp, f4⟩, k, comp, f3, f4, f1, f5⟩
theorem ux0 : ∀ w ∈ u_ws RX0 TX0 4, w ∈ wsX00 := by decide +kernel
theorem ux1 : ∀ w ∈ u_ws RX1 TX1 3, w ∈ wsX10 := by decide +kernel
theorem ux2 : ∀ w ∈ u_ws RX2 TX2 5, w ∈ wsX20 := by decide +kernel
theorem ux3 : ∀ w ∈ u_ws RX3 TX3 7, w ∈ wsX30 := by decide +kernel
theorem ux4 : ∀ w ∈ u_ws RX4 TX4 14, w ∈ wsX40 := by decide +kernel
theorem lm0 : Cond.instantiable RX0 4 ∈ lw_tbl := by decide +kernel
theorem lm1 : Cond.instantiable RX1 3 ∈ lw_tbl := by decide +kernel
theorem lm2 : Cond.instantiable RX2 5 ∈ lw_tbl := by decide +kernel
theorem lm3 : Cond.instantiable RX3 7 ∈ lw_tbl := by decide +kernel
theorem lm4 : Cond.instantiable RX4 14 ∈ lw_tbl := by decide +kernel
theorem KK.of {A : Array Value} {s : State} (hts : ∀ w ∈ lw_tbl, w.before A s = true) : ∃ g : gG, KK g s := by
  obtain ⟨c0, i0, k0⟩ := u_known (C := RX0) (T := TX0) (N := 4) (n := 4) hts (fun w hw => inX0 w (ux0 w hw)) (hts _ lm0)
  obtain ⟨c1, i1, k1⟩ := u_known (C := RX1) (T := TX1) (N := 3) (n := 3) hts (fun w hw => inX1 w (ux1 w hw)) (hts _ lm1)
  obtain ⟨c2, i2, k2⟩ := u_known (C := RX2) (T := TX2) (N := 5) (n := 5) hts (fun w hw => inX2 w (ux2 w hw)) (hts _ lm2)
  obtain ⟨c3, i3, k3⟩ := u_known (C := RX3) (T := TX3) (N := 7) (n := 7) hts (fun w hw => inX3 w (ux3 w hw)) (hts _ lm3)
  obtain ⟨c4, i4, k4⟩ := u_known (C := RX4) (T := TX4) (N := 14) (n := 14) hts (fun w hw => inX4 w (ux4 w hw)) (hts _ lm4)
  obtain ⟨cI, aI⟩ := arr_I (hts _ lzi)
  obtain ⟨cB, aB⟩ := arr_B (hts _ lzb)
  obtain ⟨cV, aV⟩ := arr_O (hts _ lzV)
  obtain ⟨cC, aC⟩ := arr_O (hts _ lzC)
  refine ⟨((fun c => match c with | 0 => c0 | 1 => c1 | 2 => c2 | 3 => c3 | _ => c4, fun c => match c with | 0 => i0 | 1 => i1 | 2 => i2 | 3 => i3 | _ => i4), cI, cB, cV, cC), ⟨fun c q hq => ?_, fun k q hq => ?_⟩, fun w hw => va_Nw.of (nwo w hw) (hts w (nwl w hw))⟩
  · have hl : c < 5 := (List.getElem?_eq_some_iff.mp hq).1
    rcases (show c = 0 ∨ c = 1 ∨ c = 2 ∨ c = 3 ∨ c = 4 by omega) with rfl | rfl | rfl | rfl | rfl
    · cases hq; exact k0
    · cases hq; exact k1
    · cases hq; exact k2
    · cases hq; exact k3
    · cases hq; exact k4
  · have hl : k < 4 := (List.getElem?_eq_some_iff.mp hq).1
    rcases (show k = 0 ∨ k = 1 ∨ k = 2 ∨ k = 3 by omega) with rfl | rfl | rfl | rfl
    · cases hq; exact aI
    · cases hq; exact aB
    · cases hq; exact aV
    · cases hq; exact aC
