/-! ===== numbers: every int is zi of a whole number ===== -/
def zi (z : Int) : Int32 := Int32.ofInt z
abbrev zr (z : Int) : Prop := -2147483648 ≤ z ∧ z ≤ 2147483647
theorem zi_add (a b : Int) : zi a + zi b = zi (a + b) := (Int32.ofInt_add a b).symm
theorem zi_sub (a b : Int) : zi a - zi b = zi (a - b) := (Int32.ofInt_sub a b).symm
theorem zi_mul (a b : Int) : zi a * zi b = zi (a * b) := (Int32.ofInt_mul a b).symm
theorem zi_of (x : Int32) : x = zi x.toInt := (Int32.ofInt_toInt x).symm
theorem zi_rg (x : Int32) : zr x.toInt := ⟨by have := x.le_toInt; omega, by have := x.toInt_lt; omega⟩
theorem zi_toInt {z : Int} (h : zr z) : (zi z).toInt = z := Int32.toInt_ofInt_of_le (by omega) (by omega)
theorem zi_lt {a b : Int} (ha : zr a) (hb : zr b) : zi a < zi b ↔ a < b := by rw [Int32.lt_iff_toInt_lt, zi_toInt ha, zi_toInt hb]
theorem zi_le {a b : Int} (ha : zr a) (hb : zr b) : zi a ≤ zi b ↔ a ≤ b := by rw [Int32.le_iff_toInt_le, zi_toInt ha, zi_toInt hb]
theorem zi_eq {a b : Int} (ha : zr a) (hb : zr b) : zi a = zi b ↔ a = b := by rw [← Int32.toInt_inj, zi_toInt ha, zi_toInt hb]
theorem zi_0 : (0 : Int32) = zi 0 := rfl
theorem zi_1 : (1 : Int32) = zi 1 := rfl
theorem zr_0 : zr 0 := ⟨by decide, by decide⟩
theorem zi_ofNat (n : Nat) : Int32.ofNat n = zi n := Int32.ofInt_eq_ofNat.symm
theorem zi_ix {i : Nat} (h : i < 2147483648) : (zi (i : Int)).toNatClampNeg = i := by
  rw [← zi_ofNat]; exact Int32.toNatClampNeg_ofNat_of_lt (by omega)
theorem zi_in {i n : Nat} (h : i < n) (hn : n < 2147483648) : vp_in (zi (i : Int)) n := by
  rw [vp_in_iff, zi_toInt ⟨by omega, by omega⟩]; omega
theorem zi_ne0 {b : Int} (h : zr b) (h0 : b ≠ 0) : ¬ zi b = 0 := fun e => h0 ((zi_eq h zr_0).mp e)
theorem zi_div {a b : Int} (ha : zr a) (h0 : 0 ≤ a) (hb : 0 < b) (hr : zr b) : zi a / zi b = zi (a / b) := by
  have hq : zr (a / b) := by
    have h1 : 0 ≤ a / b := Int.ediv_nonneg h0 (by omega)
    have h2 : a / b ≤ a := Int.ediv_le_self b h0
    omega
  rw [← Int32.toInt_inj, zi_toInt hq, Int32.toInt_div_of_ne_right, zi_toInt ha, zi_toInt hr, Int.tdiv_eq_ediv_of_nonneg h0]
  intro e
  have := congrArg Int32.toInt e
  rw [zi_toInt hr] at this
  have h1 : (-1 : Int32).toInt = -1 := by decide
  omega
theorem zi_rem {a b : Int} (ha : zr a) (h0 : 0 ≤ a) (hb : 0 < b) (hr : zr b) : zi a - zi a / zi b * zi b = zi (a % b) := by
  rw [zi_div ha h0 hb hr, zi_mul, zi_sub, Int.emod_def, Int.mul_comm (a / b) b]
abbrev pz (P : Prop) [Decidable P] : Int := if P then 1 else 0
theorem pz_r (P : Prop) [Decidable P] : zr (pz P) := by unfold pz; split <;> decide
theorem pz_0 (P : Prop) [Decidable P] : pz P = 0 ↔ ¬ P := by unfold pz; split <;> simp_all
theorem pz_n0 (P : Prop) [Decidable P] : ¬ pz P = 0 ↔ P := by unfold pz; split <;> simp_all
theorem pz_t {P : Prop} [Decidable P] (h : P) : pz P = 1 := if_pos h
theorem pz_f {P : Prop} [Decidable P] (h : ¬ P) : pz P = 0 := if_neg h
theorem pz_c {P Q : Prop} [Decidable P] [Decidable Q] (h : P ↔ Q) : pz P = pz Q := by unfold pz; by_cases hq : Q <;> simp [h, hq]
theorem zi_bool (P : Prop) [Decidable P] : narrow .boolean (.int (zi (pz P))) = .int (zi (pz P)) := by unfold pz; split <;> rfl
theorem zi_nar (P : Prop) [Decidable P] : vp_nar .boolean (zi (pz P)) = zi (pz P) := by unfold pz; split <;> rfl
/-! ===== the tables' part of every contract ===== -/
abbrev gG : Type := va_G × ClassId × ClassId × ClassId × ClassId
def nwL : List Cond := [.fieldLinkNest RX3 130 RX2 "passedWhenHandedIn" "Z" RX3, .fieldLinkNest RX3 136 RX1 "bars" "I" RX3, .fieldLinkNest RX3 166 RX0 "slipCount" "I" RX3, .fieldLinkNest RX3 177 RX0 "bars" "I" RX3, .fieldLinkNest RX3 194 RX2 "parent" "LHarmoniumDesk$Version;" RX3, .fieldLinkNest RX3 53 RX2 "score" "LHarmoniumDesk$Score;" RX3, .fieldLinkNest RX3 60 RX2 "number" "I" RX3, .fieldLinkNest RX3 71 RX2 "fixed" "Z" RX3, .fieldLinkNest RX0 22 RX1 "bars" "I" RX3, .methodLinkNest RX3 37 yX1_init RX3, .methodLinkNest RX2 9 yX1_init RX3]
def nwS (U : State) : Prop := ∀ w ∈ nwL, va_Nw w U
theorem nwS.same {u U : State} (h : u.vm = U.vm) (hZ : nwS u) : nwS U := by
  intro w hw
  have ht : w.onTables = true := by
    revert w
    decide
  exact va_Nw.same ht h (hZ w hw)
theorem nwS.warm {s U : State} (hW : s.WarmedH U.vm) (hZ : nwS s) : nwS U := by
  have h : ∀ w ∈ nwL, va_Nw w s → va_Nw w U := by
    simp only [nwL, List.forall_mem_cons]
    refine ⟨va_Nw.warmF hW, va_Nw.warmF hW, va_Nw.warmF hW, va_Nw.warmF hW, va_Nw.warmF hW, va_Nw.warmF hW, va_Nw.warmF hW, va_Nw.warmF hW, va_Nw.warmF hW, va_Nw.warmM hW, va_Nw.warmM hW, ?_⟩
    intro w hw
    cases hw
  exact fun w hw => h w hw (hZ w hw)
def KK (g : gG) (U : State) : Prop := va_K g.1 vwCl [(g.2.1, .int), (g.2.2.1, .boolean), (g.2.2.2.1, .object RX2), (g.2.2.2.2, .object RX0)] U ∧ nwS U
theorem KK.warm {g : gG} {s U : State} (hW : s.WarmedH U.vm) (h : KK g s) : KK g U := ⟨va_K.moved hW.alike h.1, nwS.warm hW h.2⟩
theorem KK.same {g : gG} {u U : State} (hv : u.vm = U.vm) (h : KK g u) : KK g U := ⟨va_K.moved (by rw [hv]; exact Vm.Alike.refl U.vm) h.1, nwS.same hv h.2⟩
theorem KK.calling {g : gG} {U : State} {f : JFrame} {mk : MethodId} {a : Array Value} (h : KK g U) : KK g (U.calling f mk a) := KK.same (u := U) rfl h
/-- a picture of the heap, and the tables -/
abbrev zPc (g : gG) (av : List Value) (P : Heap → Prop) : Array Value → State → Prop := va_Pc av (fun U => P U.heap ∧ KK g U)
theorem zPc.blind (g : gG) (av : List Value) (P : Heap → Prop) : FrameBlind (zPc g av P) := fun _ _ _ _ h => ⟨h.1, h.2.1, KK.calling h.2.2⟩
/-- a method that reads alone, and answers an int -/
abbrev RO (l : Launch) (y : MethodName) (ws : List Cond) (rm : Room) (g : gG) (av : List Value) (P : Heap → Prop) (v : Int) : Prop :=
  Met l y ws rm (zPc g av P) (vp_Si (fun r => r = zi v)) 0 0 (fun _ => False)
theorem ZM.ofW {l : Launch} {y : MethodName} {ws ws' : List Cond} {rm : Room} {g : gG} {av : List Value} {P : Heap → Prop} {Qc : Array Value → State → Outcome → State → Prop} {mc ms : Nat} {free : Addr → Prop} {cc : ByteArray} {maxL : Nat} {ret : Option FieldType} (hy : plainName y.cls = true) (hw : ws = Cond.code y cc maxL ret :: ws') (hn : (lg_sl av).length ≤ maxL)
    (body : ∀ (p : Program) (e : Env) (s : State) (m : MethodId) (below : List Frame) (meth : Method) (c : Code) (ls : Array Slot), p.tables.exec = Jvm.exec → c.code = cc → meth.sig.returnType = ret → c.maxLocals = maxL → s.vm.findClass y.cls = some m.cls → (∀ w ∈ ws, w.before av.toArray s = true) → meth.locks = false → P s.heap → KK g s → lv_has ls maxL (lv_args 0 av) → (y.name = "<init>" → meth.name = "<init>") →
      W p l e rm s m av.toArray below meth c s.heap [] 0 0 (MQ below Qc av.toArray s mc ms free) (F0 m 0 ls [])) : Met l y ws rm (zPc g av P) Qc mc ms free := by
  refine Met.ofW hy hw ?_
  intro p e s m args below meth c s₁ B hml hv
  obtain ⟨rfl, hP, hK⟩ := hv
  have hl := lv_entry av (n := maxL) hn
  rw [lg_entry_eq]
  exact body p e s m below meth c _ B.exec B.bytes B.returns hml (findClass_of_methodNamed B.named) (atoms_spec (ws := ws) B.pre) B.notSynchronized hP hK hl (fun h => by rw [← h]; exact (name_of_methodNamed B.named B.method).1)
theorem RO.ofW {l : Launch} {y : MethodName} {ws ws' : List Cond} {rm : Room} {g : gG} {av : List Value} {P : Heap → Prop} {v : Int} {cc : ByteArray} {maxL : Nat} {ret : Option FieldType} (hy : plainName y.cls = true) (hw : ws = Cond.code y cc maxL ret :: ws') (hn : (lg_sl av).length ≤ maxL)
    (body : ∀ (p : Program) (e : Env) (s : State) (m : MethodId) (below : List Frame) (meth : Method) (c : Code) (ls : Array Slot), p.tables.exec = Jvm.exec → c.code = cc → meth.sig.returnType = ret → c.maxLocals = maxL → s.vm.findClass y.cls = some m.cls → (∀ w ∈ ws, w.before av.toArray s = true) → meth.locks = false → P s.heap → KK g s → lv_has ls maxL (lv_args 0 av) →
      W p l e rm s m av.toArray below meth c s.heap [] 0 0 (MQ below (vp_Si (fun r => r = zi v)) av.toArray s 0 0 (fun _ => False)) (F0 m 0 ls [])) : RO l y ws rm g av P v :=
  ZM.ofW hy hw hn (fun p e s m below meth c ls a1 a2 a3 a4 a5 a6 a7 a8 a9 a10 _ => body p e s m below meth c ls a1 a2 a3 a4 a5 a6 a7 a8 a9 a10)
section ZR
variable {p : Program} {l : Launch} {e : Env} {R : Room} {s : State} {m : MethodId} {args : Array Value} {below : List Frame} {meth : Method} {c : Code} {H : Heap} {locs : List Loc} {cells slots : Nat} {Q : State → Prop}
variable {cc : ByteArray} {pc : Nat} {ls : Array Slot} {rest : List Value}
theorem z_iconst (hx : p.tables.exec = Jvm.exec) (hb : c.code = cc) {n : Int} (hdg : decode cc pc = .ok (.iconst n, 1)) (k : W p l e R s m args below meth c H locs cells slots Q (F0 m (pc + 1) ls (.int (zi n) :: rest))) : W p l e R s m args below meth c H locs cells slots Q (F0 m pc ls rest) := lv_iconst hx hb hdg rfl k
theorem z_bipush (hx : p.tables.exec = Jvm.exec) (hb : c.code = cc) {n : Int} (hdg : decode cc pc = .ok (.bipush n, 2)) (hv : (Int8.ofInt n).toInt32 = zi n) (k : W p l e R s m args below meth c H locs cells slots Q (F0 m (pc + 2) ls (.int (zi n) :: rest))) : W p l e R s m args below meth c H locs cells slots Q (F0 m pc ls rest) := lv_bipush hx hb hdg hv k
theorem z_sipush (hx : p.tables.exec = Jvm.exec) (hb : c.code = cc) {n : Int} (hdg : decode cc pc = .ok (.sipush n, 3)) (hv : (Int16.ofInt n).toInt32 = zi n) (k : W p l e R s m args below meth c H locs cells slots Q (F0 m (pc + 3) ls (.int (zi n) :: rest))) : W p l e R s m args below meth c H locs cells slots Q (F0 m pc ls rest) := lv_sipush hx hb hdg hv k
theorem z_iadd (hx : p.tables.exec = Jvm.exec) (hb : c.code = cc) {a b : Int} (hdg : decode cc pc = .ok (.iadd, 1)) (k : W p l e R s m args below meth c H locs cells slots Q (F0 m (pc + 1) ls (.int (zi (a + b)) :: rest))) : W p l e R s m args below meth c H locs cells slots Q (F0 m pc ls (.int (zi b) :: .int (zi a) :: rest)) := lv_iadd hx hb hdg (by rw [zi_add]; exact k)
theorem z_isub (hx : p.tables.exec = Jvm.exec) (hb : c.code = cc) {a b : Int} (hdg : decode cc pc = .ok (.isub, 1)) (k : W p l e R s m args below meth c H locs cells slots Q (F0 m (pc + 1) ls (.int (zi (a - b)) :: rest))) : W p l e R s m args below meth c H locs cells slots Q (F0 m pc ls (.int (zi b) :: .int (zi a) :: rest)) := lv_isub hx hb hdg (by rw [zi_sub]; exact k)
theorem z_imul (hx : p.tables.exec = Jvm.exec) (hb : c.code = cc) {a b : Int} (hdg : decode cc pc = .ok (.imul, 1)) (k : W p l e R s m args below meth c H locs cells slots Q (F0 m (pc + 1) ls (.int (zi (a * b)) :: rest))) : W p l e R s m args below meth c H locs cells slots Q (F0 m pc ls (.int (zi b) :: .int (zi a) :: rest)) := lv_imul hx hb hdg (by rw [zi_mul]; exact k)
theorem z_irem (hx : p.tables.exec = Jvm.exec) (hb : c.code = cc) {a b : Int} (ha : zr a) (h0 : 0 ≤ a) (hb0 : 0 < b) (hr : zr b) (hdg : decode cc pc = .ok (.irem, 1)) (k : W p l e R s m args below meth c H locs cells slots Q (F0 m (pc + 1) ls (.int (zi (a % b)) :: rest))) : W p l e R s m args below meth c H locs cells slots Q (F0 m pc ls (.int (zi b) :: .int (zi a) :: rest)) := lv_irem hx hb hdg (zi_ne0 hr (by omega)) (by rw [zi_rem ha h0 hb0 hr]; exact k)
theorem z_idiv (hx : p.tables.exec = Jvm.exec) (hb : c.code = cc) {a b : Int} (ha : zr a) (h0 : 0 ≤ a) (hb0 : 0 < b) (hr : zr b) (hdg : decode cc pc = .ok (.idiv, 1)) (k : W p l e R s m args below meth c H locs cells slots Q (F0 m (pc + 1) ls (.int (zi (a / b)) :: rest))) : W p l e R s m args below meth c H locs cells slots Q (F0 m pc ls (.int (zi b) :: .int (zi a) :: rest)) := lv_idiv hx hb hdg (zi_ne0 hr (by omega)) (by rw [zi_div ha h0 hb0 hr]; exact k)
/-- the top under another name -/
theorem z_top {a b : Int} (h : a = b) (k : W p l e R s m args below meth c H locs cells slots Q (F0 m pc ls (.int (zi b) :: rest))) : W p l e R s m args below meth c H locs cells slots Q (F0 m pc ls (.int (zi a) :: rest)) := by rw [h]; exact k
theorem z_iinc (hx : p.tables.exec = Jvm.exec) (hb : c.code = cc) {i nL k : Nat} {n a b : Int} {lv lv' : List (Nat × Value)} (hdg : decode cc pc = .ok (.iinc i n, 3)) (h : lv_has ls nL lv) (hk : lv[k]? = some (i, .int (zi a))) (hv : a + n = b) (hn : i < nL) (hl : (i, Value.int (zi b)) :: lv.filter (fun q => !(q.1 == i) && !(q.1 + 1 == i && q.2.category == 2)) = lv')
    (kk : ∀ ls' : Array Slot, lv_has ls' nL lv' → W p l e R s m args below meth c H locs cells slots Q (F0 m (pc + 3) ls' rest)) : W p l e R s m args below meth c H locs cells slots Q (F0 m pc ls rest) :=
  lv_iinc hx hb hdg h hk (by rw [← hv]; exact zi_add a n) hn hl kk
theorem z_if_eq (hx : p.tables.exec = Jvm.exec) (hb : c.code = cc) {a : Int} {off : Int} {tgt : Nat} (hdg : decode cc pc = .ok (.ifCond .eq off, 3)) (ht : (pc : Int) + off = (tgt : Int)) (hr : zr a) (kt : a = 0 → W p l e R s m args below meth c H locs cells slots Q (F0 m tgt ls rest)) (kf : ¬ a = 0 → W p l e R s m args below meth c H locs cells slots Q (F0 m (pc + 3) ls rest)) : W p l e R s m args below meth c H locs cells slots Q (F0 m pc ls (.int (zi a) :: rest)) := lv_if_eq hx hb hdg ht (fun h => kt ((zi_eq hr zr_0).mp h)) (fun h => kf (fun z => h ((zi_eq hr zr_0).mpr z)))
theorem z_icmp_eq (hx : p.tables.exec = Jvm.exec) (hb : c.code = cc) {a b : Int} {off : Int} {tgt : Nat} (hdg : decode cc pc = .ok (.if_icmp .eq off, 3)) (ht : (pc : Int) + off = (tgt : Int)) (hr : zr a) (hr2 : zr b) (kt : a = b → W p l e R s m args below meth c H locs cells slots Q (F0 m tgt ls rest)) (kf : ¬ a = b → W p l e R s m args below meth c H locs cells slots Q (F0 m (pc + 3) ls rest)) : W p l e R s m args below meth c H locs cells slots Q (F0 m pc ls (.int (zi b) :: .int (zi a) :: rest)) := lv_icmp_eq hx hb hdg ht (fun h => kt ((zi_eq hr hr2).mp h)) (fun h => kf (fun z => h ((zi_eq hr hr2).mpr z)))
theorem z_if_ne (hx : p.tables.exec = Jvm.exec) (hb : c.code = cc) {a : Int} {off : Int} {tgt : Nat} (hdg : decode cc pc = .ok (.ifCond .ne off, 3)) (ht : (pc : Int) + off = (tgt : Int)) (hr : zr a) (kt : ¬ a = 0 → W p l e R s m args below meth c H locs cells slots Q (F0 m tgt ls rest)) (kf : a = 0 → W p l e R s m args below meth c H locs cells slots Q (F0 m (pc + 3) ls rest)) : W p l e R s m args below meth c H locs cells slots Q (F0 m pc ls (.int (zi a) :: rest)) := lv_if_ne hx hb hdg ht (fun h => kt (fun z => h ((zi_eq hr zr_0).mpr z))) (fun h => kf ((zi_eq hr zr_0).mp h))
theorem z_icmp_ne (hx : p.tables.exec = Jvm.exec) (hb : c.code = cc) {a b : Int} {off : Int} {tgt : Nat} (hdg : decode cc pc = .ok (.if_icmp .ne off, 3)) (ht : (pc : Int) + off = (tgt : Int)) (hr : zr a) (hr2 : zr b) (kt : ¬ a = b → W p l e R s m args below meth c H locs cells slots Q (F0 m tgt ls rest)) (kf : a = b → W p l e R s m args below meth c H locs cells slots Q (F0 m (pc + 3) ls rest)) : W p l e R s m args below meth c H locs cells slots Q (F0 m pc ls (.int (zi b) :: .int (zi a) :: rest)) := lv_icmp_ne hx hb hdg ht (fun h => kt (fun z => h ((zi_eq hr hr2).mpr z))) (fun h => kf ((zi_eq hr hr2).mp h))
theorem z_if_lt (hx : p.tables.exec = Jvm.exec) (hb : c.code = cc) {a : Int} {off : Int} {tgt : Nat} (hdg : decode cc pc = .ok (.ifCond .lt off, 3)) (ht : (pc : Int) + off = (tgt : Int)) (hr : zr a) (kt : a < 0 → W p l e R s m args below meth c H locs cells slots Q (F0 m tgt ls rest)) (kf : 0 ≤ a → W p l e R s m args below meth c H locs cells slots Q (F0 m (pc + 3) ls rest)) : W p l e R s m args below meth c H locs cells slots Q (F0 m pc ls (.int (zi a) :: rest)) := lv_if_lt hx hb hdg ht (fun h => kt ((zi_lt hr zr_0).mp h)) (fun h => kf (Int.not_lt.mp (fun z => h ((zi_lt hr zr_0).mpr z))))
theorem z_icmp_lt (hx : p.tables.exec = Jvm.exec) (hb : c.code = cc) {a b : Int} {off : Int} {tgt : Nat} (hdg : decode cc pc = .ok (.if_icmp .lt off, 3)) (ht : (pc : Int) + off = (tgt : Int)) (hr : zr a) (hr2 : zr b) (kt : a < b → W p l e R s m args below meth c H locs cells slots Q (F0 m tgt ls rest)) (kf : b ≤ a → W p l e R s m args below meth c H locs cells slots Q (F0 m (pc + 3) ls rest)) : W p l e R s m args below meth c H locs cells slots Q (F0 m pc ls (.int (zi b) :: .int (zi a) :: rest)) := lv_icmp_lt hx hb hdg ht (fun h => kt ((zi_lt hr hr2).mp h)) (fun h => kf (Int.not_lt.mp (fun z => h ((zi_lt hr hr2).mpr z))))
theorem z_if_ge (hx : p.tables.exec = Jvm.exec) (hb : c.code = cc) {a : Int} {off : Int} {tgt : Nat} (hdg : decode cc pc = .ok (.ifCond .ge off, 3)) (ht : (pc : Int) + off = (tgt : Int)) (hr : zr a) (kt : 0 ≤ a → W p l e R s m args below meth c H locs cells slots Q (F0 m tgt ls rest)) (kf : a < 0 → W p l e R s m args below meth c H locs cells slots Q (F0 m (pc + 3) ls rest)) : W p l e R s m args below meth c H locs cells slots Q (F0 m pc ls (.int (zi a) :: rest)) := lv_if_ge hx hb hdg ht (fun h => kt ((zi_le zr_0 hr).mp h)) (fun h => kf (Int.not_le.mp (fun z => h ((zi_le zr_0 hr).mpr z))))
theorem z_icmp_ge (hx : p.tables.exec = Jvm.exec) (hb : c.code = cc) {a b : Int} {off : Int} {tgt : Nat} (hdg : decode cc pc = .ok (.if_icmp .ge off, 3)) (ht : (pc : Int) + off = (tgt : Int)) (hr : zr a) (hr2 : zr b) (kt : b ≤ a → W p l e R s m args below meth c H locs cells slots Q (F0 m tgt ls rest)) (kf : a < b → W p l e R s m args below meth c H locs cells slots Q (F0 m (pc + 3) ls rest)) : W p l e R s m args below meth c H locs cells slots Q (F0 m pc ls (.int (zi b) :: .int (zi a) :: rest)) := lv_icmp_ge hx hb hdg ht (fun h => kt ((zi_le hr2 hr).mp h)) (fun h => kf (Int.not_le.mp (fun z => h ((zi_le hr2 hr).mpr z))))
theorem z_if_gt (hx : p.tables.exec = Jvm.exec) (hb : c.code = cc) {a : Int} {off : Int} {tgt : Nat} (hdg : decode cc pc = .ok (.ifCond .gt off, 3)) (ht : (pc : Int) + off = (tgt : Int)) (hr : zr a) (kt : 0 < a → W p l e R s m args below meth c H locs cells slots Q (F0 m tgt ls rest)) (kf : a ≤ 0 → W p l e R s m args below meth c H locs cells slots Q (F0 m (pc + 3) ls rest)) : W p l e R s m args below meth c H locs cells slots Q (F0 m pc ls (.int (zi a) :: rest)) := lv_if_gt hx hb hdg ht (fun h => kt ((zi_lt zr_0 hr).mp h)) (fun h => kf (Int.not_lt.mp (fun z => h ((zi_lt zr_0 hr).mpr z))))
theorem z_icmp_gt (hx : p.tables.exec = Jvm.exec) (hb : c.code = cc) {a b : Int} {off : Int} {tgt : Nat} (hdg : decode cc pc = .ok (.if_icmp .gt off, 3)) (ht : (pc : Int) + off = (tgt : Int)) (hr : zr a) (hr2 : zr b) (kt : b < a → W p l e R s m args below meth c H locs cells slots Q (F0 m tgt ls rest)) (kf : a ≤ b → W p l e R s m args below meth c H locs cells slots Q (F0 m (pc + 3) ls rest)) : W p l e R s m args below meth c H locs cells slots Q (F0 m pc ls (.int (zi b) :: .int (zi a) :: rest)) := lv_icmp_gt hx hb hdg ht (fun h => kt ((zi_lt hr2 hr).mp h)) (fun h => kf (Int.not_lt.mp (fun z => h ((zi_lt hr2 hr).mpr z))))
theorem z_if_le (hx : p.tables.exec = Jvm.exec) (hb : c.code = cc) {a : Int} {off : Int} {tgt : Nat} (hdg : decode cc pc = .ok (.ifCond .le off, 3)) (ht : (pc : Int) + off = (tgt : Int)) (hr : zr a) (kt : a ≤ 0 → W p l e R s m args below meth c H locs cells slots Q (F0 m tgt ls rest)) (kf : 0 < a → W p l e R s m args below meth c H locs cells slots Q (F0 m (pc + 3) ls rest)) : W p l e R s m args below meth c H locs cells slots Q (F0 m pc ls (.int (zi a) :: rest)) := lv_if_le hx hb hdg ht (fun h => kt ((zi_le hr zr_0).mp h)) (fun h => kf (Int.not_le.mp (fun z => h ((zi_le hr zr_0).mpr z))))
theorem z_icmp_le (hx : p.tables.exec = Jvm.exec) (hb : c.code = cc) {a b : Int} {off : Int} {tgt : Nat} (hdg : decode cc pc = .ok (.if_icmp .le off, 3)) (ht : (pc : Int) + off = (tgt : Int)) (hr : zr a) (hr2 : zr b) (kt : a ≤ b → W p l e R s m args below meth c H locs cells slots Q (F0 m tgt ls rest)) (kf : b < a → W p l e R s m args below meth c H locs cells slots Q (F0 m (pc + 3) ls rest)) : W p l e R s m args below meth c H locs cells slots Q (F0 m pc ls (.int (zi b) :: .int (zi a) :: rest)) := lv_icmp_le hx hb hdg ht (fun h => kt ((zi_le hr hr2).mp h)) (fun h => kf (Int.not_le.mp (fun z => h ((zi_le hr hr2).mpr z))))
theorem z_ifp_eq (hx : p.tables.exec = Jvm.exec) (hb : c.code = cc) {P : Prop} [Decidable P] {off : Int} {tgt : Nat} (hdg : decode cc pc = .ok (.ifCond .eq off, 3)) (ht : (pc : Int) + off = (tgt : Int)) (kt : ¬ P → W p l e R s m args below meth c H locs cells slots Q (F0 m tgt ls rest)) (kf : P → W p l e R s m args below meth c H locs cells slots Q (F0 m (pc + 3) ls rest)) : W p l e R s m args below meth c H locs cells slots Q (F0 m pc ls (.int (zi (pz P)) :: rest)) := z_if_eq hx hb hdg ht (pz_r P) (fun h => kt ((pz_0 P).mp h)) (fun h => kf ((pz_n0 P).mp h))
theorem z_ifp_ne (hx : p.tables.exec = Jvm.exec) (hb : c.code = cc) {P : Prop} [Decidable P] {off : Int} {tgt : Nat} (hdg : decode cc pc = .ok (.ifCond .ne off, 3)) (ht : (pc : Int) + off = (tgt : Int)) (kt : P → W p l e R s m args below meth c H locs cells slots Q (F0 m tgt ls rest)) (kf : ¬ P → W p l e R s m args below meth c H locs cells slots Q (F0 m (pc + 3) ls rest)) : W p l e R s m args below meth c H locs cells slots Q (F0 m pc ls (.int (zi (pz P)) :: rest)) := z_if_ne hx hb hdg ht (pz_r P) (fun h => kt ((pz_n0 P).mp h)) (fun h => kf ((pz_0 P).mp h))
theorem z_one {D : va_G} {cl : List vw_C} {q : Nat × va_E} {H : Heap} (h : va_at D cl q H) : va_P D cl [q] H := by
  intro k q' hk
  match k, hk with
  | 0, hk => cases hk; exact h
  | k + 1, hk => simp at hk
theorem z_stay {D : va_G} {cl : List vw_C} {q : Nat × va_E} {A : Nat → Prop} {H0 H : Heap} {locs : List Loc} (h : va_at D cl q H0) (hS : va_S A H0 H locs) (hn : ¬ A q.1) : va_at D cl q H := h.kept (hS.2.1 q.1 h.lt hn)
theorem z_recv {g : gG} {a ci : Nat} {fs : List Value} {q : vw_C} (hK : KK g s) (hat : va_at g.1 vwCl (a, .inr (ci, fs)) H) (hc : vwCl[ci]? = some q) : ∃ cell : Cell, H[a]? = some cell ∧ cell.vm.isStatics = false ∧ s.vm.findClass q.1 = some cell.cls := va_recv hK.1 (z_one hat) hc (q0 := 0) rfl
theorem z_get (hx : p.tables.exec = Jvm.exec) (hb : c.code = cc) {own ref C : String} {T : u_T} {N ci index a : Nat} {Ts : List Cond} {g : gG} (hts : ∀ w ∈ Ts, w.before args s = true) (hin : ∀ w ∈ u_ws C T N, w ∈ Ts) (hown : s.vm.findClass own = some m.cls) (hK : KK g s) {fs : List Value} (hat : va_at g.1 vwCl (a, .inr (ci, fs)) H) (hc : vwCl[ci]? = some (C, T, N)) (k : Nat) (hk : k < N) (hlink : (Cond.fieldLink own index ref (T k).2.1 (T k).2.2.1).before args s = true) (hsame : ref = (T k).1) {v : Value} (hv : fs[k]? = some v) (hdg : decode cc pc = .ok (.getfield index, 3))
    (kk : W p l e R s m args below meth c H locs cells slots Q (F0 m (pc + 3) ls (v :: rest))) : W p l e R s m args below meth c H locs cells slots Q (F0 m pc ls (.ref a :: rest)) :=
  va_get hx hb hts hin hown hK.1 (z_one hat) 0 rfl hc k hk hlink (fun _ h => by rw [hsame]; exact h) hv hdg kk
theorem z_getN (hx : p.tables.exec = Jvm.exec) (hb : c.code = cc) {own ref C host : String} {T : u_T} {N ci index a : Nat} {Ts : List Cond} {g : gG} (hts : ∀ w ∈ Ts, w.before args s = true) (hin : ∀ w ∈ u_ws C T N, w ∈ Ts) (hown : s.vm.findClass own = some m.cls) (hK : KK g s) {fs : List Value} (hat : va_at g.1 vwCl (a, .inr (ci, fs)) H) (hc : vwCl[ci]? = some (C, T, N)) (k : Nat) (hk : k < N) (hlink : (Cond.fieldLinkNest own index ref (T k).2.1 (T k).2.2.1 host) ∈ nwL) (hsame : ref = (T k).1) {v : Value} (hv : fs[k]? = some v) (hdg : decode cc pc = .ok (.getfield index, 3))
    (kk : W p l e R s m args below meth c H locs cells slots Q (F0 m (pc + 3) ls (v :: rest))) : W p l e R s m args below meth c H locs cells slots Q (F0 m pc ls (.ref a :: rest)) :=
  va_getN hx hb hts hin hown hK.1 (z_one hat) 0 rfl hc k hk (va_Nw.use rfl (hK.2 _ hlink)) (fun _ h => by rw [hsame]; exact h) hv hdg kk
theorem z_iald (hx : p.tables.exec = Jvm.exec) (hb : c.code = cc) {g : gG} (hK : KK g s) {a n : Nat} {f : Nat → Int} (hat : va_at g.1 vwCl (a, .inl (g.2.1, n, .inl (fun j => zi (f j)))) H) {z : Int} (i : Nat) (hz : z = (i : Int)) (hi : i < n) (hn : n < 2147483648) (hdg : decode cc pc = .ok (.iaload, 1))
    (kk : W p l e R s m args below meth c H locs cells slots Q (F0 m (pc + 1) ls (.int (zi (f i)) :: rest))) : W p l e R s m args below meth c H locs cells slots Q (F0 m pc ls (.int (zi z) :: .ref a :: rest)) := by
  subst hz
  refine va_iald hx hb hK.1 (z_one hat) 0 0 rfl rfl (zi_in hi hn) hdg ?_
  rw [zi_ix (by omega)]
  exact kk
theorem z_zald (hx : p.tables.exec = Jvm.exec) (hb : c.code = cc) {g : gG} (hK : KK g s) {a n : Nat} {f : Nat → Int} (hat : va_at g.1 vwCl (a, .inl (g.2.2.1, n, .inl (fun j => zi (f j)))) H) {z : Int} (i : Nat) (hz : z = (i : Int)) (hi : i < n) (hn : n < 2147483648) (hdg : decode cc pc = .ok (.baload, 1))
    (kk : W p l e R s m args below meth c H locs cells slots Q (F0 m (pc + 1) ls (.int (zi (f i)) :: rest))) : W p l e R s m args below meth c H locs cells slots Q (F0 m pc ls (.int (zi z) :: .ref a :: rest)) := by
  subst hz
  refine va_zald hx hb hK.1 (z_one hat) 0 1 rfl rfl (zi_in hi hn) hdg ?_
  rw [zi_ix (by omega)]
  exact kk
theorem z_alen (hx : p.tables.exec = Jvm.exec) (hb : c.code = cc) {g : gG} (hK : KK g s) {a : Nat} {cA : ClassId} {x : vp_A} (hat : va_at g.1 vwCl (a, .inl (cA, x)) H) (t0 : Nat) {ty : FieldType} (ht : [(g.2.1, FieldType.int), (g.2.2.1, .boolean), (g.2.2.2.1, .object RX2), (g.2.2.2.2, .object RX0)][t0]? = some (cA, ty)) (hdg : decode cc pc = .ok (.arraylength, 1))
    (kk : W p l e R s m args below meth c H locs cells slots Q (F0 m (pc + 1) ls (.int (zi (x.1 : Int)) :: rest))) : W p l e R s m args below meth c H locs cells slots Q (F0 m pc ls (.ref a :: rest)) :=
  va_alen hx hb hK.1 (z_one hat) 0 t0 rfl ht (zi_ofNat x.1) hdg kk
theorem z_aldq (hx : p.tables.exec = Jvm.exec) (hb : c.code = cc) {g : gG} (hK : KK g s) {a n : Nat} {cA : ClassId} {C : String} {f : Nat → Option Nat} (hat : va_at g.1 vwCl (a, .inl (cA, n, .inr (.inr (.inr (.inr f))))) H) (t0 : Nat) (ht : [(g.2.1, FieldType.int), (g.2.2.1, .boolean), (g.2.2.2.1, .object RX2), (g.2.2.2.2, .object RX0)][t0]? = some (cA, .object C)) {z : Int} (i : Nat) (hz : z = (i : Int)) (hi : i < n) (hn : n < 2147483648) {o : Option Nat} (ho : f i = o) (hdg : decode cc pc = .ok (.aaload, 1))
    (kk : W p l e R s m args below meth c H locs cells slots Q (F0 m (pc + 1) ls (va_rf o :: rest))) : W p l e R s m args below meth c H locs cells slots Q (F0 m pc ls (.int (zi z) :: .ref a :: rest)) := by
  subst hz
  refine va_aldq hx hb hK.1 (z_one hat) 0 t0 rfl ht (zi_in hi hn) hdg ?_
  rw [zi_ix (by omega), ho]
  exact kk
theorem zi_upd (f : Nat → Int) (i : Nat) (h : i < 2147483648) (x : Int) : upd (fun j => zi (f j)) (zi (i : Int)).toNatClampNeg (zi x) = fun j => zi (va_up f i x j) := by
  rw [zi_ix h]
  funext j
  unfold upd va_up
  split <;> rfl
theorem z_iast (hx : p.tables.exec = Jvm.exec) (hb : c.code = cc) {g : gG} {ws : va_W} {A : Nat → Prop} {H0 : Heap} (hK : KK g s) (hP : va_P g.1 vwCl ws H) (hD : va_D A ws) (hS : va_S A H0 H locs) (q0 : Nat) {a n : Nat} {f : Nat → Int} (ha : ws[q0]? = some (a, .inl (g.2.1, n, .inl (fun j => zi (f j))))) {z x : Int} (i : Nat) (hz : z = (i : Int)) (hi : i < n) (hn : n < 2147483648) (hdg : decode cc pc = .ok (.iastore, 1))
    (kk : ∀ (H1 : Heap) (locs1 : List Loc), va_P g.1 vwCl (ws.set q0 (a, .inl (g.2.1, n, .inl (fun j => zi (va_up f i x j))))) H1 → va_D A (ws.set q0 (a, .inl (g.2.1, n, .inl (fun j => zi (va_up f i x j))))) → va_S A H0 H1 locs1 → W p l e R s m args below meth c H1 locs1 cells slots Q (F0 m (pc + 1) ls rest)) : W p l e R s m args below meth c H locs cells slots Q (F0 m pc ls (.int (zi x) :: .int (zi z) :: .ref a :: rest)) := by
  subst hz
  refine va_iast hx hb hK.1 hP hD hS q0 0 ha rfl (zi_in hi hn) hdg (fun H1 l1 h1 h2 h3 => ?_)
  rw [zi_upd f i (by omega) x] at h1 h2
  exact kk H1 l1 h1 h2 h3
theorem z_zast (hx : p.tables.exec = Jvm.exec) (hb : c.code = cc) {g : gG} {ws : va_W} {A : Nat → Prop} {H0 : Heap} (hK : KK g s) (hP : va_P g.1 vwCl ws H) (hD : va_D A ws) (hS : va_S A H0 H locs) (q0 : Nat) {a n : Nat} {f : Nat → Int} (ha : ws[q0]? = some (a, .inl (g.2.2.1, n, .inl (fun j => zi (f j))))) {z x : Int} (i : Nat) (hz : z = (i : Int)) (hi : i < n) (hn : n < 2147483648) (hx01 : x = 0 ∨ x = 1) (hdg : decode cc pc = .ok (.bastore, 1))
    (kk : ∀ (H1 : Heap) (locs1 : List Loc), va_P g.1 vwCl (ws.set q0 (a, .inl (g.2.2.1, n, .inl (fun j => zi (va_up f i x j))))) H1 → va_D A (ws.set q0 (a, .inl (g.2.2.1, n, .inl (fun j => zi (va_up f i x j))))) → va_S A H0 H1 locs1 → W p l e R s m args below meth c H1 locs1 cells slots Q (F0 m (pc + 1) ls rest)) : W p l e R s m args below meth c H locs cells slots Q (F0 m pc ls (.int (zi x) :: .int (zi z) :: .ref a :: rest)) := by
  subst hz
  refine va_zast hx hb hK.1 hP hD hS q0 1 ha rfl (zi_in hi hn) hdg (fun H1 l1 h1 h2 h3 => ?_)
  have hn : vp_nar .boolean (zi x) = zi x := by rcases hx01 with rfl | rfl <;> rfl
  rw [hn, zi_upd f i (by omega) x] at h1 h2
  exact kk H1 l1 h1 h2 h3
theorem z_abs (hx : p.tables.exec = Jvm.exec) (hb : c.code = cc) (hml : c.maxLocals = ls.size) {own : String} {index : Nat} (hown : s.vm.findClass own = some m.cls) (hlink : (Cond.methodLink own index Lib.Math.abs.name).before args s = true) (hstat : (Cond.static Lib.Math.abs.name).before args s = true) (hini : (Cond.initialized "java/lang/Math").before args s = true) (hcode : (Cond.code Lib.Math.abs.name Lib.Math.abs.code 1 (some .int)).before args s = true)
    (hframes : 1 ≤ R.frames) (hlocals : (rest.map fun v => v.category).sum + 13 ≤ R.locals) (hc : cells ≤ R.cells) (hs : slots ≤ R.slots) {a d : Int} (ha : zr a) (h1 : 0 ≤ a → d = a) (h2 : a < 0 → d = -a) (hdg : decode cc pc = .ok (.invokestatic index, 3))
    (kk : W p l e R s m args below meth c H locs cells slots Q (F0 m (pc + 3) ls (.int (zi d) :: rest))) : W p l e R s m args below meth c H locs cells slots Q (F0 m pc ls (.int (zi a) :: rest)) := by
  refine va_mabs hx hb hml hown hlink hstat hini hcode hframes hlocals hc hs hdg ?_
  have e : (if 0 ≤ zi a then zi a else 0 - zi a) = zi d := by
    rw [zi_0]
    by_cases h : 0 ≤ a
    · rw [if_pos ((zi_le zr_0 ha).mpr h), h1 h]
    · rw [if_neg (fun z => h ((zi_le zr_0 ha).mp z)), h2 (by omega), zi_sub]
      congr 1
      omega
  rw [e]
  exact kk
theorem z_max (hx : p.tables.exec = Jvm.exec) (hb : c.code = cc) (hml : c.maxLocals = ls.size) {own : String} {index : Nat} (hown : s.vm.findClass own = some m.cls) (hlink : (Cond.methodLink own index Lib.Math.max.name).before args s = true) (hstat : (Cond.static Lib.Math.max.name).before args s = true) (hini : (Cond.initialized "java/lang/Math").before args s = true) (hcode : (Cond.code Lib.Math.max.name Lib.Math.max.code 2 (some .int)).before args s = true)
    (hframes : 1 ≤ R.frames) (hlocals : (rest.map fun v => v.category).sum + 13 ≤ R.locals) (hc : cells ≤ R.cells) (hs : slots ≤ R.slots) {a b d : Int} (ha : zr a) (hb2 : zr b) (h1 : a < b → d = b) (h2 : b ≤ a → d = a) (hdg : decode cc pc = .ok (.invokestatic index, 3))
    (kk : W p l e R s m args below meth c H locs cells slots Q (F0 m (pc + 3) ls (.int (zi d) :: rest))) : W p l e R s m args below meth c H locs cells slots Q (F0 m pc ls (.int (zi b) :: .int (zi a) :: rest)) := by
  refine va_mmax hx hb hml hown hlink hstat hini hcode hframes hlocals hc hs hdg ?_
  have e : (if zi a < zi b then zi b else zi a) = zi d := by
    by_cases h : a < b
    · rw [if_pos ((zi_lt ha hb2).mpr h), h1 h]
    · rw [if_neg (fun z => h ((zi_lt ha hb2).mp z)), h2 (by omega)]
  rw [e]
  exact kk
theorem z_min (hx : p.tables.exec = Jvm.exec) (hb : c.code = cc) (hml : c.maxLocals = ls.size) {own : String} {index : Nat} (hown : s.vm.findClass own = some m.cls) (hlink : (Cond.methodLink own index Lib.Math.min.name).before args s = true) (hstat : (Cond.static Lib.Math.min.name).before args s = true) (hini : (Cond.initialized "java/lang/Math").before args s = true) (hcode : (Cond.code Lib.Math.min.name Lib.Math.min.code 2 (some .int)).before args s = true)
    (hframes : 1 ≤ R.frames) (hlocals : (rest.map fun v => v.category).sum + 13 ≤ R.locals) (hc : cells ≤ R.cells) (hs : slots ≤ R.slots) {a b d : Int} (ha : zr a) (hb2 : zr b) (h1 : b < a → d = b) (h2 : a ≤ b → d = a) (hdg : decode cc pc = .ok (.invokestatic index, 3))
    (kk : W p l e R s m args below meth c H locs cells slots Q (F0 m (pc + 3) ls (.int (zi d) :: rest))) : W p l e R s m args below meth c H locs cells slots Q (F0 m pc ls (.int (zi b) :: .int (zi a) :: rest)) := by
  refine va_mmin hx hb hml hown hlink hstat hini hcode hframes hlocals hc hs hdg ?_
  have e : (if zi b < zi a then zi b else zi a) = zi d := by
    by_cases h : b < a
    · rw [if_pos ((zi_lt hb2 ha).mpr h), h1 h]
    · rw [if_neg (fun z => h ((zi_lt hb2 ha).mp z)), h2 (by omega)]
  rw [e]
  exact kk
/-! ===== calls of what reads alone ===== -/
theorem ro_V {y : MethodName} {bytes : ByteArray} {maxL nL n index b : Nat} {ret : Option FieldType} {ws : List Cond} {rm : Room} {Ts : List Cond} {own C : String} {As st0 : List Value} {g : gG} {P : Heap → Prop} {v : Int}
    (S : CallFix p m c cc nL s args Ts own) (hM : RO l y ws rm g (.ref b :: As) P v) (cw : CallW R s args own C index y bytes maxL ret ws rm 0 0 n) (hr : ∃ cell : Cell, H[b]? = some cell ∧ cell.vm.isStatics = false ∧ s.vm.findClass C = some cell.cls) (hP : P H) (hK : KK g s)
    (hn : As.length = n) (hsize : ls.size = nL) (hst : st0 = As.reverse ++ .ref b :: rest) (hW : (rest.map fun v => v.category).sum ≤ 8) (hdg : decode cc pc = .ok (.invokevirtual index, 3)) (hf : cells + 0 ≤ R.cells ∧ slots + 0 ≤ R.slots)
    (kk : W p l e R s m args below meth c H locs cells slots Q (F0 m (pc + 3) ls (.int (zi v) :: rest))) : W p l e R s m args below meth c H locs cells slots Q (F0 m pc ls st0) :=
  vp_callSi (va_Run.run (va_runV S hM cw ⟨zPc.blind g _ P, hr, fun U hU hW => ⟨rfl, by rw [hU]; exact hP, hK.warm hW⟩⟩ rfl hn hsize hst (lv_room hW) hdg hf)) (fun r hr => by rw [hr]; exact kk)
theorem ro_S {y : MethodName} {bytes : ByteArray} {maxL nL n index : Nat} {ret : Option FieldType} {ws : List Cond} {rm : Room} {Ts : List Cond} {own : String} {As st0 : List Value} {g : gG} {P : Heap → Prop} {v : Int}
    (S : CallFix p m c cc nL s args Ts own) (hM : RO l y ws rm g As P v) (cw : CallB R s args own index y bytes maxL ret ws rm 0 0 n ∧ (Cond.static y).before args s = true) (hP : P H) (hK : KK g s)
    (hn : As.length = n) (hsize : ls.size = nL) (hst : st0 = As.reverse ++ rest) (hW : (rest.map fun v => v.category).sum ≤ 8) (hdg : decode cc pc = .ok (.invokestatic index, 3)) (hf : cells + 0 ≤ R.cells ∧ slots + 0 ≤ R.slots)
    (kk : W p l e R s m args below meth c H locs cells slots Q (F0 m (pc + 3) ls (.int (zi v) :: rest))) : W p l e R s m args below meth c H locs cells slots Q (F0 m pc ls st0) :=
  vp_callSi (va_Run.run (va_runS S hM cw ⟨zPc.blind g _ P, fun U hU hW => ⟨rfl, by rw [hU]; exact hP, hK.warm hW⟩⟩ rfl hn hsize hst (lv_room hW) hdg hf)) (fun r hr => by rw [hr]; exact kk)
/-! ===== their ends ===== -/
theorem z_iret {a v : Int} (hx : p.tables.exec = Jvm.exec) (hb : c.code = cc) (hr : meth.sig.returnType = some .int) (hlk : meth.locks = false) (hdg : decode cc pc = .ok (.ireturn, 1)) (h : a = v) : W p l e R s m args below meth c s.heap [] 0 0 (MQ below (vp_Si (fun r => r = zi v)) args s 0 0 (fun _ => False)) (F0 m pc ls [.int (zi a)]) :=
  W.iret hx hb hr (fun t ht _ => ⟨_, rfl, by rw [h], ht⟩) (fun q hq => absurd hq List.not_mem_nil) hdg hlk
theorem z_zret {a v : Int} (hx : p.tables.exec = Jvm.exec) (hb : c.code = cc) (hr : meth.sig.returnType = some .boolean) (hlk : meth.locks = false) (hdg : decode cc pc = .ok (.ireturn, 1)) (h01 : a = 0 ∨ a = 1) (h : a = v) : W p l e R s m args below meth c s.heap [] 0 0 (MQ below (vp_Si (fun r => r = zi v)) args s 0 0 (fun _ => False)) (F0 m pc ls [.int (zi a)]) :=
  W.zret hx hb hr (by rcases h01 with rfl | rfl <;> rfl) (fun t ht _ => ⟨_, rfl, by rw [h], ht⟩) (fun q hq => absurd hq List.not_mem_nil) hdg hlk
end ZR
