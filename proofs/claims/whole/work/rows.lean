section
-- ===== PART A: goes FIRST, ahead of the names: the tables' words, and 'selects' of the private methods out of them =====
/-- a private method of a class that the tables say can be made, by its rows of tables_1 -/
def lw_okq (q : MethodName × Nat) : Prop := (q.1.cls ≠ "java/lang/invoke/MethodHandle" ∧ q.1.cls ≠ "java/lang/invoke/VarHandle") ∧ Cond.instantiable q.1.cls q.2 ∈ tables_1 ∧ Cond.privateMethod q.1 ∈ tables_1 ∧ Cond.instanceMethod q.1 ∈ tables_1
theorem lw_p0 : lw_okq (⟨"HarmoniumDesk", "markOf", "(LHarmoniumDesk$Score;)I"⟩, 7) := ⟨⟨by decide +kernel, by decide +kernel⟩, List.mem_of_getElem? (i := 15) (by decide +kernel), List.mem_of_getElem? (i := 72) (by decide +kernel), List.mem_of_getElem? (i := 73) (by decide +kernel)⟩
theorem lw_p1 : lw_okq (⟨"HarmoniumDesk", "weightedFaults", "(LHarmoniumDesk$Score;II)I"⟩, 7) := ⟨⟨by decide +kernel, by decide +kernel⟩, List.mem_of_getElem? (i := 15) (by decide +kernel), List.mem_of_getElem? (i := 76) (by decide +kernel), List.mem_of_getElem? (i := 77) (by decide +kernel)⟩
theorem lw_p2 : lw_okq (⟨"HarmoniumDesk$Score", "isDiscord", "(I)Z"⟩, 3) := ⟨⟨by decide +kernel, by decide +kernel⟩, List.mem_of_getElem? (i := 27) (by decide +kernel), List.mem_of_getElem? (i := 84) (by decide +kernel), List.mem_of_getElem? (i := 85) (by decide +kernel)⟩
theorem lw_p3 : lw_okq (⟨"HarmoniumDesk$Score", "interval", "(I)I"⟩, 3) := ⟨⟨by decide +kernel, by decide +kernel⟩, List.mem_of_getElem? (i := 27) (by decide +kernel), List.mem_of_getElem? (i := 88) (by decide +kernel), List.mem_of_getElem? (i := 89) (by decide +kernel)⟩
theorem lw_p4 : lw_okq (⟨"HarmoniumDesk$Score", "isParallel", "(I)Z"⟩, 3) := ⟨⟨by decide +kernel, by decide +kernel⟩, List.mem_of_getElem? (i := 27) (by decide +kernel), List.mem_of_getElem? (i := 99) (by decide +kernel), List.mem_of_getElem? (i := 100) (by decide +kernel)⟩
theorem lw_p5 : lw_okq (⟨"HarmoniumDesk$Score", "stepTo", "(II)I"⟩, 3) := ⟨⟨by decide +kernel, by decide +kernel⟩, List.mem_of_getElem? (i := 27) (by decide +kernel), List.mem_of_getElem? (i := 103) (by decide +kernel), List.mem_of_getElem? (i := 104) (by decide +kernel)⟩
theorem lw_p6 : lw_okq (⟨"HarmoniumDesk$Score", "leapsTo", "(I)I"⟩, 3) := ⟨⟨by decide +kernel, by decide +kernel⟩, List.mem_of_getElem? (i := 27) (by decide +kernel), List.mem_of_getElem? (i := 110) (by decide +kernel), List.mem_of_getElem? (i := 111) (by decide +kernel)⟩
theorem lw_p7 : lw_okq (⟨"HarmoniumDesk$Score", "badEndsAt", "(I)I"⟩, 3) := ⟨⟨by decide +kernel, by decide +kernel⟩, List.mem_of_getElem? (i := 27) (by decide +kernel), List.mem_of_getElem? (i := 114) (by decide +kernel), List.mem_of_getElem? (i := 115) (by decide +kernel)⟩
theorem lw_p8 : lw_okq (⟨"HarmoniumDesk$Score", "isStanding", "(I)Z"⟩, 3) := ⟨⟨by decide +kernel, by decide +kernel⟩, List.mem_of_getElem? (i := 27) (by decide +kernel), List.mem_of_getElem? (i := 118) (by decide +kernel), List.mem_of_getElem? (i := 119) (by decide +kernel)⟩
theorem lw_p9 : lw_okq (⟨"java/lang/Throwable", "fillInStackTrace", "(I)Ljava/lang/Throwable;"⟩, 6) := ⟨⟨by decide +kernel, by decide +kernel⟩, List.mem_of_getElem? (i := 172) (by decide +kernel), List.mem_of_getElem? (i := 170) (by decide +kernel), List.mem_of_getElem? (i := 171) (by decide +kernel)⟩
theorem lw_p10 : lw_okq (⟨"HarmoniumDesk", "addVersion", "(LHarmoniumDesk$Version;)LHarmoniumDesk$Version;"⟩, 7) := ⟨⟨by decide +kernel, by decide +kernel⟩, List.mem_of_getElem? (i := 15) (by decide +kernel), List.mem_of_getElem? (i := 202) (by decide +kernel), List.mem_of_getElem? (i := 203) (by decide +kernel)⟩
theorem lw_p11 : lw_okq (⟨"HarmoniumDesk", "findVersion", "(I)LHarmoniumDesk$Version;"⟩, 7) := ⟨⟨by decide +kernel, by decide +kernel⟩, List.mem_of_getElem? (i := 15) (by decide +kernel), List.mem_of_getElem? (i := 266) (by decide +kernel), List.mem_of_getElem? (i := 267) (by decide +kernel)⟩
theorem lw_p12 : lw_okq (⟨"HarmoniumDesk", "bestTone", "(II)I"⟩, 7) := ⟨⟨by decide +kernel, by decide +kernel⟩, List.mem_of_getElem? (i := 15) (by decide +kernel), List.mem_of_getElem? (i := 405) (by decide +kernel), List.mem_of_getElem? (i := 406) (by decide +kernel)⟩
theorem lw_p13 : lw_okq (⟨"HarmoniumDesk", "addCopy", "(ILHarmoniumDesk$Score;)I"⟩, 7) := ⟨⟨by decide +kernel, by decide +kernel⟩, List.mem_of_getElem? (i := 15) (by decide +kernel), List.mem_of_getElem? (i := 430) (by decide +kernel), List.mem_of_getElem? (i := 431) (by decide +kernel)⟩
theorem lw_p14 : lw_okq (⟨"HarmoniumDesk", "findCopy", "(I)LHarmoniumDesk$Copy;"⟩, 7) := ⟨⟨by decide +kernel, by decide +kernel⟩, List.mem_of_getElem? (i := 15) (by decide +kernel), List.mem_of_getElem? (i := 467) (by decide +kernel), List.mem_of_getElem? (i := 468) (by decide +kernel)⟩
theorem lw_p15 : lw_okq (⟨"HarmoniumDeskModel", "fails", "(I)Z"⟩, 14) := ⟨⟨by decide +kernel, by decide +kernel⟩, List.mem_of_getElem? (i := 501) (by decide +kernel), List.mem_of_getElem? (i := 562) (by decide +kernel), List.mem_of_getElem? (i := 563) (by decide +kernel)⟩
def lw_privs_1 : List (MethodName × Nat) := [(⟨"HarmoniumDesk", "markOf", "(LHarmoniumDesk$Score;)I"⟩, 7), (⟨"HarmoniumDesk", "weightedFaults", "(LHarmoniumDesk$Score;II)I"⟩, 7), (⟨"HarmoniumDesk$Score", "isDiscord", "(I)Z"⟩, 3), (⟨"HarmoniumDesk$Score", "interval", "(I)I"⟩, 3), (⟨"HarmoniumDesk$Score", "isParallel", "(I)Z"⟩, 3), (⟨"HarmoniumDesk$Score", "stepTo", "(II)I"⟩, 3), (⟨"HarmoniumDesk$Score", "leapsTo", "(I)I"⟩, 3), (⟨"HarmoniumDesk$Score", "badEndsAt", "(I)I"⟩, 3), (⟨"HarmoniumDesk$Score", "isStanding", "(I)Z"⟩, 3), (⟨"java/lang/Throwable", "fillInStackTrace", "(I)Ljava/lang/Throwable;"⟩, 6), (⟨"HarmoniumDesk", "addVersion", "(LHarmoniumDesk$Version;)LHarmoniumDesk$Version;"⟩, 7), (⟨"HarmoniumDesk", "findVersion", "(I)LHarmoniumDesk$Version;"⟩, 7), (⟨"HarmoniumDesk", "bestTone", "(II)I"⟩, 7), (⟨"HarmoniumDesk", "addCopy", "(ILHarmoniumDesk$Score;)I"⟩, 7), (⟨"HarmoniumDesk", "findCopy", "(I)LHarmoniumDesk$Copy;"⟩, 7), (⟨"HarmoniumDeskModel", "fails", "(I)Z"⟩, 14)]
theorem lw_r1 : ∀ q ∈ lw_privs_1, lw_okq q := List.forall_mem_cons.mpr ⟨lw_p0, List.forall_mem_cons.mpr ⟨lw_p1, List.forall_mem_cons.mpr ⟨lw_p2, List.forall_mem_cons.mpr ⟨lw_p3, List.forall_mem_cons.mpr ⟨lw_p4, List.forall_mem_cons.mpr ⟨lw_p5, List.forall_mem_cons.mpr ⟨lw_p6, List.forall_mem_cons.mpr ⟨lw_p7, List.forall_mem_cons.mpr ⟨lw_p8, List.forall_mem_cons.mpr ⟨lw_p9, List.forall_mem_cons.mpr ⟨lw_p10, List.forall_mem_cons.mpr ⟨lw_p11, List.forall_mem_cons.mpr ⟨lw_p12, List.forall_mem_cons.mpr ⟨lw_p13, List.forall_mem_cons.mpr ⟨lw_p14, List.forall_mem_cons.mpr ⟨lw_p15, fun _ h => absurd h List.not_mem_nil⟩⟩⟩⟩⟩⟩⟩⟩⟩⟩⟩⟩⟩⟩⟩⟩
theorem lw_p16 : lw_okq (⟨"HarmoniumDeskModel", "isVersion", "(I)Z"⟩, 14) := ⟨⟨by decide +kernel, by decide +kernel⟩, List.mem_of_getElem? (i := 501) (by decide +kernel), List.mem_of_getElem? (i := 573) (by decide +kernel), List.mem_of_getElem? (i := 574) (by decide +kernel)⟩
theorem lw_p17 : lw_okq (⟨"HarmoniumDeskModel", "makes", "(I)I"⟩, 14) := ⟨⟨by decide +kernel, by decide +kernel⟩, List.mem_of_getElem? (i := 501) (by decide +kernel), List.mem_of_getElem? (i := 577) (by decide +kernel), List.mem_of_getElem? (i := 578) (by decide +kernel)⟩
theorem lw_p18 : lw_okq (⟨"HarmoniumDeskModel", "isNote", "(III)Z"⟩, 14) := ⟨⟨by decide +kernel, by decide +kernel⟩, List.mem_of_getElem? (i := 501) (by decide +kernel), List.mem_of_getElem? (i := 585) (by decide +kernel), List.mem_of_getElem? (i := 586) (by decide +kernel)⟩
theorem lw_p19 : lw_okq (⟨"HarmoniumDeskModel", "baseOf", "(II)I"⟩, 14) := ⟨⟨by decide +kernel, by decide +kernel⟩, List.mem_of_getElem? (i := 501) (by decide +kernel), List.mem_of_getElem? (i := 597) (by decide +kernel), List.mem_of_getElem? (i := 598) (by decide +kernel)⟩
theorem lw_p20 : lw_okq (⟨"HarmoniumDeskModel", "isAncestor", "(II)Z"⟩, 14) := ⟨⟨by decide +kernel, by decide +kernel⟩, List.mem_of_getElem? (i := 501) (by decide +kernel), List.mem_of_getElem? (i := 601) (by decide +kernel), List.mem_of_getElem? (i := 602) (by decide +kernel)⟩
theorem lw_p21 : lw_okq (⟨"HarmoniumDeskModel", "areAlike", "(III)Z"⟩, 14) := ⟨⟨by decide +kernel, by decide +kernel⟩, List.mem_of_getElem? (i := 501) (by decide +kernel), List.mem_of_getElem? (i := 609) (by decide +kernel), List.mem_of_getElem? (i := 610) (by decide +kernel)⟩
theorem lw_p22 : lw_okq (⟨"HarmoniumDeskModel", "faultsAt", "(III)I"⟩, 14) := ⟨⟨by decide +kernel, by decide +kernel⟩, List.mem_of_getElem? (i := 501) (by decide +kernel), List.mem_of_getElem? (i := 629) (by decide +kernel), List.mem_of_getElem? (i := 630) (by decide +kernel)⟩
theorem lw_p23 : lw_okq (⟨"HarmoniumDeskModel", "interval", "(II)I"⟩, 14) := ⟨⟨by decide +kernel, by decide +kernel⟩, List.mem_of_getElem? (i := 501) (by decide +kernel), List.mem_of_getElem? (i := 633) (by decide +kernel), List.mem_of_getElem? (i := 634) (by decide +kernel)⟩
theorem lw_p24 : lw_okq (⟨"HarmoniumDeskModel", "stays", "(III)Z"⟩, 14) := ⟨⟨by decide +kernel, by decide +kernel⟩, List.mem_of_getElem? (i := 501) (by decide +kernel), List.mem_of_getElem? (i := 640) (by decide +kernel), List.mem_of_getElem? (i := 641) (by decide +kernel)⟩
theorem lw_p25 : lw_okq (⟨"HarmoniumDeskModel", "leap", "(III)I"⟩, 14) := ⟨⟨by decide +kernel, by decide +kernel⟩, List.mem_of_getElem? (i := 501) (by decide +kernel), List.mem_of_getElem? (i := 644) (by decide +kernel), List.mem_of_getElem? (i := 645) (by decide +kernel)⟩
theorem lw_p26 : lw_okq (⟨"HarmoniumDeskModel", "markOf", "(I)I"⟩, 14) := ⟨⟨by decide +kernel, by decide +kernel⟩, List.mem_of_getElem? (i := 501) (by decide +kernel), List.mem_of_getElem? (i := 652) (by decide +kernel), List.mem_of_getElem? (i := 653) (by decide +kernel)⟩
theorem lw_p27 : lw_okq (⟨"HarmoniumDeskModel", "costs", "(I)I"⟩, 14) := ⟨⟨by decide +kernel, by decide +kernel⟩, List.mem_of_getElem? (i := 501) (by decide +kernel), List.mem_of_getElem? (i := 656) (by decide +kernel), List.mem_of_getElem? (i := 657) (by decide +kernel)⟩
theorem lw_p28 : lw_okq (⟨"HarmoniumDeskModel", "misses", "(II)I"⟩, 14) := ⟨⟨by decide +kernel, by decide +kernel⟩, List.mem_of_getElem? (i := 501) (by decide +kernel), List.mem_of_getElem? (i := 684) (by decide +kernel), List.mem_of_getElem? (i := 685) (by decide +kernel)⟩
theorem lw_p29 : lw_okq (⟨"HarmoniumDeskModel", "isCopy", "(I)Z"⟩, 14) := ⟨⟨by decide +kernel, by decide +kernel⟩, List.mem_of_getElem? (i := 501) (by decide +kernel), List.mem_of_getElem? (i := 688) (by decide +kernel), List.mem_of_getElem? (i := 689) (by decide +kernel)⟩
theorem lw_p30 : lw_okq (⟨"HarmoniumDeskModel", "differs", "(II)I"⟩, 14) := ⟨⟨by decide +kernel, by decide +kernel⟩, List.mem_of_getElem? (i := 501) (by decide +kernel), List.mem_of_getElem? (i := 692) (by decide +kernel), List.mem_of_getElem? (i := 693) (by decide +kernel)⟩
def lw_privs_2 : List (MethodName × Nat) := [(⟨"HarmoniumDeskModel", "isVersion", "(I)Z"⟩, 14), (⟨"HarmoniumDeskModel", "makes", "(I)I"⟩, 14), (⟨"HarmoniumDeskModel", "isNote", "(III)Z"⟩, 14), (⟨"HarmoniumDeskModel", "baseOf", "(II)I"⟩, 14), (⟨"HarmoniumDeskModel", "isAncestor", "(II)Z"⟩, 14), (⟨"HarmoniumDeskModel", "areAlike", "(III)Z"⟩, 14), (⟨"HarmoniumDeskModel", "faultsAt", "(III)I"⟩, 14), (⟨"HarmoniumDeskModel", "interval", "(II)I"⟩, 14), (⟨"HarmoniumDeskModel", "stays", "(III)Z"⟩, 14), (⟨"HarmoniumDeskModel", "leap", "(III)I"⟩, 14), (⟨"HarmoniumDeskModel", "markOf", "(I)I"⟩, 14), (⟨"HarmoniumDeskModel", "costs", "(I)I"⟩, 14), (⟨"HarmoniumDeskModel", "misses", "(II)I"⟩, 14), (⟨"HarmoniumDeskModel", "isCopy", "(I)Z"⟩, 14), (⟨"HarmoniumDeskModel", "differs", "(II)I"⟩, 14)]
theorem lw_r2 : ∀ q ∈ lw_privs_2, lw_okq q := List.forall_mem_cons.mpr ⟨lw_p16, List.forall_mem_cons.mpr ⟨lw_p17, List.forall_mem_cons.mpr ⟨lw_p18, List.forall_mem_cons.mpr ⟨lw_p19, List.forall_mem_cons.mpr ⟨lw_p20, List.forall_mem_cons.mpr ⟨lw_p21, List.forall_mem_cons.mpr ⟨lw_p22, List.forall_mem_cons.mpr ⟨lw_p23, List.forall_mem_cons.mpr ⟨lw_p24, List.forall_mem_cons.mpr ⟨lw_p25, List.forall_mem_cons.mpr ⟨lw_p26, List.forall_mem_cons.mpr ⟨lw_p27, List.forall_mem_cons.mpr ⟨lw_p28, List.forall_mem_cons.mpr ⟨lw_p29, List.forall_mem_cons.mpr ⟨lw_p30, fun _ h => absurd h List.not_mem_nil⟩⟩⟩⟩⟩⟩⟩⟩⟩⟩⟩⟩⟩⟩⟩
def lw_privs : List (MethodName × Nat) := lw_privs_1 ++ (lw_privs_2)
def lw_tbl : List Cond := k2_sels lw_privs ++ tables_1
theorem lw_privs_ok : ∀ q ∈ lw_privs, lw_okq q := by
  show ∀ q ∈ lw_privs_1 ++ (lw_privs_2), lw_okq q
  exact List.forall_mem_append.mpr ⟨lw_r1, lw_r2⟩
/-- the streams that the claim lets the run draw from -/
abbrev lw_cs : List Choice := [Jvm.Choice.named "NaN.bits"]
theorem lw_bits : nanBits ∈ lw_cs := by first | decide | exact List.mem_cons_self | simp [lw_cs, nanBits]
-- ===== end of PART A; then your names; then what follows =====
end
section
/-! ===== BEGIN words of one list among another's, by their places ===== -/
theorem goodIn_r {big : List Cond} (ws : List Cond) (ps : List Nat) (hp : ws = ps.filterMap (fun i => big[i]?)) (h : ws.all goodWord = true) : GoodIn big ws := by
  intro w hw
  have h1 := List.all_eq_true.mp h w hw
  rw [hp] at hw
  obtain ⟨i, -, hi⟩ := List.mem_filterMap.mp hw
  have hm : w ∈ big := by first | exact List.mem_of_getElem? hi | exact List.getElem?_mem hi
  exact ⟨hm, good_of_word h1⟩
theorem goodIn_app {big a b : List Cond} (ha : GoodIn big a) (hb : GoodIn big b) : GoodIn big (a ++ b) := fun w h => (List.mem_append.mp h).elim (ha w) (hb w)
theorem goodIn_ca {big a b : List Cond} {c : Cond} (ha : GoodIn big (c :: a)) (hb : GoodIn big b) : GoodIn big (c :: (a ++ b)) := fun w h => (List.mem_cons.mp h).elim (fun e => ha w (List.mem_cons.mpr (Or.inl e))) (fun h => (List.mem_append.mp h).elim (fun h => ha w (List.mem_cons.mpr (Or.inr h))) (hb w))
theorem goodIn_sub {big ws : List Cond} (hm : ∀ w ∈ ws, w ∈ big) (h : ws.all goodWord = true) : GoodIn big ws := fun w hw => ⟨hm w hw, good_of_word (List.all_eq_true.mp h w hw)⟩
/-! ===== END ===== -/

/-! ===== BEGIN exceptions that leave a method, and their catching by the caller (launches without stack traces) ===== -/
section VXA
/-! The laws vx_back, vx_callV, vx_callS, vx_callSW, vx_throw0, vx_throwS follow proofs of the library, with one case more: JvmDerived/Free/Laws.lean (Back.of_free), Shelf42/LK1.lean (callV, callS), Shelf/KitTraced.lean (throwNew0V, throwNewS). -/
/-- where a method has thrown q: the class by its name, the cell, what was written, the world -/
def vx_T (XC : String → State → State → Prop) (st : State) (q : Addr) (t : State) (mc ms : Nat) (free : Addr → Prop) : Prop :=
  ∃ (E : String) (ce : Cell) (L : List Loc), XC E st t ∧ t.heap[q]? = some ce ∧ ce.vm = .none ∧ st.vm.findClass E = some ce.cls ∧ st.WarmedH t.vm ∧ st.sameButNew ({ t with vm := st.vm } : State) L mc ms ∧ ∀ z ∈ L, free z.base
def vx_Q (Qc : Array Value → State → Outcome → State → Prop) (XC : String → State → State → Prop) (mc ms : Nat) (free : Addr → Prop) : Array Value → State → Outcome → State → Prop := fun a st o t =>
  (Qc a st o t ∧ ∃ L, FrameEnd st o t L mc ms ∧ ∀ q ∈ L, free q.base) ∨ ∃ q, o = .threw q ∧ vx_T XC st q t mc ms free
/-- a callee that returns or throws -/
def vx_Met (l : Launch) (y : MethodName) (ws : List Cond) (rm : Room) (Pc : Array Value → State → Prop) (Qc : Array Value → State → Outcome → State → Prop) (XC : String → State → State → Prop) (mc ms : Nat) (free : Addr → Prop) : Prop :=
  MetFree l y (headSpec ws rm) Pc (fun _ _ _ _ _ => True) (vx_Q Qc XC mc ms free)
def vx_Post (XC : String → State → State → Prop) (mc ms : Nat) (free : Addr → Prop) : Pt → Array Value → Addr → Pt → Prop := fun A a q B =>
  ∃ (g : JFrame) (mk : MethodId) (t : State) (L : List Loc) (E : String) (ce : Cell), B.U.heap = t.heap ∧ B.U.vm = t.vm ∧ XC E (A.U.calling g mk a) t ∧ t.heap[q]? = some ce ∧ ce.vm = .none ∧ A.U.vm.findClass E = some ce.cls ∧ B.locs = A.locs ++ L ∧ (∀ z ∈ L, free z.base) ∧ B.cells = A.cells + mc ∧ B.slots = A.slots + ms
def vx_Back (l : Launch) (R : Room) (p : Program) (e : Env) (below : List Frame) (s : State) (sargs : Array Value) (y : MethodName) (len W9 : Nat)
    (Pre : Pt → Array Value → Prop) (Post : Pt → Array Value → Option Value → Pt → Prop) (PostX : Pt → Array Value → Addr → Pt → Prop) : Prop :=
  ∀ (m : MethodId) (meth : Method) (c : Code) (A : Pt) (g : JFrame) (ig : Instr) (mk : MethodId) (a : Array Value),
    Stand p l e R s m sargs below meth c A.U A.locs A.cells A.slots → g.method = m → g.locals.size = c.maxLocals → decode c.code g.pc = .ok (ig, len) →
    2 * g.monitorRoom + (g.stack.map fun v => v.category).sum ≤ W9 → A.U.methodNamed? y = some mk → Pre A a →
    (∃ (v : Option Value) (B : Pt), Stand p l e R s m sargs below meth c B.U B.locs B.cells B.slots ∧ Post A a v B ∧
      Steps p.tables e below (doInvoke e (A.U.setTop g) [] mk a).1 (B.U.setTop { g with pc := g.pc + len, stack := v.toList ++ g.stack })) ∨
    (∃ (q : Addr) (B : Pt), Stand p l e R s m sargs below meth c B.U B.locs B.cells B.slots ∧ PostX A a q B ∧
      Steps p.tables e below (doInvoke e (A.U.setTop g) [] mk a).1 ((B.U.setTop g).pushFrame (.throwing q)))
section Payer
variable {l : Launch} {R : Room} {p : Program} {e : Env} {below : List Frame} {s : State} {sargs : Array Value} {y : MethodName} {len W9 : Nat}
theorem vx_back {ws : List Cond} {rm : Room} {Pc : Array Value → State → Prop} {Qc : Array Value → State → Outcome → State → Prop} {XC : String → State → State → Prop} {mc ms : Nat} {free : Addr → Prop} {bytes : ByteArray} {maxL : Nat} {ret : Option FieldType}
    (hM : vx_Met l y ws rm Pc Qc XC mc ms free) (hblind : FrameBlind Pc) (hrc : rm.cells = mc) (hrs : rm.slots = ms)
    (hframes : rm.frames + 1 ≤ R.frames) (hlocals : W9 + (maxL + 11) + rm.locals ≤ R.locals)
    (hws : ∀ w ∈ ws, ∀ a' U, s.WarmedH U.vm → w.before a' U = true) (hcode : Cond.code y bytes maxL ret ∈ ws) (hinit : ∀ a' U, s.WarmedH U.vm → (Cond.initialized y.cls).before a' U = true) :
    vx_Back l R p e below s sargs y len W9 (PreOf R mc ms Pc) (PostOf Qc mc ms free) (vx_Post XC mc ms free) := by
  intro m meth c A g ig mk a X hg hsize hdg hW hn hp
  have h1 : (headSpec ws rm).pre.before a A.U = true := atoms_intro fun w hw => hws w hw _ _ X.warmed
  have h2 : (Cond.code y bytes maxL ret).before a A.U = true := hws _ hcode _ _ X.warmed
  have h3 : (Cond.initialized y.cls).before a A.U = true := hinit _ _ X.warmed
  have h4 : A.cells + (headSpec ws rm).room.cells ≤ R.cells := by rw [show (headSpec ws rm).room.cells = mc from hrc]; exact hp.1
  have h5 : A.slots + (headSpec ws rm).room.slots ≤ R.slots := by rw [show (headSpec ws rm).room.slots = ms from hrs]; exact hp.2.1
  have hPc : Pc a (A.U.calling g mk a) := hblind _ _ _ _ hp.2.2
  obtain ⟨U, Ls, c0, s0⟩ := A
  dsimp only [Pt.U, Pt.locs, Pt.cells, Pt.slots] at h1 h2 h3 h4 h5 X hn hPc ⊢
  obtain ⟨methY, cY, hmY, hcY, -, hlY, -, -, -, -⟩ := Cond.code_spec hn h2
  obtain ⟨kY, hkY, -⟩ := className_of_methodNamed hn
  have hinitY : kY.init = .initialized := Cond.initialized_spec (findClass_of_methodNamed hn) hkY h3
  have h : At U g.method c below := by rw [hg]; exact X.here
  have hlocals9 : W9 + (maxL + 11) + (headSpec ws rm).room.locals ≤ R.locals := hlocals
  have happ : (headSpec ws rm).appliesLoose y e.platform (U.calling g mk a) = true :=
    Spec.appliesLoose_calling (g := g) h hdg hn hkY hinitY
      (X.room_calling (g := g) (R' := (headSpec ws rm).room) hsize hmY hcY hframes (by rw [hlY]; omega) h4 h5) h1
  obtain ⟨mid, hmid⟩ := h.above
  have hfr : (U.setTop g).frames = (.java g :: mid) ++ below := by rw [State.frames_setTop' g h.top, hmid]; rfl
  obtain ⟨o, s₂, hsteps, -, hend, hq⟩ := Steps.callFree hM p X.admits X.cas X.clock (acts := []) hfr happ hPc trivial
  have hq' : vx_Q Qc XC mc ms free a (U.calling g mk a) o s₂ := hq
  rw [State.frames_setTop' g h.top] at hend
  obtain ⟨g₀, hg0⟩ := Option.isSome_iff_exists.mp h.top
  obtain ⟨r, hr⟩ := State.topJava?_eq_some.mp hg0
  have hr' : (({ U with heap := s₂.heap, slotsUsed := s₂.slotsUsed } : State).setVm s₂.vm).frames = .java g₀ :: r := hr
  rcases hq' with ⟨hqc, L, hfe, hL⟩ | ⟨q, rfl, E, ce, L, hx, hce, hcv, hcl, hW₂, hsm, hL⟩
  · obtain ⟨⟨v, rfl⟩, hW₂, e2, q2, q3, q4, q5, q6⟩ := id hfe
    have e3 : s₂ = ({ (U.calling g mk a).setFrames s₂.frames with heap := s₂.heap, slotsUsed := s₂.slotsUsed } : State).setVm s₂.vm := by
      have : s₂ = ({ s₂ with vm := (U.calling g mk a).vm } : State).setVm s₂.vm := rfl
      rw [e2] at this
      exact this
    obtain ⟨c₂, i₂, len₂, hc₂, hd₂, hf₂⟩ := hend
    have hW' : U.WarmedH s₂.vm := hW₂
    have hcc : c₂ = c := by
      have h1 : s₂.code? g.method = U.code? g.method := by
        rw [State.code?_eq, State.code?_eq, hW'.alike.method?]
      exact Option.some.inj (hc₂.symm.trans (h1.trans h.code))
    subst hcc
    have hlen : len₂ = len := by rw [hdg] at hd₂; cases hd₂; rfl
    subst hlen
    have hs₂ : s₂ = (({ U with heap := s₂.heap, slotsUsed := s₂.slotsUsed } : State).setVm s₂.vm).setTop { g with pc := g.pc + len₂, stack := v.toList ++ g.stack } := by
      refine e3.trans ?_
      rw [hf₂, State.calling_eq h.top, State.setFrames_setFrames, State.setTop_of_frames _ hr', hr]
      rfl
    have hsame : U.sameButNew ({ U with heap := s₂.heap, slotsUsed := s₂.slotsUsed } : State) L mc ms := by
      refine ⟨?_, q2, q3, q4, q5, q6⟩
      obtain ⟨t, ht, -⟩ := State.frames_cons hr
      show ({ U with heap := s₂.heap, slotsUsed := s₂.slotsUsed } : State) = { U.setFrames U.frames with heap := s₂.heap, slotsUsed := s₂.slotsUsed }
      rw [State.setFrames_self ht]
    subst hg
    refine Or.inl ⟨v, ⟨(({ U with heap := s₂.heap, slotsUsed := s₂.slotsUsed } : State).setVm s₂.vm), Ls ++ L, c0 + mc, s0 + ms⟩,
      ⟨X.admits, X.cas, X.clock, X.frames, X.room, X.hears, X.method, X.code, (X.here.setHeapUsed s₂.heap s₂.slotsUsed).setVm hW'.alike, X.tail, State.WarmedH.trans X.warmed hW', X.limits, X.bytes, X.same.trans (hsame.setVm s.vm)⟩,
      ⟨g, mk, s₂, L, rfl, rfl, hqc, rfl, hL, rfl, rfl⟩, ?_⟩
    show Steps p.tables e below _ ((({ U with heap := s₂.heap, slotsUsed := s₂.slotsUsed } : State).setVm s₂.vm).setTop { g with pc := g.pc + len₂, stack := v.toList ++ g.stack })
    rw [← hs₂]
    exact hsteps
  · obtain ⟨e2, q2, q3, q4, q5, q6⟩ := id hsm
    have e3 : s₂ = ({ (U.calling g mk a).setFrames s₂.frames with heap := s₂.heap, slotsUsed := s₂.slotsUsed } : State).setVm s₂.vm := by
      have : s₂ = ({ s₂ with vm := (U.calling g mk a).vm } : State).setVm s₂.vm := rfl
      rw [e2] at this
      exact this
    have hf₂ : s₂.frames = .throwing q :: .java g :: U.frames.tail := hend
    have hW' : U.WarmedH s₂.vm := hW₂
    have hs₂ : s₂ = ((({ U with heap := s₂.heap, slotsUsed := s₂.slotsUsed } : State).setVm s₂.vm).setTop g).pushFrame (.throwing q) := by
      refine e3.trans ?_
      rw [hf₂, State.calling_eq h.top, State.setFrames_setFrames, State.pushFrame, State.frames_setTop _ hr', State.setTop_of_frames _ hr', State.setFrames_setFrames, hr]
      rfl
    have hsame : U.sameButNew ({ U with heap := s₂.heap, slotsUsed := s₂.slotsUsed } : State) L mc ms := by
      refine ⟨?_, q2, q3, q4, q5, q6⟩
      obtain ⟨t, ht, -⟩ := State.frames_cons hr
      show ({ U with heap := s₂.heap, slotsUsed := s₂.slotsUsed } : State) = { U.setFrames U.frames with heap := s₂.heap, slotsUsed := s₂.slotsUsed }
      rw [State.setFrames_self ht]
    subst hg
    refine Or.inr ⟨q, ⟨(({ U with heap := s₂.heap, slotsUsed := s₂.slotsUsed } : State).setVm s₂.vm), Ls ++ L, c0 + mc, s0 + ms⟩,
      ⟨X.admits, X.cas, X.clock, X.frames, X.room, X.hears, X.method, X.code, (X.here.setHeapUsed s₂.heap s₂.slotsUsed).setVm hW'.alike, X.tail, State.WarmedH.trans X.warmed hW', X.limits, X.bytes, X.same.trans (hsame.setVm s.vm)⟩,
      ⟨g, mk, s₂, L, E, ce, rfl, rfl, hx, hce, hcv, hcl, rfl, hL, rfl, rfl⟩, ?_⟩
    show Steps p.tables e below _ (((({ U with heap := s₂.heap, slotsUsed := s₂.slotsUsed } : State).setVm s₂.vm).setTop g).pushFrame (.throwing q))
    rw [← hs₂]
    exact hsteps
end Payer
section Calls
variable {p : Program} {l : Launch} {e : Env} {R : Room} {s : State} {m : MethodId} {args : Array Value} {below : List Frame} {meth : Method} {c : Code} {T : State} {locs : List Loc} {cells slots : Nat}
theorem vx_callV (X : Stand p l e R s m args below meth c T locs cells slots) (hexec : p.tables.exec = Jvm.exec) {own C : String} {index : Nat} {y : MethodName} {bytes : ByteArray} {maxL : Nat} {ret : Option FieldType}
    (hown : s.vm.findClass own = some m.cls) (hlink : (Cond.methodLink own index y).before args s = true) (hinst : (Cond.instanceMethod y).before args s = true) (hsel : (Cond.selects C y y).before args s = true)
    (hcode : (Cond.code y bytes maxL ret).before args s = true) (hy : y.cls ≠ "java/lang/invoke/MethodHandle" ∧ y.cls ≠ "java/lang/invoke/VarHandle")
    {W9 : Nat} {Pre : Pt → Array Value → Prop} {Post : Pt → Array Value → Option Value → Pt → Prop} {PostX : Pt → Array Value → Addr → Pt → Prop} (hK : vx_Back l R p e below s args y 3 W9 Pre Post PostX)
    {b : Addr} {cellB : Cell} (hcell : T.heap[b]? = some cellB) (hobj : cellB.vm.isStatics = false) (hcls : s.vm.findClass C = some cellB.cls)
    {g : JFrame} (hg : g.method = m) (hsize : g.locals.size = c.maxLocals) {argsL rest : List Value} (hlen : ∀ sig, parseMethodDescriptor y.desc = some sig → argsL.length = sig.parameters.length)
    (hstack : g.stack = argsL.reverse ++ .ref b :: rest) (hW : 2 * g.monitorRoom + (rest.map fun v => v.category).sum ≤ W9) (hdg : decode c.code g.pc = .ok (.invokevirtual index, 3))
    (hpre : ∀ vm₁, s.WarmedH vm₁ → Pre ⟨T.setVm vm₁, locs, cells, slots⟩ (Value.ref b :: argsL).toArray) :
    (∃ (v : Option Value) (vm₁ : Vm) (B : Pt), s.WarmedH vm₁ ∧ Stand p l e R s m args below meth c B.U B.locs B.cells B.slots ∧ Post ⟨T.setVm vm₁, locs, cells, slots⟩ (Value.ref b :: argsL).toArray v B ∧
      ∀ target, Steps p.tables e below (B.U.setTop { g with pc := g.pc + 3, stack := v.toList ++ rest }) target → Steps p.tables e below (T.setTop g) target) ∨
    (∃ (q : Addr) (vm₁ : Vm) (B : Pt), s.WarmedH vm₁ ∧ Stand p l e R s m args below meth c B.U B.locs B.cells B.slots ∧ PostX ⟨T.setVm vm₁, locs, cells, slots⟩ (Value.ref b :: argsL).toArray q B ∧
      Steps p.tables e below (T.setTop g) ((B.U.setTop { g with stack := rest }).pushFrame (.throwing q))) := by
  obtain ⟨mk, methM, hnamed, hmethM, hstM, habM⟩ := Cond.instanceMethod_spec hinst
  obtain ⟨methM', cM, hmethM', -, -, -, -, -, -, hsigM⟩ := Cond.code_spec hnamed hcode
  cases hmethM.symm.trans hmethM'
  obtain ⟨c2, r2, m2, q1, q2, q3, q4, kP, hkP, hkPi⟩ := Cond.selects_spec hsel
  cases hcls.symm.trans q1
  cases (State.methodFound?_of_named hnamed hy).symm.trans q2
  cases hnamed.symm.trans q3
  have hselP : selectMethod e.platform s.vm cellB.cls mk = .method mk := by rw [Launch.admits_selectMethod X.admits]; exact q4
  obtain ⟨vm₁, X₁, hstep₁⟩ := X.invokevirtual hexec hown hlink hnamed hmethM hstM hkP hkPi hy (a := b) (cell := cellB) hcell
    (fun z h => by rw [h] at hobj; cases hobj) hselP hmethM habM hkP hkPi (g := g) hg (argsL := argsL) (rest := rest) (hlen _ hsigM) hstack hdg
  rcases hK m meth c ⟨T.setVm vm₁, locs, cells, slots⟩ { g with stack := rest } (.invokevirtual index) mk (Value.ref b :: argsL).toArray X₁ hg hsize hdg hW (X₁.named hnamed) (hpre vm₁ X₁.warmed) with ⟨v, B, X', hpost, hsteps⟩ | ⟨q, B, X', hpost, hsteps⟩
  · exact Or.inl ⟨v, vm₁, B, X₁.warmed, X', hpost, fun target h => hstep₁ _ fun acts => by rw [doInvoke_state]; exact hsteps.trans h⟩
  · exact Or.inr ⟨q, vm₁, B, X₁.warmed, X', hpost, hstep₁ _ fun acts => by rw [doInvoke_state]; exact hsteps⟩
theorem vx_callS (X : Stand p l e R s m args below meth c T locs cells slots) (hexec : p.tables.exec = Jvm.exec) {own : String} {index : Nat} {y : MethodName} {bytes : ByteArray} {maxL : Nat} {ret : Option FieldType}
    (hown : s.vm.findClass own = some m.cls) (hlink : (Cond.methodLink own index y).before args s = true) (hstat : (Cond.static y).before args s = true) (hinit : (Cond.initialized y.cls).before args s = true)
    (hcode : (Cond.code y bytes maxL ret).before args s = true) (hy : y.cls ≠ "java/lang/invoke/MethodHandle" ∧ y.cls ≠ "java/lang/invoke/VarHandle")
    {W9 : Nat} {Pre : Pt → Array Value → Prop} {Post : Pt → Array Value → Option Value → Pt → Prop} {PostX : Pt → Array Value → Addr → Pt → Prop} (hK : vx_Back l R p e below s args y 3 W9 Pre Post PostX)
    {g : JFrame} (hg : g.method = m) (hsize : g.locals.size = c.maxLocals) {argsL rest : List Value} (hlen : ∀ sig, parseMethodDescriptor y.desc = some sig → argsL.length = sig.parameters.length)
    (hstack : g.stack = argsL.reverse ++ rest) (hW : 2 * g.monitorRoom + (rest.map fun v => v.category).sum ≤ W9) (hdg : decode c.code g.pc = .ok (.invokestatic index, 3))
    (hpre : ∀ vm₁, s.WarmedH vm₁ → Pre ⟨T.setVm vm₁, locs, cells, slots⟩ argsL.toArray) :
    (∃ (v : Option Value) (vm₁ : Vm) (B : Pt), s.WarmedH vm₁ ∧ Stand p l e R s m args below meth c B.U B.locs B.cells B.slots ∧ Post ⟨T.setVm vm₁, locs, cells, slots⟩ argsL.toArray v B ∧
      ∀ target, Steps p.tables e below (B.U.setTop { g with pc := g.pc + 3, stack := v.toList ++ rest }) target → Steps p.tables e below (T.setTop g) target) ∨
    (∃ (q : Addr) (vm₁ : Vm) (B : Pt), s.WarmedH vm₁ ∧ Stand p l e R s m args below meth c B.U B.locs B.cells B.slots ∧ PostX ⟨T.setVm vm₁, locs, cells, slots⟩ argsL.toArray q B ∧
      Steps p.tables e below (T.setTop g) ((B.U.setTop { g with stack := rest }).pushFrame (.throwing q))) := by
  obtain ⟨mk, hnamed⟩ := Cond.code_named hcode
  obtain ⟨methM, cM, hmethM, -, -, -, -, -, -, hsigM⟩ := Cond.code_spec hnamed hcode
  have hstatic : methM.isStatic = true := Cond.static_spec hnamed hmethM hstat
  obtain ⟨kP, hkP, -⟩ := className_of_methodNamed hnamed
  have hinitP : kP.init = .initialized := Cond.initialized_spec (findClass_of_methodNamed hnamed) hkP hinit
  obtain ⟨vm₁, X₁, hstep₁⟩ := X.invokestatic hexec hown hlink hnamed hmethM hstatic hkP hinitP hy (g := g) hg (argsL := argsL) (rest := rest) (hlen _ hsigM) hstack hdg
  rcases hK m meth c ⟨T.setVm vm₁, locs, cells, slots⟩ { g with stack := rest } (.invokestatic index) mk argsL.toArray X₁ hg hsize hdg hW (X₁.named hnamed) (hpre vm₁ X₁.warmed) with ⟨v, B, X', hpost, hsteps⟩ | ⟨q, B, X', hpost, hsteps⟩
  · exact Or.inl ⟨v, vm₁, B, X₁.warmed, X', hpost, fun target h => hstep₁ _ fun acts => by rw [doInvoke_state]; exact hsteps.trans h⟩
  · exact Or.inr ⟨q, vm₁, B, X₁.warmed, X', hpost, hstep₁ _ fun acts => by rw [doInvoke_state]; exact hsteps⟩
end Calls
theorem vx_cls {s : State} {T : State} {vm₁ : Vm} {E : String} {k : ClassId} (hW : s.WarmedH vm₁) (h : (T.setVm vm₁).vm.findClass E = some k) : s.vm.findClass E = some k := by
  have h1 : vm₁.findClass E = some k := h
  rw [hW.alike.findClass] at h1
  exact h1
/-- the method's frame g, with q thrown over it -/
def vx_W (p : Program) (l : Launch) (e : Env) (R : Room) (s : State) (m : MethodId) (args : Array Value) (below : List Frame) (meth : Method) (c : Code) (H : Heap) (locs : List Loc) (cells slots : Nat) (Q : State → Prop) (g : JFrame) (q : Addr) : Prop :=
  ∀ T : State, T.heap = H → Stand p l e R s m args below meth c T locs cells slots → ∃ t, Steps p.tables e below ((T.setTop g).pushFrame (.throwing q)) t ∧ Q t
def vx_Run (p : Program) (l : Launch) (e : Env) (R : Room) (s : State) (m : MethodId) (args : Array Value) (below : List Frame) (meth : Method) (c : Code) (H : Heap) (locs : List Loc) (cells slots mc ms : Nat) (g : JFrame) (rest : List Value) (Qa : State → Outcome → State → Prop) (XC : String → State → State → Prop) (free : Addr → Prop) : Prop :=
  ∀ T : State, T.heap = H → Stand p l e R s m args below meth c T locs cells slots →
    (∃ (v : Option Value) (st₀ t T' : State) (L : List Loc), st₀.heap = H ∧ Stand p l e R s m args below meth c T' (locs ++ L) (cells + mc) (slots + ms) ∧ (∀ q ∈ L, free q.base) ∧ T'.heap = t.heap ∧ T'.vm = t.vm ∧ Qa st₀ (.returned v) t ∧
      Goes p e below T g T' { g with pc := g.pc + 3, stack := v.toList ++ rest }) ∨
    (∃ (q : Addr) (st₀ t T' : State) (L : List Loc) (E : String) (ce : Cell), st₀.heap = H ∧ Stand p l e R s m args below meth c T' (locs ++ L) (cells + mc) (slots + ms) ∧ (∀ z ∈ L, free z.base) ∧ T'.heap = t.heap ∧ T'.vm = t.vm ∧ XC E st₀ t ∧ t.heap[q]? = some ce ∧ ce.vm = .none ∧ s.vm.findClass E = some ce.cls ∧
      Steps p.tables e below (T.setTop g) ((T'.setTop { g with stack := rest }).pushFrame (.throwing q)))
def vx_X {S : Type} (px : S → Prop) (B : String → S → State → Prop) (A : Nat → Prop) : String → State → State → Prop := fun E st t => ∃ u : S, px u ∧ B E u t ∧ va_F A st t
section Runs
variable {p : Program} {l : Launch} {e : Env} {R : Room} {s : State} {m : MethodId} {args : Array Value} {below : List Frame} {meth : Method} {c : Code} {H : Heap} {locs : List Loc} {cells slots : Nat}
variable {y : MethodName} {bytes cc : ByteArray} {maxL nL mc ms n index : Nat} {ret : Option FieldType} {ws : List Cond} {rm : Room} {Pc : Array Value → State → Prop} {Qc : Array Value → State → Outcome → State → Prop} {XC : String → State → State → Prop} {free : Addr → Prop} {Ts : List Cond} {own C : String} {b : Addr} {As rest : List Value} {g : JFrame}
theorem vx_callBack (cb : CallB R s args own index y bytes maxL ret ws rm mc ms n) (hM : vx_Met l y ws rm Pc Qc XC mc ms free) (hbl : FrameBlind Pc) : vx_Back l R p e below s args y 3 8 (PreOf R mc ms Pc) (PostOf Qc mc ms free) (vx_Post XC mc ms free) := by
  obtain ⟨hrc, hrs, hfr, hlo, hws, hcw, -, hini, -⟩ := cb
  exact vx_back (bytes := bytes) (maxL := maxL) (ret := ret) hM hbl hrc hrs hfr hlo hws hcw (fun a' U hW => word_at hW (Or.inl (by first | rfl | simp [Cond.onTables, Cond.keeps, Cond.steady])) hini)
theorem vx_runV (S : CallFix p m c cc nL s args Ts own) (hM : vx_Met l y ws rm Pc Qc XC mc ms free) (cw : CallW R s args own C index y bytes maxL ret ws rm mc ms n) (hp : PreV s H C b Pc As)
    (hg : g.method = m) (hn : As.length = n) (hsize : g.locals.size = nL) (hstack : g.stack = As.reverse ++ .ref b :: rest) (hW : 2 * g.monitorRoom + (rest.map fun v => v.category).sum ≤ 8) (hdg : decode cc g.pc = .ok (.invokevirtual index, 3)) (hf : cells + mc ≤ R.cells ∧ slots + ms ≤ R.slots) :
    vx_Run p l e R s m args below meth c H locs cells slots mc ms g rest (Qc (Value.ref b :: As).toArray) XC free := by
  have hK : vx_Back l R p e below s args y 3 8 (PreOf R mc ms Pc) (PostOf Qc mc ms free) (vx_Post XC mc ms free) := vx_callBack cw.1 hM hp.1
  obtain ⟨⟨-, -, -, -, -, -, hcode, -, hy, hlen, hl⟩, hin, hse⟩ := cw
  obtain ⟨hx, hb, hml, ho, -⟩ := S
  obtain ⟨-, ⟨cellB, hcB, hoB, hclB⟩, hPc⟩ := hp
  intro T hT X
  rcases vx_callV X hx (C := C) (bytes := bytes) (maxL := maxL) (ret := ret) ho hl hin hse hcode hy hK (by rw [hT]; exact hcB) hoB hclB hg (hsize.trans hml.symm) (argsL := As) (rest := rest) (fun sig h => hn.trans (hlen sig h)) hstack hW (by rw [hb]; exact hdg)
    (fun vm₁ hW₁ => ⟨hf.1, hf.2, hPc (T.setVm vm₁) hT hW₁⟩) with ⟨v, vm₁, ⟨U', l2, c2, s2⟩, hW₁, X', ⟨g', mk, t, L, e1, e2, hq, h1, hL, h2, h3⟩, st⟩ | ⟨q, vm₁, ⟨U', l2, c2, s2⟩, hW₁, X', ⟨g', mk, t, L, E, ce, e1, e2, hq, hce, hcv, hcl, h1, hL, h2, h3⟩, st⟩
  · dsimp only [Pt.U, Pt.locs, Pt.cells, Pt.slots] at X' e1 e2 h1 h2 h3 st
    subst h1; subst h2; subst h3
    exact Or.inl ⟨v, (T.setVm vm₁).calling g' mk (Value.ref b :: As).toArray, t, U', L, hT, X', hL, e1, e2, hq, st⟩
  · dsimp only [Pt.U, Pt.locs, Pt.cells, Pt.slots] at X' e1 e2 h1 h2 h3 st hcl
    subst h1; subst h2; subst h3
    exact Or.inr ⟨q, (T.setVm vm₁).calling g' mk (Value.ref b :: As).toArray, t, U', L, E, ce, hT, X', hL, e1, e2, hq, hce, hcv, vx_cls hW₁ hcl, st⟩
theorem vx_runS (S : CallFix p m c cc nL s args Ts own) (hM : vx_Met l y ws rm Pc Qc XC mc ms free) (cw : CallB R s args own index y bytes maxL ret ws rm mc ms n ∧ (Cond.static y).before args s = true) (hp : PreS s H Pc As)
    (hg : g.method = m) (hn : As.length = n) (hsize : g.locals.size = nL) (hstack : g.stack = As.reverse ++ rest) (hW : 2 * g.monitorRoom + (rest.map fun v => v.category).sum ≤ 8) (hdg : decode cc g.pc = .ok (.invokestatic index, 3)) (hf : cells + mc ≤ R.cells ∧ slots + ms ≤ R.slots) :
    vx_Run p l e R s m args below meth c H locs cells slots mc ms g rest (Qc As.toArray) XC free := by
  have hK : vx_Back l R p e below s args y 3 8 (PreOf R mc ms Pc) (PostOf Qc mc ms free) (vx_Post XC mc ms free) := vx_callBack cw.1 hM hp.1
  obtain ⟨⟨-, -, -, -, -, -, hcode, hini, hy, hlen, hl⟩, hstt⟩ := cw
  obtain ⟨hx, hb, hml, ho, -⟩ := S
  intro T hT X
  rcases vx_callS X hx (bytes := bytes) (maxL := maxL) (ret := ret) ho hl hstt hini hcode hy hK hg (hsize.trans hml.symm) (argsL := As) (rest := rest) (fun sig h => hn.trans (hlen sig h)) hstack hW (by rw [hb]; exact hdg)
    (fun vm₁ hW₁ => ⟨hf.1, hf.2, hp.2 (T.setVm vm₁) hT hW₁⟩) with ⟨v, vm₁, ⟨U', l2, c2, s2⟩, hW₁, X', ⟨g', mk, t, L, e1, e2, hq, h1, hL, h2, h3⟩, st⟩ | ⟨q, vm₁, ⟨U', l2, c2, s2⟩, hW₁, X', ⟨g', mk, t, L, E, ce, e1, e2, hq, hce, hcv, hcl, h1, hL, h2, h3⟩, st⟩
  · dsimp only [Pt.U, Pt.locs, Pt.cells, Pt.slots] at X' e1 e2 h1 h2 h3 st
    subst h1; subst h2; subst h3
    exact Or.inl ⟨v, (T.setVm vm₁).calling g' mk As.toArray, t, U', L, hT, X', hL, e1, e2, hq, st⟩
  · dsimp only [Pt.U, Pt.locs, Pt.cells, Pt.slots] at X' e1 e2 h1 h2 h3 st hcl
    subst h1; subst h2; subst h3
    exact Or.inr ⟨q, (T.setVm vm₁).calling g' mk As.toArray, t, U', L, E, ce, hT, X', hL, e1, e2, hq, hce, hcv, vx_cls hW₁ hcl, st⟩
end Runs
section Rows
variable {p : Program} {l : Launch} {e : Env} {R : Room} {s : State} {m : MethodId} {args : Array Value} {below : List Frame} {meth : Method} {c : Code} {H : Heap} {locs : List Loc} {cells slots : Nat} {Q : State → Prop}
variable {mc ms : Nat} {free : Addr → Prop} {A0 A1 : Nat → Prop} {H0 : Heap} {a : Array Value} {pc : Nat} {ls : Array Slot} {st0 rest : List Value}
theorem vx_keep {st₀ t T' : State} {L : List Loc} (h0 : st₀.heap = H) (e1 : T'.heap = t.heap) (hS : va_S A0 H0 H locs) (hA : ∀ q, q < H.size → A1 q → A0 q) (hf : ∀ q, free q → A0 q) (hL : ∀ q ∈ L, free q.base) (hF : va_F A1 st₀ t) :
    H.size ≤ T'.heap.size ∧ (∀ q : Nat, q < H.size → ¬ A1 q → T'.heap[q]? = H[q]?) ∧ va_S A0 H0 T'.heap (locs ++ L) := by
  obtain ⟨hz, hk⟩ := hF
  rw [h0] at hz hk
  exact ⟨by rw [e1]; exact hz, fun q h1 h2 => by rw [e1]; exact hk q h1 h2,
    ⟨Nat.le_trans hS.1 (by rw [e1]; exact hz), fun q h1 h2 => by rw [e1, hk q (Nat.lt_of_lt_of_le h1 hS.1) (fun z => h2 (hA q (Nat.lt_of_lt_of_le h1 hS.1) z))]; exact hS.2.1 q h1 h2, fun q hq => by
      rcases List.mem_append.mp hq with h | h
      · exact hS.2.2 q h
      · exact hf _ (hL q h)⟩⟩
theorem vx_calli {S SX : Type} {post : Int32 → S → Prop} {px : SX → Prop} {B : S → State → Prop} {BX : String → SX → State → Prop} {AX : Nat → Prop} (hr : vx_Run p l e R s m args below meth c H locs cells slots mc ms (F0 m pc ls st0) rest (va_Qi post B A1 a) (vx_X px BX AX) free) (hS : va_S A0 H0 H locs) (hA : ∀ q, q < H.size → A1 q → A0 q) (hf : ∀ q, free q → A0 q) (hAX : ∀ q, q < H.size → AX q → A0 q)
    (kx : ∀ (E : String) (ce : Cell) (q9 : Addr) (u : SX) (t : State) (H1 : Heap) (locs1 : List Loc), t.heap = H1 → s.vm.Alike t.vm → px u → BX E u t → H.size ≤ H1.size → (∀ q : Nat, q < H.size → ¬ AX q → H1[q]? = H[q]?) → va_S A0 H0 H1 locs1 → H1[q9]? = some ce → ce.vm = .none → s.vm.findClass E = some ce.cls → vx_W p l e R s m args below meth c H1 locs1 (cells + mc) (slots + ms) Q (F0 m pc ls rest) q9)
    (kk : ∀ (r : Int32) (u : S) (t : State) (H1 : Heap) (locs1 : List Loc), t.heap = H1 → s.vm.Alike t.vm → post r u → B u t → H.size ≤ H1.size → (∀ q : Nat, q < H.size → ¬ A1 q → H1[q]? = H[q]?) → va_S A0 H0 H1 locs1 → W p l e R s m args below meth c H1 locs1 (cells + mc) (slots + ms) Q (F0 m (pc + 3) ls (.int r :: rest))) : W p l e R s m args below meth c H locs cells slots Q (F0 m pc ls st0) := by
  intro T hT X
  rcases hr T hT X with ⟨v, st₀, t, T', L, h0, X', hL, e1, e2, ⟨⟨r, u, hv, hp, hb⟩, hF⟩, st⟩ | ⟨q, st₀, t, T', L, E, ce, h0, X', hL, e1, e2, ⟨u, hp, hb, hF⟩, hce, hcv, hcl, st⟩
  · cases hv
    obtain ⟨k1, k2, k3⟩ := vx_keep h0 e1 hS hA hf hL hF
    obtain ⟨t2, a1, b1⟩ := kk r u t T'.heap (locs ++ L) e1.symm (by rw [← e2]; exact X'.warmed.alike) hp hb k1 k2 k3 T' rfl X'
    exact ⟨t2, st t2 a1, b1⟩
  · obtain ⟨k1, k2, k3⟩ := vx_keep h0 e1 hS hAX hf hL hF
    obtain ⟨t2, a1, b1⟩ := kx E ce q u t T'.heap (locs ++ L) e1.symm (by rw [← e2]; exact X'.warmed.alike) hp hb k1 k2 k3 (by rw [e1]; exact hce) hcv hcl T' rfl X'
    exact ⟨t2, st.trans a1, b1⟩
theorem vx_calll {S SX : Type} {post : Int64 → S → Prop} {px : SX → Prop} {B : S → State → Prop} {BX : String → SX → State → Prop} {AX : Nat → Prop} (hr : vx_Run p l e R s m args below meth c H locs cells slots mc ms (F0 m pc ls st0) rest (va_Ql post B A1 a) (vx_X px BX AX) free) (hS : va_S A0 H0 H locs) (hA : ∀ q, q < H.size → A1 q → A0 q) (hf : ∀ q, free q → A0 q) (hAX : ∀ q, q < H.size → AX q → A0 q)
    (kx : ∀ (E : String) (ce : Cell) (q9 : Addr) (u : SX) (t : State) (H1 : Heap) (locs1 : List Loc), t.heap = H1 → s.vm.Alike t.vm → px u → BX E u t → H.size ≤ H1.size → (∀ q : Nat, q < H.size → ¬ AX q → H1[q]? = H[q]?) → va_S A0 H0 H1 locs1 → H1[q9]? = some ce → ce.vm = .none → s.vm.findClass E = some ce.cls → vx_W p l e R s m args below meth c H1 locs1 (cells + mc) (slots + ms) Q (F0 m pc ls rest) q9)
    (kk : ∀ (r : Int64) (u : S) (t : State) (H1 : Heap) (locs1 : List Loc), t.heap = H1 → s.vm.Alike t.vm → post r u → B u t → H.size ≤ H1.size → (∀ q : Nat, q < H.size → ¬ A1 q → H1[q]? = H[q]?) → va_S A0 H0 H1 locs1 → W p l e R s m args below meth c H1 locs1 (cells + mc) (slots + ms) Q (F0 m (pc + 3) ls (.long r :: rest))) : W p l e R s m args below meth c H locs cells slots Q (F0 m pc ls st0) := by
  intro T hT X
  rcases hr T hT X with ⟨v, st₀, t, T', L, h0, X', hL, e1, e2, ⟨⟨r, u, hv, hp, hb⟩, hF⟩, st⟩ | ⟨q, st₀, t, T', L, E, ce, h0, X', hL, e1, e2, ⟨u, hp, hb, hF⟩, hce, hcv, hcl, st⟩
  · cases hv
    obtain ⟨k1, k2, k3⟩ := vx_keep h0 e1 hS hA hf hL hF
    obtain ⟨t2, a1, b1⟩ := kk r u t T'.heap (locs ++ L) e1.symm (by rw [← e2]; exact X'.warmed.alike) hp hb k1 k2 k3 T' rfl X'
    exact ⟨t2, st t2 a1, b1⟩
  · obtain ⟨k1, k2, k3⟩ := vx_keep h0 e1 hS hAX hf hL hF
    obtain ⟨t2, a1, b1⟩ := kx E ce q u t T'.heap (locs ++ L) e1.symm (by rw [← e2]; exact X'.warmed.alike) hp hb k1 k2 k3 (by rw [e1]; exact hce) hcv hcl T' rfl X'
    exact ⟨t2, st.trans a1, b1⟩
theorem vx_callf {S SX : Type} {post : UInt32 → S → Prop} {px : SX → Prop} {B : S → State → Prop} {BX : String → SX → State → Prop} {AX : Nat → Prop} (hr : vx_Run p l e R s m args below meth c H locs cells slots mc ms (F0 m pc ls st0) rest (va_Qf post B A1 a) (vx_X px BX AX) free) (hS : va_S A0 H0 H locs) (hA : ∀ q, q < H.size → A1 q → A0 q) (hf : ∀ q, free q → A0 q) (hAX : ∀ q, q < H.size → AX q → A0 q)
    (kx : ∀ (E : String) (ce : Cell) (q9 : Addr) (u : SX) (t : State) (H1 : Heap) (locs1 : List Loc), t.heap = H1 → s.vm.Alike t.vm → px u → BX E u t → H.size ≤ H1.size → (∀ q : Nat, q < H.size → ¬ AX q → H1[q]? = H[q]?) → va_S A0 H0 H1 locs1 → H1[q9]? = some ce → ce.vm = .none → s.vm.findClass E = some ce.cls → vx_W p l e R s m args below meth c H1 locs1 (cells + mc) (slots + ms) Q (F0 m pc ls rest) q9)
    (kk : ∀ (r : UInt32) (u : S) (t : State) (H1 : Heap) (locs1 : List Loc), t.heap = H1 → s.vm.Alike t.vm → post r u → B u t → H.size ≤ H1.size → (∀ q : Nat, q < H.size → ¬ A1 q → H1[q]? = H[q]?) → va_S A0 H0 H1 locs1 → W p l e R s m args below meth c H1 locs1 (cells + mc) (slots + ms) Q (F0 m (pc + 3) ls (.float r :: rest))) : W p l e R s m args below meth c H locs cells slots Q (F0 m pc ls st0) := by
  intro T hT X
  rcases hr T hT X with ⟨v, st₀, t, T', L, h0, X', hL, e1, e2, ⟨⟨r, u, hv, hp, hb⟩, hF⟩, st⟩ | ⟨q, st₀, t, T', L, E, ce, h0, X', hL, e1, e2, ⟨u, hp, hb, hF⟩, hce, hcv, hcl, st⟩
  · cases hv
    obtain ⟨k1, k2, k3⟩ := vx_keep h0 e1 hS hA hf hL hF
    obtain ⟨t2, a1, b1⟩ := kk r u t T'.heap (locs ++ L) e1.symm (by rw [← e2]; exact X'.warmed.alike) hp hb k1 k2 k3 T' rfl X'
    exact ⟨t2, st t2 a1, b1⟩
  · obtain ⟨k1, k2, k3⟩ := vx_keep h0 e1 hS hAX hf hL hF
    obtain ⟨t2, a1, b1⟩ := kx E ce q u t T'.heap (locs ++ L) e1.symm (by rw [← e2]; exact X'.warmed.alike) hp hb k1 k2 k3 (by rw [e1]; exact hce) hcv hcl T' rfl X'
    exact ⟨t2, st.trans a1, b1⟩
theorem vx_calld {S SX : Type} {post : UInt64 → S → Prop} {px : SX → Prop} {B : S → State → Prop} {BX : String → SX → State → Prop} {AX : Nat → Prop} (hr : vx_Run p l e R s m args below meth c H locs cells slots mc ms (F0 m pc ls st0) rest (va_Qd post B A1 a) (vx_X px BX AX) free) (hS : va_S A0 H0 H locs) (hA : ∀ q, q < H.size → A1 q → A0 q) (hf : ∀ q, free q → A0 q) (hAX : ∀ q, q < H.size → AX q → A0 q)
    (kx : ∀ (E : String) (ce : Cell) (q9 : Addr) (u : SX) (t : State) (H1 : Heap) (locs1 : List Loc), t.heap = H1 → s.vm.Alike t.vm → px u → BX E u t → H.size ≤ H1.size → (∀ q : Nat, q < H.size → ¬ AX q → H1[q]? = H[q]?) → va_S A0 H0 H1 locs1 → H1[q9]? = some ce → ce.vm = .none → s.vm.findClass E = some ce.cls → vx_W p l e R s m args below meth c H1 locs1 (cells + mc) (slots + ms) Q (F0 m pc ls rest) q9)
    (kk : ∀ (r : UInt64) (u : S) (t : State) (H1 : Heap) (locs1 : List Loc), t.heap = H1 → s.vm.Alike t.vm → post r u → B u t → H.size ≤ H1.size → (∀ q : Nat, q < H.size → ¬ A1 q → H1[q]? = H[q]?) → va_S A0 H0 H1 locs1 → W p l e R s m args below meth c H1 locs1 (cells + mc) (slots + ms) Q (F0 m (pc + 3) ls (.double r :: rest))) : W p l e R s m args below meth c H locs cells slots Q (F0 m pc ls st0) := by
  intro T hT X
  rcases hr T hT X with ⟨v, st₀, t, T', L, h0, X', hL, e1, e2, ⟨⟨r, u, hv, hp, hb⟩, hF⟩, st⟩ | ⟨q, st₀, t, T', L, E, ce, h0, X', hL, e1, e2, ⟨u, hp, hb, hF⟩, hce, hcv, hcl, st⟩
  · cases hv
    obtain ⟨k1, k2, k3⟩ := vx_keep h0 e1 hS hA hf hL hF
    obtain ⟨t2, a1, b1⟩ := kk r u t T'.heap (locs ++ L) e1.symm (by rw [← e2]; exact X'.warmed.alike) hp hb k1 k2 k3 T' rfl X'
    exact ⟨t2, st t2 a1, b1⟩
  · obtain ⟨k1, k2, k3⟩ := vx_keep h0 e1 hS hAX hf hL hF
    obtain ⟨t2, a1, b1⟩ := kx E ce q u t T'.heap (locs ++ L) e1.symm (by rw [← e2]; exact X'.warmed.alike) hp hb k1 k2 k3 (by rw [e1]; exact hce) hcv hcl T' rfl X'
    exact ⟨t2, st.trans a1, b1⟩
theorem vx_callv {S SX : Type} {post : S → Prop} {px : SX → Prop} {B : S → State → Prop} {BX : String → SX → State → Prop} {AX : Nat → Prop} (hr : vx_Run p l e R s m args below meth c H locs cells slots mc ms (F0 m pc ls st0) rest (va_Qv post B A1 a) (vx_X px BX AX) free) (hS : va_S A0 H0 H locs) (hA : ∀ q, q < H.size → A1 q → A0 q) (hf : ∀ q, free q → A0 q) (hAX : ∀ q, q < H.size → AX q → A0 q)
    (kx : ∀ (E : String) (ce : Cell) (q9 : Addr) (u : SX) (t : State) (H1 : Heap) (locs1 : List Loc), t.heap = H1 → s.vm.Alike t.vm → px u → BX E u t → H.size ≤ H1.size → (∀ q : Nat, q < H.size → ¬ AX q → H1[q]? = H[q]?) → va_S A0 H0 H1 locs1 → H1[q9]? = some ce → ce.vm = .none → s.vm.findClass E = some ce.cls → vx_W p l e R s m args below meth c H1 locs1 (cells + mc) (slots + ms) Q (F0 m pc ls rest) q9)
    (kk : ∀ (u : S) (t : State) (H1 : Heap) (locs1 : List Loc), t.heap = H1 → s.vm.Alike t.vm → post u → B u t → H.size ≤ H1.size → (∀ q : Nat, q < H.size → ¬ A1 q → H1[q]? = H[q]?) → va_S A0 H0 H1 locs1 → W p l e R s m args below meth c H1 locs1 (cells + mc) (slots + ms) Q (F0 m (pc + 3) ls (rest))) : W p l e R s m args below meth c H locs cells slots Q (F0 m pc ls st0) := by
  intro T hT X
  rcases hr T hT X with ⟨v, st₀, t, T', L, h0, X', hL, e1, e2, ⟨⟨u, hv, hp, hb⟩, hF⟩, st⟩ | ⟨q, st₀, t, T', L, E, ce, h0, X', hL, e1, e2, ⟨u, hp, hb, hF⟩, hce, hcv, hcl, st⟩
  · cases hv
    obtain ⟨k1, k2, k3⟩ := vx_keep h0 e1 hS hA hf hL hF
    obtain ⟨t2, a1, b1⟩ := kk u t T'.heap (locs ++ L) e1.symm (by rw [← e2]; exact X'.warmed.alike) hp hb k1 k2 k3 T' rfl X'
    exact ⟨t2, st t2 a1, b1⟩
  · obtain ⟨k1, k2, k3⟩ := vx_keep h0 e1 hS hAX hf hL hF
    obtain ⟨t2, a1, b1⟩ := kx E ce q u t T'.heap (locs ++ L) e1.symm (by rw [← e2]; exact X'.warmed.alike) hp hb k1 k2 k3 (by rw [e1]; exact hce) hcv hcl T' rfl X'
    exact ⟨t2, st.trans a1, b1⟩
/-- caught by the row x of this method's table; the rows ahead don't take it -/
theorem vx_catch {own name : String} {E : String} {ce : Cell} {q : Addr} (hown : s.vm.findClass own = some m.cls) (pre : List ExceptionTableEntry) (x : ExceptionTableEntry) (suf : List ExceptionTableEntry) (hsplit : c.exceptionTable.toList = pre ++ x :: suf)
    (hpass : ∀ z ∈ pre, covers z pc = false ∨ (z.catchType ≠ 0 ∧ ∃ nm : String, (Cond.classLink own z.catchType nm).before args s = true ∧ va_Nc E nm s)) (hx : covers x pc = true) (h0 : x.catchType ≠ 0)
    (hlink : (Cond.classLink own x.catchType name).before args s = true) (hcast : (Cond.castable E name).before args s = true) (hcell : H[q]? = some ce) (hv : ce.vm = .none) (hcl : s.vm.findClass E = some ce.cls)
    (kk : W p l e R s m args below meth c H locs cells slots Q (F0 m x.handlerPc ls [.ref q])) : vx_W p l e R s m args below meth c H locs cells slots Q (F0 m pc ls rest) q := by
  intro T hT X
  have hpl : e.platform.magicAccessors = ({} : Platform).magicAccessors := by rw [X.admits.platform]
  obtain ⟨c3, c4, hc3, hc4, hasg⟩ := Cond.castable_spec hcast
  cases Option.some.inj (hc3.symm.trans hcl)
  obtain ⟨c5, hc5, hcl5⟩ := Cond.classLink_spec hown hlink e.platform hpl
  cases Option.some.inj (hc4.symm.trans hc5)
  obtain ⟨vm', X', st⟩ := X.thenCaughtThrough q (g := F0 m pc ls rest) rfl (Steps.refl _) (by rw [hT]; exact hcell) (by rw [hv]; rfl) (by obtain ⟨k9, h9, -⟩ := Vm.findClass_spec hcl; exact ⟨k9, h9⟩) pre x suf hsplit
    (fun z hz => by
      rcases hpass z hz with h | ⟨hz0, nm, hl1, hn1⟩
      · exact Or.inl h
      · obtain ⟨c6, hc6, hcl6⟩ := Cond.classLink_spec hown hl1 e.platform hpl
        obtain ⟨a8, b8, h1, h2, h3⟩ := hn1
        cases Option.some.inj (h1.symm.trans hcl)
        cases Option.some.inj (h2.symm.trans hc6)
        exact Or.inr ⟨hz0, _, hcl6, h3⟩) hx (Or.inr ⟨h0, c4, hcl5, hasg⟩)
  obtain ⟨t, a1, b1⟩ := kk (T.setVm vm') hT X'
  exact ⟨t, st.trans a1, b1⟩
end Rows
section Ends
variable {p : Program} {l : Launch} {e : Env} {R : Room} {s : State} {m : MethodId} {args : Array Value} {below : List Frame} {meth : Method} {c : Code} {H : Heap} {locs : List Loc} {cells slots : Nat} {Q : State → Prop}
variable {mc ms : Nat} {free : Addr → Prop} {A0 A1 : Nat → Prop} {H0 : Heap} {a : Array Value} {ls : Array Slot} {st0 rest : List Value}
variable {Qc : Array Value → State → Outcome → State → Prop} {XC : String → State → State → Prop}
/-- what a body that may throw owes at its end -/
def vx_MQ (below : List Frame) (Qc : Array Value → State → Outcome → State → Prop) (XC : String → State → State → Prop) (a : Array Value) (s : State) (mc ms : Nat) (free : Addr → Prop) : State → Prop := fun t =>
  ∃ o, t.status = .running ∧ Ended t below o ∧ vx_Q Qc XC mc ms free a s o t
theorem vx_ret {g : JFrame} {mc ms : Nat} (k : W p l e R s m args below meth c H locs cells slots (MQ below Qc args s mc ms free) g) : W p l e R s m args below meth c H locs cells slots (vx_MQ below Qc XC args s mc ms free) g := by
  intro T hT X
  obtain ⟨t, a1, o, b1, b2, b3, b4⟩ := k T hT X
  exact ⟨t, a1, o, b1, b2, Or.inl ⟨b3, b4⟩⟩
/-- not caught here: it goes on to the caller -/
theorem vx_widen {g : JFrame} {q : Addr} {k n : Nat} (h1 : cells ≤ k) (h2 : slots ≤ n) (kk : vx_W p l e R s m args below meth c H locs k n Q g q) : vx_W p l e R s m args below meth c H locs cells slots Q g q := fun T hT X => kk T hT (stand_widen X h1 h2)
theorem vx_out {pc : Nat} {E : String} {ce : Cell} {q : Addr} {mc ms : Nat} (hout : ∀ x ∈ c.exceptionTable.toList, covers x pc = false) (hlocks : meth.locks = false) (hcell : H[q]? = some ce) (hv : ce.vm = .none) (hcl : s.vm.findClass E = some ce.cls)
    (hx : ∀ t : State, t.heap = H → s.vm.Alike t.vm → XC E s t) (hf : ∀ z ∈ locs, free z.base) (hc : cells ≤ mc) (hs : slots ≤ ms) :
    vx_W p l e R s m args below meth c H locs cells slots (vx_MQ below Qc XC args s mc ms free) (F0 m pc ls rest) q := by
  intro T hT X
  obtain ⟨st1, hrun, hend, hW, hsm⟩ := X.leaveThrown q (g := F0 m pc ls rest) rfl rfl rfl hout hlocks
  have hcell9 : (T.setFrames (.throwing q :: below)).heap[q]? = some ce := by
    show T.heap[q]? = some ce
    rw [hT]; exact hcell
  exact ⟨_, st1, .threw q, hrun, hend, Or.inr ⟨q, rfl, E, ce, locs, hx _ hT hW.alike, hcell9, hv, hcl, hW, hsm.mono hc hs, hf⟩⟩
theorem vx_frame {U : State} {k n : Nat} (h : s.sameButNew ({ U with vm := s.vm } : State) locs k n) : s.heap.size ≤ U.heap.size ∧ ∀ q : Nat, q < s.heap.size → (∀ z ∈ locs, z.base ≠ q) → U.heap[q]? = s.heap[q]? := by
  obtain ⟨-, h2, -, -, -, h6⟩ := h
  refine ⟨h2, fun q hq hz => ?_⟩
  obtain ⟨c9, e1, e2, e3, e4⟩ := h6 q _ (Array.getElem?_eq_getElem hq)
  have hs : c9.slots = (s.heap[q]).slots := Array.ext_getElem? fun i => e4 i fun hm => hz _ hm rfl
  have h9 : c9 = s.heap[q] := by
    rw [hs] at e2
    exact e2
  have e5 : U.heap[q]? = some c9 := e1
  rw [e5, h9, Array.getElem?_eq_getElem hq]
/-- the words of a throw but the four that speak of the heap -/
def vx_no (w : Cond) : Bool := decide (w ≠ .isRef (.static Bundle.tN "UNASSIGNED_STACK" Bundle.steD)) && decide (w ≠ .isRef (.static Bundle.tN "SUPPRESSED_SENTINEL" Bundle.listD)) && decide (w ≠ .laysStatic Bundle.tN "UNASSIGNED_STACK" Bundle.steD) && decide (w ≠ .laysStatic Bundle.tN "SUPPRESSED_SENTINEL" Bundle.listD)
def vx_at0 (own : String) (ic : Nat) (X : String) (names : List String) : List Cond := (Bundle.ownAtoms0 own ic X names).filter vx_no
def vx_atS (own : String) (ic : Nat) (X : String) (names : List String) : List Cond := (Bundle.ownAtoms own ic X names).filter vx_no
/-- a word that the tables alone decide, or a good one -/
def vx_ot (w : Cond) : Bool := w.onTables || goodWord w
theorem vx_ot_at {args a' : Array Value} {s U : State} {w : Cond} (hW : s.WarmedH U.vm) (hvm : s.vm = U.vm) (hg : vx_ot w = true) (h : w.before args s = true) : w.before a' U = true := by
  simp only [vx_ot, Bool.or_eq_true] at hg
  rcases hg with hg | hg
  · exact va_tabs hg hvm h
  · exact word_at hW (good_of_word hg) h
/-- a list's words: the good ones out of the method's own list, the others by premises of their own -/
theorem vx_hat {args : Array Value} {s : State} {L B : List Cond} (h1 : ∀ w ∈ L.filter goodWord, w.before args s = true) (h2 : ∀ w ∈ L.filter (fun w => !goodWord w), w ∈ B) (h3 : ∀ w ∈ B, w.before args s = true) : ∀ w ∈ L, w.before args s = true := by
  intro w hw
  by_cases g : goodWord w = true
  · exact h1 w (List.mem_filter.mpr ⟨hw, g⟩)
  · refine h3 w (h2 w (List.mem_filter.mpr ⟨hw, ?_⟩))
    show (!goodWord w) = true
    cases hgw : goodWord w
    · rfl
    · exact absurd hgw g
theorem vx_c {args : Array Value} {s : State} {w : Cond} {B : List Cond} (h : w.before args s = true) (t : ∀ w ∈ B, w.before args s = true) : ∀ w' ∈ w :: B, w'.before args s = true := fun w' h' => (List.mem_cons.mp h').elim (fun e => by rw [e]; exact h) (t w')
theorem vx_n {args : Array Value} {s : State} : ∀ w ∈ ([] : List Cond), w.before args s = true := fun _ h => nomatch h
theorem vx_own {args : Array Value} {s : State} {L : List Cond} (h1 : ∀ w ∈ L.filter vx_no, w.before args s = true)
    (hU : (Cond.isRef (.static Bundle.tN "UNASSIGNED_STACK" Bundle.steD)).before args s = true) (hN : (Cond.isRef (.static Bundle.tN "SUPPRESSED_SENTINEL" Bundle.listD)).before args s = true)
    (lU : (Cond.laysStatic Bundle.tN "UNASSIGNED_STACK" Bundle.steD).before args s = true) (lN : (Cond.laysStatic Bundle.tN "SUPPRESSED_SENTINEL" Bundle.listD).before args s = true) : ∀ w ∈ L, w.before args s = true := by
  intro w hw
  by_cases e1 : w = .isRef (.static Bundle.tN "UNASSIGNED_STACK" Bundle.steD)
  · rw [e1]; exact hU
  · by_cases e2 : w = .isRef (.static Bundle.tN "SUPPRESSED_SENTINEL" Bundle.listD)
    · rw [e2]; exact hN
    · by_cases e3 : w = .laysStatic Bundle.tN "UNASSIGNED_STACK" Bundle.steD
      · rw [e3]; exact lU
      · by_cases e4 : w = .laysStatic Bundle.tN "SUPPRESSED_SENTINEL" Bundle.listD
        · rw [e4]; exact lN
        · exact h1 w (List.mem_filter.mpr ⟨hw, by unfold vx_no; rw [decide_eq_true e1, decide_eq_true e2, decide_eq_true e3, decide_eq_true e4]; rfl⟩)
/-- where a static field lies, its class's statics cell in H -/
def vx_L (C n d : String) (A : Nat → Prop) (U : State) (H : Heap) : Prop := ∃ (c : ClassId) (k : Class) (i : Nat) (f : Field) (a : Nat) (cell : Cell), U.vm.findClass C = some c ∧ U.fieldFound? C n d = some (c, k, i, f) ∧ f.isStatic = true ∧ k.statics = some a ∧ H[a]? = some cell ∧ cell.vm.isStatics = true ∧ cell.cls = c ∧ f.slot < cell.slots.size ∧ k.staticTypes[f.slot]? = some f.type ∧ ¬ A a
theorem vx_L.moved {C n d : String} {A : Nat → Prop} {u U : State} {H : Heap} (hvm : u.vm.Alike U.vm) (h : vx_L C n d A u H) : vx_L C n d A U H := by
  obtain ⟨c, k, i, f, a, cell, h1, h2, h3, h4, h5, h6, h7, h8, h9, h10⟩ := h
  obtain ⟨k', hi', he⟩ := State.fieldFound?_setVm hvm h2
  exact ⟨c, k', i, f, a, cell, by rw [hvm.findClass]; exact h1, hi', h3, by rw [he]; exact h4, h5, h6, h7, h8, by rw [he]; exact h9, h10⟩
theorem vx_L.kept {C n d : String} {A : Nat → Prop} {U : State} {H H1 : Heap} (h : vx_L C n d A U H) (hq : ∀ a : Nat, a < H.size → ¬ A a → H1[a]? = H[a]?) : vx_L C n d A U H1 := by
  obtain ⟨c, k, i, f, a, cell, h1, h2, h3, h4, h5, h6, h7, h8, h9, h10⟩ := h
  exact ⟨c, k, i, f, a, cell, h1, h2, h3, h4, by rw [hq a (Array.getElem?_eq_some_iff.mp h5).1 h10]; exact h5, h6, h7, h8, h9, h10⟩
theorem vx_L.narrow {C n d : String} {A B : Nat → Prop} {U : State} {H : Heap} (h : vx_L C n d A U H) (hAB : ∀ q, B q → A q) : vx_L C n d B U H := by
  obtain ⟨c, k, i, f, a, cell, h1, h2, h3, h4, h5, h6, h7, h8, h9, h10⟩ := h
  exact ⟨c, k, i, f, a, cell, h1, h2, h3, h4, h5, h6, h7, h8, h9, fun z => h10 (hAB _ z)⟩
theorem vx_L.word {C n d : String} {A : Nat → Prop} {s : State} {args : Array Value} (h : vx_L C n d A s s.heap) : (Cond.laysStatic C n d).before args s = true := by
  obtain ⟨c, k, i, f, a, cell, h1, h2, h3, h4, h5, h6, h7, h8, h9, -⟩ := h
  show (Cond.laysStatic C n d).holds args s none s [] = true
  exact Cond.laysStatic_of h1 h2 h3 h4 h5 h6 h7 h8 h9
/-- .. and what it holds: null or some reference -/
def vx_Zq (C n d : String) (A : Nat → Prop) (U : State) (H : Heap) : Prop := va_Zq C n d A U H ∧ vx_L C n d A U H
theorem vx_Zq.moved {C n d : String} {A : Nat → Prop} {u U : State} {H : Heap} (hvm : u.vm.Alike U.vm) (h : vx_Zq C n d A u H) : vx_Zq C n d A U H := ⟨va_Zq.moved hvm h.1, vx_L.moved hvm h.2⟩
theorem vx_Zq.kept {C n d : String} {A : Nat → Prop} {U : State} {H H1 : Heap} (h : vx_Zq C n d A U H) (hq : ∀ a : Nat, a < H.size → ¬ A a → H1[a]? = H[a]?) : vx_Zq C n d A U H1 := ⟨va_Zq.kept h.1 hq, vx_L.kept h.2 hq⟩
theorem vx_Zq.narrow {C n d : String} {A B : Nat → Prop} {U : State} {H : Heap} (h : vx_Zq C n d A U H) (hAB : ∀ q, B q → A q) : vx_Zq C n d B U H := ⟨va_Zq.narrow h.1 hAB, vx_L.narrow h.2 hAB⟩
theorem vx_Zqof {args : Array Value} {s : State} {C n d : String} {A : Nat → Prop} (hl : (Cond.laysStatic C n d).before args s = true) (hini : (Cond.initialized C).before args s = true) (h : (Cond.isRef (.static C n d)).before args s = true) (hA : ∀ a : Nat, a < s.heap.size → ¬ A a) : vx_Zq C n d A s s.heap := by
  refine ⟨va_Zqof hl hini h hA, ?_⟩
  obtain ⟨c, k, i, f, a, cell, h1, h2, h3, h4, h5, h6, h7, h8, h9⟩ := Cond.laysStatic_spec hl
  exact ⟨c, k, i, f, a, cell, h1, h2, h3, h4, h5, h6, h7, h8, h9, hA a (Array.getElem?_eq_some_iff.mp h5).1⟩
theorem vx_isRef {C n d : String} {v : Value} {A : Nat → Prop} {s : State} {args : Array Value} (h : va_Z C n d v A s s.heap) (hv : v.isRef = true) : (Cond.isRef (.static C n d)).before args s = true := by
  obtain ⟨cf, kf, fi, f, a, cell, h1, h2, h3, h4, h5, h6, h7, -⟩ := h
  have he : (Term.static C n d).eval args s none [] s = some v := by
    simp [Term.eval, State.fieldNamed?, h1, h2, h4, h5, h6, h7]
  simp only [Cond.before, Cond.holds, Cond.value, he]
  cases v <;> simp_all [Value.isRef]
theorem vx_isRefq {C n d : String} {A : Nat → Prop} {s : State} {args : Array Value} (h : va_Zq C n d A s s.heap) : (Cond.isRef (.static C n d)).before args s = true := by
  rcases h with h | ⟨t, h⟩
  · exact vx_isRef h rfl
  · exact vx_isRef h rfl
/-- the same frame, seen from here: as if the method were called anew in this heap -/
theorem vx_rebase {T : State} (X : Stand p l e R s m args below meth c T locs cells slots) {R' : Room} (hf : R'.frames ≤ R.frames) (hl : R'.locals ≤ R.locals) (hc : cells + R'.cells ≤ R.cells) (hs : slots + R'.slots ≤ R.slots) :
    Stand p l e R' ((T.setVm s.vm).setFrames (.invoking m args :: below)) m args below meth c T [] 0 0 := by
  have htop : (T.setVm s.vm).topJava?.isSome := X.here.top
  have hF : ((T.setVm s.vm).setFrames (.invoking m args :: below)).frames = .invoking m args :: below := State.frames_setFrames _ (State.cur_lt_of_top htop)
  obtain ⟨g₀, hg0⟩ := Option.isSome_iff_exists.mp htop
  obtain ⟨r, hr⟩ := State.topJava?_eq_some.mp hg0
  have hl9 : e.platform.stackLimits (T.setVm s.vm).me = e.platform.stackLimits s.me := X.limits
  have hb9 : (T.setVm s.vm).me.stackBytes = s.me.stackBytes := X.bytes
  refine ⟨X.admits, X.cas, X.clock, hF, ?_, X.hears, X.method, X.code, X.here, X.tail, X.warmed, ?_, ?_, ?_⟩
  · have h := X.room
    have hU : ((T.setVm s.vm).setFrames (.invoking m args :: below)).localsInUse = s.localsInUse := by
      rw [State.localsInUse_invoking hF (meth := meth) (c := c) X.method X.code, State.localsInUse_invoking X.frames X.method X.code]
    simp only [State.hasRoom, Bool.and_eq_true, decide_eq_true_eq] at h ⊢
    obtain ⟨⟨⟨⟨h1, h2, h3, h4, h5, h6⟩, h7⟩, h8⟩, h9⟩ := h
    rw [X.frames, List.length_cons] at h2 h3
    have q1 := X.heapSize
    have q2 := X.used
    simp only [hF, hU, List.length_cons, State.stackLimits_setFrames, State.stackBytes_setFrames, hl9, hb9]
    refine ⟨⟨⟨⟨by omega, by omega, by omega, by omega, by omega, h6⟩, ?_⟩, ?_⟩, X.book⟩
    · show T.heap.size + R'.cells ≤ e.platform.maxCells
      omega
    · show T.slotsUsed + R'.slots ≤ e.platform.maxSlots
      omega
  · rw [State.stackLimits_setFrames]; rfl
  · rw [State.stackBytes_setFrames]; rfl
  · refine ⟨?_, Nat.le_refl _, Nat.le_refl _, ?_, ?_, fun a c9 h9 => ⟨c9, h9, rfl, rfl, fun _ _ => rfl⟩⟩
    · obtain ⟨t, ht, -⟩ := State.frames_cons hr
      show T.setVm s.vm = { ((T.setVm s.vm).setFrames (.invoking m args :: below)).setFrames (T.setVm s.vm).frames with heap := T.heap, slotsUsed := T.slotsUsed }
      rw [State.setFrames_setFrames, State.setFrames_self ht]
      rfl
    · show T.slotsUsed = T.slotsUsed + ((T.heap.toList.drop T.heap.size).map (·.slots.size)).sum
      rw [List.drop_eq_nil_of_le (Nat.le_of_eq Array.length_toList)]
      rfl
    · show ((T.heap.toList.drop T.heap.size).map (·.slots.size)).sum ≤ 0
      rw [List.drop_eq_nil_of_le (Nat.le_of_eq Array.length_toList)]
      exact Nat.le_refl _
/-- 'throw new E()': new; dup; invokespecial; athrow -/
theorem vx_throw0 {cc : ByteArray} {pc : Nat} (hexec : p.tables.exec = Jvm.exec) (hb : c.code = cc) (hl : l.stackTraces = false) {own cls : String} {names : List String} {ik ic mc ms : Nat} {A : Nat → Prop}
    (hown : s.vm.findClass own = some m.cls) (hcls : Bundle.fit cls = true) (hnames : ∀ n ∈ names, Bundle.fit n = true)
    (hk : (Cond.classLink own ik cls).before args s = true) (hini : (Cond.initialized cls).before args s = true) (hat : ∀ w ∈ vx_at0 own ic cls names, w.before args s = true)
    (hgood : ∀ w ∈ Cond.classLink own ik cls :: Cond.initialized cls :: vx_at0 own ic cls names, vx_ot w = true)
    (hU : vx_Zq Bundle.tN "UNASSIGNED_STACK" Bundle.steD A s s.heap) (hN : vx_Zq Bundle.tN "SUPPRESSED_SENTINEL" Bundle.listD A s s.heap) (hS : va_S A s.heap H locs) (hsize : ls.size = c.maxLocals)
    (d0 : decode cc pc = .ok (.new ik, 3)) (d3 : decode cc (pc + 3) = .ok (.dup, 1)) (d4 : decode cc (pc + 4) = .ok (.invokespecial ic, 3)) (d7 : decode cc (pc + 7) = .ok (.athrow, 1))
    (hout : ∀ x ∈ c.exceptionTable.toList, covers x (pc + 7) = false)
    (hRframes : names.length + 3 < R.frames) (hRlocals : (rest.map fun v => v.category).sum + (13 * (names.length + 1) + 42) ≤ R.locals) (hRcells : cells + 1 ≤ R.cells) (hRslots : slots + 6 ≤ R.slots) (hlocks : meth.locks = false)
    (hx : ∀ t : State, s.vm.Alike t.vm → H.size ≤ t.heap.size → (∀ q : Nat, q < H.size → t.heap[q]? = H[q]?) → XC cls s t)
    (hf : ∀ z ∈ locs, free z.base) (hc : cells + 1 ≤ mc) (hs : slots + 6 ≤ ms) :
    W p l e R s m args below meth c H locs cells slots (vx_MQ below Qc XC args s mc ms free) (F0 m pc ls rest) := by
  intro T hT X
  have htr : e.platform.stackTraces = false := (show e.platform.stackTraces = l.stackTraces by rw [X.admits.platform]).trans hl
  have Y := vx_rebase X (R' := { frames := R.frames, locals := R.locals, cells := 1, slots := 6 }) (Nat.le_refl _) (Nat.le_refl _) hRcells hRslots
  obtain ⟨s', hA⟩ : ∃ z, z = (T.setVm s.vm).setFrames (.invoking m args :: below) := ⟨_, rfl⟩
  rw [← hA] at Y
  have hvm : s'.vm = s.vm := by rw [hA]; rfl
  have hhp : s'.heap = H := by rw [hA]; exact hT
  have hW0 : s.WarmedH s'.vm := by rw [hvm]; exact State.WarmedH.refl s
  have hat' : ∀ w ∈ vx_at0 own ic cls names, w.before args s' = true := fun w hw => vx_ot_at hW0 hvm.symm (hgood w (List.mem_cons_of_mem _ (List.mem_cons_of_mem _ hw))) (hat w hw)
  have hk' : (Cond.classLink own ik cls).before args s' = true := vx_ot_at hW0 hvm.symm (hgood _ List.mem_cons_self) hk
  have hini' : (Cond.initialized cls).before args s' = true := vx_ot_at hW0 hvm.symm (hgood _ (List.mem_cons_of_mem _ List.mem_cons_self)) hini
  have hU' : vx_Zq Bundle.tN "UNASSIGNED_STACK" Bundle.steD A s' s'.heap := by rw [hhp]; exact vx_Zq.moved hW0.alike (hU.kept hS.2.1)
  have hN' : vx_Zq Bundle.tN "SUPPRESSED_SENTINEL" Bundle.listD A s' s'.heap := by rw [hhp]; exact vx_Zq.moved hW0.alike (hN.kept hS.2.1)
  have h : ∀ w ∈ Bundle.ownAtoms0 own ic cls names, w.before args s' = true := vx_own hat' (vx_isRefq hU'.1) (vx_isRefq hN'.1) hU'.2.word hN'.2.word
  have hown' : s'.vm.findClass own = some m.cls := by rw [hvm]; exact hown
  have hins : (Cond.instantiable cls 6).before args s' = true := h _ (by simp [Bundle.ownAtoms0])
  obtain ⟨vm₁, cX, kX, hfX, hkX, -, -, X₁, st1⟩ := Y.newCold hexec (own := own) (C := cls) (index := ik) (n := 6) hown' hk' hins hini'
    (g := F0 m pc ls rest) rfl (by rw [hb]; exact d0) (Nat.le_refl _) (Nat.le_refl _)
  generalize hT1 : (T.setVm vm₁).pushCell { cls := cX, slots := kX.instanceTypes.map defaultValue, vm := .none } = T1 at X₁ st1
  have hcat : (Value.ref T.heap.size).category = 1 := rfl
  have hcellA : T1.heap[T.heap.size]? = some (freshCell cX kX) := by rw [← hT1]; exact State.heap_pushCell_size _ _
  have d3' : decode c.code (pc + 3) = .ok (.dup, 1) := by rw [hb]; exact d3
  obtain ⟨U, hsteps, hrun, hend, hW, hsame, ce, hce, hO⟩ := X₁.ctorThrow0 hexec htr (own := own) (cls := cls) (names := names) (ic := ic) hown' hcls hnames h (fun x hx => nomatch hx) hfX hkX hcellA (by rw [hhp, hT]; exact Nat.le_refl _)
    (g := { method := m, pc := pc + 4, locals := ls, stack := .ref T.heap.size :: .ref T.heap.size :: rest, locked := none }) rfl hsize rfl rfl (rest := rest) rfl
    (by rw [hb]; exact d4) (by rw [hb]; exact d7) hout hRframes (by simp only [List.map_cons, List.sum_cons, hcat]; omega) hlocks
  obtain ⟨f1, f2⟩ := vx_frame hsame
  rw [hhp] at f1 f2
  have hWs : s.WarmedH U.vm := State.WarmedH.trans hW0 hW
  have hcl : s.vm.findClass cls = some ce.cls := by
    have h9 := hO.cls
    rw [hvm] at h9
    exact h9
  have hall : s.sameButNew ({ U with vm := s.vm } : State) locs mc ms := by
    subst hA
    obtain ⟨e1, e2⟩ := hsame
    rw [State.setFrames_setFrames] at e1
    have h2 : (T.setVm s.vm).sameButNew ({ U with vm := s.vm } : State) [] (0 + 1) (0 + 6) := ⟨e1, e2⟩
    have h3 := X.same.trans h2
    rw [List.append_nil] at h3
    exact h3.mono hc hs
  refine ⟨U, ?_, .threw T.heap.size, hrun, hend, Or.inr ⟨T.heap.size, rfl, cls, ce, locs, hx U hWs.alike f1 (fun q hq => f2 q hq (fun z hz => nomatch hz)), hce, hO.vm, hcl, hWs, hall, hf⟩⟩
  refine st1 _ ?_
  show Steps p.tables e below (T1.setTop { method := m, pc := pc + 3, locals := ls, stack := .ref T.heap.size :: rest, locked := none }) _
  jvm_step X₁.here [X₁.here.top, hexec, d3', Value.category]
  exact hsteps
/-- 'throw new E("text")': new; dup; ldc; invokespecial; athrow -/
theorem vx_throwS {cc : ByteArray} {pc : Nat} (hexec : p.tables.exec = Jvm.exec) (hb : c.code = cc) (hl : l.stackTraces = false) {own cls text : String} {names : List String} {ik is ic mc ms sa : Nat} {A : Nat → Prop}
    (hown : s.vm.findClass own = some m.cls) (hcls : Bundle.fit cls = true) (hnames : ∀ n ∈ names, Bundle.fit n = true)
    (hk : (Cond.classLink own ik cls).before args s = true) (hini : (Cond.initialized cls).before args s = true) (hstr : vk_R own is text sa s) (hat : ∀ w ∈ vx_atS own ic cls names, w.before args s = true)
    (hgood : ∀ w ∈ Cond.classLink own ik cls :: Cond.initialized cls :: vx_atS own ic cls names, vx_ot w = true)
    (hU : vx_Zq Bundle.tN "UNASSIGNED_STACK" Bundle.steD A s s.heap) (hN : vx_Zq Bundle.tN "SUPPRESSED_SENTINEL" Bundle.listD A s s.heap) (hS : va_S A s.heap H locs) (hsize : ls.size = c.maxLocals)
    (d0 : decode cc pc = .ok (.new ik, 3)) (d3 : decode cc (pc + 3) = .ok (.dup, 1)) (d4 : decode cc (pc + 4) = .ok (.ldc is, 2)) (d6 : decode cc (pc + 6) = .ok (.invokespecial ic, 3)) (d9 : decode cc (pc + 9) = .ok (.athrow, 1))
    (hout : ∀ x ∈ c.exceptionTable.toList, covers x (pc + 9) = false)
    (hRframes : names.length + 3 < R.frames) (hRlocals : (rest.map fun v => v.category).sum + (13 * (names.length + 1) + 43) ≤ R.locals) (hRcells : cells + 1 ≤ R.cells) (hRslots : slots + 6 ≤ R.slots) (hlocks : meth.locks = false)
    (hx : ∀ t : State, s.vm.Alike t.vm → H.size ≤ t.heap.size → (∀ q : Nat, q < H.size → t.heap[q]? = H[q]?) → XC cls s t)
    (hf : ∀ z ∈ locs, free z.base) (hc : cells + 1 ≤ mc) (hs : slots + 6 ≤ ms) :
    W p l e R s m args below meth c H locs cells slots (vx_MQ below Qc XC args s mc ms free) (F0 m pc ls rest) := by
  intro T hT X
  have htr : e.platform.stackTraces = false := (show e.platform.stackTraces = l.stackTraces by rw [X.admits.platform]).trans hl
  have Y := vx_rebase X (R' := { frames := R.frames, locals := R.locals, cells := 1, slots := 6 }) (Nat.le_refl _) (Nat.le_refl _) hRcells hRslots
  obtain ⟨s', hA⟩ : ∃ z, z = (T.setVm s.vm).setFrames (.invoking m args :: below) := ⟨_, rfl⟩
  rw [← hA] at Y
  have hvm : s'.vm = s.vm := by rw [hA]; rfl
  have hhp : s'.heap = H := by rw [hA]; exact hT
  have hW0 : s.WarmedH s'.vm := by rw [hvm]; exact State.WarmedH.refl s
  have hat' : ∀ w ∈ vx_atS own ic cls names, w.before args s' = true := fun w hw => vx_ot_at hW0 hvm.symm (hgood w (List.mem_cons_of_mem _ (List.mem_cons_of_mem _ hw))) (hat w hw)
  have hk' : (Cond.classLink own ik cls).before args s' = true := vx_ot_at hW0 hvm.symm (hgood _ List.mem_cons_self) hk
  have hini' : (Cond.initialized cls).before args s' = true := vx_ot_at hW0 hvm.symm (hgood _ (List.mem_cons_of_mem _ List.mem_cons_self)) hini
  have hU' : vx_Zq Bundle.tN "UNASSIGNED_STACK" Bundle.steD A s' s'.heap := by rw [hhp]; exact vx_Zq.moved hW0.alike (hU.kept hS.2.1)
  have hN' : vx_Zq Bundle.tN "SUPPRESSED_SENTINEL" Bundle.listD A s' s'.heap := by rw [hhp]; exact vx_Zq.moved hW0.alike (hN.kept hS.2.1)
  have h : ∀ w ∈ Bundle.ownAtoms own ic cls names, w.before args s' = true := vx_own hat' (vx_isRefq hU'.1) (vx_isRefq hN'.1) hU'.2.word hN'.2.word
  have hown' : s'.vm.findClass own = some m.cls := by rw [hvm]; exact hown
  have hins : (Cond.instantiable cls 6).before args s' = true := h _ (by simp [Bundle.ownAtoms])
  obtain ⟨vm₁, cX, kX, hfX, hkX, -, -, X₁, st1⟩ := Y.newCold hexec (own := own) (C := cls) (index := ik) (n := 6) hown' hk' hins hini'
    (g := F0 m pc ls rest) rfl (by rw [hb]; exact d0) (Nat.le_refl _) (Nat.le_refl _)
  generalize hT1 : (T.setVm vm₁).pushCell { cls := cX, slots := kX.instanceTypes.map defaultValue, vm := .none } = T1 at X₁ st1
  have hcat : (Value.ref T.heap.size).category = 1 := rfl
  have hcellA : T1.heap[T.heap.size]? = some (freshCell cX kX) := by rw [← hT1]; exact State.heap_pushCell_size _ _
  have d3' : decode c.code (pc + 3) = .ok (.dup, 1) := by rw [hb]; exact d3
  have d4' : decode c.code (pc + 4) = .ok (.ldc is, 2) := by rw [hb]; exact d4
  have hstr' : vk_R own is text sa s' := vk_R.warm hW0 hstr
  obtain ⟨U, hsteps, hrun, hend, hW, hsame, ce, hce, hO⟩ := X₁.ctorThrowS hexec htr (own := own) (cls := cls) (names := names) (ic := ic) hown' hcls hnames h (fun x hx => nomatch hx) hfX hkX hcellA (by rw [hhp, hT]; exact Nat.le_refl _) (msg := .ref sa) rfl
    (g := { method := m, pc := pc + 6, locals := ls, stack := .ref sa :: .ref T.heap.size :: .ref T.heap.size :: rest, locked := none }) rfl hsize rfl rfl (rest := rest) rfl
    (by rw [hb]; exact d6) (by rw [hb]; exact d9) hout hRframes (by simp only [List.map_cons, List.sum_cons, hcat]; omega) hlocks
  obtain ⟨f1, f2⟩ := vx_frame hsame
  rw [hhp] at f1 f2
  have hWs : s.WarmedH U.vm := State.WarmedH.trans hW0 hW
  have hcl : s.vm.findClass cls = some ce.cls := by
    have h9 := hO.cls
    rw [hvm] at h9
    exact h9
  have hall : s.sameButNew ({ U with vm := s.vm } : State) locs mc ms := by
    subst hA
    obtain ⟨e1, e2⟩ := hsame
    rw [State.setFrames_setFrames] at e1
    have h2 : (T.setVm s.vm).sameButNew ({ U with vm := s.vm } : State) [] (0 + 1) (0 + 6) := ⟨e1, e2⟩
    have h3 := X.same.trans h2
    rw [List.append_nil] at h3
    exact h3.mono hc hs
  refine ⟨U, ?_, .threw T.heap.size, hrun, hend, Or.inr ⟨T.heap.size, rfl, cls, ce, locs, hx U hWs.alike f1 (fun q hq => f2 q hq (fun z hz => nomatch hz)), hce, hO.vm, hcl, hWs, hall, hf⟩⟩
  refine st1 _ ?_
  show Steps p.tables e below (T1.setTop { method := m, pc := pc + 3, locals := ls, stack := .ref T.heap.size :: rest, locked := none }) _
  jvm_step X₁.here [X₁.here.top, hexec, d3', Value.category]
  exact X₁.ldcString hexec (own := own) (text := text) (index := is) (a := sa) hown' hstr'.1 hstr'.2
    (g := { method := m, pc := pc + 4, locals := ls, stack := .ref T.heap.size :: .ref T.heap.size :: rest, locked := none }) rfl d4' _ hsteps
/-- 'throw new E("text")', the text by a wide index -/
theorem vx_throwSW {cc : ByteArray} {pc : Nat} (hexec : p.tables.exec = Jvm.exec) (hb : c.code = cc) (hl : l.stackTraces = false) {own cls text : String} {names : List String} {ik is ic mc ms sa : Nat} {A : Nat → Prop}
    (hown : s.vm.findClass own = some m.cls) (hcls : Bundle.fit cls = true) (hnames : ∀ n ∈ names, Bundle.fit n = true)
    (hk : (Cond.classLink own ik cls).before args s = true) (hini : (Cond.initialized cls).before args s = true) (hstr : vk_R own is text sa s) (hat : ∀ w ∈ vx_atS own ic cls names, w.before args s = true)
    (hgood : ∀ w ∈ Cond.classLink own ik cls :: Cond.initialized cls :: vx_atS own ic cls names, vx_ot w = true)
    (hU : vx_Zq Bundle.tN "UNASSIGNED_STACK" Bundle.steD A s s.heap) (hN : vx_Zq Bundle.tN "SUPPRESSED_SENTINEL" Bundle.listD A s s.heap) (hS : va_S A s.heap H locs) (hsize : ls.size = c.maxLocals)
    (d0 : decode cc pc = .ok (.new ik, 3)) (d3 : decode cc (pc + 3) = .ok (.dup, 1)) (d4 : decode cc (pc + 4) = .ok (.ldc_w is, 3)) (d7 : decode cc (pc + 7) = .ok (.invokespecial ic, 3)) (d10 : decode cc (pc + 10) = .ok (.athrow, 1))
    (hout : ∀ x ∈ c.exceptionTable.toList, covers x (pc + 10) = false)
    (hRframes : names.length + 3 < R.frames) (hRlocals : (rest.map fun v => v.category).sum + (13 * (names.length + 1) + 43) ≤ R.locals) (hRcells : cells + 1 ≤ R.cells) (hRslots : slots + 6 ≤ R.slots) (hlocks : meth.locks = false)
    (hx : ∀ t : State, s.vm.Alike t.vm → H.size ≤ t.heap.size → (∀ q : Nat, q < H.size → t.heap[q]? = H[q]?) → XC cls s t)
    (hf : ∀ z ∈ locs, free z.base) (hc : cells + 1 ≤ mc) (hs : slots + 6 ≤ ms) :
    W p l e R s m args below meth c H locs cells slots (vx_MQ below Qc XC args s mc ms free) (F0 m pc ls rest) := by
  intro T hT X
  have htr : e.platform.stackTraces = false := (show e.platform.stackTraces = l.stackTraces by rw [X.admits.platform]).trans hl
  have Y := vx_rebase X (R' := { frames := R.frames, locals := R.locals, cells := 1, slots := 6 }) (Nat.le_refl _) (Nat.le_refl _) hRcells hRslots
  obtain ⟨s', hA⟩ : ∃ z, z = (T.setVm s.vm).setFrames (.invoking m args :: below) := ⟨_, rfl⟩
  rw [← hA] at Y
  have hvm : s'.vm = s.vm := by rw [hA]; rfl
  have hhp : s'.heap = H := by rw [hA]; exact hT
  have hW0 : s.WarmedH s'.vm := by rw [hvm]; exact State.WarmedH.refl s
  have hat' : ∀ w ∈ vx_atS own ic cls names, w.before args s' = true := fun w hw => vx_ot_at hW0 hvm.symm (hgood w (List.mem_cons_of_mem _ (List.mem_cons_of_mem _ hw))) (hat w hw)
  have hk' : (Cond.classLink own ik cls).before args s' = true := vx_ot_at hW0 hvm.symm (hgood _ List.mem_cons_self) hk
  have hini' : (Cond.initialized cls).before args s' = true := vx_ot_at hW0 hvm.symm (hgood _ (List.mem_cons_of_mem _ List.mem_cons_self)) hini
  have hU' : vx_Zq Bundle.tN "UNASSIGNED_STACK" Bundle.steD A s' s'.heap := by rw [hhp]; exact vx_Zq.moved hW0.alike (hU.kept hS.2.1)
  have hN' : vx_Zq Bundle.tN "SUPPRESSED_SENTINEL" Bundle.listD A s' s'.heap := by rw [hhp]; exact vx_Zq.moved hW0.alike (hN.kept hS.2.1)
  have h : ∀ w ∈ Bundle.ownAtoms own ic cls names, w.before args s' = true := vx_own hat' (vx_isRefq hU'.1) (vx_isRefq hN'.1) hU'.2.word hN'.2.word
  have hown' : s'.vm.findClass own = some m.cls := by rw [hvm]; exact hown
  have hins : (Cond.instantiable cls 6).before args s' = true := h _ (by simp [Bundle.ownAtoms])
  obtain ⟨vm₁, cX, kX, hfX, hkX, -, -, X₁, st1⟩ := Y.newCold hexec (own := own) (C := cls) (index := ik) (n := 6) hown' hk' hins hini'
    (g := F0 m pc ls rest) rfl (by rw [hb]; exact d0) (Nat.le_refl _) (Nat.le_refl _)
  generalize hT1 : (T.setVm vm₁).pushCell { cls := cX, slots := kX.instanceTypes.map defaultValue, vm := .none } = T1 at X₁ st1
  have hcat : (Value.ref T.heap.size).category = 1 := rfl
  have hcellA : T1.heap[T.heap.size]? = some (freshCell cX kX) := by rw [← hT1]; exact State.heap_pushCell_size _ _
  have d3' : decode c.code (pc + 3) = .ok (.dup, 1) := by rw [hb]; exact d3
  have d4' : decode c.code (pc + 4) = .ok (.ldc_w is, 3) := by rw [hb]; exact d4
  have hstr' : vk_R own is text sa s' := vk_R.warm hW0 hstr
  obtain ⟨U, hsteps, hrun, hend, hW, hsame, ce, hce, hO⟩ := X₁.ctorThrowS hexec htr (own := own) (cls := cls) (names := names) (ic := ic) hown' hcls hnames h (fun x hx => nomatch hx) hfX hkX hcellA (by rw [hhp, hT]; exact Nat.le_refl _) (msg := .ref sa) rfl
    (g := { method := m, pc := pc + 7, locals := ls, stack := .ref sa :: .ref T.heap.size :: .ref T.heap.size :: rest, locked := none }) rfl hsize rfl rfl (rest := rest) rfl
    (by rw [hb]; exact d7) (by rw [hb]; exact d10) hout hRframes (by simp only [List.map_cons, List.sum_cons, hcat]; omega) hlocks
  obtain ⟨f1, f2⟩ := vx_frame hsame
  rw [hhp] at f1 f2
  have hWs : s.WarmedH U.vm := State.WarmedH.trans hW0 hW
  have hcl : s.vm.findClass cls = some ce.cls := by
    have h9 := hO.cls
    rw [hvm] at h9
    exact h9
  have hall : s.sameButNew ({ U with vm := s.vm } : State) locs mc ms := by
    subst hA
    obtain ⟨e1, e2⟩ := hsame
    rw [State.setFrames_setFrames] at e1
    have h2 : (T.setVm s.vm).sameButNew ({ U with vm := s.vm } : State) [] (0 + 1) (0 + 6) := ⟨e1, e2⟩
    have h3 := X.same.trans h2
    rw [List.append_nil] at h3
    exact h3.mono hc hs
  refine ⟨U, ?_, .threw T.heap.size, hrun, hend, Or.inr ⟨T.heap.size, rfl, cls, ce, locs, hx U hWs.alike f1 (fun q hq => f2 q hq (fun z hz => nomatch hz)), hce, hO.vm, hcl, hWs, hall, hf⟩⟩
  refine st1 _ ?_
  show Steps p.tables e below (T1.setTop { method := m, pc := pc + 3, locals := ls, stack := .ref T.heap.size :: rest, locked := none }) _
  jvm_step X₁.here [X₁.here.top, hexec, d3', Value.category]
  exact X₁.ldcStringW hexec (own := own) (text := text) (index := is) (a := sa) hown' hstr'.1 hstr'.2
    (g := { method := m, pc := pc + 4, locals := ls, stack := .ref T.heap.size :: .ref T.heap.size :: rest, locked := none }) rfl d4' _ hsteps
end Ends
section Bodies
variable {l : Launch}
theorem vx_ofW {y : MethodName} {ws ws' : List Cond} {rm : Room} {Pc : Array Value → State → Prop} {Qc : Array Value → State → Outcome → State → Prop} {XC : String → State → State → Prop} {mc ms : Nat} {free : Addr → Prop} {cc : ByteArray} {maxL : Nat} {ret : Option FieldType}
    (hy : plainName y.cls = true) (hw : ws = Cond.code y cc maxL ret :: ws')
    (body : ∀ p e s m args below meth c s₁, BodyLoose p l y (headSpec ws rm) cc maxL ret e s m args below meth c s₁ → c.maxLocals = maxL → (∀ x ∈ c.exceptionTable.toList, False) → Pc args s →
      W p l e (headSpec ws rm).room s m args below meth c s.heap [] 0 0 (vx_MQ below Qc XC args s mc ms free) (entryFrame m args maxL)) : vx_Met l y ws rm Pc Qc XC mc ms free := by
  refine MetFree.of_bodyS (code := cc) (maxLocals := maxL) (ret := ret) hy ?_ ?_
  · intro args s m h hn
    obtain ⟨meth, c, h1, h2, h3, h4, h5, h6, -, -⟩ := Cond.code_spec hn (atoms_spec (ws := ws) h _ (by rw [hw]; exact List.mem_cons_self))
    exact ⟨meth, c, h1, h2, h3, h4, h5, h6⟩
  · intro p e s m args below meth c s₁ B hml hP _
    have hh0 : s₁.heap = s.heap := by rw [B.state]; rfl
    have ht : ∀ x ∈ c.exceptionTable.toList, False := by
      obtain ⟨meth9, c9, h1, h2, -, -, -, -, h7, -⟩ := Cond.code_spec B.named (atoms_spec (ws := ws) B.pre _ (by rw [hw]; exact List.mem_cons_self))
      cases Option.some.inj (h1.symm.trans B.method)
      cases Option.some.inj (h2.symm.trans (Stand.of_body B).code)
      intro x hx
      rw [Array.isEmpty_iff.mp h7] at hx
      cases hx
    obtain ⟨t, a1, o, b1, b2, b3⟩ := body p e s m args below meth c s₁ B hml ht hP s₁ hh0 (Stand.of_body B)
    exact ⟨t, o, a1, b1, b2, b3⟩
/-- the table of a body with handlers -/
theorem vx_table {p : Program} {x y : MethodName} {S : Spec} {cc bytes : ByteArray} {maxL maxL' : Nat} {ret ret' : Option FieldType} {e : Env} {s s₁ : State} {m : MethodId} {args : Array Value} {below : List Frame} {meth : Method} {c : Code} {hh : List (Nat × Nat × Nat × Nat)}
    (B : BodyLoose p l y S cc maxL ret e s m args below meth c s₁) (h : (Cond.codeWith y bytes maxL' ret' hh).before args s = true) : c.exceptionTable.toList = tableOf hh := by
  obtain ⟨m9, meth9, c9, hn9, h1, h2, -, -, h6, -⟩ := Cond.codeWith_spec h
  cases Option.some.inj (hn9.symm.trans B.named)
  cases Option.some.inj (h1.symm.trans B.method)
  cases Option.some.inj (h2.symm.trans (Stand.of_body B).code)
  rw [← h6, table_eq]
end Bodies
end VXA
/-! ===== END ===== -/
/-! ===== BEGIN a static call of a method with an exception table ===== -/
section VXS
variable {p : Program} {l : Launch} {e : Env} {R : Room} {s : State} {m : MethodId} {args : Array Value} {below : List Frame} {meth : Method} {c : Code} {T : State} {H : Heap} {locs : List Loc} {cells slots : Nat}
abbrev vx_CSW (R : Room) (s : State) (args : Array Value) (own : String) (index : Nat) (y : MethodName) (bytes : ByteArray) (maxL : Nat) (ret : Option FieldType) (hh : List (Nat × Nat × Nat × Nat)) (ws : List Cond) (rm : Room) (mc ms n : Nat) : Prop :=
  (rm.cells = mc ∧ rm.slots = ms ∧ rm.frames + 1 ≤ R.frames ∧ 8 + (maxL + 11) + rm.locals ≤ R.locals ∧ (∀ w ∈ ws, ∀ (a' : Array Value) (U : State), s.WarmedH U.vm → w.before a' U = true) ∧ Cond.codeWith y bytes maxL ret hh ∈ ws) ∧
  (Cond.codeWith y bytes maxL ret hh).before args s = true ∧ (Cond.initialized y.cls).before args s = true ∧ (y.cls ≠ "java/lang/invoke/MethodHandle" ∧ y.cls ≠ "java/lang/invoke/VarHandle") ∧
  (∀ sig, parseMethodDescriptor y.desc = some sig → n = sig.parameters.length) ∧ (Cond.methodLink own index y).before args s = true ∧ (Cond.static y).before args s = true
theorem vx_cwSW {own : String} {index maxL mc ms : Nat} {y : MethodName} {bytes : ByteArray} {ret : Option FieldType} {hh : List (Nat × Nat × Nat × Nat)} {Ts ws ws' : List Cond} {rm : Room} (n : Nat) (ht : ∀ w ∈ Ts, w.before args s = true) (hT : GoodIn Ts (va_wsS own index y ws)) (hw : ws = Cond.codeWith y bytes maxL ret hh :: ws') (hrc : rm.cells = mc) (hrs : rm.slots = ms)
    (hd : y.cls ≠ "java/lang/invoke/MethodHandle" ∧ y.cls ≠ "java/lang/invoke/VarHandle" ∧ (parseMethodDescriptor y.desc).map (fun d => d.parameters.length) = some n) (hR : rm.frames + 1 ≤ R.frames ∧ 8 + (maxL + 11) + rm.locals ≤ R.locals) :
    vx_CSW R s args own index y bytes maxL ret hh ws rm mc ms n := by
  have ok : ∀ w ∈ va_wsS own index y ws, w.before args s = true := fun w h => ht w (hT w h).1
  have hG : GoodIn Ts ws := fun w h => hT w (by unfold va_wsS; exact List.mem_append_right _ h)
  have hc : Cond.codeWith y bytes maxL ret hh ∈ ws := by rw [hw]; exact List.mem_cons_self
  refine ⟨⟨hrc, hrs, hR.1, hR.2, pay_in ht hG, hc⟩, ht _ (hG _ hc).1, ok _ (by simp [va_wsS]), ⟨hd.1, hd.2.1⟩, fun sig h => ?_, ok _ (by simp [va_wsS]), ok _ (by simp [va_wsS])⟩
  have h2 := hd.2.2
  rw [h] at h2
  exact (Option.some.inj h2).symm
theorem vx_callSW (X : Stand p l e R s m args below meth c T locs cells slots) (hexec : p.tables.exec = Jvm.exec) {own : String} {index : Nat} {y : MethodName} {bytes : ByteArray} {maxL : Nat} {ret : Option FieldType} {hh : List (Nat × Nat × Nat × Nat)}
    (hown : s.vm.findClass own = some m.cls) (hlink : (Cond.methodLink own index y).before args s = true) (hstat : (Cond.static y).before args s = true) (hinit : (Cond.initialized y.cls).before args s = true)
    (hcode : (Cond.codeWith y bytes maxL ret hh).before args s = true) (hy : y.cls ≠ "java/lang/invoke/MethodHandle" ∧ y.cls ≠ "java/lang/invoke/VarHandle")
    {W9 : Nat} {Pre : Pt → Array Value → Prop} {Post : Pt → Array Value → Option Value → Pt → Prop} (hK : Back l R p e below s args y 3 W9 Pre Post)
    {g : JFrame} (hg : g.method = m) (hsize : g.locals.size = c.maxLocals) {argsL rest : List Value} (hlen : ∀ sig, parseMethodDescriptor y.desc = some sig → argsL.length = sig.parameters.length)
    (hstack : g.stack = argsL.reverse ++ rest) (hW : 2 * g.monitorRoom + (rest.map fun v => v.category).sum ≤ W9) (hdg : decode c.code g.pc = .ok (.invokestatic index, 3))
    (hpre : ∀ vm₁, s.WarmedH vm₁ → Pre ⟨T.setVm vm₁, locs, cells, slots⟩ argsL.toArray) :
    ∃ (v : Option Value) (vm₁ : Vm) (B : Pt), s.WarmedH vm₁ ∧ Stand p l e R s m args below meth c B.U B.locs B.cells B.slots ∧ Post ⟨T.setVm vm₁, locs, cells, slots⟩ argsL.toArray v B ∧
      ∀ target, Steps p.tables e below (B.U.setTop { g with pc := g.pc + 3, stack := v.toList ++ rest }) target → Steps p.tables e below (T.setTop g) target := by
  obtain ⟨mk, methM, cM, hnamed, hmethM, -, -, -, -, -, -, hsigM⟩ := Cond.codeWith_spec hcode
  have hstatic : methM.isStatic = true := Cond.static_spec hnamed hmethM hstat
  obtain ⟨kP, hkP, -⟩ := className_of_methodNamed hnamed
  have hinitP : kP.init = .initialized := Cond.initialized_spec (findClass_of_methodNamed hnamed) hkP hinit
  obtain ⟨vm₁, X₁, hstep₁⟩ := X.invokestatic hexec hown hlink hnamed hmethM hstatic hkP hinitP hy (g := g) hg (argsL := argsL) (rest := rest) (hlen _ hsigM) hstack hdg
  obtain ⟨v, B, X', hpost, hsteps⟩ := hK m meth c ⟨T.setVm vm₁, locs, cells, slots⟩ { g with stack := rest } (.invokestatic index) mk argsL.toArray X₁ hg hsize hdg hW (X₁.named hnamed) (hpre vm₁ X₁.warmed)
  exact ⟨v, vm₁, B, X₁.warmed, X', hpost, fun target h => hstep₁ _ fun acts => by rw [doInvoke_state]; exact hsteps.trans h⟩
theorem vx_runSW {y : MethodName} {bytes cc : ByteArray} {maxL nL mc ms n index : Nat} {ret : Option FieldType} {hh : List (Nat × Nat × Nat × Nat)} {ws : List Cond} {rm : Room} {Pc : Array Value → State → Prop} {Qc : Array Value → State → Outcome → State → Prop} {free : Addr → Prop} {Ts : List Cond} {own : String} {As rest : List Value} {g : JFrame}
    (S : CallFix p m c cc nL s args Ts own) (hM : Met l y ws rm Pc Qc mc ms free) (cw : vx_CSW R s args own index y bytes maxL ret hh ws rm mc ms n) (hp : PreS s H Pc As)
    (hg : g.method = m) (hn : As.length = n) (hsize : g.locals.size = nL) (hstack : g.stack = As.reverse ++ rest) (hW : 2 * g.monitorRoom + (rest.map fun v => v.category).sum ≤ 8) (hdg : decode cc g.pc = .ok (.invokestatic index, 3)) (hf : cells + mc ≤ R.cells ∧ slots + ms ≤ R.slots) :
    va_Run p l e R s m args below meth c H locs cells slots mc ms g rest (Qc As.toArray) (free) := by
  obtain ⟨⟨hrc, hrs, hfr, hlo, hws, hcw⟩, hcode, hini, hy, hlen, hl, hstt⟩ := cw
  have hK : Back l R p e below s args y 3 8 (PreOf R mc ms Pc) (PostOf Qc mc ms free) := va_backW (hh := hh) (bytes := bytes) (maxL := maxL) (ret := ret) hM hp.1 hrc hrs hfr hlo hws hcw (fun a' U hW => word_at hW (Or.inl (by first | rfl | simp [Cond.onTables, Cond.keeps, Cond.steady])) hini)
  obtain ⟨hx, hb, hml, ho, -⟩ := S
  intro T hT X
  obtain ⟨v, vm₁, ⟨U', l2, c2, s2⟩, hW₁, X', ⟨g', mk, t, L, e1, e2, hq, h1, hL, h2, h3⟩, st⟩ := vx_callSW X hx (hh := hh) (bytes := bytes) (maxL := maxL) (ret := ret) ho hl hstt hini hcode hy hK hg (hsize.trans hml.symm) (argsL := As) (rest := rest) (fun sig h => hn.trans (hlen sig h)) hstack hW (by rw [hb]; exact hdg)
    (fun vm₁ hW₁ => ⟨hf.1, hf.2, hp.2 (T.setVm vm₁) hT hW₁⟩)
  dsimp only [Pt.U, Pt.locs, Pt.cells, Pt.slots] at X' e1 e2 h1 h2 h3 st
  subst h1; subst h2; subst h3
  exact ⟨v, (T.setVm vm₁).calling g' mk As.toArray, t, U', L, hT, X', hL, e1, e2, hq, st⟩
/-- not caught here, past rows that name other classes: it goes on to the caller -/
theorem vx_outP {p : Program} {l : Launch} {e : Env} {R : Room} {s : State} {m : MethodId} {args : Array Value} {below : List Frame} {meth : Method} {c : Code} {H : Heap} {locs : List Loc} {cells slots : Nat} {free : Addr → Prop} {ls : Array Slot} {rest : List Value} {Qc : Array Value → State → Outcome → State → Prop} {XC : String → State → State → Prop}
    {pc : Nat} {own E : String} {ce : Cell} {q : Addr} {mc ms : Nat} (hown : s.vm.findClass own = some m.cls) (hlocks : meth.locks = false)
    (hpass : ∀ z ∈ c.exceptionTable.toList, covers z pc = false ∨ (z.catchType ≠ 0 ∧ ∃ nm : String, (Cond.classLink own z.catchType nm).before args s = true ∧ va_Nc E nm s)) (hcell : H[q]? = some ce) (hv : ce.vm = .none) (hcl : s.vm.findClass E = some ce.cls)
    (hx : ∀ t : State, t.heap = H → s.vm.Alike t.vm → XC E s t) (hf : ∀ z ∈ locs, free z.base) (hc : cells ≤ mc) (hs : slots ≤ ms) :
    vx_W p l e R s m args below meth c H locs cells slots (vx_MQ below Qc XC args s mc ms free) (F0 m pc ls rest) q := by
  intro T hT X
  have hpl : e.platform.magicAccessors = ({} : Platform).magicAccessors := by rw [X.admits.platform]
  obtain ⟨vm', hW', X', st⟩ := X.outThrough hlocks q (g := F0 m pc ls rest) rfl rfl rfl (cell := ce) (by rw [hT]; exact hcell) (by rw [hv]; rfl)
    (by obtain ⟨k9, h9, -⟩ := Vm.findClass_spec hcl; exact ⟨k9, h9⟩) (fun z hz => by
      rcases hpass z hz with h | ⟨hz0, nm, hl1, hn1⟩
      · exact Or.inl h
      · obtain ⟨c6, hc6, hcl6⟩ := Cond.classLink_spec hown hl1 e.platform hpl
        obtain ⟨a8, b8, h1, h2, h3⟩ := hn1
        cases Option.some.inj (h1.symm.trans hcl)
        cases Option.some.inj (h2.symm.trans hc6)
        exact Or.inr ⟨hz0, _, hcl6, h3⟩)
  obtain ⟨g₀, hfr⟩ := X'.frames_eq
  have hcell9 : ((T.setVm vm').setFrames (.throwing q :: below)).heap[q]? = some ce := by
    show T.heap[q]? = some ce
    rw [hT]; exact hcell
  have hend : Ended ((T.setVm vm').setFrames (.throwing q :: below)) below (.threw q) := State.frames_setFrames _ (State.cur_lt_of_frames hfr)
  refine ⟨(T.setVm vm').setFrames (.throwing q :: below), ?_, .threw q, X'.here.running, hend, Or.inr ⟨q, rfl, E, ce, locs, hx _ hT (X'.ends _).1.alike, hcell9, hv, hcl, (X'.ends _).1, (X'.ends _).2.mono hc hs, hf⟩⟩
  rw [X.pushThrowing_eq]
  exact st
/-- a thing of a world lies in the heap -/
theorem vx_lt {D : va_G} {cl : List vw_C} {ws : va_W} {H1 : Heap} (h : va_P D cl ws H1) {k : Nat} {q : Nat × va_E} (hk : ws[k]? = some q) : q.1 < H1.size := (h k q hk).lt
end VXS
/-! ===== END ===== -/
/-! ===== BEGIN methods with a table of their own: called by a name, returning or throwing ===== -/
section VXH
/-! vx_backW, vx_callVX, vx_callSX, vx_callVW, vx_runVW, vx_runVX, vx_runSX, vx_ofWH follow the same proofs as their sisters above (Free/Laws.lean, Shelf42/LK1.lean); vx_outP calls Shelf42/NT130.lean (outThrough). -/
section
variable {l : Launch} {R : Room} {p : Program} {e : Env} {below : List Frame} {s : State} {sargs : Array Value} {y : MethodName} {len W9 : Nat}
theorem vx_backW {ws : List Cond} {rm : Room} {Pc : Array Value → State → Prop} {Qc : Array Value → State → Outcome → State → Prop} {XC : String → State → State → Prop} {mc ms : Nat} {free : Addr → Prop} {bytes : ByteArray} {maxL : Nat} {ret : Option FieldType} {hh : List (Nat × Nat × Nat × Nat)}
    (hM : vx_Met l y ws rm Pc Qc XC mc ms free) (hblind : FrameBlind Pc) (hrc : rm.cells = mc) (hrs : rm.slots = ms)
    (hframes : rm.frames + 1 ≤ R.frames) (hlocals : W9 + (maxL + 11) + rm.locals ≤ R.locals)
    (hws : ∀ w ∈ ws, ∀ a' U, s.WarmedH U.vm → w.before a' U = true) (hcode : Cond.codeWith y bytes maxL ret hh ∈ ws) (hinit : ∀ a' U, s.WarmedH U.vm → (Cond.initialized y.cls).before a' U = true) :
    vx_Back l R p e below s sargs y len W9 (PreOf R mc ms Pc) (PostOf Qc mc ms free) (vx_Post XC mc ms free) := by
  intro m meth c A g ig mk a X hg hsize hdg hW hn hp
  have h1 : (headSpec ws rm).pre.before a A.U = true := atoms_intro fun w hw => hws w hw _ _ X.warmed
  have h2 : (Cond.codeWith y bytes maxL ret hh).before a A.U = true := hws _ hcode _ _ X.warmed
  have h3 : (Cond.initialized y.cls).before a A.U = true := hinit _ _ X.warmed
  have h4 : A.cells + (headSpec ws rm).room.cells ≤ R.cells := by rw [show (headSpec ws rm).room.cells = mc from hrc]; exact hp.1
  have h5 : A.slots + (headSpec ws rm).room.slots ≤ R.slots := by rw [show (headSpec ws rm).room.slots = ms from hrs]; exact hp.2.1
  have hPc : Pc a (A.U.calling g mk a) := hblind _ _ _ _ hp.2.2
  obtain ⟨U, Ls, c0, s0⟩ := A
  dsimp only [Pt.U, Pt.locs, Pt.cells, Pt.slots] at h1 h2 h3 h4 h5 X hn hPc ⊢
  obtain ⟨m9, methY, cY, hn9, hmY, hcY, -, hlY, -⟩ := Cond.codeWith_spec h2
  cases Option.some.inj (hn9.symm.trans hn)
  obtain ⟨kY, hkY, -⟩ := className_of_methodNamed hn
  have hinitY : kY.init = .initialized := Cond.initialized_spec (findClass_of_methodNamed hn) hkY h3
  have h : At U g.method c below := by rw [hg]; exact X.here
  have hlocals9 : W9 + (maxL + 11) + (headSpec ws rm).room.locals ≤ R.locals := hlocals
  have happ : (headSpec ws rm).appliesLoose y e.platform (U.calling g mk a) = true :=
    Spec.appliesLoose_calling (g := g) h hdg hn hkY hinitY
      (X.room_calling (g := g) (R' := (headSpec ws rm).room) hsize hmY hcY hframes (by rw [hlY]; omega) h4 h5) h1
  obtain ⟨mid, hmid⟩ := h.above
  have hfr : (U.setTop g).frames = (.java g :: mid) ++ below := by rw [State.frames_setTop' g h.top, hmid]; rfl
  obtain ⟨o, s₂, hsteps, -, hend, hq⟩ := Steps.callFree hM p X.admits X.cas X.clock (acts := []) hfr happ hPc trivial
  have hq' : vx_Q Qc XC mc ms free a (U.calling g mk a) o s₂ := hq
  rw [State.frames_setTop' g h.top] at hend
  obtain ⟨g₀, hg0⟩ := Option.isSome_iff_exists.mp h.top
  obtain ⟨r, hr⟩ := State.topJava?_eq_some.mp hg0
  have hr' : (({ U with heap := s₂.heap, slotsUsed := s₂.slotsUsed } : State).setVm s₂.vm).frames = .java g₀ :: r := hr
  rcases hq' with ⟨hqc, L, hfe, hL⟩ | ⟨q, rfl, E, ce, L, hx, hce, hcv, hcl, hW₂, hsm, hL⟩
  · obtain ⟨⟨v, rfl⟩, hW₂, e2, q2, q3, q4, q5, q6⟩ := id hfe
    have e3 : s₂ = ({ (U.calling g mk a).setFrames s₂.frames with heap := s₂.heap, slotsUsed := s₂.slotsUsed } : State).setVm s₂.vm := by
      have : s₂ = ({ s₂ with vm := (U.calling g mk a).vm } : State).setVm s₂.vm := rfl
      rw [e2] at this
      exact this
    obtain ⟨c₂, i₂, len₂, hc₂, hd₂, hf₂⟩ := hend
    have hW' : U.WarmedH s₂.vm := hW₂
    have hcc : c₂ = c := by
      have h1 : s₂.code? g.method = U.code? g.method := by
        rw [State.code?_eq, State.code?_eq, hW'.alike.method?]
      exact Option.some.inj (hc₂.symm.trans (h1.trans h.code))
    subst hcc
    have hlen : len₂ = len := by rw [hdg] at hd₂; cases hd₂; rfl
    subst hlen
    have hs₂ : s₂ = (({ U with heap := s₂.heap, slotsUsed := s₂.slotsUsed } : State).setVm s₂.vm).setTop { g with pc := g.pc + len₂, stack := v.toList ++ g.stack } := by
      refine e3.trans ?_
      rw [hf₂, State.calling_eq h.top, State.setFrames_setFrames, State.setTop_of_frames _ hr', hr]
      rfl
    have hsame : U.sameButNew ({ U with heap := s₂.heap, slotsUsed := s₂.slotsUsed } : State) L mc ms := by
      refine ⟨?_, q2, q3, q4, q5, q6⟩
      obtain ⟨t, ht, -⟩ := State.frames_cons hr
      show ({ U with heap := s₂.heap, slotsUsed := s₂.slotsUsed } : State) = { U.setFrames U.frames with heap := s₂.heap, slotsUsed := s₂.slotsUsed }
      rw [State.setFrames_self ht]
    subst hg
    refine Or.inl ⟨v, ⟨(({ U with heap := s₂.heap, slotsUsed := s₂.slotsUsed } : State).setVm s₂.vm), Ls ++ L, c0 + mc, s0 + ms⟩,
      ⟨X.admits, X.cas, X.clock, X.frames, X.room, X.hears, X.method, X.code, (X.here.setHeapUsed s₂.heap s₂.slotsUsed).setVm hW'.alike, X.tail, State.WarmedH.trans X.warmed hW', X.limits, X.bytes, X.same.trans (hsame.setVm s.vm)⟩,
      ⟨g, mk, s₂, L, rfl, rfl, hqc, rfl, hL, rfl, rfl⟩, ?_⟩
    show Steps p.tables e below _ ((({ U with heap := s₂.heap, slotsUsed := s₂.slotsUsed } : State).setVm s₂.vm).setTop { g with pc := g.pc + len₂, stack := v.toList ++ g.stack })
    rw [← hs₂]
    exact hsteps
  · obtain ⟨e2, q2, q3, q4, q5, q6⟩ := id hsm
    have e3 : s₂ = ({ (U.calling g mk a).setFrames s₂.frames with heap := s₂.heap, slotsUsed := s₂.slotsUsed } : State).setVm s₂.vm := by
      have : s₂ = ({ s₂ with vm := (U.calling g mk a).vm } : State).setVm s₂.vm := rfl
      rw [e2] at this
      exact this
    have hf₂ : s₂.frames = .throwing q :: .java g :: U.frames.tail := hend
    have hW' : U.WarmedH s₂.vm := hW₂
    have hs₂ : s₂ = ((({ U with heap := s₂.heap, slotsUsed := s₂.slotsUsed } : State).setVm s₂.vm).setTop g).pushFrame (.throwing q) := by
      refine e3.trans ?_
      rw [hf₂, State.calling_eq h.top, State.setFrames_setFrames, State.pushFrame, State.frames_setTop _ hr', State.setTop_of_frames _ hr', State.setFrames_setFrames, hr]
      rfl
    have hsame : U.sameButNew ({ U with heap := s₂.heap, slotsUsed := s₂.slotsUsed } : State) L mc ms := by
      refine ⟨?_, q2, q3, q4, q5, q6⟩
      obtain ⟨t, ht, -⟩ := State.frames_cons hr
      show ({ U with heap := s₂.heap, slotsUsed := s₂.slotsUsed } : State) = { U.setFrames U.frames with heap := s₂.heap, slotsUsed := s₂.slotsUsed }
      rw [State.setFrames_self ht]
    subst hg
    refine Or.inr ⟨q, ⟨(({ U with heap := s₂.heap, slotsUsed := s₂.slotsUsed } : State).setVm s₂.vm), Ls ++ L, c0 + mc, s0 + ms⟩,
      ⟨X.admits, X.cas, X.clock, X.frames, X.room, X.hears, X.method, X.code, (X.here.setHeapUsed s₂.heap s₂.slotsUsed).setVm hW'.alike, X.tail, State.WarmedH.trans X.warmed hW', X.limits, X.bytes, X.same.trans (hsame.setVm s.vm)⟩,
      ⟨g, mk, s₂, L, E, ce, rfl, rfl, hx, hce, hcv, hcl, rfl, hL, rfl, rfl⟩, ?_⟩
    show Steps p.tables e below _ (((({ U with heap := s₂.heap, slotsUsed := s₂.slotsUsed } : State).setVm s₂.vm).setTop g).pushFrame (.throwing q))
    rw [← hs₂]
    exact hsteps
end
variable {p : Program} {l : Launch} {e : Env} {R : Room} {s : State} {m : MethodId} {args : Array Value} {below : List Frame} {meth : Method} {c : Code} {T : State} {H : Heap} {locs : List Loc} {cells slots : Nat}
theorem vx_callVX (X : Stand p l e R s m args below meth c T locs cells slots) (hexec : p.tables.exec = Jvm.exec) {own C : String} {index : Nat} {y : MethodName} {bytes : ByteArray} {maxL : Nat} {ret : Option FieldType} {hh : List (Nat × Nat × Nat × Nat)}
    (hown : s.vm.findClass own = some m.cls) (hlink : (Cond.methodLink own index y).before args s = true) (hinst : (Cond.instanceMethod y).before args s = true) (hsel : (Cond.selects C y y).before args s = true)
    (hcode : (Cond.codeWith y bytes maxL ret hh).before args s = true) (hy : y.cls ≠ "java/lang/invoke/MethodHandle" ∧ y.cls ≠ "java/lang/invoke/VarHandle")
    {W9 : Nat} {Pre : Pt → Array Value → Prop} {Post : Pt → Array Value → Option Value → Pt → Prop} {PostX : Pt → Array Value → Addr → Pt → Prop} (hK : vx_Back l R p e below s args y 3 W9 Pre Post PostX)
    {b : Addr} {cellB : Cell} (hcell : T.heap[b]? = some cellB) (hobj : cellB.vm.isStatics = false) (hcls : s.vm.findClass C = some cellB.cls)
    {g : JFrame} (hg : g.method = m) (hsize : g.locals.size = c.maxLocals) {argsL rest : List Value} (hlen : ∀ sig, parseMethodDescriptor y.desc = some sig → argsL.length = sig.parameters.length)
    (hstack : g.stack = argsL.reverse ++ .ref b :: rest) (hW : 2 * g.monitorRoom + (rest.map fun v => v.category).sum ≤ W9) (hdg : decode c.code g.pc = .ok (.invokevirtual index, 3))
    (hpre : ∀ vm₁, s.WarmedH vm₁ → Pre ⟨T.setVm vm₁, locs, cells, slots⟩ (Value.ref b :: argsL).toArray) :
    (∃ (v : Option Value) (vm₁ : Vm) (B : Pt), s.WarmedH vm₁ ∧ Stand p l e R s m args below meth c B.U B.locs B.cells B.slots ∧ Post ⟨T.setVm vm₁, locs, cells, slots⟩ (Value.ref b :: argsL).toArray v B ∧
      ∀ target, Steps p.tables e below (B.U.setTop { g with pc := g.pc + 3, stack := v.toList ++ rest }) target → Steps p.tables e below (T.setTop g) target) ∨
    (∃ (q : Addr) (vm₁ : Vm) (B : Pt), s.WarmedH vm₁ ∧ Stand p l e R s m args below meth c B.U B.locs B.cells B.slots ∧ PostX ⟨T.setVm vm₁, locs, cells, slots⟩ (Value.ref b :: argsL).toArray q B ∧
      Steps p.tables e below (T.setTop g) ((B.U.setTop { g with stack := rest }).pushFrame (.throwing q))) := by
  obtain ⟨mk, methM, hnamed, hmethM, hstM, habM⟩ := Cond.instanceMethod_spec hinst
  obtain ⟨m8, methM', cM, hn8, hmethM', -, -, -, -, -, -, hsigM⟩ := Cond.codeWith_spec hcode
  cases Option.some.inj (hn8.symm.trans hnamed)
  cases hmethM.symm.trans hmethM'
  obtain ⟨c2, r2, m2, q1, q2, q3, q4, kP, hkP, hkPi⟩ := Cond.selects_spec hsel
  cases hcls.symm.trans q1
  cases (State.methodFound?_of_named hnamed hy).symm.trans q2
  cases hnamed.symm.trans q3
  have hselP : selectMethod e.platform s.vm cellB.cls mk = .method mk := by rw [Launch.admits_selectMethod X.admits]; exact q4
  obtain ⟨vm₁, X₁, hstep₁⟩ := X.invokevirtual hexec hown hlink hnamed hmethM hstM hkP hkPi hy (a := b) (cell := cellB) hcell
    (fun z h => by rw [h] at hobj; cases hobj) hselP hmethM habM hkP hkPi (g := g) hg (argsL := argsL) (rest := rest) (hlen _ hsigM) hstack hdg
  rcases hK m meth c ⟨T.setVm vm₁, locs, cells, slots⟩ { g with stack := rest } (.invokevirtual index) mk (Value.ref b :: argsL).toArray X₁ hg hsize hdg hW (X₁.named hnamed) (hpre vm₁ X₁.warmed) with ⟨v, B, X', hpost, hsteps⟩ | ⟨q, B, X', hpost, hsteps⟩
  · exact Or.inl ⟨v, vm₁, B, X₁.warmed, X', hpost, fun target h => hstep₁ _ fun acts => by rw [doInvoke_state]; exact hsteps.trans h⟩
  · exact Or.inr ⟨q, vm₁, B, X₁.warmed, X', hpost, hstep₁ _ fun acts => by rw [doInvoke_state]; exact hsteps⟩
theorem vx_callSX (X : Stand p l e R s m args below meth c T locs cells slots) (hexec : p.tables.exec = Jvm.exec) {own : String} {index : Nat} {y : MethodName} {bytes : ByteArray} {maxL : Nat} {ret : Option FieldType} {hh : List (Nat × Nat × Nat × Nat)}
    (hown : s.vm.findClass own = some m.cls) (hlink : (Cond.methodLink own index y).before args s = true) (hstat : (Cond.static y).before args s = true) (hinit : (Cond.initialized y.cls).before args s = true)
    (hcode : (Cond.codeWith y bytes maxL ret hh).before args s = true) (hy : y.cls ≠ "java/lang/invoke/MethodHandle" ∧ y.cls ≠ "java/lang/invoke/VarHandle")
    {W9 : Nat} {Pre : Pt → Array Value → Prop} {Post : Pt → Array Value → Option Value → Pt → Prop} {PostX : Pt → Array Value → Addr → Pt → Prop} (hK : vx_Back l R p e below s args y 3 W9 Pre Post PostX)
    {g : JFrame} (hg : g.method = m) (hsize : g.locals.size = c.maxLocals) {argsL rest : List Value} (hlen : ∀ sig, parseMethodDescriptor y.desc = some sig → argsL.length = sig.parameters.length)
    (hstack : g.stack = argsL.reverse ++ rest) (hW : 2 * g.monitorRoom + (rest.map fun v => v.category).sum ≤ W9) (hdg : decode c.code g.pc = .ok (.invokestatic index, 3))
    (hpre : ∀ vm₁, s.WarmedH vm₁ → Pre ⟨T.setVm vm₁, locs, cells, slots⟩ argsL.toArray) :
    (∃ (v : Option Value) (vm₁ : Vm) (B : Pt), s.WarmedH vm₁ ∧ Stand p l e R s m args below meth c B.U B.locs B.cells B.slots ∧ Post ⟨T.setVm vm₁, locs, cells, slots⟩ argsL.toArray v B ∧
      ∀ target, Steps p.tables e below (B.U.setTop { g with pc := g.pc + 3, stack := v.toList ++ rest }) target → Steps p.tables e below (T.setTop g) target) ∨
    (∃ (q : Addr) (vm₁ : Vm) (B : Pt), s.WarmedH vm₁ ∧ Stand p l e R s m args below meth c B.U B.locs B.cells B.slots ∧ PostX ⟨T.setVm vm₁, locs, cells, slots⟩ argsL.toArray q B ∧
      Steps p.tables e below (T.setTop g) ((B.U.setTop { g with stack := rest }).pushFrame (.throwing q))) := by
  obtain ⟨mk, methM, cM, hnamed, hmethM, -, -, -, -, -, -, hsigM⟩ := Cond.codeWith_spec hcode
  have hstatic : methM.isStatic = true := Cond.static_spec hnamed hmethM hstat
  obtain ⟨kP, hkP, -⟩ := className_of_methodNamed hnamed
  have hinitP : kP.init = .initialized := Cond.initialized_spec (findClass_of_methodNamed hnamed) hkP hinit
  obtain ⟨vm₁, X₁, hstep₁⟩ := X.invokestatic hexec hown hlink hnamed hmethM hstatic hkP hinitP hy (g := g) hg (argsL := argsL) (rest := rest) (hlen _ hsigM) hstack hdg
  rcases hK m meth c ⟨T.setVm vm₁, locs, cells, slots⟩ { g with stack := rest } (.invokestatic index) mk argsL.toArray X₁ hg hsize hdg hW (X₁.named hnamed) (hpre vm₁ X₁.warmed) with ⟨v, B, X', hpost, hsteps⟩ | ⟨q, B, X', hpost, hsteps⟩
  · exact Or.inl ⟨v, vm₁, B, X₁.warmed, X', hpost, fun target h => hstep₁ _ fun acts => by rw [doInvoke_state]; exact hsteps.trans h⟩
  · exact Or.inr ⟨q, vm₁, B, X₁.warmed, X', hpost, hstep₁ _ fun acts => by rw [doInvoke_state]; exact hsteps⟩
theorem vx_callVW (X : Stand p l e R s m args below meth c T locs cells slots) (hexec : p.tables.exec = Jvm.exec) {own C : String} {index : Nat} {y : MethodName} {bytes : ByteArray} {maxL : Nat} {ret : Option FieldType} {hh : List (Nat × Nat × Nat × Nat)}
    (hown : s.vm.findClass own = some m.cls) (hlink : (Cond.methodLink own index y).before args s = true) (hinst : (Cond.instanceMethod y).before args s = true) (hsel : (Cond.selects C y y).before args s = true)
    (hcode : (Cond.codeWith y bytes maxL ret hh).before args s = true) (hy : y.cls ≠ "java/lang/invoke/MethodHandle" ∧ y.cls ≠ "java/lang/invoke/VarHandle")
    {W9 : Nat} {Pre : Pt → Array Value → Prop} {Post : Pt → Array Value → Option Value → Pt → Prop} (hK : Back l R p e below s args y 3 W9 Pre Post)
    {b : Addr} {cellB : Cell} (hcell : T.heap[b]? = some cellB) (hobj : cellB.vm.isStatics = false) (hcls : s.vm.findClass C = some cellB.cls)
    {g : JFrame} (hg : g.method = m) (hsize : g.locals.size = c.maxLocals) {argsL rest : List Value} (hlen : ∀ sig, parseMethodDescriptor y.desc = some sig → argsL.length = sig.parameters.length)
    (hstack : g.stack = argsL.reverse ++ .ref b :: rest) (hW : 2 * g.monitorRoom + (rest.map fun v => v.category).sum ≤ W9) (hdg : decode c.code g.pc = .ok (.invokevirtual index, 3))
    (hpre : ∀ vm₁, s.WarmedH vm₁ → Pre ⟨T.setVm vm₁, locs, cells, slots⟩ (Value.ref b :: argsL).toArray) :
    ∃ (v : Option Value) (vm₁ : Vm) (B : Pt), s.WarmedH vm₁ ∧ Stand p l e R s m args below meth c B.U B.locs B.cells B.slots ∧ Post ⟨T.setVm vm₁, locs, cells, slots⟩ (Value.ref b :: argsL).toArray v B ∧
      ∀ target, Steps p.tables e below (B.U.setTop { g with pc := g.pc + 3, stack := v.toList ++ rest }) target → Steps p.tables e below (T.setTop g) target := by
  obtain ⟨mk, methM, hnamed, hmethM, hstM, habM⟩ := Cond.instanceMethod_spec hinst
  obtain ⟨m8, methM', cM, hn8, hmethM', -, -, -, -, -, -, hsigM⟩ := Cond.codeWith_spec hcode
  cases Option.some.inj (hn8.symm.trans hnamed)
  cases hmethM.symm.trans hmethM'
  obtain ⟨c2, r2, m2, q1, q2, q3, q4, kP, hkP, hkPi⟩ := Cond.selects_spec hsel
  cases hcls.symm.trans q1
  cases (State.methodFound?_of_named hnamed hy).symm.trans q2
  cases hnamed.symm.trans q3
  have hselP : selectMethod e.platform s.vm cellB.cls mk = .method mk := by rw [Launch.admits_selectMethod X.admits]; exact q4
  obtain ⟨vm₁, X₁, hstep₁⟩ := X.invokevirtual hexec hown hlink hnamed hmethM hstM hkP hkPi hy (a := b) (cell := cellB) hcell
    (fun z h => by rw [h] at hobj; cases hobj) hselP hmethM habM hkP hkPi (g := g) hg (argsL := argsL) (rest := rest) (hlen _ hsigM) hstack hdg
  obtain ⟨v, B, X', hpost, hsteps⟩ := hK m meth c ⟨T.setVm vm₁, locs, cells, slots⟩ { g with stack := rest } (.invokevirtual index) mk (Value.ref b :: argsL).toArray X₁ hg hsize hdg hW (X₁.named hnamed) (hpre vm₁ X₁.warmed)
  exact ⟨v, vm₁, B, X₁.warmed, X', hpost, fun target h => hstep₁ _ fun acts => by rw [doInvoke_state]; exact hsteps.trans h⟩
abbrev vx_CVW (R : Room) (s : State) (args : Array Value) (own C : String) (index : Nat) (y : MethodName) (bytes : ByteArray) (maxL : Nat) (ret : Option FieldType) (hh : List (Nat × Nat × Nat × Nat)) (ws : List Cond) (rm : Room) (mc ms n : Nat) : Prop :=
  (rm.cells = mc ∧ rm.slots = ms ∧ rm.frames + 1 ≤ R.frames ∧ 8 + (maxL + 11) + rm.locals ≤ R.locals ∧ (∀ w ∈ ws, ∀ (a' : Array Value) (U : State), s.WarmedH U.vm → w.before a' U = true) ∧ Cond.codeWith y bytes maxL ret hh ∈ ws) ∧
  (Cond.codeWith y bytes maxL ret hh).before args s = true ∧ (Cond.initialized y.cls).before args s = true ∧ (y.cls ≠ "java/lang/invoke/MethodHandle" ∧ y.cls ≠ "java/lang/invoke/VarHandle") ∧
  (∀ sig, parseMethodDescriptor y.desc = some sig → n = sig.parameters.length) ∧ (Cond.methodLink own index y).before args s = true ∧ (Cond.instanceMethod y).before args s = true ∧ (Cond.selects C y y).before args s = true
theorem vx_cwVW {own C : String} {index maxL mc ms : Nat} {y : MethodName} {bytes : ByteArray} {ret : Option FieldType} {hh : List (Nat × Nat × Nat × Nat)} {Ts ws ws' : List Cond} {rm : Room} (n : Nat) (ht : ∀ w ∈ Ts, w.before args s = true) (hT : GoodIn Ts (wsV own index C y ws)) (hw : ws = Cond.codeWith y bytes maxL ret hh :: ws') (hrc : rm.cells = mc) (hrs : rm.slots = ms)
    (hd : y.cls = C ∧ y.cls ≠ "java/lang/invoke/MethodHandle" ∧ y.cls ≠ "java/lang/invoke/VarHandle" ∧ (parseMethodDescriptor y.desc).map (fun d => d.parameters.length) = some n) (hR : rm.frames + 1 ≤ R.frames ∧ 8 + (maxL + 11) + rm.locals ≤ R.locals) :
    vx_CVW R s args own C index y bytes maxL ret hh ws rm mc ms n := by
  obtain ⟨hC, hd⟩ := hd
  subst hC
  have ok : ∀ w ∈ wsV own index y.cls y ws, w.before args s = true := fun w h => ht w (hT w h).1
  have hG : GoodIn Ts ws := fun w h => hT w (by unfold wsV; exact List.mem_append_right _ h)
  have hc : Cond.codeWith y bytes maxL ret hh ∈ ws := by rw [hw]; exact List.mem_cons_self
  refine ⟨⟨hrc, hrs, hR.1, hR.2, pay_in ht hG, hc⟩, ht _ (hG _ hc).1, ok _ (by simp [wsV]), ⟨hd.1, hd.2.1⟩, fun sig h => ?_, ok _ (by simp [wsV]), ok _ (by simp [wsV]), ok _ (by simp [wsV])⟩
  have h2 := hd.2.2
  rw [h] at h2
  exact (Option.some.inj h2).symm
theorem vx_runVW {y : MethodName} {bytes cc : ByteArray} {maxL nL mc ms n index : Nat} {ret : Option FieldType} {hh : List (Nat × Nat × Nat × Nat)} {ws : List Cond} {rm : Room} {Pc : Array Value → State → Prop} {Qc : Array Value → State → Outcome → State → Prop} {free : Addr → Prop} {Ts : List Cond} {own C : String} {b : Addr} {As rest : List Value} {g : JFrame}
    (S : CallFix p m c cc nL s args Ts own) (hM : Met l y ws rm Pc Qc mc ms free) (cw : vx_CVW R s args own C index y bytes maxL ret hh ws rm mc ms n) (hp : PreV s H C b Pc As)
    (hg : g.method = m) (hn : As.length = n) (hsize : g.locals.size = nL) (hstack : g.stack = As.reverse ++ .ref b :: rest) (hW : 2 * g.monitorRoom + (rest.map fun v => v.category).sum ≤ 8) (hdg : decode cc g.pc = .ok (.invokevirtual index, 3)) (hf : cells + mc ≤ R.cells ∧ slots + ms ≤ R.slots) :
    va_Run p l e R s m args below meth c H locs cells slots mc ms g rest (Qc (Value.ref b :: As).toArray) free := by
  obtain ⟨⟨hrc, hrs, hfr, hlo, hws, hcw⟩, hcode, hini, hy, hlen, hl, hin, hse⟩ := cw
  have hK : Back l R p e below s args y 3 8 (PreOf R mc ms Pc) (PostOf Qc mc ms free) := va_backW (hh := hh) (bytes := bytes) (maxL := maxL) (ret := ret) hM hp.1 hrc hrs hfr hlo hws hcw (fun a' U hW => word_at hW (Or.inl (by first | rfl | simp [Cond.onTables, Cond.keeps, Cond.steady])) hini)
  obtain ⟨hx, hb, hml, ho, -⟩ := S
  obtain ⟨-, ⟨cellB, hcB, hoB, hclB⟩, hPc⟩ := hp
  intro T hT X
  obtain ⟨v, vm₁, ⟨U', l2, c2, s2⟩, hW₁, X', ⟨g', mk, t, L, e1, e2, hq, h1, hL, h2, h3⟩, st⟩ := vx_callVW X hx (C := C) (hh := hh) (bytes := bytes) (maxL := maxL) (ret := ret) ho hl hin hse hcode hy hK (by rw [hT]; exact hcB) hoB hclB hg (hsize.trans hml.symm) (argsL := As) (rest := rest) (fun sig h => hn.trans (hlen sig h)) hstack hW (by rw [hb]; exact hdg)
    (fun vm₁ hW₁ => ⟨hf.1, hf.2, hPc (T.setVm vm₁) hT hW₁⟩)
  dsimp only [Pt.U, Pt.locs, Pt.cells, Pt.slots] at X' e1 e2 h1 h2 h3 st
  subst h1; subst h2; subst h3
  exact ⟨v, (T.setVm vm₁).calling g' mk (Value.ref b :: As).toArray, t, U', L, hT, X', hL, e1, e2, hq, st⟩
section
variable {y : MethodName} {bytes cc : ByteArray} {maxL nL mc ms n index : Nat} {ret : Option FieldType} {ws : List Cond} {rm : Room} {Pc : Array Value → State → Prop} {Qc : Array Value → State → Outcome → State → Prop} {XC : String → State → State → Prop} {free : Addr → Prop} {Ts : List Cond} {own C : String} {b : Addr} {As rest : List Value} {g : JFrame}
theorem vx_runVX {hh : List (Nat × Nat × Nat × Nat)} (S : CallFix p m c cc nL s args Ts own) (hM : vx_Met l y ws rm Pc Qc XC mc ms free) (cw : vx_CVW R s args own C index y bytes maxL ret hh ws rm mc ms n) (hp : PreV s H C b Pc As)
    (hg : g.method = m) (hn : As.length = n) (hsize : g.locals.size = nL) (hstack : g.stack = As.reverse ++ .ref b :: rest) (hW : 2 * g.monitorRoom + (rest.map fun v => v.category).sum ≤ 8) (hdg : decode cc g.pc = .ok (.invokevirtual index, 3)) (hf : cells + mc ≤ R.cells ∧ slots + ms ≤ R.slots) :
    vx_Run p l e R s m args below meth c H locs cells slots mc ms g rest (Qc (Value.ref b :: As).toArray) XC free := by
  obtain ⟨⟨hrc, hrs, hfr, hlo, hws, hcw⟩, hcode, hini, hy, hlen, hl, hin, hse⟩ := cw
  have hK : vx_Back l R p e below s args y 3 8 (PreOf R mc ms Pc) (PostOf Qc mc ms free) (vx_Post XC mc ms free) := vx_backW (hh := hh) (bytes := bytes) (maxL := maxL) (ret := ret) hM hp.1 hrc hrs hfr hlo hws hcw (fun a' U hW => word_at hW (Or.inl (by first | rfl | simp [Cond.onTables, Cond.keeps, Cond.steady])) hini)
  obtain ⟨hx, hb, hml, ho, -⟩ := S
  obtain ⟨-, ⟨cellB, hcB, hoB, hclB⟩, hPc⟩ := hp
  intro T hT X
  rcases vx_callVX X hx (C := C) (hh := hh) (bytes := bytes) (maxL := maxL) (ret := ret) ho hl hin hse hcode hy hK (by rw [hT]; exact hcB) hoB hclB hg (hsize.trans hml.symm) (argsL := As) (rest := rest) (fun sig h => hn.trans (hlen sig h)) hstack hW (by rw [hb]; exact hdg)
    (fun vm₁ hW₁ => ⟨hf.1, hf.2, hPc (T.setVm vm₁) hT hW₁⟩) with ⟨v, vm₁, ⟨U', l2, c2, s2⟩, hW₁, X', ⟨g', mk, t, L, e1, e2, hq, h1, hL, h2, h3⟩, st⟩ | ⟨q, vm₁, ⟨U', l2, c2, s2⟩, hW₁, X', ⟨g', mk, t, L, E, ce, e1, e2, hq, hce, hcv, hcl, h1, hL, h2, h3⟩, st⟩
  · dsimp only [Pt.U, Pt.locs, Pt.cells, Pt.slots] at X' e1 e2 h1 h2 h3 st
    subst h1; subst h2; subst h3
    exact Or.inl ⟨v, (T.setVm vm₁).calling g' mk (Value.ref b :: As).toArray, t, U', L, hT, X', hL, e1, e2, hq, st⟩
  · dsimp only [Pt.U, Pt.locs, Pt.cells, Pt.slots] at X' e1 e2 h1 h2 h3 st hcl
    subst h1; subst h2; subst h3
    exact Or.inr ⟨q, (T.setVm vm₁).calling g' mk (Value.ref b :: As).toArray, t, U', L, E, ce, hT, X', hL, e1, e2, hq, hce, hcv, vx_cls hW₁ hcl, st⟩
theorem vx_runSX {hh : List (Nat × Nat × Nat × Nat)} (S : CallFix p m c cc nL s args Ts own) (hM : vx_Met l y ws rm Pc Qc XC mc ms free) (cw : vx_CSW R s args own index y bytes maxL ret hh ws rm mc ms n) (hp : PreS s H Pc As)
    (hg : g.method = m) (hn : As.length = n) (hsize : g.locals.size = nL) (hstack : g.stack = As.reverse ++ rest) (hW : 2 * g.monitorRoom + (rest.map fun v => v.category).sum ≤ 8) (hdg : decode cc g.pc = .ok (.invokestatic index, 3)) (hf : cells + mc ≤ R.cells ∧ slots + ms ≤ R.slots) :
    vx_Run p l e R s m args below meth c H locs cells slots mc ms g rest (Qc As.toArray) XC free := by
  obtain ⟨⟨hrc, hrs, hfr, hlo, hws, hcw⟩, hcode, hini, hy, hlen, hl, hstt⟩ := cw
  have hK : vx_Back l R p e below s args y 3 8 (PreOf R mc ms Pc) (PostOf Qc mc ms free) (vx_Post XC mc ms free) := vx_backW (hh := hh) (bytes := bytes) (maxL := maxL) (ret := ret) hM hp.1 hrc hrs hfr hlo hws hcw (fun a' U hW => word_at hW (Or.inl (by first | rfl | simp [Cond.onTables, Cond.keeps, Cond.steady])) hini)
  obtain ⟨hx, hb, hml, ho, -⟩ := S
  intro T hT X
  rcases vx_callSX X hx (hh := hh) (bytes := bytes) (maxL := maxL) (ret := ret) ho hl hstt hini hcode hy hK hg (hsize.trans hml.symm) (argsL := As) (rest := rest) (fun sig h => hn.trans (hlen sig h)) hstack hW (by rw [hb]; exact hdg)
    (fun vm₁ hW₁ => ⟨hf.1, hf.2, hp.2 (T.setVm vm₁) hT hW₁⟩) with ⟨v, vm₁, ⟨U', l2, c2, s2⟩, hW₁, X', ⟨g', mk, t, L, e1, e2, hq, h1, hL, h2, h3⟩, st⟩ | ⟨q, vm₁, ⟨U', l2, c2, s2⟩, hW₁, X', ⟨g', mk, t, L, E, ce, e1, e2, hq, hce, hcv, hcl, h1, hL, h2, h3⟩, st⟩
  · dsimp only [Pt.U, Pt.locs, Pt.cells, Pt.slots] at X' e1 e2 h1 h2 h3 st
    subst h1; subst h2; subst h3
    exact Or.inl ⟨v, (T.setVm vm₁).calling g' mk As.toArray, t, U', L, hT, X', hL, e1, e2, hq, st⟩
  · dsimp only [Pt.U, Pt.locs, Pt.cells, Pt.slots] at X' e1 e2 h1 h2 h3 st hcl
    subst h1; subst h2; subst h3
    exact Or.inr ⟨q, (T.setVm vm₁).calling g' mk As.toArray, t, U', L, E, ce, hT, X', hL, e1, e2, hq, hce, hcv, vx_cls hW₁ hcl, st⟩
end
end VXH
theorem vx_ofWH {l : Launch} {y : MethodName} {ws ws' : List Cond} {rm : Room} {Pc : Array Value → State → Prop} {Qc : Array Value → State → Outcome → State → Prop} {XC : String → State → State → Prop} {mc ms : Nat} {free : Addr → Prop} {cc : ByteArray} {maxL : Nat} {ret : Option FieldType} {hh : List (Nat × Nat × Nat × Nat)}
    (hy : plainName y.cls = true) (hw : ws = Cond.codeWith y cc maxL ret hh :: ws')
    (body : ∀ p e s m args below meth c s₁, BodyLoose p l y (headSpec ws rm) cc maxL ret e s m args below meth c s₁ → c.maxLocals = maxL → Pc args s →
      W p l e (headSpec ws rm).room s m args below meth c s.heap [] 0 0 (vx_MQ below Qc XC args s mc ms free) (entryFrame m args maxL)) : vx_Met l y ws rm Pc Qc XC mc ms free := by
  refine MetFree.of_bodyS (code := cc) (maxLocals := maxL) (ret := ret) hy ?_ ?_
  · intro args s m h hn
    obtain ⟨m9, meth, c, hn9, h1, h2, h3, h4, -, h5, h6, -⟩ := Cond.codeWith_spec (atoms_spec (ws := ws) h _ (by rw [hw]; exact List.mem_cons_self))
    cases hn.symm.trans hn9
    exact ⟨meth, c, h1, h2, h3, h4, h5, h6⟩
  · intro p e s m args below meth c s₁ B hml hP _
    have hh0 : s₁.heap = s.heap := by rw [B.state]; rfl
    obtain ⟨t, a1, o, b1, b2, b3⟩ := body p e s m args below meth c s₁ B hml hP s₁ hh0 (Stand.of_body B)
    exact ⟨t, o, a1, b1, b2, b3⟩
/-! ===== END ===== -/

/-! ===== BEGIN printed: names, fields, word lists, decode rows ===== -/
end
section
def RX0 : String := "HarmoniumDesk$Copy"
def TX0 : u_T := fun k => match k with
  | 0 => ("HarmoniumDesk$Copy", "voice", "I", true)
  | 1 => ("HarmoniumDesk$Copy", "bars", "I", true)
  | 2 => ("HarmoniumDesk$Copy", "tones", "[I", true)
  | _ => ("HarmoniumDesk$Copy", "slipCount", "I", false)
def tyX0 : Nat → FieldType := fun k => match k with
  | 0 => .int
  | 1 => .int
  | 2 => .array .int
  | _ => .int
abbrev wsX00 : List Cond := u_ws RX0 TX0 4
theorem nmX0 : ∀ a, a < 4 → ∀ b, b < 4 → a ≠ b → (TX0 a).2.1 ≠ (TX0 b).2.1 := by decide +kernel
theorem tyX0_ok : ∀ k, k < 4 → parseFieldDescriptor (TX0 k).2.2.1 = some (tyX0 k) := by decide +kernel
abbrev cX0_init : ByteArray := prog_2_method_1_code
def yX0_init : MethodName := ⟨RX0, "<init>", "(ILHarmoniumDesk$Score;)V"⟩
abbrev cX0_takeVoice : ByteArray := prog_2_method_2_code
def yX0_takeVoice : MethodName := ⟨RX0, "takeVoice", "(LHarmoniumDesk$Score;)V"⟩
abbrev cX0_differingBars : ByteArray := prog_2_method_3_code
def yX0_differingBars : MethodName := ⟨RX0, "differingBars", "(LHarmoniumDesk$Score;)I"⟩
def RX1 : String := "HarmoniumDesk$Score"
def TX1 : u_T := fun k => match k with
  | 0 => ("HarmoniumDesk$Score", "bars", "I", false)
  | 1 => ("HarmoniumDesk$Score", "upper", "[I", true)
  | _ => ("HarmoniumDesk$Score", "lower", "[I", true)
def tyX1 : Nat → FieldType := fun k => match k with
  | 0 => .int
  | 1 => .array .int
  | _ => .array .int
abbrev wsX10 : List Cond := u_ws RX1 TX1 3
theorem nmX1 : ∀ a, a < 3 → ∀ b, b < 3 → a ≠ b → (TX1 a).2.1 ≠ (TX1 b).2.1 := by decide +kernel
theorem tyX1_ok : ∀ k, k < 3 → parseFieldDescriptor (TX1 k).2.2.1 = some (tyX1 k) := by decide +kernel
abbrev cX1_init : ByteArray := prog_3_method_1_code
def yX1_init : MethodName := ⟨RX1, "<init>", "()V"⟩
abbrev cX1_tone : ByteArray := prog_3_method_2_code
def yX1_tone : MethodName := ⟨RX1, "tone", "(II)I"⟩
abbrev cX1_setTone : ByteArray := prog_3_method_3_code
def yX1_setTone : MethodName := ⟨RX1, "setTone", "(III)V"⟩
abbrev cX1_fill : ByteArray := prog_3_method_4_code
def yX1_fill : MethodName := ⟨RX1, "fill", "(II)V"⟩
abbrev cX1_takeAll : ByteArray := prog_3_method_5_code
def yX1_takeAll : MethodName := ⟨RX1, "takeAll", "(LHarmoniumDesk$Score;)V"⟩
abbrev cX1_takeBar : ByteArray := prog_3_method_6_code
def yX1_takeBar : MethodName := ⟨RX1, "takeBar", "(LHarmoniumDesk$Score;I)V"⟩
abbrev cX1_sameBar : ByteArray := prog_3_method_7_code
def yX1_sameBar : MethodName := ⟨RX1, "sameBar", "(LHarmoniumDesk$Score;I)Z"⟩
abbrev cX1_wayOf : ByteArray := prog_3_method_8_code
def yX1_wayOf : MethodName := ⟨RX1, "wayOf", "(I)I"⟩
abbrev cX1_faultsOf : ByteArray := prog_3_method_9_code
def yX1_faultsOf : MethodName := ⟨RX1, "faultsOf", "(II)I"⟩
abbrev cX1_interval : ByteArray := prog_3_method_10_code
def yX1_interval : MethodName := ⟨RX1, "interval", "(I)I"⟩
abbrev cX1_isPerfect : ByteArray := prog_3_method_11_code
def yX1_isPerfect : MethodName := ⟨RX1, "isPerfect", "(I)Z"⟩
abbrev cX1_stepTo : ByteArray := prog_3_method_12_code
def yX1_stepTo : MethodName := ⟨RX1, "stepTo", "(II)I"⟩
abbrev cX1_isDiscord : ByteArray := prog_3_method_13_code
def yX1_isDiscord : MethodName := ⟨RX1, "isDiscord", "(I)Z"⟩
abbrev cX1_isParallel : ByteArray := prog_3_method_14_code
def yX1_isParallel : MethodName := ⟨RX1, "isParallel", "(I)Z"⟩
abbrev cX1_leapsTo : ByteArray := prog_3_method_15_code
def yX1_leapsTo : MethodName := ⟨RX1, "leapsTo", "(I)I"⟩
abbrev cX1_badEndsAt : ByteArray := prog_3_method_16_code
def yX1_badEndsAt : MethodName := ⟨RX1, "badEndsAt", "(I)I"⟩
abbrev cX1_isStanding : ByteArray := prog_3_method_17_code
def yX1_isStanding : MethodName := ⟨RX1, "isStanding", "(I)Z"⟩
def RX2 : String := "HarmoniumDesk$Version"
def TX2 : u_T := fun k => match k with
  | 0 => ("HarmoniumDesk$Version", "number", "I", true)
  | 1 => ("HarmoniumDesk$Version", "parent", "LHarmoniumDesk$Version;", true)
  | 2 => ("HarmoniumDesk$Version", "score", "LHarmoniumDesk$Score;", true)
  | 3 => ("HarmoniumDesk$Version", "fixed", "Z", false)
  | _ => ("HarmoniumDesk$Version", "passedWhenHandedIn", "Z", false)
def tyX2 : Nat → FieldType := fun k => match k with
  | 0 => .int
  | 1 => .object "HarmoniumDesk$Version"
  | 2 => .object "HarmoniumDesk$Score"
  | 3 => .boolean
  | _ => .boolean
abbrev wsX20 : List Cond := u_ws RX2 TX2 5
theorem nmX2 : ∀ a, a < 5 → ∀ b, b < 5 → a ≠ b → (TX2 a).2.1 ≠ (TX2 b).2.1 := by decide +kernel
theorem tyX2_ok : ∀ k, k < 5 → parseFieldDescriptor (TX2 k).2.2.1 = some (tyX2 k) := by decide +kernel
abbrev cX2_init : ByteArray := prog_4_method_1_code
def yX2_init : MethodName := ⟨RX2, "<init>", "(ILHarmoniumDesk$Version;)V"⟩
def RX3 : String := "HarmoniumDesk"
def TX3 : u_T := fun k => match k with
  | 0 => ("HarmoniumDesk", "versions", "[LHarmoniumDesk$Version;", true)
  | 1 => ("HarmoniumDesk", "versionCount", "I", false)
  | 2 => ("HarmoniumDesk", "copies", "[LHarmoniumDesk$Copy;", true)
  | 3 => ("HarmoniumDesk", "copyCount", "I", false)
  | 4 => ("HarmoniumDesk", "weights", "[I", true)
  | 5 => ("HarmoniumDesk", "passMark", "I", false)
  | _ => ("HarmoniumDesk", "trial", "LHarmoniumDesk$Score;", true)
def tyX3 : Nat → FieldType := fun k => match k with
  | 0 => .array (.object "HarmoniumDesk$Version")
  | 1 => .int
  | 2 => .array (.object "HarmoniumDesk$Copy")
  | 3 => .int
  | 4 => .array .int
  | 5 => .int
  | _ => .object "HarmoniumDesk$Score"
abbrev wsX30 : List Cond := u_ws RX3 TX3 7
theorem nmX3 : ∀ a, a < 7 → ∀ b, b < 7 → a ≠ b → (TX3 a).2.1 ≠ (TX3 b).2.1 := by decide +kernel
theorem tyX3_ok : ∀ k, k < 7 → parseFieldDescriptor (TX3 k).2.2.1 = some (tyX3 k) := by decide +kernel
abbrev cX3_init : ByteArray := prog_1_method_1_code
def yX3_init : MethodName := ⟨RX3, "<init>", "()V"⟩
abbrev cX3_begin : ByteArray := prog_1_method_2_code
def yX3_begin : MethodName := ⟨RX3, "begin", "(I)I"⟩
abbrev cX3_branch : ByteArray := prog_1_method_3_code
def yX3_branch : MethodName := ⟨RX3, "branch", "(I)I"⟩
abbrev cX3_setNote : ByteArray := prog_1_method_4_code
def yX3_setNote : MethodName := ⟨RX3, "setNote", "(IIII)I"⟩
abbrev cX3_note : ByteArray := prog_1_method_5_code
def yX3_note : MethodName := ⟨RX3, "note", "(III)I"⟩
abbrev cX3_base : ByteArray := prog_1_method_6_code
def yX3_base : MethodName := ⟨RX3, "base", "(II)I"⟩
abbrev cX3_conflicts : ByteArray := prog_1_method_7_code
def yX3_conflicts : MethodName := ⟨RX3, "conflicts", "(II)I"⟩
abbrev cX3_merge : ByteArray := prog_1_method_8_code
def yX3_merge : MethodName := ⟨RX3, "merge", "(II)I"⟩
abbrev cX3_setWeight : ByteArray := prog_1_method_9_code
def yX3_setWeight : MethodName := ⟨RX3, "setWeight", "(II)I"⟩
abbrev cX3_setPass : ByteArray := prog_1_method_10_code
def yX3_setPass : MethodName := ⟨RX3, "setPass", "(I)I"⟩
abbrev cX3_faults : ByteArray := prog_1_method_11_code
def yX3_faults : MethodName := ⟨RX3, "faults", "(III)I"⟩
abbrev cX3_mark : ByteArray := prog_1_method_12_code
def yX3_mark : MethodName := ⟨RX3, "mark", "(I)I"⟩
abbrev cX3_handIn : ByteArray := prog_1_method_13_code
def yX3_handIn : MethodName := ⟨RX3, "handIn", "(I)Z"⟩
abbrev cX3_fallen : ByteArray := prog_1_method_14_code
def yX3_fallen : MethodName := ⟨RX3, "fallen", "()I"⟩
abbrev cX3_best : ByteArray := prog_1_method_15_code
def yX3_best : MethodName := ⟨RX3, "best", "(III)I"⟩
abbrev cX3_movement : ByteArray := prog_1_method_16_code
def yX3_movement : MethodName := ⟨RX3, "movement", "(II)F"⟩
abbrev cX3_print : ByteArray := prog_1_method_17_code
def yX3_print : MethodName := ⟨RX3, "print", "(II)I"⟩
abbrev cX3_errata : ByteArray := prog_1_method_18_code
def yX3_errata : MethodName := ⟨RX3, "errata", "(II)I"⟩
abbrev cX3_slip : ByteArray := prog_1_method_19_code
def yX3_slip : MethodName := ⟨RX3, "slip", "(II)I"⟩
abbrev cX3_slips : ByteArray := prog_1_method_20_code
def yX3_slips : MethodName := ⟨RX3, "slips", "(I)I"⟩
abbrev cX3_findVersion : ByteArray := prog_1_method_21_code
def yX3_findVersion : MethodName := ⟨RX3, "findVersion", "(I)LHarmoniumDesk$Version;"⟩
abbrev cX3_findCopy : ByteArray := prog_1_method_22_code
def yX3_findCopy : MethodName := ⟨RX3, "findCopy", "(I)LHarmoniumDesk$Copy;"⟩
abbrev cX3_checkVoice : ByteArray := prog_1_method_23_code
def yX3_checkVoice : MethodName := ⟨RX3, "checkVoice", "(I)V"⟩
abbrev cX3_checkBar : ByteArray := prog_1_method_24_code
def yX3_checkBar : MethodName := ⟨RX3, "checkBar", "(LHarmoniumDesk$Version;I)V"⟩
abbrev cX3_checkAsManyBars : ByteArray := prog_1_method_25_code
def yX3_checkAsManyBars : MethodName := ⟨RX3, "checkAsManyBars", "(LHarmoniumDesk$Copy;LHarmoniumDesk$Version;)V"⟩
abbrev cX3_addVersion : ByteArray := prog_1_method_26_code
def yX3_addVersion : MethodName := ⟨RX3, "addVersion", "(LHarmoniumDesk$Version;)LHarmoniumDesk$Version;"⟩
abbrev cX3_addCopy : ByteArray := prog_1_method_27_code
def yX3_addCopy : MethodName := ⟨RX3, "addCopy", "(ILHarmoniumDesk$Score;)I"⟩
abbrev cX3_commonAncestor : ByteArray := prog_1_method_28_code
def yX3_commonAncestor : MethodName := ⟨RX3, "commonAncestor", "(LHarmoniumDesk$Version;LHarmoniumDesk$Version;)LHarmoniumDesk$Version;"⟩
abbrev cX3_isAncestor : ByteArray := prog_1_method_29_code
def yX3_isAncestor : MethodName := ⟨RX3, "isAncestor", "(LHarmoniumDesk$Version;LHarmoniumDesk$Version;)Z"⟩
abbrev cX3_conflictingBars : ByteArray := prog_1_method_30_code
def yX3_conflictingBars : MethodName := ⟨RX3, "conflictingBars", "(LHarmoniumDesk$Score;LHarmoniumDesk$Score;LHarmoniumDesk$Score;)I"⟩
abbrev cX3_mergeInto : ByteArray := prog_1_method_31_code
def yX3_mergeInto : MethodName := ⟨RX3, "mergeInto", "(LHarmoniumDesk$Score;LHarmoniumDesk$Score;LHarmoniumDesk$Score;LHarmoniumDesk$Score;)V"⟩
abbrev cX3_markOf : ByteArray := prog_1_method_32_code
def yX3_markOf : MethodName := ⟨RX3, "markOf", "(LHarmoniumDesk$Score;)I"⟩
abbrev cX3_weightedFaults : ByteArray := prog_1_method_33_code
def yX3_weightedFaults : MethodName := ⟨RX3, "weightedFaults", "(LHarmoniumDesk$Score;II)I"⟩
abbrev cX3_bestTone : ByteArray := prog_1_method_34_code
def yX3_bestTone : MethodName := ⟨RX3, "bestTone", "(II)I"⟩
def RX4 : String := "HarmoniumDeskModel"
def TX4 : u_T := fun k => match k with
  | 0 => ("HarmoniumDeskModel", "versions", "I", false)
  | 1 => ("HarmoniumDeskModel", "bars", "[I", true)
  | 2 => ("HarmoniumDeskModel", "parent", "[I", true)
  | 3 => ("HarmoniumDeskModel", "isFixed", "[Z", true)
  | 4 => ("HarmoniumDeskModel", "hasPassed", "[Z", true)
  | 5 => ("HarmoniumDeskModel", "notes", "[I", true)
  | 6 => ("HarmoniumDeskModel", "weight", "[I", true)
  | 7 => ("HarmoniumDeskModel", "pass", "I", false)
  | 8 => ("HarmoniumDeskModel", "copies", "I", false)
  | 9 => ("HarmoniumDeskModel", "longs", "[I", true)
  | 10 => ("HarmoniumDeskModel", "voiceOf", "[I", true)
  | 11 => ("HarmoniumDeskModel", "printed", "[I", true)
  | 12 => ("HarmoniumDeskModel", "slips", "[I", true)
  | _ => ("HarmoniumDeskModel", "thrown", "I", false)
def tyX4 : Nat → FieldType := fun k => match k with
  | 0 => .int
  | 1 => .array .int
  | 2 => .array .int
  | 3 => .array .boolean
  | 4 => .array .boolean
  | 5 => .array .int
  | 6 => .array .int
  | 7 => .int
  | 8 => .int
  | 9 => .array .int
  | 10 => .array .int
  | 11 => .array .int
  | 12 => .array .int
  | _ => .int
abbrev wsX40 : List Cond := u_ws RX4 TX4 14
theorem nmX4 : ∀ a, a < 14 → ∀ b, b < 14 → a ≠ b → (TX4 a).2.1 ≠ (TX4 b).2.1 := by decide +kernel
theorem tyX4_ok : ∀ k, k < 14 → parseFieldDescriptor (TX4 k).2.2.1 = some (tyX4 k) := by decide +kernel
abbrev cX4_init : ByteArray := prog_6_method_1_code
def yX4_init : MethodName := ⟨RX4, "<init>", "()V"⟩
abbrev cX4_thrown : ByteArray := prog_6_method_2_code
def yX4_thrown : MethodName := ⟨RX4, "thrown", "()I"⟩
abbrev cX4_fails : ByteArray := prog_6_method_3_code
def yX4_fails : MethodName := ⟨RX4, "fails", "(I)Z"⟩
abbrev cX4_isIn : ByteArray := prog_6_method_4_code
def yX4_isIn : MethodName := ⟨RX4, "isIn", "(III)Z"⟩
abbrev cX4_isVersion : ByteArray := prog_6_method_5_code
def yX4_isVersion : MethodName := ⟨RX4, "isVersion", "(I)Z"⟩
abbrev cX4_isNote : ByteArray := prog_6_method_6_code
def yX4_isNote : MethodName := ⟨RX4, "isNote", "(III)Z"⟩
abbrev cX4_at : ByteArray := prog_6_method_7_code
def yX4_at : MethodName := ⟨RX4, "at", "(III)I"⟩
abbrev cX4_begin : ByteArray := prog_6_method_8_code
def yX4_begin : MethodName := ⟨RX4, "begin", "(I)I"⟩
abbrev cX4_makes : ByteArray := prog_6_method_9_code
def yX4_makes : MethodName := ⟨RX4, "makes", "(I)I"⟩
abbrev cX4_branch : ByteArray := prog_6_method_10_code
def yX4_branch : MethodName := ⟨RX4, "branch", "(I)I"⟩
abbrev cX4_setNote : ByteArray := prog_6_method_11_code
def yX4_setNote : MethodName := ⟨RX4, "setNote", "(IIII)I"⟩
abbrev cX4_note : ByteArray := prog_6_method_12_code
def yX4_note : MethodName := ⟨RX4, "note", "(III)I"⟩
abbrev cX4_isAncestor : ByteArray := prog_6_method_13_code
def yX4_isAncestor : MethodName := ⟨RX4, "isAncestor", "(II)Z"⟩
abbrev cX4_baseOf : ByteArray := prog_6_method_14_code
def yX4_baseOf : MethodName := ⟨RX4, "baseOf", "(II)I"⟩
abbrev cX4_base : ByteArray := prog_6_method_15_code
def yX4_base : MethodName := ⟨RX4, "base", "(II)I"⟩
abbrev cX4_areAlike : ByteArray := prog_6_method_16_code
def yX4_areAlike : MethodName := ⟨RX4, "areAlike", "(III)Z"⟩
abbrev cX4_conflicts : ByteArray := prog_6_method_17_code
def yX4_conflicts : MethodName := ⟨RX4, "conflicts", "(II)I"⟩
abbrev cX4_merge : ByteArray := prog_6_method_18_code
def yX4_merge : MethodName := ⟨RX4, "merge", "(II)I"⟩
abbrev cX4_setWeight : ByteArray := prog_6_method_19_code
def yX4_setWeight : MethodName := ⟨RX4, "setWeight", "(II)I"⟩
abbrev cX4_setPass : ByteArray := prog_6_method_20_code
def yX4_setPass : MethodName := ⟨RX4, "setPass", "(I)I"⟩
abbrev cX4_away : ByteArray := prog_6_method_21_code
def yX4_away : MethodName := ⟨RX4, "away", "(II)I"⟩
abbrev cX4_interval : ByteArray := prog_6_method_22_code
def yX4_interval : MethodName := ⟨RX4, "interval", "(II)I"⟩
abbrev cX4_stays : ByteArray := prog_6_method_23_code
def yX4_stays : MethodName := ⟨RX4, "stays", "(III)Z"⟩
abbrev cX4_leap : ByteArray := prog_6_method_24_code
def yX4_leap : MethodName := ⟨RX4, "leap", "(III)I"⟩
abbrev cX4_faultsAt : ByteArray := prog_6_method_25_code
def yX4_faultsAt : MethodName := ⟨RX4, "faultsAt", "(III)I"⟩
abbrev cX4_faults : ByteArray := prog_6_method_26_code
def yX4_faults : MethodName := ⟨RX4, "faults", "(III)I"⟩
abbrev cX4_costs : ByteArray := prog_6_method_27_code
def yX4_costs : MethodName := ⟨RX4, "costs", "(I)I"⟩
abbrev cX4_markOf : ByteArray := prog_6_method_28_code
def yX4_markOf : MethodName := ⟨RX4, "markOf", "(I)I"⟩
abbrev cX4_mark : ByteArray := prog_6_method_29_code
def yX4_mark : MethodName := ⟨RX4, "mark", "(I)I"⟩
abbrev cX4_handIn : ByteArray := prog_6_method_30_code
def yX4_handIn : MethodName := ⟨RX4, "handIn", "(I)Z"⟩
abbrev cX4_fallen : ByteArray := prog_6_method_31_code
def yX4_fallen : MethodName := ⟨RX4, "fallen", "()I"⟩
abbrev cX4_best : ByteArray := prog_6_method_32_code
def yX4_best : MethodName := ⟨RX4, "best", "(III)I"⟩
abbrev cX4_movement : ByteArray := prog_6_method_33_code
def yX4_movement : MethodName := ⟨RX4, "movement", "(II)F"⟩
abbrev cX4_isCopy : ByteArray := prog_6_method_34_code
def yX4_isCopy : MethodName := ⟨RX4, "isCopy", "(I)Z"⟩
abbrev cX4_print : ByteArray := prog_6_method_35_code
def yX4_print : MethodName := ⟨RX4, "print", "(II)I"⟩
abbrev cX4_differs : ByteArray := prog_6_method_36_code
def yX4_differs : MethodName := ⟨RX4, "differs", "(II)I"⟩
abbrev cX4_misses : ByteArray := prog_6_method_37_code
def yX4_misses : MethodName := ⟨RX4, "misses", "(II)I"⟩
abbrev cX4_errata : ByteArray := prog_6_method_38_code
def yX4_errata : MethodName := ⟨RX4, "errata", "(II)I"⟩
abbrev cX4_slip : ByteArray := prog_6_method_39_code
def yX4_slip : MethodName := ⟨RX4, "slip", "(II)I"⟩
abbrev cX4_slips : ByteArray := prog_6_method_40_code
def yX4_slips : MethodName := ⟨RX4, "slips", "(I)I"⟩
def RJ6 : String := "java/lang/Integer"
def TJ6 : u_T := fun k => match k with
  | _ => ("", "", "", false)
def tyJ6 : Nat → FieldType := fun k => match k with
  | _ => .int
abbrev wsJ60 : List Cond := u_ws RJ6 TJ6 0
theorem nmJ6 : ∀ a, a < 0 → ∀ b, b < 0 → a ≠ b → (TJ6 a).2.1 ≠ (TJ6 b).2.1 := by decide +kernel
theorem tyJ6_ok : ∀ k, k < 0 → parseFieldDescriptor (TJ6 k).2.2.1 = some (tyJ6 k) := by decide +kernel
abbrev cJ6_bitCount_0f7a4 : ByteArray := prog_11_method_49_code
def yJ6_bitCount_0f7a4 : MethodName := ⟨RJ6, "bitCount", "(I)I"⟩
def RJ9 : String := "java/lang/Math"
def TJ9 : u_T := fun k => match k with
  | _ => ("", "", "", false)
def tyJ9 : Nat → FieldType := fun k => match k with
  | _ => .int
abbrev wsJ90 : List Cond := u_ws RJ9 TJ9 0
theorem nmJ9 : ∀ a, a < 0 → ∀ b, b < 0 → a ≠ b → (TJ9 a).2.1 ≠ (TJ9 b).2.1 := by decide +kernel
theorem tyJ9_ok : ∀ k, k < 0 → parseFieldDescriptor (TJ9 k).2.2.1 = some (tyJ9 k) := by decide +kernel
abbrev cJ9_abs_0f7a4 : ByteArray := prog_12_method_59_code
def yJ9_abs_0f7a4 : MethodName := ⟨RJ9, "abs", "(I)I"⟩
abbrev cJ9_max_7cf53 : ByteArray := prog_12_method_65_code
def yJ9_max_7cf53 : MethodName := ⟨RJ9, "max", "(II)I"⟩
abbrev cJ9_min_7cf53 : ByteArray := prog_12_method_69_code
def yJ9_min_7cf53 : MethodName := ⟨RJ9, "min", "(II)I"⟩
def RJ0 : String := "java/lang/String"
def TJ0 : u_T := fun k => match k with
  | _ => ("", "", "", false)
def tyJ0 : Nat → FieldType := fun k => match k with
  | _ => .int
abbrev wsJ00 : List Cond := u_ws RJ0 TJ0 0
theorem nmJ0 : ∀ a, a < 0 → ∀ b, b < 0 → a ≠ b → (TJ0 a).2.1 ≠ (TJ0 b).2.1 := by decide +kernel
theorem tyJ0_ok : ∀ k, k < 0 → parseFieldDescriptor (TJ0 k).2.2.1 = some (tyJ0 k) := by decide +kernel
def RL : String := "HarmoniumDeskLaw"
abbrev cL_begin : ByteArray := method_3_code
def yL_begin : MethodName := ⟨RL, "begin", "(LHarmoniumDesk;I[J)I"⟩
abbrev cL_branch : ByteArray := method_4_code
def yL_branch : MethodName := ⟨RL, "branch", "(LHarmoniumDesk;I[J)I"⟩
abbrev cL_setNote : ByteArray := method_5_code
def yL_setNote : MethodName := ⟨RL, "setNote", "(LHarmoniumDesk;IIII[J)I"⟩
abbrev cL_note : ByteArray := method_6_code
def yL_note : MethodName := ⟨RL, "note", "(LHarmoniumDesk;III[J)I"⟩
abbrev cL_base : ByteArray := method_7_code
def yL_base : MethodName := ⟨RL, "base", "(LHarmoniumDesk;II[J)I"⟩
abbrev cL_conflicts : ByteArray := method_8_code
def yL_conflicts : MethodName := ⟨RL, "conflicts", "(LHarmoniumDesk;II[J)I"⟩
abbrev cL_merge : ByteArray := method_9_code
def yL_merge : MethodName := ⟨RL, "merge", "(LHarmoniumDesk;II[J)I"⟩
abbrev cL_setWeight : ByteArray := method_10_code
def yL_setWeight : MethodName := ⟨RL, "setWeight", "(LHarmoniumDesk;II[J)I"⟩
abbrev cL_setPass : ByteArray := method_11_code
def yL_setPass : MethodName := ⟨RL, "setPass", "(LHarmoniumDesk;I[J)I"⟩
abbrev cL_faults : ByteArray := method_12_code
def yL_faults : MethodName := ⟨RL, "faults", "(LHarmoniumDesk;III[J)I"⟩
abbrev cL_mark : ByteArray := method_13_code
def yL_mark : MethodName := ⟨RL, "mark", "(LHarmoniumDesk;I[J)I"⟩
abbrev cL_handIn : ByteArray := method_14_code
def yL_handIn : MethodName := ⟨RL, "handIn", "(LHarmoniumDesk;I[J)I"⟩
abbrev cL_best : ByteArray := method_15_code
def yL_best : MethodName := ⟨RL, "best", "(LHarmoniumDesk;III[J)I"⟩
abbrev cL_movement : ByteArray := method_16_code
def yL_movement : MethodName := ⟨RL, "movement", "(LHarmoniumDesk;II[D)I"⟩
abbrev cL_print : ByteArray := method_17_code
def yL_print : MethodName := ⟨RL, "print", "(LHarmoniumDesk;II[J)I"⟩
abbrev cL_errata : ByteArray := method_18_code
def yL_errata : MethodName := ⟨RL, "errata", "(LHarmoniumDesk;II[J)I"⟩
abbrev cL_slip : ByteArray := method_19_code
def yL_slip : MethodName := ⟨RL, "slip", "(LHarmoniumDesk;II[J)I"⟩
abbrev cL_slips : ByteArray := method_20_code
def yL_slips : MethodName := ⟨RL, "slips", "(LHarmoniumDesk;I[J)I"⟩
abbrev cL_law : ByteArray := code
def yL_law : MethodName := ⟨RL, "law", "([I)Z"⟩
def wsX1_tone : List Cond := .code yX1_tone cX1_tone 4 (some .int) :: ([.fieldLink RX1 15 "HarmoniumDesk$Score" "upper" "[I", .fieldLink RX1 19 "HarmoniumDesk$Score" "lower" "[I"] ++ wsX10)
def wsX0_takeVoice : List Cond := .code yX0_takeVoice cX0_takeVoice 3 none :: ([.fieldLink RX0 27 "HarmoniumDesk$Copy" "bars" "I", .fieldLink RX0 9 "HarmoniumDesk$Copy" "tones" "[I", .fieldLink RX0 19 "HarmoniumDesk$Copy" "voice" "I", .methodLink RX0 32 yX1_tone, .instanceMethod yX1_tone, .selects RX1 yX1_tone yX1_tone, .initialized RX1, .code yX1_tone cX1_tone 4 (some .int), .fieldLink RX1 15 "HarmoniumDesk$Score" "upper" "[I", .fieldLink RX1 19 "HarmoniumDesk$Score" "lower" "[I"] ++ wsX00 ++ wsX10)
def wsX0_init : List Cond := .code yX0_init cX0_init 3 none :: ([.methodLink RX0 3 objectInit, .instanceMethod objectInit, .code objectInit ⟨#[0xb1]⟩ 1 none, .arrayClass .int, .fieldLink RX0 9 "HarmoniumDesk$Copy" "tones" "[I", .fieldLink RX0 15 "HarmoniumDesk$Copy" "slipCount" "I", .fieldLink RX0 19 "HarmoniumDesk$Copy" "voice" "I", .fieldLink RX0 27 "HarmoniumDesk$Copy" "bars" "I", .methodLink RX0 28 yX0_takeVoice, .instanceMethod yX0_takeVoice, .selects RX0 yX0_takeVoice yX0_takeVoice, .initialized RX0, .code yX0_takeVoice cX0_takeVoice 3 none, .methodLink RX0 32 yX1_tone, .instanceMethod yX1_tone, .selects RX1 yX1_tone yX1_tone, .initialized RX1, .code yX1_tone cX1_tone 4 (some .int), .fieldLink RX1 15 "HarmoniumDesk$Score" "upper" "[I", .fieldLink RX1 19 "HarmoniumDesk$Score" "lower" "[I"] ++ wsX00 ++ wsX10)
def wsX0_differingBars : List Cond := .code yX0_differingBars cX0_differingBars 4 (some .int) :: ([.fieldLink RX0 27 "HarmoniumDesk$Copy" "bars" "I", .fieldLink RX0 9 "HarmoniumDesk$Copy" "tones" "[I", .fieldLink RX0 19 "HarmoniumDesk$Copy" "voice" "I", .methodLink RX0 32 yX1_tone, .instanceMethod yX1_tone, .selects RX1 yX1_tone yX1_tone, .initialized RX1, .code yX1_tone cX1_tone 4 (some .int), .fieldLink RX1 15 "HarmoniumDesk$Score" "upper" "[I", .fieldLink RX1 19 "HarmoniumDesk$Score" "lower" "[I"] ++ wsX00 ++ wsX10)
def wsX1_init : List Cond := .code yX1_init cX1_init 1 none :: ([.methodLink RX1 3 objectInit, .instanceMethod objectInit, .code objectInit ⟨#[0xb1]⟩ 1 none, .fieldLink RX1 9 "HarmoniumDesk$Score" "bars" "I", .arrayClass .int, .fieldLink RX1 15 "HarmoniumDesk$Score" "upper" "[I", .fieldLink RX1 19 "HarmoniumDesk$Score" "lower" "[I"] ++ wsX10)
def wsX1_setTone : List Cond := .code yX1_setTone cX1_setTone 5 none :: ([.fieldLink RX1 15 "HarmoniumDesk$Score" "upper" "[I", .fieldLink RX1 19 "HarmoniumDesk$Score" "lower" "[I"] ++ wsX10)
def wsX1_fill : List Cond := .code yX1_fill cX1_fill 4 none :: ([.fieldLink RX1 9 "HarmoniumDesk$Score" "bars" "I", .methodLink RX1 22 yX1_setTone, .instanceMethod yX1_setTone, .selects RX1 yX1_setTone yX1_setTone, .initialized RX1, .code yX1_setTone cX1_setTone 5 none, .fieldLink RX1 15 "HarmoniumDesk$Score" "upper" "[I", .fieldLink RX1 19 "HarmoniumDesk$Score" "lower" "[I"] ++ wsX10)
def wsX1_takeBar : List Cond := .code yX1_takeBar cX1_takeBar 3 none :: ([.methodLink RX1 30 yX1_tone, .instanceMethod yX1_tone, .selects RX1 yX1_tone yX1_tone, .initialized RX1, .code yX1_tone cX1_tone 4 (some .int), .fieldLink RX1 15 "HarmoniumDesk$Score" "upper" "[I", .fieldLink RX1 19 "HarmoniumDesk$Score" "lower" "[I", .methodLink RX1 22 yX1_setTone, .instanceMethod yX1_setTone, .selects RX1 yX1_setTone yX1_setTone, .code yX1_setTone cX1_setTone 5 none] ++ wsX10)
def wsX1_takeAll : List Cond := .code yX1_takeAll cX1_takeAll 3 none :: ([.fieldLink RX1 9 "HarmoniumDesk$Score" "bars" "I", .methodLink RX1 26 yX1_takeBar, .instanceMethod yX1_takeBar, .selects RX1 yX1_takeBar yX1_takeBar, .initialized RX1, .code yX1_takeBar cX1_takeBar 3 none, .methodLink RX1 30 yX1_tone, .instanceMethod yX1_tone, .selects RX1 yX1_tone yX1_tone, .code yX1_tone cX1_tone 4 (some .int), .fieldLink RX1 15 "HarmoniumDesk$Score" "upper" "[I", .fieldLink RX1 19 "HarmoniumDesk$Score" "lower" "[I", .methodLink RX1 22 yX1_setTone, .instanceMethod yX1_setTone, .selects RX1 yX1_setTone yX1_setTone, .code yX1_setTone cX1_setTone 5 none] ++ wsX10)
def wsX1_sameBar : List Cond := .code yX1_sameBar cX1_sameBar 3 (some .boolean) :: ([.methodLink RX1 30 yX1_tone, .instanceMethod yX1_tone, .selects RX1 yX1_tone yX1_tone, .initialized RX1, .code yX1_tone cX1_tone 4 (some .int), .fieldLink RX1 15 "HarmoniumDesk$Score" "upper" "[I", .fieldLink RX1 19 "HarmoniumDesk$Score" "lower" "[I"] ++ wsX10)
def wsX1_stepTo : List Cond := .code yX1_stepTo cX1_stepTo 3 (some .int) :: ([.methodLink RX1 54 Lib.Math.abs.name, .static Lib.Math.abs.name, .initialized "java/lang/Math", .code Lib.Math.abs.name Lib.Math.abs.code 1 (some .int), .methodLink RX1 30 yX1_tone, .instanceMethod yX1_tone, .selects RX1 yX1_tone yX1_tone, .initialized RX1, .code yX1_tone cX1_tone 4 (some .int), .fieldLink RX1 15 "HarmoniumDesk$Score" "upper" "[I", .fieldLink RX1 19 "HarmoniumDesk$Score" "lower" "[I"] ++ wsX10)
def wsX1_wayOf : List Cond := .code yX1_wayOf cX1_wayOf 4 (some .int) :: ([.fieldLink RX1 9 "HarmoniumDesk$Score" "bars" "I", .methodLink RX1 34 yX1_stepTo, .instanceMethod yX1_stepTo, .selects RX1 yX1_stepTo yX1_stepTo, .initialized RX1, .code yX1_stepTo cX1_stepTo 3 (some .int), .methodLink RX1 54 Lib.Math.abs.name, .static Lib.Math.abs.name, .initialized "java/lang/Math", .code Lib.Math.abs.name Lib.Math.abs.code 1 (some .int), .methodLink RX1 30 yX1_tone, .instanceMethod yX1_tone, .selects RX1 yX1_tone yX1_tone, .code yX1_tone cX1_tone 4 (some .int), .fieldLink RX1 15 "HarmoniumDesk$Score" "upper" "[I", .fieldLink RX1 19 "HarmoniumDesk$Score" "lower" "[I"] ++ wsX10)
def wsX1_interval : List Cond := .code yX1_interval cX1_interval 2 (some .int) :: ([.methodLink RX1 54 Lib.Math.abs.name, .static Lib.Math.abs.name, .initialized "java/lang/Math", .code Lib.Math.abs.name Lib.Math.abs.code 1 (some .int), .methodLink RX1 30 yX1_tone, .instanceMethod yX1_tone, .selects RX1 yX1_tone yX1_tone, .initialized RX1, .code yX1_tone cX1_tone 4 (some .int), .fieldLink RX1 15 "HarmoniumDesk$Score" "upper" "[I", .fieldLink RX1 19 "HarmoniumDesk$Score" "lower" "[I"] ++ wsX10)
def wsX1_isDiscord : List Cond := .code yX1_isDiscord cX1_isDiscord 2 (some .boolean) :: ([.methodLink RX1 59 yX1_interval, .instanceMethod yX1_interval, .selects RX1 yX1_interval yX1_interval, .initialized RX1, .code yX1_interval cX1_interval 2 (some .int), .methodLink RX1 54 Lib.Math.abs.name, .static Lib.Math.abs.name, .initialized "java/lang/Math", .code Lib.Math.abs.name Lib.Math.abs.code 1 (some .int), .methodLink RX1 30 yX1_tone, .instanceMethod yX1_tone, .selects RX1 yX1_tone yX1_tone, .code yX1_tone cX1_tone 4 (some .int), .fieldLink RX1 15 "HarmoniumDesk$Score" "upper" "[I", .fieldLink RX1 19 "HarmoniumDesk$Score" "lower" "[I"] ++ wsX10)
def wsX1_isPerfect : List Cond := .code yX1_isPerfect cX1_isPerfect 1 (some .boolean) :: ([])
def wsX1_isParallel : List Cond := .code yX1_isParallel cX1_isParallel 2 (some .boolean) :: ([.methodLink RX1 34 yX1_stepTo, .instanceMethod yX1_stepTo, .selects RX1 yX1_stepTo yX1_stepTo, .initialized RX1, .code yX1_stepTo cX1_stepTo 3 (some .int), .methodLink RX1 54 Lib.Math.abs.name, .static Lib.Math.abs.name, .initialized "java/lang/Math", .code Lib.Math.abs.name Lib.Math.abs.code 1 (some .int), .methodLink RX1 30 yX1_tone, .instanceMethod yX1_tone, .selects RX1 yX1_tone yX1_tone, .code yX1_tone cX1_tone 4 (some .int), .fieldLink RX1 15 "HarmoniumDesk$Score" "upper" "[I", .fieldLink RX1 19 "HarmoniumDesk$Score" "lower" "[I", .methodLink RX1 59 yX1_interval, .instanceMethod yX1_interval, .selects RX1 yX1_interval yX1_interval, .code yX1_interval cX1_interval 2 (some .int), .methodLink RX1 62 yX1_isPerfect, .static yX1_isPerfect, .code yX1_isPerfect cX1_isPerfect 1 (some .boolean)] ++ wsX10)
def wsX1_leapsTo : List Cond := .code yX1_leapsTo cX1_leapsTo 4 (some .int) :: ([.methodLink RX1 34 yX1_stepTo, .instanceMethod yX1_stepTo, .selects RX1 yX1_stepTo yX1_stepTo, .initialized RX1, .code yX1_stepTo cX1_stepTo 3 (some .int), .methodLink RX1 54 Lib.Math.abs.name, .static Lib.Math.abs.name, .initialized "java/lang/Math", .code Lib.Math.abs.name Lib.Math.abs.code 1 (some .int), .methodLink RX1 30 yX1_tone, .instanceMethod yX1_tone, .selects RX1 yX1_tone yX1_tone, .code yX1_tone cX1_tone 4 (some .int), .fieldLink RX1 15 "HarmoniumDesk$Score" "upper" "[I", .fieldLink RX1 19 "HarmoniumDesk$Score" "lower" "[I"] ++ wsX10)
def wsX1_badEndsAt : List Cond := .code yX1_badEndsAt cX1_badEndsAt 4 (some .int) :: ([.fieldLink RX1 9 "HarmoniumDesk$Score" "bars" "I", .methodLink RX1 59 yX1_interval, .instanceMethod yX1_interval, .selects RX1 yX1_interval yX1_interval, .initialized RX1, .code yX1_interval cX1_interval 2 (some .int), .methodLink RX1 54 Lib.Math.abs.name, .static Lib.Math.abs.name, .initialized "java/lang/Math", .code Lib.Math.abs.name Lib.Math.abs.code 1 (some .int), .methodLink RX1 30 yX1_tone, .instanceMethod yX1_tone, .selects RX1 yX1_tone yX1_tone, .code yX1_tone cX1_tone 4 (some .int), .fieldLink RX1 15 "HarmoniumDesk$Score" "upper" "[I", .fieldLink RX1 19 "HarmoniumDesk$Score" "lower" "[I", .methodLink RX1 62 yX1_isPerfect, .static yX1_isPerfect, .code yX1_isPerfect cX1_isPerfect 1 (some .boolean)] ++ wsX10)
def wsX1_isStanding : List Cond := .code yX1_isStanding cX1_isStanding 2 (some .boolean) :: ([.methodLink RX1 34 yX1_stepTo, .instanceMethod yX1_stepTo, .selects RX1 yX1_stepTo yX1_stepTo, .initialized RX1, .code yX1_stepTo cX1_stepTo 3 (some .int), .methodLink RX1 54 Lib.Math.abs.name, .static Lib.Math.abs.name, .initialized "java/lang/Math", .code Lib.Math.abs.name Lib.Math.abs.code 1 (some .int), .methodLink RX1 30 yX1_tone, .instanceMethod yX1_tone, .selects RX1 yX1_tone yX1_tone, .code yX1_tone cX1_tone 4 (some .int), .fieldLink RX1 15 "HarmoniumDesk$Score" "upper" "[I", .fieldLink RX1 19 "HarmoniumDesk$Score" "lower" "[I"] ++ wsX10)
def wsX1_faultsOf_r1 : List Cond := [Cond.methodLink RX1 37 yX1_isDiscord, Cond.instanceMethod yX1_isDiscord, Cond.selects RX1 yX1_isDiscord yX1_isDiscord, Cond.initialized RX1, Cond.code yX1_isDiscord cX1_isDiscord 2 (some .boolean), Cond.methodLink RX1 59 yX1_interval, Cond.instanceMethod yX1_interval, Cond.selects RX1 yX1_interval yX1_interval, Cond.code yX1_interval cX1_interval 2 (some .int), Cond.methodLink RX1 54 Lib.Math.abs.name, Cond.static Lib.Math.abs.name, Cond.initialized "java/lang/Math", Cond.code Lib.Math.abs.name Lib.Math.abs.code 1 (some .int), Cond.methodLink RX1 30 yX1_tone, Cond.instanceMethod yX1_tone, Cond.selects RX1 yX1_tone yX1_tone, Cond.code yX1_tone cX1_tone 4 (some .int), Cond.fieldLink RX1 15 "HarmoniumDesk$Score" "upper" "[I", Cond.fieldLink RX1 19 "HarmoniumDesk$Score" "lower" "[I", Cond.methodLink RX1 41 yX1_isParallel, Cond.instanceMethod yX1_isParallel, Cond.selects RX1 yX1_isParallel yX1_isParallel, Cond.code yX1_isParallel cX1_isParallel 2 (some .boolean), Cond.methodLink RX1 34 yX1_stepTo]
def wsX1_faultsOf_r2 : List Cond := [Cond.instanceMethod yX1_stepTo, Cond.selects RX1 yX1_stepTo yX1_stepTo, Cond.code yX1_stepTo cX1_stepTo 3 (some .int), Cond.methodLink RX1 62 yX1_isPerfect, Cond.static yX1_isPerfect, Cond.code yX1_isPerfect cX1_isPerfect 1 (some .boolean), Cond.methodLink RX1 44 yX1_leapsTo, Cond.instanceMethod yX1_leapsTo, Cond.selects RX1 yX1_leapsTo yX1_leapsTo, Cond.code yX1_leapsTo cX1_leapsTo 4 (some .int), Cond.methodLink RX1 48 yX1_badEndsAt, Cond.instanceMethod yX1_badEndsAt, Cond.selects RX1 yX1_badEndsAt yX1_badEndsAt, Cond.code yX1_badEndsAt cX1_badEndsAt 4 (some .int), Cond.fieldLink RX1 9 "HarmoniumDesk$Score" "bars" "I", Cond.methodLink RX1 51 yX1_isStanding, Cond.instanceMethod yX1_isStanding, Cond.selects RX1 yX1_isStanding yX1_isStanding, Cond.code yX1_isStanding cX1_isStanding 2 (some .boolean)]
def wsX1_faultsOf : List Cond := .code yX1_faultsOf cX1_faultsOf 3 (some .int) :: ((wsX1_faultsOf_r1 ++ wsX1_faultsOf_r2) ++ wsX10)
def wsX2_init : List Cond := .code yX2_init cX2_init 3 none :: ([.methodLink RX2 1 objectInit, .instanceMethod objectInit, .code objectInit ⟨#[0xb1]⟩ 1 none, .classLink RX2 7 RX1, .instantiable RX1 3, .initialized RX1, .fieldLink RX2 10 "HarmoniumDesk$Version" "score" "LHarmoniumDesk$Score;", .fieldLink RX2 16 "HarmoniumDesk$Version" "fixed" "Z", .fieldLink RX2 20 "HarmoniumDesk$Version" "passedWhenHandedIn" "Z", .fieldLink RX2 23 "HarmoniumDesk$Version" "number" "I", .fieldLink RX2 27 "HarmoniumDesk$Version" "parent" "LHarmoniumDesk$Version;", .instanceMethod yX1_init, .code yX1_init cX1_init 1 none, .methodLink RX1 3 objectInit, .fieldLink RX1 9 "HarmoniumDesk$Score" "bars" "I", .arrayClass .int, .fieldLink RX1 15 "HarmoniumDesk$Score" "upper" "[I", .fieldLink RX1 19 "HarmoniumDesk$Score" "lower" "[I"] ++ wsX10 ++ wsX20)
def wsX3_init : List Cond := .code yX3_init cX3_init 2 none :: ([.methodLink RX3 1 objectInit, .instanceMethod objectInit, .code objectInit ⟨#[0xb1]⟩ 1 none, .classLink RX3 9 RX2, .fieldLink RX3 11 "HarmoniumDesk" "versions" "[LHarmoniumDesk$Version;", .fieldLink RX3 15 "HarmoniumDesk" "versionCount" "I", .classLink RX3 19 RX0, .fieldLink RX3 21 "HarmoniumDesk" "copies" "[LHarmoniumDesk$Copy;", .fieldLink RX3 25 "HarmoniumDesk" "copyCount" "I", .arrayClass .int, .fieldLink RX3 28 "HarmoniumDesk" "weights" "[I", .fieldLink RX3 32 "HarmoniumDesk" "passMark" "I", .classLink RX3 35 RX1, .instantiable RX1 3, .initialized RX1, .fieldLink RX3 38 "HarmoniumDesk" "trial" "LHarmoniumDesk$Score;", .instanceMethod yX1_init, .code yX1_init cX1_init 1 none, .methodLink RX1 3 objectInit, .fieldLink RX1 9 "HarmoniumDesk$Score" "bars" "I", .fieldLink RX1 15 "HarmoniumDesk$Score" "upper" "[I", .fieldLink RX1 19 "HarmoniumDesk$Score" "lower" "[I"] ++ wsX30 ++ wsX10)
def wsX3_addVersion_r1 : List Cond := [Cond.classLink RX3 85 "java/lang/IllegalStateException", Cond.initialized "java/lang/IllegalStateException", Cond.fieldLink RX3 15 "HarmoniumDesk" "versionCount" "I", Cond.fieldLink RX3 11 "HarmoniumDesk" "versions" "[LHarmoniumDesk$Version;", Cond.classLink RX3 9 RX2, Cond.instantiable RX2 5, Cond.initialized RX2, Cond.methodLink RX3 182 yX2_init, Cond.instanceMethod yX2_init, Cond.code yX2_init cX2_init 3 none, Cond.methodLink RX2 1 objectInit, Cond.instanceMethod objectInit, Cond.code objectInit ⟨#[0xb1]⟩ 1 none, Cond.classLink RX2 7 RX1, Cond.instantiable RX1 3, Cond.initialized RX1, Cond.fieldLink RX2 10 "HarmoniumDesk$Version" "score" "LHarmoniumDesk$Score;", Cond.fieldLink RX2 16 "HarmoniumDesk$Version" "fixed" "Z", Cond.fieldLink RX2 20 "HarmoniumDesk$Version" "passedWhenHandedIn" "Z", Cond.fieldLink RX2 23 "HarmoniumDesk$Version" "number" "I", Cond.fieldLink RX2 27 "HarmoniumDesk$Version" "parent" "LHarmoniumDesk$Version;", Cond.instanceMethod yX1_init, Cond.code yX1_init cX1_init 1 none, Cond.methodLink RX1 3 objectInit]
def wsX3_addVersion_r2 : List Cond := [Cond.fieldLink RX1 9 "HarmoniumDesk$Score" "bars" "I", Cond.arrayClass .int, Cond.fieldLink RX1 15 "HarmoniumDesk$Score" "upper" "[I", Cond.fieldLink RX1 19 "HarmoniumDesk$Score" "lower" "[I"]
def wsX3_addVersion : List Cond := .code yX3_addVersion cX3_addVersion 3 (some (.object "HarmoniumDesk$Version")) :: ((wsX3_addVersion_r1 ++ wsX3_addVersion_r2) ++ wsX30 ++ wsX20 ++ wsX10 ++ (vx_atS RX3 89 "java/lang/IllegalStateException" ["java/lang/RuntimeException", "java/lang/Exception"]).filter goodWord)
def wsX3_begin_r1 : List Cond := [Cond.classLink RX3 42 "java/lang/IllegalArgumentException", Cond.initialized "java/lang/IllegalArgumentException", Cond.methodLink RX3 49 yX3_addVersion, Cond.instanceMethod yX3_addVersion, Cond.selects RX3 yX3_addVersion yX3_addVersion, Cond.initialized RX3, Cond.code yX3_addVersion cX3_addVersion 3 (some (.object "HarmoniumDesk$Version")), Cond.classLink RX3 85 "java/lang/IllegalStateException", Cond.initialized "java/lang/IllegalStateException", Cond.fieldLink RX3 15 "HarmoniumDesk" "versionCount" "I", Cond.fieldLink RX3 11 "HarmoniumDesk" "versions" "[LHarmoniumDesk$Version;", Cond.classLink RX3 9 RX2, Cond.instantiable RX2 5, Cond.initialized RX2, Cond.methodLink RX3 182 yX2_init, Cond.instanceMethod yX2_init, Cond.code yX2_init cX2_init 3 none, Cond.methodLink RX2 1 objectInit, Cond.instanceMethod objectInit, Cond.code objectInit ⟨#[0xb1]⟩ 1 none, Cond.classLink RX2 7 RX1, Cond.instantiable RX1 3, Cond.initialized RX1, Cond.fieldLink RX2 10 "HarmoniumDesk$Version" "score" "LHarmoniumDesk$Score;"]
def wsX3_begin_r2 : List Cond := [Cond.fieldLink RX2 16 "HarmoniumDesk$Version" "fixed" "Z", Cond.fieldLink RX2 20 "HarmoniumDesk$Version" "passedWhenHandedIn" "Z", Cond.fieldLink RX2 23 "HarmoniumDesk$Version" "number" "I", Cond.fieldLink RX2 27 "HarmoniumDesk$Version" "parent" "LHarmoniumDesk$Version;", Cond.instanceMethod yX1_init, Cond.code yX1_init cX1_init 1 none, Cond.methodLink RX1 3 objectInit, Cond.fieldLink RX1 9 "HarmoniumDesk$Score" "bars" "I", Cond.arrayClass .int, Cond.fieldLink RX1 15 "HarmoniumDesk$Score" "upper" "[I", Cond.fieldLink RX1 19 "HarmoniumDesk$Score" "lower" "[I", Cond.methodLink RX3 56 yX1_fill, Cond.instanceMethod yX1_fill, Cond.selects RX1 yX1_fill yX1_fill, Cond.code yX1_fill cX1_fill 4 none, Cond.methodLink RX1 22 yX1_setTone, Cond.instanceMethod yX1_setTone, Cond.selects RX1 yX1_setTone yX1_setTone, Cond.code yX1_setTone cX1_setTone 5 none]
def wsX3_begin : List Cond := .code yX3_begin cX3_begin 3 (some .int) :: ((wsX3_begin_r1 ++ wsX3_begin_r2) ++ wsX20 ++ wsX30 ++ wsX10 ++ (vx_atS RX3 46 "java/lang/IllegalArgumentException" ["java/lang/RuntimeException", "java/lang/Exception"]).filter goodWord ++ (vx_atS RX3 89 "java/lang/IllegalStateException" ["java/lang/RuntimeException", "java/lang/Exception"]).filter goodWord)
def wsX3_findVersion : List Cond := .code yX3_findVersion cX3_findVersion 3 (some (.object "HarmoniumDesk$Version")) :: ([.classLink RX3 114 "java/lang/IndexOutOfBoundsException", .initialized "java/lang/IndexOutOfBoundsException", .fieldLink RX3 11 "HarmoniumDesk" "versions" "[LHarmoniumDesk$Version;"] ++ wsX30 ++ (vx_atS RX3 118 "java/lang/IndexOutOfBoundsException" ["java/lang/RuntimeException", "java/lang/Exception"]).filter goodWord)
def wsX3_branch_r1 : List Cond := [Cond.methodLink RX3 63 yX3_findVersion, Cond.instanceMethod yX3_findVersion, Cond.selects RX3 yX3_findVersion yX3_findVersion, Cond.initialized RX3, Cond.code yX3_findVersion cX3_findVersion 3 (some (.object "HarmoniumDesk$Version")), Cond.classLink RX3 114 "java/lang/IndexOutOfBoundsException", Cond.initialized "java/lang/IndexOutOfBoundsException", Cond.fieldLink RX3 11 "HarmoniumDesk" "versions" "[LHarmoniumDesk$Version;", Cond.methodLink RX3 49 yX3_addVersion, Cond.instanceMethod yX3_addVersion, Cond.selects RX3 yX3_addVersion yX3_addVersion, Cond.code yX3_addVersion cX3_addVersion 3 (some (.object "HarmoniumDesk$Version")), Cond.classLink RX3 85 "java/lang/IllegalStateException", Cond.initialized "java/lang/IllegalStateException", Cond.fieldLink RX3 15 "HarmoniumDesk" "versionCount" "I", Cond.classLink RX3 9 RX2, Cond.instantiable RX2 5, Cond.initialized RX2, Cond.methodLink RX3 182 yX2_init, Cond.instanceMethod yX2_init, Cond.code yX2_init cX2_init 3 none, Cond.methodLink RX2 1 objectInit, Cond.instanceMethod objectInit, Cond.code objectInit ⟨#[0xb1]⟩ 1 none]
def wsX3_branch_r2 : List Cond := [Cond.classLink RX2 7 RX1, Cond.instantiable RX1 3, Cond.initialized RX1, Cond.fieldLink RX2 10 "HarmoniumDesk$Version" "score" "LHarmoniumDesk$Score;", Cond.fieldLink RX2 16 "HarmoniumDesk$Version" "fixed" "Z", Cond.fieldLink RX2 20 "HarmoniumDesk$Version" "passedWhenHandedIn" "Z", Cond.fieldLink RX2 23 "HarmoniumDesk$Version" "number" "I", Cond.fieldLink RX2 27 "HarmoniumDesk$Version" "parent" "LHarmoniumDesk$Version;", Cond.instanceMethod yX1_init, Cond.code yX1_init cX1_init 1 none, Cond.methodLink RX1 3 objectInit, Cond.fieldLink RX1 9 "HarmoniumDesk$Score" "bars" "I", Cond.arrayClass .int, Cond.fieldLink RX1 15 "HarmoniumDesk$Score" "upper" "[I", Cond.fieldLink RX1 19 "HarmoniumDesk$Score" "lower" "[I", Cond.methodLink RX3 67 yX1_takeAll, Cond.instanceMethod yX1_takeAll, Cond.selects RX1 yX1_takeAll yX1_takeAll, Cond.code yX1_takeAll cX1_takeAll 3 none, Cond.methodLink RX1 26 yX1_takeBar, Cond.instanceMethod yX1_takeBar, Cond.selects RX1 yX1_takeBar yX1_takeBar, Cond.code yX1_takeBar cX1_takeBar 3 none, Cond.methodLink RX1 30 yX1_tone]
def wsX3_branch_r3 : List Cond := [Cond.instanceMethod yX1_tone, Cond.selects RX1 yX1_tone yX1_tone, Cond.code yX1_tone cX1_tone 4 (some .int), Cond.methodLink RX1 22 yX1_setTone, Cond.instanceMethod yX1_setTone, Cond.selects RX1 yX1_setTone yX1_setTone, Cond.code yX1_setTone cX1_setTone 5 none]
def wsX3_branch : List Cond := .code yX3_branch cX3_branch 4 (some .int) :: ((wsX3_branch_r1 ++ (wsX3_branch_r2 ++ wsX3_branch_r3)) ++ wsX20 ++ wsX30 ++ wsX10 ++ (vx_atS RX3 118 "java/lang/IndexOutOfBoundsException" ["java/lang/RuntimeException", "java/lang/Exception"]).filter goodWord ++ (vx_atS RX3 89 "java/lang/IllegalStateException" ["java/lang/RuntimeException", "java/lang/Exception"]).filter goodWord)
def wsX3_checkVoice : List Cond := .code yX3_checkVoice cX3_checkVoice 1 none :: ([.classLink RX3 114 "java/lang/IndexOutOfBoundsException", .initialized "java/lang/IndexOutOfBoundsException"] ++ (vx_atS RX3 118 "java/lang/IndexOutOfBoundsException" ["java/lang/RuntimeException", "java/lang/Exception"]).filter goodWord)
def wsX3_checkBar : List Cond := .code yX3_checkBar cX3_checkBar 2 none :: ([.classLink RX3 114 "java/lang/IndexOutOfBoundsException", .initialized "java/lang/IndexOutOfBoundsException"] ++ wsX20 ++ wsX10 ++ (vx_atS RX3 118 "java/lang/IndexOutOfBoundsException" ["java/lang/RuntimeException", "java/lang/Exception"]).filter goodWord)
def wsX3_setNote_r1 : List Cond := [Cond.classLink RX3 42 "java/lang/IllegalArgumentException", Cond.initialized "java/lang/IllegalArgumentException", Cond.classLink RX3 85 "java/lang/IllegalStateException", Cond.initialized "java/lang/IllegalStateException", Cond.methodLink RX3 63 yX3_findVersion, Cond.instanceMethod yX3_findVersion, Cond.selects RX3 yX3_findVersion yX3_findVersion, Cond.initialized RX3, Cond.code yX3_findVersion cX3_findVersion 3 (some (.object "HarmoniumDesk$Version")), Cond.classLink RX3 114 "java/lang/IndexOutOfBoundsException", Cond.initialized "java/lang/IndexOutOfBoundsException", Cond.fieldLink RX3 11 "HarmoniumDesk" "versions" "[LHarmoniumDesk$Version;", Cond.methodLink RX3 75 yX3_checkVoice, Cond.static yX3_checkVoice, Cond.code yX3_checkVoice cX3_checkVoice 1 none, Cond.methodLink RX3 79 yX3_checkBar, Cond.static yX3_checkBar, Cond.code yX3_checkBar cX3_checkBar 2 none, Cond.methodLink RX3 90 yX1_tone, Cond.instanceMethod yX1_tone, Cond.selects RX1 yX1_tone yX1_tone, Cond.initialized RX1, Cond.code yX1_tone cX1_tone 4 (some .int), Cond.fieldLink RX1 15 "HarmoniumDesk$Score" "upper" "[I"]
def wsX3_setNote_r2 : List Cond := [Cond.fieldLink RX1 19 "HarmoniumDesk$Score" "lower" "[I", Cond.methodLink RX3 94 yX1_setTone, Cond.instanceMethod yX1_setTone, Cond.selects RX1 yX1_setTone yX1_setTone, Cond.code yX1_setTone cX1_setTone 5 none]
def wsX3_setNote : List Cond := .code yX3_setNote cX3_setNote 7 (some .int) :: ((wsX3_setNote_r1 ++ wsX3_setNote_r2) ++ wsX20 ++ wsX30 ++ wsX10 ++ (vx_atS RX3 46 "java/lang/IllegalArgumentException" ["java/lang/RuntimeException", "java/lang/Exception"]).filter goodWord ++ (vx_atS RX3 89 "java/lang/IllegalStateException" ["java/lang/RuntimeException", "java/lang/Exception"]).filter goodWord ++ (vx_atS RX3 118 "java/lang/IndexOutOfBoundsException" ["java/lang/RuntimeException", "java/lang/Exception"]).filter goodWord)
def wsX3_note : List Cond := .code yX3_note cX3_note 5 (some .int) :: ([.methodLink RX3 63 yX3_findVersion, .instanceMethod yX3_findVersion, .selects RX3 yX3_findVersion yX3_findVersion, .initialized RX3, .code yX3_findVersion cX3_findVersion 3 (some (.object "HarmoniumDesk$Version")), .classLink RX3 114 "java/lang/IndexOutOfBoundsException", .initialized "java/lang/IndexOutOfBoundsException", .fieldLink RX3 11 "HarmoniumDesk" "versions" "[LHarmoniumDesk$Version;", .methodLink RX3 75 yX3_checkVoice, .static yX3_checkVoice, .code yX3_checkVoice cX3_checkVoice 1 none, .methodLink RX3 79 yX3_checkBar, .static yX3_checkBar, .code yX3_checkBar cX3_checkBar 2 none, .methodLink RX3 90 yX1_tone, .instanceMethod yX1_tone, .selects RX1 yX1_tone yX1_tone, .initialized RX1, .code yX1_tone cX1_tone 4 (some .int), .fieldLink RX1 15 "HarmoniumDesk$Score" "upper" "[I", .fieldLink RX1 19 "HarmoniumDesk$Score" "lower" "[I"] ++ wsX20 ++ wsX30 ++ wsX10 ++ (vx_atS RX3 118 "java/lang/IndexOutOfBoundsException" ["java/lang/RuntimeException", "java/lang/Exception"]).filter goodWord)
def wsX3_isAncestor : List Cond := .code yX3_isAncestor cX3_isAncestor 3 (some .boolean) :: ([] ++ wsX20)
def wsX3_commonAncestor : List Cond := .code yX3_commonAncestor cX3_commonAncestor 3 (some (.object "HarmoniumDesk$Version")) :: ([.methodLink RX3 190 yX3_isAncestor, .static yX3_isAncestor, .initialized RX3, .code yX3_isAncestor cX3_isAncestor 3 (some .boolean)] ++ wsX20)
def wsX3_base : List Cond := .code yX3_base cX3_base 4 (some .int) :: ([.methodLink RX3 63 yX3_findVersion, .instanceMethod yX3_findVersion, .selects RX3 yX3_findVersion yX3_findVersion, .initialized RX3, .code yX3_findVersion cX3_findVersion 3 (some (.object "HarmoniumDesk$Version")), .classLink RX3 114 "java/lang/IndexOutOfBoundsException", .initialized "java/lang/IndexOutOfBoundsException", .fieldLink RX3 11 "HarmoniumDesk" "versions" "[LHarmoniumDesk$Version;", .methodLink RX3 98 yX3_commonAncestor, .static yX3_commonAncestor, .code yX3_commonAncestor cX3_commonAncestor 3 (some (.object "HarmoniumDesk$Version")), .methodLink RX3 190 yX3_isAncestor, .static yX3_isAncestor, .code yX3_isAncestor cX3_isAncestor 3 (some .boolean)] ++ wsX20 ++ wsX30 ++ (vx_atS RX3 118 "java/lang/IndexOutOfBoundsException" ["java/lang/RuntimeException", "java/lang/Exception"]).filter goodWord)
def wsX3_conflictingBars : List Cond := .code yX3_conflictingBars cX3_conflictingBars 5 (some .int) :: ([.methodLink RX3 198 yX1_sameBar, .instanceMethod yX1_sameBar, .selects RX1 yX1_sameBar yX1_sameBar, .initialized RX1, .code yX1_sameBar cX1_sameBar 3 (some .boolean), .methodLink RX1 30 yX1_tone, .instanceMethod yX1_tone, .selects RX1 yX1_tone yX1_tone, .code yX1_tone cX1_tone 4 (some .int), .fieldLink RX1 15 "HarmoniumDesk$Score" "upper" "[I", .fieldLink RX1 19 "HarmoniumDesk$Score" "lower" "[I"] ++ wsX10)
def wsX3_conflicts_r1 : List Cond := [Cond.classLink RX3 85 "java/lang/IllegalStateException", Cond.initialized "java/lang/IllegalStateException", Cond.methodLink RX3 63 yX3_findVersion, Cond.instanceMethod yX3_findVersion, Cond.selects RX3 yX3_findVersion yX3_findVersion, Cond.initialized RX3, Cond.code yX3_findVersion cX3_findVersion 3 (some (.object "HarmoniumDesk$Version")), Cond.classLink RX3 114 "java/lang/IndexOutOfBoundsException", Cond.initialized "java/lang/IndexOutOfBoundsException", Cond.fieldLink RX3 11 "HarmoniumDesk" "versions" "[LHarmoniumDesk$Version;", Cond.methodLink RX3 98 yX3_commonAncestor, Cond.static yX3_commonAncestor, Cond.code yX3_commonAncestor cX3_commonAncestor 3 (some (.object "HarmoniumDesk$Version")), Cond.methodLink RX3 190 yX3_isAncestor, Cond.static yX3_isAncestor, Cond.code yX3_isAncestor cX3_isAncestor 3 (some .boolean), Cond.methodLink RX3 104 yX3_conflictingBars, Cond.static yX3_conflictingBars, Cond.code yX3_conflictingBars cX3_conflictingBars 5 (some .int), Cond.methodLink RX3 198 yX1_sameBar, Cond.instanceMethod yX1_sameBar, Cond.selects RX1 yX1_sameBar yX1_sameBar, Cond.initialized RX1, Cond.code yX1_sameBar cX1_sameBar 3 (some .boolean)]
def wsX3_conflicts_r2 : List Cond := [Cond.methodLink RX1 30 yX1_tone, Cond.instanceMethod yX1_tone, Cond.selects RX1 yX1_tone yX1_tone, Cond.code yX1_tone cX1_tone 4 (some .int), Cond.fieldLink RX1 15 "HarmoniumDesk$Score" "upper" "[I", Cond.fieldLink RX1 19 "HarmoniumDesk$Score" "lower" "[I"]
def wsX3_conflicts : List Cond := .code yX3_conflicts cX3_conflicts 6 (some .int) :: ((wsX3_conflicts_r1 ++ wsX3_conflicts_r2) ++ wsX20 ++ wsX30 ++ wsX10 ++ (vx_atS RX3 89 "java/lang/IllegalStateException" ["java/lang/RuntimeException", "java/lang/Exception"]).filter goodWord ++ (vx_atS RX3 118 "java/lang/IndexOutOfBoundsException" ["java/lang/RuntimeException", "java/lang/Exception"]).filter goodWord)
def wsX3_mergeInto_r1 : List Cond := [Cond.methodLink RX3 67 yX1_takeAll, Cond.instanceMethod yX1_takeAll, Cond.selects RX1 yX1_takeAll yX1_takeAll, Cond.initialized RX1, Cond.code yX1_takeAll cX1_takeAll 3 none, Cond.fieldLink RX1 9 "HarmoniumDesk$Score" "bars" "I", Cond.methodLink RX1 26 yX1_takeBar, Cond.instanceMethod yX1_takeBar, Cond.selects RX1 yX1_takeBar yX1_takeBar, Cond.code yX1_takeBar cX1_takeBar 3 none, Cond.methodLink RX1 30 yX1_tone, Cond.instanceMethod yX1_tone, Cond.selects RX1 yX1_tone yX1_tone, Cond.code yX1_tone cX1_tone 4 (some .int), Cond.fieldLink RX1 15 "HarmoniumDesk$Score" "upper" "[I", Cond.fieldLink RX1 19 "HarmoniumDesk$Score" "lower" "[I", Cond.methodLink RX1 22 yX1_setTone, Cond.instanceMethod yX1_setTone, Cond.selects RX1 yX1_setTone yX1_setTone, Cond.code yX1_setTone cX1_setTone 5 none, Cond.methodLink RX3 198 yX1_sameBar, Cond.instanceMethod yX1_sameBar, Cond.selects RX1 yX1_sameBar yX1_sameBar, Cond.code yX1_sameBar cX1_sameBar 3 (some .boolean)]
def wsX3_mergeInto_r2 : List Cond := [Cond.methodLink RX3 202 yX1_takeBar]
def wsX3_mergeInto : List Cond := .code yX3_mergeInto cX3_mergeInto 5 none :: ((wsX3_mergeInto_r1 ++ wsX3_mergeInto_r2) ++ wsX10)
def wsX3_merge_r1 : List Cond := [Cond.classLink RX3 42 "java/lang/IllegalArgumentException", Cond.initialized "java/lang/IllegalArgumentException", Cond.classLink RX3 85 "java/lang/IllegalStateException", Cond.initialized "java/lang/IllegalStateException", Cond.methodLink RX3 63 yX3_findVersion, Cond.instanceMethod yX3_findVersion, Cond.selects RX3 yX3_findVersion yX3_findVersion, Cond.initialized RX3, Cond.code yX3_findVersion cX3_findVersion 3 (some (.object "HarmoniumDesk$Version")), Cond.classLink RX3 114 "java/lang/IndexOutOfBoundsException", Cond.initialized "java/lang/IndexOutOfBoundsException", Cond.fieldLink RX3 11 "HarmoniumDesk" "versions" "[LHarmoniumDesk$Version;", Cond.methodLink RX3 98 yX3_commonAncestor, Cond.static yX3_commonAncestor, Cond.code yX3_commonAncestor cX3_commonAncestor 3 (some (.object "HarmoniumDesk$Version")), Cond.methodLink RX3 190 yX3_isAncestor, Cond.static yX3_isAncestor, Cond.code yX3_isAncestor cX3_isAncestor 3 (some .boolean), Cond.methodLink RX3 49 yX3_addVersion, Cond.instanceMethod yX3_addVersion, Cond.selects RX3 yX3_addVersion yX3_addVersion, Cond.code yX3_addVersion cX3_addVersion 3 (some (.object "HarmoniumDesk$Version")), Cond.fieldLink RX3 15 "HarmoniumDesk" "versionCount" "I", Cond.classLink RX3 9 RX2]
def wsX3_merge_r2 : List Cond := [Cond.instantiable RX2 5, Cond.initialized RX2, Cond.methodLink RX3 182 yX2_init, Cond.instanceMethod yX2_init, Cond.code yX2_init cX2_init 3 none, Cond.methodLink RX2 1 objectInit, Cond.instanceMethod objectInit, Cond.code objectInit ⟨#[0xb1]⟩ 1 none, Cond.classLink RX2 7 RX1, Cond.instantiable RX1 3, Cond.initialized RX1, Cond.fieldLink RX2 10 "HarmoniumDesk$Version" "score" "LHarmoniumDesk$Score;", Cond.fieldLink RX2 16 "HarmoniumDesk$Version" "fixed" "Z", Cond.fieldLink RX2 20 "HarmoniumDesk$Version" "passedWhenHandedIn" "Z", Cond.fieldLink RX2 23 "HarmoniumDesk$Version" "number" "I", Cond.fieldLink RX2 27 "HarmoniumDesk$Version" "parent" "LHarmoniumDesk$Version;", Cond.instanceMethod yX1_init, Cond.code yX1_init cX1_init 1 none, Cond.methodLink RX1 3 objectInit, Cond.fieldLink RX1 9 "HarmoniumDesk$Score" "bars" "I", Cond.arrayClass .int, Cond.fieldLink RX1 15 "HarmoniumDesk$Score" "upper" "[I", Cond.fieldLink RX1 19 "HarmoniumDesk$Score" "lower" "[I", Cond.methodLink RX3 110 yX3_mergeInto]
def wsX3_merge_r3 : List Cond := [Cond.static yX3_mergeInto, Cond.code yX3_mergeInto cX3_mergeInto 5 none, Cond.methodLink RX3 67 yX1_takeAll, Cond.instanceMethod yX1_takeAll, Cond.selects RX1 yX1_takeAll yX1_takeAll, Cond.code yX1_takeAll cX1_takeAll 3 none, Cond.methodLink RX1 26 yX1_takeBar, Cond.instanceMethod yX1_takeBar, Cond.selects RX1 yX1_takeBar yX1_takeBar, Cond.code yX1_takeBar cX1_takeBar 3 none, Cond.methodLink RX1 30 yX1_tone, Cond.instanceMethod yX1_tone, Cond.selects RX1 yX1_tone yX1_tone, Cond.code yX1_tone cX1_tone 4 (some .int), Cond.methodLink RX1 22 yX1_setTone, Cond.instanceMethod yX1_setTone, Cond.selects RX1 yX1_setTone yX1_setTone, Cond.code yX1_setTone cX1_setTone 5 none, Cond.methodLink RX3 198 yX1_sameBar, Cond.instanceMethod yX1_sameBar, Cond.selects RX1 yX1_sameBar yX1_sameBar, Cond.code yX1_sameBar cX1_sameBar 3 (some .boolean), Cond.methodLink RX3 202 yX1_takeBar]
def wsX3_merge : List Cond := .code yX3_merge cX3_merge 7 (some .int) :: ((wsX3_merge_r1 ++ (wsX3_merge_r2 ++ wsX3_merge_r3)) ++ wsX20 ++ wsX30 ++ wsX10 ++ (vx_atS RX3 46 "java/lang/IllegalArgumentException" ["java/lang/RuntimeException", "java/lang/Exception"]).filter goodWord ++ (vx_atS RX3 89 "java/lang/IllegalStateException" ["java/lang/RuntimeException", "java/lang/Exception"]).filter goodWord ++ (vx_atS RX3 118 "java/lang/IndexOutOfBoundsException" ["java/lang/RuntimeException", "java/lang/Exception"]).filter goodWord)
def wsX3_setWeight : List Cond := .code yX3_setWeight cX3_setWeight 4 (some .int) :: ([.classLink RX3 114 "java/lang/IndexOutOfBoundsException", .initialized "java/lang/IndexOutOfBoundsException", .classLink RX3 42 "java/lang/IllegalArgumentException", .initialized "java/lang/IllegalArgumentException", .fieldLink RX3 28 "HarmoniumDesk" "weights" "[I"] ++ wsX30 ++ (vx_atS RX3 118 "java/lang/IndexOutOfBoundsException" ["java/lang/RuntimeException", "java/lang/Exception"]).filter goodWord ++ (vx_atS RX3 46 "java/lang/IllegalArgumentException" ["java/lang/RuntimeException", "java/lang/Exception"]).filter goodWord)
def wsX3_setPass : List Cond := .code yX3_setPass cX3_setPass 3 (some .int) :: ([.classLink RX3 42 "java/lang/IllegalArgumentException", .initialized "java/lang/IllegalArgumentException", .fieldLink RX3 32 "HarmoniumDesk" "passMark" "I"] ++ wsX30 ++ (vx_atS RX3 46 "java/lang/IllegalArgumentException" ["java/lang/RuntimeException", "java/lang/Exception"]).filter goodWord)
def wsX3_faults_r1 : List Cond := [Cond.classLink RX3 114 "java/lang/IndexOutOfBoundsException", Cond.initialized "java/lang/IndexOutOfBoundsException", Cond.methodLink RX3 63 yX3_findVersion, Cond.instanceMethod yX3_findVersion, Cond.selects RX3 yX3_findVersion yX3_findVersion, Cond.initialized RX3, Cond.code yX3_findVersion cX3_findVersion 3 (some (.object "HarmoniumDesk$Version")), Cond.fieldLink RX3 11 "HarmoniumDesk" "versions" "[LHarmoniumDesk$Version;", Cond.methodLink RX3 79 yX3_checkBar, Cond.static yX3_checkBar, Cond.code yX3_checkBar cX3_checkBar 2 none, Cond.methodLink RX3 123 yX1_faultsOf, Cond.instanceMethod yX1_faultsOf, Cond.selects RX1 yX1_faultsOf yX1_faultsOf, Cond.initialized RX1, Cond.code yX1_faultsOf cX1_faultsOf 3 (some .int), Cond.methodLink RX1 37 yX1_isDiscord, Cond.instanceMethod yX1_isDiscord, Cond.selects RX1 yX1_isDiscord yX1_isDiscord, Cond.code yX1_isDiscord cX1_isDiscord 2 (some .boolean), Cond.methodLink RX1 59 yX1_interval, Cond.instanceMethod yX1_interval, Cond.selects RX1 yX1_interval yX1_interval, Cond.code yX1_interval cX1_interval 2 (some .int)]
def wsX3_faults_r2 : List Cond := [Cond.methodLink RX1 54 Lib.Math.abs.name, Cond.static Lib.Math.abs.name, Cond.initialized "java/lang/Math", Cond.code Lib.Math.abs.name Lib.Math.abs.code 1 (some .int), Cond.methodLink RX1 30 yX1_tone, Cond.instanceMethod yX1_tone, Cond.selects RX1 yX1_tone yX1_tone, Cond.code yX1_tone cX1_tone 4 (some .int), Cond.fieldLink RX1 15 "HarmoniumDesk$Score" "upper" "[I", Cond.fieldLink RX1 19 "HarmoniumDesk$Score" "lower" "[I", Cond.methodLink RX1 41 yX1_isParallel, Cond.instanceMethod yX1_isParallel, Cond.selects RX1 yX1_isParallel yX1_isParallel, Cond.code yX1_isParallel cX1_isParallel 2 (some .boolean), Cond.methodLink RX1 34 yX1_stepTo, Cond.instanceMethod yX1_stepTo, Cond.selects RX1 yX1_stepTo yX1_stepTo, Cond.code yX1_stepTo cX1_stepTo 3 (some .int), Cond.methodLink RX1 62 yX1_isPerfect, Cond.static yX1_isPerfect, Cond.code yX1_isPerfect cX1_isPerfect 1 (some .boolean), Cond.methodLink RX1 44 yX1_leapsTo, Cond.instanceMethod yX1_leapsTo, Cond.selects RX1 yX1_leapsTo yX1_leapsTo]
def wsX3_faults_r3 : List Cond := [Cond.code yX1_leapsTo cX1_leapsTo 4 (some .int), Cond.methodLink RX1 48 yX1_badEndsAt, Cond.instanceMethod yX1_badEndsAt, Cond.selects RX1 yX1_badEndsAt yX1_badEndsAt, Cond.code yX1_badEndsAt cX1_badEndsAt 4 (some .int), Cond.fieldLink RX1 9 "HarmoniumDesk$Score" "bars" "I", Cond.methodLink RX1 51 yX1_isStanding, Cond.instanceMethod yX1_isStanding, Cond.selects RX1 yX1_isStanding yX1_isStanding, Cond.code yX1_isStanding cX1_isStanding 2 (some .boolean)]
def wsX3_faults : List Cond := .code yX3_faults cX3_faults 5 (some .int) :: ((wsX3_faults_r1 ++ (wsX3_faults_r2 ++ wsX3_faults_r3)) ++ wsX20 ++ wsX30 ++ wsX10 ++ (vx_atS RX3 118 "java/lang/IndexOutOfBoundsException" ["java/lang/RuntimeException", "java/lang/Exception"]).filter goodWord)
def wsX3_weightedFaults_r1 : List Cond := [Cond.fieldLink RX3 28 "HarmoniumDesk" "weights" "[I", Cond.methodLink RX3 123 yX1_faultsOf, Cond.instanceMethod yX1_faultsOf, Cond.selects RX1 yX1_faultsOf yX1_faultsOf, Cond.initialized RX1, Cond.code yX1_faultsOf cX1_faultsOf 3 (some .int), Cond.methodLink RX1 37 yX1_isDiscord, Cond.instanceMethod yX1_isDiscord, Cond.selects RX1 yX1_isDiscord yX1_isDiscord, Cond.code yX1_isDiscord cX1_isDiscord 2 (some .boolean), Cond.methodLink RX1 59 yX1_interval, Cond.instanceMethod yX1_interval, Cond.selects RX1 yX1_interval yX1_interval, Cond.code yX1_interval cX1_interval 2 (some .int), Cond.methodLink RX1 54 Lib.Math.abs.name, Cond.static Lib.Math.abs.name, Cond.initialized "java/lang/Math", Cond.code Lib.Math.abs.name Lib.Math.abs.code 1 (some .int), Cond.methodLink RX1 30 yX1_tone, Cond.instanceMethod yX1_tone, Cond.selects RX1 yX1_tone yX1_tone, Cond.code yX1_tone cX1_tone 4 (some .int), Cond.fieldLink RX1 15 "HarmoniumDesk$Score" "upper" "[I", Cond.fieldLink RX1 19 "HarmoniumDesk$Score" "lower" "[I"]
def wsX3_weightedFaults_r2 : List Cond := [Cond.methodLink RX1 41 yX1_isParallel, Cond.instanceMethod yX1_isParallel, Cond.selects RX1 yX1_isParallel yX1_isParallel, Cond.code yX1_isParallel cX1_isParallel 2 (some .boolean), Cond.methodLink RX1 34 yX1_stepTo, Cond.instanceMethod yX1_stepTo, Cond.selects RX1 yX1_stepTo yX1_stepTo, Cond.code yX1_stepTo cX1_stepTo 3 (some .int), Cond.methodLink RX1 62 yX1_isPerfect, Cond.static yX1_isPerfect, Cond.code yX1_isPerfect cX1_isPerfect 1 (some .boolean), Cond.methodLink RX1 44 yX1_leapsTo, Cond.instanceMethod yX1_leapsTo, Cond.selects RX1 yX1_leapsTo yX1_leapsTo, Cond.code yX1_leapsTo cX1_leapsTo 4 (some .int), Cond.methodLink RX1 48 yX1_badEndsAt, Cond.instanceMethod yX1_badEndsAt, Cond.selects RX1 yX1_badEndsAt yX1_badEndsAt, Cond.code yX1_badEndsAt cX1_badEndsAt 4 (some .int), Cond.fieldLink RX1 9 "HarmoniumDesk$Score" "bars" "I", Cond.methodLink RX1 51 yX1_isStanding, Cond.instanceMethod yX1_isStanding, Cond.selects RX1 yX1_isStanding yX1_isStanding, Cond.code yX1_isStanding cX1_isStanding 2 (some .boolean)]
def wsX3_weightedFaults : List Cond := .code yX3_weightedFaults cX3_weightedFaults 7 (some .int) :: ((wsX3_weightedFaults_r1 ++ wsX3_weightedFaults_r2) ++ wsX30 ++ wsX10)
def wsX3_markOf_r1 : List Cond := [Cond.methodLink RX3 210 Lib.Math.max.name, Cond.static Lib.Math.max.name, Cond.initialized "java/lang/Math", Cond.code Lib.Math.max.name Lib.Math.max.code 2 (some .int), Cond.methodLink RX3 206 yX3_weightedFaults, Cond.instanceMethod yX3_weightedFaults, Cond.selects RX3 yX3_weightedFaults yX3_weightedFaults, Cond.initialized RX3, Cond.code yX3_weightedFaults cX3_weightedFaults 7 (some .int), Cond.fieldLink RX3 28 "HarmoniumDesk" "weights" "[I", Cond.methodLink RX3 123 yX1_faultsOf, Cond.instanceMethod yX1_faultsOf, Cond.selects RX1 yX1_faultsOf yX1_faultsOf, Cond.initialized RX1, Cond.code yX1_faultsOf cX1_faultsOf 3 (some .int), Cond.methodLink RX1 37 yX1_isDiscord, Cond.instanceMethod yX1_isDiscord, Cond.selects RX1 yX1_isDiscord yX1_isDiscord, Cond.code yX1_isDiscord cX1_isDiscord 2 (some .boolean), Cond.methodLink RX1 59 yX1_interval, Cond.instanceMethod yX1_interval, Cond.selects RX1 yX1_interval yX1_interval, Cond.code yX1_interval cX1_interval 2 (some .int), Cond.methodLink RX1 54 Lib.Math.abs.name]
def wsX3_markOf_r2 : List Cond := [Cond.static Lib.Math.abs.name, Cond.code Lib.Math.abs.name Lib.Math.abs.code 1 (some .int), Cond.methodLink RX1 30 yX1_tone, Cond.instanceMethod yX1_tone, Cond.selects RX1 yX1_tone yX1_tone, Cond.code yX1_tone cX1_tone 4 (some .int), Cond.fieldLink RX1 15 "HarmoniumDesk$Score" "upper" "[I", Cond.fieldLink RX1 19 "HarmoniumDesk$Score" "lower" "[I", Cond.methodLink RX1 41 yX1_isParallel, Cond.instanceMethod yX1_isParallel, Cond.selects RX1 yX1_isParallel yX1_isParallel, Cond.code yX1_isParallel cX1_isParallel 2 (some .boolean), Cond.methodLink RX1 34 yX1_stepTo, Cond.instanceMethod yX1_stepTo, Cond.selects RX1 yX1_stepTo yX1_stepTo, Cond.code yX1_stepTo cX1_stepTo 3 (some .int), Cond.methodLink RX1 62 yX1_isPerfect, Cond.static yX1_isPerfect, Cond.code yX1_isPerfect cX1_isPerfect 1 (some .boolean), Cond.methodLink RX1 44 yX1_leapsTo, Cond.instanceMethod yX1_leapsTo, Cond.selects RX1 yX1_leapsTo yX1_leapsTo, Cond.code yX1_leapsTo cX1_leapsTo 4 (some .int), Cond.methodLink RX1 48 yX1_badEndsAt]
def wsX3_markOf_r3 : List Cond := [Cond.instanceMethod yX1_badEndsAt, Cond.selects RX1 yX1_badEndsAt yX1_badEndsAt, Cond.code yX1_badEndsAt cX1_badEndsAt 4 (some .int), Cond.fieldLink RX1 9 "HarmoniumDesk$Score" "bars" "I", Cond.methodLink RX1 51 yX1_isStanding, Cond.instanceMethod yX1_isStanding, Cond.selects RX1 yX1_isStanding yX1_isStanding, Cond.code yX1_isStanding cX1_isStanding 2 (some .boolean)]
def wsX3_markOf : List Cond := .code yX3_markOf cX3_markOf 2 (some .int) :: ((wsX3_markOf_r1 ++ (wsX3_markOf_r2 ++ wsX3_markOf_r3)) ++ wsX10 ++ wsX30)
def wsX3_mark_r1 : List Cond := [Cond.methodLink RX3 63 yX3_findVersion, Cond.instanceMethod yX3_findVersion, Cond.selects RX3 yX3_findVersion yX3_findVersion, Cond.initialized RX3, Cond.code yX3_findVersion cX3_findVersion 3 (some (.object "HarmoniumDesk$Version")), Cond.classLink RX3 114 "java/lang/IndexOutOfBoundsException", Cond.initialized "java/lang/IndexOutOfBoundsException", Cond.fieldLink RX3 11 "HarmoniumDesk" "versions" "[LHarmoniumDesk$Version;", Cond.methodLink RX3 126 yX3_markOf, Cond.instanceMethod yX3_markOf, Cond.selects RX3 yX3_markOf yX3_markOf, Cond.code yX3_markOf cX3_markOf 2 (some .int), Cond.methodLink RX3 210 Lib.Math.max.name, Cond.static Lib.Math.max.name, Cond.initialized "java/lang/Math", Cond.code Lib.Math.max.name Lib.Math.max.code 2 (some .int), Cond.methodLink RX3 206 yX3_weightedFaults, Cond.instanceMethod yX3_weightedFaults, Cond.selects RX3 yX3_weightedFaults yX3_weightedFaults, Cond.code yX3_weightedFaults cX3_weightedFaults 7 (some .int), Cond.fieldLink RX3 28 "HarmoniumDesk" "weights" "[I", Cond.methodLink RX3 123 yX1_faultsOf, Cond.instanceMethod yX1_faultsOf, Cond.selects RX1 yX1_faultsOf yX1_faultsOf]
def wsX3_mark_r2 : List Cond := [Cond.initialized RX1, Cond.code yX1_faultsOf cX1_faultsOf 3 (some .int), Cond.methodLink RX1 37 yX1_isDiscord, Cond.instanceMethod yX1_isDiscord, Cond.selects RX1 yX1_isDiscord yX1_isDiscord, Cond.code yX1_isDiscord cX1_isDiscord 2 (some .boolean), Cond.methodLink RX1 59 yX1_interval, Cond.instanceMethod yX1_interval, Cond.selects RX1 yX1_interval yX1_interval, Cond.code yX1_interval cX1_interval 2 (some .int), Cond.methodLink RX1 54 Lib.Math.abs.name, Cond.static Lib.Math.abs.name, Cond.code Lib.Math.abs.name Lib.Math.abs.code 1 (some .int), Cond.methodLink RX1 30 yX1_tone, Cond.instanceMethod yX1_tone, Cond.selects RX1 yX1_tone yX1_tone, Cond.code yX1_tone cX1_tone 4 (some .int), Cond.fieldLink RX1 15 "HarmoniumDesk$Score" "upper" "[I", Cond.fieldLink RX1 19 "HarmoniumDesk$Score" "lower" "[I", Cond.methodLink RX1 41 yX1_isParallel, Cond.instanceMethod yX1_isParallel, Cond.selects RX1 yX1_isParallel yX1_isParallel, Cond.code yX1_isParallel cX1_isParallel 2 (some .boolean), Cond.methodLink RX1 34 yX1_stepTo]
def wsX3_mark_r3 : List Cond := [Cond.instanceMethod yX1_stepTo, Cond.selects RX1 yX1_stepTo yX1_stepTo, Cond.code yX1_stepTo cX1_stepTo 3 (some .int), Cond.methodLink RX1 62 yX1_isPerfect, Cond.static yX1_isPerfect, Cond.code yX1_isPerfect cX1_isPerfect 1 (some .boolean), Cond.methodLink RX1 44 yX1_leapsTo, Cond.instanceMethod yX1_leapsTo, Cond.selects RX1 yX1_leapsTo yX1_leapsTo, Cond.code yX1_leapsTo cX1_leapsTo 4 (some .int), Cond.methodLink RX1 48 yX1_badEndsAt, Cond.instanceMethod yX1_badEndsAt, Cond.selects RX1 yX1_badEndsAt yX1_badEndsAt, Cond.code yX1_badEndsAt cX1_badEndsAt 4 (some .int), Cond.fieldLink RX1 9 "HarmoniumDesk$Score" "bars" "I", Cond.methodLink RX1 51 yX1_isStanding, Cond.instanceMethod yX1_isStanding, Cond.selects RX1 yX1_isStanding yX1_isStanding, Cond.code yX1_isStanding cX1_isStanding 2 (some .boolean)]
def wsX3_mark : List Cond := .code yX3_mark cX3_mark 2 (some .int) :: ((wsX3_mark_r1 ++ (wsX3_mark_r2 ++ wsX3_mark_r3)) ++ wsX20 ++ wsX30 ++ wsX10 ++ (vx_atS RX3 118 "java/lang/IndexOutOfBoundsException" ["java/lang/RuntimeException", "java/lang/Exception"]).filter goodWord)
def wsX3_handIn_r1 : List Cond := [Cond.fieldLink RX3 32 "HarmoniumDesk" "passMark" "I", Cond.methodLink RX3 63 yX3_findVersion, Cond.instanceMethod yX3_findVersion, Cond.selects RX3 yX3_findVersion yX3_findVersion, Cond.initialized RX3, Cond.code yX3_findVersion cX3_findVersion 3 (some (.object "HarmoniumDesk$Version")), Cond.classLink RX3 114 "java/lang/IndexOutOfBoundsException", Cond.initialized "java/lang/IndexOutOfBoundsException", Cond.fieldLink RX3 11 "HarmoniumDesk" "versions" "[LHarmoniumDesk$Version;", Cond.methodLink RX3 126 yX3_markOf, Cond.instanceMethod yX3_markOf, Cond.selects RX3 yX3_markOf yX3_markOf, Cond.code yX3_markOf cX3_markOf 2 (some .int), Cond.methodLink RX3 210 Lib.Math.max.name, Cond.static Lib.Math.max.name, Cond.initialized "java/lang/Math", Cond.code Lib.Math.max.name Lib.Math.max.code 2 (some .int), Cond.methodLink RX3 206 yX3_weightedFaults, Cond.instanceMethod yX3_weightedFaults, Cond.selects RX3 yX3_weightedFaults yX3_weightedFaults, Cond.code yX3_weightedFaults cX3_weightedFaults 7 (some .int), Cond.fieldLink RX3 28 "HarmoniumDesk" "weights" "[I", Cond.methodLink RX3 123 yX1_faultsOf, Cond.instanceMethod yX1_faultsOf]
def wsX3_handIn_r2 : List Cond := [Cond.selects RX1 yX1_faultsOf yX1_faultsOf, Cond.initialized RX1, Cond.code yX1_faultsOf cX1_faultsOf 3 (some .int), Cond.methodLink RX1 37 yX1_isDiscord, Cond.instanceMethod yX1_isDiscord, Cond.selects RX1 yX1_isDiscord yX1_isDiscord, Cond.code yX1_isDiscord cX1_isDiscord 2 (some .boolean), Cond.methodLink RX1 59 yX1_interval, Cond.instanceMethod yX1_interval, Cond.selects RX1 yX1_interval yX1_interval, Cond.code yX1_interval cX1_interval 2 (some .int), Cond.methodLink RX1 54 Lib.Math.abs.name, Cond.static Lib.Math.abs.name, Cond.code Lib.Math.abs.name Lib.Math.abs.code 1 (some .int), Cond.methodLink RX1 30 yX1_tone, Cond.instanceMethod yX1_tone, Cond.selects RX1 yX1_tone yX1_tone, Cond.code yX1_tone cX1_tone 4 (some .int), Cond.fieldLink RX1 15 "HarmoniumDesk$Score" "upper" "[I", Cond.fieldLink RX1 19 "HarmoniumDesk$Score" "lower" "[I", Cond.methodLink RX1 41 yX1_isParallel, Cond.instanceMethod yX1_isParallel, Cond.selects RX1 yX1_isParallel yX1_isParallel, Cond.code yX1_isParallel cX1_isParallel 2 (some .boolean)]
def wsX3_handIn_r3 : List Cond := [Cond.methodLink RX1 34 yX1_stepTo, Cond.instanceMethod yX1_stepTo, Cond.selects RX1 yX1_stepTo yX1_stepTo, Cond.code yX1_stepTo cX1_stepTo 3 (some .int), Cond.methodLink RX1 62 yX1_isPerfect, Cond.static yX1_isPerfect, Cond.code yX1_isPerfect cX1_isPerfect 1 (some .boolean), Cond.methodLink RX1 44 yX1_leapsTo, Cond.instanceMethod yX1_leapsTo, Cond.selects RX1 yX1_leapsTo yX1_leapsTo, Cond.code yX1_leapsTo cX1_leapsTo 4 (some .int), Cond.methodLink RX1 48 yX1_badEndsAt, Cond.instanceMethod yX1_badEndsAt, Cond.selects RX1 yX1_badEndsAt yX1_badEndsAt, Cond.code yX1_badEndsAt cX1_badEndsAt 4 (some .int), Cond.fieldLink RX1 9 "HarmoniumDesk$Score" "bars" "I", Cond.methodLink RX1 51 yX1_isStanding, Cond.instanceMethod yX1_isStanding, Cond.selects RX1 yX1_isStanding yX1_isStanding, Cond.code yX1_isStanding cX1_isStanding 2 (some .boolean)]
def wsX3_handIn : List Cond := .code yX3_handIn cX3_handIn 3 (some .boolean) :: ((wsX3_handIn_r1 ++ (wsX3_handIn_r2 ++ wsX3_handIn_r3)) ++ wsX20 ++ wsX30 ++ wsX10 ++ (vx_atS RX3 118 "java/lang/IndexOutOfBoundsException" ["java/lang/RuntimeException", "java/lang/Exception"]).filter goodWord)
def wsX3_fallen_r1 : List Cond := [Cond.fieldLink RX3 11 "HarmoniumDesk" "versions" "[LHarmoniumDesk$Version;", Cond.fieldLink RX3 32 "HarmoniumDesk" "passMark" "I", Cond.methodLink RX3 126 yX3_markOf, Cond.instanceMethod yX3_markOf, Cond.selects RX3 yX3_markOf yX3_markOf, Cond.initialized RX3, Cond.code yX3_markOf cX3_markOf 2 (some .int), Cond.methodLink RX3 210 Lib.Math.max.name, Cond.static Lib.Math.max.name, Cond.initialized "java/lang/Math", Cond.code Lib.Math.max.name Lib.Math.max.code 2 (some .int), Cond.methodLink RX3 206 yX3_weightedFaults, Cond.instanceMethod yX3_weightedFaults, Cond.selects RX3 yX3_weightedFaults yX3_weightedFaults, Cond.code yX3_weightedFaults cX3_weightedFaults 7 (some .int), Cond.fieldLink RX3 28 "HarmoniumDesk" "weights" "[I", Cond.methodLink RX3 123 yX1_faultsOf, Cond.instanceMethod yX1_faultsOf, Cond.selects RX1 yX1_faultsOf yX1_faultsOf, Cond.initialized RX1, Cond.code yX1_faultsOf cX1_faultsOf 3 (some .int), Cond.methodLink RX1 37 yX1_isDiscord, Cond.instanceMethod yX1_isDiscord, Cond.selects RX1 yX1_isDiscord yX1_isDiscord]
def wsX3_fallen_r2 : List Cond := [Cond.code yX1_isDiscord cX1_isDiscord 2 (some .boolean), Cond.methodLink RX1 59 yX1_interval, Cond.instanceMethod yX1_interval, Cond.selects RX1 yX1_interval yX1_interval, Cond.code yX1_interval cX1_interval 2 (some .int), Cond.methodLink RX1 54 Lib.Math.abs.name, Cond.static Lib.Math.abs.name, Cond.code Lib.Math.abs.name Lib.Math.abs.code 1 (some .int), Cond.methodLink RX1 30 yX1_tone, Cond.instanceMethod yX1_tone, Cond.selects RX1 yX1_tone yX1_tone, Cond.code yX1_tone cX1_tone 4 (some .int), Cond.fieldLink RX1 15 "HarmoniumDesk$Score" "upper" "[I", Cond.fieldLink RX1 19 "HarmoniumDesk$Score" "lower" "[I", Cond.methodLink RX1 41 yX1_isParallel, Cond.instanceMethod yX1_isParallel, Cond.selects RX1 yX1_isParallel yX1_isParallel, Cond.code yX1_isParallel cX1_isParallel 2 (some .boolean), Cond.methodLink RX1 34 yX1_stepTo, Cond.instanceMethod yX1_stepTo, Cond.selects RX1 yX1_stepTo yX1_stepTo, Cond.code yX1_stepTo cX1_stepTo 3 (some .int), Cond.methodLink RX1 62 yX1_isPerfect, Cond.static yX1_isPerfect]
def wsX3_fallen_r3 : List Cond := [Cond.code yX1_isPerfect cX1_isPerfect 1 (some .boolean), Cond.methodLink RX1 44 yX1_leapsTo, Cond.instanceMethod yX1_leapsTo, Cond.selects RX1 yX1_leapsTo yX1_leapsTo, Cond.code yX1_leapsTo cX1_leapsTo 4 (some .int), Cond.methodLink RX1 48 yX1_badEndsAt, Cond.instanceMethod yX1_badEndsAt, Cond.selects RX1 yX1_badEndsAt yX1_badEndsAt, Cond.code yX1_badEndsAt cX1_badEndsAt 4 (some .int), Cond.fieldLink RX1 9 "HarmoniumDesk$Score" "bars" "I", Cond.methodLink RX1 51 yX1_isStanding, Cond.instanceMethod yX1_isStanding, Cond.selects RX1 yX1_isStanding yX1_isStanding, Cond.code yX1_isStanding cX1_isStanding 2 (some .boolean)]
def wsX3_fallen : List Cond := .code yX3_fallen cX3_fallen 4 (some .int) :: ((wsX3_fallen_r1 ++ (wsX3_fallen_r2 ++ wsX3_fallen_r3)) ++ wsX30 ++ wsX20 ++ wsX10)
def wsX3_bestTone_r1 : List Cond := [Cond.fieldLink RX3 38 "HarmoniumDesk" "trial" "LHarmoniumDesk$Score;", Cond.methodLink RX3 215 Lib.Math.min.name, Cond.static Lib.Math.min.name, Cond.initialized "java/lang/Math", Cond.code Lib.Math.min.name Lib.Math.min.code 2 (some .int), Cond.methodLink RX3 94 yX1_setTone, Cond.instanceMethod yX1_setTone, Cond.selects RX1 yX1_setTone yX1_setTone, Cond.initialized RX1, Cond.code yX1_setTone cX1_setTone 5 none, Cond.fieldLink RX1 15 "HarmoniumDesk$Score" "upper" "[I", Cond.fieldLink RX1 19 "HarmoniumDesk$Score" "lower" "[I", Cond.methodLink RX3 206 yX3_weightedFaults, Cond.instanceMethod yX3_weightedFaults, Cond.selects RX3 yX3_weightedFaults yX3_weightedFaults, Cond.initialized RX3, Cond.code yX3_weightedFaults cX3_weightedFaults 7 (some .int), Cond.fieldLink RX3 28 "HarmoniumDesk" "weights" "[I", Cond.methodLink RX3 123 yX1_faultsOf, Cond.instanceMethod yX1_faultsOf, Cond.selects RX1 yX1_faultsOf yX1_faultsOf, Cond.code yX1_faultsOf cX1_faultsOf 3 (some .int), Cond.methodLink RX1 37 yX1_isDiscord, Cond.instanceMethod yX1_isDiscord]
def wsX3_bestTone_r2 : List Cond := [Cond.selects RX1 yX1_isDiscord yX1_isDiscord, Cond.code yX1_isDiscord cX1_isDiscord 2 (some .boolean), Cond.methodLink RX1 59 yX1_interval, Cond.instanceMethod yX1_interval, Cond.selects RX1 yX1_interval yX1_interval, Cond.code yX1_interval cX1_interval 2 (some .int), Cond.methodLink RX1 54 Lib.Math.abs.name, Cond.static Lib.Math.abs.name, Cond.code Lib.Math.abs.name Lib.Math.abs.code 1 (some .int), Cond.methodLink RX1 30 yX1_tone, Cond.instanceMethod yX1_tone, Cond.selects RX1 yX1_tone yX1_tone, Cond.code yX1_tone cX1_tone 4 (some .int), Cond.methodLink RX1 41 yX1_isParallel, Cond.instanceMethod yX1_isParallel, Cond.selects RX1 yX1_isParallel yX1_isParallel, Cond.code yX1_isParallel cX1_isParallel 2 (some .boolean), Cond.methodLink RX1 34 yX1_stepTo, Cond.instanceMethod yX1_stepTo, Cond.selects RX1 yX1_stepTo yX1_stepTo, Cond.code yX1_stepTo cX1_stepTo 3 (some .int), Cond.methodLink RX1 62 yX1_isPerfect, Cond.static yX1_isPerfect, Cond.code yX1_isPerfect cX1_isPerfect 1 (some .boolean)]
def wsX3_bestTone_r3 : List Cond := [Cond.methodLink RX1 44 yX1_leapsTo, Cond.instanceMethod yX1_leapsTo, Cond.selects RX1 yX1_leapsTo yX1_leapsTo, Cond.code yX1_leapsTo cX1_leapsTo 4 (some .int), Cond.methodLink RX1 48 yX1_badEndsAt, Cond.instanceMethod yX1_badEndsAt, Cond.selects RX1 yX1_badEndsAt yX1_badEndsAt, Cond.code yX1_badEndsAt cX1_badEndsAt 4 (some .int), Cond.fieldLink RX1 9 "HarmoniumDesk$Score" "bars" "I", Cond.methodLink RX1 51 yX1_isStanding, Cond.instanceMethod yX1_isStanding, Cond.selects RX1 yX1_isStanding yX1_isStanding, Cond.code yX1_isStanding cX1_isStanding 2 (some .boolean)]
def wsX3_bestTone : List Cond := .code yX3_bestTone cX3_bestTone 8 (some .int) :: ((wsX3_bestTone_r1 ++ (wsX3_bestTone_r2 ++ wsX3_bestTone_r3)) ++ wsX30 ++ wsX10)
def wsX3_best_r1 : List Cond := [Cond.fieldLink RX3 38 "HarmoniumDesk" "trial" "LHarmoniumDesk$Score;", Cond.methodLink RX3 63 yX3_findVersion, Cond.instanceMethod yX3_findVersion, Cond.selects RX3 yX3_findVersion yX3_findVersion, Cond.initialized RX3, Cond.code yX3_findVersion cX3_findVersion 3 (some (.object "HarmoniumDesk$Version")), Cond.classLink RX3 114 "java/lang/IndexOutOfBoundsException", Cond.initialized "java/lang/IndexOutOfBoundsException", Cond.fieldLink RX3 11 "HarmoniumDesk" "versions" "[LHarmoniumDesk$Version;", Cond.methodLink RX3 75 yX3_checkVoice, Cond.static yX3_checkVoice, Cond.code yX3_checkVoice cX3_checkVoice 1 none, Cond.methodLink RX3 79 yX3_checkBar, Cond.static yX3_checkBar, Cond.code yX3_checkBar cX3_checkBar 2 none, Cond.methodLink RX3 67 yX1_takeAll, Cond.instanceMethod yX1_takeAll, Cond.selects RX1 yX1_takeAll yX1_takeAll, Cond.initialized RX1, Cond.code yX1_takeAll cX1_takeAll 3 none, Cond.fieldLink RX1 9 "HarmoniumDesk$Score" "bars" "I", Cond.methodLink RX1 26 yX1_takeBar, Cond.instanceMethod yX1_takeBar, Cond.selects RX1 yX1_takeBar yX1_takeBar]
def wsX3_best_r2 : List Cond := [Cond.code yX1_takeBar cX1_takeBar 3 none, Cond.methodLink RX1 30 yX1_tone, Cond.instanceMethod yX1_tone, Cond.selects RX1 yX1_tone yX1_tone, Cond.code yX1_tone cX1_tone 4 (some .int), Cond.fieldLink RX1 15 "HarmoniumDesk$Score" "upper" "[I", Cond.fieldLink RX1 19 "HarmoniumDesk$Score" "lower" "[I", Cond.methodLink RX1 22 yX1_setTone, Cond.instanceMethod yX1_setTone, Cond.selects RX1 yX1_setTone yX1_setTone, Cond.code yX1_setTone cX1_setTone 5 none, Cond.methodLink RX3 133 yX3_bestTone, Cond.instanceMethod yX3_bestTone, Cond.selects RX3 yX3_bestTone yX3_bestTone, Cond.code yX3_bestTone cX3_bestTone 8 (some .int), Cond.methodLink RX3 215 Lib.Math.min.name, Cond.static Lib.Math.min.name, Cond.initialized "java/lang/Math", Cond.code Lib.Math.min.name Lib.Math.min.code 2 (some .int), Cond.methodLink RX3 94 yX1_setTone, Cond.methodLink RX3 206 yX3_weightedFaults, Cond.instanceMethod yX3_weightedFaults, Cond.selects RX3 yX3_weightedFaults yX3_weightedFaults, Cond.code yX3_weightedFaults cX3_weightedFaults 7 (some .int)]
def wsX3_best_r3 : List Cond := [Cond.fieldLink RX3 28 "HarmoniumDesk" "weights" "[I", Cond.methodLink RX3 123 yX1_faultsOf, Cond.instanceMethod yX1_faultsOf, Cond.selects RX1 yX1_faultsOf yX1_faultsOf, Cond.code yX1_faultsOf cX1_faultsOf 3 (some .int), Cond.methodLink RX1 37 yX1_isDiscord, Cond.instanceMethod yX1_isDiscord, Cond.selects RX1 yX1_isDiscord yX1_isDiscord, Cond.code yX1_isDiscord cX1_isDiscord 2 (some .boolean), Cond.methodLink RX1 59 yX1_interval, Cond.instanceMethod yX1_interval, Cond.selects RX1 yX1_interval yX1_interval, Cond.code yX1_interval cX1_interval 2 (some .int), Cond.methodLink RX1 54 Lib.Math.abs.name, Cond.static Lib.Math.abs.name, Cond.code Lib.Math.abs.name Lib.Math.abs.code 1 (some .int), Cond.methodLink RX1 41 yX1_isParallel, Cond.instanceMethod yX1_isParallel, Cond.selects RX1 yX1_isParallel yX1_isParallel, Cond.code yX1_isParallel cX1_isParallel 2 (some .boolean), Cond.methodLink RX1 34 yX1_stepTo, Cond.instanceMethod yX1_stepTo, Cond.selects RX1 yX1_stepTo yX1_stepTo, Cond.code yX1_stepTo cX1_stepTo 3 (some .int)]
def wsX3_best_r4 : List Cond := [Cond.methodLink RX1 62 yX1_isPerfect, Cond.static yX1_isPerfect, Cond.code yX1_isPerfect cX1_isPerfect 1 (some .boolean), Cond.methodLink RX1 44 yX1_leapsTo, Cond.instanceMethod yX1_leapsTo, Cond.selects RX1 yX1_leapsTo yX1_leapsTo, Cond.code yX1_leapsTo cX1_leapsTo 4 (some .int), Cond.methodLink RX1 48 yX1_badEndsAt, Cond.instanceMethod yX1_badEndsAt, Cond.selects RX1 yX1_badEndsAt yX1_badEndsAt, Cond.code yX1_badEndsAt cX1_badEndsAt 4 (some .int), Cond.methodLink RX1 51 yX1_isStanding, Cond.instanceMethod yX1_isStanding, Cond.selects RX1 yX1_isStanding yX1_isStanding, Cond.code yX1_isStanding cX1_isStanding 2 (some .boolean)]
def wsX3_best : List Cond := .code yX3_best cX3_best 5 (some .int) :: ((wsX3_best_r1 ++ (wsX3_best_r2 ++ (wsX3_best_r3 ++ wsX3_best_r4))) ++ wsX30 ++ wsX20 ++ wsX10 ++ (vx_atS RX3 118 "java/lang/IndexOutOfBoundsException" ["java/lang/RuntimeException", "java/lang/Exception"]).filter goodWord)
def wsX3_movement_r1 : List Cond := [Cond.methodLink RX3 63 yX3_findVersion, Cond.instanceMethod yX3_findVersion, Cond.selects RX3 yX3_findVersion yX3_findVersion, Cond.initialized RX3, Cond.code yX3_findVersion cX3_findVersion 3 (some (.object "HarmoniumDesk$Version")), Cond.classLink RX3 114 "java/lang/IndexOutOfBoundsException", Cond.initialized "java/lang/IndexOutOfBoundsException", Cond.fieldLink RX3 11 "HarmoniumDesk" "versions" "[LHarmoniumDesk$Version;", Cond.methodLink RX3 75 yX3_checkVoice, Cond.static yX3_checkVoice, Cond.code yX3_checkVoice cX3_checkVoice 1 none, Cond.methodLink RX3 139 yX1_wayOf, Cond.instanceMethod yX1_wayOf, Cond.selects RX1 yX1_wayOf yX1_wayOf, Cond.initialized RX1, Cond.code yX1_wayOf cX1_wayOf 4 (some .int), Cond.fieldLink RX1 9 "HarmoniumDesk$Score" "bars" "I", Cond.methodLink RX1 34 yX1_stepTo, Cond.instanceMethod yX1_stepTo, Cond.selects RX1 yX1_stepTo yX1_stepTo, Cond.code yX1_stepTo cX1_stepTo 3 (some .int), Cond.methodLink RX1 54 Lib.Math.abs.name, Cond.static Lib.Math.abs.name, Cond.initialized "java/lang/Math"]
def wsX3_movement_r2 : List Cond := [Cond.code Lib.Math.abs.name Lib.Math.abs.code 1 (some .int), Cond.methodLink RX1 30 yX1_tone, Cond.instanceMethod yX1_tone, Cond.selects RX1 yX1_tone yX1_tone, Cond.code yX1_tone cX1_tone 4 (some .int), Cond.fieldLink RX1 15 "HarmoniumDesk$Score" "upper" "[I", Cond.fieldLink RX1 19 "HarmoniumDesk$Score" "lower" "[I"]
def wsX3_movement : List Cond := .code yX3_movement cX3_movement 5 (some .float) :: ((wsX3_movement_r1 ++ wsX3_movement_r2) ++ wsX20 ++ wsX10 ++ wsX30 ++ (vx_atS RX3 118 "java/lang/IndexOutOfBoundsException" ["java/lang/RuntimeException", "java/lang/Exception"]).filter goodWord)
def wsX3_addCopy_r1 : List Cond := [Cond.classLink RX3 85 "java/lang/IllegalStateException", Cond.initialized "java/lang/IllegalStateException", Cond.fieldLink RX3 25 "HarmoniumDesk" "copyCount" "I", Cond.fieldLink RX3 21 "HarmoniumDesk" "copies" "[LHarmoniumDesk$Copy;", Cond.classLink RX3 19 RX0, Cond.instantiable RX0 4, Cond.initialized RX0, Cond.methodLink RX3 187 yX0_init, Cond.instanceMethod yX0_init, Cond.code yX0_init cX0_init 3 none, Cond.methodLink RX0 3 objectInit, Cond.instanceMethod objectInit, Cond.code objectInit ⟨#[0xb1]⟩ 1 none, Cond.arrayClass .int, Cond.fieldLink RX0 9 "HarmoniumDesk$Copy" "tones" "[I", Cond.fieldLink RX0 15 "HarmoniumDesk$Copy" "slipCount" "I", Cond.fieldLink RX0 19 "HarmoniumDesk$Copy" "voice" "I", Cond.fieldLink RX0 27 "HarmoniumDesk$Copy" "bars" "I", Cond.methodLink RX0 28 yX0_takeVoice, Cond.instanceMethod yX0_takeVoice, Cond.selects RX0 yX0_takeVoice yX0_takeVoice, Cond.code yX0_takeVoice cX0_takeVoice 3 none, Cond.methodLink RX0 32 yX1_tone, Cond.instanceMethod yX1_tone]
def wsX3_addCopy_r2 : List Cond := [Cond.selects RX1 yX1_tone yX1_tone, Cond.initialized RX1, Cond.code yX1_tone cX1_tone 4 (some .int), Cond.fieldLink RX1 15 "HarmoniumDesk$Score" "upper" "[I", Cond.fieldLink RX1 19 "HarmoniumDesk$Score" "lower" "[I"]
def wsX3_addCopy : List Cond := .code yX3_addCopy cX3_addCopy 4 (some .int) :: ((wsX3_addCopy_r1 ++ wsX3_addCopy_r2) ++ wsX30 ++ wsX00 ++ wsX10 ++ (vx_atS RX3 89 "java/lang/IllegalStateException" ["java/lang/RuntimeException", "java/lang/Exception"]).filter goodWord)
def wsX3_print_r1 : List Cond := [Cond.methodLink RX3 63 yX3_findVersion, Cond.instanceMethod yX3_findVersion, Cond.selects RX3 yX3_findVersion yX3_findVersion, Cond.initialized RX3, Cond.code yX3_findVersion cX3_findVersion 3 (some (.object "HarmoniumDesk$Version")), Cond.classLink RX3 114 "java/lang/IndexOutOfBoundsException", Cond.initialized "java/lang/IndexOutOfBoundsException", Cond.fieldLink RX3 11 "HarmoniumDesk" "versions" "[LHarmoniumDesk$Version;", Cond.methodLink RX3 75 yX3_checkVoice, Cond.static yX3_checkVoice, Cond.code yX3_checkVoice cX3_checkVoice 1 none, Cond.methodLink RX3 143 yX3_addCopy, Cond.instanceMethod yX3_addCopy, Cond.selects RX3 yX3_addCopy yX3_addCopy, Cond.code yX3_addCopy cX3_addCopy 4 (some .int), Cond.classLink RX3 85 "java/lang/IllegalStateException", Cond.initialized "java/lang/IllegalStateException", Cond.fieldLink RX3 25 "HarmoniumDesk" "copyCount" "I", Cond.fieldLink RX3 21 "HarmoniumDesk" "copies" "[LHarmoniumDesk$Copy;", Cond.classLink RX3 19 RX0, Cond.instantiable RX0 4, Cond.initialized RX0, Cond.methodLink RX3 187 yX0_init, Cond.instanceMethod yX0_init]
def wsX3_print_r2 : List Cond := [Cond.code yX0_init cX0_init 3 none, Cond.methodLink RX0 3 objectInit, Cond.instanceMethod objectInit, Cond.code objectInit ⟨#[0xb1]⟩ 1 none, Cond.arrayClass .int, Cond.fieldLink RX0 9 "HarmoniumDesk$Copy" "tones" "[I", Cond.fieldLink RX0 15 "HarmoniumDesk$Copy" "slipCount" "I", Cond.fieldLink RX0 19 "HarmoniumDesk$Copy" "voice" "I", Cond.fieldLink RX0 27 "HarmoniumDesk$Copy" "bars" "I", Cond.methodLink RX0 28 yX0_takeVoice, Cond.instanceMethod yX0_takeVoice, Cond.selects RX0 yX0_takeVoice yX0_takeVoice, Cond.code yX0_takeVoice cX0_takeVoice 3 none, Cond.methodLink RX0 32 yX1_tone, Cond.instanceMethod yX1_tone, Cond.selects RX1 yX1_tone yX1_tone, Cond.initialized RX1, Cond.code yX1_tone cX1_tone 4 (some .int), Cond.fieldLink RX1 15 "HarmoniumDesk$Score" "upper" "[I", Cond.fieldLink RX1 19 "HarmoniumDesk$Score" "lower" "[I"]
def wsX3_print : List Cond := .code yX3_print cX3_print 5 (some .int) :: ((wsX3_print_r1 ++ wsX3_print_r2) ++ wsX20 ++ wsX30 ++ wsX00 ++ wsX10 ++ (vx_atS RX3 118 "java/lang/IndexOutOfBoundsException" ["java/lang/RuntimeException", "java/lang/Exception"]).filter goodWord ++ (vx_atS RX3 89 "java/lang/IllegalStateException" ["java/lang/RuntimeException", "java/lang/Exception"]).filter goodWord)
def wsX3_findCopy : List Cond := .code yX3_findCopy cX3_findCopy 3 (some (.object "HarmoniumDesk$Copy")) :: ([.classLink RX3 114 "java/lang/IndexOutOfBoundsException", .initialized "java/lang/IndexOutOfBoundsException", .fieldLink RX3 21 "HarmoniumDesk" "copies" "[LHarmoniumDesk$Copy;"] ++ wsX30 ++ (vx_atS RX3 118 "java/lang/IndexOutOfBoundsException" ["java/lang/RuntimeException", "java/lang/Exception"]).filter goodWord)
def wsX3_checkAsManyBars : List Cond := .code yX3_checkAsManyBars cX3_checkAsManyBars 2 none :: ([.classLink RX3 85 "java/lang/IllegalStateException", .initialized "java/lang/IllegalStateException"] ++ wsX00 ++ wsX20 ++ wsX10 ++ (vx_atS RX3 89 "java/lang/IllegalStateException" ["java/lang/RuntimeException", "java/lang/Exception"]).filter goodWord)
def wsX3_errata_r1 : List Cond := [Cond.methodLink RX3 147 yX3_findCopy, Cond.instanceMethod yX3_findCopy, Cond.selects RX3 yX3_findCopy yX3_findCopy, Cond.initialized RX3, Cond.code yX3_findCopy cX3_findCopy 3 (some (.object "HarmoniumDesk$Copy")), Cond.classLink RX3 114 "java/lang/IndexOutOfBoundsException", Cond.initialized "java/lang/IndexOutOfBoundsException", Cond.fieldLink RX3 21 "HarmoniumDesk" "copies" "[LHarmoniumDesk$Copy;", Cond.methodLink RX3 63 yX3_findVersion, Cond.instanceMethod yX3_findVersion, Cond.selects RX3 yX3_findVersion yX3_findVersion, Cond.code yX3_findVersion cX3_findVersion 3 (some (.object "HarmoniumDesk$Version")), Cond.fieldLink RX3 11 "HarmoniumDesk" "versions" "[LHarmoniumDesk$Version;", Cond.methodLink RX3 151 yX3_checkAsManyBars, Cond.static yX3_checkAsManyBars, Cond.code yX3_checkAsManyBars cX3_checkAsManyBars 2 none, Cond.classLink RX3 85 "java/lang/IllegalStateException", Cond.initialized "java/lang/IllegalStateException", Cond.methodLink RX3 155 yX0_differingBars, Cond.instanceMethod yX0_differingBars, Cond.selects RX0 yX0_differingBars yX0_differingBars, Cond.initialized RX0, Cond.code yX0_differingBars cX0_differingBars 4 (some .int), Cond.fieldLink RX0 27 "HarmoniumDesk$Copy" "bars" "I"]
def wsX3_errata_r2 : List Cond := [Cond.fieldLink RX0 9 "HarmoniumDesk$Copy" "tones" "[I", Cond.fieldLink RX0 19 "HarmoniumDesk$Copy" "voice" "I", Cond.methodLink RX0 32 yX1_tone, Cond.instanceMethod yX1_tone, Cond.selects RX1 yX1_tone yX1_tone, Cond.initialized RX1, Cond.code yX1_tone cX1_tone 4 (some .int), Cond.fieldLink RX1 15 "HarmoniumDesk$Score" "upper" "[I", Cond.fieldLink RX1 19 "HarmoniumDesk$Score" "lower" "[I"]
def wsX3_errata : List Cond := .code yX3_errata cX3_errata 5 (some .int) :: ((wsX3_errata_r1 ++ wsX3_errata_r2) ++ wsX20 ++ wsX30 ++ wsX00 ++ wsX10 ++ (vx_atS RX3 118 "java/lang/IndexOutOfBoundsException" ["java/lang/RuntimeException", "java/lang/Exception"]).filter goodWord ++ (vx_atS RX3 89 "java/lang/IllegalStateException" ["java/lang/RuntimeException", "java/lang/Exception"]).filter goodWord)
def wsJ6_bitCount_0f7a4 : List Cond := .code yJ6_bitCount_0f7a4 cJ6_bitCount_0f7a4 1 (some .int) :: ([.constant RJ6 265 (1431655765), .constant RJ6 266 (858993459), .constant RJ6 267 (252645135)])
def wsX3_slip_r1 : List Cond := [Cond.methodLink RX3 147 yX3_findCopy, Cond.instanceMethod yX3_findCopy, Cond.selects RX3 yX3_findCopy yX3_findCopy, Cond.initialized RX3, Cond.code yX3_findCopy cX3_findCopy 3 (some (.object "HarmoniumDesk$Copy")), Cond.classLink RX3 114 "java/lang/IndexOutOfBoundsException", Cond.initialized "java/lang/IndexOutOfBoundsException", Cond.fieldLink RX3 21 "HarmoniumDesk" "copies" "[LHarmoniumDesk$Copy;", Cond.methodLink RX3 63 yX3_findVersion, Cond.instanceMethod yX3_findVersion, Cond.selects RX3 yX3_findVersion yX3_findVersion, Cond.code yX3_findVersion cX3_findVersion 3 (some (.object "HarmoniumDesk$Version")), Cond.fieldLink RX3 11 "HarmoniumDesk" "versions" "[LHarmoniumDesk$Version;", Cond.methodLink RX3 151 yX3_checkAsManyBars, Cond.static yX3_checkAsManyBars, Cond.code yX3_checkAsManyBars cX3_checkAsManyBars 2 none, Cond.classLink RX3 85 "java/lang/IllegalStateException", Cond.initialized "java/lang/IllegalStateException", Cond.methodLink RX3 155 yX0_differingBars, Cond.instanceMethod yX0_differingBars, Cond.selects RX0 yX0_differingBars yX0_differingBars, Cond.initialized RX0, Cond.code yX0_differingBars cX0_differingBars 4 (some .int), Cond.fieldLink RX0 27 "HarmoniumDesk$Copy" "bars" "I"]
def wsX3_slip_r2 : List Cond := [Cond.fieldLink RX0 9 "HarmoniumDesk$Copy" "tones" "[I", Cond.fieldLink RX0 19 "HarmoniumDesk$Copy" "voice" "I", Cond.methodLink RX0 32 yX1_tone, Cond.instanceMethod yX1_tone, Cond.selects RX1 yX1_tone yX1_tone, Cond.initialized RX1, Cond.code yX1_tone cX1_tone 4 (some .int), Cond.fieldLink RX1 15 "HarmoniumDesk$Score" "upper" "[I", Cond.fieldLink RX1 19 "HarmoniumDesk$Score" "lower" "[I", Cond.methodLink RX3 158 yJ6_bitCount_0f7a4, Cond.static yJ6_bitCount_0f7a4, Cond.initialized RJ6, Cond.code yJ6_bitCount_0f7a4 cJ6_bitCount_0f7a4 1 (some .int), Cond.constant RJ6 265 (1431655765), Cond.constant RJ6 266 (858993459), Cond.constant RJ6 267 (252645135), Cond.methodLink RX3 163 yX0_takeVoice, Cond.instanceMethod yX0_takeVoice, Cond.selects RX0 yX0_takeVoice yX0_takeVoice, Cond.code yX0_takeVoice cX0_takeVoice 3 none]
def wsX3_slip : List Cond := .code yX3_slip cX3_slip 6 (some .int) :: ((wsX3_slip_r1 ++ wsX3_slip_r2) ++ wsX20 ++ wsX00 ++ wsX30 ++ wsX10 ++ (vx_atS RX3 118 "java/lang/IndexOutOfBoundsException" ["java/lang/RuntimeException", "java/lang/Exception"]).filter goodWord ++ (vx_atS RX3 89 "java/lang/IllegalStateException" ["java/lang/RuntimeException", "java/lang/Exception"]).filter goodWord)
def wsX3_slips : List Cond := .code yX3_slips cX3_slips 2 (some .int) :: ([.methodLink RX3 147 yX3_findCopy, .instanceMethod yX3_findCopy, .selects RX3 yX3_findCopy yX3_findCopy, .initialized RX3, .code yX3_findCopy cX3_findCopy 3 (some (.object "HarmoniumDesk$Copy")), .classLink RX3 114 "java/lang/IndexOutOfBoundsException", .initialized "java/lang/IndexOutOfBoundsException", .fieldLink RX3 21 "HarmoniumDesk" "copies" "[LHarmoniumDesk$Copy;"] ++ wsX00 ++ wsX30 ++ (vx_atS RX3 118 "java/lang/IndexOutOfBoundsException" ["java/lang/RuntimeException", "java/lang/Exception"]).filter goodWord)
def wsX4_init : List Cond := .code yX4_init cX4_init 2 none :: ([.methodLink RX4 1 objectInit, .instanceMethod objectInit, .code objectInit ⟨#[0xb1]⟩ 1 none, .arrayClass .int, .fieldLink RX4 7 "HarmoniumDeskModel" "bars" "[I", .fieldLink RX4 13 "HarmoniumDeskModel" "parent" "[I", .arrayClass .boolean, .fieldLink RX4 16 "HarmoniumDeskModel" "isFixed" "[Z", .fieldLink RX4 20 "HarmoniumDeskModel" "hasPassed" "[Z", .fieldLink RX4 23 "HarmoniumDeskModel" "notes" "[I", .fieldLink RX4 26 "HarmoniumDeskModel" "weight" "[I", .fieldLink RX4 29 "HarmoniumDeskModel" "pass" "I", .fieldLink RX4 33 "HarmoniumDeskModel" "longs" "[I", .fieldLink RX4 36 "HarmoniumDeskModel" "voiceOf" "[I", .fieldLink RX4 39 "HarmoniumDeskModel" "printed" "[I", .fieldLink RX4 42 "HarmoniumDeskModel" "slips" "[I"] ++ wsX40)
def wsX4_thrown : List Cond := .code yX4_thrown cX4_thrown 1 (some .int) :: ([.fieldLink RX4 45 "HarmoniumDeskModel" "thrown" "I"] ++ wsX40)
def wsX4_fails : List Cond := .code yX4_fails cX4_fails 2 (some .boolean) :: ([.fieldLink RX4 45 "HarmoniumDeskModel" "thrown" "I"] ++ wsX40)
def wsX4_isIn : List Cond := .code yX4_isIn cX4_isIn 3 (some .boolean) :: ([])
def wsX4_isVersion : List Cond := .code yX4_isVersion cX4_isVersion 2 (some .boolean) :: ([.fieldLink RX4 48 "HarmoniumDeskModel" "versions" "I", .methodLink RX4 51 yX4_isIn, .static yX4_isIn, .initialized RX4, .code yX4_isIn cX4_isIn 3 (some .boolean)] ++ wsX40)
def wsX4_isNote : List Cond := .code yX4_isNote cX4_isNote 4 (some .boolean) :: ([.fieldLink RX4 7 "HarmoniumDeskModel" "bars" "[I", .methodLink RX4 55 yX4_isVersion, .instanceMethod yX4_isVersion, .selects RX4 yX4_isVersion yX4_isVersion, .initialized RX4, .code yX4_isVersion cX4_isVersion 2 (some .boolean), .fieldLink RX4 48 "HarmoniumDeskModel" "versions" "I", .methodLink RX4 51 yX4_isIn, .static yX4_isIn, .code yX4_isIn cX4_isIn 3 (some .boolean)] ++ wsX40)
def wsX4_at : List Cond := .code yX4_at cX4_at 3 (some .int) :: ([])
def wsX4_begin : List Cond := .code yX4_begin cX4_begin 3 (some .int) :: ([.fieldLink RX4 48 "HarmoniumDeskModel" "versions" "I", .fieldLink RX4 7 "HarmoniumDeskModel" "bars" "[I", .fieldLink RX4 13 "HarmoniumDeskModel" "parent" "[I", .fieldLink RX4 23 "HarmoniumDeskModel" "notes" "[I", .methodLink RX4 51 yX4_isIn, .static yX4_isIn, .initialized RX4, .code yX4_isIn cX4_isIn 3 (some .boolean), .methodLink RX4 59 yX4_fails, .instanceMethod yX4_fails, .selects RX4 yX4_fails yX4_fails, .code yX4_fails cX4_fails 2 (some .boolean), .fieldLink RX4 45 "HarmoniumDeskModel" "thrown" "I", .methodLink RX4 62 yX4_at, .static yX4_at, .code yX4_at cX4_at 3 (some .int)] ++ wsX40)
def wsX4_makes : List Cond := .code yX4_makes cX4_makes 3 (some .int) :: ([.fieldLink RX4 7 "HarmoniumDeskModel" "bars" "[I", .fieldLink RX4 48 "HarmoniumDeskModel" "versions" "I", .fieldLink RX4 13 "HarmoniumDeskModel" "parent" "[I", .fieldLink RX4 23 "HarmoniumDeskModel" "notes" "[I", .fieldLink RX4 16 "HarmoniumDeskModel" "isFixed" "[Z", .methodLink RX4 62 yX4_at, .static yX4_at, .initialized RX4, .code yX4_at cX4_at 3 (some .int)] ++ wsX40)
def wsX4_branch_r1 : List Cond := [Cond.fieldLink RX4 48 "HarmoniumDeskModel" "versions" "I", Cond.methodLink RX4 55 yX4_isVersion, Cond.instanceMethod yX4_isVersion, Cond.selects RX4 yX4_isVersion yX4_isVersion, Cond.initialized RX4, Cond.code yX4_isVersion cX4_isVersion 2 (some .boolean), Cond.methodLink RX4 51 yX4_isIn, Cond.static yX4_isIn, Cond.code yX4_isIn cX4_isIn 3 (some .boolean), Cond.methodLink RX4 59 yX4_fails, Cond.instanceMethod yX4_fails, Cond.selects RX4 yX4_fails yX4_fails, Cond.code yX4_fails cX4_fails 2 (some .boolean), Cond.fieldLink RX4 45 "HarmoniumDeskModel" "thrown" "I", Cond.methodLink RX4 66 yX4_makes, Cond.instanceMethod yX4_makes, Cond.selects RX4 yX4_makes yX4_makes, Cond.code yX4_makes cX4_makes 3 (some .int), Cond.fieldLink RX4 7 "HarmoniumDeskModel" "bars" "[I", Cond.fieldLink RX4 13 "HarmoniumDeskModel" "parent" "[I", Cond.fieldLink RX4 23 "HarmoniumDeskModel" "notes" "[I", Cond.fieldLink RX4 16 "HarmoniumDeskModel" "isFixed" "[Z", Cond.methodLink RX4 62 yX4_at, Cond.static yX4_at]
def wsX4_branch_r2 : List Cond := [Cond.code yX4_at cX4_at 3 (some .int)]
def wsX4_branch : List Cond := .code yX4_branch cX4_branch 2 (some .int) :: ((wsX4_branch_r1 ++ wsX4_branch_r2) ++ wsX40)
def wsX4_setNote : List Cond := .code yX4_setNote cX4_setNote 7 (some .int) :: ([.fieldLink RX4 16 "HarmoniumDeskModel" "isFixed" "[Z", .fieldLink RX4 23 "HarmoniumDeskModel" "notes" "[I", .methodLink RX4 70 yX4_isNote, .instanceMethod yX4_isNote, .selects RX4 yX4_isNote yX4_isNote, .initialized RX4, .code yX4_isNote cX4_isNote 4 (some .boolean), .fieldLink RX4 7 "HarmoniumDeskModel" "bars" "[I", .methodLink RX4 55 yX4_isVersion, .instanceMethod yX4_isVersion, .selects RX4 yX4_isVersion yX4_isVersion, .code yX4_isVersion cX4_isVersion 2 (some .boolean), .fieldLink RX4 48 "HarmoniumDeskModel" "versions" "I", .methodLink RX4 51 yX4_isIn, .static yX4_isIn, .code yX4_isIn cX4_isIn 3 (some .boolean), .methodLink RX4 59 yX4_fails, .instanceMethod yX4_fails, .selects RX4 yX4_fails yX4_fails, .code yX4_fails cX4_fails 2 (some .boolean), .fieldLink RX4 45 "HarmoniumDeskModel" "thrown" "I", .methodLink RX4 62 yX4_at, .static yX4_at, .code yX4_at cX4_at 3 (some .int)] ++ wsX40)
def wsX4_note : List Cond := .code yX4_note cX4_note 4 (some .int) :: ([.fieldLink RX4 23 "HarmoniumDeskModel" "notes" "[I", .methodLink RX4 70 yX4_isNote, .instanceMethod yX4_isNote, .selects RX4 yX4_isNote yX4_isNote, .initialized RX4, .code yX4_isNote cX4_isNote 4 (some .boolean), .fieldLink RX4 7 "HarmoniumDeskModel" "bars" "[I", .methodLink RX4 55 yX4_isVersion, .instanceMethod yX4_isVersion, .selects RX4 yX4_isVersion yX4_isVersion, .code yX4_isVersion cX4_isVersion 2 (some .boolean), .fieldLink RX4 48 "HarmoniumDeskModel" "versions" "I", .methodLink RX4 51 yX4_isIn, .static yX4_isIn, .code yX4_isIn cX4_isIn 3 (some .boolean), .methodLink RX4 59 yX4_fails, .instanceMethod yX4_fails, .selects RX4 yX4_fails yX4_fails, .code yX4_fails cX4_fails 2 (some .boolean), .fieldLink RX4 45 "HarmoniumDeskModel" "thrown" "I", .methodLink RX4 62 yX4_at, .static yX4_at, .code yX4_at cX4_at 3 (some .int)] ++ wsX40)
def wsX4_isAncestor : List Cond := .code yX4_isAncestor cX4_isAncestor 5 (some .boolean) :: ([.fieldLink RX4 13 "HarmoniumDeskModel" "parent" "[I"] ++ wsX40)
def wsX4_baseOf : List Cond := .code yX4_baseOf cX4_baseOf 5 (some .int) :: ([.fieldLink RX4 48 "HarmoniumDeskModel" "versions" "I", .methodLink RX4 73 yX4_isAncestor, .instanceMethod yX4_isAncestor, .selects RX4 yX4_isAncestor yX4_isAncestor, .initialized RX4, .code yX4_isAncestor cX4_isAncestor 5 (some .boolean), .fieldLink RX4 13 "HarmoniumDeskModel" "parent" "[I"] ++ wsX40)
def wsX4_base : List Cond := .code yX4_base cX4_base 3 (some .int) :: ([.methodLink RX4 55 yX4_isVersion, .instanceMethod yX4_isVersion, .selects RX4 yX4_isVersion yX4_isVersion, .initialized RX4, .code yX4_isVersion cX4_isVersion 2 (some .boolean), .fieldLink RX4 48 "HarmoniumDeskModel" "versions" "I", .methodLink RX4 51 yX4_isIn, .static yX4_isIn, .code yX4_isIn cX4_isIn 3 (some .boolean), .methodLink RX4 59 yX4_fails, .instanceMethod yX4_fails, .selects RX4 yX4_fails yX4_fails, .code yX4_fails cX4_fails 2 (some .boolean), .fieldLink RX4 45 "HarmoniumDeskModel" "thrown" "I", .methodLink RX4 77 yX4_baseOf, .instanceMethod yX4_baseOf, .selects RX4 yX4_baseOf yX4_baseOf, .code yX4_baseOf cX4_baseOf 5 (some .int), .methodLink RX4 73 yX4_isAncestor, .instanceMethod yX4_isAncestor, .selects RX4 yX4_isAncestor yX4_isAncestor, .code yX4_isAncestor cX4_isAncestor 5 (some .boolean), .fieldLink RX4 13 "HarmoniumDeskModel" "parent" "[I"] ++ wsX40)
def wsX4_areAlike : List Cond := .code yX4_areAlike cX4_areAlike 4 (some .boolean) :: ([.fieldLink RX4 23 "HarmoniumDeskModel" "notes" "[I", .methodLink RX4 62 yX4_at, .static yX4_at, .initialized RX4, .code yX4_at cX4_at 3 (some .int)] ++ wsX40)
def wsX4_conflicts_r1 : List Cond := [Cond.fieldLink RX4 7 "HarmoniumDeskModel" "bars" "[I", Cond.methodLink RX4 55 yX4_isVersion, Cond.instanceMethod yX4_isVersion, Cond.selects RX4 yX4_isVersion yX4_isVersion, Cond.initialized RX4, Cond.code yX4_isVersion cX4_isVersion 2 (some .boolean), Cond.fieldLink RX4 48 "HarmoniumDeskModel" "versions" "I", Cond.methodLink RX4 51 yX4_isIn, Cond.static yX4_isIn, Cond.code yX4_isIn cX4_isIn 3 (some .boolean), Cond.methodLink RX4 77 yX4_baseOf, Cond.instanceMethod yX4_baseOf, Cond.selects RX4 yX4_baseOf yX4_baseOf, Cond.code yX4_baseOf cX4_baseOf 5 (some .int), Cond.methodLink RX4 73 yX4_isAncestor, Cond.instanceMethod yX4_isAncestor, Cond.selects RX4 yX4_isAncestor yX4_isAncestor, Cond.code yX4_isAncestor cX4_isAncestor 5 (some .boolean), Cond.fieldLink RX4 13 "HarmoniumDeskModel" "parent" "[I", Cond.methodLink RX4 59 yX4_fails, Cond.instanceMethod yX4_fails, Cond.selects RX4 yX4_fails yX4_fails, Cond.code yX4_fails cX4_fails 2 (some .boolean), Cond.fieldLink RX4 45 "HarmoniumDeskModel" "thrown" "I"]
def wsX4_conflicts_r2 : List Cond := [Cond.methodLink RX4 81 yX4_areAlike, Cond.instanceMethod yX4_areAlike, Cond.selects RX4 yX4_areAlike yX4_areAlike, Cond.code yX4_areAlike cX4_areAlike 4 (some .boolean), Cond.fieldLink RX4 23 "HarmoniumDeskModel" "notes" "[I", Cond.methodLink RX4 62 yX4_at, Cond.static yX4_at, Cond.code yX4_at cX4_at 3 (some .int)]
def wsX4_conflicts : List Cond := .code yX4_conflicts cX4_conflicts 7 (some .int) :: ((wsX4_conflicts_r1 ++ wsX4_conflicts_r2) ++ wsX40)
def wsX4_merge_r1 : List Cond := [Cond.fieldLink RX4 48 "HarmoniumDeskModel" "versions" "I", Cond.fieldLink RX4 16 "HarmoniumDeskModel" "isFixed" "[Z", Cond.fieldLink RX4 7 "HarmoniumDeskModel" "bars" "[I", Cond.fieldLink RX4 23 "HarmoniumDeskModel" "notes" "[I", Cond.methodLink RX4 55 yX4_isVersion, Cond.instanceMethod yX4_isVersion, Cond.selects RX4 yX4_isVersion yX4_isVersion, Cond.initialized RX4, Cond.code yX4_isVersion cX4_isVersion 2 (some .boolean), Cond.methodLink RX4 51 yX4_isIn, Cond.static yX4_isIn, Cond.code yX4_isIn cX4_isIn 3 (some .boolean), Cond.methodLink RX4 77 yX4_baseOf, Cond.instanceMethod yX4_baseOf, Cond.selects RX4 yX4_baseOf yX4_baseOf, Cond.code yX4_baseOf cX4_baseOf 5 (some .int), Cond.methodLink RX4 73 yX4_isAncestor, Cond.instanceMethod yX4_isAncestor, Cond.selects RX4 yX4_isAncestor yX4_isAncestor, Cond.code yX4_isAncestor cX4_isAncestor 5 (some .boolean), Cond.fieldLink RX4 13 "HarmoniumDeskModel" "parent" "[I", Cond.methodLink RX4 59 yX4_fails, Cond.instanceMethod yX4_fails, Cond.selects RX4 yX4_fails yX4_fails]
def wsX4_merge_r2 : List Cond := [Cond.code yX4_fails cX4_fails 2 (some .boolean), Cond.fieldLink RX4 45 "HarmoniumDeskModel" "thrown" "I", Cond.methodLink RX4 66 yX4_makes, Cond.instanceMethod yX4_makes, Cond.selects RX4 yX4_makes yX4_makes, Cond.code yX4_makes cX4_makes 3 (some .int), Cond.methodLink RX4 62 yX4_at, Cond.static yX4_at, Cond.code yX4_at cX4_at 3 (some .int), Cond.methodLink RX4 81 yX4_areAlike, Cond.instanceMethod yX4_areAlike, Cond.selects RX4 yX4_areAlike yX4_areAlike, Cond.code yX4_areAlike cX4_areAlike 4 (some .boolean)]
def wsX4_merge : List Cond := .code yX4_merge cX4_merge 7 (some .int) :: ((wsX4_merge_r1 ++ wsX4_merge_r2) ++ wsX40)
def wsX4_setWeight : List Cond := .code yX4_setWeight cX4_setWeight 5 (some .int) :: ([.fieldLink RX4 26 "HarmoniumDeskModel" "weight" "[I", .methodLink RX4 51 yX4_isIn, .static yX4_isIn, .initialized RX4, .code yX4_isIn cX4_isIn 3 (some .boolean), .methodLink RX4 59 yX4_fails, .instanceMethod yX4_fails, .selects RX4 yX4_fails yX4_fails, .code yX4_fails cX4_fails 2 (some .boolean), .fieldLink RX4 45 "HarmoniumDeskModel" "thrown" "I"] ++ wsX40)
def wsX4_setPass : List Cond := .code yX4_setPass cX4_setPass 3 (some .int) :: ([.fieldLink RX4 29 "HarmoniumDeskModel" "pass" "I", .methodLink RX4 51 yX4_isIn, .static yX4_isIn, .initialized RX4, .code yX4_isIn cX4_isIn 3 (some .boolean), .methodLink RX4 59 yX4_fails, .instanceMethod yX4_fails, .selects RX4 yX4_fails yX4_fails, .code yX4_fails cX4_fails 2 (some .boolean), .fieldLink RX4 45 "HarmoniumDeskModel" "thrown" "I"] ++ wsX40)
def wsX4_away : List Cond := .code yX4_away cX4_away 2 (some .int) :: ([])
def wsX4_interval : List Cond := .code yX4_interval cX4_interval 3 (some .int) :: ([.fieldLink RX4 23 "HarmoniumDeskModel" "notes" "[I", .methodLink RX4 62 yX4_at, .static yX4_at, .initialized RX4, .code yX4_at cX4_at 3 (some .int), .methodLink RX4 84 yX4_away, .static yX4_away, .code yX4_away cX4_away 2 (some .int)] ++ wsX40)
def wsX4_stays : List Cond := .code yX4_stays cX4_stays 4 (some .boolean) :: ([.fieldLink RX4 23 "HarmoniumDeskModel" "notes" "[I", .methodLink RX4 62 yX4_at, .static yX4_at, .initialized RX4, .code yX4_at cX4_at 3 (some .int)] ++ wsX40)
def wsX4_leap : List Cond := .code yX4_leap cX4_leap 4 (some .int) :: ([.fieldLink RX4 23 "HarmoniumDeskModel" "notes" "[I", .methodLink RX4 62 yX4_at, .static yX4_at, .initialized RX4, .code yX4_at cX4_at 3 (some .int), .methodLink RX4 84 yX4_away, .static yX4_away, .code yX4_away cX4_away 2 (some .int)] ++ wsX40)
def wsX4_faultsAt : List Cond := .code yX4_faultsAt cX4_faultsAt 6 (some .int) :: ([.fieldLink RX4 23 "HarmoniumDeskModel" "notes" "[I", .fieldLink RX4 7 "HarmoniumDeskModel" "bars" "[I", .methodLink RX4 87 yX4_interval, .instanceMethod yX4_interval, .selects RX4 yX4_interval yX4_interval, .initialized RX4, .code yX4_interval cX4_interval 3 (some .int), .methodLink RX4 62 yX4_at, .static yX4_at, .code yX4_at cX4_at 3 (some .int), .methodLink RX4 84 yX4_away, .static yX4_away, .code yX4_away cX4_away 2 (some .int), .methodLink RX4 90 yX4_stays, .instanceMethod yX4_stays, .selects RX4 yX4_stays yX4_stays, .code yX4_stays cX4_stays 4 (some .boolean), .methodLink RX4 93 yX4_leap, .instanceMethod yX4_leap, .selects RX4 yX4_leap yX4_leap, .code yX4_leap cX4_leap 4 (some .int)] ++ wsX40)
def wsX4_faults_r1 : List Cond := [Cond.methodLink RX4 70 yX4_isNote, Cond.instanceMethod yX4_isNote, Cond.selects RX4 yX4_isNote yX4_isNote, Cond.initialized RX4, Cond.code yX4_isNote cX4_isNote 4 (some .boolean), Cond.fieldLink RX4 7 "HarmoniumDeskModel" "bars" "[I", Cond.methodLink RX4 55 yX4_isVersion, Cond.instanceMethod yX4_isVersion, Cond.selects RX4 yX4_isVersion yX4_isVersion, Cond.code yX4_isVersion cX4_isVersion 2 (some .boolean), Cond.fieldLink RX4 48 "HarmoniumDeskModel" "versions" "I", Cond.methodLink RX4 51 yX4_isIn, Cond.static yX4_isIn, Cond.code yX4_isIn cX4_isIn 3 (some .boolean), Cond.methodLink RX4 59 yX4_fails, Cond.instanceMethod yX4_fails, Cond.selects RX4 yX4_fails yX4_fails, Cond.code yX4_fails cX4_fails 2 (some .boolean), Cond.fieldLink RX4 45 "HarmoniumDeskModel" "thrown" "I", Cond.methodLink RX4 96 yX4_faultsAt, Cond.instanceMethod yX4_faultsAt, Cond.selects RX4 yX4_faultsAt yX4_faultsAt, Cond.code yX4_faultsAt cX4_faultsAt 6 (some .int), Cond.fieldLink RX4 23 "HarmoniumDeskModel" "notes" "[I"]
def wsX4_faults_r2 : List Cond := [Cond.methodLink RX4 87 yX4_interval, Cond.instanceMethod yX4_interval, Cond.selects RX4 yX4_interval yX4_interval, Cond.code yX4_interval cX4_interval 3 (some .int), Cond.methodLink RX4 62 yX4_at, Cond.static yX4_at, Cond.code yX4_at cX4_at 3 (some .int), Cond.methodLink RX4 84 yX4_away, Cond.static yX4_away, Cond.code yX4_away cX4_away 2 (some .int), Cond.methodLink RX4 90 yX4_stays, Cond.instanceMethod yX4_stays, Cond.selects RX4 yX4_stays yX4_stays, Cond.code yX4_stays cX4_stays 4 (some .boolean), Cond.methodLink RX4 93 yX4_leap, Cond.instanceMethod yX4_leap, Cond.selects RX4 yX4_leap yX4_leap, Cond.code yX4_leap cX4_leap 4 (some .int)]
def wsX4_faults : List Cond := .code yX4_faults cX4_faults 5 (some .int) :: ((wsX4_faults_r1 ++ wsX4_faults_r2) ++ wsX40)
def wsX4_costs_r1 : List Cond := [Cond.fieldLink RX4 7 "HarmoniumDeskModel" "bars" "[I", Cond.fieldLink RX4 26 "HarmoniumDeskModel" "weight" "[I", Cond.methodLink RX4 96 yX4_faultsAt, Cond.instanceMethod yX4_faultsAt, Cond.selects RX4 yX4_faultsAt yX4_faultsAt, Cond.initialized RX4, Cond.code yX4_faultsAt cX4_faultsAt 6 (some .int), Cond.fieldLink RX4 23 "HarmoniumDeskModel" "notes" "[I", Cond.methodLink RX4 87 yX4_interval, Cond.instanceMethod yX4_interval, Cond.selects RX4 yX4_interval yX4_interval, Cond.code yX4_interval cX4_interval 3 (some .int), Cond.methodLink RX4 62 yX4_at, Cond.static yX4_at, Cond.code yX4_at cX4_at 3 (some .int), Cond.methodLink RX4 84 yX4_away, Cond.static yX4_away, Cond.code yX4_away cX4_away 2 (some .int), Cond.methodLink RX4 90 yX4_stays, Cond.instanceMethod yX4_stays, Cond.selects RX4 yX4_stays yX4_stays, Cond.code yX4_stays cX4_stays 4 (some .boolean), Cond.methodLink RX4 93 yX4_leap, Cond.instanceMethod yX4_leap]
def wsX4_costs_r2 : List Cond := [Cond.selects RX4 yX4_leap yX4_leap, Cond.code yX4_leap cX4_leap 4 (some .int)]
def wsX4_costs : List Cond := .code yX4_costs cX4_costs 4 (some .int) :: ((wsX4_costs_r1 ++ wsX4_costs_r2) ++ wsX40)
def wsX4_markOf_r1 : List Cond := [Cond.methodLink RX4 99 yX4_costs, Cond.instanceMethod yX4_costs, Cond.selects RX4 yX4_costs yX4_costs, Cond.initialized RX4, Cond.code yX4_costs cX4_costs 4 (some .int), Cond.fieldLink RX4 7 "HarmoniumDeskModel" "bars" "[I", Cond.fieldLink RX4 26 "HarmoniumDeskModel" "weight" "[I", Cond.methodLink RX4 96 yX4_faultsAt, Cond.instanceMethod yX4_faultsAt, Cond.selects RX4 yX4_faultsAt yX4_faultsAt, Cond.code yX4_faultsAt cX4_faultsAt 6 (some .int), Cond.fieldLink RX4 23 "HarmoniumDeskModel" "notes" "[I", Cond.methodLink RX4 87 yX4_interval, Cond.instanceMethod yX4_interval, Cond.selects RX4 yX4_interval yX4_interval, Cond.code yX4_interval cX4_interval 3 (some .int), Cond.methodLink RX4 62 yX4_at, Cond.static yX4_at, Cond.code yX4_at cX4_at 3 (some .int), Cond.methodLink RX4 84 yX4_away, Cond.static yX4_away, Cond.code yX4_away cX4_away 2 (some .int), Cond.methodLink RX4 90 yX4_stays, Cond.instanceMethod yX4_stays]
def wsX4_markOf_r2 : List Cond := [Cond.selects RX4 yX4_stays yX4_stays, Cond.code yX4_stays cX4_stays 4 (some .boolean), Cond.methodLink RX4 93 yX4_leap, Cond.instanceMethod yX4_leap, Cond.selects RX4 yX4_leap yX4_leap, Cond.code yX4_leap cX4_leap 4 (some .int)]
def wsX4_markOf : List Cond := .code yX4_markOf cX4_markOf 2 (some .int) :: ((wsX4_markOf_r1 ++ wsX4_markOf_r2) ++ wsX40)
def wsX4_mark_r1 : List Cond := [Cond.methodLink RX4 55 yX4_isVersion, Cond.instanceMethod yX4_isVersion, Cond.selects RX4 yX4_isVersion yX4_isVersion, Cond.initialized RX4, Cond.code yX4_isVersion cX4_isVersion 2 (some .boolean), Cond.fieldLink RX4 48 "HarmoniumDeskModel" "versions" "I", Cond.methodLink RX4 51 yX4_isIn, Cond.static yX4_isIn, Cond.code yX4_isIn cX4_isIn 3 (some .boolean), Cond.methodLink RX4 59 yX4_fails, Cond.instanceMethod yX4_fails, Cond.selects RX4 yX4_fails yX4_fails, Cond.code yX4_fails cX4_fails 2 (some .boolean), Cond.fieldLink RX4 45 "HarmoniumDeskModel" "thrown" "I", Cond.methodLink RX4 102 yX4_markOf, Cond.instanceMethod yX4_markOf, Cond.selects RX4 yX4_markOf yX4_markOf, Cond.code yX4_markOf cX4_markOf 2 (some .int), Cond.methodLink RX4 99 yX4_costs, Cond.instanceMethod yX4_costs, Cond.selects RX4 yX4_costs yX4_costs, Cond.code yX4_costs cX4_costs 4 (some .int), Cond.fieldLink RX4 7 "HarmoniumDeskModel" "bars" "[I", Cond.fieldLink RX4 26 "HarmoniumDeskModel" "weight" "[I"]
def wsX4_mark_r2 : List Cond := [Cond.methodLink RX4 96 yX4_faultsAt, Cond.instanceMethod yX4_faultsAt, Cond.selects RX4 yX4_faultsAt yX4_faultsAt, Cond.code yX4_faultsAt cX4_faultsAt 6 (some .int), Cond.fieldLink RX4 23 "HarmoniumDeskModel" "notes" "[I", Cond.methodLink RX4 87 yX4_interval, Cond.instanceMethod yX4_interval, Cond.selects RX4 yX4_interval yX4_interval, Cond.code yX4_interval cX4_interval 3 (some .int), Cond.methodLink RX4 62 yX4_at, Cond.static yX4_at, Cond.code yX4_at cX4_at 3 (some .int), Cond.methodLink RX4 84 yX4_away, Cond.static yX4_away, Cond.code yX4_away cX4_away 2 (some .int), Cond.methodLink RX4 90 yX4_stays, Cond.instanceMethod yX4_stays, Cond.selects RX4 yX4_stays yX4_stays, Cond.code yX4_stays cX4_stays 4 (some .boolean), Cond.methodLink RX4 93 yX4_leap, Cond.instanceMethod yX4_leap, Cond.selects RX4 yX4_leap yX4_leap, Cond.code yX4_leap cX4_leap 4 (some .int)]
def wsX4_mark : List Cond := .code yX4_mark cX4_mark 2 (some .int) :: ((wsX4_mark_r1 ++ wsX4_mark_r2) ++ wsX40)
def wsX4_handIn_r1 : List Cond := [Cond.fieldLink RX4 20 "HarmoniumDeskModel" "hasPassed" "[Z", Cond.fieldLink RX4 29 "HarmoniumDeskModel" "pass" "I", Cond.methodLink RX4 55 yX4_isVersion, Cond.instanceMethod yX4_isVersion, Cond.selects RX4 yX4_isVersion yX4_isVersion, Cond.initialized RX4, Cond.code yX4_isVersion cX4_isVersion 2 (some .boolean), Cond.fieldLink RX4 48 "HarmoniumDeskModel" "versions" "I", Cond.methodLink RX4 51 yX4_isIn, Cond.static yX4_isIn, Cond.code yX4_isIn cX4_isIn 3 (some .boolean), Cond.methodLink RX4 59 yX4_fails, Cond.instanceMethod yX4_fails, Cond.selects RX4 yX4_fails yX4_fails, Cond.code yX4_fails cX4_fails 2 (some .boolean), Cond.fieldLink RX4 45 "HarmoniumDeskModel" "thrown" "I", Cond.methodLink RX4 102 yX4_markOf, Cond.instanceMethod yX4_markOf, Cond.selects RX4 yX4_markOf yX4_markOf, Cond.code yX4_markOf cX4_markOf 2 (some .int), Cond.methodLink RX4 99 yX4_costs, Cond.instanceMethod yX4_costs, Cond.selects RX4 yX4_costs yX4_costs, Cond.code yX4_costs cX4_costs 4 (some .int)]
def wsX4_handIn_r2 : List Cond := [Cond.fieldLink RX4 7 "HarmoniumDeskModel" "bars" "[I", Cond.fieldLink RX4 26 "HarmoniumDeskModel" "weight" "[I", Cond.methodLink RX4 96 yX4_faultsAt, Cond.instanceMethod yX4_faultsAt, Cond.selects RX4 yX4_faultsAt yX4_faultsAt, Cond.code yX4_faultsAt cX4_faultsAt 6 (some .int), Cond.fieldLink RX4 23 "HarmoniumDeskModel" "notes" "[I", Cond.methodLink RX4 87 yX4_interval, Cond.instanceMethod yX4_interval, Cond.selects RX4 yX4_interval yX4_interval, Cond.code yX4_interval cX4_interval 3 (some .int), Cond.methodLink RX4 62 yX4_at, Cond.static yX4_at, Cond.code yX4_at cX4_at 3 (some .int), Cond.methodLink RX4 84 yX4_away, Cond.static yX4_away, Cond.code yX4_away cX4_away 2 (some .int), Cond.methodLink RX4 90 yX4_stays, Cond.instanceMethod yX4_stays, Cond.selects RX4 yX4_stays yX4_stays, Cond.code yX4_stays cX4_stays 4 (some .boolean), Cond.methodLink RX4 93 yX4_leap, Cond.instanceMethod yX4_leap, Cond.selects RX4 yX4_leap yX4_leap]
def wsX4_handIn_r3 : List Cond := [Cond.code yX4_leap cX4_leap 4 (some .int)]
def wsX4_handIn : List Cond := .code yX4_handIn cX4_handIn 2 (some .boolean) :: ((wsX4_handIn_r1 ++ (wsX4_handIn_r2 ++ wsX4_handIn_r3)) ++ wsX40)
def wsX4_fallen_r1 : List Cond := [Cond.fieldLink RX4 45 "HarmoniumDeskModel" "thrown" "I", Cond.fieldLink RX4 48 "HarmoniumDeskModel" "versions" "I", Cond.fieldLink RX4 20 "HarmoniumDeskModel" "hasPassed" "[Z", Cond.fieldLink RX4 29 "HarmoniumDeskModel" "pass" "I", Cond.methodLink RX4 102 yX4_markOf, Cond.instanceMethod yX4_markOf, Cond.selects RX4 yX4_markOf yX4_markOf, Cond.initialized RX4, Cond.code yX4_markOf cX4_markOf 2 (some .int), Cond.methodLink RX4 99 yX4_costs, Cond.instanceMethod yX4_costs, Cond.selects RX4 yX4_costs yX4_costs, Cond.code yX4_costs cX4_costs 4 (some .int), Cond.fieldLink RX4 7 "HarmoniumDeskModel" "bars" "[I", Cond.fieldLink RX4 26 "HarmoniumDeskModel" "weight" "[I", Cond.methodLink RX4 96 yX4_faultsAt, Cond.instanceMethod yX4_faultsAt, Cond.selects RX4 yX4_faultsAt yX4_faultsAt, Cond.code yX4_faultsAt cX4_faultsAt 6 (some .int), Cond.fieldLink RX4 23 "HarmoniumDeskModel" "notes" "[I", Cond.methodLink RX4 87 yX4_interval, Cond.instanceMethod yX4_interval, Cond.selects RX4 yX4_interval yX4_interval, Cond.code yX4_interval cX4_interval 3 (some .int)]
def wsX4_fallen_r2 : List Cond := [Cond.methodLink RX4 62 yX4_at, Cond.static yX4_at, Cond.code yX4_at cX4_at 3 (some .int), Cond.methodLink RX4 84 yX4_away, Cond.static yX4_away, Cond.code yX4_away cX4_away 2 (some .int), Cond.methodLink RX4 90 yX4_stays, Cond.instanceMethod yX4_stays, Cond.selects RX4 yX4_stays yX4_stays, Cond.code yX4_stays cX4_stays 4 (some .boolean), Cond.methodLink RX4 93 yX4_leap, Cond.instanceMethod yX4_leap, Cond.selects RX4 yX4_leap yX4_leap, Cond.code yX4_leap cX4_leap 4 (some .int)]
def wsX4_fallen : List Cond := .code yX4_fallen cX4_fallen 3 (some .int) :: ((wsX4_fallen_r1 ++ wsX4_fallen_r2) ++ wsX40)
def wsX4_best_r1 : List Cond := [Cond.fieldLink RX4 23 "HarmoniumDeskModel" "notes" "[I", Cond.methodLink RX4 70 yX4_isNote, Cond.instanceMethod yX4_isNote, Cond.selects RX4 yX4_isNote yX4_isNote, Cond.initialized RX4, Cond.code yX4_isNote cX4_isNote 4 (some .boolean), Cond.fieldLink RX4 7 "HarmoniumDeskModel" "bars" "[I", Cond.methodLink RX4 55 yX4_isVersion, Cond.instanceMethod yX4_isVersion, Cond.selects RX4 yX4_isVersion yX4_isVersion, Cond.code yX4_isVersion cX4_isVersion 2 (some .boolean), Cond.fieldLink RX4 48 "HarmoniumDeskModel" "versions" "I", Cond.methodLink RX4 51 yX4_isIn, Cond.static yX4_isIn, Cond.code yX4_isIn cX4_isIn 3 (some .boolean), Cond.methodLink RX4 59 yX4_fails, Cond.instanceMethod yX4_fails, Cond.selects RX4 yX4_fails yX4_fails, Cond.code yX4_fails cX4_fails 2 (some .boolean), Cond.fieldLink RX4 45 "HarmoniumDeskModel" "thrown" "I", Cond.methodLink RX4 62 yX4_at, Cond.static yX4_at, Cond.code yX4_at cX4_at 3 (some .int), Cond.methodLink RX4 99 yX4_costs]
def wsX4_best_r2 : List Cond := [Cond.instanceMethod yX4_costs, Cond.selects RX4 yX4_costs yX4_costs, Cond.code yX4_costs cX4_costs 4 (some .int), Cond.fieldLink RX4 26 "HarmoniumDeskModel" "weight" "[I", Cond.methodLink RX4 96 yX4_faultsAt, Cond.instanceMethod yX4_faultsAt, Cond.selects RX4 yX4_faultsAt yX4_faultsAt, Cond.code yX4_faultsAt cX4_faultsAt 6 (some .int), Cond.methodLink RX4 87 yX4_interval, Cond.instanceMethod yX4_interval, Cond.selects RX4 yX4_interval yX4_interval, Cond.code yX4_interval cX4_interval 3 (some .int), Cond.methodLink RX4 84 yX4_away, Cond.static yX4_away, Cond.code yX4_away cX4_away 2 (some .int), Cond.methodLink RX4 90 yX4_stays, Cond.instanceMethod yX4_stays, Cond.selects RX4 yX4_stays yX4_stays, Cond.code yX4_stays cX4_stays 4 (some .boolean), Cond.methodLink RX4 93 yX4_leap, Cond.instanceMethod yX4_leap, Cond.selects RX4 yX4_leap yX4_leap, Cond.code yX4_leap cX4_leap 4 (some .int)]
def wsX4_best : List Cond := .code yX4_best cX4_best 10 (some .int) :: ((wsX4_best_r1 ++ wsX4_best_r2) ++ wsX40)
def wsX4_movement_r1 : List Cond := [Cond.fieldLink RX4 7 "HarmoniumDeskModel" "bars" "[I", Cond.fieldLink RX4 23 "HarmoniumDeskModel" "notes" "[I", Cond.methodLink RX4 70 yX4_isNote, Cond.instanceMethod yX4_isNote, Cond.selects RX4 yX4_isNote yX4_isNote, Cond.initialized RX4, Cond.code yX4_isNote cX4_isNote 4 (some .boolean), Cond.methodLink RX4 55 yX4_isVersion, Cond.instanceMethod yX4_isVersion, Cond.selects RX4 yX4_isVersion yX4_isVersion, Cond.code yX4_isVersion cX4_isVersion 2 (some .boolean), Cond.fieldLink RX4 48 "HarmoniumDeskModel" "versions" "I", Cond.methodLink RX4 51 yX4_isIn, Cond.static yX4_isIn, Cond.code yX4_isIn cX4_isIn 3 (some .boolean), Cond.methodLink RX4 59 yX4_fails, Cond.instanceMethod yX4_fails, Cond.selects RX4 yX4_fails yX4_fails, Cond.code yX4_fails cX4_fails 2 (some .boolean), Cond.fieldLink RX4 45 "HarmoniumDeskModel" "thrown" "I", Cond.methodLink RX4 62 yX4_at, Cond.static yX4_at, Cond.code yX4_at cX4_at 3 (some .int), Cond.methodLink RX4 84 yX4_away]
def wsX4_movement_r2 : List Cond := [Cond.static yX4_away, Cond.code yX4_away cX4_away 2 (some .int)]
def wsX4_movement : List Cond := .code yX4_movement cX4_movement 5 (some .float) :: ((wsX4_movement_r1 ++ wsX4_movement_r2) ++ wsX40)
def wsX4_isCopy : List Cond := .code yX4_isCopy cX4_isCopy 2 (some .boolean) :: ([.fieldLink RX4 105 "HarmoniumDeskModel" "copies" "I", .methodLink RX4 51 yX4_isIn, .static yX4_isIn, .initialized RX4, .code yX4_isIn cX4_isIn 3 (some .boolean)] ++ wsX40)
def wsX4_print_r1 : List Cond := [Cond.fieldLink RX4 105 "HarmoniumDeskModel" "copies" "I", Cond.fieldLink RX4 16 "HarmoniumDeskModel" "isFixed" "[Z", Cond.fieldLink RX4 33 "HarmoniumDeskModel" "longs" "[I", Cond.fieldLink RX4 7 "HarmoniumDeskModel" "bars" "[I", Cond.fieldLink RX4 36 "HarmoniumDeskModel" "voiceOf" "[I", Cond.fieldLink RX4 39 "HarmoniumDeskModel" "printed" "[I", Cond.fieldLink RX4 23 "HarmoniumDeskModel" "notes" "[I", Cond.methodLink RX4 70 yX4_isNote, Cond.instanceMethod yX4_isNote, Cond.selects RX4 yX4_isNote yX4_isNote, Cond.initialized RX4, Cond.code yX4_isNote cX4_isNote 4 (some .boolean), Cond.methodLink RX4 55 yX4_isVersion, Cond.instanceMethod yX4_isVersion, Cond.selects RX4 yX4_isVersion yX4_isVersion, Cond.code yX4_isVersion cX4_isVersion 2 (some .boolean), Cond.fieldLink RX4 48 "HarmoniumDeskModel" "versions" "I", Cond.methodLink RX4 51 yX4_isIn, Cond.static yX4_isIn, Cond.code yX4_isIn cX4_isIn 3 (some .boolean), Cond.methodLink RX4 59 yX4_fails, Cond.instanceMethod yX4_fails, Cond.selects RX4 yX4_fails yX4_fails, Cond.code yX4_fails cX4_fails 2 (some .boolean)]
def wsX4_print_r2 : List Cond := [Cond.fieldLink RX4 45 "HarmoniumDeskModel" "thrown" "I", Cond.methodLink RX4 62 yX4_at, Cond.static yX4_at, Cond.code yX4_at cX4_at 3 (some .int)]
def wsX4_print : List Cond := .code yX4_print cX4_print 5 (some .int) :: ((wsX4_print_r1 ++ wsX4_print_r2) ++ wsX40)
def wsX4_differs : List Cond := .code yX4_differs cX4_differs 5 (some .int) :: ([.fieldLink RX4 7 "HarmoniumDeskModel" "bars" "[I", .fieldLink RX4 39 "HarmoniumDeskModel" "printed" "[I", .fieldLink RX4 23 "HarmoniumDeskModel" "notes" "[I", .fieldLink RX4 36 "HarmoniumDeskModel" "voiceOf" "[I", .methodLink RX4 62 yX4_at, .static yX4_at, .initialized RX4, .code yX4_at cX4_at 3 (some .int)] ++ wsX40)
def wsX4_misses : List Cond := .code yX4_misses cX4_misses 3 (some .int) :: ([.fieldLink RX4 7 "HarmoniumDeskModel" "bars" "[I", .fieldLink RX4 33 "HarmoniumDeskModel" "longs" "[I", .methodLink RX4 108 yX4_isCopy, .instanceMethod yX4_isCopy, .selects RX4 yX4_isCopy yX4_isCopy, .initialized RX4, .code yX4_isCopy cX4_isCopy 2 (some .boolean), .fieldLink RX4 105 "HarmoniumDeskModel" "copies" "I", .methodLink RX4 51 yX4_isIn, .static yX4_isIn, .code yX4_isIn cX4_isIn 3 (some .boolean), .methodLink RX4 55 yX4_isVersion, .instanceMethod yX4_isVersion, .selects RX4 yX4_isVersion yX4_isVersion, .code yX4_isVersion cX4_isVersion 2 (some .boolean), .fieldLink RX4 48 "HarmoniumDeskModel" "versions" "I"] ++ wsX40)
def wsX4_errata_r1 : List Cond := [Cond.methodLink RX4 111 yX4_misses, Cond.instanceMethod yX4_misses, Cond.selects RX4 yX4_misses yX4_misses, Cond.initialized RX4, Cond.code yX4_misses cX4_misses 3 (some .int), Cond.fieldLink RX4 7 "HarmoniumDeskModel" "bars" "[I", Cond.fieldLink RX4 33 "HarmoniumDeskModel" "longs" "[I", Cond.methodLink RX4 108 yX4_isCopy, Cond.instanceMethod yX4_isCopy, Cond.selects RX4 yX4_isCopy yX4_isCopy, Cond.code yX4_isCopy cX4_isCopy 2 (some .boolean), Cond.fieldLink RX4 105 "HarmoniumDeskModel" "copies" "I", Cond.methodLink RX4 51 yX4_isIn, Cond.static yX4_isIn, Cond.code yX4_isIn cX4_isIn 3 (some .boolean), Cond.methodLink RX4 55 yX4_isVersion, Cond.instanceMethod yX4_isVersion, Cond.selects RX4 yX4_isVersion yX4_isVersion, Cond.code yX4_isVersion cX4_isVersion 2 (some .boolean), Cond.fieldLink RX4 48 "HarmoniumDeskModel" "versions" "I", Cond.methodLink RX4 59 yX4_fails, Cond.instanceMethod yX4_fails, Cond.selects RX4 yX4_fails yX4_fails, Cond.code yX4_fails cX4_fails 2 (some .boolean)]
def wsX4_errata_r2 : List Cond := [Cond.fieldLink RX4 45 "HarmoniumDeskModel" "thrown" "I", Cond.methodLink RX4 114 yX4_differs, Cond.instanceMethod yX4_differs, Cond.selects RX4 yX4_differs yX4_differs, Cond.code yX4_differs cX4_differs 5 (some .int), Cond.fieldLink RX4 39 "HarmoniumDeskModel" "printed" "[I", Cond.fieldLink RX4 23 "HarmoniumDeskModel" "notes" "[I", Cond.fieldLink RX4 36 "HarmoniumDeskModel" "voiceOf" "[I", Cond.methodLink RX4 62 yX4_at, Cond.static yX4_at, Cond.code yX4_at cX4_at 3 (some .int)]
def wsX4_errata : List Cond := .code yX4_errata cX4_errata 3 (some .int) :: ((wsX4_errata_r1 ++ wsX4_errata_r2) ++ wsX40)
def wsX4_slip_r1 : List Cond := [Cond.fieldLink RX4 7 "HarmoniumDeskModel" "bars" "[I", Cond.fieldLink RX4 39 "HarmoniumDeskModel" "printed" "[I", Cond.fieldLink RX4 23 "HarmoniumDeskModel" "notes" "[I", Cond.fieldLink RX4 36 "HarmoniumDeskModel" "voiceOf" "[I", Cond.fieldLink RX4 42 "HarmoniumDeskModel" "slips" "[I", Cond.methodLink RX4 111 yX4_misses, Cond.instanceMethod yX4_misses, Cond.selects RX4 yX4_misses yX4_misses, Cond.initialized RX4, Cond.code yX4_misses cX4_misses 3 (some .int), Cond.fieldLink RX4 33 "HarmoniumDeskModel" "longs" "[I", Cond.methodLink RX4 108 yX4_isCopy, Cond.instanceMethod yX4_isCopy, Cond.selects RX4 yX4_isCopy yX4_isCopy, Cond.code yX4_isCopy cX4_isCopy 2 (some .boolean), Cond.fieldLink RX4 105 "HarmoniumDeskModel" "copies" "I", Cond.methodLink RX4 51 yX4_isIn, Cond.static yX4_isIn, Cond.code yX4_isIn cX4_isIn 3 (some .boolean), Cond.methodLink RX4 55 yX4_isVersion, Cond.instanceMethod yX4_isVersion, Cond.selects RX4 yX4_isVersion yX4_isVersion, Cond.code yX4_isVersion cX4_isVersion 2 (some .boolean), Cond.fieldLink RX4 48 "HarmoniumDeskModel" "versions" "I"]
def wsX4_slip_r2 : List Cond := [Cond.methodLink RX4 59 yX4_fails, Cond.instanceMethod yX4_fails, Cond.selects RX4 yX4_fails yX4_fails, Cond.code yX4_fails cX4_fails 2 (some .boolean), Cond.fieldLink RX4 45 "HarmoniumDeskModel" "thrown" "I", Cond.methodLink RX4 114 yX4_differs, Cond.instanceMethod yX4_differs, Cond.selects RX4 yX4_differs yX4_differs, Cond.code yX4_differs cX4_differs 5 (some .int), Cond.methodLink RX4 62 yX4_at, Cond.static yX4_at, Cond.code yX4_at cX4_at 3 (some .int)]
def wsX4_slip : List Cond := .code yX4_slip cX4_slip 6 (some .int) :: ((wsX4_slip_r1 ++ wsX4_slip_r2) ++ wsX40)
def wsX4_slips : List Cond := .code yX4_slips cX4_slips 2 (some .int) :: ([.fieldLink RX4 42 "HarmoniumDeskModel" "slips" "[I", .methodLink RX4 108 yX4_isCopy, .instanceMethod yX4_isCopy, .selects RX4 yX4_isCopy yX4_isCopy, .initialized RX4, .code yX4_isCopy cX4_isCopy 2 (some .boolean), .fieldLink RX4 105 "HarmoniumDeskModel" "copies" "I", .methodLink RX4 51 yX4_isIn, .static yX4_isIn, .code yX4_isIn cX4_isIn 3 (some .boolean), .methodLink RX4 59 yX4_fails, .instanceMethod yX4_fails, .selects RX4 yX4_fails yX4_fails, .code yX4_fails cX4_fails 2 (some .boolean), .fieldLink RX4 45 "HarmoniumDeskModel" "thrown" "I"] ++ wsX40)
def wsJ9_abs_0f7a4 : List Cond := .code yJ9_abs_0f7a4 cJ9_abs_0f7a4 1 (some .int) :: ([])
def wsJ9_max_7cf53 : List Cond := .code yJ9_max_7cf53 cJ9_max_7cf53 2 (some .int) :: ([])
def wsJ9_min_7cf53 : List Cond := .code yJ9_min_7cf53 cJ9_min_7cf53 2 (some .int) :: ([])
def wsL_begin_r1 : List Cond := [Cond.classLink RL 13 "java/lang/IllegalArgumentException", Cond.classLink RL 15 "java/lang/IllegalStateException", Cond.methodLink RL 7 yX3_begin, Cond.instanceMethod yX3_begin, Cond.selects RX3 yX3_begin yX3_begin, Cond.initialized RX3, Cond.code yX3_begin cX3_begin 3 (some .int), Cond.classLink RX3 42 "java/lang/IllegalArgumentException", Cond.initialized "java/lang/IllegalArgumentException", Cond.methodLink RX3 49 yX3_addVersion, Cond.instanceMethod yX3_addVersion, Cond.selects RX3 yX3_addVersion yX3_addVersion, Cond.code yX3_addVersion cX3_addVersion 3 (some (.object "HarmoniumDesk$Version")), Cond.classLink RX3 85 "java/lang/IllegalStateException", Cond.initialized "java/lang/IllegalStateException", Cond.fieldLink RX3 15 "HarmoniumDesk" "versionCount" "I", Cond.fieldLink RX3 11 "HarmoniumDesk" "versions" "[LHarmoniumDesk$Version;", Cond.classLink RX3 9 RX2, Cond.instantiable RX2 5, Cond.initialized RX2, Cond.methodLink RX3 182 yX2_init, Cond.instanceMethod yX2_init, Cond.code yX2_init cX2_init 3 none, Cond.methodLink RX2 1 objectInit]
def wsL_begin_r2 : List Cond := [Cond.instanceMethod objectInit, Cond.code objectInit ⟨#[0xb1]⟩ 1 none, Cond.classLink RX2 7 RX1, Cond.instantiable RX1 3, Cond.initialized RX1, Cond.fieldLink RX2 10 "HarmoniumDesk$Version" "score" "LHarmoniumDesk$Score;", Cond.fieldLink RX2 16 "HarmoniumDesk$Version" "fixed" "Z", Cond.fieldLink RX2 20 "HarmoniumDesk$Version" "passedWhenHandedIn" "Z", Cond.fieldLink RX2 23 "HarmoniumDesk$Version" "number" "I", Cond.fieldLink RX2 27 "HarmoniumDesk$Version" "parent" "LHarmoniumDesk$Version;", Cond.instanceMethod yX1_init, Cond.code yX1_init cX1_init 1 none, Cond.methodLink RX1 3 objectInit, Cond.fieldLink RX1 9 "HarmoniumDesk$Score" "bars" "I", Cond.arrayClass .int, Cond.fieldLink RX1 15 "HarmoniumDesk$Score" "upper" "[I", Cond.fieldLink RX1 19 "HarmoniumDesk$Score" "lower" "[I", Cond.methodLink RX3 56 yX1_fill, Cond.instanceMethod yX1_fill, Cond.selects RX1 yX1_fill yX1_fill, Cond.code yX1_fill cX1_fill 4 none, Cond.methodLink RX1 22 yX1_setTone, Cond.instanceMethod yX1_setTone, Cond.selects RX1 yX1_setTone yX1_setTone]
def wsL_begin_r3 : List Cond := [Cond.code yX1_setTone cX1_setTone 5 none]
def wsL_begin : List Cond := .codeWith yL_begin cL_begin 4 (some .int) [(0, 9, 12, 13), (0, 9, 15, 15)] :: ((wsL_begin_r1 ++ (wsL_begin_r2 ++ wsL_begin_r3)) ++ wsX20 ++ wsX30 ++ wsX10 ++ (vx_atS RX3 46 "java/lang/IllegalArgumentException" ["java/lang/RuntimeException", "java/lang/Exception"]).filter goodWord ++ (vx_atS RX3 89 "java/lang/IllegalStateException" ["java/lang/RuntimeException", "java/lang/Exception"]).filter goodWord)
def wsL_branch_r1 : List Cond := [Cond.classLink RL 20 "java/lang/IndexOutOfBoundsException", Cond.classLink RL 15 "java/lang/IllegalStateException", Cond.methodLink RL 17 yX3_branch, Cond.instanceMethod yX3_branch, Cond.selects RX3 yX3_branch yX3_branch, Cond.initialized RX3, Cond.code yX3_branch cX3_branch 4 (some .int), Cond.methodLink RX3 63 yX3_findVersion, Cond.instanceMethod yX3_findVersion, Cond.selects RX3 yX3_findVersion yX3_findVersion, Cond.code yX3_findVersion cX3_findVersion 3 (some (.object "HarmoniumDesk$Version")), Cond.classLink RX3 114 "java/lang/IndexOutOfBoundsException", Cond.initialized "java/lang/IndexOutOfBoundsException", Cond.fieldLink RX3 11 "HarmoniumDesk" "versions" "[LHarmoniumDesk$Version;", Cond.methodLink RX3 49 yX3_addVersion, Cond.instanceMethod yX3_addVersion, Cond.selects RX3 yX3_addVersion yX3_addVersion, Cond.code yX3_addVersion cX3_addVersion 3 (some (.object "HarmoniumDesk$Version")), Cond.classLink RX3 85 "java/lang/IllegalStateException", Cond.initialized "java/lang/IllegalStateException", Cond.fieldLink RX3 15 "HarmoniumDesk" "versionCount" "I", Cond.classLink RX3 9 RX2, Cond.instantiable RX2 5, Cond.initialized RX2]
def wsL_branch_r2 : List Cond := [Cond.methodLink RX3 182 yX2_init, Cond.instanceMethod yX2_init, Cond.code yX2_init cX2_init 3 none, Cond.methodLink RX2 1 objectInit, Cond.instanceMethod objectInit, Cond.code objectInit ⟨#[0xb1]⟩ 1 none, Cond.classLink RX2 7 RX1, Cond.instantiable RX1 3, Cond.initialized RX1, Cond.fieldLink RX2 10 "HarmoniumDesk$Version" "score" "LHarmoniumDesk$Score;", Cond.fieldLink RX2 16 "HarmoniumDesk$Version" "fixed" "Z", Cond.fieldLink RX2 20 "HarmoniumDesk$Version" "passedWhenHandedIn" "Z", Cond.fieldLink RX2 23 "HarmoniumDesk$Version" "number" "I", Cond.fieldLink RX2 27 "HarmoniumDesk$Version" "parent" "LHarmoniumDesk$Version;", Cond.instanceMethod yX1_init, Cond.code yX1_init cX1_init 1 none, Cond.methodLink RX1 3 objectInit, Cond.fieldLink RX1 9 "HarmoniumDesk$Score" "bars" "I", Cond.arrayClass .int, Cond.fieldLink RX1 15 "HarmoniumDesk$Score" "upper" "[I", Cond.fieldLink RX1 19 "HarmoniumDesk$Score" "lower" "[I", Cond.methodLink RX3 67 yX1_takeAll, Cond.instanceMethod yX1_takeAll, Cond.selects RX1 yX1_takeAll yX1_takeAll]
def wsL_branch_r3 : List Cond := [Cond.code yX1_takeAll cX1_takeAll 3 none, Cond.methodLink RX1 26 yX1_takeBar, Cond.instanceMethod yX1_takeBar, Cond.selects RX1 yX1_takeBar yX1_takeBar, Cond.code yX1_takeBar cX1_takeBar 3 none, Cond.methodLink RX1 30 yX1_tone, Cond.instanceMethod yX1_tone, Cond.selects RX1 yX1_tone yX1_tone, Cond.code yX1_tone cX1_tone 4 (some .int), Cond.methodLink RX1 22 yX1_setTone, Cond.instanceMethod yX1_setTone, Cond.selects RX1 yX1_setTone yX1_setTone, Cond.code yX1_setTone cX1_setTone 5 none]
def wsL_branch : List Cond := .codeWith yL_branch cL_branch 4 (some .int) [(0, 9, 12, 20), (0, 9, 15, 15)] :: ((wsL_branch_r1 ++ (wsL_branch_r2 ++ wsL_branch_r3)) ++ wsX20 ++ wsX30 ++ wsX10 ++ (vx_atS RX3 118 "java/lang/IndexOutOfBoundsException" ["java/lang/RuntimeException", "java/lang/Exception"]).filter goodWord ++ (vx_atS RX3 89 "java/lang/IllegalStateException" ["java/lang/RuntimeException", "java/lang/Exception"]).filter goodWord)
def wsL_setNote_r1 : List Cond := [Cond.classLink RL 20 "java/lang/IndexOutOfBoundsException", Cond.classLink RL 13 "java/lang/IllegalArgumentException", Cond.classLink RL 15 "java/lang/IllegalStateException", Cond.methodLink RL 22 yX3_setNote, Cond.instanceMethod yX3_setNote, Cond.selects RX3 yX3_setNote yX3_setNote, Cond.initialized RX3, Cond.code yX3_setNote cX3_setNote 7 (some .int), Cond.classLink RX3 42 "java/lang/IllegalArgumentException", Cond.initialized "java/lang/IllegalArgumentException", Cond.classLink RX3 85 "java/lang/IllegalStateException", Cond.initialized "java/lang/IllegalStateException", Cond.methodLink RX3 63 yX3_findVersion, Cond.instanceMethod yX3_findVersion, Cond.selects RX3 yX3_findVersion yX3_findVersion, Cond.code yX3_findVersion cX3_findVersion 3 (some (.object "HarmoniumDesk$Version")), Cond.classLink RX3 114 "java/lang/IndexOutOfBoundsException", Cond.initialized "java/lang/IndexOutOfBoundsException", Cond.fieldLink RX3 11 "HarmoniumDesk" "versions" "[LHarmoniumDesk$Version;", Cond.methodLink RX3 75 yX3_checkVoice, Cond.static yX3_checkVoice, Cond.code yX3_checkVoice cX3_checkVoice 1 none, Cond.methodLink RX3 79 yX3_checkBar, Cond.static yX3_checkBar]
def wsL_setNote_r2 : List Cond := [Cond.code yX3_checkBar cX3_checkBar 2 none, Cond.methodLink RX3 90 yX1_tone, Cond.instanceMethod yX1_tone, Cond.selects RX1 yX1_tone yX1_tone, Cond.initialized RX1, Cond.code yX1_tone cX1_tone 4 (some .int), Cond.fieldLink RX1 15 "HarmoniumDesk$Score" "upper" "[I", Cond.fieldLink RX1 19 "HarmoniumDesk$Score" "lower" "[I", Cond.methodLink RX3 94 yX1_setTone, Cond.instanceMethod yX1_setTone, Cond.selects RX1 yX1_setTone yX1_setTone, Cond.code yX1_setTone cX1_setTone 5 none]
def wsL_setNote : List Cond := .codeWith yL_setNote cL_setNote 7 (some .int) [(0, 14, 17, 20), (0, 14, 21, 13), (0, 14, 25, 15)] :: ((wsL_setNote_r1 ++ wsL_setNote_r2) ++ wsX20 ++ wsX30 ++ wsX10 ++ (vx_atS RX3 46 "java/lang/IllegalArgumentException" ["java/lang/RuntimeException", "java/lang/Exception"]).filter goodWord ++ (vx_atS RX3 89 "java/lang/IllegalStateException" ["java/lang/RuntimeException", "java/lang/Exception"]).filter goodWord ++ (vx_atS RX3 118 "java/lang/IndexOutOfBoundsException" ["java/lang/RuntimeException", "java/lang/Exception"]).filter goodWord)
def wsL_note_r1 : List Cond := [Cond.classLink RL 20 "java/lang/IndexOutOfBoundsException", Cond.methodLink RL 26 yX3_note, Cond.instanceMethod yX3_note, Cond.selects RX3 yX3_note yX3_note, Cond.initialized RX3, Cond.code yX3_note cX3_note 5 (some .int), Cond.methodLink RX3 63 yX3_findVersion, Cond.instanceMethod yX3_findVersion, Cond.selects RX3 yX3_findVersion yX3_findVersion, Cond.code yX3_findVersion cX3_findVersion 3 (some (.object "HarmoniumDesk$Version")), Cond.classLink RX3 114 "java/lang/IndexOutOfBoundsException", Cond.initialized "java/lang/IndexOutOfBoundsException", Cond.fieldLink RX3 11 "HarmoniumDesk" "versions" "[LHarmoniumDesk$Version;", Cond.methodLink RX3 75 yX3_checkVoice, Cond.static yX3_checkVoice, Cond.code yX3_checkVoice cX3_checkVoice 1 none, Cond.methodLink RX3 79 yX3_checkBar, Cond.static yX3_checkBar, Cond.code yX3_checkBar cX3_checkBar 2 none, Cond.methodLink RX3 90 yX1_tone, Cond.instanceMethod yX1_tone, Cond.selects RX1 yX1_tone yX1_tone, Cond.initialized RX1, Cond.code yX1_tone cX1_tone 4 (some .int)]
def wsL_note_r2 : List Cond := [Cond.fieldLink RX1 15 "HarmoniumDesk$Score" "upper" "[I", Cond.fieldLink RX1 19 "HarmoniumDesk$Score" "lower" "[I"]
def wsL_note : List Cond := .codeWith yL_note cL_note 6 (some .int) [(0, 12, 15, 20)] :: ((wsL_note_r1 ++ wsL_note_r2) ++ wsX20 ++ wsX30 ++ wsX10 ++ (vx_atS RX3 118 "java/lang/IndexOutOfBoundsException" ["java/lang/RuntimeException", "java/lang/Exception"]).filter goodWord)
def wsL_base : List Cond := .codeWith yL_base cL_base 5 (some .int) [(0, 10, 13, 20)] :: ([.classLink RL 20 "java/lang/IndexOutOfBoundsException", .methodLink RL 30 yX3_base, .instanceMethod yX3_base, .selects RX3 yX3_base yX3_base, .initialized RX3, .code yX3_base cX3_base 4 (some .int), .methodLink RX3 63 yX3_findVersion, .instanceMethod yX3_findVersion, .selects RX3 yX3_findVersion yX3_findVersion, .code yX3_findVersion cX3_findVersion 3 (some (.object "HarmoniumDesk$Version")), .classLink RX3 114 "java/lang/IndexOutOfBoundsException", .initialized "java/lang/IndexOutOfBoundsException", .fieldLink RX3 11 "HarmoniumDesk" "versions" "[LHarmoniumDesk$Version;", .methodLink RX3 98 yX3_commonAncestor, .static yX3_commonAncestor, .code yX3_commonAncestor cX3_commonAncestor 3 (some (.object "HarmoniumDesk$Version")), .methodLink RX3 190 yX3_isAncestor, .static yX3_isAncestor, .code yX3_isAncestor cX3_isAncestor 3 (some .boolean)] ++ wsX20 ++ wsX30 ++ (vx_atS RX3 118 "java/lang/IndexOutOfBoundsException" ["java/lang/RuntimeException", "java/lang/Exception"]).filter goodWord)
def wsL_conflicts_r1 : List Cond := [Cond.classLink RL 20 "java/lang/IndexOutOfBoundsException", Cond.classLink RL 15 "java/lang/IllegalStateException", Cond.methodLink RL 34 yX3_conflicts, Cond.instanceMethod yX3_conflicts, Cond.selects RX3 yX3_conflicts yX3_conflicts, Cond.initialized RX3, Cond.code yX3_conflicts cX3_conflicts 6 (some .int), Cond.classLink RX3 85 "java/lang/IllegalStateException", Cond.initialized "java/lang/IllegalStateException", Cond.methodLink RX3 63 yX3_findVersion, Cond.instanceMethod yX3_findVersion, Cond.selects RX3 yX3_findVersion yX3_findVersion, Cond.code yX3_findVersion cX3_findVersion 3 (some (.object "HarmoniumDesk$Version")), Cond.classLink RX3 114 "java/lang/IndexOutOfBoundsException", Cond.initialized "java/lang/IndexOutOfBoundsException", Cond.fieldLink RX3 11 "HarmoniumDesk" "versions" "[LHarmoniumDesk$Version;", Cond.methodLink RX3 98 yX3_commonAncestor, Cond.static yX3_commonAncestor, Cond.code yX3_commonAncestor cX3_commonAncestor 3 (some (.object "HarmoniumDesk$Version")), Cond.methodLink RX3 190 yX3_isAncestor, Cond.static yX3_isAncestor, Cond.code yX3_isAncestor cX3_isAncestor 3 (some .boolean), Cond.methodLink RX3 104 yX3_conflictingBars, Cond.static yX3_conflictingBars]
def wsL_conflicts_r2 : List Cond := [Cond.code yX3_conflictingBars cX3_conflictingBars 5 (some .int), Cond.methodLink RX3 198 yX1_sameBar, Cond.instanceMethod yX1_sameBar, Cond.selects RX1 yX1_sameBar yX1_sameBar, Cond.initialized RX1, Cond.code yX1_sameBar cX1_sameBar 3 (some .boolean), Cond.methodLink RX1 30 yX1_tone, Cond.instanceMethod yX1_tone, Cond.selects RX1 yX1_tone yX1_tone, Cond.code yX1_tone cX1_tone 4 (some .int), Cond.fieldLink RX1 15 "HarmoniumDesk$Score" "upper" "[I", Cond.fieldLink RX1 19 "HarmoniumDesk$Score" "lower" "[I"]
def wsL_conflicts : List Cond := .codeWith yL_conflicts cL_conflicts 5 (some .int) [(0, 10, 13, 20), (0, 10, 17, 15)] :: ((wsL_conflicts_r1 ++ wsL_conflicts_r2) ++ wsX20 ++ wsX30 ++ wsX10 ++ (vx_atS RX3 89 "java/lang/IllegalStateException" ["java/lang/RuntimeException", "java/lang/Exception"]).filter goodWord ++ (vx_atS RX3 118 "java/lang/IndexOutOfBoundsException" ["java/lang/RuntimeException", "java/lang/Exception"]).filter goodWord)
def wsL_merge_r1 : List Cond := [Cond.classLink RL 20 "java/lang/IndexOutOfBoundsException", Cond.classLink RL 13 "java/lang/IllegalArgumentException", Cond.classLink RL 15 "java/lang/IllegalStateException", Cond.methodLink RL 37 yX3_merge, Cond.instanceMethod yX3_merge, Cond.selects RX3 yX3_merge yX3_merge, Cond.initialized RX3, Cond.code yX3_merge cX3_merge 7 (some .int), Cond.classLink RX3 42 "java/lang/IllegalArgumentException", Cond.initialized "java/lang/IllegalArgumentException", Cond.classLink RX3 85 "java/lang/IllegalStateException", Cond.initialized "java/lang/IllegalStateException", Cond.methodLink RX3 63 yX3_findVersion, Cond.instanceMethod yX3_findVersion, Cond.selects RX3 yX3_findVersion yX3_findVersion, Cond.code yX3_findVersion cX3_findVersion 3 (some (.object "HarmoniumDesk$Version")), Cond.classLink RX3 114 "java/lang/IndexOutOfBoundsException", Cond.initialized "java/lang/IndexOutOfBoundsException", Cond.fieldLink RX3 11 "HarmoniumDesk" "versions" "[LHarmoniumDesk$Version;", Cond.methodLink RX3 98 yX3_commonAncestor, Cond.static yX3_commonAncestor, Cond.code yX3_commonAncestor cX3_commonAncestor 3 (some (.object "HarmoniumDesk$Version")), Cond.methodLink RX3 190 yX3_isAncestor, Cond.static yX3_isAncestor]
def wsL_merge_r2 : List Cond := [Cond.code yX3_isAncestor cX3_isAncestor 3 (some .boolean), Cond.methodLink RX3 49 yX3_addVersion, Cond.instanceMethod yX3_addVersion, Cond.selects RX3 yX3_addVersion yX3_addVersion, Cond.code yX3_addVersion cX3_addVersion 3 (some (.object "HarmoniumDesk$Version")), Cond.fieldLink RX3 15 "HarmoniumDesk" "versionCount" "I", Cond.classLink RX3 9 RX2, Cond.instantiable RX2 5, Cond.initialized RX2, Cond.methodLink RX3 182 yX2_init, Cond.instanceMethod yX2_init, Cond.code yX2_init cX2_init 3 none, Cond.methodLink RX2 1 objectInit, Cond.instanceMethod objectInit, Cond.code objectInit ⟨#[0xb1]⟩ 1 none, Cond.classLink RX2 7 RX1, Cond.instantiable RX1 3, Cond.initialized RX1, Cond.fieldLink RX2 10 "HarmoniumDesk$Version" "score" "LHarmoniumDesk$Score;", Cond.fieldLink RX2 16 "HarmoniumDesk$Version" "fixed" "Z", Cond.fieldLink RX2 20 "HarmoniumDesk$Version" "passedWhenHandedIn" "Z", Cond.fieldLink RX2 23 "HarmoniumDesk$Version" "number" "I", Cond.fieldLink RX2 27 "HarmoniumDesk$Version" "parent" "LHarmoniumDesk$Version;", Cond.instanceMethod yX1_init]
def wsL_merge_r3 : List Cond := [Cond.code yX1_init cX1_init 1 none, Cond.methodLink RX1 3 objectInit, Cond.fieldLink RX1 9 "HarmoniumDesk$Score" "bars" "I", Cond.arrayClass .int, Cond.fieldLink RX1 15 "HarmoniumDesk$Score" "upper" "[I", Cond.fieldLink RX1 19 "HarmoniumDesk$Score" "lower" "[I", Cond.methodLink RX3 110 yX3_mergeInto, Cond.static yX3_mergeInto, Cond.code yX3_mergeInto cX3_mergeInto 5 none, Cond.methodLink RX3 67 yX1_takeAll, Cond.instanceMethod yX1_takeAll, Cond.selects RX1 yX1_takeAll yX1_takeAll, Cond.code yX1_takeAll cX1_takeAll 3 none, Cond.methodLink RX1 26 yX1_takeBar, Cond.instanceMethod yX1_takeBar, Cond.selects RX1 yX1_takeBar yX1_takeBar, Cond.code yX1_takeBar cX1_takeBar 3 none, Cond.methodLink RX1 30 yX1_tone, Cond.instanceMethod yX1_tone, Cond.selects RX1 yX1_tone yX1_tone, Cond.code yX1_tone cX1_tone 4 (some .int), Cond.methodLink RX1 22 yX1_setTone, Cond.instanceMethod yX1_setTone, Cond.selects RX1 yX1_setTone yX1_setTone]
def wsL_merge_r4 : List Cond := [Cond.code yX1_setTone cX1_setTone 5 none, Cond.methodLink RX3 198 yX1_sameBar, Cond.instanceMethod yX1_sameBar, Cond.selects RX1 yX1_sameBar yX1_sameBar, Cond.code yX1_sameBar cX1_sameBar 3 (some .boolean), Cond.methodLink RX3 202 yX1_takeBar]
def wsL_merge : List Cond := .codeWith yL_merge cL_merge 5 (some .int) [(0, 10, 13, 20), (0, 10, 17, 13), (0, 10, 21, 15)] :: ((wsL_merge_r1 ++ (wsL_merge_r2 ++ (wsL_merge_r3 ++ wsL_merge_r4))) ++ wsX20 ++ wsX30 ++ wsX10 ++ (vx_atS RX3 46 "java/lang/IllegalArgumentException" ["java/lang/RuntimeException", "java/lang/Exception"]).filter goodWord ++ (vx_atS RX3 89 "java/lang/IllegalStateException" ["java/lang/RuntimeException", "java/lang/Exception"]).filter goodWord ++ (vx_atS RX3 118 "java/lang/IndexOutOfBoundsException" ["java/lang/RuntimeException", "java/lang/Exception"]).filter goodWord)
def wsL_setWeight : List Cond := .codeWith yL_setWeight cL_setWeight 5 (some .int) [(0, 10, 13, 20), (0, 10, 17, 13)] :: ([.classLink RL 20 "java/lang/IndexOutOfBoundsException", .classLink RL 13 "java/lang/IllegalArgumentException", .methodLink RL 40 yX3_setWeight, .instanceMethod yX3_setWeight, .selects RX3 yX3_setWeight yX3_setWeight, .initialized RX3, .code yX3_setWeight cX3_setWeight 4 (some .int), .classLink RX3 114 "java/lang/IndexOutOfBoundsException", .initialized "java/lang/IndexOutOfBoundsException", .classLink RX3 42 "java/lang/IllegalArgumentException", .initialized "java/lang/IllegalArgumentException", .fieldLink RX3 28 "HarmoniumDesk" "weights" "[I"] ++ wsX30 ++ (vx_atS RX3 118 "java/lang/IndexOutOfBoundsException" ["java/lang/RuntimeException", "java/lang/Exception"]).filter goodWord ++ (vx_atS RX3 46 "java/lang/IllegalArgumentException" ["java/lang/RuntimeException", "java/lang/Exception"]).filter goodWord)
def wsL_setPass : List Cond := .codeWith yL_setPass cL_setPass 4 (some .int) [(0, 9, 12, 13)] :: ([.classLink RL 13 "java/lang/IllegalArgumentException", .methodLink RL 43 yX3_setPass, .instanceMethod yX3_setPass, .selects RX3 yX3_setPass yX3_setPass, .initialized RX3, .code yX3_setPass cX3_setPass 3 (some .int), .classLink RX3 42 "java/lang/IllegalArgumentException", .initialized "java/lang/IllegalArgumentException", .fieldLink RX3 32 "HarmoniumDesk" "passMark" "I"] ++ wsX30 ++ (vx_atS RX3 46 "java/lang/IllegalArgumentException" ["java/lang/RuntimeException", "java/lang/Exception"]).filter goodWord)
def wsL_faults_r1 : List Cond := [Cond.classLink RL 20 "java/lang/IndexOutOfBoundsException", Cond.methodLink RL 46 yX3_faults, Cond.instanceMethod yX3_faults, Cond.selects RX3 yX3_faults yX3_faults, Cond.initialized RX3, Cond.code yX3_faults cX3_faults 5 (some .int), Cond.classLink RX3 114 "java/lang/IndexOutOfBoundsException", Cond.initialized "java/lang/IndexOutOfBoundsException", Cond.methodLink RX3 63 yX3_findVersion, Cond.instanceMethod yX3_findVersion, Cond.selects RX3 yX3_findVersion yX3_findVersion, Cond.code yX3_findVersion cX3_findVersion 3 (some (.object "HarmoniumDesk$Version")), Cond.fieldLink RX3 11 "HarmoniumDesk" "versions" "[LHarmoniumDesk$Version;", Cond.methodLink RX3 79 yX3_checkBar, Cond.static yX3_checkBar, Cond.code yX3_checkBar cX3_checkBar 2 none, Cond.methodLink RX3 123 yX1_faultsOf, Cond.instanceMethod yX1_faultsOf, Cond.selects RX1 yX1_faultsOf yX1_faultsOf, Cond.initialized RX1, Cond.code yX1_faultsOf cX1_faultsOf 3 (some .int), Cond.methodLink RX1 37 yX1_isDiscord, Cond.instanceMethod yX1_isDiscord, Cond.selects RX1 yX1_isDiscord yX1_isDiscord]
def wsL_faults_r2 : List Cond := [Cond.code yX1_isDiscord cX1_isDiscord 2 (some .boolean), Cond.methodLink RX1 59 yX1_interval, Cond.instanceMethod yX1_interval, Cond.selects RX1 yX1_interval yX1_interval, Cond.code yX1_interval cX1_interval 2 (some .int), Cond.methodLink RX1 54 Lib.Math.abs.name, Cond.static Lib.Math.abs.name, Cond.initialized "java/lang/Math", Cond.code Lib.Math.abs.name Lib.Math.abs.code 1 (some .int), Cond.methodLink RX1 30 yX1_tone, Cond.instanceMethod yX1_tone, Cond.selects RX1 yX1_tone yX1_tone, Cond.code yX1_tone cX1_tone 4 (some .int), Cond.fieldLink RX1 15 "HarmoniumDesk$Score" "upper" "[I", Cond.fieldLink RX1 19 "HarmoniumDesk$Score" "lower" "[I", Cond.methodLink RX1 41 yX1_isParallel, Cond.instanceMethod yX1_isParallel, Cond.selects RX1 yX1_isParallel yX1_isParallel, Cond.code yX1_isParallel cX1_isParallel 2 (some .boolean), Cond.methodLink RX1 34 yX1_stepTo, Cond.instanceMethod yX1_stepTo, Cond.selects RX1 yX1_stepTo yX1_stepTo, Cond.code yX1_stepTo cX1_stepTo 3 (some .int), Cond.methodLink RX1 62 yX1_isPerfect]
def wsL_faults_r3 : List Cond := [Cond.static yX1_isPerfect, Cond.code yX1_isPerfect cX1_isPerfect 1 (some .boolean), Cond.methodLink RX1 44 yX1_leapsTo, Cond.instanceMethod yX1_leapsTo, Cond.selects RX1 yX1_leapsTo yX1_leapsTo, Cond.code yX1_leapsTo cX1_leapsTo 4 (some .int), Cond.methodLink RX1 48 yX1_badEndsAt, Cond.instanceMethod yX1_badEndsAt, Cond.selects RX1 yX1_badEndsAt yX1_badEndsAt, Cond.code yX1_badEndsAt cX1_badEndsAt 4 (some .int), Cond.fieldLink RX1 9 "HarmoniumDesk$Score" "bars" "I", Cond.methodLink RX1 51 yX1_isStanding, Cond.instanceMethod yX1_isStanding, Cond.selects RX1 yX1_isStanding yX1_isStanding, Cond.code yX1_isStanding cX1_isStanding 2 (some .boolean)]
def wsL_faults : List Cond := .codeWith yL_faults cL_faults 6 (some .int) [(0, 12, 15, 20)] :: ((wsL_faults_r1 ++ (wsL_faults_r2 ++ wsL_faults_r3)) ++ wsX20 ++ wsX30 ++ wsX10 ++ (vx_atS RX3 118 "java/lang/IndexOutOfBoundsException" ["java/lang/RuntimeException", "java/lang/Exception"]).filter goodWord)
def wsL_mark_r1 : List Cond := [Cond.classLink RL 20 "java/lang/IndexOutOfBoundsException", Cond.methodLink RL 49 yX3_mark, Cond.instanceMethod yX3_mark, Cond.selects RX3 yX3_mark yX3_mark, Cond.initialized RX3, Cond.code yX3_mark cX3_mark 2 (some .int), Cond.methodLink RX3 63 yX3_findVersion, Cond.instanceMethod yX3_findVersion, Cond.selects RX3 yX3_findVersion yX3_findVersion, Cond.code yX3_findVersion cX3_findVersion 3 (some (.object "HarmoniumDesk$Version")), Cond.classLink RX3 114 "java/lang/IndexOutOfBoundsException", Cond.initialized "java/lang/IndexOutOfBoundsException", Cond.fieldLink RX3 11 "HarmoniumDesk" "versions" "[LHarmoniumDesk$Version;", Cond.methodLink RX3 126 yX3_markOf, Cond.instanceMethod yX3_markOf, Cond.selects RX3 yX3_markOf yX3_markOf, Cond.code yX3_markOf cX3_markOf 2 (some .int), Cond.methodLink RX3 210 Lib.Math.max.name, Cond.static Lib.Math.max.name, Cond.initialized "java/lang/Math", Cond.code Lib.Math.max.name Lib.Math.max.code 2 (some .int), Cond.methodLink RX3 206 yX3_weightedFaults, Cond.instanceMethod yX3_weightedFaults, Cond.selects RX3 yX3_weightedFaults yX3_weightedFaults]
def wsL_mark_r2 : List Cond := [Cond.code yX3_weightedFaults cX3_weightedFaults 7 (some .int), Cond.fieldLink RX3 28 "HarmoniumDesk" "weights" "[I", Cond.methodLink RX3 123 yX1_faultsOf, Cond.instanceMethod yX1_faultsOf, Cond.selects RX1 yX1_faultsOf yX1_faultsOf, Cond.initialized RX1, Cond.code yX1_faultsOf cX1_faultsOf 3 (some .int), Cond.methodLink RX1 37 yX1_isDiscord, Cond.instanceMethod yX1_isDiscord, Cond.selects RX1 yX1_isDiscord yX1_isDiscord, Cond.code yX1_isDiscord cX1_isDiscord 2 (some .boolean), Cond.methodLink RX1 59 yX1_interval, Cond.instanceMethod yX1_interval, Cond.selects RX1 yX1_interval yX1_interval, Cond.code yX1_interval cX1_interval 2 (some .int), Cond.methodLink RX1 54 Lib.Math.abs.name, Cond.static Lib.Math.abs.name, Cond.code Lib.Math.abs.name Lib.Math.abs.code 1 (some .int), Cond.methodLink RX1 30 yX1_tone, Cond.instanceMethod yX1_tone, Cond.selects RX1 yX1_tone yX1_tone, Cond.code yX1_tone cX1_tone 4 (some .int), Cond.fieldLink RX1 15 "HarmoniumDesk$Score" "upper" "[I", Cond.fieldLink RX1 19 "HarmoniumDesk$Score" "lower" "[I"]
def wsL_mark_r3 : List Cond := [Cond.methodLink RX1 41 yX1_isParallel, Cond.instanceMethod yX1_isParallel, Cond.selects RX1 yX1_isParallel yX1_isParallel, Cond.code yX1_isParallel cX1_isParallel 2 (some .boolean), Cond.methodLink RX1 34 yX1_stepTo, Cond.instanceMethod yX1_stepTo, Cond.selects RX1 yX1_stepTo yX1_stepTo, Cond.code yX1_stepTo cX1_stepTo 3 (some .int), Cond.methodLink RX1 62 yX1_isPerfect, Cond.static yX1_isPerfect, Cond.code yX1_isPerfect cX1_isPerfect 1 (some .boolean), Cond.methodLink RX1 44 yX1_leapsTo, Cond.instanceMethod yX1_leapsTo, Cond.selects RX1 yX1_leapsTo yX1_leapsTo, Cond.code yX1_leapsTo cX1_leapsTo 4 (some .int), Cond.methodLink RX1 48 yX1_badEndsAt, Cond.instanceMethod yX1_badEndsAt, Cond.selects RX1 yX1_badEndsAt yX1_badEndsAt, Cond.code yX1_badEndsAt cX1_badEndsAt 4 (some .int), Cond.fieldLink RX1 9 "HarmoniumDesk$Score" "bars" "I", Cond.methodLink RX1 51 yX1_isStanding, Cond.instanceMethod yX1_isStanding, Cond.selects RX1 yX1_isStanding yX1_isStanding, Cond.code yX1_isStanding cX1_isStanding 2 (some .boolean)]
def wsL_mark : List Cond := .codeWith yL_mark cL_mark 4 (some .int) [(0, 9, 12, 20)] :: ((wsL_mark_r1 ++ (wsL_mark_r2 ++ wsL_mark_r3)) ++ wsX20 ++ wsX30 ++ wsX10 ++ (vx_atS RX3 118 "java/lang/IndexOutOfBoundsException" ["java/lang/RuntimeException", "java/lang/Exception"]).filter goodWord)
def wsL_handIn_r1 : List Cond := [Cond.classLink RL 20 "java/lang/IndexOutOfBoundsException", Cond.methodLink RL 52 yX3_handIn, Cond.instanceMethod yX3_handIn, Cond.selects RX3 yX3_handIn yX3_handIn, Cond.initialized RX3, Cond.code yX3_handIn cX3_handIn 3 (some .boolean), Cond.fieldLink RX3 32 "HarmoniumDesk" "passMark" "I", Cond.methodLink RX3 63 yX3_findVersion, Cond.instanceMethod yX3_findVersion, Cond.selects RX3 yX3_findVersion yX3_findVersion, Cond.code yX3_findVersion cX3_findVersion 3 (some (.object "HarmoniumDesk$Version")), Cond.classLink RX3 114 "java/lang/IndexOutOfBoundsException", Cond.initialized "java/lang/IndexOutOfBoundsException", Cond.fieldLink RX3 11 "HarmoniumDesk" "versions" "[LHarmoniumDesk$Version;", Cond.methodLink RX3 126 yX3_markOf, Cond.instanceMethod yX3_markOf, Cond.selects RX3 yX3_markOf yX3_markOf, Cond.code yX3_markOf cX3_markOf 2 (some .int), Cond.methodLink RX3 210 Lib.Math.max.name, Cond.static Lib.Math.max.name, Cond.initialized "java/lang/Math", Cond.code Lib.Math.max.name Lib.Math.max.code 2 (some .int), Cond.methodLink RX3 206 yX3_weightedFaults, Cond.instanceMethod yX3_weightedFaults]
def wsL_handIn_r2 : List Cond := [Cond.selects RX3 yX3_weightedFaults yX3_weightedFaults, Cond.code yX3_weightedFaults cX3_weightedFaults 7 (some .int), Cond.fieldLink RX3 28 "HarmoniumDesk" "weights" "[I", Cond.methodLink RX3 123 yX1_faultsOf, Cond.instanceMethod yX1_faultsOf, Cond.selects RX1 yX1_faultsOf yX1_faultsOf, Cond.initialized RX1, Cond.code yX1_faultsOf cX1_faultsOf 3 (some .int), Cond.methodLink RX1 37 yX1_isDiscord, Cond.instanceMethod yX1_isDiscord, Cond.selects RX1 yX1_isDiscord yX1_isDiscord, Cond.code yX1_isDiscord cX1_isDiscord 2 (some .boolean), Cond.methodLink RX1 59 yX1_interval, Cond.instanceMethod yX1_interval, Cond.selects RX1 yX1_interval yX1_interval, Cond.code yX1_interval cX1_interval 2 (some .int), Cond.methodLink RX1 54 Lib.Math.abs.name, Cond.static Lib.Math.abs.name, Cond.code Lib.Math.abs.name Lib.Math.abs.code 1 (some .int), Cond.methodLink RX1 30 yX1_tone, Cond.instanceMethod yX1_tone, Cond.selects RX1 yX1_tone yX1_tone, Cond.code yX1_tone cX1_tone 4 (some .int), Cond.fieldLink RX1 15 "HarmoniumDesk$Score" "upper" "[I"]
def wsL_handIn_r3 : List Cond := [Cond.fieldLink RX1 19 "HarmoniumDesk$Score" "lower" "[I", Cond.methodLink RX1 41 yX1_isParallel, Cond.instanceMethod yX1_isParallel, Cond.selects RX1 yX1_isParallel yX1_isParallel, Cond.code yX1_isParallel cX1_isParallel 2 (some .boolean), Cond.methodLink RX1 34 yX1_stepTo, Cond.instanceMethod yX1_stepTo, Cond.selects RX1 yX1_stepTo yX1_stepTo, Cond.code yX1_stepTo cX1_stepTo 3 (some .int), Cond.methodLink RX1 62 yX1_isPerfect, Cond.static yX1_isPerfect, Cond.code yX1_isPerfect cX1_isPerfect 1 (some .boolean), Cond.methodLink RX1 44 yX1_leapsTo, Cond.instanceMethod yX1_leapsTo, Cond.selects RX1 yX1_leapsTo yX1_leapsTo, Cond.code yX1_leapsTo cX1_leapsTo 4 (some .int), Cond.methodLink RX1 48 yX1_badEndsAt, Cond.instanceMethod yX1_badEndsAt, Cond.selects RX1 yX1_badEndsAt yX1_badEndsAt, Cond.code yX1_badEndsAt cX1_badEndsAt 4 (some .int), Cond.fieldLink RX1 9 "HarmoniumDesk$Score" "bars" "I", Cond.methodLink RX1 51 yX1_isStanding, Cond.instanceMethod yX1_isStanding, Cond.selects RX1 yX1_isStanding yX1_isStanding]
def wsL_handIn_r4 : List Cond := [Cond.code yX1_isStanding cX1_isStanding 2 (some .boolean)]
def wsL_handIn : List Cond := .codeWith yL_handIn cL_handIn 4 (some .int) [(0, 16, 19, 20)] :: ((wsL_handIn_r1 ++ (wsL_handIn_r2 ++ (wsL_handIn_r3 ++ wsL_handIn_r4))) ++ wsX20 ++ wsX30 ++ wsX10 ++ (vx_atS RX3 118 "java/lang/IndexOutOfBoundsException" ["java/lang/RuntimeException", "java/lang/Exception"]).filter goodWord)
def wsL_best_r1 : List Cond := [Cond.classLink RL 20 "java/lang/IndexOutOfBoundsException", Cond.methodLink RL 56 yX3_best, Cond.instanceMethod yX3_best, Cond.selects RX3 yX3_best yX3_best, Cond.initialized RX3, Cond.code yX3_best cX3_best 5 (some .int), Cond.fieldLink RX3 38 "HarmoniumDesk" "trial" "LHarmoniumDesk$Score;", Cond.methodLink RX3 63 yX3_findVersion, Cond.instanceMethod yX3_findVersion, Cond.selects RX3 yX3_findVersion yX3_findVersion, Cond.code yX3_findVersion cX3_findVersion 3 (some (.object "HarmoniumDesk$Version")), Cond.classLink RX3 114 "java/lang/IndexOutOfBoundsException", Cond.initialized "java/lang/IndexOutOfBoundsException", Cond.fieldLink RX3 11 "HarmoniumDesk" "versions" "[LHarmoniumDesk$Version;", Cond.methodLink RX3 75 yX3_checkVoice, Cond.static yX3_checkVoice, Cond.code yX3_checkVoice cX3_checkVoice 1 none, Cond.methodLink RX3 79 yX3_checkBar, Cond.static yX3_checkBar, Cond.code yX3_checkBar cX3_checkBar 2 none, Cond.methodLink RX3 67 yX1_takeAll, Cond.instanceMethod yX1_takeAll, Cond.selects RX1 yX1_takeAll yX1_takeAll, Cond.initialized RX1]
def wsL_best_r2 : List Cond := [Cond.code yX1_takeAll cX1_takeAll 3 none, Cond.fieldLink RX1 9 "HarmoniumDesk$Score" "bars" "I", Cond.methodLink RX1 26 yX1_takeBar, Cond.instanceMethod yX1_takeBar, Cond.selects RX1 yX1_takeBar yX1_takeBar, Cond.code yX1_takeBar cX1_takeBar 3 none, Cond.methodLink RX1 30 yX1_tone, Cond.instanceMethod yX1_tone, Cond.selects RX1 yX1_tone yX1_tone, Cond.code yX1_tone cX1_tone 4 (some .int), Cond.fieldLink RX1 15 "HarmoniumDesk$Score" "upper" "[I", Cond.fieldLink RX1 19 "HarmoniumDesk$Score" "lower" "[I", Cond.methodLink RX1 22 yX1_setTone, Cond.instanceMethod yX1_setTone, Cond.selects RX1 yX1_setTone yX1_setTone, Cond.code yX1_setTone cX1_setTone 5 none, Cond.methodLink RX3 133 yX3_bestTone, Cond.instanceMethod yX3_bestTone, Cond.selects RX3 yX3_bestTone yX3_bestTone, Cond.code yX3_bestTone cX3_bestTone 8 (some .int), Cond.methodLink RX3 215 Lib.Math.min.name, Cond.static Lib.Math.min.name, Cond.initialized "java/lang/Math", Cond.code Lib.Math.min.name Lib.Math.min.code 2 (some .int)]
def wsL_best_r3 : List Cond := [Cond.methodLink RX3 94 yX1_setTone, Cond.methodLink RX3 206 yX3_weightedFaults, Cond.instanceMethod yX3_weightedFaults, Cond.selects RX3 yX3_weightedFaults yX3_weightedFaults, Cond.code yX3_weightedFaults cX3_weightedFaults 7 (some .int), Cond.fieldLink RX3 28 "HarmoniumDesk" "weights" "[I", Cond.methodLink RX3 123 yX1_faultsOf, Cond.instanceMethod yX1_faultsOf, Cond.selects RX1 yX1_faultsOf yX1_faultsOf, Cond.code yX1_faultsOf cX1_faultsOf 3 (some .int), Cond.methodLink RX1 37 yX1_isDiscord, Cond.instanceMethod yX1_isDiscord, Cond.selects RX1 yX1_isDiscord yX1_isDiscord, Cond.code yX1_isDiscord cX1_isDiscord 2 (some .boolean), Cond.methodLink RX1 59 yX1_interval, Cond.instanceMethod yX1_interval, Cond.selects RX1 yX1_interval yX1_interval, Cond.code yX1_interval cX1_interval 2 (some .int), Cond.methodLink RX1 54 Lib.Math.abs.name, Cond.static Lib.Math.abs.name, Cond.code Lib.Math.abs.name Lib.Math.abs.code 1 (some .int), Cond.methodLink RX1 41 yX1_isParallel, Cond.instanceMethod yX1_isParallel, Cond.selects RX1 yX1_isParallel yX1_isParallel]
def wsL_best_r4 : List Cond := [Cond.code yX1_isParallel cX1_isParallel 2 (some .boolean), Cond.methodLink RX1 34 yX1_stepTo, Cond.instanceMethod yX1_stepTo, Cond.selects RX1 yX1_stepTo yX1_stepTo, Cond.code yX1_stepTo cX1_stepTo 3 (some .int), Cond.methodLink RX1 62 yX1_isPerfect, Cond.static yX1_isPerfect, Cond.code yX1_isPerfect cX1_isPerfect 1 (some .boolean), Cond.methodLink RX1 44 yX1_leapsTo, Cond.instanceMethod yX1_leapsTo, Cond.selects RX1 yX1_leapsTo yX1_leapsTo, Cond.code yX1_leapsTo cX1_leapsTo 4 (some .int), Cond.methodLink RX1 48 yX1_badEndsAt, Cond.instanceMethod yX1_badEndsAt, Cond.selects RX1 yX1_badEndsAt yX1_badEndsAt, Cond.code yX1_badEndsAt cX1_badEndsAt 4 (some .int), Cond.methodLink RX1 51 yX1_isStanding, Cond.instanceMethod yX1_isStanding, Cond.selects RX1 yX1_isStanding yX1_isStanding, Cond.code yX1_isStanding cX1_isStanding 2 (some .boolean)]
def wsL_best : List Cond := .codeWith yL_best cL_best 6 (some .int) [(0, 12, 15, 20)] :: ((wsL_best_r1 ++ (wsL_best_r2 ++ (wsL_best_r3 ++ wsL_best_r4))) ++ wsX30 ++ wsX20 ++ wsX10 ++ (vx_atS RX3 118 "java/lang/IndexOutOfBoundsException" ["java/lang/RuntimeException", "java/lang/Exception"]).filter goodWord)
def wsL_movement_r1 : List Cond := [Cond.classLink RL 20 "java/lang/IndexOutOfBoundsException", Cond.methodLink RL 59 yX3_movement, Cond.instanceMethod yX3_movement, Cond.selects RX3 yX3_movement yX3_movement, Cond.initialized RX3, Cond.code yX3_movement cX3_movement 5 (some .float), Cond.methodLink RX3 63 yX3_findVersion, Cond.instanceMethod yX3_findVersion, Cond.selects RX3 yX3_findVersion yX3_findVersion, Cond.code yX3_findVersion cX3_findVersion 3 (some (.object "HarmoniumDesk$Version")), Cond.classLink RX3 114 "java/lang/IndexOutOfBoundsException", Cond.initialized "java/lang/IndexOutOfBoundsException", Cond.fieldLink RX3 11 "HarmoniumDesk" "versions" "[LHarmoniumDesk$Version;", Cond.methodLink RX3 75 yX3_checkVoice, Cond.static yX3_checkVoice, Cond.code yX3_checkVoice cX3_checkVoice 1 none, Cond.methodLink RX3 139 yX1_wayOf, Cond.instanceMethod yX1_wayOf, Cond.selects RX1 yX1_wayOf yX1_wayOf, Cond.initialized RX1, Cond.code yX1_wayOf cX1_wayOf 4 (some .int), Cond.fieldLink RX1 9 "HarmoniumDesk$Score" "bars" "I", Cond.methodLink RX1 34 yX1_stepTo, Cond.instanceMethod yX1_stepTo]
def wsL_movement_r2 : List Cond := [Cond.selects RX1 yX1_stepTo yX1_stepTo, Cond.code yX1_stepTo cX1_stepTo 3 (some .int), Cond.methodLink RX1 54 Lib.Math.abs.name, Cond.static Lib.Math.abs.name, Cond.initialized "java/lang/Math", Cond.code Lib.Math.abs.name Lib.Math.abs.code 1 (some .int), Cond.methodLink RX1 30 yX1_tone, Cond.instanceMethod yX1_tone, Cond.selects RX1 yX1_tone yX1_tone, Cond.code yX1_tone cX1_tone 4 (some .int), Cond.fieldLink RX1 15 "HarmoniumDesk$Score" "upper" "[I", Cond.fieldLink RX1 19 "HarmoniumDesk$Score" "lower" "[I"]
def wsL_movement : List Cond := .codeWith yL_movement cL_movement 5 (some .int) [(0, 10, 13, 20)] :: ((wsL_movement_r1 ++ wsL_movement_r2) ++ wsX20 ++ wsX10 ++ wsX30 ++ (vx_atS RX3 118 "java/lang/IndexOutOfBoundsException" ["java/lang/RuntimeException", "java/lang/Exception"]).filter goodWord)
def wsL_print_r1 : List Cond := [Cond.classLink RL 20 "java/lang/IndexOutOfBoundsException", Cond.classLink RL 15 "java/lang/IllegalStateException", Cond.methodLink RL 63 yX3_print, Cond.instanceMethod yX3_print, Cond.selects RX3 yX3_print yX3_print, Cond.initialized RX3, Cond.code yX3_print cX3_print 5 (some .int), Cond.methodLink RX3 63 yX3_findVersion, Cond.instanceMethod yX3_findVersion, Cond.selects RX3 yX3_findVersion yX3_findVersion, Cond.code yX3_findVersion cX3_findVersion 3 (some (.object "HarmoniumDesk$Version")), Cond.classLink RX3 114 "java/lang/IndexOutOfBoundsException", Cond.initialized "java/lang/IndexOutOfBoundsException", Cond.fieldLink RX3 11 "HarmoniumDesk" "versions" "[LHarmoniumDesk$Version;", Cond.methodLink RX3 75 yX3_checkVoice, Cond.static yX3_checkVoice, Cond.code yX3_checkVoice cX3_checkVoice 1 none, Cond.methodLink RX3 143 yX3_addCopy, Cond.instanceMethod yX3_addCopy, Cond.selects RX3 yX3_addCopy yX3_addCopy, Cond.code yX3_addCopy cX3_addCopy 4 (some .int), Cond.classLink RX3 85 "java/lang/IllegalStateException", Cond.initialized "java/lang/IllegalStateException", Cond.fieldLink RX3 25 "HarmoniumDesk" "copyCount" "I"]
def wsL_print_r2 : List Cond := [Cond.fieldLink RX3 21 "HarmoniumDesk" "copies" "[LHarmoniumDesk$Copy;", Cond.classLink RX3 19 RX0, Cond.instantiable RX0 4, Cond.initialized RX0, Cond.methodLink RX3 187 yX0_init, Cond.instanceMethod yX0_init, Cond.code yX0_init cX0_init 3 none, Cond.methodLink RX0 3 objectInit, Cond.instanceMethod objectInit, Cond.code objectInit ⟨#[0xb1]⟩ 1 none, Cond.arrayClass .int, Cond.fieldLink RX0 9 "HarmoniumDesk$Copy" "tones" "[I", Cond.fieldLink RX0 15 "HarmoniumDesk$Copy" "slipCount" "I", Cond.fieldLink RX0 19 "HarmoniumDesk$Copy" "voice" "I", Cond.fieldLink RX0 27 "HarmoniumDesk$Copy" "bars" "I", Cond.methodLink RX0 28 yX0_takeVoice, Cond.instanceMethod yX0_takeVoice, Cond.selects RX0 yX0_takeVoice yX0_takeVoice, Cond.code yX0_takeVoice cX0_takeVoice 3 none, Cond.methodLink RX0 32 yX1_tone, Cond.instanceMethod yX1_tone, Cond.selects RX1 yX1_tone yX1_tone, Cond.initialized RX1, Cond.code yX1_tone cX1_tone 4 (some .int)]
def wsL_print_r3 : List Cond := [Cond.fieldLink RX1 15 "HarmoniumDesk$Score" "upper" "[I", Cond.fieldLink RX1 19 "HarmoniumDesk$Score" "lower" "[I"]
def wsL_print : List Cond := .codeWith yL_print cL_print 5 (some .int) [(0, 10, 13, 20), (0, 10, 17, 15)] :: ((wsL_print_r1 ++ (wsL_print_r2 ++ wsL_print_r3)) ++ wsX20 ++ wsX30 ++ wsX00 ++ wsX10 ++ (vx_atS RX3 118 "java/lang/IndexOutOfBoundsException" ["java/lang/RuntimeException", "java/lang/Exception"]).filter goodWord ++ (vx_atS RX3 89 "java/lang/IllegalStateException" ["java/lang/RuntimeException", "java/lang/Exception"]).filter goodWord)
def wsL_errata_r1 : List Cond := [Cond.classLink RL 20 "java/lang/IndexOutOfBoundsException", Cond.classLink RL 15 "java/lang/IllegalStateException", Cond.methodLink RL 66 yX3_errata, Cond.instanceMethod yX3_errata, Cond.selects RX3 yX3_errata yX3_errata, Cond.initialized RX3, Cond.code yX3_errata cX3_errata 5 (some .int), Cond.methodLink RX3 147 yX3_findCopy, Cond.instanceMethod yX3_findCopy, Cond.selects RX3 yX3_findCopy yX3_findCopy, Cond.code yX3_findCopy cX3_findCopy 3 (some (.object "HarmoniumDesk$Copy")), Cond.classLink RX3 114 "java/lang/IndexOutOfBoundsException", Cond.initialized "java/lang/IndexOutOfBoundsException", Cond.fieldLink RX3 21 "HarmoniumDesk" "copies" "[LHarmoniumDesk$Copy;", Cond.methodLink RX3 63 yX3_findVersion, Cond.instanceMethod yX3_findVersion, Cond.selects RX3 yX3_findVersion yX3_findVersion, Cond.code yX3_findVersion cX3_findVersion 3 (some (.object "HarmoniumDesk$Version")), Cond.fieldLink RX3 11 "HarmoniumDesk" "versions" "[LHarmoniumDesk$Version;", Cond.methodLink RX3 151 yX3_checkAsManyBars, Cond.static yX3_checkAsManyBars, Cond.code yX3_checkAsManyBars cX3_checkAsManyBars 2 none, Cond.classLink RX3 85 "java/lang/IllegalStateException", Cond.initialized "java/lang/IllegalStateException"]
def wsL_errata_r2 : List Cond := [Cond.methodLink RX3 155 yX0_differingBars, Cond.instanceMethod yX0_differingBars, Cond.selects RX0 yX0_differingBars yX0_differingBars, Cond.initialized RX0, Cond.code yX0_differingBars cX0_differingBars 4 (some .int), Cond.fieldLink RX0 27 "HarmoniumDesk$Copy" "bars" "I", Cond.fieldLink RX0 9 "HarmoniumDesk$Copy" "tones" "[I", Cond.fieldLink RX0 19 "HarmoniumDesk$Copy" "voice" "I", Cond.methodLink RX0 32 yX1_tone, Cond.instanceMethod yX1_tone, Cond.selects RX1 yX1_tone yX1_tone, Cond.initialized RX1, Cond.code yX1_tone cX1_tone 4 (some .int), Cond.fieldLink RX1 15 "HarmoniumDesk$Score" "upper" "[I", Cond.fieldLink RX1 19 "HarmoniumDesk$Score" "lower" "[I"]
def wsL_errata : List Cond := .codeWith yL_errata cL_errata 5 (some .int) [(0, 10, 13, 20), (0, 10, 17, 15)] :: ((wsL_errata_r1 ++ wsL_errata_r2) ++ wsX20 ++ wsX30 ++ wsX00 ++ wsX10 ++ (vx_atS RX3 118 "java/lang/IndexOutOfBoundsException" ["java/lang/RuntimeException", "java/lang/Exception"]).filter goodWord ++ (vx_atS RX3 89 "java/lang/IllegalStateException" ["java/lang/RuntimeException", "java/lang/Exception"]).filter goodWord)
def wsL_slip_r1 : List Cond := [Cond.classLink RL 20 "java/lang/IndexOutOfBoundsException", Cond.classLink RL 15 "java/lang/IllegalStateException", Cond.methodLink RL 69 yX3_slip, Cond.instanceMethod yX3_slip, Cond.selects RX3 yX3_slip yX3_slip, Cond.initialized RX3, Cond.code yX3_slip cX3_slip 6 (some .int), Cond.methodLink RX3 147 yX3_findCopy, Cond.instanceMethod yX3_findCopy, Cond.selects RX3 yX3_findCopy yX3_findCopy, Cond.code yX3_findCopy cX3_findCopy 3 (some (.object "HarmoniumDesk$Copy")), Cond.classLink RX3 114 "java/lang/IndexOutOfBoundsException", Cond.initialized "java/lang/IndexOutOfBoundsException", Cond.fieldLink RX3 21 "HarmoniumDesk" "copies" "[LHarmoniumDesk$Copy;", Cond.methodLink RX3 63 yX3_findVersion, Cond.instanceMethod yX3_findVersion, Cond.selects RX3 yX3_findVersion yX3_findVersion, Cond.code yX3_findVersion cX3_findVersion 3 (some (.object "HarmoniumDesk$Version")), Cond.fieldLink RX3 11 "HarmoniumDesk" "versions" "[LHarmoniumDesk$Version;", Cond.methodLink RX3 151 yX3_checkAsManyBars, Cond.static yX3_checkAsManyBars, Cond.code yX3_checkAsManyBars cX3_checkAsManyBars 2 none, Cond.classLink RX3 85 "java/lang/IllegalStateException", Cond.initialized "java/lang/IllegalStateException"]
def wsL_slip_r2 : List Cond := [Cond.methodLink RX3 155 yX0_differingBars, Cond.instanceMethod yX0_differingBars, Cond.selects RX0 yX0_differingBars yX0_differingBars, Cond.initialized RX0, Cond.code yX0_differingBars cX0_differingBars 4 (some .int), Cond.fieldLink RX0 27 "HarmoniumDesk$Copy" "bars" "I", Cond.fieldLink RX0 9 "HarmoniumDesk$Copy" "tones" "[I", Cond.fieldLink RX0 19 "HarmoniumDesk$Copy" "voice" "I", Cond.methodLink RX0 32 yX1_tone, Cond.instanceMethod yX1_tone, Cond.selects RX1 yX1_tone yX1_tone, Cond.initialized RX1, Cond.code yX1_tone cX1_tone 4 (some .int), Cond.fieldLink RX1 15 "HarmoniumDesk$Score" "upper" "[I", Cond.fieldLink RX1 19 "HarmoniumDesk$Score" "lower" "[I", Cond.methodLink RX3 158 yJ6_bitCount_0f7a4, Cond.static yJ6_bitCount_0f7a4, Cond.initialized RJ6, Cond.code yJ6_bitCount_0f7a4 cJ6_bitCount_0f7a4 1 (some .int), Cond.constant RJ6 265 (1431655765), Cond.constant RJ6 266 (858993459), Cond.constant RJ6 267 (252645135), Cond.methodLink RX3 163 yX0_takeVoice, Cond.instanceMethod yX0_takeVoice]
def wsL_slip_r3 : List Cond := [Cond.selects RX0 yX0_takeVoice yX0_takeVoice, Cond.code yX0_takeVoice cX0_takeVoice 3 none]
def wsL_slip : List Cond := .codeWith yL_slip cL_slip 5 (some .int) [(0, 10, 13, 20), (0, 10, 17, 15)] :: ((wsL_slip_r1 ++ (wsL_slip_r2 ++ wsL_slip_r3)) ++ wsX20 ++ wsX00 ++ wsX30 ++ wsX10 ++ (vx_atS RX3 118 "java/lang/IndexOutOfBoundsException" ["java/lang/RuntimeException", "java/lang/Exception"]).filter goodWord ++ (vx_atS RX3 89 "java/lang/IllegalStateException" ["java/lang/RuntimeException", "java/lang/Exception"]).filter goodWord)
def wsL_slips : List Cond := .codeWith yL_slips cL_slips 4 (some .int) [(0, 9, 12, 20)] :: ([.classLink RL 20 "java/lang/IndexOutOfBoundsException", .methodLink RL 72 yX3_slips, .instanceMethod yX3_slips, .selects RX3 yX3_slips yX3_slips, .initialized RX3, .code yX3_slips cX3_slips 2 (some .int), .methodLink RX3 147 yX3_findCopy, .instanceMethod yX3_findCopy, .selects RX3 yX3_findCopy yX3_findCopy, .code yX3_findCopy cX3_findCopy 3 (some (.object "HarmoniumDesk$Copy")), .classLink RX3 114 "java/lang/IndexOutOfBoundsException", .initialized "java/lang/IndexOutOfBoundsException", .fieldLink RX3 21 "HarmoniumDesk" "copies" "[LHarmoniumDesk$Copy;"] ++ wsX00 ++ wsX30 ++ (vx_atS RX3 118 "java/lang/IndexOutOfBoundsException" ["java/lang/RuntimeException", "java/lang/Exception"]).filter goodWord)
def wsL_law0_r1 : List Cond := [Cond.classLink RL 8 RX3, Cond.instantiable RX3 7, Cond.initialized RX3, Cond.classLink RL 76 RX4, Cond.instantiable RX4 14, Cond.initialized RX4, Cond.arrayClass .long, Cond.arrayClass .double, Cond.methodLink RL 75 yX3_init, Cond.instanceMethod yX3_init, Cond.code yX3_init cX3_init 2 none, Cond.methodLink RX3 1 objectInit, Cond.instanceMethod objectInit, Cond.code objectInit ⟨#[0xb1]⟩ 1 none, Cond.classLink RX3 9 RX2, Cond.fieldLink RX3 11 "HarmoniumDesk" "versions" "[LHarmoniumDesk$Version;", Cond.fieldLink RX3 15 "HarmoniumDesk" "versionCount" "I", Cond.classLink RX3 19 RX0, Cond.fieldLink RX3 21 "HarmoniumDesk" "copies" "[LHarmoniumDesk$Copy;", Cond.fieldLink RX3 25 "HarmoniumDesk" "copyCount" "I", Cond.arrayClass .int, Cond.fieldLink RX3 28 "HarmoniumDesk" "weights" "[I", Cond.fieldLink RX3 32 "HarmoniumDesk" "passMark" "I", Cond.classLink RX3 35 RX1]
def wsL_law0_r2 : List Cond := [Cond.instantiable RX1 3, Cond.initialized RX1, Cond.fieldLink RX3 38 "HarmoniumDesk" "trial" "LHarmoniumDesk$Score;", Cond.instanceMethod yX1_init, Cond.code yX1_init cX1_init 1 none, Cond.methodLink RX1 3 objectInit, Cond.fieldLink RX1 9 "HarmoniumDesk$Score" "bars" "I", Cond.fieldLink RX1 15 "HarmoniumDesk$Score" "upper" "[I", Cond.fieldLink RX1 19 "HarmoniumDesk$Score" "lower" "[I", Cond.methodLink RL 78 yX4_init, Cond.instanceMethod yX4_init, Cond.code yX4_init cX4_init 2 none, Cond.methodLink RX4 1 objectInit, Cond.fieldLink RX4 7 "HarmoniumDeskModel" "bars" "[I", Cond.fieldLink RX4 13 "HarmoniumDeskModel" "parent" "[I", Cond.arrayClass .boolean, Cond.fieldLink RX4 16 "HarmoniumDeskModel" "isFixed" "[Z", Cond.fieldLink RX4 20 "HarmoniumDeskModel" "hasPassed" "[Z", Cond.fieldLink RX4 23 "HarmoniumDeskModel" "notes" "[I", Cond.fieldLink RX4 26 "HarmoniumDeskModel" "weight" "[I", Cond.fieldLink RX4 29 "HarmoniumDeskModel" "pass" "I", Cond.fieldLink RX4 33 "HarmoniumDeskModel" "longs" "[I", Cond.fieldLink RX4 36 "HarmoniumDeskModel" "voiceOf" "[I", Cond.fieldLink RX4 39 "HarmoniumDeskModel" "printed" "[I"]
def wsL_law0_r3 : List Cond := [Cond.fieldLink RX4 42 "HarmoniumDeskModel" "slips" "[I", Cond.methodLink RL 79 yL_begin, Cond.static yL_begin, Cond.initialized RL, Cond.codeWith yL_begin cL_begin 4 (some .int) [(0, 9, 12, 13), (0, 9, 15, 15)], Cond.classLink RL 13 "java/lang/IllegalArgumentException", Cond.classLink RL 15 "java/lang/IllegalStateException", Cond.methodLink RL 7 yX3_begin, Cond.instanceMethod yX3_begin, Cond.selects RX3 yX3_begin yX3_begin, Cond.code yX3_begin cX3_begin 3 (some .int), Cond.classLink RX3 42 "java/lang/IllegalArgumentException", Cond.initialized "java/lang/IllegalArgumentException", Cond.methodLink RX3 49 yX3_addVersion, Cond.instanceMethod yX3_addVersion, Cond.selects RX3 yX3_addVersion yX3_addVersion, Cond.code yX3_addVersion cX3_addVersion 3 (some (.object "HarmoniumDesk$Version")), Cond.classLink RX3 85 "java/lang/IllegalStateException", Cond.initialized "java/lang/IllegalStateException", Cond.instantiable RX2 5, Cond.initialized RX2, Cond.methodLink RX3 182 yX2_init, Cond.instanceMethod yX2_init, Cond.code yX2_init cX2_init 3 none]
def wsL_law0_r4 : List Cond := [Cond.methodLink RX2 1 objectInit, Cond.classLink RX2 7 RX1, Cond.fieldLink RX2 10 "HarmoniumDesk$Version" "score" "LHarmoniumDesk$Score;", Cond.fieldLink RX2 16 "HarmoniumDesk$Version" "fixed" "Z", Cond.fieldLink RX2 20 "HarmoniumDesk$Version" "passedWhenHandedIn" "Z", Cond.fieldLink RX2 23 "HarmoniumDesk$Version" "number" "I", Cond.fieldLink RX2 27 "HarmoniumDesk$Version" "parent" "LHarmoniumDesk$Version;", Cond.methodLink RX3 56 yX1_fill, Cond.instanceMethod yX1_fill, Cond.selects RX1 yX1_fill yX1_fill, Cond.code yX1_fill cX1_fill 4 none, Cond.methodLink RX1 22 yX1_setTone, Cond.instanceMethod yX1_setTone, Cond.selects RX1 yX1_setTone yX1_setTone, Cond.code yX1_setTone cX1_setTone 5 none, Cond.methodLink RL 84 yX4_begin, Cond.instanceMethod yX4_begin, Cond.selects RX4 yX4_begin yX4_begin, Cond.code yX4_begin cX4_begin 3 (some .int), Cond.fieldLink RX4 48 "HarmoniumDeskModel" "versions" "I", Cond.methodLink RX4 51 yX4_isIn, Cond.static yX4_isIn, Cond.code yX4_isIn cX4_isIn 3 (some .boolean), Cond.methodLink RX4 59 yX4_fails]
def wsL_law0_r5 : List Cond := [Cond.instanceMethod yX4_fails, Cond.selects RX4 yX4_fails yX4_fails, Cond.code yX4_fails cX4_fails 2 (some .boolean), Cond.fieldLink RX4 45 "HarmoniumDeskModel" "thrown" "I", Cond.methodLink RX4 62 yX4_at, Cond.static yX4_at, Cond.code yX4_at cX4_at 3 (some .int), Cond.methodLink RL 85 yX4_thrown, Cond.instanceMethod yX4_thrown, Cond.selects RX4 yX4_thrown yX4_thrown, Cond.code yX4_thrown cX4_thrown 1 (some .int), Cond.methodLink RL 89 yL_branch, Cond.static yL_branch, Cond.codeWith yL_branch cL_branch 4 (some .int) [(0, 9, 12, 20), (0, 9, 15, 15)], Cond.classLink RL 20 "java/lang/IndexOutOfBoundsException", Cond.methodLink RL 17 yX3_branch, Cond.instanceMethod yX3_branch, Cond.selects RX3 yX3_branch yX3_branch, Cond.code yX3_branch cX3_branch 4 (some .int), Cond.methodLink RX3 63 yX3_findVersion, Cond.instanceMethod yX3_findVersion, Cond.selects RX3 yX3_findVersion yX3_findVersion, Cond.code yX3_findVersion cX3_findVersion 3 (some (.object "HarmoniumDesk$Version")), Cond.classLink RX3 114 "java/lang/IndexOutOfBoundsException"]
def wsL_law0_r6 : List Cond := [Cond.initialized "java/lang/IndexOutOfBoundsException", Cond.methodLink RX3 67 yX1_takeAll, Cond.instanceMethod yX1_takeAll, Cond.selects RX1 yX1_takeAll yX1_takeAll, Cond.code yX1_takeAll cX1_takeAll 3 none, Cond.methodLink RX1 26 yX1_takeBar, Cond.instanceMethod yX1_takeBar, Cond.selects RX1 yX1_takeBar yX1_takeBar, Cond.code yX1_takeBar cX1_takeBar 3 none, Cond.methodLink RX1 30 yX1_tone, Cond.instanceMethod yX1_tone, Cond.selects RX1 yX1_tone yX1_tone, Cond.code yX1_tone cX1_tone 4 (some .int), Cond.methodLink RL 91 yX4_branch, Cond.instanceMethod yX4_branch, Cond.selects RX4 yX4_branch yX4_branch, Cond.code yX4_branch cX4_branch 2 (some .int), Cond.methodLink RX4 55 yX4_isVersion, Cond.instanceMethod yX4_isVersion, Cond.selects RX4 yX4_isVersion yX4_isVersion, Cond.code yX4_isVersion cX4_isVersion 2 (some .boolean), Cond.methodLink RX4 66 yX4_makes, Cond.instanceMethod yX4_makes, Cond.selects RX4 yX4_makes yX4_makes]
def wsL_law0_r7 : List Cond := [Cond.code yX4_makes cX4_makes 3 (some .int), Cond.methodLink RL 92 yL_setNote, Cond.static yL_setNote, Cond.codeWith yL_setNote cL_setNote 7 (some .int) [(0, 14, 17, 20), (0, 14, 21, 13), (0, 14, 25, 15)], Cond.methodLink RL 22 yX3_setNote, Cond.instanceMethod yX3_setNote, Cond.selects RX3 yX3_setNote yX3_setNote, Cond.code yX3_setNote cX3_setNote 7 (some .int), Cond.methodLink RX3 75 yX3_checkVoice, Cond.static yX3_checkVoice, Cond.code yX3_checkVoice cX3_checkVoice 1 none, Cond.methodLink RX3 79 yX3_checkBar, Cond.static yX3_checkBar, Cond.code yX3_checkBar cX3_checkBar 2 none, Cond.methodLink RX3 90 yX1_tone, Cond.methodLink RX3 94 yX1_setTone, Cond.methodLink RL 95 yX4_setNote, Cond.instanceMethod yX4_setNote, Cond.selects RX4 yX4_setNote yX4_setNote, Cond.code yX4_setNote cX4_setNote 7 (some .int), Cond.methodLink RX4 70 yX4_isNote, Cond.instanceMethod yX4_isNote, Cond.selects RX4 yX4_isNote yX4_isNote, Cond.code yX4_isNote cX4_isNote 4 (some .boolean)]
def wsL_law0_r8 : List Cond := [Cond.methodLink RL 96 yL_note, Cond.static yL_note, Cond.codeWith yL_note cL_note 6 (some .int) [(0, 12, 15, 20)], Cond.methodLink RL 26 yX3_note, Cond.instanceMethod yX3_note, Cond.selects RX3 yX3_note yX3_note, Cond.code yX3_note cX3_note 5 (some .int), Cond.methodLink RL 99 yX4_note, Cond.instanceMethod yX4_note, Cond.selects RX4 yX4_note yX4_note, Cond.code yX4_note cX4_note 4 (some .int), Cond.methodLink RL 100 yL_base, Cond.static yL_base, Cond.codeWith yL_base cL_base 5 (some .int) [(0, 10, 13, 20)], Cond.methodLink RL 30 yX3_base, Cond.instanceMethod yX3_base, Cond.selects RX3 yX3_base yX3_base, Cond.code yX3_base cX3_base 4 (some .int), Cond.methodLink RX3 98 yX3_commonAncestor, Cond.static yX3_commonAncestor, Cond.code yX3_commonAncestor cX3_commonAncestor 3 (some (.object "HarmoniumDesk$Version")), Cond.methodLink RX3 190 yX3_isAncestor, Cond.static yX3_isAncestor, Cond.code yX3_isAncestor cX3_isAncestor 3 (some .boolean)]
def wsL_law0_r9 : List Cond := [Cond.methodLink RL 103 yX4_base, Cond.instanceMethod yX4_base, Cond.selects RX4 yX4_base yX4_base, Cond.code yX4_base cX4_base 3 (some .int), Cond.methodLink RX4 77 yX4_baseOf, Cond.instanceMethod yX4_baseOf, Cond.selects RX4 yX4_baseOf yX4_baseOf, Cond.code yX4_baseOf cX4_baseOf 5 (some .int), Cond.methodLink RX4 73 yX4_isAncestor, Cond.instanceMethod yX4_isAncestor, Cond.selects RX4 yX4_isAncestor yX4_isAncestor, Cond.code yX4_isAncestor cX4_isAncestor 5 (some .boolean), Cond.methodLink RL 104 yL_conflicts, Cond.static yL_conflicts, Cond.codeWith yL_conflicts cL_conflicts 5 (some .int) [(0, 10, 13, 20), (0, 10, 17, 15)], Cond.methodLink RL 34 yX3_conflicts, Cond.instanceMethod yX3_conflicts, Cond.selects RX3 yX3_conflicts yX3_conflicts, Cond.code yX3_conflicts cX3_conflicts 6 (some .int), Cond.methodLink RX3 104 yX3_conflictingBars, Cond.static yX3_conflictingBars, Cond.code yX3_conflictingBars cX3_conflictingBars 5 (some .int), Cond.methodLink RX3 198 yX1_sameBar, Cond.instanceMethod yX1_sameBar]
def wsL_law0_r10 : List Cond := [Cond.selects RX1 yX1_sameBar yX1_sameBar, Cond.code yX1_sameBar cX1_sameBar 3 (some .boolean), Cond.methodLink RL 106 yX4_conflicts, Cond.instanceMethod yX4_conflicts, Cond.selects RX4 yX4_conflicts yX4_conflicts, Cond.code yX4_conflicts cX4_conflicts 7 (some .int), Cond.methodLink RX4 81 yX4_areAlike, Cond.instanceMethod yX4_areAlike, Cond.selects RX4 yX4_areAlike yX4_areAlike, Cond.code yX4_areAlike cX4_areAlike 4 (some .boolean), Cond.methodLink RL 107 yL_merge, Cond.static yL_merge, Cond.codeWith yL_merge cL_merge 5 (some .int) [(0, 10, 13, 20), (0, 10, 17, 13), (0, 10, 21, 15)], Cond.methodLink RL 37 yX3_merge, Cond.instanceMethod yX3_merge, Cond.selects RX3 yX3_merge yX3_merge, Cond.code yX3_merge cX3_merge 7 (some .int), Cond.methodLink RX3 110 yX3_mergeInto, Cond.static yX3_mergeInto, Cond.code yX3_mergeInto cX3_mergeInto 5 none, Cond.methodLink RX3 202 yX1_takeBar, Cond.methodLink RL 109 yX4_merge, Cond.instanceMethod yX4_merge, Cond.selects RX4 yX4_merge yX4_merge]
def wsL_law0_r11 : List Cond := [Cond.code yX4_merge cX4_merge 7 (some .int), Cond.methodLink RL 110 yL_setWeight, Cond.static yL_setWeight, Cond.codeWith yL_setWeight cL_setWeight 5 (some .int) [(0, 10, 13, 20), (0, 10, 17, 13)], Cond.methodLink RL 40 yX3_setWeight, Cond.instanceMethod yX3_setWeight, Cond.selects RX3 yX3_setWeight yX3_setWeight, Cond.code yX3_setWeight cX3_setWeight 4 (some .int), Cond.methodLink RL 112 yX4_setWeight, Cond.instanceMethod yX4_setWeight, Cond.selects RX4 yX4_setWeight yX4_setWeight, Cond.code yX4_setWeight cX4_setWeight 5 (some .int), Cond.methodLink RL 113 yL_setPass, Cond.static yL_setPass, Cond.codeWith yL_setPass cL_setPass 4 (some .int) [(0, 9, 12, 13)], Cond.methodLink RL 43 yX3_setPass, Cond.instanceMethod yX3_setPass, Cond.selects RX3 yX3_setPass yX3_setPass, Cond.code yX3_setPass cX3_setPass 3 (some .int), Cond.methodLink RL 115 yX4_setPass, Cond.instanceMethod yX4_setPass, Cond.selects RX4 yX4_setPass yX4_setPass, Cond.code yX4_setPass cX4_setPass 3 (some .int), Cond.methodLink RL 116 yL_faults]
def wsL_law0_r12 : List Cond := [Cond.static yL_faults, Cond.codeWith yL_faults cL_faults 6 (some .int) [(0, 12, 15, 20)], Cond.methodLink RL 46 yX3_faults, Cond.instanceMethod yX3_faults, Cond.selects RX3 yX3_faults yX3_faults, Cond.code yX3_faults cX3_faults 5 (some .int), Cond.methodLink RX3 123 yX1_faultsOf, Cond.instanceMethod yX1_faultsOf, Cond.selects RX1 yX1_faultsOf yX1_faultsOf, Cond.code yX1_faultsOf cX1_faultsOf 3 (some .int), Cond.methodLink RX1 37 yX1_isDiscord, Cond.instanceMethod yX1_isDiscord, Cond.selects RX1 yX1_isDiscord yX1_isDiscord, Cond.code yX1_isDiscord cX1_isDiscord 2 (some .boolean), Cond.methodLink RX1 59 yX1_interval, Cond.instanceMethod yX1_interval, Cond.selects RX1 yX1_interval yX1_interval, Cond.code yX1_interval cX1_interval 2 (some .int), Cond.methodLink RX1 54 Lib.Math.abs.name, Cond.static Lib.Math.abs.name, Cond.initialized "java/lang/Math", Cond.code Lib.Math.abs.name Lib.Math.abs.code 1 (some .int), Cond.methodLink RX1 41 yX1_isParallel, Cond.instanceMethod yX1_isParallel]
def wsL_law0_r13 : List Cond := [Cond.selects RX1 yX1_isParallel yX1_isParallel, Cond.code yX1_isParallel cX1_isParallel 2 (some .boolean), Cond.methodLink RX1 34 yX1_stepTo, Cond.instanceMethod yX1_stepTo, Cond.selects RX1 yX1_stepTo yX1_stepTo, Cond.code yX1_stepTo cX1_stepTo 3 (some .int), Cond.methodLink RX1 62 yX1_isPerfect, Cond.static yX1_isPerfect, Cond.code yX1_isPerfect cX1_isPerfect 1 (some .boolean), Cond.methodLink RX1 44 yX1_leapsTo, Cond.instanceMethod yX1_leapsTo, Cond.selects RX1 yX1_leapsTo yX1_leapsTo, Cond.code yX1_leapsTo cX1_leapsTo 4 (some .int), Cond.methodLink RX1 48 yX1_badEndsAt, Cond.instanceMethod yX1_badEndsAt, Cond.selects RX1 yX1_badEndsAt yX1_badEndsAt, Cond.code yX1_badEndsAt cX1_badEndsAt 4 (some .int), Cond.methodLink RX1 51 yX1_isStanding, Cond.instanceMethod yX1_isStanding, Cond.selects RX1 yX1_isStanding yX1_isStanding, Cond.code yX1_isStanding cX1_isStanding 2 (some .boolean), Cond.methodLink RL 118 yX4_faults, Cond.instanceMethod yX4_faults, Cond.selects RX4 yX4_faults yX4_faults]
def wsL_law0_r14 : List Cond := [Cond.code yX4_faults cX4_faults 5 (some .int), Cond.methodLink RX4 96 yX4_faultsAt, Cond.instanceMethod yX4_faultsAt, Cond.selects RX4 yX4_faultsAt yX4_faultsAt, Cond.code yX4_faultsAt cX4_faultsAt 6 (some .int), Cond.methodLink RX4 87 yX4_interval, Cond.instanceMethod yX4_interval, Cond.selects RX4 yX4_interval yX4_interval, Cond.code yX4_interval cX4_interval 3 (some .int), Cond.methodLink RX4 84 yX4_away, Cond.static yX4_away, Cond.code yX4_away cX4_away 2 (some .int), Cond.methodLink RX4 90 yX4_stays, Cond.instanceMethod yX4_stays, Cond.selects RX4 yX4_stays yX4_stays, Cond.code yX4_stays cX4_stays 4 (some .boolean), Cond.methodLink RX4 93 yX4_leap, Cond.instanceMethod yX4_leap, Cond.selects RX4 yX4_leap yX4_leap, Cond.code yX4_leap cX4_leap 4 (some .int), Cond.methodLink RL 119 yL_mark, Cond.static yL_mark, Cond.codeWith yL_mark cL_mark 4 (some .int) [(0, 9, 12, 20)], Cond.methodLink RL 49 yX3_mark]
def wsL_law0_r15 : List Cond := [Cond.instanceMethod yX3_mark, Cond.selects RX3 yX3_mark yX3_mark, Cond.code yX3_mark cX3_mark 2 (some .int), Cond.methodLink RX3 126 yX3_markOf, Cond.instanceMethod yX3_markOf, Cond.selects RX3 yX3_markOf yX3_markOf, Cond.code yX3_markOf cX3_markOf 2 (some .int), Cond.methodLink RX3 210 Lib.Math.max.name, Cond.static Lib.Math.max.name, Cond.code Lib.Math.max.name Lib.Math.max.code 2 (some .int), Cond.methodLink RX3 206 yX3_weightedFaults, Cond.instanceMethod yX3_weightedFaults, Cond.selects RX3 yX3_weightedFaults yX3_weightedFaults, Cond.code yX3_weightedFaults cX3_weightedFaults 7 (some .int), Cond.methodLink RL 121 yX4_mark, Cond.instanceMethod yX4_mark, Cond.selects RX4 yX4_mark yX4_mark, Cond.code yX4_mark cX4_mark 2 (some .int), Cond.methodLink RX4 102 yX4_markOf, Cond.instanceMethod yX4_markOf, Cond.selects RX4 yX4_markOf yX4_markOf, Cond.code yX4_markOf cX4_markOf 2 (some .int), Cond.methodLink RX4 99 yX4_costs, Cond.instanceMethod yX4_costs]
def wsL_law0_r16 : List Cond := [Cond.selects RX4 yX4_costs yX4_costs, Cond.code yX4_costs cX4_costs 4 (some .int), Cond.methodLink RL 122 yL_handIn, Cond.static yL_handIn, Cond.codeWith yL_handIn cL_handIn 4 (some .int) [(0, 16, 19, 20)], Cond.methodLink RL 52 yX3_handIn, Cond.instanceMethod yX3_handIn, Cond.selects RX3 yX3_handIn yX3_handIn, Cond.code yX3_handIn cX3_handIn 3 (some .boolean), Cond.methodLink RL 124 yX4_handIn, Cond.instanceMethod yX4_handIn, Cond.selects RX4 yX4_handIn yX4_handIn, Cond.code yX4_handIn cX4_handIn 2 (some .boolean), Cond.methodLink RL 125 yX3_fallen, Cond.instanceMethod yX3_fallen, Cond.selects RX3 yX3_fallen yX3_fallen, Cond.code yX3_fallen cX3_fallen 4 (some .int), Cond.methodLink RL 128 yX4_fallen, Cond.instanceMethod yX4_fallen, Cond.selects RX4 yX4_fallen yX4_fallen, Cond.code yX4_fallen cX4_fallen 3 (some .int), Cond.methodLink RL 129 yL_best, Cond.static yL_best, Cond.codeWith yL_best cL_best 6 (some .int) [(0, 12, 15, 20)]]
def wsL_law0_r17 : List Cond := [Cond.methodLink RL 56 yX3_best, Cond.instanceMethod yX3_best, Cond.selects RX3 yX3_best yX3_best, Cond.code yX3_best cX3_best 5 (some .int), Cond.methodLink RX3 133 yX3_bestTone, Cond.instanceMethod yX3_bestTone, Cond.selects RX3 yX3_bestTone yX3_bestTone, Cond.code yX3_bestTone cX3_bestTone 8 (some .int), Cond.methodLink RX3 215 Lib.Math.min.name, Cond.static Lib.Math.min.name, Cond.code Lib.Math.min.name Lib.Math.min.code 2 (some .int), Cond.methodLink RL 131 yX4_best, Cond.instanceMethod yX4_best, Cond.selects RX4 yX4_best yX4_best, Cond.code yX4_best cX4_best 10 (some .int), Cond.methodLink RL 132 yL_movement, Cond.static yL_movement, Cond.codeWith yL_movement cL_movement 5 (some .int) [(0, 10, 13, 20)], Cond.methodLink RL 59 yX3_movement, Cond.instanceMethod yX3_movement, Cond.selects RX3 yX3_movement yX3_movement, Cond.code yX3_movement cX3_movement 5 (some .float), Cond.methodLink RX3 139 yX1_wayOf, Cond.instanceMethod yX1_wayOf]
def wsL_law0_r18 : List Cond := [Cond.selects RX1 yX1_wayOf yX1_wayOf, Cond.code yX1_wayOf cX1_wayOf 4 (some .int), Cond.methodLink RL 135 yX4_movement, Cond.instanceMethod yX4_movement, Cond.selects RX4 yX4_movement yX4_movement, Cond.code yX4_movement cX4_movement 5 (some .float), Cond.methodLink RL 136 yL_print, Cond.static yL_print, Cond.codeWith yL_print cL_print 5 (some .int) [(0, 10, 13, 20), (0, 10, 17, 15)], Cond.methodLink RL 63 yX3_print, Cond.instanceMethod yX3_print, Cond.selects RX3 yX3_print yX3_print, Cond.code yX3_print cX3_print 5 (some .int), Cond.methodLink RX3 143 yX3_addCopy, Cond.instanceMethod yX3_addCopy, Cond.selects RX3 yX3_addCopy yX3_addCopy, Cond.code yX3_addCopy cX3_addCopy 4 (some .int), Cond.instantiable RX0 4, Cond.initialized RX0, Cond.methodLink RX3 187 yX0_init, Cond.instanceMethod yX0_init, Cond.code yX0_init cX0_init 3 none, Cond.methodLink RX0 3 objectInit, Cond.fieldLink RX0 9 "HarmoniumDesk$Copy" "tones" "[I"]
def wsL_law0_r19 : List Cond := [Cond.fieldLink RX0 15 "HarmoniumDesk$Copy" "slipCount" "I", Cond.fieldLink RX0 19 "HarmoniumDesk$Copy" "voice" "I", Cond.fieldLink RX0 27 "HarmoniumDesk$Copy" "bars" "I", Cond.methodLink RX0 28 yX0_takeVoice, Cond.instanceMethod yX0_takeVoice, Cond.selects RX0 yX0_takeVoice yX0_takeVoice, Cond.code yX0_takeVoice cX0_takeVoice 3 none, Cond.methodLink RX0 32 yX1_tone, Cond.methodLink RL 138 yX4_print, Cond.instanceMethod yX4_print, Cond.selects RX4 yX4_print yX4_print, Cond.code yX4_print cX4_print 5 (some .int), Cond.fieldLink RX4 105 "HarmoniumDeskModel" "copies" "I", Cond.methodLink RL 139 yL_errata, Cond.static yL_errata, Cond.codeWith yL_errata cL_errata 5 (some .int) [(0, 10, 13, 20), (0, 10, 17, 15)], Cond.methodLink RL 66 yX3_errata, Cond.instanceMethod yX3_errata, Cond.selects RX3 yX3_errata yX3_errata, Cond.code yX3_errata cX3_errata 5 (some .int), Cond.methodLink RX3 147 yX3_findCopy, Cond.instanceMethod yX3_findCopy, Cond.selects RX3 yX3_findCopy yX3_findCopy, Cond.code yX3_findCopy cX3_findCopy 3 (some (.object "HarmoniumDesk$Copy"))]
def wsL_law0_r20 : List Cond := [Cond.methodLink RX3 151 yX3_checkAsManyBars, Cond.static yX3_checkAsManyBars, Cond.code yX3_checkAsManyBars cX3_checkAsManyBars 2 none, Cond.methodLink RX3 155 yX0_differingBars, Cond.instanceMethod yX0_differingBars, Cond.selects RX0 yX0_differingBars yX0_differingBars, Cond.code yX0_differingBars cX0_differingBars 4 (some .int), Cond.methodLink RL 141 yX4_errata, Cond.instanceMethod yX4_errata, Cond.selects RX4 yX4_errata yX4_errata, Cond.code yX4_errata cX4_errata 3 (some .int), Cond.methodLink RX4 111 yX4_misses, Cond.instanceMethod yX4_misses, Cond.selects RX4 yX4_misses yX4_misses, Cond.code yX4_misses cX4_misses 3 (some .int), Cond.methodLink RX4 108 yX4_isCopy, Cond.instanceMethod yX4_isCopy, Cond.selects RX4 yX4_isCopy yX4_isCopy, Cond.code yX4_isCopy cX4_isCopy 2 (some .boolean), Cond.methodLink RX4 114 yX4_differs, Cond.instanceMethod yX4_differs, Cond.selects RX4 yX4_differs yX4_differs, Cond.code yX4_differs cX4_differs 5 (some .int), Cond.methodLink RL 142 yL_slip]
def wsL_law0_r21 : List Cond := [Cond.static yL_slip, Cond.codeWith yL_slip cL_slip 5 (some .int) [(0, 10, 13, 20), (0, 10, 17, 15)], Cond.methodLink RL 69 yX3_slip, Cond.instanceMethod yX3_slip, Cond.selects RX3 yX3_slip yX3_slip, Cond.code yX3_slip cX3_slip 6 (some .int), Cond.methodLink RX3 158 yJ6_bitCount_0f7a4, Cond.static yJ6_bitCount_0f7a4, Cond.initialized RJ6, Cond.code yJ6_bitCount_0f7a4 cJ6_bitCount_0f7a4 1 (some .int), Cond.constant RJ6 265 (1431655765), Cond.constant RJ6 266 (858993459), Cond.constant RJ6 267 (252645135), Cond.methodLink RX3 163 yX0_takeVoice, Cond.methodLink RL 144 yX4_slip, Cond.instanceMethod yX4_slip, Cond.selects RX4 yX4_slip yX4_slip, Cond.code yX4_slip cX4_slip 6 (some .int), Cond.methodLink RL 145 yL_slips, Cond.static yL_slips, Cond.codeWith yL_slips cL_slips 4 (some .int) [(0, 9, 12, 20)], Cond.methodLink RL 72 yX3_slips, Cond.instanceMethod yX3_slips, Cond.selects RX3 yX3_slips yX3_slips]
def wsL_law0_r22 : List Cond := [Cond.code yX3_slips cX3_slips 2 (some .int), Cond.methodLink RL 147 yX4_slips, Cond.instanceMethod yX4_slips, Cond.selects RX4 yX4_slips yX4_slips, Cond.code yX4_slips cX4_slips 2 (some .int)]
def wsL_law0 : List Cond := (wsL_law0_r1 ++ (wsL_law0_r2 ++ (wsL_law0_r3 ++ (wsL_law0_r4 ++ (wsL_law0_r5 ++ (wsL_law0_r6 ++ (wsL_law0_r7 ++ (wsL_law0_r8 ++ (wsL_law0_r9 ++ (wsL_law0_r10 ++ (wsL_law0_r11 ++ (wsL_law0_r12 ++ (wsL_law0_r13 ++ (wsL_law0_r14 ++ (wsL_law0_r15 ++ (wsL_law0_r16 ++ (wsL_law0_r17 ++ (wsL_law0_r18 ++ (wsL_law0_r19 ++ (wsL_law0_r20 ++ (wsL_law0_r21 ++ wsL_law0_r22))))))))))))))))))))) ++ wsX30 ++ wsX40 ++ wsX10 ++ wsX20 ++ wsX00 ++ ([] : List Cond)
def wsL_law : List Cond := wsL_law0 ++ (vx_atS RX3 46 "java/lang/IllegalArgumentException" ["java/lang/RuntimeException", "java/lang/Exception"]).filter goodWord ++ (vx_atS RX3 89 "java/lang/IllegalStateException" ["java/lang/RuntimeException", "java/lang/Exception"]).filter goodWord ++ (vx_atS RX3 118 "java/lang/IndexOutOfBoundsException" ["java/lang/RuntimeException", "java/lang/Exception"]).filter goodWord
set_option maxRecDepth 20000 in
abbrev vwCl : List vw_C := [(RX0, TX0, 4), (RX1, TX1, 3), (RX2, TX2, 5), (RX3, TX3, 7), (RX4, TX4, 14)]
/-! ===== END printed: names (the pool behind it left out: it needs a word that is refused) ===== -/
end
section
set_option maxRecDepth 20000 in
theorem ggX0_init_X0_takeVoice : GoodIn wsX0_init wsX0_takeVoice := goodIn_r _ [13, 8, 5, 7, 14, 15, 16, 17, 18, 19, 20, 21, 22, 23, 24, 25, 26, 27] (by decide +kernel) (by decide +kernel)
set_option maxRecDepth 20000 in
theorem gX0_init_X0_takeVoice : GoodIn wsX0_init (wsV RX0 28 RX0 yX0_takeVoice wsX0_takeVoice) := goodIn_app (goodIn_of _ (by decide +kernel)) ggX0_init_X0_takeVoice
theorem dX0_init_0 : decode cX0_init 0 = .ok (.aload_n 0, 1) := by decide +kernel
theorem dX0_init_1 : decode cX0_init 1 = .ok (.invokespecial 3, 3) := by decide +kernel
theorem dX0_init_4 : decode cX0_init 4 = .ok (.aload_n 0, 1) := by decide +kernel
theorem dX0_init_5 : decode cX0_init 5 = .ok (.bipush 12, 2) := by decide +kernel
theorem dX0_init_7 : decode cX0_init 7 = .ok (.newarray .int, 2) := by decide +kernel
theorem dX0_init_9 : decode cX0_init 9 = .ok (.putfield 9, 3) := by decide +kernel
theorem dX0_init_12 : decode cX0_init 12 = .ok (.aload_n 0, 1) := by decide +kernel
theorem dX0_init_13 : decode cX0_init 13 = .ok (.iconst 0, 1) := by decide +kernel
theorem dX0_init_14 : decode cX0_init 14 = .ok (.putfield 15, 3) := by decide +kernel
theorem dX0_init_17 : decode cX0_init 17 = .ok (.aload_n 0, 1) := by decide +kernel
theorem dX0_init_18 : decode cX0_init 18 = .ok (.iload_n 1, 1) := by decide +kernel
theorem dX0_init_19 : decode cX0_init 19 = .ok (.putfield 19, 3) := by decide +kernel
theorem dX0_init_22 : decode cX0_init 22 = .ok (.aload_n 0, 1) := by decide +kernel
theorem dX0_init_23 : decode cX0_init 23 = .ok (.aload_n 2, 1) := by decide +kernel
theorem dX0_init_24 : decode cX0_init 24 = .ok (.getfield 22, 3) := by decide +kernel
theorem dX0_init_27 : decode cX0_init 27 = .ok (.putfield 27, 3) := by decide +kernel
theorem dX0_init_30 : decode cX0_init 30 = .ok (.aload_n 0, 1) := by decide +kernel
theorem dX0_init_31 : decode cX0_init 31 = .ok (.aload_n 2, 1) := by decide +kernel
theorem dX0_init_32 : decode cX0_init 32 = .ok (.invokevirtual 28, 3) := by decide +kernel
theorem dX0_init_35 : decode cX0_init 35 = .ok (.return_, 1) := by decide +kernel
set_option maxRecDepth 20000 in
theorem ggX0_takeVoice_X1_tone : GoodIn wsX0_takeVoice wsX1_tone := goodIn_r _ [8, 9, 10, 15, 16, 17] (by decide +kernel) (by decide +kernel)
set_option maxRecDepth 20000 in
theorem gX0_takeVoice_X1_tone : GoodIn wsX0_takeVoice (wsV RX0 32 RX1 yX1_tone wsX1_tone) := goodIn_app (goodIn_of _ (by decide +kernel)) ggX0_takeVoice_X1_tone
theorem dX0_takeVoice_0 : decode cX0_takeVoice 0 = .ok (.iconst 0, 1) := by decide +kernel
theorem dX0_takeVoice_1 : decode cX0_takeVoice 1 = .ok (.istore_n 2, 1) := by decide +kernel
theorem dX0_takeVoice_2 : decode cX0_takeVoice 2 = .ok (.iload_n 2, 1) := by decide +kernel
theorem dX0_takeVoice_3 : decode cX0_takeVoice 3 = .ok (.aload_n 0, 1) := by decide +kernel
theorem dX0_takeVoice_4 : decode cX0_takeVoice 4 = .ok (.getfield 27, 3) := by decide +kernel
theorem dX0_takeVoice_7 : decode cX0_takeVoice 7 = .ok (.if_icmp .ge 33, 3) := by decide +kernel
theorem dX0_takeVoice_10 : decode cX0_takeVoice 10 = .ok (.iload_n 2, 1) := by decide +kernel
theorem dX0_takeVoice_11 : decode cX0_takeVoice 11 = .ok (.aload_n 0, 1) := by decide +kernel
theorem dX0_takeVoice_12 : decode cX0_takeVoice 12 = .ok (.getfield 9, 3) := by decide +kernel
theorem dX0_takeVoice_15 : decode cX0_takeVoice 15 = .ok (.arraylength, 1) := by decide +kernel
theorem dX0_takeVoice_16 : decode cX0_takeVoice 16 = .ok (.if_icmp .ge 24, 3) := by decide +kernel
theorem dX0_takeVoice_19 : decode cX0_takeVoice 19 = .ok (.aload_n 0, 1) := by decide +kernel
theorem dX0_takeVoice_20 : decode cX0_takeVoice 20 = .ok (.getfield 9, 3) := by decide +kernel
theorem dX0_takeVoice_23 : decode cX0_takeVoice 23 = .ok (.iload_n 2, 1) := by decide +kernel
theorem dX0_takeVoice_24 : decode cX0_takeVoice 24 = .ok (.aload_n 1, 1) := by decide +kernel
theorem dX0_takeVoice_25 : decode cX0_takeVoice 25 = .ok (.aload_n 0, 1) := by decide +kernel
theorem dX0_takeVoice_26 : decode cX0_takeVoice 26 = .ok (.getfield 19, 3) := by decide +kernel
theorem dX0_takeVoice_29 : decode cX0_takeVoice 29 = .ok (.iload_n 2, 1) := by decide +kernel
theorem dX0_takeVoice_30 : decode cX0_takeVoice 30 = .ok (.invokevirtual 32, 3) := by decide +kernel
theorem dX0_takeVoice_33 : decode cX0_takeVoice 33 = .ok (.iastore, 1) := by decide +kernel
theorem dX0_takeVoice_34 : decode cX0_takeVoice 34 = .ok (.iinc 2 1, 3) := by decide +kernel
theorem dX0_takeVoice_37 : decode cX0_takeVoice 37 = .ok (.goto (-35), 3) := by decide +kernel
theorem dX0_takeVoice_40 : decode cX0_takeVoice 40 = .ok (.return_, 1) := by decide +kernel
set_option maxRecDepth 20000 in
theorem ggX0_differingBars_X1_tone : GoodIn wsX0_differingBars wsX1_tone := goodIn_r _ [8, 9, 10, 15, 16, 17] (by decide +kernel) (by decide +kernel)
set_option maxRecDepth 20000 in
theorem gX0_differingBars_X1_tone : GoodIn wsX0_differingBars (wsV RX0 32 RX1 yX1_tone wsX1_tone) := goodIn_app (goodIn_of _ (by decide +kernel)) ggX0_differingBars_X1_tone
theorem dX0_differingBars_0 : decode cX0_differingBars 0 = .ok (.iconst 0, 1) := by decide +kernel
theorem dX0_differingBars_1 : decode cX0_differingBars 1 = .ok (.istore_n 2, 1) := by decide +kernel
theorem dX0_differingBars_2 : decode cX0_differingBars 2 = .ok (.iconst 0, 1) := by decide +kernel
theorem dX0_differingBars_3 : decode cX0_differingBars 3 = .ok (.istore_n 3, 1) := by decide +kernel
theorem dX0_differingBars_4 : decode cX0_differingBars 4 = .ok (.iload_n 3, 1) := by decide +kernel
theorem dX0_differingBars_5 : decode cX0_differingBars 5 = .ok (.aload_n 0, 1) := by decide +kernel
theorem dX0_differingBars_6 : decode cX0_differingBars 6 = .ok (.getfield 27, 3) := by decide +kernel
theorem dX0_differingBars_9 : decode cX0_differingBars 9 = .ok (.if_icmp .ge 42, 3) := by decide +kernel
theorem dX0_differingBars_12 : decode cX0_differingBars 12 = .ok (.iload_n 3, 1) := by decide +kernel
theorem dX0_differingBars_13 : decode cX0_differingBars 13 = .ok (.aload_n 0, 1) := by decide +kernel
theorem dX0_differingBars_14 : decode cX0_differingBars 14 = .ok (.getfield 9, 3) := by decide +kernel
theorem dX0_differingBars_17 : decode cX0_differingBars 17 = .ok (.arraylength, 1) := by decide +kernel
theorem dX0_differingBars_18 : decode cX0_differingBars 18 = .ok (.if_icmp .ge 33, 3) := by decide +kernel
theorem dX0_differingBars_21 : decode cX0_differingBars 21 = .ok (.aload_n 0, 1) := by decide +kernel
theorem dX0_differingBars_22 : decode cX0_differingBars 22 = .ok (.getfield 9, 3) := by decide +kernel
theorem dX0_differingBars_25 : decode cX0_differingBars 25 = .ok (.iload_n 3, 1) := by decide +kernel
theorem dX0_differingBars_26 : decode cX0_differingBars 26 = .ok (.iaload, 1) := by decide +kernel
theorem dX0_differingBars_27 : decode cX0_differingBars 27 = .ok (.aload_n 1, 1) := by decide +kernel
theorem dX0_differingBars_28 : decode cX0_differingBars 28 = .ok (.aload_n 0, 1) := by decide +kernel
theorem dX0_differingBars_29 : decode cX0_differingBars 29 = .ok (.getfield 19, 3) := by decide +kernel
theorem dX0_differingBars_32 : decode cX0_differingBars 32 = .ok (.iload_n 3, 1) := by decide +kernel
theorem dX0_differingBars_33 : decode cX0_differingBars 33 = .ok (.invokevirtual 32, 3) := by decide +kernel
theorem dX0_differingBars_36 : decode cX0_differingBars 36 = .ok (.if_icmp .eq 9, 3) := by decide +kernel
theorem dX0_differingBars_39 : decode cX0_differingBars 39 = .ok (.iload_n 2, 1) := by decide +kernel
theorem dX0_differingBars_40 : decode cX0_differingBars 40 = .ok (.iconst 1, 1) := by decide +kernel
theorem dX0_differingBars_41 : decode cX0_differingBars 41 = .ok (.iload_n 3, 1) := by decide +kernel
theorem dX0_differingBars_42 : decode cX0_differingBars 42 = .ok (.ishl, 1) := by decide +kernel
theorem dX0_differingBars_43 : decode cX0_differingBars 43 = .ok (.ior, 1) := by decide +kernel
theorem dX0_differingBars_44 : decode cX0_differingBars 44 = .ok (.istore_n 2, 1) := by decide +kernel
theorem dX0_differingBars_45 : decode cX0_differingBars 45 = .ok (.iinc 3 1, 3) := by decide +kernel
theorem dX0_differingBars_48 : decode cX0_differingBars 48 = .ok (.goto (-44), 3) := by decide +kernel
theorem dX0_differingBars_51 : decode cX0_differingBars 51 = .ok (.iload_n 2, 1) := by decide +kernel
theorem dX0_differingBars_52 : decode cX0_differingBars 52 = .ok (.ireturn, 1) := by decide +kernel
theorem dX1_init_0 : decode cX1_init 0 = .ok (.aload_n 0, 1) := by decide +kernel
theorem dX1_init_1 : decode cX1_init 1 = .ok (.invokespecial 3, 3) := by decide +kernel
theorem dX1_init_4 : decode cX1_init 4 = .ok (.aload_n 0, 1) := by decide +kernel
theorem dX1_init_5 : decode cX1_init 5 = .ok (.iconst 0, 1) := by decide +kernel
theorem dX1_init_6 : decode cX1_init 6 = .ok (.putfield 9, 3) := by decide +kernel
theorem dX1_init_9 : decode cX1_init 9 = .ok (.aload_n 0, 1) := by decide +kernel
theorem dX1_init_10 : decode cX1_init 10 = .ok (.bipush 12, 2) := by decide +kernel
theorem dX1_init_12 : decode cX1_init 12 = .ok (.newarray .int, 2) := by decide +kernel
theorem dX1_init_14 : decode cX1_init 14 = .ok (.putfield 15, 3) := by decide +kernel
theorem dX1_init_17 : decode cX1_init 17 = .ok (.aload_n 0, 1) := by decide +kernel
theorem dX1_init_18 : decode cX1_init 18 = .ok (.bipush 12, 2) := by decide +kernel
theorem dX1_init_20 : decode cX1_init 20 = .ok (.newarray .int, 2) := by decide +kernel
theorem dX1_init_22 : decode cX1_init 22 = .ok (.putfield 19, 3) := by decide +kernel
theorem dX1_init_25 : decode cX1_init 25 = .ok (.return_, 1) := by decide +kernel
theorem dX1_tone_0 : decode cX1_tone 0 = .ok (.iload_n 1, 1) := by decide +kernel
theorem dX1_tone_1 : decode cX1_tone 1 = .ok (.ifCond .ne 10, 3) := by decide +kernel
theorem dX1_tone_4 : decode cX1_tone 4 = .ok (.aload_n 0, 1) := by decide +kernel
theorem dX1_tone_5 : decode cX1_tone 5 = .ok (.getfield 15, 3) := by decide +kernel
theorem dX1_tone_8 : decode cX1_tone 8 = .ok (.goto 7, 3) := by decide +kernel
theorem dX1_tone_11 : decode cX1_tone 11 = .ok (.aload_n 0, 1) := by decide +kernel
theorem dX1_tone_12 : decode cX1_tone 12 = .ok (.getfield 19, 3) := by decide +kernel
theorem dX1_tone_15 : decode cX1_tone 15 = .ok (.astore_n 3, 1) := by decide +kernel
theorem dX1_tone_16 : decode cX1_tone 16 = .ok (.iload_n 2, 1) := by decide +kernel
theorem dX1_tone_17 : decode cX1_tone 17 = .ok (.ifCond .lt 15, 3) := by decide +kernel
theorem dX1_tone_20 : decode cX1_tone 20 = .ok (.iload_n 2, 1) := by decide +kernel
theorem dX1_tone_21 : decode cX1_tone 21 = .ok (.aload_n 3, 1) := by decide +kernel
theorem dX1_tone_22 : decode cX1_tone 22 = .ok (.arraylength, 1) := by decide +kernel
theorem dX1_tone_23 : decode cX1_tone 23 = .ok (.if_icmp .ge 9, 3) := by decide +kernel
theorem dX1_tone_26 : decode cX1_tone 26 = .ok (.aload_n 3, 1) := by decide +kernel
theorem dX1_tone_27 : decode cX1_tone 27 = .ok (.iload_n 2, 1) := by decide +kernel
theorem dX1_tone_28 : decode cX1_tone 28 = .ok (.iaload, 1) := by decide +kernel
theorem dX1_tone_29 : decode cX1_tone 29 = .ok (.goto 4, 3) := by decide +kernel
theorem dX1_tone_32 : decode cX1_tone 32 = .ok (.iconst 0, 1) := by decide +kernel
theorem dX1_tone_33 : decode cX1_tone 33 = .ok (.ireturn, 1) := by decide +kernel
theorem dX1_setTone_0 : decode cX1_setTone 0 = .ok (.iload_n 1, 1) := by decide +kernel
theorem dX1_setTone_1 : decode cX1_setTone 1 = .ok (.ifCond .ne 10, 3) := by decide +kernel
theorem dX1_setTone_4 : decode cX1_setTone 4 = .ok (.aload_n 0, 1) := by decide +kernel
theorem dX1_setTone_5 : decode cX1_setTone 5 = .ok (.getfield 15, 3) := by decide +kernel
theorem dX1_setTone_8 : decode cX1_setTone 8 = .ok (.goto 7, 3) := by decide +kernel
theorem dX1_setTone_11 : decode cX1_setTone 11 = .ok (.aload_n 0, 1) := by decide +kernel
theorem dX1_setTone_12 : decode cX1_setTone 12 = .ok (.getfield 19, 3) := by decide +kernel
theorem dX1_setTone_15 : decode cX1_setTone 15 = .ok (.astore 4, 2) := by decide +kernel
theorem dX1_setTone_17 : decode cX1_setTone 17 = .ok (.iload_n 2, 1) := by decide +kernel
theorem dX1_setTone_18 : decode cX1_setTone 18 = .ok (.ifCond .lt 15, 3) := by decide +kernel
theorem dX1_setTone_21 : decode cX1_setTone 21 = .ok (.iload_n 2, 1) := by decide +kernel
theorem dX1_setTone_22 : decode cX1_setTone 22 = .ok (.aload 4, 2) := by decide +kernel
theorem dX1_setTone_24 : decode cX1_setTone 24 = .ok (.arraylength, 1) := by decide +kernel
theorem dX1_setTone_25 : decode cX1_setTone 25 = .ok (.if_icmp .ge 8, 3) := by decide +kernel
theorem dX1_setTone_28 : decode cX1_setTone 28 = .ok (.aload 4, 2) := by decide +kernel
theorem dX1_setTone_30 : decode cX1_setTone 30 = .ok (.iload_n 2, 1) := by decide +kernel
theorem dX1_setTone_31 : decode cX1_setTone 31 = .ok (.iload_n 3, 1) := by decide +kernel
theorem dX1_setTone_32 : decode cX1_setTone 32 = .ok (.iastore, 1) := by decide +kernel
theorem dX1_setTone_33 : decode cX1_setTone 33 = .ok (.return_, 1) := by decide +kernel
set_option maxRecDepth 20000 in
theorem ggX1_fill_X1_setTone : GoodIn wsX1_fill wsX1_setTone := goodIn_r _ [6, 7, 8, 9, 10, 11] (by decide +kernel) (by decide +kernel)
set_option maxRecDepth 20000 in
theorem gX1_fill_X1_setTone : GoodIn wsX1_fill (wsV RX1 22 RX1 yX1_setTone wsX1_setTone) := goodIn_app (goodIn_of _ (by decide +kernel)) ggX1_fill_X1_setTone
theorem dX1_fill_0 : decode cX1_fill 0 = .ok (.aload_n 0, 1) := by decide +kernel
theorem dX1_fill_1 : decode cX1_fill 1 = .ok (.iload_n 1, 1) := by decide +kernel
theorem dX1_fill_2 : decode cX1_fill 2 = .ok (.putfield 9, 3) := by decide +kernel
theorem dX1_fill_5 : decode cX1_fill 5 = .ok (.iconst 0, 1) := by decide +kernel
theorem dX1_fill_6 : decode cX1_fill 6 = .ok (.istore_n 3, 1) := by decide +kernel
theorem dX1_fill_7 : decode cX1_fill 7 = .ok (.iload_n 3, 1) := by decide +kernel
theorem dX1_fill_8 : decode cX1_fill 8 = .ok (.iload_n 1, 1) := by decide +kernel
theorem dX1_fill_9 : decode cX1_fill 9 = .ok (.if_icmp .ge 23, 3) := by decide +kernel
theorem dX1_fill_12 : decode cX1_fill 12 = .ok (.aload_n 0, 1) := by decide +kernel
theorem dX1_fill_13 : decode cX1_fill 13 = .ok (.iconst 0, 1) := by decide +kernel
theorem dX1_fill_14 : decode cX1_fill 14 = .ok (.iload_n 3, 1) := by decide +kernel
theorem dX1_fill_15 : decode cX1_fill 15 = .ok (.iload_n 2, 1) := by decide +kernel
theorem dX1_fill_16 : decode cX1_fill 16 = .ok (.invokevirtual 22, 3) := by decide +kernel
theorem dX1_fill_19 : decode cX1_fill 19 = .ok (.aload_n 0, 1) := by decide +kernel
theorem dX1_fill_20 : decode cX1_fill 20 = .ok (.iconst 1, 1) := by decide +kernel
theorem dX1_fill_21 : decode cX1_fill 21 = .ok (.iload_n 3, 1) := by decide +kernel
theorem dX1_fill_22 : decode cX1_fill 22 = .ok (.iload_n 2, 1) := by decide +kernel
theorem dX1_fill_23 : decode cX1_fill 23 = .ok (.invokevirtual 22, 3) := by decide +kernel
theorem dX1_fill_26 : decode cX1_fill 26 = .ok (.iinc 3 1, 3) := by decide +kernel
theorem dX1_fill_29 : decode cX1_fill 29 = .ok (.goto (-22), 3) := by decide +kernel
theorem dX1_fill_32 : decode cX1_fill 32 = .ok (.return_, 1) := by decide +kernel
set_option maxRecDepth 20000 in
theorem ggX1_takeAll_X1_takeBar : GoodIn wsX1_takeAll wsX1_takeBar := goodIn_r _ [6, 7, 8, 9, 5, 10, 11, 12, 13, 14, 15, 16, 17, 18, 19] (by decide +kernel) (by decide +kernel)
set_option maxRecDepth 20000 in
theorem gX1_takeAll_X1_takeBar : GoodIn wsX1_takeAll (wsV RX1 26 RX1 yX1_takeBar wsX1_takeBar) := goodIn_app (goodIn_of _ (by decide +kernel)) ggX1_takeAll_X1_takeBar
theorem dX1_takeAll_0 : decode cX1_takeAll 0 = .ok (.aload_n 0, 1) := by decide +kernel
theorem dX1_takeAll_1 : decode cX1_takeAll 1 = .ok (.aload_n 1, 1) := by decide +kernel
theorem dX1_takeAll_2 : decode cX1_takeAll 2 = .ok (.getfield 9, 3) := by decide +kernel
theorem dX1_takeAll_5 : decode cX1_takeAll 5 = .ok (.putfield 9, 3) := by decide +kernel
theorem dX1_takeAll_8 : decode cX1_takeAll 8 = .ok (.iconst 0, 1) := by decide +kernel
theorem dX1_takeAll_9 : decode cX1_takeAll 9 = .ok (.istore_n 2, 1) := by decide +kernel
theorem dX1_takeAll_10 : decode cX1_takeAll 10 = .ok (.iload_n 2, 1) := by decide +kernel
theorem dX1_takeAll_11 : decode cX1_takeAll 11 = .ok (.aload_n 1, 1) := by decide +kernel
theorem dX1_takeAll_12 : decode cX1_takeAll 12 = .ok (.getfield 9, 3) := by decide +kernel
theorem dX1_takeAll_15 : decode cX1_takeAll 15 = .ok (.if_icmp .ge 15, 3) := by decide +kernel
theorem dX1_takeAll_18 : decode cX1_takeAll 18 = .ok (.aload_n 0, 1) := by decide +kernel
theorem dX1_takeAll_19 : decode cX1_takeAll 19 = .ok (.aload_n 1, 1) := by decide +kernel
theorem dX1_takeAll_20 : decode cX1_takeAll 20 = .ok (.iload_n 2, 1) := by decide +kernel
theorem dX1_takeAll_21 : decode cX1_takeAll 21 = .ok (.invokevirtual 26, 3) := by decide +kernel
theorem dX1_takeAll_24 : decode cX1_takeAll 24 = .ok (.iinc 2 1, 3) := by decide +kernel
theorem dX1_takeAll_27 : decode cX1_takeAll 27 = .ok (.goto (-17), 3) := by decide +kernel
theorem dX1_takeAll_30 : decode cX1_takeAll 30 = .ok (.return_, 1) := by decide +kernel
set_option maxRecDepth 20000 in
theorem ggX1_takeBar_X1_tone : GoodIn wsX1_takeBar wsX1_tone := goodIn_r _ [5, 6, 7, 12, 13, 14] (by decide +kernel) (by decide +kernel)
set_option maxRecDepth 20000 in
theorem gX1_takeBar_X1_tone : GoodIn wsX1_takeBar (wsV RX1 30 RX1 yX1_tone wsX1_tone) := goodIn_app (goodIn_of _ (by decide +kernel)) ggX1_takeBar_X1_tone
set_option maxRecDepth 20000 in
theorem ggX1_takeBar_X1_setTone : GoodIn wsX1_takeBar wsX1_setTone := goodIn_r _ [11, 6, 7, 12, 13, 14] (by decide +kernel) (by decide +kernel)
set_option maxRecDepth 20000 in
theorem gX1_takeBar_X1_setTone : GoodIn wsX1_takeBar (wsV RX1 22 RX1 yX1_setTone wsX1_setTone) := goodIn_app (goodIn_of _ (by decide +kernel)) ggX1_takeBar_X1_setTone
theorem dX1_takeBar_0 : decode cX1_takeBar 0 = .ok (.aload_n 0, 1) := by decide +kernel
theorem dX1_takeBar_1 : decode cX1_takeBar 1 = .ok (.iconst 0, 1) := by decide +kernel
theorem dX1_takeBar_2 : decode cX1_takeBar 2 = .ok (.iload_n 2, 1) := by decide +kernel
theorem dX1_takeBar_3 : decode cX1_takeBar 3 = .ok (.aload_n 1, 1) := by decide +kernel
theorem dX1_takeBar_4 : decode cX1_takeBar 4 = .ok (.iconst 0, 1) := by decide +kernel
theorem dX1_takeBar_5 : decode cX1_takeBar 5 = .ok (.iload_n 2, 1) := by decide +kernel
theorem dX1_takeBar_6 : decode cX1_takeBar 6 = .ok (.invokevirtual 30, 3) := by decide +kernel
theorem dX1_takeBar_9 : decode cX1_takeBar 9 = .ok (.invokevirtual 22, 3) := by decide +kernel
theorem dX1_takeBar_12 : decode cX1_takeBar 12 = .ok (.aload_n 0, 1) := by decide +kernel
theorem dX1_takeBar_13 : decode cX1_takeBar 13 = .ok (.iconst 1, 1) := by decide +kernel
theorem dX1_takeBar_14 : decode cX1_takeBar 14 = .ok (.iload_n 2, 1) := by decide +kernel
theorem dX1_takeBar_15 : decode cX1_takeBar 15 = .ok (.aload_n 1, 1) := by decide +kernel
theorem dX1_takeBar_16 : decode cX1_takeBar 16 = .ok (.iconst 1, 1) := by decide +kernel
theorem dX1_takeBar_17 : decode cX1_takeBar 17 = .ok (.iload_n 2, 1) := by decide +kernel
theorem dX1_takeBar_18 : decode cX1_takeBar 18 = .ok (.invokevirtual 30, 3) := by decide +kernel
theorem dX1_takeBar_21 : decode cX1_takeBar 21 = .ok (.invokevirtual 22, 3) := by decide +kernel
theorem dX1_takeBar_24 : decode cX1_takeBar 24 = .ok (.return_, 1) := by decide +kernel
set_option maxRecDepth 20000 in
theorem ggX1_sameBar_X1_tone : GoodIn wsX1_sameBar wsX1_tone := goodIn_r _ [5, 6, 7, 8, 9, 10] (by decide +kernel) (by decide +kernel)
set_option maxRecDepth 20000 in
theorem gX1_sameBar_X1_tone : GoodIn wsX1_sameBar (wsV RX1 30 RX1 yX1_tone wsX1_tone) := goodIn_app (goodIn_of _ (by decide +kernel)) ggX1_sameBar_X1_tone
theorem dX1_sameBar_0 : decode cX1_sameBar 0 = .ok (.aload_n 0, 1) := by decide +kernel
theorem dX1_sameBar_1 : decode cX1_sameBar 1 = .ok (.iconst 0, 1) := by decide +kernel
theorem dX1_sameBar_2 : decode cX1_sameBar 2 = .ok (.iload_n 2, 1) := by decide +kernel
theorem dX1_sameBar_3 : decode cX1_sameBar 3 = .ok (.invokevirtual 30, 3) := by decide +kernel
theorem dX1_sameBar_6 : decode cX1_sameBar 6 = .ok (.aload_n 1, 1) := by decide +kernel
theorem dX1_sameBar_7 : decode cX1_sameBar 7 = .ok (.iconst 0, 1) := by decide +kernel
theorem dX1_sameBar_8 : decode cX1_sameBar 8 = .ok (.iload_n 2, 1) := by decide +kernel
theorem dX1_sameBar_9 : decode cX1_sameBar 9 = .ok (.invokevirtual 30, 3) := by decide +kernel
theorem dX1_sameBar_12 : decode cX1_sameBar 12 = .ok (.if_icmp .ne 22, 3) := by decide +kernel
theorem dX1_sameBar_15 : decode cX1_sameBar 15 = .ok (.aload_n 0, 1) := by decide +kernel
theorem dX1_sameBar_16 : decode cX1_sameBar 16 = .ok (.iconst 1, 1) := by decide +kernel
theorem dX1_sameBar_17 : decode cX1_sameBar 17 = .ok (.iload_n 2, 1) := by decide +kernel
theorem dX1_sameBar_18 : decode cX1_sameBar 18 = .ok (.invokevirtual 30, 3) := by decide +kernel
theorem dX1_sameBar_21 : decode cX1_sameBar 21 = .ok (.aload_n 1, 1) := by decide +kernel
theorem dX1_sameBar_22 : decode cX1_sameBar 22 = .ok (.iconst 1, 1) := by decide +kernel
theorem dX1_sameBar_23 : decode cX1_sameBar 23 = .ok (.iload_n 2, 1) := by decide +kernel
theorem dX1_sameBar_24 : decode cX1_sameBar 24 = .ok (.invokevirtual 30, 3) := by decide +kernel
theorem dX1_sameBar_27 : decode cX1_sameBar 27 = .ok (.if_icmp .ne 7, 3) := by decide +kernel
theorem dX1_sameBar_30 : decode cX1_sameBar 30 = .ok (.iconst 1, 1) := by decide +kernel
theorem dX1_sameBar_31 : decode cX1_sameBar 31 = .ok (.goto 4, 3) := by decide +kernel
theorem dX1_sameBar_34 : decode cX1_sameBar 34 = .ok (.iconst 0, 1) := by decide +kernel
theorem dX1_sameBar_35 : decode cX1_sameBar 35 = .ok (.ireturn, 1) := by decide +kernel
set_option maxRecDepth 20000 in
theorem ggX1_wayOf_X1_stepTo : GoodIn wsX1_wayOf wsX1_stepTo := goodIn_r _ [6, 7, 8, 9, 10, 11, 12, 13, 5, 14, 15, 16, 17, 18, 19] (by decide +kernel) (by decide +kernel)
set_option maxRecDepth 20000 in
theorem gX1_wayOf_X1_stepTo : GoodIn wsX1_wayOf (wsV RX1 34 RX1 yX1_stepTo wsX1_stepTo) := goodIn_app (goodIn_of _ (by decide +kernel)) ggX1_wayOf_X1_stepTo
theorem dX1_wayOf_0 : decode cX1_wayOf 0 = .ok (.iconst 0, 1) := by decide +kernel
theorem dX1_wayOf_1 : decode cX1_wayOf 1 = .ok (.istore_n 2, 1) := by decide +kernel
theorem dX1_wayOf_2 : decode cX1_wayOf 2 = .ok (.iconst 1, 1) := by decide +kernel
theorem dX1_wayOf_3 : decode cX1_wayOf 3 = .ok (.istore_n 3, 1) := by decide +kernel
theorem dX1_wayOf_4 : decode cX1_wayOf 4 = .ok (.iload_n 3, 1) := by decide +kernel
theorem dX1_wayOf_5 : decode cX1_wayOf 5 = .ok (.aload_n 0, 1) := by decide +kernel
theorem dX1_wayOf_6 : decode cX1_wayOf 6 = .ok (.getfield 9, 3) := by decide +kernel
theorem dX1_wayOf_9 : decode cX1_wayOf 9 = .ok (.if_icmp .ge 18, 3) := by decide +kernel
theorem dX1_wayOf_12 : decode cX1_wayOf 12 = .ok (.iload_n 2, 1) := by decide +kernel
theorem dX1_wayOf_13 : decode cX1_wayOf 13 = .ok (.aload_n 0, 1) := by decide +kernel
theorem dX1_wayOf_14 : decode cX1_wayOf 14 = .ok (.iload_n 1, 1) := by decide +kernel
theorem dX1_wayOf_15 : decode cX1_wayOf 15 = .ok (.iload_n 3, 1) := by decide +kernel
theorem dX1_wayOf_16 : decode cX1_wayOf 16 = .ok (.invokevirtual 34, 3) := by decide +kernel
theorem dX1_wayOf_19 : decode cX1_wayOf 19 = .ok (.iadd, 1) := by decide +kernel
theorem dX1_wayOf_20 : decode cX1_wayOf 20 = .ok (.istore_n 2, 1) := by decide +kernel
theorem dX1_wayOf_21 : decode cX1_wayOf 21 = .ok (.iinc 3 1, 3) := by decide +kernel
theorem dX1_wayOf_24 : decode cX1_wayOf 24 = .ok (.goto (-20), 3) := by decide +kernel
theorem dX1_wayOf_27 : decode cX1_wayOf 27 = .ok (.iload_n 2, 1) := by decide +kernel
theorem dX1_wayOf_28 : decode cX1_wayOf 28 = .ok (.ireturn, 1) := by decide +kernel
set_option maxRecDepth 20000 in
theorem ggX1_faultsOf_X1_isDiscord : GoodIn wsX1_faultsOf wsX1_isDiscord := goodIn_r _ [5, 6, 7, 8, 4, 9, 10, 11, 12, 13, 14, 15, 16, 17, 18, 19, 44, 45, 46] (by decide +kernel) (by decide +kernel)
set_option maxRecDepth 20000 in
theorem gX1_faultsOf_X1_isDiscord : GoodIn wsX1_faultsOf (wsV RX1 37 RX1 yX1_isDiscord wsX1_isDiscord) := goodIn_app (goodIn_of _ (by decide +kernel)) ggX1_faultsOf_X1_isDiscord
set_option maxRecDepth 20000 in
theorem ggX1_faultsOf_X1_isParallel : GoodIn wsX1_faultsOf wsX1_isParallel := goodIn_r _ [23, 24, 25, 26, 4, 27, 10, 11, 12, 13, 14, 15, 16, 17, 18, 19, 6, 7, 8, 9, 28, 29, 30, 44, 45, 46] (by decide +kernel) (by decide +kernel)
set_option maxRecDepth 20000 in
theorem gX1_faultsOf_X1_isParallel : GoodIn wsX1_faultsOf (wsV RX1 41 RX1 yX1_isParallel wsX1_isParallel) := goodIn_app (goodIn_of _ (by decide +kernel)) ggX1_faultsOf_X1_isParallel
set_option maxRecDepth 20000 in
theorem ggX1_faultsOf_X1_leapsTo : GoodIn wsX1_faultsOf wsX1_leapsTo := goodIn_r _ [34, 24, 25, 26, 4, 27, 10, 11, 12, 13, 14, 15, 16, 17, 18, 19, 44, 45, 46] (by decide +kernel) (by decide +kernel)
set_option maxRecDepth 20000 in
theorem gX1_faultsOf_X1_leapsTo : GoodIn wsX1_faultsOf (wsV RX1 44 RX1 yX1_leapsTo wsX1_leapsTo) := goodIn_app (goodIn_of _ (by decide +kernel)) ggX1_faultsOf_X1_leapsTo
set_option maxRecDepth 20000 in
theorem ggX1_faultsOf_X1_tone : GoodIn wsX1_faultsOf wsX1_tone := goodIn_r _ [17, 18, 19, 44, 45, 46] (by decide +kernel) (by decide +kernel)
set_option maxRecDepth 20000 in
theorem gX1_faultsOf_X1_tone : GoodIn wsX1_faultsOf (wsV RX1 30 RX1 yX1_tone wsX1_tone) := goodIn_app (goodIn_of _ (by decide +kernel)) ggX1_faultsOf_X1_tone
set_option maxRecDepth 20000 in
theorem ggX1_faultsOf_X1_badEndsAt : GoodIn wsX1_faultsOf wsX1_badEndsAt := goodIn_r _ [38, 39, 6, 7, 8, 4, 9, 10, 11, 12, 13, 14, 15, 16, 17, 18, 19, 28, 29, 30, 44, 45, 46] (by decide +kernel) (by decide +kernel)
set_option maxRecDepth 20000 in
theorem gX1_faultsOf_X1_badEndsAt : GoodIn wsX1_faultsOf (wsV RX1 48 RX1 yX1_badEndsAt wsX1_badEndsAt) := goodIn_app (goodIn_of _ (by decide +kernel)) ggX1_faultsOf_X1_badEndsAt
set_option maxRecDepth 20000 in
theorem ggX1_faultsOf_X1_isStanding : GoodIn wsX1_faultsOf wsX1_isStanding := goodIn_r _ [43, 24, 25, 26, 4, 27, 10, 11, 12, 13, 14, 15, 16, 17, 18, 19, 44, 45, 46] (by decide +kernel) (by decide +kernel)
set_option maxRecDepth 20000 in
theorem gX1_faultsOf_X1_isStanding : GoodIn wsX1_faultsOf (wsV RX1 51 RX1 yX1_isStanding wsX1_isStanding) := goodIn_app (goodIn_of _ (by decide +kernel)) ggX1_faultsOf_X1_isStanding
theorem dX1_faultsOf_0 : decode cX1_faultsOf 0 = .ok (.iload_n 1, 1) := by decide +kernel
theorem dX1_faultsOf_1 : decode cX1_faultsOf 1 = .ok (.tableswitch 114 0 5 #[39, 53, 67, 73, 94, 100], 39) := by decide +kernel
theorem dX1_faultsOf_40 : decode cX1_faultsOf 40 = .ok (.aload_n 0, 1) := by decide +kernel
theorem dX1_faultsOf_41 : decode cX1_faultsOf 41 = .ok (.iload_n 2, 1) := by decide +kernel
theorem dX1_faultsOf_42 : decode cX1_faultsOf 42 = .ok (.invokevirtual 37, 3) := by decide +kernel
theorem dX1_faultsOf_45 : decode cX1_faultsOf 45 = .ok (.ifCond .eq 7, 3) := by decide +kernel
theorem dX1_faultsOf_48 : decode cX1_faultsOf 48 = .ok (.iconst 1, 1) := by decide +kernel
theorem dX1_faultsOf_49 : decode cX1_faultsOf 49 = .ok (.goto 4, 3) := by decide +kernel
theorem dX1_faultsOf_52 : decode cX1_faultsOf 52 = .ok (.iconst 0, 1) := by decide +kernel
theorem dX1_faultsOf_53 : decode cX1_faultsOf 53 = .ok (.ireturn, 1) := by decide +kernel
theorem dX1_faultsOf_54 : decode cX1_faultsOf 54 = .ok (.aload_n 0, 1) := by decide +kernel
theorem dX1_faultsOf_55 : decode cX1_faultsOf 55 = .ok (.iload_n 2, 1) := by decide +kernel
theorem dX1_faultsOf_56 : decode cX1_faultsOf 56 = .ok (.invokevirtual 41, 3) := by decide +kernel
theorem dX1_faultsOf_59 : decode cX1_faultsOf 59 = .ok (.ifCond .eq 7, 3) := by decide +kernel
theorem dX1_faultsOf_62 : decode cX1_faultsOf 62 = .ok (.iconst 1, 1) := by decide +kernel
theorem dX1_faultsOf_63 : decode cX1_faultsOf 63 = .ok (.goto 4, 3) := by decide +kernel
theorem dX1_faultsOf_66 : decode cX1_faultsOf 66 = .ok (.iconst 0, 1) := by decide +kernel
theorem dX1_faultsOf_67 : decode cX1_faultsOf 67 = .ok (.ireturn, 1) := by decide +kernel
theorem dX1_faultsOf_68 : decode cX1_faultsOf 68 = .ok (.aload_n 0, 1) := by decide +kernel
theorem dX1_faultsOf_69 : decode cX1_faultsOf 69 = .ok (.iload_n 2, 1) := by decide +kernel
theorem dX1_faultsOf_70 : decode cX1_faultsOf 70 = .ok (.invokevirtual 44, 3) := by decide +kernel
theorem dX1_faultsOf_73 : decode cX1_faultsOf 73 = .ok (.ireturn, 1) := by decide +kernel
theorem dX1_faultsOf_74 : decode cX1_faultsOf 74 = .ok (.aload_n 0, 1) := by decide +kernel
theorem dX1_faultsOf_75 : decode cX1_faultsOf 75 = .ok (.iconst 0, 1) := by decide +kernel
theorem dX1_faultsOf_76 : decode cX1_faultsOf 76 = .ok (.iload_n 2, 1) := by decide +kernel
theorem dX1_faultsOf_77 : decode cX1_faultsOf 77 = .ok (.invokevirtual 30, 3) := by decide +kernel
theorem dX1_faultsOf_80 : decode cX1_faultsOf 80 = .ok (.aload_n 0, 1) := by decide +kernel
theorem dX1_faultsOf_81 : decode cX1_faultsOf 81 = .ok (.iconst 1, 1) := by decide +kernel
theorem dX1_faultsOf_82 : decode cX1_faultsOf 82 = .ok (.iload_n 2, 1) := by decide +kernel
theorem dX1_faultsOf_83 : decode cX1_faultsOf 83 = .ok (.invokevirtual 30, 3) := by decide +kernel
theorem dX1_faultsOf_86 : decode cX1_faultsOf 86 = .ok (.if_icmp .ge 7, 3) := by decide +kernel
theorem dX1_faultsOf_89 : decode cX1_faultsOf 89 = .ok (.iconst 1, 1) := by decide +kernel
theorem dX1_faultsOf_90 : decode cX1_faultsOf 90 = .ok (.goto 4, 3) := by decide +kernel
theorem dX1_faultsOf_93 : decode cX1_faultsOf 93 = .ok (.iconst 0, 1) := by decide +kernel
theorem dX1_faultsOf_94 : decode cX1_faultsOf 94 = .ok (.ireturn, 1) := by decide +kernel
theorem dX1_faultsOf_95 : decode cX1_faultsOf 95 = .ok (.aload_n 0, 1) := by decide +kernel
theorem dX1_faultsOf_96 : decode cX1_faultsOf 96 = .ok (.iload_n 2, 1) := by decide +kernel
theorem dX1_faultsOf_97 : decode cX1_faultsOf 97 = .ok (.invokevirtual 48, 3) := by decide +kernel
theorem dX1_faultsOf_100 : decode cX1_faultsOf 100 = .ok (.ireturn, 1) := by decide +kernel
theorem dX1_faultsOf_101 : decode cX1_faultsOf 101 = .ok (.aload_n 0, 1) := by decide +kernel
theorem dX1_faultsOf_102 : decode cX1_faultsOf 102 = .ok (.iload_n 2, 1) := by decide +kernel
theorem dX1_faultsOf_103 : decode cX1_faultsOf 103 = .ok (.invokevirtual 51, 3) := by decide +kernel
theorem dX1_faultsOf_106 : decode cX1_faultsOf 106 = .ok (.ifCond .eq 7, 3) := by decide +kernel
theorem dX1_faultsOf_109 : decode cX1_faultsOf 109 = .ok (.iconst 1, 1) := by decide +kernel
theorem dX1_faultsOf_110 : decode cX1_faultsOf 110 = .ok (.goto 4, 3) := by decide +kernel
theorem dX1_faultsOf_113 : decode cX1_faultsOf 113 = .ok (.iconst 0, 1) := by decide +kernel
theorem dX1_faultsOf_114 : decode cX1_faultsOf 114 = .ok (.ireturn, 1) := by decide +kernel
theorem dX1_faultsOf_115 : decode cX1_faultsOf 115 = .ok (.iconst 0, 1) := by decide +kernel
theorem dX1_faultsOf_116 : decode cX1_faultsOf 116 = .ok (.ireturn, 1) := by decide +kernel
set_option maxRecDepth 20000 in
theorem ggX1_interval_X1_tone : GoodIn wsX1_interval wsX1_tone := goodIn_r _ [9, 10, 11, 12, 13, 14] (by decide +kernel) (by decide +kernel)
set_option maxRecDepth 20000 in
theorem gX1_interval_X1_tone : GoodIn wsX1_interval (wsV RX1 30 RX1 yX1_tone wsX1_tone) := goodIn_app (goodIn_of _ (by decide +kernel)) ggX1_interval_X1_tone
theorem dX1_interval_0 : decode cX1_interval 0 = .ok (.aload_n 0, 1) := by decide +kernel
theorem dX1_interval_1 : decode cX1_interval 1 = .ok (.iconst 0, 1) := by decide +kernel
theorem dX1_interval_2 : decode cX1_interval 2 = .ok (.iload_n 1, 1) := by decide +kernel
theorem dX1_interval_3 : decode cX1_interval 3 = .ok (.invokevirtual 30, 3) := by decide +kernel
theorem dX1_interval_6 : decode cX1_interval 6 = .ok (.aload_n 0, 1) := by decide +kernel
theorem dX1_interval_7 : decode cX1_interval 7 = .ok (.iconst 1, 1) := by decide +kernel
theorem dX1_interval_8 : decode cX1_interval 8 = .ok (.iload_n 1, 1) := by decide +kernel
theorem dX1_interval_9 : decode cX1_interval 9 = .ok (.invokevirtual 30, 3) := by decide +kernel
theorem dX1_interval_12 : decode cX1_interval 12 = .ok (.isub, 1) := by decide +kernel
theorem dX1_interval_13 : decode cX1_interval 13 = .ok (.invokestatic 54, 3) := by decide +kernel
theorem dX1_interval_16 : decode cX1_interval 16 = .ok (.bipush 12, 2) := by decide +kernel
theorem dX1_interval_18 : decode cX1_interval 18 = .ok (.irem, 1) := by decide +kernel
theorem dX1_interval_19 : decode cX1_interval 19 = .ok (.ireturn, 1) := by decide +kernel
theorem dX1_isPerfect_0 : decode cX1_isPerfect 0 = .ok (.iload_n 0, 1) := by decide +kernel
theorem dX1_isPerfect_1 : decode cX1_isPerfect 1 = .ok (.ifCond .eq 9, 3) := by decide +kernel
theorem dX1_isPerfect_4 : decode cX1_isPerfect 4 = .ok (.iload_n 0, 1) := by decide +kernel
theorem dX1_isPerfect_5 : decode cX1_isPerfect 5 = .ok (.bipush 7, 2) := by decide +kernel
theorem dX1_isPerfect_7 : decode cX1_isPerfect 7 = .ok (.if_icmp .ne 7, 3) := by decide +kernel
theorem dX1_isPerfect_10 : decode cX1_isPerfect 10 = .ok (.iconst 1, 1) := by decide +kernel
theorem dX1_isPerfect_11 : decode cX1_isPerfect 11 = .ok (.goto 4, 3) := by decide +kernel
theorem dX1_isPerfect_14 : decode cX1_isPerfect 14 = .ok (.iconst 0, 1) := by decide +kernel
theorem dX1_isPerfect_15 : decode cX1_isPerfect 15 = .ok (.ireturn, 1) := by decide +kernel
set_option maxRecDepth 20000 in
theorem ggX1_stepTo_X1_tone : GoodIn wsX1_stepTo wsX1_tone := goodIn_r _ [9, 10, 11, 12, 13, 14] (by decide +kernel) (by decide +kernel)
set_option maxRecDepth 20000 in
theorem gX1_stepTo_X1_tone : GoodIn wsX1_stepTo (wsV RX1 30 RX1 yX1_tone wsX1_tone) := goodIn_app (goodIn_of _ (by decide +kernel)) ggX1_stepTo_X1_tone
theorem dX1_stepTo_0 : decode cX1_stepTo 0 = .ok (.aload_n 0, 1) := by decide +kernel
theorem dX1_stepTo_1 : decode cX1_stepTo 1 = .ok (.iload_n 1, 1) := by decide +kernel
theorem dX1_stepTo_2 : decode cX1_stepTo 2 = .ok (.iload_n 2, 1) := by decide +kernel
theorem dX1_stepTo_3 : decode cX1_stepTo 3 = .ok (.invokevirtual 30, 3) := by decide +kernel
theorem dX1_stepTo_6 : decode cX1_stepTo 6 = .ok (.aload_n 0, 1) := by decide +kernel
theorem dX1_stepTo_7 : decode cX1_stepTo 7 = .ok (.iload_n 1, 1) := by decide +kernel
theorem dX1_stepTo_8 : decode cX1_stepTo 8 = .ok (.iload_n 2, 1) := by decide +kernel
theorem dX1_stepTo_9 : decode cX1_stepTo 9 = .ok (.iconst 1, 1) := by decide +kernel
theorem dX1_stepTo_10 : decode cX1_stepTo 10 = .ok (.isub, 1) := by decide +kernel
theorem dX1_stepTo_11 : decode cX1_stepTo 11 = .ok (.invokevirtual 30, 3) := by decide +kernel
theorem dX1_stepTo_14 : decode cX1_stepTo 14 = .ok (.isub, 1) := by decide +kernel
theorem dX1_stepTo_15 : decode cX1_stepTo 15 = .ok (.invokestatic 54, 3) := by decide +kernel
theorem dX1_stepTo_18 : decode cX1_stepTo 18 = .ok (.ireturn, 1) := by decide +kernel
set_option maxRecDepth 20000 in
theorem ggX1_isDiscord_X1_interval : GoodIn wsX1_isDiscord wsX1_interval := goodIn_r _ [5, 6, 7, 8, 9, 10, 11, 12, 4, 13, 14, 15, 16, 17, 18] (by decide +kernel) (by decide +kernel)
set_option maxRecDepth 20000 in
theorem gX1_isDiscord_X1_interval : GoodIn wsX1_isDiscord (wsV RX1 59 RX1 yX1_interval wsX1_interval) := goodIn_app (goodIn_of _ (by decide +kernel)) ggX1_isDiscord_X1_interval
theorem dX1_isDiscord_0 : decode cX1_isDiscord 0 = .ok (.aload_n 0, 1) := by decide +kernel
theorem dX1_isDiscord_1 : decode cX1_isDiscord 1 = .ok (.iload_n 1, 1) := by decide +kernel
theorem dX1_isDiscord_2 : decode cX1_isDiscord 2 = .ok (.invokevirtual 59, 3) := by decide +kernel
theorem dX1_isDiscord_5 : decode cX1_isDiscord 5 = .ok (.tableswitch 61 1 11 #[59, 59, 61, 61, 59, 59, 61, 61, 61, 59, 59], 59) := by decide +kernel
theorem dX1_isDiscord_64 : decode cX1_isDiscord 64 = .ok (.iconst 1, 1) := by decide +kernel
theorem dX1_isDiscord_65 : decode cX1_isDiscord 65 = .ok (.ireturn, 1) := by decide +kernel
theorem dX1_isDiscord_66 : decode cX1_isDiscord 66 = .ok (.iconst 0, 1) := by decide +kernel
theorem dX1_isDiscord_67 : decode cX1_isDiscord 67 = .ok (.ireturn, 1) := by decide +kernel
set_option maxRecDepth 20000 in
theorem ggX1_isParallel_X1_stepTo : GoodIn wsX1_isParallel wsX1_stepTo := goodIn_r _ [5, 6, 7, 8, 9, 10, 11, 12, 4, 13, 14, 15, 23, 24, 25] (by decide +kernel) (by decide +kernel)
set_option maxRecDepth 20000 in
theorem gX1_isParallel_X1_stepTo : GoodIn wsX1_isParallel (wsV RX1 34 RX1 yX1_stepTo wsX1_stepTo) := goodIn_app (goodIn_of _ (by decide +kernel)) ggX1_isParallel_X1_stepTo
set_option maxRecDepth 20000 in
theorem ggX1_isParallel_X1_interval : GoodIn wsX1_isParallel wsX1_interval := goodIn_r _ [19, 6, 7, 8, 9, 10, 11, 12, 4, 13, 14, 15, 23, 24, 25] (by decide +kernel) (by decide +kernel)
set_option maxRecDepth 20000 in
theorem gX1_isParallel_X1_interval : GoodIn wsX1_isParallel (wsV RX1 59 RX1 yX1_interval wsX1_interval) := goodIn_app (goodIn_of _ (by decide +kernel)) ggX1_isParallel_X1_interval
set_option maxRecDepth 20000 in
theorem ggX1_isParallel_X1_isPerfect : GoodIn wsX1_isParallel wsX1_isPerfect := goodIn_r _ [22] (by decide +kernel) (by decide +kernel)
set_option maxRecDepth 20000 in
theorem gX1_isParallel_X1_isPerfect : GoodIn wsX1_isParallel (va_wsS RX1 62 yX1_isPerfect wsX1_isPerfect) := goodIn_app (goodIn_of _ (by decide +kernel)) ggX1_isParallel_X1_isPerfect
theorem dX1_isParallel_0 : decode cX1_isParallel 0 = .ok (.iload_n 1, 1) := by decide +kernel
theorem dX1_isParallel_1 : decode cX1_isParallel 1 = .ok (.iconst 1, 1) := by decide +kernel
theorem dX1_isParallel_2 : decode cX1_isParallel 2 = .ok (.if_icmp .lt 51, 3) := by decide +kernel
theorem dX1_isParallel_5 : decode cX1_isParallel 5 = .ok (.aload_n 0, 1) := by decide +kernel
theorem dX1_isParallel_6 : decode cX1_isParallel 6 = .ok (.iconst 0, 1) := by decide +kernel
theorem dX1_isParallel_7 : decode cX1_isParallel 7 = .ok (.iload_n 1, 1) := by decide +kernel
theorem dX1_isParallel_8 : decode cX1_isParallel 8 = .ok (.invokevirtual 34, 3) := by decide +kernel
theorem dX1_isParallel_11 : decode cX1_isParallel 11 = .ok (.ifCond .eq 42, 3) := by decide +kernel
theorem dX1_isParallel_14 : decode cX1_isParallel 14 = .ok (.aload_n 0, 1) := by decide +kernel
theorem dX1_isParallel_15 : decode cX1_isParallel 15 = .ok (.iconst 1, 1) := by decide +kernel
theorem dX1_isParallel_16 : decode cX1_isParallel 16 = .ok (.iload_n 1, 1) := by decide +kernel
theorem dX1_isParallel_17 : decode cX1_isParallel 17 = .ok (.invokevirtual 34, 3) := by decide +kernel
theorem dX1_isParallel_20 : decode cX1_isParallel 20 = .ok (.ifCond .eq 33, 3) := by decide +kernel
theorem dX1_isParallel_23 : decode cX1_isParallel 23 = .ok (.aload_n 0, 1) := by decide +kernel
theorem dX1_isParallel_24 : decode cX1_isParallel 24 = .ok (.iload_n 1, 1) := by decide +kernel
theorem dX1_isParallel_25 : decode cX1_isParallel 25 = .ok (.invokevirtual 59, 3) := by decide +kernel
theorem dX1_isParallel_28 : decode cX1_isParallel 28 = .ok (.aload_n 0, 1) := by decide +kernel
theorem dX1_isParallel_29 : decode cX1_isParallel 29 = .ok (.iload_n 1, 1) := by decide +kernel
theorem dX1_isParallel_30 : decode cX1_isParallel 30 = .ok (.iconst 1, 1) := by decide +kernel
theorem dX1_isParallel_31 : decode cX1_isParallel 31 = .ok (.isub, 1) := by decide +kernel
theorem dX1_isParallel_32 : decode cX1_isParallel 32 = .ok (.invokevirtual 59, 3) := by decide +kernel
theorem dX1_isParallel_35 : decode cX1_isParallel 35 = .ok (.if_icmp .ne 18, 3) := by decide +kernel
theorem dX1_isParallel_38 : decode cX1_isParallel 38 = .ok (.aload_n 0, 1) := by decide +kernel
theorem dX1_isParallel_39 : decode cX1_isParallel 39 = .ok (.iload_n 1, 1) := by decide +kernel
theorem dX1_isParallel_40 : decode cX1_isParallel 40 = .ok (.invokevirtual 59, 3) := by decide +kernel
theorem dX1_isParallel_43 : decode cX1_isParallel 43 = .ok (.invokestatic 62, 3) := by decide +kernel
theorem dX1_isParallel_46 : decode cX1_isParallel 46 = .ok (.ifCond .eq 7, 3) := by decide +kernel
theorem dX1_isParallel_49 : decode cX1_isParallel 49 = .ok (.iconst 1, 1) := by decide +kernel
theorem dX1_isParallel_50 : decode cX1_isParallel 50 = .ok (.goto 4, 3) := by decide +kernel
theorem dX1_isParallel_53 : decode cX1_isParallel 53 = .ok (.iconst 0, 1) := by decide +kernel
theorem dX1_isParallel_54 : decode cX1_isParallel 54 = .ok (.ireturn, 1) := by decide +kernel
set_option maxRecDepth 20000 in
theorem ggX1_leapsTo_X1_stepTo : GoodIn wsX1_leapsTo wsX1_stepTo := goodIn_r _ [5, 6, 7, 8, 9, 10, 11, 12, 4, 13, 14, 15, 16, 17, 18] (by decide +kernel) (by decide +kernel)
set_option maxRecDepth 20000 in
theorem gX1_leapsTo_X1_stepTo : GoodIn wsX1_leapsTo (wsV RX1 34 RX1 yX1_stepTo wsX1_stepTo) := goodIn_app (goodIn_of _ (by decide +kernel)) ggX1_leapsTo_X1_stepTo
theorem dX1_leapsTo_0 : decode cX1_leapsTo 0 = .ok (.iload_n 1, 1) := by decide +kernel
theorem dX1_leapsTo_1 : decode cX1_leapsTo 1 = .ok (.iconst 1, 1) := by decide +kernel
theorem dX1_leapsTo_2 : decode cX1_leapsTo 2 = .ok (.if_icmp .ge 5, 3) := by decide +kernel
theorem dX1_leapsTo_5 : decode cX1_leapsTo 5 = .ok (.iconst 0, 1) := by decide +kernel
theorem dX1_leapsTo_6 : decode cX1_leapsTo 6 = .ok (.ireturn, 1) := by decide +kernel
theorem dX1_leapsTo_7 : decode cX1_leapsTo 7 = .ok (.aload_n 0, 1) := by decide +kernel
theorem dX1_leapsTo_8 : decode cX1_leapsTo 8 = .ok (.iconst 0, 1) := by decide +kernel
theorem dX1_leapsTo_9 : decode cX1_leapsTo 9 = .ok (.iload_n 1, 1) := by decide +kernel
theorem dX1_leapsTo_10 : decode cX1_leapsTo 10 = .ok (.invokevirtual 34, 3) := by decide +kernel
theorem dX1_leapsTo_13 : decode cX1_leapsTo 13 = .ok (.bipush 9, 2) := by decide +kernel
theorem dX1_leapsTo_15 : decode cX1_leapsTo 15 = .ok (.if_icmp .le 7, 3) := by decide +kernel
theorem dX1_leapsTo_18 : decode cX1_leapsTo 18 = .ok (.iconst 1, 1) := by decide +kernel
theorem dX1_leapsTo_19 : decode cX1_leapsTo 19 = .ok (.goto 4, 3) := by decide +kernel
theorem dX1_leapsTo_22 : decode cX1_leapsTo 22 = .ok (.iconst 0, 1) := by decide +kernel
theorem dX1_leapsTo_23 : decode cX1_leapsTo 23 = .ok (.istore_n 2, 1) := by decide +kernel
theorem dX1_leapsTo_24 : decode cX1_leapsTo 24 = .ok (.aload_n 0, 1) := by decide +kernel
theorem dX1_leapsTo_25 : decode cX1_leapsTo 25 = .ok (.iconst 1, 1) := by decide +kernel
theorem dX1_leapsTo_26 : decode cX1_leapsTo 26 = .ok (.iload_n 1, 1) := by decide +kernel
theorem dX1_leapsTo_27 : decode cX1_leapsTo 27 = .ok (.invokevirtual 34, 3) := by decide +kernel
theorem dX1_leapsTo_30 : decode cX1_leapsTo 30 = .ok (.bipush 9, 2) := by decide +kernel
theorem dX1_leapsTo_32 : decode cX1_leapsTo 32 = .ok (.if_icmp .le 7, 3) := by decide +kernel
theorem dX1_leapsTo_35 : decode cX1_leapsTo 35 = .ok (.iconst 1, 1) := by decide +kernel
theorem dX1_leapsTo_36 : decode cX1_leapsTo 36 = .ok (.goto 4, 3) := by decide +kernel
theorem dX1_leapsTo_39 : decode cX1_leapsTo 39 = .ok (.iconst 0, 1) := by decide +kernel
theorem dX1_leapsTo_40 : decode cX1_leapsTo 40 = .ok (.istore_n 3, 1) := by decide +kernel
theorem dX1_leapsTo_41 : decode cX1_leapsTo 41 = .ok (.iload_n 2, 1) := by decide +kernel
theorem dX1_leapsTo_42 : decode cX1_leapsTo 42 = .ok (.iload_n 3, 1) := by decide +kernel
theorem dX1_leapsTo_43 : decode cX1_leapsTo 43 = .ok (.iadd, 1) := by decide +kernel
theorem dX1_leapsTo_44 : decode cX1_leapsTo 44 = .ok (.ireturn, 1) := by decide +kernel
set_option maxRecDepth 20000 in
theorem ggX1_badEndsAt_X1_interval : GoodIn wsX1_badEndsAt wsX1_interval := goodIn_r _ [6, 7, 8, 9, 10, 11, 12, 13, 5, 14, 15, 16, 20, 21, 22] (by decide +kernel) (by decide +kernel)
set_option maxRecDepth 20000 in
theorem gX1_badEndsAt_X1_interval : GoodIn wsX1_badEndsAt (wsV RX1 59 RX1 yX1_interval wsX1_interval) := goodIn_app (goodIn_of _ (by decide +kernel)) ggX1_badEndsAt_X1_interval
set_option maxRecDepth 20000 in
theorem ggX1_badEndsAt_X1_isPerfect : GoodIn wsX1_badEndsAt wsX1_isPerfect := goodIn_r _ [19] (by decide +kernel) (by decide +kernel)
set_option maxRecDepth 20000 in
theorem gX1_badEndsAt_X1_isPerfect : GoodIn wsX1_badEndsAt (va_wsS RX1 62 yX1_isPerfect wsX1_isPerfect) := goodIn_app (goodIn_of _ (by decide +kernel)) ggX1_badEndsAt_X1_isPerfect
theorem dX1_badEndsAt_0 : decode cX1_badEndsAt 0 = .ok (.aload_n 0, 1) := by decide +kernel
theorem dX1_badEndsAt_1 : decode cX1_badEndsAt 1 = .ok (.iload_n 1, 1) := by decide +kernel
theorem dX1_badEndsAt_2 : decode cX1_badEndsAt 2 = .ok (.invokevirtual 59, 3) := by decide +kernel
theorem dX1_badEndsAt_5 : decode cX1_badEndsAt 5 = .ok (.invokestatic 62, 3) := by decide +kernel
theorem dX1_badEndsAt_8 : decode cX1_badEndsAt 8 = .ok (.ifCond .eq 5, 3) := by decide +kernel
theorem dX1_badEndsAt_11 : decode cX1_badEndsAt 11 = .ok (.iconst 0, 1) := by decide +kernel
theorem dX1_badEndsAt_12 : decode cX1_badEndsAt 12 = .ok (.ireturn, 1) := by decide +kernel
theorem dX1_badEndsAt_13 : decode cX1_badEndsAt 13 = .ok (.iload_n 1, 1) := by decide +kernel
theorem dX1_badEndsAt_14 : decode cX1_badEndsAt 14 = .ok (.ifCond .ne 7, 3) := by decide +kernel
theorem dX1_badEndsAt_17 : decode cX1_badEndsAt 17 = .ok (.iconst 1, 1) := by decide +kernel
theorem dX1_badEndsAt_18 : decode cX1_badEndsAt 18 = .ok (.goto 4, 3) := by decide +kernel
theorem dX1_badEndsAt_21 : decode cX1_badEndsAt 21 = .ok (.iconst 0, 1) := by decide +kernel
theorem dX1_badEndsAt_22 : decode cX1_badEndsAt 22 = .ok (.istore_n 2, 1) := by decide +kernel
theorem dX1_badEndsAt_23 : decode cX1_badEndsAt 23 = .ok (.iload_n 1, 1) := by decide +kernel
theorem dX1_badEndsAt_24 : decode cX1_badEndsAt 24 = .ok (.aload_n 0, 1) := by decide +kernel
theorem dX1_badEndsAt_25 : decode cX1_badEndsAt 25 = .ok (.getfield 9, 3) := by decide +kernel
theorem dX1_badEndsAt_28 : decode cX1_badEndsAt 28 = .ok (.iconst 1, 1) := by decide +kernel
theorem dX1_badEndsAt_29 : decode cX1_badEndsAt 29 = .ok (.isub, 1) := by decide +kernel
theorem dX1_badEndsAt_30 : decode cX1_badEndsAt 30 = .ok (.if_icmp .ne 7, 3) := by decide +kernel
theorem dX1_badEndsAt_33 : decode cX1_badEndsAt 33 = .ok (.iconst 1, 1) := by decide +kernel
theorem dX1_badEndsAt_34 : decode cX1_badEndsAt 34 = .ok (.goto 4, 3) := by decide +kernel
theorem dX1_badEndsAt_37 : decode cX1_badEndsAt 37 = .ok (.iconst 0, 1) := by decide +kernel
theorem dX1_badEndsAt_38 : decode cX1_badEndsAt 38 = .ok (.istore_n 3, 1) := by decide +kernel
theorem dX1_badEndsAt_39 : decode cX1_badEndsAt 39 = .ok (.iload_n 2, 1) := by decide +kernel
theorem dX1_badEndsAt_40 : decode cX1_badEndsAt 40 = .ok (.iload_n 3, 1) := by decide +kernel
theorem dX1_badEndsAt_41 : decode cX1_badEndsAt 41 = .ok (.iadd, 1) := by decide +kernel
theorem dX1_badEndsAt_42 : decode cX1_badEndsAt 42 = .ok (.ireturn, 1) := by decide +kernel
set_option maxRecDepth 20000 in
theorem ggX1_isStanding_X1_stepTo : GoodIn wsX1_isStanding wsX1_stepTo := goodIn_r _ [5, 6, 7, 8, 9, 10, 11, 12, 4, 13, 14, 15, 16, 17, 18] (by decide +kernel) (by decide +kernel)
set_option maxRecDepth 20000 in
theorem gX1_isStanding_X1_stepTo : GoodIn wsX1_isStanding (wsV RX1 34 RX1 yX1_stepTo wsX1_stepTo) := goodIn_app (goodIn_of _ (by decide +kernel)) ggX1_isStanding_X1_stepTo
theorem dX1_isStanding_0 : decode cX1_isStanding 0 = .ok (.iload_n 1, 1) := by decide +kernel
theorem dX1_isStanding_1 : decode cX1_isStanding 1 = .ok (.iconst 2, 1) := by decide +kernel
theorem dX1_isStanding_2 : decode cX1_isStanding 2 = .ok (.if_icmp .lt 27, 3) := by decide +kernel
theorem dX1_isStanding_5 : decode cX1_isStanding 5 = .ok (.aload_n 0, 1) := by decide +kernel
theorem dX1_isStanding_6 : decode cX1_isStanding 6 = .ok (.iconst 0, 1) := by decide +kernel
theorem dX1_isStanding_7 : decode cX1_isStanding 7 = .ok (.iload_n 1, 1) := by decide +kernel
theorem dX1_isStanding_8 : decode cX1_isStanding 8 = .ok (.invokevirtual 34, 3) := by decide +kernel
theorem dX1_isStanding_11 : decode cX1_isStanding 11 = .ok (.ifCond .ne 18, 3) := by decide +kernel
theorem dX1_isStanding_14 : decode cX1_isStanding 14 = .ok (.aload_n 0, 1) := by decide +kernel
theorem dX1_isStanding_15 : decode cX1_isStanding 15 = .ok (.iconst 0, 1) := by decide +kernel
theorem dX1_isStanding_16 : decode cX1_isStanding 16 = .ok (.iload_n 1, 1) := by decide +kernel
theorem dX1_isStanding_17 : decode cX1_isStanding 17 = .ok (.iconst 1, 1) := by decide +kernel
theorem dX1_isStanding_18 : decode cX1_isStanding 18 = .ok (.isub, 1) := by decide +kernel
theorem dX1_isStanding_19 : decode cX1_isStanding 19 = .ok (.invokevirtual 34, 3) := by decide +kernel
theorem dX1_isStanding_22 : decode cX1_isStanding 22 = .ok (.ifCond .ne 7, 3) := by decide +kernel
theorem dX1_isStanding_25 : decode cX1_isStanding 25 = .ok (.iconst 1, 1) := by decide +kernel
theorem dX1_isStanding_26 : decode cX1_isStanding 26 = .ok (.goto 4, 3) := by decide +kernel
theorem dX1_isStanding_29 : decode cX1_isStanding 29 = .ok (.iconst 0, 1) := by decide +kernel
theorem dX1_isStanding_30 : decode cX1_isStanding 30 = .ok (.ireturn, 1) := by decide +kernel
set_option maxRecDepth 20000 in
theorem ggX2_init_X1_init : GoodIn wsX2_init wsX1_init := goodIn_r _ [13, 14, 2, 3, 15, 16, 17, 18, 19, 20, 21] (by decide +kernel) (by decide +kernel)
set_option maxRecDepth 20000 in
theorem gX2_init_X1_init_n9 : GoodIn wsX2_init (wsX1_init) := ggX2_init_X1_init
theorem dX2_init_0 : decode cX2_init 0 = .ok (.aload_n 0, 1) := by decide +kernel
theorem dX2_init_1 : decode cX2_init 1 = .ok (.invokespecial 1, 3) := by decide +kernel
theorem dX2_init_4 : decode cX2_init 4 = .ok (.aload_n 0, 1) := by decide +kernel
theorem dX2_init_5 : decode cX2_init 5 = .ok (.new 7, 3) := by decide +kernel
theorem dX2_init_8 : decode cX2_init 8 = .ok (.dup, 1) := by decide +kernel
theorem dX2_init_9 : decode cX2_init 9 = .ok (.invokespecial 9, 3) := by decide +kernel
theorem dX2_init_12 : decode cX2_init 12 = .ok (.putfield 10, 3) := by decide +kernel
theorem dX2_init_15 : decode cX2_init 15 = .ok (.aload_n 0, 1) := by decide +kernel
theorem dX2_init_16 : decode cX2_init 16 = .ok (.iconst 0, 1) := by decide +kernel
theorem dX2_init_17 : decode cX2_init 17 = .ok (.putfield 16, 3) := by decide +kernel
theorem dX2_init_20 : decode cX2_init 20 = .ok (.aload_n 0, 1) := by decide +kernel
theorem dX2_init_21 : decode cX2_init 21 = .ok (.iconst 0, 1) := by decide +kernel
theorem dX2_init_22 : decode cX2_init 22 = .ok (.putfield 20, 3) := by decide +kernel
theorem dX2_init_25 : decode cX2_init 25 = .ok (.aload_n 0, 1) := by decide +kernel
theorem dX2_init_26 : decode cX2_init 26 = .ok (.iload_n 1, 1) := by decide +kernel
theorem dX2_init_27 : decode cX2_init 27 = .ok (.putfield 23, 3) := by decide +kernel
theorem dX2_init_30 : decode cX2_init 30 = .ok (.aload_n 0, 1) := by decide +kernel
theorem dX2_init_31 : decode cX2_init 31 = .ok (.aload_n 2, 1) := by decide +kernel
theorem dX2_init_32 : decode cX2_init 32 = .ok (.putfield 27, 3) := by decide +kernel
theorem dX2_init_35 : decode cX2_init 35 = .ok (.return_, 1) := by decide +kernel
set_option maxRecDepth 20000 in
theorem ggX3_init_X1_init : GoodIn wsX3_init wsX1_init := goodIn_r _ [18, 19, 2, 3, 20, 10, 21, 22, 30, 31, 32] (by decide +kernel) (by decide +kernel)
set_option maxRecDepth 20000 in
theorem gX3_init_X1_init_n37 : GoodIn wsX3_init (wsX1_init) := ggX3_init_X1_init
theorem dX3_init_0 : decode cX3_init 0 = .ok (.aload_n 0, 1) := by decide +kernel
theorem dX3_init_1 : decode cX3_init 1 = .ok (.invokespecial 1, 3) := by decide +kernel
theorem dX3_init_4 : decode cX3_init 4 = .ok (.aload_n 0, 1) := by decide +kernel
theorem dX3_init_5 : decode cX3_init 5 = .ok (.bipush 30, 2) := by decide +kernel
theorem dX3_init_7 : decode cX3_init 7 = .ok (.anewarray 9, 3) := by decide +kernel
theorem dX3_init_10 : decode cX3_init 10 = .ok (.putfield 11, 3) := by decide +kernel
theorem dX3_init_13 : decode cX3_init 13 = .ok (.aload_n 0, 1) := by decide +kernel
theorem dX3_init_14 : decode cX3_init 14 = .ok (.iconst 0, 1) := by decide +kernel
theorem dX3_init_15 : decode cX3_init 15 = .ok (.putfield 15, 3) := by decide +kernel
theorem dX3_init_18 : decode cX3_init 18 = .ok (.aload_n 0, 1) := by decide +kernel
theorem dX3_init_19 : decode cX3_init 19 = .ok (.bipush 20, 2) := by decide +kernel
theorem dX3_init_21 : decode cX3_init 21 = .ok (.anewarray 19, 3) := by decide +kernel
theorem dX3_init_24 : decode cX3_init 24 = .ok (.putfield 21, 3) := by decide +kernel
theorem dX3_init_27 : decode cX3_init 27 = .ok (.aload_n 0, 1) := by decide +kernel
theorem dX3_init_28 : decode cX3_init 28 = .ok (.iconst 0, 1) := by decide +kernel
theorem dX3_init_29 : decode cX3_init 29 = .ok (.putfield 25, 3) := by decide +kernel
theorem dX3_init_32 : decode cX3_init 32 = .ok (.aload_n 0, 1) := by decide +kernel
theorem dX3_init_33 : decode cX3_init 33 = .ok (.bipush 6, 2) := by decide +kernel
theorem dX3_init_35 : decode cX3_init 35 = .ok (.newarray .int, 2) := by decide +kernel
theorem dX3_init_37 : decode cX3_init 37 = .ok (.putfield 28, 3) := by decide +kernel
theorem dX3_init_40 : decode cX3_init 40 = .ok (.aload_n 0, 1) := by decide +kernel
theorem dX3_init_41 : decode cX3_init 41 = .ok (.bipush 60, 2) := by decide +kernel
theorem dX3_init_43 : decode cX3_init 43 = .ok (.putfield 32, 3) := by decide +kernel
theorem dX3_init_46 : decode cX3_init 46 = .ok (.aload_n 0, 1) := by decide +kernel
theorem dX3_init_47 : decode cX3_init 47 = .ok (.new 35, 3) := by decide +kernel
theorem dX3_init_50 : decode cX3_init 50 = .ok (.dup, 1) := by decide +kernel
theorem dX3_init_51 : decode cX3_init 51 = .ok (.invokespecial 37, 3) := by decide +kernel
theorem dX3_init_54 : decode cX3_init 54 = .ok (.putfield 38, 3) := by decide +kernel
theorem dX3_init_57 : decode cX3_init 57 = .ok (.iconst 0, 1) := by decide +kernel
theorem dX3_init_58 : decode cX3_init 58 = .ok (.istore_n 1, 1) := by decide +kernel
theorem dX3_init_59 : decode cX3_init 59 = .ok (.iload_n 1, 1) := by decide +kernel
theorem dX3_init_60 : decode cX3_init 60 = .ok (.aload_n 0, 1) := by decide +kernel
theorem dX3_init_61 : decode cX3_init 61 = .ok (.getfield 28, 3) := by decide +kernel
theorem dX3_init_64 : decode cX3_init 64 = .ok (.arraylength, 1) := by decide +kernel
theorem dX3_init_65 : decode cX3_init 65 = .ok (.if_icmp .ge 16, 3) := by decide +kernel
theorem dX3_init_68 : decode cX3_init 68 = .ok (.aload_n 0, 1) := by decide +kernel
theorem dX3_init_69 : decode cX3_init 69 = .ok (.getfield 28, 3) := by decide +kernel
theorem dX3_init_72 : decode cX3_init 72 = .ok (.iload_n 1, 1) := by decide +kernel
theorem dX3_init_73 : decode cX3_init 73 = .ok (.iconst 5, 1) := by decide +kernel
theorem dX3_init_74 : decode cX3_init 74 = .ok (.iastore, 1) := by decide +kernel
theorem dX3_init_75 : decode cX3_init 75 = .ok (.iinc 1 1, 3) := by decide +kernel
theorem dX3_init_78 : decode cX3_init 78 = .ok (.goto (-19), 3) := by decide +kernel
theorem dX3_init_81 : decode cX3_init 81 = .ok (.return_, 1) := by decide +kernel
set_option maxRecDepth 20000 in
theorem ggX3_begin_X3_addVersion : GoodIn wsX3_begin wsX3_addVersion := goodIn_ca (goodIn_r _ [7, 8, 9, 10, 11, 12, 13, 14, 15, 16, 17, 18, 19, 20, 21, 22, 23, 24, 25, 26, 27, 28, 29, 30, 31, 32, 33, 34, 35, 49, 50, 51, 52, 53, 54, 55, 44, 45, 46, 47, 48, 56, 57, 58] (by decide +kernel) (by decide +kernel)) (goodIn_sub (fun _ h => List.mem_cons_of_mem _ (List.mem_append_right _ h)) (by decide +kernel))
set_option maxRecDepth 20000 in
theorem gX3_begin_X3_addVersion : GoodIn wsX3_begin (wsV RX3 49 RX3 yX3_addVersion wsX3_addVersion) := goodIn_app (goodIn_of _ (by decide +kernel)) ggX3_begin_X3_addVersion
set_option maxRecDepth 20000 in
theorem ggX3_begin_X1_fill : GoodIn wsX3_begin wsX1_fill := goodIn_r _ [39, 32, 40, 41, 42, 23, 43, 34, 35, 56, 57, 58] (by decide +kernel) (by decide +kernel)
set_option maxRecDepth 20000 in
theorem gX3_begin_X1_fill : GoodIn wsX3_begin (wsV RX3 56 RX1 yX1_fill wsX1_fill) := goodIn_app (goodIn_of _ (by decide +kernel)) ggX3_begin_X1_fill
theorem dX3_begin_0 : decode cX3_begin 0 = .ok (.iload_n 1, 1) := by decide +kernel
theorem dX3_begin_1 : decode cX3_begin 1 = .ok (.iconst 1, 1) := by decide +kernel
theorem dX3_begin_2 : decode cX3_begin 2 = .ok (.if_icmp .lt 9, 3) := by decide +kernel
theorem dX3_begin_5 : decode cX3_begin 5 = .ok (.iload_n 1, 1) := by decide +kernel
theorem dX3_begin_6 : decode cX3_begin 6 = .ok (.bipush 12, 2) := by decide +kernel
theorem dX3_begin_8 : decode cX3_begin 8 = .ok (.if_icmp .le 13, 3) := by decide +kernel
theorem dX3_begin_11 : decode cX3_begin 11 = .ok (.new 42, 3) := by decide +kernel
theorem dX3_begin_14 : decode cX3_begin 14 = .ok (.dup, 1) := by decide +kernel
theorem dX3_begin_15 : decode cX3_begin 15 = .ok (.ldc 44, 2) := by decide +kernel
theorem dX3_begin_17 : decode cX3_begin 17 = .ok (.invokespecial 46, 3) := by decide +kernel
end
section
theorem dX3_begin_20 : decode cX3_begin 20 = .ok (.athrow, 1) := by decide +kernel
theorem dX3_begin_21 : decode cX3_begin 21 = .ok (.aload_n 0, 1) := by decide +kernel
theorem dX3_begin_22 : decode cX3_begin 22 = .ok (.aconst_null, 1) := by decide +kernel
theorem dX3_begin_23 : decode cX3_begin 23 = .ok (.invokevirtual 49, 3) := by decide +kernel
theorem dX3_begin_26 : decode cX3_begin 26 = .ok (.astore_n 2, 1) := by decide +kernel
theorem dX3_begin_27 : decode cX3_begin 27 = .ok (.aload_n 2, 1) := by decide +kernel
theorem dX3_begin_28 : decode cX3_begin 28 = .ok (.getfield 53, 3) := by decide +kernel
theorem dX3_begin_31 : decode cX3_begin 31 = .ok (.iload_n 1, 1) := by decide +kernel
theorem dX3_begin_32 : decode cX3_begin 32 = .ok (.bipush 20, 2) := by decide +kernel
theorem dX3_begin_34 : decode cX3_begin 34 = .ok (.invokevirtual 56, 3) := by decide +kernel
theorem dX3_begin_37 : decode cX3_begin 37 = .ok (.aload_n 2, 1) := by decide +kernel
theorem dX3_begin_38 : decode cX3_begin 38 = .ok (.getfield 60, 3) := by decide +kernel
theorem dX3_begin_41 : decode cX3_begin 41 = .ok (.ireturn, 1) := by decide +kernel
set_option maxRecDepth 20000 in
theorem ggX3_branch_X3_findVersion : GoodIn wsX3_branch wsX3_findVersion := goodIn_ca (goodIn_r _ [5, 6, 7, 8, 61, 62, 63, 64, 65, 66, 67] (by decide +kernel) (by decide +kernel)) (goodIn_sub (fun _ h => List.mem_cons_of_mem _ (List.mem_append_left _ (List.mem_append_right _ h))) (by decide +kernel))
set_option maxRecDepth 20000 in
theorem gX3_branch_X3_findVersion : GoodIn wsX3_branch (wsV RX3 63 RX3 yX3_findVersion wsX3_findVersion) := goodIn_app (goodIn_of _ (by decide +kernel)) ggX3_branch_X3_findVersion
set_option maxRecDepth 20000 in
theorem ggX3_branch_X3_addVersion : GoodIn wsX3_branch wsX3_addVersion := goodIn_ca (goodIn_r _ [12, 13, 14, 15, 8, 16, 17, 18, 19, 20, 21, 22, 23, 24, 25, 26, 27, 28, 29, 30, 31, 32, 33, 34, 35, 36, 37, 38, 39, 61, 62, 63, 64, 65, 66, 67, 56, 57, 58, 59, 60, 68, 69, 70] (by decide +kernel) (by decide +kernel)) (goodIn_sub (fun _ h => List.mem_cons_of_mem _ (List.mem_append_right _ h)) (by decide +kernel))
set_option maxRecDepth 20000 in
theorem gX3_branch_X3_addVersion : GoodIn wsX3_branch (wsV RX3 49 RX3 yX3_addVersion wsX3_addVersion) := goodIn_app (goodIn_of _ (by decide +kernel)) ggX3_branch_X3_addVersion
set_option maxRecDepth 20000 in
theorem ggX3_branch_X1_takeAll : GoodIn wsX3_branch wsX1_takeAll := goodIn_r _ [43, 36, 44, 45, 46, 27, 47, 48, 49, 50, 51, 38, 39, 52, 53, 54, 55, 68, 69, 70] (by decide +kernel) (by decide +kernel)
set_option maxRecDepth 20000 in
theorem gX3_branch_X1_takeAll : GoodIn wsX3_branch (wsV RX3 67 RX1 yX1_takeAll wsX1_takeAll) := goodIn_app (goodIn_of _ (by decide +kernel)) ggX3_branch_X1_takeAll
theorem dX3_branch_0 : decode cX3_branch 0 = .ok (.aload_n 0, 1) := by decide +kernel
theorem dX3_branch_1 : decode cX3_branch 1 = .ok (.iload_n 1, 1) := by decide +kernel
theorem dX3_branch_2 : decode cX3_branch 2 = .ok (.invokevirtual 63, 3) := by decide +kernel
theorem dX3_branch_5 : decode cX3_branch 5 = .ok (.astore_n 2, 1) := by decide +kernel
theorem dX3_branch_6 : decode cX3_branch 6 = .ok (.aload_n 0, 1) := by decide +kernel
theorem dX3_branch_7 : decode cX3_branch 7 = .ok (.aload_n 2, 1) := by decide +kernel
theorem dX3_branch_8 : decode cX3_branch 8 = .ok (.invokevirtual 49, 3) := by decide +kernel
theorem dX3_branch_11 : decode cX3_branch 11 = .ok (.astore_n 3, 1) := by decide +kernel
theorem dX3_branch_12 : decode cX3_branch 12 = .ok (.aload_n 3, 1) := by decide +kernel
theorem dX3_branch_13 : decode cX3_branch 13 = .ok (.getfield 53, 3) := by decide +kernel
theorem dX3_branch_16 : decode cX3_branch 16 = .ok (.aload_n 2, 1) := by decide +kernel
theorem dX3_branch_17 : decode cX3_branch 17 = .ok (.getfield 53, 3) := by decide +kernel
theorem dX3_branch_20 : decode cX3_branch 20 = .ok (.invokevirtual 67, 3) := by decide +kernel
theorem dX3_branch_23 : decode cX3_branch 23 = .ok (.aload_n 2, 1) := by decide +kernel
theorem dX3_branch_24 : decode cX3_branch 24 = .ok (.iconst 1, 1) := by decide +kernel
theorem dX3_branch_25 : decode cX3_branch 25 = .ok (.putfield 71, 3) := by decide +kernel
theorem dX3_branch_28 : decode cX3_branch 28 = .ok (.aload_n 3, 1) := by decide +kernel
theorem dX3_branch_29 : decode cX3_branch 29 = .ok (.getfield 60, 3) := by decide +kernel
theorem dX3_branch_32 : decode cX3_branch 32 = .ok (.ireturn, 1) := by decide +kernel
set_option maxRecDepth 20000 in
theorem ggX3_setNote_X3_findVersion : GoodIn wsX3_setNote wsX3_findVersion := goodIn_ca (goodIn_r _ [9, 10, 11, 12, 35, 36, 37, 38, 39, 40, 41] (by decide +kernel) (by decide +kernel)) (goodIn_sub (fun _ h => List.mem_cons_of_mem _ (List.mem_append_right _ h)) (by decide +kernel))
set_option maxRecDepth 20000 in
theorem gX3_setNote_X3_findVersion : GoodIn wsX3_setNote (wsV RX3 63 RX3 yX3_findVersion wsX3_findVersion) := goodIn_app (goodIn_of _ (by decide +kernel)) ggX3_setNote_X3_findVersion
set_option maxRecDepth 20000 in
theorem ggX3_setNote_X3_checkVoice : GoodIn wsX3_setNote wsX3_checkVoice := goodIn_ca (goodIn_r _ [15, 10, 11] (by decide +kernel) (by decide +kernel)) (goodIn_sub (fun _ h => List.mem_cons_of_mem _ (List.mem_append_right _ h)) (by decide +kernel))
set_option maxRecDepth 20000 in
theorem gX3_setNote_X3_checkVoice : GoodIn wsX3_setNote (va_wsS RX3 75 yX3_checkVoice wsX3_checkVoice) := goodIn_app (goodIn_of _ (by decide +kernel)) ggX3_setNote_X3_checkVoice
set_option maxRecDepth 20000 in
theorem ggX3_setNote_X3_checkBar : GoodIn wsX3_setNote wsX3_checkBar := goodIn_ca (goodIn_r _ [18, 10, 11, 30, 31, 32, 33, 34, 42, 43, 44] (by decide +kernel) (by decide +kernel)) (goodIn_sub (fun _ h => List.mem_cons_of_mem _ (List.mem_append_right _ h)) (by decide +kernel))
set_option maxRecDepth 20000 in
theorem gX3_setNote_X3_checkBar : GoodIn wsX3_setNote (va_wsS RX3 79 yX3_checkBar wsX3_checkBar) := goodIn_app (goodIn_of _ (by decide +kernel)) ggX3_setNote_X3_checkBar
set_option maxRecDepth 20000 in
theorem ggX3_setNote_X1_tone : GoodIn wsX3_setNote wsX1_tone := goodIn_r _ [23, 24, 25, 42, 43, 44] (by decide +kernel) (by decide +kernel)
set_option maxRecDepth 20000 in
theorem gX3_setNote_X1_tone : GoodIn wsX3_setNote (wsV RX3 90 RX1 yX1_tone wsX1_tone) := goodIn_app (goodIn_of _ (by decide +kernel)) ggX3_setNote_X1_tone
set_option maxRecDepth 20000 in
theorem ggX3_setNote_X1_setTone : GoodIn wsX3_setNote wsX1_setTone := goodIn_r _ [29, 24, 25, 42, 43, 44] (by decide +kernel) (by decide +kernel)
set_option maxRecDepth 20000 in
theorem gX3_setNote_X1_setTone : GoodIn wsX3_setNote (wsV RX3 94 RX1 yX1_setTone wsX1_setTone) := goodIn_app (goodIn_of _ (by decide +kernel)) ggX3_setNote_X1_setTone
theorem dX3_setNote_0 : decode cX3_setNote 0 = .ok (.aload_n 0, 1) := by decide +kernel
theorem dX3_setNote_1 : decode cX3_setNote 1 = .ok (.iload_n 1, 1) := by decide +kernel
theorem dX3_setNote_2 : decode cX3_setNote 2 = .ok (.invokevirtual 63, 3) := by decide +kernel
theorem dX3_setNote_5 : decode cX3_setNote 5 = .ok (.astore 5, 2) := by decide +kernel
theorem dX3_setNote_7 : decode cX3_setNote 7 = .ok (.iload_n 2, 1) := by decide +kernel
theorem dX3_setNote_8 : decode cX3_setNote 8 = .ok (.invokestatic 75, 3) := by decide +kernel
theorem dX3_setNote_11 : decode cX3_setNote 11 = .ok (.aload 5, 2) := by decide +kernel
theorem dX3_setNote_13 : decode cX3_setNote 13 = .ok (.iload_n 3, 1) := by decide +kernel
theorem dX3_setNote_14 : decode cX3_setNote 14 = .ok (.invokestatic 79, 3) := by decide +kernel
theorem dX3_setNote_17 : decode cX3_setNote 17 = .ok (.iload 4, 2) := by decide +kernel
theorem dX3_setNote_19 : decode cX3_setNote 19 = .ok (.ifCond .lt 10, 3) := by decide +kernel
theorem dX3_setNote_22 : decode cX3_setNote 22 = .ok (.iload 4, 2) := by decide +kernel
theorem dX3_setNote_24 : decode cX3_setNote 24 = .ok (.bipush 40, 2) := by decide +kernel
theorem dX3_setNote_26 : decode cX3_setNote 26 = .ok (.if_icmp .le 13, 3) := by decide +kernel
theorem dX3_setNote_29 : decode cX3_setNote 29 = .ok (.new 42, 3) := by decide +kernel
theorem dX3_setNote_32 : decode cX3_setNote 32 = .ok (.dup, 1) := by decide +kernel
theorem dX3_setNote_33 : decode cX3_setNote 33 = .ok (.ldc 83, 2) := by decide +kernel
theorem dX3_setNote_35 : decode cX3_setNote 35 = .ok (.invokespecial 46, 3) := by decide +kernel
theorem dX3_setNote_38 : decode cX3_setNote 38 = .ok (.athrow, 1) := by decide +kernel
theorem dX3_setNote_39 : decode cX3_setNote 39 = .ok (.aload 5, 2) := by decide +kernel
theorem dX3_setNote_41 : decode cX3_setNote 41 = .ok (.getfield 71, 3) := by decide +kernel
theorem dX3_setNote_44 : decode cX3_setNote 44 = .ok (.ifCond .eq 13, 3) := by decide +kernel
theorem dX3_setNote_47 : decode cX3_setNote 47 = .ok (.new 85, 3) := by decide +kernel
theorem dX3_setNote_50 : decode cX3_setNote 50 = .ok (.dup, 1) := by decide +kernel
theorem dX3_setNote_51 : decode cX3_setNote 51 = .ok (.ldc 87, 2) := by decide +kernel
theorem dX3_setNote_53 : decode cX3_setNote 53 = .ok (.invokespecial 89, 3) := by decide +kernel
theorem dX3_setNote_56 : decode cX3_setNote 56 = .ok (.athrow, 1) := by decide +kernel
theorem dX3_setNote_57 : decode cX3_setNote 57 = .ok (.aload 5, 2) := by decide +kernel
theorem dX3_setNote_59 : decode cX3_setNote 59 = .ok (.getfield 53, 3) := by decide +kernel
theorem dX3_setNote_62 : decode cX3_setNote 62 = .ok (.iload_n 2, 1) := by decide +kernel
theorem dX3_setNote_63 : decode cX3_setNote 63 = .ok (.iload_n 3, 1) := by decide +kernel
theorem dX3_setNote_64 : decode cX3_setNote 64 = .ok (.invokevirtual 90, 3) := by decide +kernel
theorem dX3_setNote_67 : decode cX3_setNote 67 = .ok (.istore 6, 2) := by decide +kernel
theorem dX3_setNote_69 : decode cX3_setNote 69 = .ok (.aload 5, 2) := by decide +kernel
theorem dX3_setNote_71 : decode cX3_setNote 71 = .ok (.getfield 53, 3) := by decide +kernel
theorem dX3_setNote_74 : decode cX3_setNote 74 = .ok (.iload_n 2, 1) := by decide +kernel
theorem dX3_setNote_75 : decode cX3_setNote 75 = .ok (.iload_n 3, 1) := by decide +kernel
theorem dX3_setNote_76 : decode cX3_setNote 76 = .ok (.iload 4, 2) := by decide +kernel
theorem dX3_setNote_78 : decode cX3_setNote 78 = .ok (.invokevirtual 94, 3) := by decide +kernel
theorem dX3_setNote_81 : decode cX3_setNote 81 = .ok (.iload 6, 2) := by decide +kernel
theorem dX3_setNote_83 : decode cX3_setNote 83 = .ok (.ireturn, 1) := by decide +kernel
set_option maxRecDepth 20000 in
theorem ggX3_note_X3_findVersion : GoodIn wsX3_note wsX3_findVersion := goodIn_ca (goodIn_r _ [5, 6, 7, 8, 27, 28, 29, 30, 31, 32, 33] (by decide +kernel) (by decide +kernel)) (goodIn_sub (fun _ h => List.mem_cons_of_mem _ (List.mem_append_right _ h)) (by decide +kernel))
set_option maxRecDepth 20000 in
theorem gX3_note_X3_findVersion : GoodIn wsX3_note (wsV RX3 63 RX3 yX3_findVersion wsX3_findVersion) := goodIn_app (goodIn_of _ (by decide +kernel)) ggX3_note_X3_findVersion
set_option maxRecDepth 20000 in
theorem ggX3_note_X3_checkVoice : GoodIn wsX3_note wsX3_checkVoice := goodIn_ca (goodIn_r _ [11, 6, 7] (by decide +kernel) (by decide +kernel)) (goodIn_sub (fun _ h => List.mem_cons_of_mem _ (List.mem_append_right _ h)) (by decide +kernel))
set_option maxRecDepth 20000 in
theorem gX3_note_X3_checkVoice : GoodIn wsX3_note (va_wsS RX3 75 yX3_checkVoice wsX3_checkVoice) := goodIn_app (goodIn_of _ (by decide +kernel)) ggX3_note_X3_checkVoice
set_option maxRecDepth 20000 in
theorem ggX3_note_X3_checkBar : GoodIn wsX3_note wsX3_checkBar := goodIn_ca (goodIn_r _ [14, 6, 7, 22, 23, 24, 25, 26, 34, 35, 36] (by decide +kernel) (by decide +kernel)) (goodIn_sub (fun _ h => List.mem_cons_of_mem _ (List.mem_append_right _ h)) (by decide +kernel))
set_option maxRecDepth 20000 in
theorem gX3_note_X3_checkBar : GoodIn wsX3_note (va_wsS RX3 79 yX3_checkBar wsX3_checkBar) := goodIn_app (goodIn_of _ (by decide +kernel)) ggX3_note_X3_checkBar
set_option maxRecDepth 20000 in
theorem ggX3_note_X1_tone : GoodIn wsX3_note wsX1_tone := goodIn_r _ [19, 20, 21, 34, 35, 36] (by decide +kernel) (by decide +kernel)
set_option maxRecDepth 20000 in
theorem gX3_note_X1_tone : GoodIn wsX3_note (wsV RX3 90 RX1 yX1_tone wsX1_tone) := goodIn_app (goodIn_of _ (by decide +kernel)) ggX3_note_X1_tone
theorem dX3_note_0 : decode cX3_note 0 = .ok (.aload_n 0, 1) := by decide +kernel
theorem dX3_note_1 : decode cX3_note 1 = .ok (.iload_n 1, 1) := by decide +kernel
theorem dX3_note_2 : decode cX3_note 2 = .ok (.invokevirtual 63, 3) := by decide +kernel
theorem dX3_note_5 : decode cX3_note 5 = .ok (.astore 4, 2) := by decide +kernel
theorem dX3_note_7 : decode cX3_note 7 = .ok (.iload_n 2, 1) := by decide +kernel
theorem dX3_note_8 : decode cX3_note 8 = .ok (.invokestatic 75, 3) := by decide +kernel
theorem dX3_note_11 : decode cX3_note 11 = .ok (.aload 4, 2) := by decide +kernel
theorem dX3_note_13 : decode cX3_note 13 = .ok (.iload_n 3, 1) := by decide +kernel
theorem dX3_note_14 : decode cX3_note 14 = .ok (.invokestatic 79, 3) := by decide +kernel
theorem dX3_note_17 : decode cX3_note 17 = .ok (.aload 4, 2) := by decide +kernel
theorem dX3_note_19 : decode cX3_note 19 = .ok (.getfield 53, 3) := by decide +kernel
theorem dX3_note_22 : decode cX3_note 22 = .ok (.iload_n 2, 1) := by decide +kernel
theorem dX3_note_23 : decode cX3_note 23 = .ok (.iload_n 3, 1) := by decide +kernel
theorem dX3_note_24 : decode cX3_note 24 = .ok (.invokevirtual 90, 3) := by decide +kernel
theorem dX3_note_27 : decode cX3_note 27 = .ok (.ireturn, 1) := by decide +kernel
set_option maxRecDepth 20000 in
theorem ggX3_base_X3_findVersion : GoodIn wsX3_base wsX3_findVersion := goodIn_ca (goodIn_r _ [5, 6, 7, 8, 20, 21, 22, 23, 24, 25, 26] (by decide +kernel) (by decide +kernel)) (goodIn_sub (fun _ h => List.mem_cons_of_mem _ (List.mem_append_right _ h)) (by decide +kernel))
set_option maxRecDepth 20000 in
theorem gX3_base_X3_findVersion : GoodIn wsX3_base (wsV RX3 63 RX3 yX3_findVersion wsX3_findVersion) := goodIn_app (goodIn_of _ (by decide +kernel)) ggX3_base_X3_findVersion
set_option maxRecDepth 20000 in
theorem ggX3_base_X3_commonAncestor : GoodIn wsX3_base wsX3_commonAncestor := goodIn_r _ [11, 12, 13, 4, 14, 15, 16, 17, 18, 19] (by decide +kernel) (by decide +kernel)
set_option maxRecDepth 20000 in
theorem gX3_base_X3_commonAncestor : GoodIn wsX3_base (va_wsS RX3 98 yX3_commonAncestor wsX3_commonAncestor) := goodIn_app (goodIn_of _ (by decide +kernel)) ggX3_base_X3_commonAncestor
theorem dX3_base_0 : decode cX3_base 0 = .ok (.aload_n 0, 1) := by decide +kernel
theorem dX3_base_1 : decode cX3_base 1 = .ok (.iload_n 1, 1) := by decide +kernel
theorem dX3_base_2 : decode cX3_base 2 = .ok (.invokevirtual 63, 3) := by decide +kernel
theorem dX3_base_5 : decode cX3_base 5 = .ok (.aload_n 0, 1) := by decide +kernel
theorem dX3_base_6 : decode cX3_base 6 = .ok (.iload_n 2, 1) := by decide +kernel
theorem dX3_base_7 : decode cX3_base 7 = .ok (.invokevirtual 63, 3) := by decide +kernel
theorem dX3_base_10 : decode cX3_base 10 = .ok (.invokestatic 98, 3) := by decide +kernel
theorem dX3_base_13 : decode cX3_base 13 = .ok (.astore_n 3, 1) := by decide +kernel
theorem dX3_base_14 : decode cX3_base 14 = .ok (.aload_n 3, 1) := by decide +kernel
theorem dX3_base_15 : decode cX3_base 15 = .ok (.ifnonnull 7, 3) := by decide +kernel
theorem dX3_base_18 : decode cX3_base 18 = .ok (.iconst (-1), 1) := by decide +kernel
theorem dX3_base_19 : decode cX3_base 19 = .ok (.goto 7, 3) := by decide +kernel
theorem dX3_base_22 : decode cX3_base 22 = .ok (.aload_n 3, 1) := by decide +kernel
theorem dX3_base_23 : decode cX3_base 23 = .ok (.getfield 60, 3) := by decide +kernel
theorem dX3_base_26 : decode cX3_base 26 = .ok (.ireturn, 1) := by decide +kernel
set_option maxRecDepth 20000 in
theorem ggX3_conflicts_X3_findVersion : GoodIn wsX3_conflicts wsX3_findVersion := goodIn_ca (goodIn_r _ [7, 8, 9, 10, 36, 37, 38, 39, 40, 41, 42] (by decide +kernel) (by decide +kernel)) (goodIn_sub (fun _ h => List.mem_cons_of_mem _ (List.mem_append_right _ h)) (by decide +kernel))
set_option maxRecDepth 20000 in
theorem gX3_conflicts_X3_findVersion : GoodIn wsX3_conflicts (wsV RX3 63 RX3 yX3_findVersion wsX3_findVersion) := goodIn_app (goodIn_of _ (by decide +kernel)) ggX3_conflicts_X3_findVersion
set_option maxRecDepth 20000 in
theorem ggX3_conflicts_X3_commonAncestor : GoodIn wsX3_conflicts wsX3_commonAncestor := goodIn_r _ [13, 14, 15, 6, 16, 31, 32, 33, 34, 35] (by decide +kernel) (by decide +kernel)
set_option maxRecDepth 20000 in
theorem gX3_conflicts_X3_commonAncestor : GoodIn wsX3_conflicts (va_wsS RX3 98 yX3_commonAncestor wsX3_commonAncestor) := goodIn_app (goodIn_of _ (by decide +kernel)) ggX3_conflicts_X3_commonAncestor
set_option maxRecDepth 20000 in
theorem ggX3_conflicts_X3_conflictingBars : GoodIn wsX3_conflicts wsX3_conflictingBars := goodIn_r _ [19, 20, 21, 22, 23, 24, 25, 26, 27, 28, 29, 30, 43, 44, 45] (by decide +kernel) (by decide +kernel)
set_option maxRecDepth 20000 in
theorem gX3_conflicts_X3_conflictingBars : GoodIn wsX3_conflicts (va_wsS RX3 104 yX3_conflictingBars wsX3_conflictingBars) := goodIn_app (goodIn_of _ (by decide +kernel)) ggX3_conflicts_X3_conflictingBars
theorem dX3_conflicts_0 : decode cX3_conflicts 0 = .ok (.aload_n 0, 1) := by decide +kernel
theorem dX3_conflicts_1 : decode cX3_conflicts 1 = .ok (.iload_n 1, 1) := by decide +kernel
theorem dX3_conflicts_2 : decode cX3_conflicts 2 = .ok (.invokevirtual 63, 3) := by decide +kernel
theorem dX3_conflicts_5 : decode cX3_conflicts 5 = .ok (.astore_n 3, 1) := by decide +kernel
theorem dX3_conflicts_6 : decode cX3_conflicts 6 = .ok (.aload_n 0, 1) := by decide +kernel
theorem dX3_conflicts_7 : decode cX3_conflicts 7 = .ok (.iload_n 2, 1) := by decide +kernel
theorem dX3_conflicts_8 : decode cX3_conflicts 8 = .ok (.invokevirtual 63, 3) := by decide +kernel
theorem dX3_conflicts_11 : decode cX3_conflicts 11 = .ok (.astore 4, 2) := by decide +kernel
theorem dX3_conflicts_13 : decode cX3_conflicts 13 = .ok (.aload_n 3, 1) := by decide +kernel
theorem dX3_conflicts_14 : decode cX3_conflicts 14 = .ok (.aload 4, 2) := by decide +kernel
theorem dX3_conflicts_16 : decode cX3_conflicts 16 = .ok (.invokestatic 98, 3) := by decide +kernel
theorem dX3_conflicts_19 : decode cX3_conflicts 19 = .ok (.astore 5, 2) := by decide +kernel
theorem dX3_conflicts_21 : decode cX3_conflicts 21 = .ok (.aload 5, 2) := by decide +kernel
theorem dX3_conflicts_23 : decode cX3_conflicts 23 = .ok (.ifnonnull 13, 3) := by decide +kernel
theorem dX3_conflicts_26 : decode cX3_conflicts 26 = .ok (.new 85, 3) := by decide +kernel
theorem dX3_conflicts_29 : decode cX3_conflicts 29 = .ok (.dup, 1) := by decide +kernel
theorem dX3_conflicts_30 : decode cX3_conflicts 30 = .ok (.ldc 102, 2) := by decide +kernel
theorem dX3_conflicts_32 : decode cX3_conflicts 32 = .ok (.invokespecial 89, 3) := by decide +kernel
theorem dX3_conflicts_35 : decode cX3_conflicts 35 = .ok (.athrow, 1) := by decide +kernel
theorem dX3_conflicts_36 : decode cX3_conflicts 36 = .ok (.aload_n 3, 1) := by decide +kernel
theorem dX3_conflicts_37 : decode cX3_conflicts 37 = .ok (.getfield 53, 3) := by decide +kernel
theorem dX3_conflicts_40 : decode cX3_conflicts 40 = .ok (.aload 4, 2) := by decide +kernel
theorem dX3_conflicts_42 : decode cX3_conflicts 42 = .ok (.getfield 53, 3) := by decide +kernel
theorem dX3_conflicts_45 : decode cX3_conflicts 45 = .ok (.aload 5, 2) := by decide +kernel
theorem dX3_conflicts_47 : decode cX3_conflicts 47 = .ok (.getfield 53, 3) := by decide +kernel
theorem dX3_conflicts_50 : decode cX3_conflicts 50 = .ok (.invokestatic 104, 3) := by decide +kernel
theorem dX3_conflicts_53 : decode cX3_conflicts 53 = .ok (.ireturn, 1) := by decide +kernel
set_option maxRecDepth 20000 in
theorem ggX3_merge_X3_findVersion : GoodIn wsX3_merge wsX3_findVersion := goodIn_ca (goodIn_r _ [9, 10, 11, 12, 77, 78, 79, 80, 81, 82, 83] (by decide +kernel) (by decide +kernel)) (goodIn_sub (fun _ h => List.mem_cons_of_mem _ (List.mem_append_right _ h)) (by decide +kernel))
set_option maxRecDepth 20000 in
theorem gX3_merge_X3_findVersion : GoodIn wsX3_merge (wsV RX3 63 RX3 yX3_findVersion wsX3_findVersion) := goodIn_app (goodIn_of _ (by decide +kernel)) ggX3_merge_X3_findVersion
set_option maxRecDepth 20000 in
theorem ggX3_merge_X3_commonAncestor : GoodIn wsX3_merge wsX3_commonAncestor := goodIn_r _ [15, 16, 17, 8, 18, 72, 73, 74, 75, 76] (by decide +kernel) (by decide +kernel)
set_option maxRecDepth 20000 in
theorem gX3_merge_X3_commonAncestor : GoodIn wsX3_merge (va_wsS RX3 98 yX3_commonAncestor wsX3_commonAncestor) := goodIn_app (goodIn_of _ (by decide +kernel)) ggX3_merge_X3_commonAncestor
set_option maxRecDepth 20000 in
theorem ggX3_merge_X3_addVersion : GoodIn wsX3_merge wsX3_addVersion := goodIn_ca (goodIn_r _ [22, 3, 4, 23, 12, 24, 25, 26, 27, 28, 29, 30, 31, 32, 33, 34, 35, 36, 37, 38, 39, 40, 41, 42, 43, 44, 45, 46, 47, 77, 78, 79, 80, 81, 82, 83, 72, 73, 74, 75, 76, 84, 85, 86] (by decide +kernel) (by decide +kernel)) (goodIn_sub (fun _ h => List.mem_cons_of_mem _ (List.mem_append_left _ (List.mem_append_right _ h))) (by decide +kernel))
set_option maxRecDepth 20000 in
theorem gX3_merge_X3_addVersion : GoodIn wsX3_merge (wsV RX3 49 RX3 yX3_addVersion wsX3_addVersion) := goodIn_app (goodIn_of _ (by decide +kernel)) ggX3_merge_X3_addVersion
set_option maxRecDepth 20000 in
theorem ggX3_merge_X3_mergeInto : GoodIn wsX3_merge wsX3_mergeInto := goodIn_r _ [50, 51, 52, 53, 35, 54, 44, 55, 56, 57, 58, 59, 60, 61, 62, 46, 47, 63, 64, 65, 66, 67, 68, 69, 70, 71, 84, 85, 86] (by decide +kernel) (by decide +kernel)
set_option maxRecDepth 20000 in
theorem gX3_merge_X3_mergeInto : GoodIn wsX3_merge (va_wsS RX3 110 yX3_mergeInto wsX3_mergeInto) := goodIn_app (goodIn_of _ (by decide +kernel)) ggX3_merge_X3_mergeInto
theorem dX3_merge_0 : decode cX3_merge 0 = .ok (.aload_n 0, 1) := by decide +kernel
theorem dX3_merge_1 : decode cX3_merge 1 = .ok (.iload_n 1, 1) := by decide +kernel
theorem dX3_merge_2 : decode cX3_merge 2 = .ok (.invokevirtual 63, 3) := by decide +kernel
theorem dX3_merge_5 : decode cX3_merge 5 = .ok (.astore_n 3, 1) := by decide +kernel
theorem dX3_merge_6 : decode cX3_merge 6 = .ok (.aload_n 0, 1) := by decide +kernel
theorem dX3_merge_7 : decode cX3_merge 7 = .ok (.iload_n 2, 1) := by decide +kernel
theorem dX3_merge_8 : decode cX3_merge 8 = .ok (.invokevirtual 63, 3) := by decide +kernel
theorem dX3_merge_11 : decode cX3_merge 11 = .ok (.astore 4, 2) := by decide +kernel
theorem dX3_merge_13 : decode cX3_merge 13 = .ok (.iload_n 1, 1) := by decide +kernel
theorem dX3_merge_14 : decode cX3_merge 14 = .ok (.iload_n 2, 1) := by decide +kernel
theorem dX3_merge_15 : decode cX3_merge 15 = .ok (.if_icmp .ne 13, 3) := by decide +kernel
theorem dX3_merge_18 : decode cX3_merge 18 = .ok (.new 42, 3) := by decide +kernel
theorem dX3_merge_21 : decode cX3_merge 21 = .ok (.dup, 1) := by decide +kernel
theorem dX3_merge_22 : decode cX3_merge 22 = .ok (.ldc 108, 2) := by decide +kernel
theorem dX3_merge_24 : decode cX3_merge 24 = .ok (.invokespecial 46, 3) := by decide +kernel
theorem dX3_merge_27 : decode cX3_merge 27 = .ok (.athrow, 1) := by decide +kernel
theorem dX3_merge_28 : decode cX3_merge 28 = .ok (.aload_n 3, 1) := by decide +kernel
theorem dX3_merge_29 : decode cX3_merge 29 = .ok (.aload 4, 2) := by decide +kernel
theorem dX3_merge_31 : decode cX3_merge 31 = .ok (.invokestatic 98, 3) := by decide +kernel
theorem dX3_merge_34 : decode cX3_merge 34 = .ok (.astore 5, 2) := by decide +kernel
theorem dX3_merge_36 : decode cX3_merge 36 = .ok (.aload 5, 2) := by decide +kernel
theorem dX3_merge_38 : decode cX3_merge 38 = .ok (.ifnonnull 13, 3) := by decide +kernel
theorem dX3_merge_41 : decode cX3_merge 41 = .ok (.new 85, 3) := by decide +kernel
theorem dX3_merge_44 : decode cX3_merge 44 = .ok (.dup, 1) := by decide +kernel
theorem dX3_merge_45 : decode cX3_merge 45 = .ok (.ldc 102, 2) := by decide +kernel
theorem dX3_merge_47 : decode cX3_merge 47 = .ok (.invokespecial 89, 3) := by decide +kernel
theorem dX3_merge_50 : decode cX3_merge 50 = .ok (.athrow, 1) := by decide +kernel
theorem dX3_merge_51 : decode cX3_merge 51 = .ok (.aload_n 0, 1) := by decide +kernel
theorem dX3_merge_52 : decode cX3_merge 52 = .ok (.aload_n 3, 1) := by decide +kernel
theorem dX3_merge_53 : decode cX3_merge 53 = .ok (.invokevirtual 49, 3) := by decide +kernel
theorem dX3_merge_56 : decode cX3_merge 56 = .ok (.astore 6, 2) := by decide +kernel
theorem dX3_merge_58 : decode cX3_merge 58 = .ok (.aload 6, 2) := by decide +kernel
theorem dX3_merge_60 : decode cX3_merge 60 = .ok (.getfield 53, 3) := by decide +kernel
theorem dX3_merge_63 : decode cX3_merge 63 = .ok (.aload_n 3, 1) := by decide +kernel
theorem dX3_merge_64 : decode cX3_merge 64 = .ok (.getfield 53, 3) := by decide +kernel
theorem dX3_merge_67 : decode cX3_merge 67 = .ok (.aload 4, 2) := by decide +kernel
theorem dX3_merge_69 : decode cX3_merge 69 = .ok (.getfield 53, 3) := by decide +kernel
theorem dX3_merge_72 : decode cX3_merge 72 = .ok (.aload 5, 2) := by decide +kernel
theorem dX3_merge_74 : decode cX3_merge 74 = .ok (.getfield 53, 3) := by decide +kernel
theorem dX3_merge_77 : decode cX3_merge 77 = .ok (.invokestatic 110, 3) := by decide +kernel
theorem dX3_merge_80 : decode cX3_merge 80 = .ok (.aload_n 3, 1) := by decide +kernel
theorem dX3_merge_81 : decode cX3_merge 81 = .ok (.iconst 1, 1) := by decide +kernel
theorem dX3_merge_82 : decode cX3_merge 82 = .ok (.putfield 71, 3) := by decide +kernel
theorem dX3_merge_85 : decode cX3_merge 85 = .ok (.aload 4, 2) := by decide +kernel
theorem dX3_merge_87 : decode cX3_merge 87 = .ok (.iconst 1, 1) := by decide +kernel
theorem dX3_merge_88 : decode cX3_merge 88 = .ok (.putfield 71, 3) := by decide +kernel
theorem dX3_merge_91 : decode cX3_merge 91 = .ok (.aload 6, 2) := by decide +kernel
theorem dX3_merge_93 : decode cX3_merge 93 = .ok (.getfield 60, 3) := by decide +kernel
theorem dX3_merge_96 : decode cX3_merge 96 = .ok (.ireturn, 1) := by decide +kernel
theorem dX3_setWeight_0 : decode cX3_setWeight 0 = .ok (.iload_n 1, 1) := by decide +kernel
theorem dX3_setWeight_1 : decode cX3_setWeight 1 = .ok (.ifCond .lt 12, 3) := by decide +kernel
theorem dX3_setWeight_4 : decode cX3_setWeight 4 = .ok (.iload_n 1, 1) := by decide +kernel
theorem dX3_setWeight_5 : decode cX3_setWeight 5 = .ok (.aload_n 0, 1) := by decide +kernel
theorem dX3_setWeight_6 : decode cX3_setWeight 6 = .ok (.getfield 28, 3) := by decide +kernel
theorem dX3_setWeight_9 : decode cX3_setWeight 9 = .ok (.arraylength, 1) := by decide +kernel
theorem dX3_setWeight_10 : decode cX3_setWeight 10 = .ok (.if_icmp .lt 13, 3) := by decide +kernel
theorem dX3_setWeight_13 : decode cX3_setWeight 13 = .ok (.new 114, 3) := by decide +kernel
theorem dX3_setWeight_16 : decode cX3_setWeight 16 = .ok (.dup, 1) := by decide +kernel
theorem dX3_setWeight_17 : decode cX3_setWeight 17 = .ok (.ldc 116, 2) := by decide +kernel
theorem dX3_setWeight_19 : decode cX3_setWeight 19 = .ok (.invokespecial 118, 3) := by decide +kernel
theorem dX3_setWeight_22 : decode cX3_setWeight 22 = .ok (.athrow, 1) := by decide +kernel
theorem dX3_setWeight_23 : decode cX3_setWeight 23 = .ok (.iload_n 2, 1) := by decide +kernel
theorem dX3_setWeight_24 : decode cX3_setWeight 24 = .ok (.ifCond .lt 9, 3) := by decide +kernel
theorem dX3_setWeight_27 : decode cX3_setWeight 27 = .ok (.iload_n 2, 1) := by decide +kernel
theorem dX3_setWeight_28 : decode cX3_setWeight 28 = .ok (.bipush 50, 2) := by decide +kernel
theorem dX3_setWeight_30 : decode cX3_setWeight 30 = .ok (.if_icmp .le 13, 3) := by decide +kernel
theorem dX3_setWeight_33 : decode cX3_setWeight 33 = .ok (.new 42, 3) := by decide +kernel
theorem dX3_setWeight_36 : decode cX3_setWeight 36 = .ok (.dup, 1) := by decide +kernel
theorem dX3_setWeight_37 : decode cX3_setWeight 37 = .ok (.ldc 119, 2) := by decide +kernel
theorem dX3_setWeight_39 : decode cX3_setWeight 39 = .ok (.invokespecial 46, 3) := by decide +kernel
theorem dX3_setWeight_42 : decode cX3_setWeight 42 = .ok (.athrow, 1) := by decide +kernel
theorem dX3_setWeight_43 : decode cX3_setWeight 43 = .ok (.aload_n 0, 1) := by decide +kernel
theorem dX3_setWeight_44 : decode cX3_setWeight 44 = .ok (.getfield 28, 3) := by decide +kernel
theorem dX3_setWeight_47 : decode cX3_setWeight 47 = .ok (.iload_n 1, 1) := by decide +kernel
theorem dX3_setWeight_48 : decode cX3_setWeight 48 = .ok (.iaload, 1) := by decide +kernel
theorem dX3_setWeight_49 : decode cX3_setWeight 49 = .ok (.istore_n 3, 1) := by decide +kernel
theorem dX3_setWeight_50 : decode cX3_setWeight 50 = .ok (.aload_n 0, 1) := by decide +kernel
theorem dX3_setWeight_51 : decode cX3_setWeight 51 = .ok (.getfield 28, 3) := by decide +kernel
theorem dX3_setWeight_54 : decode cX3_setWeight 54 = .ok (.iload_n 1, 1) := by decide +kernel
theorem dX3_setWeight_55 : decode cX3_setWeight 55 = .ok (.iload_n 2, 1) := by decide +kernel
theorem dX3_setWeight_56 : decode cX3_setWeight 56 = .ok (.iastore, 1) := by decide +kernel
theorem dX3_setWeight_57 : decode cX3_setWeight 57 = .ok (.iload_n 3, 1) := by decide +kernel
theorem dX3_setWeight_58 : decode cX3_setWeight 58 = .ok (.ireturn, 1) := by decide +kernel
theorem dX3_setPass_0 : decode cX3_setPass 0 = .ok (.iload_n 1, 1) := by decide +kernel
theorem dX3_setPass_1 : decode cX3_setPass 1 = .ok (.ifCond .lt 9, 3) := by decide +kernel
theorem dX3_setPass_4 : decode cX3_setPass 4 = .ok (.iload_n 1, 1) := by decide +kernel
theorem dX3_setPass_5 : decode cX3_setPass 5 = .ok (.bipush 100, 2) := by decide +kernel
theorem dX3_setPass_7 : decode cX3_setPass 7 = .ok (.if_icmp .le 13, 3) := by decide +kernel
theorem dX3_setPass_10 : decode cX3_setPass 10 = .ok (.new 42, 3) := by decide +kernel
theorem dX3_setPass_13 : decode cX3_setPass 13 = .ok (.dup, 1) := by decide +kernel
theorem dX3_setPass_14 : decode cX3_setPass 14 = .ok (.ldc 121, 2) := by decide +kernel
theorem dX3_setPass_16 : decode cX3_setPass 16 = .ok (.invokespecial 46, 3) := by decide +kernel
theorem dX3_setPass_19 : decode cX3_setPass 19 = .ok (.athrow, 1) := by decide +kernel
theorem dX3_setPass_20 : decode cX3_setPass 20 = .ok (.aload_n 0, 1) := by decide +kernel
theorem dX3_setPass_21 : decode cX3_setPass 21 = .ok (.getfield 32, 3) := by decide +kernel
theorem dX3_setPass_24 : decode cX3_setPass 24 = .ok (.istore_n 2, 1) := by decide +kernel
theorem dX3_setPass_25 : decode cX3_setPass 25 = .ok (.aload_n 0, 1) := by decide +kernel
theorem dX3_setPass_26 : decode cX3_setPass 26 = .ok (.iload_n 1, 1) := by decide +kernel
theorem dX3_setPass_27 : decode cX3_setPass 27 = .ok (.putfield 32, 3) := by decide +kernel
theorem dX3_setPass_30 : decode cX3_setPass 30 = .ok (.iload_n 2, 1) := by decide +kernel
theorem dX3_setPass_31 : decode cX3_setPass 31 = .ok (.ireturn, 1) := by decide +kernel
set_option maxRecDepth 20000 in
theorem ggX3_faults_X3_findVersion : GoodIn wsX3_faults wsX3_findVersion := goodIn_ca (goodIn_r _ [7, 1, 2, 8, 64, 65, 66, 67, 68, 69, 70] (by decide +kernel) (by decide +kernel)) (goodIn_sub (fun _ h => List.mem_cons_of_mem _ (List.mem_append_right _ h)) (by decide +kernel))
set_option maxRecDepth 20000 in
theorem gX3_faults_X3_findVersion : GoodIn wsX3_faults (wsV RX3 63 RX3 yX3_findVersion wsX3_findVersion) := goodIn_app (goodIn_of _ (by decide +kernel)) ggX3_faults_X3_findVersion
set_option maxRecDepth 20000 in
theorem ggX3_faults_X3_checkBar : GoodIn wsX3_faults wsX3_checkBar := goodIn_ca (goodIn_r _ [11, 1, 2, 59, 60, 61, 62, 63, 71, 72, 73] (by decide +kernel) (by decide +kernel)) (goodIn_sub (fun _ h => List.mem_cons_of_mem _ (List.mem_append_right _ h)) (by decide +kernel))
set_option maxRecDepth 20000 in
theorem gX3_faults_X3_checkBar : GoodIn wsX3_faults (va_wsS RX3 79 yX3_checkBar wsX3_checkBar) := goodIn_app (goodIn_of _ (by decide +kernel)) ggX3_faults_X3_checkBar
set_option maxRecDepth 20000 in
theorem ggX3_faults_X1_faultsOf : GoodIn wsX3_faults wsX1_faultsOf := goodIn_r _ [16, 17, 18, 19, 15, 20, 21, 22, 23, 24, 25, 26, 27, 28, 29, 30, 31, 32, 33, 34, 35, 36, 37, 38, 39, 40, 41, 42, 43, 44, 45, 46, 47, 48, 49, 50, 51, 52, 53, 54, 55, 56, 57, 58, 71, 72, 73] (by decide +kernel) (by decide +kernel)
set_option maxRecDepth 20000 in
theorem gX3_faults_X1_faultsOf : GoodIn wsX3_faults (wsV RX3 123 RX1 yX1_faultsOf wsX1_faultsOf) := goodIn_app (goodIn_of _ (by decide +kernel)) ggX3_faults_X1_faultsOf
theorem dX3_faults_0 : decode cX3_faults 0 = .ok (.aload_n 0, 1) := by decide +kernel
theorem dX3_faults_1 : decode cX3_faults 1 = .ok (.iload_n 1, 1) := by decide +kernel
theorem dX3_faults_2 : decode cX3_faults 2 = .ok (.invokevirtual 63, 3) := by decide +kernel
theorem dX3_faults_5 : decode cX3_faults 5 = .ok (.astore 4, 2) := by decide +kernel
theorem dX3_faults_7 : decode cX3_faults 7 = .ok (.aload 4, 2) := by decide +kernel
theorem dX3_faults_9 : decode cX3_faults 9 = .ok (.iload_n 2, 1) := by decide +kernel
theorem dX3_faults_10 : decode cX3_faults 10 = .ok (.invokestatic 79, 3) := by decide +kernel
theorem dX3_faults_13 : decode cX3_faults 13 = .ok (.iload_n 3, 1) := by decide +kernel
theorem dX3_faults_14 : decode cX3_faults 14 = .ok (.ifCond .lt 9, 3) := by decide +kernel
theorem dX3_faults_17 : decode cX3_faults 17 = .ok (.iload_n 3, 1) := by decide +kernel
theorem dX3_faults_18 : decode cX3_faults 18 = .ok (.bipush 6, 2) := by decide +kernel
theorem dX3_faults_20 : decode cX3_faults 20 = .ok (.if_icmp .lt 13, 3) := by decide +kernel
theorem dX3_faults_23 : decode cX3_faults 23 = .ok (.new 114, 3) := by decide +kernel
theorem dX3_faults_26 : decode cX3_faults 26 = .ok (.dup, 1) := by decide +kernel
theorem dX3_faults_27 : decode cX3_faults 27 = .ok (.ldc 116, 2) := by decide +kernel
theorem dX3_faults_29 : decode cX3_faults 29 = .ok (.invokespecial 118, 3) := by decide +kernel
theorem dX3_faults_32 : decode cX3_faults 32 = .ok (.athrow, 1) := by decide +kernel
theorem dX3_faults_33 : decode cX3_faults 33 = .ok (.aload 4, 2) := by decide +kernel
theorem dX3_faults_35 : decode cX3_faults 35 = .ok (.getfield 53, 3) := by decide +kernel
theorem dX3_faults_38 : decode cX3_faults 38 = .ok (.iload_n 3, 1) := by decide +kernel
theorem dX3_faults_39 : decode cX3_faults 39 = .ok (.iload_n 2, 1) := by decide +kernel
theorem dX3_faults_40 : decode cX3_faults 40 = .ok (.invokevirtual 123, 3) := by decide +kernel
theorem dX3_faults_43 : decode cX3_faults 43 = .ok (.ireturn, 1) := by decide +kernel
set_option maxRecDepth 20000 in
theorem ggX3_mark_X3_findVersion : GoodIn wsX3_mark wsX3_findVersion := goodIn_ca (goodIn_r _ [5, 6, 7, 8, 73, 74, 75, 76, 77, 78, 79] (by decide +kernel) (by decide +kernel)) (goodIn_sub (fun _ h => List.mem_cons_of_mem _ (List.mem_append_right _ h)) (by decide +kernel))
set_option maxRecDepth 20000 in
theorem gX3_mark_X3_findVersion : GoodIn wsX3_mark (wsV RX3 63 RX3 yX3_findVersion wsX3_findVersion) := goodIn_app (goodIn_of _ (by decide +kernel)) ggX3_mark_X3_findVersion
set_option maxRecDepth 20000 in
theorem ggX3_mark_X3_markOf : GoodIn wsX3_mark wsX3_markOf := goodIn_r _ [12, 13, 14, 15, 16, 17, 18, 19, 4, 20, 21, 22, 23, 24, 25, 26, 27, 28, 29, 30, 31, 32, 33, 34, 35, 36, 37, 38, 39, 40, 41, 42, 43, 44, 45, 46, 47, 48, 49, 50, 51, 52, 53, 54, 55, 56, 57, 58, 59, 60, 61, 62, 63, 64, 65, 66, 67, 80, 81, 82, 73, 74, 75, 76, 77, 78, 79] (by decide +kernel) (by decide +kernel)
set_option maxRecDepth 20000 in
theorem gX3_mark_X3_markOf : GoodIn wsX3_mark (wsV RX3 126 RX3 yX3_markOf wsX3_markOf) := goodIn_app (goodIn_of _ (by decide +kernel)) ggX3_mark_X3_markOf
theorem dX3_mark_0 : decode cX3_mark 0 = .ok (.aload_n 0, 1) := by decide +kernel
theorem dX3_mark_1 : decode cX3_mark 1 = .ok (.aload_n 0, 1) := by decide +kernel
theorem dX3_mark_2 : decode cX3_mark 2 = .ok (.iload_n 1, 1) := by decide +kernel
theorem dX3_mark_3 : decode cX3_mark 3 = .ok (.invokevirtual 63, 3) := by decide +kernel
theorem dX3_mark_6 : decode cX3_mark 6 = .ok (.getfield 53, 3) := by decide +kernel
theorem dX3_mark_9 : decode cX3_mark 9 = .ok (.invokevirtual 126, 3) := by decide +kernel
theorem dX3_mark_12 : decode cX3_mark 12 = .ok (.ireturn, 1) := by decide +kernel
set_option maxRecDepth 20000 in
theorem ggX3_handIn_X3_findVersion : GoodIn wsX3_handIn wsX3_findVersion := goodIn_ca (goodIn_r _ [6, 7, 8, 9, 74, 75, 76, 77, 78, 79, 80] (by decide +kernel) (by decide +kernel)) (goodIn_sub (fun _ h => List.mem_cons_of_mem _ (List.mem_append_right _ h)) (by decide +kernel))
set_option maxRecDepth 20000 in
theorem gX3_handIn_X3_findVersion : GoodIn wsX3_handIn (wsV RX3 63 RX3 yX3_findVersion wsX3_findVersion) := goodIn_app (goodIn_of _ (by decide +kernel)) ggX3_handIn_X3_findVersion
set_option maxRecDepth 20000 in
theorem ggX3_handIn_X3_markOf : GoodIn wsX3_handIn wsX3_markOf := goodIn_r _ [13, 14, 15, 16, 17, 18, 19, 20, 5, 21, 22, 23, 24, 25, 26, 27, 28, 29, 30, 31, 32, 33, 34, 35, 36, 37, 38, 39, 40, 41, 42, 43, 44, 45, 46, 47, 48, 49, 50, 51, 52, 53, 54, 55, 56, 57, 58, 59, 60, 61, 62, 63, 64, 65, 66, 67, 68, 81, 82, 83, 74, 75, 76, 77, 78, 79, 80] (by decide +kernel) (by decide +kernel)
set_option maxRecDepth 20000 in
theorem gX3_handIn_X3_markOf : GoodIn wsX3_handIn (wsV RX3 126 RX3 yX3_markOf wsX3_markOf) := goodIn_app (goodIn_of _ (by decide +kernel)) ggX3_handIn_X3_markOf
theorem dX3_handIn_0 : decode cX3_handIn 0 = .ok (.aload_n 0, 1) := by decide +kernel
theorem dX3_handIn_1 : decode cX3_handIn 1 = .ok (.iload_n 1, 1) := by decide +kernel
theorem dX3_handIn_2 : decode cX3_handIn 2 = .ok (.invokevirtual 63, 3) := by decide +kernel
theorem dX3_handIn_5 : decode cX3_handIn 5 = .ok (.astore_n 2, 1) := by decide +kernel
theorem dX3_handIn_6 : decode cX3_handIn 6 = .ok (.aload_n 2, 1) := by decide +kernel
theorem dX3_handIn_7 : decode cX3_handIn 7 = .ok (.aload_n 0, 1) := by decide +kernel
theorem dX3_handIn_8 : decode cX3_handIn 8 = .ok (.aload_n 2, 1) := by decide +kernel
theorem dX3_handIn_9 : decode cX3_handIn 9 = .ok (.getfield 53, 3) := by decide +kernel
theorem dX3_handIn_12 : decode cX3_handIn 12 = .ok (.invokevirtual 126, 3) := by decide +kernel
theorem dX3_handIn_15 : decode cX3_handIn 15 = .ok (.aload_n 0, 1) := by decide +kernel
theorem dX3_handIn_16 : decode cX3_handIn 16 = .ok (.getfield 32, 3) := by decide +kernel
theorem dX3_handIn_19 : decode cX3_handIn 19 = .ok (.if_icmp .lt 7, 3) := by decide +kernel
theorem dX3_handIn_22 : decode cX3_handIn 22 = .ok (.iconst 1, 1) := by decide +kernel
theorem dX3_handIn_23 : decode cX3_handIn 23 = .ok (.goto 4, 3) := by decide +kernel
theorem dX3_handIn_26 : decode cX3_handIn 26 = .ok (.iconst 0, 1) := by decide +kernel
theorem dX3_handIn_27 : decode cX3_handIn 27 = .ok (.putfield 130, 3) := by decide +kernel
theorem dX3_handIn_30 : decode cX3_handIn 30 = .ok (.aload_n 2, 1) := by decide +kernel
theorem dX3_handIn_31 : decode cX3_handIn 31 = .ok (.getfield 130, 3) := by decide +kernel
theorem dX3_handIn_34 : decode cX3_handIn 34 = .ok (.ireturn, 1) := by decide +kernel
set_option maxRecDepth 20000 in
theorem ggX3_fallen_X3_markOf : GoodIn wsX3_fallen wsX3_markOf := goodIn_r _ [7, 8, 9, 10, 11, 12, 13, 14, 6, 15, 16, 17, 18, 19, 20, 21, 22, 23, 24, 25, 26, 27, 28, 29, 30, 31, 32, 33, 34, 35, 36, 37, 38, 39, 40, 41, 42, 43, 44, 45, 46, 47, 48, 49, 50, 51, 52, 53, 54, 55, 56, 57, 58, 59, 60, 61, 62, 75, 76, 77, 63, 64, 65, 66, 67, 68, 69] (by decide +kernel) (by decide +kernel)
set_option maxRecDepth 20000 in
theorem gX3_fallen_X3_markOf : GoodIn wsX3_fallen (wsV RX3 126 RX3 yX3_markOf wsX3_markOf) := goodIn_app (goodIn_of _ (by decide +kernel)) ggX3_fallen_X3_markOf
theorem dX3_fallen_0 : decode cX3_fallen 0 = .ok (.iconst 0, 1) := by decide +kernel
theorem dX3_fallen_1 : decode cX3_fallen 1 = .ok (.istore_n 1, 1) := by decide +kernel
theorem dX3_fallen_2 : decode cX3_fallen 2 = .ok (.iconst 0, 1) := by decide +kernel
theorem dX3_fallen_3 : decode cX3_fallen 3 = .ok (.istore_n 2, 1) := by decide +kernel
theorem dX3_fallen_4 : decode cX3_fallen 4 = .ok (.iload_n 2, 1) := by decide +kernel
theorem dX3_fallen_5 : decode cX3_fallen 5 = .ok (.aload_n 0, 1) := by decide +kernel
theorem dX3_fallen_6 : decode cX3_fallen 6 = .ok (.getfield 11, 3) := by decide +kernel
theorem dX3_fallen_9 : decode cX3_fallen 9 = .ok (.arraylength, 1) := by decide +kernel
theorem dX3_fallen_10 : decode cX3_fallen 10 = .ok (.if_icmp .ge 48, 3) := by decide +kernel
theorem dX3_fallen_13 : decode cX3_fallen 13 = .ok (.aload_n 0, 1) := by decide +kernel
theorem dX3_fallen_14 : decode cX3_fallen 14 = .ok (.getfield 11, 3) := by decide +kernel
theorem dX3_fallen_17 : decode cX3_fallen 17 = .ok (.iload_n 2, 1) := by decide +kernel
theorem dX3_fallen_18 : decode cX3_fallen 18 = .ok (.aaload, 1) := by decide +kernel
theorem dX3_fallen_19 : decode cX3_fallen 19 = .ok (.astore_n 3, 1) := by decide +kernel
theorem dX3_fallen_20 : decode cX3_fallen 20 = .ok (.aload_n 3, 1) := by decide +kernel
theorem dX3_fallen_21 : decode cX3_fallen 21 = .ok (.ifnull 31, 3) := by decide +kernel
theorem dX3_fallen_24 : decode cX3_fallen 24 = .ok (.aload_n 3, 1) := by decide +kernel
theorem dX3_fallen_25 : decode cX3_fallen 25 = .ok (.getfield 130, 3) := by decide +kernel
theorem dX3_fallen_28 : decode cX3_fallen 28 = .ok (.ifCond .eq 24, 3) := by decide +kernel
theorem dX3_fallen_31 : decode cX3_fallen 31 = .ok (.aload_n 0, 1) := by decide +kernel
theorem dX3_fallen_32 : decode cX3_fallen 32 = .ok (.aload_n 3, 1) := by decide +kernel
theorem dX3_fallen_33 : decode cX3_fallen 33 = .ok (.getfield 53, 3) := by decide +kernel
theorem dX3_fallen_36 : decode cX3_fallen 36 = .ok (.invokevirtual 126, 3) := by decide +kernel
theorem dX3_fallen_39 : decode cX3_fallen 39 = .ok (.aload_n 0, 1) := by decide +kernel
theorem dX3_fallen_40 : decode cX3_fallen 40 = .ok (.getfield 32, 3) := by decide +kernel
theorem dX3_fallen_43 : decode cX3_fallen 43 = .ok (.if_icmp .ge 9, 3) := by decide +kernel
theorem dX3_fallen_46 : decode cX3_fallen 46 = .ok (.iload_n 1, 1) := by decide +kernel
theorem dX3_fallen_47 : decode cX3_fallen 47 = .ok (.iconst 1, 1) := by decide +kernel
theorem dX3_fallen_48 : decode cX3_fallen 48 = .ok (.iload_n 2, 1) := by decide +kernel
theorem dX3_fallen_49 : decode cX3_fallen 49 = .ok (.ishl, 1) := by decide +kernel
theorem dX3_fallen_50 : decode cX3_fallen 50 = .ok (.ior, 1) := by decide +kernel
theorem dX3_fallen_51 : decode cX3_fallen 51 = .ok (.istore_n 1, 1) := by decide +kernel
theorem dX3_fallen_52 : decode cX3_fallen 52 = .ok (.iinc 2 1, 3) := by decide +kernel
theorem dX3_fallen_55 : decode cX3_fallen 55 = .ok (.goto (-51), 3) := by decide +kernel
theorem dX3_fallen_58 : decode cX3_fallen 58 = .ok (.iload_n 1, 1) := by decide +kernel
theorem dX3_fallen_59 : decode cX3_fallen 59 = .ok (.ireturn, 1) := by decide +kernel
set_option maxRecDepth 20000 in
theorem ggX3_best_X3_findVersion : GoodIn wsX3_best wsX3_findVersion := goodIn_ca (goodIn_r _ [6, 7, 8, 9, 88, 89, 90, 91, 92, 93, 94] (by decide +kernel) (by decide +kernel)) (goodIn_sub (fun _ h => List.mem_cons_of_mem _ (List.mem_append_right _ h)) (by decide +kernel))
set_option maxRecDepth 20000 in
theorem gX3_best_X3_findVersion : GoodIn wsX3_best (wsV RX3 63 RX3 yX3_findVersion wsX3_findVersion) := goodIn_app (goodIn_of _ (by decide +kernel)) ggX3_best_X3_findVersion
set_option maxRecDepth 20000 in
theorem ggX3_best_X3_checkVoice : GoodIn wsX3_best wsX3_checkVoice := goodIn_ca (goodIn_r _ [12, 7, 8] (by decide +kernel) (by decide +kernel)) (goodIn_sub (fun _ h => List.mem_cons_of_mem _ (List.mem_append_right _ h)) (by decide +kernel))
set_option maxRecDepth 20000 in
theorem gX3_best_X3_checkVoice : GoodIn wsX3_best (va_wsS RX3 75 yX3_checkVoice wsX3_checkVoice) := goodIn_app (goodIn_of _ (by decide +kernel)) ggX3_best_X3_checkVoice
set_option maxRecDepth 20000 in
theorem ggX3_best_X3_checkBar : GoodIn wsX3_best wsX3_checkBar := goodIn_ca (goodIn_r _ [15, 7, 8, 95, 96, 97, 98, 99, 100, 101, 102] (by decide +kernel) (by decide +kernel)) (goodIn_sub (fun _ h => List.mem_cons_of_mem _ (List.mem_append_right _ h)) (by decide +kernel))
set_option maxRecDepth 20000 in
theorem gX3_best_X3_checkBar : GoodIn wsX3_best (va_wsS RX3 79 yX3_checkBar wsX3_checkBar) := goodIn_app (goodIn_of _ (by decide +kernel)) ggX3_best_X3_checkBar
set_option maxRecDepth 20000 in
theorem ggX3_best_X1_takeAll : GoodIn wsX3_best wsX1_takeAll := goodIn_r _ [20, 21, 22, 23, 24, 19, 25, 26, 27, 28, 29, 30, 31, 32, 33, 34, 35, 100, 101, 102] (by decide +kernel) (by decide +kernel)
set_option maxRecDepth 20000 in
theorem gX3_best_X1_takeAll : GoodIn wsX3_best (wsV RX3 67 RX1 yX1_takeAll wsX1_takeAll) := goodIn_app (goodIn_of _ (by decide +kernel)) ggX3_best_X1_takeAll
set_option maxRecDepth 20000 in
theorem ggX3_best_X3_bestTone : GoodIn wsX3_best wsX3_bestTone := goodIn_r _ [39, 1, 40, 41, 42, 43, 44, 33, 34, 19, 35, 30, 31, 45, 46, 47, 5, 48, 49, 50, 51, 52, 53, 54, 55, 56, 57, 58, 59, 60, 61, 62, 63, 64, 26, 27, 28, 29, 65, 66, 67, 68, 69, 70, 71, 72, 73, 74, 75, 76, 77, 78, 79, 80, 81, 82, 83, 21, 84, 85, 86, 87, 88, 89, 90, 91, 92, 93, 94, 100, 101, 102] (by decide +kernel) (by decide +kernel)
set_option maxRecDepth 20000 in
theorem gX3_best_X3_bestTone : GoodIn wsX3_best (wsV RX3 133 RX3 yX3_bestTone wsX3_bestTone) := goodIn_app (goodIn_of _ (by decide +kernel)) ggX3_best_X3_bestTone
theorem dX3_best_0 : decode cX3_best 0 = .ok (.aload_n 0, 1) := by decide +kernel
theorem dX3_best_1 : decode cX3_best 1 = .ok (.iload_n 1, 1) := by decide +kernel
theorem dX3_best_2 : decode cX3_best 2 = .ok (.invokevirtual 63, 3) := by decide +kernel
theorem dX3_best_5 : decode cX3_best 5 = .ok (.astore 4, 2) := by decide +kernel
theorem dX3_best_7 : decode cX3_best 7 = .ok (.iload_n 2, 1) := by decide +kernel
theorem dX3_best_8 : decode cX3_best 8 = .ok (.invokestatic 75, 3) := by decide +kernel
theorem dX3_best_11 : decode cX3_best 11 = .ok (.aload 4, 2) := by decide +kernel
theorem dX3_best_13 : decode cX3_best 13 = .ok (.iload_n 3, 1) := by decide +kernel
theorem dX3_best_14 : decode cX3_best 14 = .ok (.invokestatic 79, 3) := by decide +kernel
theorem dX3_best_17 : decode cX3_best 17 = .ok (.aload_n 0, 1) := by decide +kernel
theorem dX3_best_18 : decode cX3_best 18 = .ok (.getfield 38, 3) := by decide +kernel
theorem dX3_best_21 : decode cX3_best 21 = .ok (.aload 4, 2) := by decide +kernel
theorem dX3_best_23 : decode cX3_best 23 = .ok (.getfield 53, 3) := by decide +kernel
theorem dX3_best_26 : decode cX3_best 26 = .ok (.invokevirtual 67, 3) := by decide +kernel
theorem dX3_best_29 : decode cX3_best 29 = .ok (.aload_n 0, 1) := by decide +kernel
theorem dX3_best_30 : decode cX3_best 30 = .ok (.iload_n 2, 1) := by decide +kernel
theorem dX3_best_31 : decode cX3_best 31 = .ok (.iload_n 3, 1) := by decide +kernel
theorem dX3_best_32 : decode cX3_best 32 = .ok (.invokevirtual 133, 3) := by decide +kernel
theorem dX3_best_35 : decode cX3_best 35 = .ok (.ireturn, 1) := by decide +kernel
set_option maxRecDepth 20000 in
theorem ggX3_movement_X3_findVersion : GoodIn wsX3_movement wsX3_findVersion := goodIn_ca (goodIn_r _ [5, 6, 7, 8, 40, 41, 42, 43, 44, 45, 46] (by decide +kernel) (by decide +kernel)) (goodIn_sub (fun _ h => List.mem_cons_of_mem _ (List.mem_append_right _ h)) (by decide +kernel))
set_option maxRecDepth 20000 in
theorem gX3_movement_X3_findVersion : GoodIn wsX3_movement (wsV RX3 63 RX3 yX3_findVersion wsX3_findVersion) := goodIn_app (goodIn_of _ (by decide +kernel)) ggX3_movement_X3_findVersion
set_option maxRecDepth 20000 in
theorem ggX3_movement_X3_checkVoice : GoodIn wsX3_movement wsX3_checkVoice := goodIn_ca (goodIn_r _ [11, 6, 7] (by decide +kernel) (by decide +kernel)) (goodIn_sub (fun _ h => List.mem_cons_of_mem _ (List.mem_append_right _ h)) (by decide +kernel))
set_option maxRecDepth 20000 in
theorem gX3_movement_X3_checkVoice : GoodIn wsX3_movement (va_wsS RX3 75 yX3_checkVoice wsX3_checkVoice) := goodIn_app (goodIn_of _ (by decide +kernel)) ggX3_movement_X3_checkVoice
set_option maxRecDepth 20000 in
theorem ggX3_movement_X1_wayOf : GoodIn wsX3_movement wsX1_wayOf := goodIn_r _ [16, 17, 18, 19, 20, 15, 21, 22, 23, 24, 25, 26, 27, 28, 29, 30, 31, 37, 38, 39] (by decide +kernel) (by decide +kernel)
set_option maxRecDepth 20000 in
theorem gX3_movement_X1_wayOf : GoodIn wsX3_movement (wsV RX3 139 RX1 yX1_wayOf wsX1_wayOf) := goodIn_app (goodIn_of _ (by decide +kernel)) ggX3_movement_X1_wayOf
theorem dX3_movement_0 : decode cX3_movement 0 = .ok (.aload_n 0, 1) := by decide +kernel
theorem dX3_movement_1 : decode cX3_movement 1 = .ok (.iload_n 1, 1) := by decide +kernel
theorem dX3_movement_2 : decode cX3_movement 2 = .ok (.invokevirtual 63, 3) := by decide +kernel
theorem dX3_movement_5 : decode cX3_movement 5 = .ok (.astore_n 3, 1) := by decide +kernel
theorem dX3_movement_6 : decode cX3_movement 6 = .ok (.iload_n 2, 1) := by decide +kernel
theorem dX3_movement_7 : decode cX3_movement 7 = .ok (.invokestatic 75, 3) := by decide +kernel
theorem dX3_movement_10 : decode cX3_movement 10 = .ok (.aload_n 3, 1) := by decide +kernel
theorem dX3_movement_11 : decode cX3_movement 11 = .ok (.getfield 53, 3) := by decide +kernel
theorem dX3_movement_14 : decode cX3_movement 14 = .ok (.getfield 136, 3) := by decide +kernel
theorem dX3_movement_17 : decode cX3_movement 17 = .ok (.iconst 1, 1) := by decide +kernel
theorem dX3_movement_18 : decode cX3_movement 18 = .ok (.isub, 1) := by decide +kernel
theorem dX3_movement_19 : decode cX3_movement 19 = .ok (.istore 4, 2) := by decide +kernel
theorem dX3_movement_21 : decode cX3_movement 21 = .ok (.iload 4, 2) := by decide +kernel
theorem dX3_movement_23 : decode cX3_movement 23 = .ok (.ifCond .gt 5, 3) := by decide +kernel
theorem dX3_movement_26 : decode cX3_movement 26 = .ok (.fconst 0, 1) := by decide +kernel
theorem dX3_movement_27 : decode cX3_movement 27 = .ok (.freturn, 1) := by decide +kernel
theorem dX3_movement_28 : decode cX3_movement 28 = .ok (.aload_n 3, 1) := by decide +kernel
theorem dX3_movement_29 : decode cX3_movement 29 = .ok (.getfield 53, 3) := by decide +kernel
theorem dX3_movement_32 : decode cX3_movement 32 = .ok (.iload_n 2, 1) := by decide +kernel
theorem dX3_movement_33 : decode cX3_movement 33 = .ok (.invokevirtual 139, 3) := by decide +kernel
theorem dX3_movement_36 : decode cX3_movement 36 = .ok (.i2f, 1) := by decide +kernel
theorem dX3_movement_37 : decode cX3_movement 37 = .ok (.iload 4, 2) := by decide +kernel
theorem dX3_movement_39 : decode cX3_movement 39 = .ok (.i2f, 1) := by decide +kernel
theorem dX3_movement_40 : decode cX3_movement 40 = .ok (.fdiv, 1) := by decide +kernel
theorem dX3_movement_41 : decode cX3_movement 41 = .ok (.freturn, 1) := by decide +kernel
set_option maxRecDepth 20000 in
theorem ggX3_print_X3_findVersion : GoodIn wsX3_print wsX3_findVersion := goodIn_ca (goodIn_r _ [5, 6, 7, 8, 50, 51, 52, 53, 54, 55, 56] (by decide +kernel) (by decide +kernel)) (goodIn_sub (fun _ h => List.mem_cons_of_mem _ (List.mem_append_left _ (List.mem_append_right _ h))) (by decide +kernel))
set_option maxRecDepth 20000 in
theorem gX3_print_X3_findVersion : GoodIn wsX3_print (wsV RX3 63 RX3 yX3_findVersion wsX3_findVersion) := goodIn_app (goodIn_of _ (by decide +kernel)) ggX3_print_X3_findVersion
set_option maxRecDepth 20000 in
theorem ggX3_print_X3_checkVoice : GoodIn wsX3_print wsX3_checkVoice := goodIn_ca (goodIn_r _ [11, 6, 7] (by decide +kernel) (by decide +kernel)) (goodIn_sub (fun _ h => List.mem_cons_of_mem _ (List.mem_append_left _ (List.mem_append_right _ h))) (by decide +kernel))
set_option maxRecDepth 20000 in
theorem gX3_print_X3_checkVoice : GoodIn wsX3_print (va_wsS RX3 75 yX3_checkVoice wsX3_checkVoice) := goodIn_app (goodIn_of _ (by decide +kernel)) ggX3_print_X3_checkVoice
set_option maxRecDepth 20000 in
theorem ggX3_print_X3_addCopy : GoodIn wsX3_print wsX3_addCopy := goodIn_ca (goodIn_r _ [15, 16, 17, 18, 19, 20, 21, 22, 23, 24, 25, 26, 27, 28, 29, 30, 31, 32, 33, 34, 35, 36, 37, 38, 39, 40, 41, 42, 43, 44, 50, 51, 52, 53, 54, 55, 56, 57, 58, 59, 60, 61, 62, 63] (by decide +kernel) (by decide +kernel)) (goodIn_sub (fun _ h => List.mem_cons_of_mem _ (List.mem_append_right _ h)) (by decide +kernel))
set_option maxRecDepth 20000 in
theorem gX3_print_X3_addCopy : GoodIn wsX3_print (wsV RX3 143 RX3 yX3_addCopy wsX3_addCopy) := goodIn_app (goodIn_of _ (by decide +kernel)) ggX3_print_X3_addCopy
theorem dX3_print_0 : decode cX3_print 0 = .ok (.aload_n 0, 1) := by decide +kernel
theorem dX3_print_1 : decode cX3_print 1 = .ok (.iload_n 1, 1) := by decide +kernel
theorem dX3_print_2 : decode cX3_print 2 = .ok (.invokevirtual 63, 3) := by decide +kernel
theorem dX3_print_5 : decode cX3_print 5 = .ok (.astore_n 3, 1) := by decide +kernel
theorem dX3_print_6 : decode cX3_print 6 = .ok (.iload_n 2, 1) := by decide +kernel
theorem dX3_print_7 : decode cX3_print 7 = .ok (.invokestatic 75, 3) := by decide +kernel
theorem dX3_print_10 : decode cX3_print 10 = .ok (.aload_n 0, 1) := by decide +kernel
theorem dX3_print_11 : decode cX3_print 11 = .ok (.iload_n 2, 1) := by decide +kernel
theorem dX3_print_12 : decode cX3_print 12 = .ok (.aload_n 3, 1) := by decide +kernel
theorem dX3_print_13 : decode cX3_print 13 = .ok (.getfield 53, 3) := by decide +kernel
theorem dX3_print_16 : decode cX3_print 16 = .ok (.invokevirtual 143, 3) := by decide +kernel
theorem dX3_print_19 : decode cX3_print 19 = .ok (.istore 4, 2) := by decide +kernel
theorem dX3_print_21 : decode cX3_print 21 = .ok (.aload_n 3, 1) := by decide +kernel
theorem dX3_print_22 : decode cX3_print 22 = .ok (.iconst 1, 1) := by decide +kernel
theorem dX3_print_23 : decode cX3_print 23 = .ok (.putfield 71, 3) := by decide +kernel
theorem dX3_print_26 : decode cX3_print 26 = .ok (.iload 4, 2) := by decide +kernel
theorem dX3_print_28 : decode cX3_print 28 = .ok (.ireturn, 1) := by decide +kernel
set_option maxRecDepth 20000 in
theorem ggX3_errata_X3_findCopy : GoodIn wsX3_errata wsX3_findCopy := goodIn_ca (goodIn_r _ [5, 6, 7, 8, 39, 40, 41, 42, 43, 44, 45] (by decide +kernel) (by decide +kernel)) (goodIn_sub (fun _ h => List.mem_cons_of_mem _ (List.mem_append_left _ (List.mem_append_right _ h))) (by decide +kernel))
set_option maxRecDepth 20000 in
theorem gX3_errata_X3_findCopy : GoodIn wsX3_errata (wsV RX3 147 RX3 yX3_findCopy wsX3_findCopy) := goodIn_app (goodIn_of _ (by decide +kernel)) ggX3_errata_X3_findCopy
set_option maxRecDepth 20000 in
theorem ggX3_errata_X3_findVersion : GoodIn wsX3_errata wsX3_findVersion := goodIn_ca (goodIn_r _ [12, 6, 7, 13, 39, 40, 41, 42, 43, 44, 45] (by decide +kernel) (by decide +kernel)) (goodIn_sub (fun _ h => List.mem_cons_of_mem _ (List.mem_append_left _ (List.mem_append_right _ h))) (by decide +kernel))
set_option maxRecDepth 20000 in
theorem gX3_errata_X3_findVersion : GoodIn wsX3_errata (wsV RX3 63 RX3 yX3_findVersion wsX3_findVersion) := goodIn_app (goodIn_of _ (by decide +kernel)) ggX3_errata_X3_findVersion
set_option maxRecDepth 20000 in
theorem ggX3_errata_X3_checkAsManyBars : GoodIn wsX3_errata wsX3_checkAsManyBars := goodIn_ca (goodIn_r _ [16, 17, 18, 46, 47, 48, 49, 34, 35, 36, 37, 38, 50, 51, 52] (by decide +kernel) (by decide +kernel)) (goodIn_sub (fun _ h => List.mem_cons_of_mem _ (List.mem_append_right _ h)) (by decide +kernel))
set_option maxRecDepth 20000 in
theorem gX3_errata_X3_checkAsManyBars : GoodIn wsX3_errata (va_wsS RX3 151 yX3_checkAsManyBars wsX3_checkAsManyBars) := goodIn_app (goodIn_of _ (by decide +kernel)) ggX3_errata_X3_checkAsManyBars
set_option maxRecDepth 20000 in
theorem ggX3_errata_X0_differingBars : GoodIn wsX3_errata wsX0_differingBars := goodIn_r _ [23, 24, 25, 26, 27, 28, 29, 30, 31, 32, 33, 46, 47, 48, 49, 50, 51, 52] (by decide +kernel) (by decide +kernel)
set_option maxRecDepth 20000 in
theorem gX3_errata_X0_differingBars : GoodIn wsX3_errata (wsV RX3 155 RX0 yX0_differingBars wsX0_differingBars) := goodIn_app (goodIn_of _ (by decide +kernel)) ggX3_errata_X0_differingBars
theorem dX3_errata_0 : decode cX3_errata 0 = .ok (.aload_n 0, 1) := by decide +kernel
theorem dX3_errata_1 : decode cX3_errata 1 = .ok (.iload_n 1, 1) := by decide +kernel
theorem dX3_errata_2 : decode cX3_errata 2 = .ok (.invokevirtual 147, 3) := by decide +kernel
theorem dX3_errata_5 : decode cX3_errata 5 = .ok (.astore_n 3, 1) := by decide +kernel
theorem dX3_errata_6 : decode cX3_errata 6 = .ok (.aload_n 0, 1) := by decide +kernel
theorem dX3_errata_7 : decode cX3_errata 7 = .ok (.iload_n 2, 1) := by decide +kernel
theorem dX3_errata_8 : decode cX3_errata 8 = .ok (.invokevirtual 63, 3) := by decide +kernel
theorem dX3_errata_11 : decode cX3_errata 11 = .ok (.astore 4, 2) := by decide +kernel
theorem dX3_errata_13 : decode cX3_errata 13 = .ok (.aload_n 3, 1) := by decide +kernel
theorem dX3_errata_14 : decode cX3_errata 14 = .ok (.aload 4, 2) := by decide +kernel
theorem dX3_errata_16 : decode cX3_errata 16 = .ok (.invokestatic 151, 3) := by decide +kernel
theorem dX3_errata_19 : decode cX3_errata 19 = .ok (.aload_n 3, 1) := by decide +kernel
theorem dX3_errata_20 : decode cX3_errata 20 = .ok (.aload 4, 2) := by decide +kernel
theorem dX3_errata_22 : decode cX3_errata 22 = .ok (.getfield 53, 3) := by decide +kernel
theorem dX3_errata_25 : decode cX3_errata 25 = .ok (.invokevirtual 155, 3) := by decide +kernel
theorem dX3_errata_28 : decode cX3_errata 28 = .ok (.ireturn, 1) := by decide +kernel
set_option maxRecDepth 20000 in
theorem ggX3_slip_X3_findCopy : GoodIn wsX3_slip wsX3_findCopy := goodIn_ca (goodIn_r _ [5, 6, 7, 8, 54, 55, 56, 57, 58, 59, 60] (by decide +kernel) (by decide +kernel)) (goodIn_sub (fun _ h => List.mem_cons_of_mem _ (List.mem_append_left _ (List.mem_append_right _ h))) (by decide +kernel))
set_option maxRecDepth 20000 in
theorem gX3_slip_X3_findCopy : GoodIn wsX3_slip (wsV RX3 147 RX3 yX3_findCopy wsX3_findCopy) := goodIn_app (goodIn_of _ (by decide +kernel)) ggX3_slip_X3_findCopy
set_option maxRecDepth 20000 in
theorem ggX3_slip_X3_findVersion : GoodIn wsX3_slip wsX3_findVersion := goodIn_ca (goodIn_r _ [12, 6, 7, 13, 54, 55, 56, 57, 58, 59, 60] (by decide +kernel) (by decide +kernel)) (goodIn_sub (fun _ h => List.mem_cons_of_mem _ (List.mem_append_left _ (List.mem_append_right _ h))) (by decide +kernel))
set_option maxRecDepth 20000 in
theorem gX3_slip_X3_findVersion : GoodIn wsX3_slip (wsV RX3 63 RX3 yX3_findVersion wsX3_findVersion) := goodIn_app (goodIn_of _ (by decide +kernel)) ggX3_slip_X3_findVersion
set_option maxRecDepth 20000 in
theorem ggX3_slip_X3_checkAsManyBars : GoodIn wsX3_slip wsX3_checkAsManyBars := goodIn_ca (goodIn_r _ [16, 17, 18, 50, 51, 52, 53, 45, 46, 47, 48, 49, 61, 62, 63] (by decide +kernel) (by decide +kernel)) (goodIn_sub (fun _ h => List.mem_cons_of_mem _ (List.mem_append_right _ h)) (by decide +kernel))
set_option maxRecDepth 20000 in
theorem gX3_slip_X3_checkAsManyBars : GoodIn wsX3_slip (va_wsS RX3 151 yX3_checkAsManyBars wsX3_checkAsManyBars) := goodIn_app (goodIn_of _ (by decide +kernel)) ggX3_slip_X3_checkAsManyBars
set_option maxRecDepth 20000 in
theorem ggX3_slip_X0_differingBars : GoodIn wsX3_slip wsX0_differingBars := goodIn_r _ [23, 24, 25, 26, 27, 28, 29, 30, 31, 32, 33, 50, 51, 52, 53, 61, 62, 63] (by decide +kernel) (by decide +kernel)
set_option maxRecDepth 20000 in
theorem gX3_slip_X0_differingBars : GoodIn wsX3_slip (wsV RX3 155 RX0 yX0_differingBars wsX0_differingBars) := goodIn_app (goodIn_of _ (by decide +kernel)) ggX3_slip_X0_differingBars
set_option maxRecDepth 20000 in
theorem ggX3_slip_J6_bitCount_0f7a4 : GoodIn wsX3_slip wsJ6_bitCount_0f7a4 := goodIn_r _ [37, 38, 39, 40] (by decide +kernel) (by decide +kernel)
set_option maxRecDepth 20000 in
theorem gX3_slip_J6_bitCount_0f7a4 : GoodIn wsX3_slip (va_wsS RX3 158 yJ6_bitCount_0f7a4 wsJ6_bitCount_0f7a4) := goodIn_app (goodIn_of _ (by decide +kernel)) ggX3_slip_J6_bitCount_0f7a4
set_option maxRecDepth 20000 in
theorem ggX3_slip_X0_takeVoice : GoodIn wsX3_slip wsX0_takeVoice := goodIn_r _ [44, 24, 25, 26, 27, 28, 29, 30, 31, 32, 33, 50, 51, 52, 53, 61, 62, 63] (by decide +kernel) (by decide +kernel)
set_option maxRecDepth 20000 in
theorem gX3_slip_X0_takeVoice : GoodIn wsX3_slip (wsV RX3 163 RX0 yX0_takeVoice wsX0_takeVoice) := goodIn_app (goodIn_of _ (by decide +kernel)) ggX3_slip_X0_takeVoice
theorem dX3_slip_0 : decode cX3_slip 0 = .ok (.aload_n 0, 1) := by decide +kernel
theorem dX3_slip_1 : decode cX3_slip 1 = .ok (.iload_n 1, 1) := by decide +kernel
theorem dX3_slip_2 : decode cX3_slip 2 = .ok (.invokevirtual 147, 3) := by decide +kernel
theorem dX3_slip_5 : decode cX3_slip 5 = .ok (.astore_n 3, 1) := by decide +kernel
theorem dX3_slip_6 : decode cX3_slip 6 = .ok (.aload_n 0, 1) := by decide +kernel
theorem dX3_slip_7 : decode cX3_slip 7 = .ok (.iload_n 2, 1) := by decide +kernel
theorem dX3_slip_8 : decode cX3_slip 8 = .ok (.invokevirtual 63, 3) := by decide +kernel
theorem dX3_slip_11 : decode cX3_slip 11 = .ok (.astore 4, 2) := by decide +kernel
theorem dX3_slip_13 : decode cX3_slip 13 = .ok (.aload_n 3, 1) := by decide +kernel
theorem dX3_slip_14 : decode cX3_slip 14 = .ok (.aload 4, 2) := by decide +kernel
theorem dX3_slip_16 : decode cX3_slip 16 = .ok (.invokestatic 151, 3) := by decide +kernel
theorem dX3_slip_19 : decode cX3_slip 19 = .ok (.aload_n 3, 1) := by decide +kernel
theorem dX3_slip_20 : decode cX3_slip 20 = .ok (.aload 4, 2) := by decide +kernel
theorem dX3_slip_22 : decode cX3_slip 22 = .ok (.getfield 53, 3) := by decide +kernel
theorem dX3_slip_25 : decode cX3_slip 25 = .ok (.invokevirtual 155, 3) := by decide +kernel
theorem dX3_slip_28 : decode cX3_slip 28 = .ok (.invokestatic 158, 3) := by decide +kernel
theorem dX3_slip_31 : decode cX3_slip 31 = .ok (.istore 5, 2) := by decide +kernel
theorem dX3_slip_33 : decode cX3_slip 33 = .ok (.aload_n 3, 1) := by decide +kernel
theorem dX3_slip_34 : decode cX3_slip 34 = .ok (.aload 4, 2) := by decide +kernel
theorem dX3_slip_36 : decode cX3_slip 36 = .ok (.getfield 53, 3) := by decide +kernel
theorem dX3_slip_39 : decode cX3_slip 39 = .ok (.invokevirtual 163, 3) := by decide +kernel
theorem dX3_slip_42 : decode cX3_slip 42 = .ok (.aload_n 3, 1) := by decide +kernel
theorem dX3_slip_43 : decode cX3_slip 43 = .ok (.dup, 1) := by decide +kernel
theorem dX3_slip_44 : decode cX3_slip 44 = .ok (.getfield 166, 3) := by decide +kernel
theorem dX3_slip_47 : decode cX3_slip 47 = .ok (.iload 5, 2) := by decide +kernel
theorem dX3_slip_49 : decode cX3_slip 49 = .ok (.iadd, 1) := by decide +kernel
theorem dX3_slip_50 : decode cX3_slip 50 = .ok (.putfield 166, 3) := by decide +kernel
theorem dX3_slip_53 : decode cX3_slip 53 = .ok (.iload 5, 2) := by decide +kernel
theorem dX3_slip_55 : decode cX3_slip 55 = .ok (.ireturn, 1) := by decide +kernel
set_option maxRecDepth 20000 in
theorem ggX3_slips_X3_findCopy : GoodIn wsX3_slips wsX3_findCopy := goodIn_ca (goodIn_r _ [5, 6, 7, 8, 13, 14, 15, 16, 17, 18, 19] (by decide +kernel) (by decide +kernel)) (goodIn_sub (fun _ h => List.mem_cons_of_mem _ (List.mem_append_right _ h)) (by decide +kernel))
set_option maxRecDepth 20000 in
theorem gX3_slips_X3_findCopy : GoodIn wsX3_slips (wsV RX3 147 RX3 yX3_findCopy wsX3_findCopy) := goodIn_app (goodIn_of _ (by decide +kernel)) ggX3_slips_X3_findCopy
theorem dX3_slips_0 : decode cX3_slips 0 = .ok (.aload_n 0, 1) := by decide +kernel
theorem dX3_slips_1 : decode cX3_slips 1 = .ok (.iload_n 1, 1) := by decide +kernel
theorem dX3_slips_2 : decode cX3_slips 2 = .ok (.invokevirtual 147, 3) := by decide +kernel
theorem dX3_slips_5 : decode cX3_slips 5 = .ok (.getfield 166, 3) := by decide +kernel
theorem dX3_slips_8 : decode cX3_slips 8 = .ok (.ireturn, 1) := by decide +kernel
theorem dX3_findVersion_0 : decode cX3_findVersion 0 = .ok (.iload_n 1, 1) := by decide +kernel
theorem dX3_findVersion_1 : decode cX3_findVersion 1 = .ok (.ifCond .lt 12, 3) := by decide +kernel
theorem dX3_findVersion_4 : decode cX3_findVersion 4 = .ok (.iload_n 1, 1) := by decide +kernel
theorem dX3_findVersion_5 : decode cX3_findVersion 5 = .ok (.aload_n 0, 1) := by decide +kernel
theorem dX3_findVersion_6 : decode cX3_findVersion 6 = .ok (.getfield 11, 3) := by decide +kernel
theorem dX3_findVersion_9 : decode cX3_findVersion 9 = .ok (.arraylength, 1) := by decide +kernel
theorem dX3_findVersion_10 : decode cX3_findVersion 10 = .ok (.if_icmp .lt 13, 3) := by decide +kernel
theorem dX3_findVersion_13 : decode cX3_findVersion 13 = .ok (.new 114, 3) := by decide +kernel
theorem dX3_findVersion_16 : decode cX3_findVersion 16 = .ok (.dup, 1) := by decide +kernel
theorem dX3_findVersion_17 : decode cX3_findVersion 17 = .ok (.ldc 169, 2) := by decide +kernel
theorem dX3_findVersion_19 : decode cX3_findVersion 19 = .ok (.invokespecial 118, 3) := by decide +kernel
theorem dX3_findVersion_22 : decode cX3_findVersion 22 = .ok (.athrow, 1) := by decide +kernel
theorem dX3_findVersion_23 : decode cX3_findVersion 23 = .ok (.aload_n 0, 1) := by decide +kernel
theorem dX3_findVersion_24 : decode cX3_findVersion 24 = .ok (.getfield 11, 3) := by decide +kernel
theorem dX3_findVersion_27 : decode cX3_findVersion 27 = .ok (.iload_n 1, 1) := by decide +kernel
theorem dX3_findVersion_28 : decode cX3_findVersion 28 = .ok (.aaload, 1) := by decide +kernel
theorem dX3_findVersion_29 : decode cX3_findVersion 29 = .ok (.astore_n 2, 1) := by decide +kernel
theorem dX3_findVersion_30 : decode cX3_findVersion 30 = .ok (.aload_n 2, 1) := by decide +kernel
theorem dX3_findVersion_31 : decode cX3_findVersion 31 = .ok (.ifnonnull 13, 3) := by decide +kernel
theorem dX3_findVersion_34 : decode cX3_findVersion 34 = .ok (.new 114, 3) := by decide +kernel
theorem dX3_findVersion_37 : decode cX3_findVersion 37 = .ok (.dup, 1) := by decide +kernel
theorem dX3_findVersion_38 : decode cX3_findVersion 38 = .ok (.ldc 169, 2) := by decide +kernel
theorem dX3_findVersion_40 : decode cX3_findVersion 40 = .ok (.invokespecial 118, 3) := by decide +kernel
theorem dX3_findVersion_43 : decode cX3_findVersion 43 = .ok (.athrow, 1) := by decide +kernel
theorem dX3_findVersion_44 : decode cX3_findVersion 44 = .ok (.aload_n 2, 1) := by decide +kernel
theorem dX3_findVersion_45 : decode cX3_findVersion 45 = .ok (.areturn, 1) := by decide +kernel
theorem dX3_findCopy_0 : decode cX3_findCopy 0 = .ok (.iload_n 1, 1) := by decide +kernel
theorem dX3_findCopy_1 : decode cX3_findCopy 1 = .ok (.ifCond .lt 12, 3) := by decide +kernel
theorem dX3_findCopy_4 : decode cX3_findCopy 4 = .ok (.iload_n 1, 1) := by decide +kernel
theorem dX3_findCopy_5 : decode cX3_findCopy 5 = .ok (.aload_n 0, 1) := by decide +kernel
theorem dX3_findCopy_6 : decode cX3_findCopy 6 = .ok (.getfield 21, 3) := by decide +kernel
theorem dX3_findCopy_9 : decode cX3_findCopy 9 = .ok (.arraylength, 1) := by decide +kernel
theorem dX3_findCopy_10 : decode cX3_findCopy 10 = .ok (.if_icmp .lt 13, 3) := by decide +kernel
theorem dX3_findCopy_13 : decode cX3_findCopy 13 = .ok (.new 114, 3) := by decide +kernel
theorem dX3_findCopy_16 : decode cX3_findCopy 16 = .ok (.dup, 1) := by decide +kernel
theorem dX3_findCopy_17 : decode cX3_findCopy 17 = .ok (.ldc 171, 2) := by decide +kernel
theorem dX3_findCopy_19 : decode cX3_findCopy 19 = .ok (.invokespecial 118, 3) := by decide +kernel
theorem dX3_findCopy_22 : decode cX3_findCopy 22 = .ok (.athrow, 1) := by decide +kernel
theorem dX3_findCopy_23 : decode cX3_findCopy 23 = .ok (.aload_n 0, 1) := by decide +kernel
theorem dX3_findCopy_24 : decode cX3_findCopy 24 = .ok (.getfield 21, 3) := by decide +kernel
theorem dX3_findCopy_27 : decode cX3_findCopy 27 = .ok (.iload_n 1, 1) := by decide +kernel
theorem dX3_findCopy_28 : decode cX3_findCopy 28 = .ok (.aaload, 1) := by decide +kernel
theorem dX3_findCopy_29 : decode cX3_findCopy 29 = .ok (.astore_n 2, 1) := by decide +kernel
theorem dX3_findCopy_30 : decode cX3_findCopy 30 = .ok (.aload_n 2, 1) := by decide +kernel
theorem dX3_findCopy_31 : decode cX3_findCopy 31 = .ok (.ifnonnull 13, 3) := by decide +kernel
theorem dX3_findCopy_34 : decode cX3_findCopy 34 = .ok (.new 114, 3) := by decide +kernel
theorem dX3_findCopy_37 : decode cX3_findCopy 37 = .ok (.dup, 1) := by decide +kernel
theorem dX3_findCopy_38 : decode cX3_findCopy 38 = .ok (.ldc 171, 2) := by decide +kernel
theorem dX3_findCopy_40 : decode cX3_findCopy 40 = .ok (.invokespecial 118, 3) := by decide +kernel
theorem dX3_findCopy_43 : decode cX3_findCopy 43 = .ok (.athrow, 1) := by decide +kernel
theorem dX3_findCopy_44 : decode cX3_findCopy 44 = .ok (.aload_n 2, 1) := by decide +kernel
theorem dX3_findCopy_45 : decode cX3_findCopy 45 = .ok (.areturn, 1) := by decide +kernel
theorem dX3_checkVoice_0 : decode cX3_checkVoice 0 = .ok (.iload_n 0, 1) := by decide +kernel
theorem dX3_checkVoice_1 : decode cX3_checkVoice 1 = .ok (.ifCond .lt 8, 3) := by decide +kernel
theorem dX3_checkVoice_4 : decode cX3_checkVoice 4 = .ok (.iload_n 0, 1) := by decide +kernel
theorem dX3_checkVoice_5 : decode cX3_checkVoice 5 = .ok (.iconst 2, 1) := by decide +kernel
theorem dX3_checkVoice_6 : decode cX3_checkVoice 6 = .ok (.if_icmp .lt 13, 3) := by decide +kernel
theorem dX3_checkVoice_9 : decode cX3_checkVoice 9 = .ok (.new 114, 3) := by decide +kernel
theorem dX3_checkVoice_12 : decode cX3_checkVoice 12 = .ok (.dup, 1) := by decide +kernel
theorem dX3_checkVoice_13 : decode cX3_checkVoice 13 = .ok (.ldc 173, 2) := by decide +kernel
theorem dX3_checkVoice_15 : decode cX3_checkVoice 15 = .ok (.invokespecial 118, 3) := by decide +kernel
theorem dX3_checkVoice_18 : decode cX3_checkVoice 18 = .ok (.athrow, 1) := by decide +kernel
theorem dX3_checkVoice_19 : decode cX3_checkVoice 19 = .ok (.return_, 1) := by decide +kernel
theorem dX3_checkBar_0 : decode cX3_checkBar 0 = .ok (.iload_n 1, 1) := by decide +kernel
theorem dX3_checkBar_1 : decode cX3_checkBar 1 = .ok (.ifCond .lt 14, 3) := by decide +kernel
theorem dX3_checkBar_4 : decode cX3_checkBar 4 = .ok (.iload_n 1, 1) := by decide +kernel
theorem dX3_checkBar_5 : decode cX3_checkBar 5 = .ok (.aload_n 0, 1) := by decide +kernel
theorem dX3_checkBar_6 : decode cX3_checkBar 6 = .ok (.getfield 53, 3) := by decide +kernel
theorem dX3_checkBar_9 : decode cX3_checkBar 9 = .ok (.getfield 136, 3) := by decide +kernel
theorem dX3_checkBar_12 : decode cX3_checkBar 12 = .ok (.if_icmp .lt 13, 3) := by decide +kernel
theorem dX3_checkBar_15 : decode cX3_checkBar 15 = .ok (.new 114, 3) := by decide +kernel
theorem dX3_checkBar_18 : decode cX3_checkBar 18 = .ok (.dup, 1) := by decide +kernel
theorem dX3_checkBar_19 : decode cX3_checkBar 19 = .ok (.ldc 175, 2) := by decide +kernel
theorem dX3_checkBar_21 : decode cX3_checkBar 21 = .ok (.invokespecial 118, 3) := by decide +kernel
theorem dX3_checkBar_24 : decode cX3_checkBar 24 = .ok (.athrow, 1) := by decide +kernel
theorem dX3_checkBar_25 : decode cX3_checkBar 25 = .ok (.return_, 1) := by decide +kernel
theorem dX3_checkAsManyBars_0 : decode cX3_checkAsManyBars 0 = .ok (.aload_n 0, 1) := by decide +kernel
theorem dX3_checkAsManyBars_1 : decode cX3_checkAsManyBars 1 = .ok (.getfield 177, 3) := by decide +kernel
theorem dX3_checkAsManyBars_4 : decode cX3_checkAsManyBars 4 = .ok (.aload_n 1, 1) := by decide +kernel
theorem dX3_checkAsManyBars_5 : decode cX3_checkAsManyBars 5 = .ok (.getfield 53, 3) := by decide +kernel
theorem dX3_checkAsManyBars_8 : decode cX3_checkAsManyBars 8 = .ok (.getfield 136, 3) := by decide +kernel
theorem dX3_checkAsManyBars_11 : decode cX3_checkAsManyBars 11 = .ok (.if_icmp .eq 13, 3) := by decide +kernel
theorem dX3_checkAsManyBars_14 : decode cX3_checkAsManyBars 14 = .ok (.new 85, 3) := by decide +kernel
theorem dX3_checkAsManyBars_17 : decode cX3_checkAsManyBars 17 = .ok (.dup, 1) := by decide +kernel
theorem dX3_checkAsManyBars_18 : decode cX3_checkAsManyBars 18 = .ok (.ldc 178, 2) := by decide +kernel
theorem dX3_checkAsManyBars_20 : decode cX3_checkAsManyBars 20 = .ok (.invokespecial 89, 3) := by decide +kernel
theorem dX3_checkAsManyBars_23 : decode cX3_checkAsManyBars 23 = .ok (.athrow, 1) := by decide +kernel
theorem dX3_checkAsManyBars_24 : decode cX3_checkAsManyBars 24 = .ok (.return_, 1) := by decide +kernel
set_option maxRecDepth 20000 in
theorem ggX3_addVersion_X2_init : GoodIn wsX3_addVersion wsX2_init := goodIn_r _ [10, 11, 12, 13, 14, 15, 16, 17, 18, 19, 20, 21, 22, 23, 24, 25, 26, 27, 28, 41, 42, 43, 36, 37, 38, 39, 40] (by decide +kernel) (by decide +kernel)
set_option maxRecDepth 20000 in
theorem gX3_addVersion_X2_init : GoodIn wsX3_addVersion (wsX2_init) := ggX3_addVersion_X2_init
theorem dX3_addVersion_0 : decode cX3_addVersion 0 = .ok (.aload_n 0, 1) := by decide +kernel
theorem dX3_addVersion_1 : decode cX3_addVersion 1 = .ok (.getfield 15, 3) := by decide +kernel
theorem dX3_addVersion_4 : decode cX3_addVersion 4 = .ok (.ifCond .lt 15, 3) := by decide +kernel
theorem dX3_addVersion_7 : decode cX3_addVersion 7 = .ok (.aload_n 0, 1) := by decide +kernel
theorem dX3_addVersion_8 : decode cX3_addVersion 8 = .ok (.getfield 15, 3) := by decide +kernel
theorem dX3_addVersion_11 : decode cX3_addVersion 11 = .ok (.aload_n 0, 1) := by decide +kernel
theorem dX3_addVersion_12 : decode cX3_addVersion 12 = .ok (.getfield 11, 3) := by decide +kernel
theorem dX3_addVersion_15 : decode cX3_addVersion 15 = .ok (.arraylength, 1) := by decide +kernel
theorem dX3_addVersion_16 : decode cX3_addVersion 16 = .ok (.if_icmp .lt 13, 3) := by decide +kernel
theorem dX3_addVersion_19 : decode cX3_addVersion 19 = .ok (.new 85, 3) := by decide +kernel
theorem dX3_addVersion_22 : decode cX3_addVersion 22 = .ok (.dup, 1) := by decide +kernel
theorem dX3_addVersion_23 : decode cX3_addVersion 23 = .ok (.ldc 180, 2) := by decide +kernel
theorem dX3_addVersion_25 : decode cX3_addVersion 25 = .ok (.invokespecial 89, 3) := by decide +kernel
theorem dX3_addVersion_28 : decode cX3_addVersion 28 = .ok (.athrow, 1) := by decide +kernel
theorem dX3_addVersion_29 : decode cX3_addVersion 29 = .ok (.new 9, 3) := by decide +kernel
theorem dX3_addVersion_32 : decode cX3_addVersion 32 = .ok (.dup, 1) := by decide +kernel
theorem dX3_addVersion_33 : decode cX3_addVersion 33 = .ok (.aload_n 0, 1) := by decide +kernel
theorem dX3_addVersion_34 : decode cX3_addVersion 34 = .ok (.getfield 15, 3) := by decide +kernel
theorem dX3_addVersion_37 : decode cX3_addVersion 37 = .ok (.aload_n 1, 1) := by decide +kernel
theorem dX3_addVersion_38 : decode cX3_addVersion 38 = .ok (.invokespecial 182, 3) := by decide +kernel
theorem dX3_addVersion_41 : decode cX3_addVersion 41 = .ok (.astore_n 2, 1) := by decide +kernel
theorem dX3_addVersion_42 : decode cX3_addVersion 42 = .ok (.aload_n 0, 1) := by decide +kernel
theorem dX3_addVersion_43 : decode cX3_addVersion 43 = .ok (.getfield 11, 3) := by decide +kernel
theorem dX3_addVersion_46 : decode cX3_addVersion 46 = .ok (.aload_n 0, 1) := by decide +kernel
theorem dX3_addVersion_47 : decode cX3_addVersion 47 = .ok (.getfield 15, 3) := by decide +kernel
theorem dX3_addVersion_50 : decode cX3_addVersion 50 = .ok (.aload_n 2, 1) := by decide +kernel
theorem dX3_addVersion_51 : decode cX3_addVersion 51 = .ok (.aastore, 1) := by decide +kernel
theorem dX3_addVersion_52 : decode cX3_addVersion 52 = .ok (.aload_n 0, 1) := by decide +kernel
theorem dX3_addVersion_53 : decode cX3_addVersion 53 = .ok (.dup, 1) := by decide +kernel
theorem dX3_addVersion_54 : decode cX3_addVersion 54 = .ok (.getfield 15, 3) := by decide +kernel
theorem dX3_addVersion_57 : decode cX3_addVersion 57 = .ok (.iconst 1, 1) := by decide +kernel
theorem dX3_addVersion_58 : decode cX3_addVersion 58 = .ok (.iadd, 1) := by decide +kernel
theorem dX3_addVersion_59 : decode cX3_addVersion 59 = .ok (.putfield 15, 3) := by decide +kernel
theorem dX3_addVersion_62 : decode cX3_addVersion 62 = .ok (.aload_n 2, 1) := by decide +kernel
theorem dX3_addVersion_63 : decode cX3_addVersion 63 = .ok (.areturn, 1) := by decide +kernel
set_option maxRecDepth 20000 in
theorem ggX3_addCopy_X0_init : GoodIn wsX3_addCopy wsX0_init := goodIn_r _ [10, 11, 12, 13, 14, 15, 16, 17, 18, 19, 20, 21, 7, 22, 23, 24, 25, 26, 27, 28, 29, 37, 38, 39, 40, 41, 42, 43] (by decide +kernel) (by decide +kernel)
set_option maxRecDepth 20000 in
theorem gX3_addCopy_X0_init : GoodIn wsX3_addCopy (wsX0_init) := ggX3_addCopy_X0_init
theorem dX3_addCopy_0 : decode cX3_addCopy 0 = .ok (.aload_n 0, 1) := by decide +kernel
theorem dX3_addCopy_1 : decode cX3_addCopy 1 = .ok (.getfield 25, 3) := by decide +kernel
theorem dX3_addCopy_4 : decode cX3_addCopy 4 = .ok (.istore_n 3, 1) := by decide +kernel
theorem dX3_addCopy_5 : decode cX3_addCopy 5 = .ok (.iload_n 3, 1) := by decide +kernel
theorem dX3_addCopy_6 : decode cX3_addCopy 6 = .ok (.ifCond .lt 12, 3) := by decide +kernel
theorem dX3_addCopy_9 : decode cX3_addCopy 9 = .ok (.iload_n 3, 1) := by decide +kernel
theorem dX3_addCopy_10 : decode cX3_addCopy 10 = .ok (.aload_n 0, 1) := by decide +kernel
theorem dX3_addCopy_11 : decode cX3_addCopy 11 = .ok (.getfield 21, 3) := by decide +kernel
theorem dX3_addCopy_14 : decode cX3_addCopy 14 = .ok (.arraylength, 1) := by decide +kernel
theorem dX3_addCopy_15 : decode cX3_addCopy 15 = .ok (.if_icmp .lt 13, 3) := by decide +kernel
theorem dX3_addCopy_18 : decode cX3_addCopy 18 = .ok (.new 85, 3) := by decide +kernel
theorem dX3_addCopy_21 : decode cX3_addCopy 21 = .ok (.dup, 1) := by decide +kernel
theorem dX3_addCopy_22 : decode cX3_addCopy 22 = .ok (.ldc 185, 2) := by decide +kernel
theorem dX3_addCopy_24 : decode cX3_addCopy 24 = .ok (.invokespecial 89, 3) := by decide +kernel
theorem dX3_addCopy_27 : decode cX3_addCopy 27 = .ok (.athrow, 1) := by decide +kernel
theorem dX3_addCopy_28 : decode cX3_addCopy 28 = .ok (.aload_n 0, 1) := by decide +kernel
theorem dX3_addCopy_29 : decode cX3_addCopy 29 = .ok (.getfield 21, 3) := by decide +kernel
theorem dX3_addCopy_32 : decode cX3_addCopy 32 = .ok (.iload_n 3, 1) := by decide +kernel
theorem dX3_addCopy_33 : decode cX3_addCopy 33 = .ok (.new 19, 3) := by decide +kernel
theorem dX3_addCopy_36 : decode cX3_addCopy 36 = .ok (.dup, 1) := by decide +kernel
theorem dX3_addCopy_37 : decode cX3_addCopy 37 = .ok (.iload_n 1, 1) := by decide +kernel
theorem dX3_addCopy_38 : decode cX3_addCopy 38 = .ok (.aload_n 2, 1) := by decide +kernel
theorem dX3_addCopy_39 : decode cX3_addCopy 39 = .ok (.invokespecial 187, 3) := by decide +kernel
theorem dX3_addCopy_42 : decode cX3_addCopy 42 = .ok (.aastore, 1) := by decide +kernel
theorem dX3_addCopy_43 : decode cX3_addCopy 43 = .ok (.aload_n 0, 1) := by decide +kernel
theorem dX3_addCopy_44 : decode cX3_addCopy 44 = .ok (.dup, 1) := by decide +kernel
theorem dX3_addCopy_45 : decode cX3_addCopy 45 = .ok (.getfield 25, 3) := by decide +kernel
theorem dX3_addCopy_48 : decode cX3_addCopy 48 = .ok (.iconst 1, 1) := by decide +kernel
theorem dX3_addCopy_49 : decode cX3_addCopy 49 = .ok (.iadd, 1) := by decide +kernel
theorem dX3_addCopy_50 : decode cX3_addCopy 50 = .ok (.putfield 25, 3) := by decide +kernel
theorem dX3_addCopy_53 : decode cX3_addCopy 53 = .ok (.iload_n 3, 1) := by decide +kernel
theorem dX3_addCopy_54 : decode cX3_addCopy 54 = .ok (.ireturn, 1) := by decide +kernel
set_option maxRecDepth 20000 in
theorem ggX3_commonAncestor_X3_isAncestor : GoodIn wsX3_commonAncestor wsX3_isAncestor := goodIn_r _ [4, 5, 6, 7, 8, 9] (by decide +kernel) (by decide +kernel)
set_option maxRecDepth 20000 in
theorem gX3_commonAncestor_X3_isAncestor : GoodIn wsX3_commonAncestor (va_wsS RX3 190 yX3_isAncestor wsX3_isAncestor) := goodIn_app (goodIn_of _ (by decide +kernel)) ggX3_commonAncestor_X3_isAncestor
theorem dX3_commonAncestor_0 : decode cX3_commonAncestor 0 = .ok (.aload_n 0, 1) := by decide +kernel
theorem dX3_commonAncestor_1 : decode cX3_commonAncestor 1 = .ok (.astore_n 2, 1) := by decide +kernel
theorem dX3_commonAncestor_2 : decode cX3_commonAncestor 2 = .ok (.aload_n 2, 1) := by decide +kernel
theorem dX3_commonAncestor_3 : decode cX3_commonAncestor 3 = .ok (.ifnull 21, 3) := by decide +kernel
theorem dX3_commonAncestor_6 : decode cX3_commonAncestor 6 = .ok (.aload_n 2, 1) := by decide +kernel
theorem dX3_commonAncestor_7 : decode cX3_commonAncestor 7 = .ok (.aload_n 1, 1) := by decide +kernel
theorem dX3_commonAncestor_8 : decode cX3_commonAncestor 8 = .ok (.invokestatic 190, 3) := by decide +kernel
theorem dX3_commonAncestor_11 : decode cX3_commonAncestor 11 = .ok (.ifCond .eq 5, 3) := by decide +kernel
theorem dX3_commonAncestor_14 : decode cX3_commonAncestor 14 = .ok (.aload_n 2, 1) := by decide +kernel
theorem dX3_commonAncestor_15 : decode cX3_commonAncestor 15 = .ok (.areturn, 1) := by decide +kernel
theorem dX3_commonAncestor_16 : decode cX3_commonAncestor 16 = .ok (.aload_n 2, 1) := by decide +kernel
theorem dX3_commonAncestor_17 : decode cX3_commonAncestor 17 = .ok (.getfield 194, 3) := by decide +kernel
theorem dX3_commonAncestor_20 : decode cX3_commonAncestor 20 = .ok (.astore_n 2, 1) := by decide +kernel
theorem dX3_commonAncestor_21 : decode cX3_commonAncestor 21 = .ok (.goto (-19), 3) := by decide +kernel
theorem dX3_commonAncestor_24 : decode cX3_commonAncestor 24 = .ok (.aconst_null, 1) := by decide +kernel
theorem dX3_commonAncestor_25 : decode cX3_commonAncestor 25 = .ok (.areturn, 1) := by decide +kernel
theorem dX3_isAncestor_0 : decode cX3_isAncestor 0 = .ok (.aload_n 1, 1) := by decide +kernel
theorem dX3_isAncestor_1 : decode cX3_isAncestor 1 = .ok (.astore_n 2, 1) := by decide +kernel
theorem dX3_isAncestor_2 : decode cX3_isAncestor 2 = .ok (.aload_n 2, 1) := by decide +kernel
theorem dX3_isAncestor_3 : decode cX3_isAncestor 3 = .ok (.ifnull 18, 3) := by decide +kernel
theorem dX3_isAncestor_6 : decode cX3_isAncestor 6 = .ok (.aload_n 2, 1) := by decide +kernel
theorem dX3_isAncestor_7 : decode cX3_isAncestor 7 = .ok (.aload_n 0, 1) := by decide +kernel
theorem dX3_isAncestor_8 : decode cX3_isAncestor 8 = .ok (.if_acmp .ne 5, 3) := by decide +kernel
theorem dX3_isAncestor_11 : decode cX3_isAncestor 11 = .ok (.iconst 1, 1) := by decide +kernel
theorem dX3_isAncestor_12 : decode cX3_isAncestor 12 = .ok (.ireturn, 1) := by decide +kernel
theorem dX3_isAncestor_13 : decode cX3_isAncestor 13 = .ok (.aload_n 2, 1) := by decide +kernel
theorem dX3_isAncestor_14 : decode cX3_isAncestor 14 = .ok (.getfield 194, 3) := by decide +kernel
theorem dX3_isAncestor_17 : decode cX3_isAncestor 17 = .ok (.astore_n 2, 1) := by decide +kernel
theorem dX3_isAncestor_18 : decode cX3_isAncestor 18 = .ok (.goto (-16), 3) := by decide +kernel
theorem dX3_isAncestor_21 : decode cX3_isAncestor 21 = .ok (.iconst 0, 1) := by decide +kernel
theorem dX3_isAncestor_22 : decode cX3_isAncestor 22 = .ok (.ireturn, 1) := by decide +kernel
set_option maxRecDepth 20000 in
theorem ggX3_conflictingBars_X1_sameBar : GoodIn wsX3_conflictingBars wsX1_sameBar := goodIn_r _ [5, 6, 7, 8, 4, 9, 10, 11, 12, 13, 14] (by decide +kernel) (by decide +kernel)
set_option maxRecDepth 20000 in
theorem gX3_conflictingBars_X1_sameBar : GoodIn wsX3_conflictingBars (wsV RX3 198 RX1 yX1_sameBar wsX1_sameBar) := goodIn_app (goodIn_of _ (by decide +kernel)) ggX3_conflictingBars_X1_sameBar
theorem dX3_conflictingBars_0 : decode cX3_conflictingBars 0 = .ok (.iconst 0, 1) := by decide +kernel
theorem dX3_conflictingBars_1 : decode cX3_conflictingBars 1 = .ok (.istore_n 3, 1) := by decide +kernel
theorem dX3_conflictingBars_2 : decode cX3_conflictingBars 2 = .ok (.iconst 0, 1) := by decide +kernel
theorem dX3_conflictingBars_3 : decode cX3_conflictingBars 3 = .ok (.istore 4, 2) := by decide +kernel
theorem dX3_conflictingBars_5 : decode cX3_conflictingBars 5 = .ok (.iload 4, 2) := by decide +kernel
theorem dX3_conflictingBars_7 : decode cX3_conflictingBars 7 = .ok (.aload_n 0, 1) := by decide +kernel
theorem dX3_conflictingBars_8 : decode cX3_conflictingBars 8 = .ok (.getfield 136, 3) := by decide +kernel
theorem dX3_conflictingBars_11 : decode cX3_conflictingBars 11 = .ok (.if_icmp .ge 46, 3) := by decide +kernel
theorem dX3_conflictingBars_14 : decode cX3_conflictingBars 14 = .ok (.aload_n 0, 1) := by decide +kernel
theorem dX3_conflictingBars_15 : decode cX3_conflictingBars 15 = .ok (.aload_n 1, 1) := by decide +kernel
theorem dX3_conflictingBars_16 : decode cX3_conflictingBars 16 = .ok (.iload 4, 2) := by decide +kernel
theorem dX3_conflictingBars_18 : decode cX3_conflictingBars 18 = .ok (.invokevirtual 198, 3) := by decide +kernel
theorem dX3_conflictingBars_21 : decode cX3_conflictingBars 21 = .ok (.ifCond .ne 30, 3) := by decide +kernel
theorem dX3_conflictingBars_24 : decode cX3_conflictingBars 24 = .ok (.aload_n 0, 1) := by decide +kernel
theorem dX3_conflictingBars_25 : decode cX3_conflictingBars 25 = .ok (.aload_n 2, 1) := by decide +kernel
theorem dX3_conflictingBars_26 : decode cX3_conflictingBars 26 = .ok (.iload 4, 2) := by decide +kernel
theorem dX3_conflictingBars_28 : decode cX3_conflictingBars 28 = .ok (.invokevirtual 198, 3) := by decide +kernel
theorem dX3_conflictingBars_31 : decode cX3_conflictingBars 31 = .ok (.ifCond .ne 20, 3) := by decide +kernel
theorem dX3_conflictingBars_34 : decode cX3_conflictingBars 34 = .ok (.aload_n 1, 1) := by decide +kernel
theorem dX3_conflictingBars_35 : decode cX3_conflictingBars 35 = .ok (.aload_n 2, 1) := by decide +kernel
theorem dX3_conflictingBars_36 : decode cX3_conflictingBars 36 = .ok (.iload 4, 2) := by decide +kernel
theorem dX3_conflictingBars_38 : decode cX3_conflictingBars 38 = .ok (.invokevirtual 198, 3) := by decide +kernel
theorem dX3_conflictingBars_41 : decode cX3_conflictingBars 41 = .ok (.ifCond .ne 10, 3) := by decide +kernel
theorem dX3_conflictingBars_44 : decode cX3_conflictingBars 44 = .ok (.iload_n 3, 1) := by decide +kernel
theorem dX3_conflictingBars_45 : decode cX3_conflictingBars 45 = .ok (.iconst 1, 1) := by decide +kernel
theorem dX3_conflictingBars_46 : decode cX3_conflictingBars 46 = .ok (.iload 4, 2) := by decide +kernel
theorem dX3_conflictingBars_48 : decode cX3_conflictingBars 48 = .ok (.ishl, 1) := by decide +kernel
theorem dX3_conflictingBars_49 : decode cX3_conflictingBars 49 = .ok (.ior, 1) := by decide +kernel
theorem dX3_conflictingBars_50 : decode cX3_conflictingBars 50 = .ok (.istore_n 3, 1) := by decide +kernel
theorem dX3_conflictingBars_51 : decode cX3_conflictingBars 51 = .ok (.iinc 4 1, 3) := by decide +kernel
theorem dX3_conflictingBars_54 : decode cX3_conflictingBars 54 = .ok (.goto (-49), 3) := by decide +kernel
theorem dX3_conflictingBars_57 : decode cX3_conflictingBars 57 = .ok (.iload_n 3, 1) := by decide +kernel
theorem dX3_conflictingBars_58 : decode cX3_conflictingBars 58 = .ok (.ireturn, 1) := by decide +kernel
set_option maxRecDepth 20000 in
theorem ggX3_mergeInto_X1_takeAll : GoodIn wsX3_mergeInto wsX1_takeAll := goodIn_r _ [5, 6, 7, 8, 9, 4, 10, 11, 12, 13, 14, 15, 16, 17, 18, 19, 20, 26, 27, 28] (by decide +kernel) (by decide +kernel)
set_option maxRecDepth 20000 in
theorem gX3_mergeInto_X1_takeAll : GoodIn wsX3_mergeInto (wsV RX3 67 RX1 yX1_takeAll wsX1_takeAll) := goodIn_app (goodIn_of _ (by decide +kernel)) ggX3_mergeInto_X1_takeAll
set_option maxRecDepth 20000 in
theorem ggX3_mergeInto_X1_sameBar : GoodIn wsX3_mergeInto wsX1_sameBar := goodIn_r _ [24, 11, 12, 13, 4, 14, 15, 16, 26, 27, 28] (by decide +kernel) (by decide +kernel)
set_option maxRecDepth 20000 in
theorem gX3_mergeInto_X1_sameBar : GoodIn wsX3_mergeInto (wsV RX3 198 RX1 yX1_sameBar wsX1_sameBar) := goodIn_app (goodIn_of _ (by decide +kernel)) ggX3_mergeInto_X1_sameBar
set_option maxRecDepth 20000 in
theorem ggX3_mergeInto_X1_takeBar : GoodIn wsX3_mergeInto wsX1_takeBar := goodIn_r _ [10, 11, 12, 13, 4, 14, 15, 16, 17, 18, 19, 20, 26, 27, 28] (by decide +kernel) (by decide +kernel)
set_option maxRecDepth 20000 in
theorem gX3_mergeInto_X1_takeBar : GoodIn wsX3_mergeInto (wsV RX3 202 RX1 yX1_takeBar wsX1_takeBar) := goodIn_app (goodIn_of _ (by decide +kernel)) ggX3_mergeInto_X1_takeBar
theorem dX3_mergeInto_0 : decode cX3_mergeInto 0 = .ok (.aload_n 0, 1) := by decide +kernel
theorem dX3_mergeInto_1 : decode cX3_mergeInto 1 = .ok (.aload_n 1, 1) := by decide +kernel
theorem dX3_mergeInto_2 : decode cX3_mergeInto 2 = .ok (.invokevirtual 67, 3) := by decide +kernel
theorem dX3_mergeInto_5 : decode cX3_mergeInto 5 = .ok (.iconst 0, 1) := by decide +kernel
theorem dX3_mergeInto_6 : decode cX3_mergeInto 6 = .ok (.istore 4, 2) := by decide +kernel
theorem dX3_mergeInto_8 : decode cX3_mergeInto 8 = .ok (.iload 4, 2) := by decide +kernel
theorem dX3_mergeInto_10 : decode cX3_mergeInto 10 = .ok (.aload_n 1, 1) := by decide +kernel
theorem dX3_mergeInto_11 : decode cX3_mergeInto 11 = .ok (.getfield 136, 3) := by decide +kernel
theorem dX3_mergeInto_14 : decode cX3_mergeInto 14 = .ok (.if_icmp .ge 26, 3) := by decide +kernel
theorem dX3_mergeInto_17 : decode cX3_mergeInto 17 = .ok (.aload_n 1, 1) := by decide +kernel
theorem dX3_mergeInto_18 : decode cX3_mergeInto 18 = .ok (.aload_n 3, 1) := by decide +kernel
theorem dX3_mergeInto_19 : decode cX3_mergeInto 19 = .ok (.iload 4, 2) := by decide +kernel
theorem dX3_mergeInto_21 : decode cX3_mergeInto 21 = .ok (.invokevirtual 198, 3) := by decide +kernel
theorem dX3_mergeInto_24 : decode cX3_mergeInto 24 = .ok (.ifCond .eq 10, 3) := by decide +kernel
theorem dX3_mergeInto_27 : decode cX3_mergeInto 27 = .ok (.aload_n 0, 1) := by decide +kernel
theorem dX3_mergeInto_28 : decode cX3_mergeInto 28 = .ok (.aload_n 2, 1) := by decide +kernel
theorem dX3_mergeInto_29 : decode cX3_mergeInto 29 = .ok (.iload 4, 2) := by decide +kernel
theorem dX3_mergeInto_31 : decode cX3_mergeInto 31 = .ok (.invokevirtual 202, 3) := by decide +kernel
theorem dX3_mergeInto_34 : decode cX3_mergeInto 34 = .ok (.iinc 4 1, 3) := by decide +kernel
theorem dX3_mergeInto_37 : decode cX3_mergeInto 37 = .ok (.goto (-29), 3) := by decide +kernel
theorem dX3_mergeInto_40 : decode cX3_mergeInto 40 = .ok (.return_, 1) := by decide +kernel
set_option maxRecDepth 20000 in
theorem ggX3_markOf_X3_weightedFaults : GoodIn wsX3_markOf wsX3_weightedFaults := goodIn_r _ [9, 10, 11, 12, 13, 14, 15, 16, 17, 18, 19, 20, 21, 22, 23, 24, 25, 3, 26, 27, 28, 29, 30, 31, 32, 33, 34, 35, 36, 37, 38, 39, 40, 41, 42, 43, 44, 45, 46, 47, 48, 49, 50, 51, 52, 53, 54, 55, 56, 60, 61, 62, 63, 64, 65, 66, 57, 58, 59] (by decide +kernel) (by decide +kernel)
set_option maxRecDepth 20000 in
theorem gX3_markOf_X3_weightedFaults : GoodIn wsX3_markOf (wsV RX3 206 RX3 yX3_weightedFaults wsX3_weightedFaults) := goodIn_app (goodIn_of _ (by decide +kernel)) ggX3_markOf_X3_weightedFaults
theorem dX3_markOf_0 : decode cX3_markOf 0 = .ok (.iconst 0, 1) := by decide +kernel
theorem dX3_markOf_1 : decode cX3_markOf 1 = .ok (.bipush 100, 2) := by decide +kernel
theorem dX3_markOf_3 : decode cX3_markOf 3 = .ok (.aload_n 0, 1) := by decide +kernel
theorem dX3_markOf_4 : decode cX3_markOf 4 = .ok (.aload_n 1, 1) := by decide +kernel
theorem dX3_markOf_5 : decode cX3_markOf 5 = .ok (.iconst 0, 1) := by decide +kernel
theorem dX3_markOf_6 : decode cX3_markOf 6 = .ok (.aload_n 1, 1) := by decide +kernel
theorem dX3_markOf_7 : decode cX3_markOf 7 = .ok (.getfield 136, 3) := by decide +kernel
theorem dX3_markOf_10 : decode cX3_markOf 10 = .ok (.invokevirtual 206, 3) := by decide +kernel
theorem dX3_markOf_13 : decode cX3_markOf 13 = .ok (.isub, 1) := by decide +kernel
theorem dX3_markOf_14 : decode cX3_markOf 14 = .ok (.invokestatic 210, 3) := by decide +kernel
theorem dX3_markOf_17 : decode cX3_markOf 17 = .ok (.ireturn, 1) := by decide +kernel
set_option maxRecDepth 20000 in
theorem ggX3_weightedFaults_X1_faultsOf : GoodIn wsX3_weightedFaults wsX1_faultsOf := goodIn_r _ [6, 7, 8, 9, 5, 10, 11, 12, 13, 14, 15, 16, 17, 18, 19, 20, 21, 22, 23, 24, 25, 26, 27, 28, 29, 30, 31, 32, 33, 34, 35, 36, 37, 38, 39, 40, 41, 42, 43, 44, 45, 46, 47, 48, 56, 57, 58] (by decide +kernel) (by decide +kernel)
set_option maxRecDepth 20000 in
theorem gX3_weightedFaults_X1_faultsOf : GoodIn wsX3_weightedFaults (wsV RX3 123 RX1 yX1_faultsOf wsX1_faultsOf) := goodIn_app (goodIn_of _ (by decide +kernel)) ggX3_weightedFaults_X1_faultsOf
theorem dX3_weightedFaults_0 : decode cX3_weightedFaults 0 = .ok (.iconst 0, 1) := by decide +kernel
theorem dX3_weightedFaults_1 : decode cX3_weightedFaults 1 = .ok (.istore 4, 2) := by decide +kernel
theorem dX3_weightedFaults_3 : decode cX3_weightedFaults 3 = .ok (.iconst 0, 1) := by decide +kernel
theorem dX3_weightedFaults_4 : decode cX3_weightedFaults 4 = .ok (.istore 5, 2) := by decide +kernel
theorem dX3_weightedFaults_6 : decode cX3_weightedFaults 6 = .ok (.iload 5, 2) := by decide +kernel
theorem dX3_weightedFaults_8 : decode cX3_weightedFaults 8 = .ok (.aload_n 0, 1) := by decide +kernel
theorem dX3_weightedFaults_9 : decode cX3_weightedFaults 9 = .ok (.getfield 28, 3) := by decide +kernel
theorem dX3_weightedFaults_12 : decode cX3_weightedFaults 12 = .ok (.arraylength, 1) := by decide +kernel
theorem dX3_weightedFaults_13 : decode cX3_weightedFaults 13 = .ok (.if_icmp .ge 45, 3) := by decide +kernel
theorem dX3_weightedFaults_16 : decode cX3_weightedFaults 16 = .ok (.iload_n 2, 1) := by decide +kernel
theorem dX3_weightedFaults_17 : decode cX3_weightedFaults 17 = .ok (.istore 6, 2) := by decide +kernel
theorem dX3_weightedFaults_19 : decode cX3_weightedFaults 19 = .ok (.iload 6, 2) := by decide +kernel
theorem dX3_weightedFaults_21 : decode cX3_weightedFaults 21 = .ok (.iload_n 3, 1) := by decide +kernel
theorem dX3_weightedFaults_22 : decode cX3_weightedFaults 22 = .ok (.if_icmp .ge 30, 3) := by decide +kernel
theorem dX3_weightedFaults_25 : decode cX3_weightedFaults 25 = .ok (.iload 4, 2) := by decide +kernel
theorem dX3_weightedFaults_27 : decode cX3_weightedFaults 27 = .ok (.aload_n 0, 1) := by decide +kernel
theorem dX3_weightedFaults_28 : decode cX3_weightedFaults 28 = .ok (.getfield 28, 3) := by decide +kernel
theorem dX3_weightedFaults_31 : decode cX3_weightedFaults 31 = .ok (.iload 5, 2) := by decide +kernel
theorem dX3_weightedFaults_33 : decode cX3_weightedFaults 33 = .ok (.iaload, 1) := by decide +kernel
theorem dX3_weightedFaults_34 : decode cX3_weightedFaults 34 = .ok (.aload_n 1, 1) := by decide +kernel
theorem dX3_weightedFaults_35 : decode cX3_weightedFaults 35 = .ok (.iload 5, 2) := by decide +kernel
theorem dX3_weightedFaults_37 : decode cX3_weightedFaults 37 = .ok (.iload 6, 2) := by decide +kernel
theorem dX3_weightedFaults_39 : decode cX3_weightedFaults 39 = .ok (.invokevirtual 123, 3) := by decide +kernel
theorem dX3_weightedFaults_42 : decode cX3_weightedFaults 42 = .ok (.imul, 1) := by decide +kernel
theorem dX3_weightedFaults_43 : decode cX3_weightedFaults 43 = .ok (.iadd, 1) := by decide +kernel
theorem dX3_weightedFaults_44 : decode cX3_weightedFaults 44 = .ok (.istore 4, 2) := by decide +kernel
theorem dX3_weightedFaults_46 : decode cX3_weightedFaults 46 = .ok (.iinc 6 1, 3) := by decide +kernel
theorem dX3_weightedFaults_49 : decode cX3_weightedFaults 49 = .ok (.goto (-30), 3) := by decide +kernel
theorem dX3_weightedFaults_52 : decode cX3_weightedFaults 52 = .ok (.iinc 5 1, 3) := by decide +kernel
theorem dX3_weightedFaults_55 : decode cX3_weightedFaults 55 = .ok (.goto (-49), 3) := by decide +kernel
theorem dX3_weightedFaults_58 : decode cX3_weightedFaults 58 = .ok (.iload 4, 2) := by decide +kernel
theorem dX3_weightedFaults_60 : decode cX3_weightedFaults 60 = .ok (.ireturn, 1) := by decide +kernel
set_option maxRecDepth 20000 in
theorem ggX3_bestTone_X1_setTone : GoodIn wsX3_bestTone wsX1_setTone := goodIn_r _ [10, 11, 12, 69, 70, 71] (by decide +kernel) (by decide +kernel)
set_option maxRecDepth 20000 in
theorem gX3_bestTone_X1_setTone : GoodIn wsX3_bestTone (wsV RX3 94 RX1 yX1_setTone wsX1_setTone) := goodIn_app (goodIn_of _ (by decide +kernel)) ggX3_bestTone_X1_setTone
set_option maxRecDepth 20000 in
theorem ggX3_bestTone_X3_weightedFaults : GoodIn wsX3_bestTone wsX3_weightedFaults := goodIn_r _ [17, 18, 19, 20, 21, 9, 22, 23, 24, 25, 26, 27, 28, 29, 30, 31, 32, 4, 33, 34, 35, 36, 37, 11, 12, 38, 39, 40, 41, 42, 43, 44, 45, 46, 47, 48, 49, 50, 51, 52, 53, 54, 55, 56, 57, 58, 59, 60, 61, 62, 63, 64, 65, 66, 67, 68, 69, 70, 71] (by decide +kernel) (by decide +kernel)
set_option maxRecDepth 20000 in
theorem gX3_bestTone_X3_weightedFaults : GoodIn wsX3_bestTone (wsV RX3 206 RX3 yX3_weightedFaults wsX3_weightedFaults) := goodIn_app (goodIn_of _ (by decide +kernel)) ggX3_bestTone_X3_weightedFaults
theorem dX3_bestTone_0 : decode cX3_bestTone 0 = .ok (.iload_n 2, 1) := by decide +kernel
theorem dX3_bestTone_1 : decode cX3_bestTone 1 = .ok (.iconst 3, 1) := by decide +kernel
theorem dX3_bestTone_2 : decode cX3_bestTone 2 = .ok (.iadd, 1) := by decide +kernel
theorem dX3_bestTone_3 : decode cX3_bestTone 3 = .ok (.aload_n 0, 1) := by decide +kernel
theorem dX3_bestTone_4 : decode cX3_bestTone 4 = .ok (.getfield 38, 3) := by decide +kernel
theorem dX3_bestTone_7 : decode cX3_bestTone 7 = .ok (.getfield 136, 3) := by decide +kernel
theorem dX3_bestTone_10 : decode cX3_bestTone 10 = .ok (.invokestatic 215, 3) := by decide +kernel
theorem dX3_bestTone_13 : decode cX3_bestTone 13 = .ok (.istore_n 3, 1) := by decide +kernel
theorem dX3_bestTone_14 : decode cX3_bestTone 14 = .ok (.iconst 0, 1) := by decide +kernel
theorem dX3_bestTone_15 : decode cX3_bestTone 15 = .ok (.istore 4, 2) := by decide +kernel
theorem dX3_bestTone_17 : decode cX3_bestTone 17 = .ok (.iconst 0, 1) := by decide +kernel
theorem dX3_bestTone_18 : decode cX3_bestTone 18 = .ok (.istore 5, 2) := by decide +kernel
theorem dX3_bestTone_20 : decode cX3_bestTone 20 = .ok (.iconst 0, 1) := by decide +kernel
theorem dX3_bestTone_21 : decode cX3_bestTone 21 = .ok (.istore 6, 2) := by decide +kernel
theorem dX3_bestTone_23 : decode cX3_bestTone 23 = .ok (.iload 6, 2) := by decide +kernel
theorem dX3_bestTone_25 : decode cX3_bestTone 25 = .ok (.bipush 40, 2) := by decide +kernel
theorem dX3_bestTone_27 : decode cX3_bestTone 27 = .ok (.if_icmp .gt 52, 3) := by decide +kernel
theorem dX3_bestTone_30 : decode cX3_bestTone 30 = .ok (.aload_n 0, 1) := by decide +kernel
theorem dX3_bestTone_31 : decode cX3_bestTone 31 = .ok (.getfield 38, 3) := by decide +kernel
theorem dX3_bestTone_34 : decode cX3_bestTone 34 = .ok (.iload_n 1, 1) := by decide +kernel
theorem dX3_bestTone_35 : decode cX3_bestTone 35 = .ok (.iload_n 2, 1) := by decide +kernel
theorem dX3_bestTone_36 : decode cX3_bestTone 36 = .ok (.iload 6, 2) := by decide +kernel
theorem dX3_bestTone_38 : decode cX3_bestTone 38 = .ok (.invokevirtual 94, 3) := by decide +kernel
theorem dX3_bestTone_41 : decode cX3_bestTone 41 = .ok (.aload_n 0, 1) := by decide +kernel
theorem dX3_bestTone_42 : decode cX3_bestTone 42 = .ok (.aload_n 0, 1) := by decide +kernel
theorem dX3_bestTone_43 : decode cX3_bestTone 43 = .ok (.getfield 38, 3) := by decide +kernel
theorem dX3_bestTone_46 : decode cX3_bestTone 46 = .ok (.iload_n 2, 1) := by decide +kernel
theorem dX3_bestTone_47 : decode cX3_bestTone 47 = .ok (.iload_n 3, 1) := by decide +kernel
theorem dX3_bestTone_48 : decode cX3_bestTone 48 = .ok (.invokevirtual 206, 3) := by decide +kernel
theorem dX3_bestTone_51 : decode cX3_bestTone 51 = .ok (.istore 7, 2) := by decide +kernel
theorem dX3_bestTone_53 : decode cX3_bestTone 53 = .ok (.iload 6, 2) := by decide +kernel
theorem dX3_bestTone_55 : decode cX3_bestTone 55 = .ok (.ifCond .eq 10, 3) := by decide +kernel
theorem dX3_bestTone_58 : decode cX3_bestTone 58 = .ok (.iload 7, 2) := by decide +kernel
theorem dX3_bestTone_60 : decode cX3_bestTone 60 = .ok (.iload 5, 2) := by decide +kernel
theorem dX3_bestTone_62 : decode cX3_bestTone 62 = .ok (.if_icmp .ge 11, 3) := by decide +kernel
theorem dX3_bestTone_65 : decode cX3_bestTone 65 = .ok (.iload 7, 2) := by decide +kernel
theorem dX3_bestTone_67 : decode cX3_bestTone 67 = .ok (.istore 5, 2) := by decide +kernel
theorem dX3_bestTone_69 : decode cX3_bestTone 69 = .ok (.iload 6, 2) := by decide +kernel
theorem dX3_bestTone_71 : decode cX3_bestTone 71 = .ok (.istore 4, 2) := by decide +kernel
theorem dX3_bestTone_73 : decode cX3_bestTone 73 = .ok (.iinc 6 1, 3) := by decide +kernel
theorem dX3_bestTone_76 : decode cX3_bestTone 76 = .ok (.goto (-53), 3) := by decide +kernel
theorem dX3_bestTone_79 : decode cX3_bestTone 79 = .ok (.iload 4, 2) := by decide +kernel
theorem dX3_bestTone_81 : decode cX3_bestTone 81 = .ok (.ireturn, 1) := by decide +kernel
end
section
theorem dX4_init_0 : decode cX4_init 0 = .ok (.aload_n 0, 1) := by decide +kernel
theorem dX4_init_1 : decode cX4_init 1 = .ok (.invokespecial 1, 3) := by decide +kernel
theorem dX4_init_4 : decode cX4_init 4 = .ok (.aload_n 0, 1) := by decide +kernel
theorem dX4_init_5 : decode cX4_init 5 = .ok (.bipush 30, 2) := by decide +kernel
theorem dX4_init_7 : decode cX4_init 7 = .ok (.newarray .int, 2) := by decide +kernel
theorem dX4_init_9 : decode cX4_init 9 = .ok (.putfield 7, 3) := by decide +kernel
theorem dX4_init_12 : decode cX4_init 12 = .ok (.aload_n 0, 1) := by decide +kernel
theorem dX4_init_13 : decode cX4_init 13 = .ok (.bipush 30, 2) := by decide +kernel
theorem dX4_init_15 : decode cX4_init 15 = .ok (.newarray .int, 2) := by decide +kernel
theorem dX4_init_17 : decode cX4_init 17 = .ok (.putfield 13, 3) := by decide +kernel
theorem dX4_init_20 : decode cX4_init 20 = .ok (.aload_n 0, 1) := by decide +kernel
theorem dX4_init_21 : decode cX4_init 21 = .ok (.bipush 30, 2) := by decide +kernel
theorem dX4_init_23 : decode cX4_init 23 = .ok (.newarray .boolean, 2) := by decide +kernel
theorem dX4_init_25 : decode cX4_init 25 = .ok (.putfield 16, 3) := by decide +kernel
theorem dX4_init_28 : decode cX4_init 28 = .ok (.aload_n 0, 1) := by decide +kernel
theorem dX4_init_29 : decode cX4_init 29 = .ok (.bipush 30, 2) := by decide +kernel
theorem dX4_init_31 : decode cX4_init 31 = .ok (.newarray .boolean, 2) := by decide +kernel
theorem dX4_init_33 : decode cX4_init 33 = .ok (.putfield 20, 3) := by decide +kernel
theorem dX4_init_36 : decode cX4_init 36 = .ok (.aload_n 0, 1) := by decide +kernel
theorem dX4_init_37 : decode cX4_init 37 = .ok (.sipush 720, 3) := by decide +kernel
theorem dX4_init_40 : decode cX4_init 40 = .ok (.newarray .int, 2) := by decide +kernel
theorem dX4_init_42 : decode cX4_init 42 = .ok (.putfield 23, 3) := by decide +kernel
theorem dX4_init_45 : decode cX4_init 45 = .ok (.aload_n 0, 1) := by decide +kernel
theorem dX4_init_46 : decode cX4_init 46 = .ok (.bipush 6, 2) := by decide +kernel
theorem dX4_init_48 : decode cX4_init 48 = .ok (.newarray .int, 2) := by decide +kernel
theorem dX4_init_50 : decode cX4_init 50 = .ok (.putfield 26, 3) := by decide +kernel
theorem dX4_init_53 : decode cX4_init 53 = .ok (.aload_n 0, 1) := by decide +kernel
theorem dX4_init_54 : decode cX4_init 54 = .ok (.bipush 60, 2) := by decide +kernel
theorem dX4_init_56 : decode cX4_init 56 = .ok (.putfield 29, 3) := by decide +kernel
theorem dX4_init_59 : decode cX4_init 59 = .ok (.aload_n 0, 1) := by decide +kernel
theorem dX4_init_60 : decode cX4_init 60 = .ok (.bipush 20, 2) := by decide +kernel
theorem dX4_init_62 : decode cX4_init 62 = .ok (.newarray .int, 2) := by decide +kernel
theorem dX4_init_64 : decode cX4_init 64 = .ok (.putfield 33, 3) := by decide +kernel
theorem dX4_init_67 : decode cX4_init 67 = .ok (.aload_n 0, 1) := by decide +kernel
theorem dX4_init_68 : decode cX4_init 68 = .ok (.bipush 20, 2) := by decide +kernel
theorem dX4_init_70 : decode cX4_init 70 = .ok (.newarray .int, 2) := by decide +kernel
theorem dX4_init_72 : decode cX4_init 72 = .ok (.putfield 36, 3) := by decide +kernel
theorem dX4_init_75 : decode cX4_init 75 = .ok (.aload_n 0, 1) := by decide +kernel
theorem dX4_init_76 : decode cX4_init 76 = .ok (.sipush 240, 3) := by decide +kernel
theorem dX4_init_79 : decode cX4_init 79 = .ok (.newarray .int, 2) := by decide +kernel
theorem dX4_init_81 : decode cX4_init 81 = .ok (.putfield 39, 3) := by decide +kernel
theorem dX4_init_84 : decode cX4_init 84 = .ok (.aload_n 0, 1) := by decide +kernel
theorem dX4_init_85 : decode cX4_init 85 = .ok (.bipush 20, 2) := by decide +kernel
theorem dX4_init_87 : decode cX4_init 87 = .ok (.newarray .int, 2) := by decide +kernel
theorem dX4_init_89 : decode cX4_init 89 = .ok (.putfield 42, 3) := by decide +kernel
theorem dX4_init_92 : decode cX4_init 92 = .ok (.iconst 0, 1) := by decide +kernel
theorem dX4_init_93 : decode cX4_init 93 = .ok (.istore_n 1, 1) := by decide +kernel
theorem dX4_init_94 : decode cX4_init 94 = .ok (.iload_n 1, 1) := by decide +kernel
theorem dX4_init_95 : decode cX4_init 95 = .ok (.bipush 6, 2) := by decide +kernel
theorem dX4_init_97 : decode cX4_init 97 = .ok (.if_icmp .ge 16, 3) := by decide +kernel
theorem dX4_init_100 : decode cX4_init 100 = .ok (.aload_n 0, 1) := by decide +kernel
theorem dX4_init_101 : decode cX4_init 101 = .ok (.getfield 26, 3) := by decide +kernel
theorem dX4_init_104 : decode cX4_init 104 = .ok (.iload_n 1, 1) := by decide +kernel
theorem dX4_init_105 : decode cX4_init 105 = .ok (.iconst 5, 1) := by decide +kernel
theorem dX4_init_106 : decode cX4_init 106 = .ok (.iastore, 1) := by decide +kernel
theorem dX4_init_107 : decode cX4_init 107 = .ok (.iinc 1 1, 3) := by decide +kernel
theorem dX4_init_110 : decode cX4_init 110 = .ok (.goto (-16), 3) := by decide +kernel
theorem dX4_init_113 : decode cX4_init 113 = .ok (.return_, 1) := by decide +kernel
theorem dX4_thrown_0 : decode cX4_thrown 0 = .ok (.aload_n 0, 1) := by decide +kernel
theorem dX4_thrown_1 : decode cX4_thrown 1 = .ok (.getfield 45, 3) := by decide +kernel
theorem dX4_thrown_4 : decode cX4_thrown 4 = .ok (.ireturn, 1) := by decide +kernel
theorem dX4_fails_0 : decode cX4_fails 0 = .ok (.aload_n 0, 1) := by decide +kernel
theorem dX4_fails_1 : decode cX4_fails 1 = .ok (.iload_n 1, 1) := by decide +kernel
theorem dX4_fails_2 : decode cX4_fails 2 = .ok (.putfield 45, 3) := by decide +kernel
theorem dX4_fails_5 : decode cX4_fails 5 = .ok (.iload_n 1, 1) := by decide +kernel
theorem dX4_fails_6 : decode cX4_fails 6 = .ok (.ifCond .le 7, 3) := by decide +kernel
theorem dX4_fails_9 : decode cX4_fails 9 = .ok (.iconst 1, 1) := by decide +kernel
theorem dX4_fails_10 : decode cX4_fails 10 = .ok (.goto 4, 3) := by decide +kernel
theorem dX4_fails_13 : decode cX4_fails 13 = .ok (.iconst 0, 1) := by decide +kernel
theorem dX4_fails_14 : decode cX4_fails 14 = .ok (.ireturn, 1) := by decide +kernel
theorem dX4_isIn_0 : decode cX4_isIn 0 = .ok (.iload_n 0, 1) := by decide +kernel
theorem dX4_isIn_1 : decode cX4_isIn 1 = .ok (.iload_n 1, 1) := by decide +kernel
theorem dX4_isIn_2 : decode cX4_isIn 2 = .ok (.if_icmp .lt 12, 3) := by decide +kernel
theorem dX4_isIn_5 : decode cX4_isIn 5 = .ok (.iload_n 0, 1) := by decide +kernel
theorem dX4_isIn_6 : decode cX4_isIn 6 = .ok (.iload_n 2, 1) := by decide +kernel
theorem dX4_isIn_7 : decode cX4_isIn 7 = .ok (.if_icmp .gt 7, 3) := by decide +kernel
theorem dX4_isIn_10 : decode cX4_isIn 10 = .ok (.iconst 1, 1) := by decide +kernel
theorem dX4_isIn_11 : decode cX4_isIn 11 = .ok (.goto 4, 3) := by decide +kernel
theorem dX4_isIn_14 : decode cX4_isIn 14 = .ok (.iconst 0, 1) := by decide +kernel
theorem dX4_isIn_15 : decode cX4_isIn 15 = .ok (.ireturn, 1) := by decide +kernel
set_option maxRecDepth 20000 in
theorem ggX4_isVersion_X4_isIn : GoodIn wsX4_isVersion wsX4_isIn := goodIn_r _ [5] (by decide +kernel) (by decide +kernel)
set_option maxRecDepth 20000 in
theorem gX4_isVersion_X4_isIn : GoodIn wsX4_isVersion (va_wsS RX4 51 yX4_isIn wsX4_isIn) := goodIn_app (goodIn_of _ (by decide +kernel)) ggX4_isVersion_X4_isIn
theorem dX4_isVersion_0 : decode cX4_isVersion 0 = .ok (.iload_n 1, 1) := by decide +kernel
theorem dX4_isVersion_1 : decode cX4_isVersion 1 = .ok (.iconst 0, 1) := by decide +kernel
theorem dX4_isVersion_2 : decode cX4_isVersion 2 = .ok (.aload_n 0, 1) := by decide +kernel
theorem dX4_isVersion_3 : decode cX4_isVersion 3 = .ok (.getfield 48, 3) := by decide +kernel
theorem dX4_isVersion_6 : decode cX4_isVersion 6 = .ok (.iconst 1, 1) := by decide +kernel
theorem dX4_isVersion_7 : decode cX4_isVersion 7 = .ok (.isub, 1) := by decide +kernel
theorem dX4_isVersion_8 : decode cX4_isVersion 8 = .ok (.invokestatic 51, 3) := by decide +kernel
theorem dX4_isVersion_11 : decode cX4_isVersion 11 = .ok (.ireturn, 1) := by decide +kernel
set_option maxRecDepth 20000 in
theorem ggX4_isNote_X4_isVersion : GoodIn wsX4_isNote wsX4_isVersion := goodIn_r _ [6, 7, 8, 9, 5, 10, 11, 12, 13, 14, 15, 16, 17, 18, 19, 20, 21, 22, 23, 24] (by decide +kernel) (by decide +kernel)
set_option maxRecDepth 20000 in
theorem gX4_isNote_X4_isVersion : GoodIn wsX4_isNote (wsV RX4 55 RX4 yX4_isVersion wsX4_isVersion) := goodIn_app (goodIn_of _ (by decide +kernel)) ggX4_isNote_X4_isVersion
set_option maxRecDepth 20000 in
theorem ggX4_isNote_X4_isIn : GoodIn wsX4_isNote wsX4_isIn := goodIn_r _ [10] (by decide +kernel) (by decide +kernel)
set_option maxRecDepth 20000 in
theorem gX4_isNote_X4_isIn : GoodIn wsX4_isNote (va_wsS RX4 51 yX4_isIn wsX4_isIn) := goodIn_app (goodIn_of _ (by decide +kernel)) ggX4_isNote_X4_isIn
theorem dX4_isNote_0 : decode cX4_isNote 0 = .ok (.aload_n 0, 1) := by decide +kernel
theorem dX4_isNote_1 : decode cX4_isNote 1 = .ok (.iload_n 1, 1) := by decide +kernel
theorem dX4_isNote_2 : decode cX4_isNote 2 = .ok (.invokevirtual 55, 3) := by decide +kernel
theorem dX4_isNote_5 : decode cX4_isNote 5 = .ok (.ifCond .eq 32, 3) := by decide +kernel
theorem dX4_isNote_8 : decode cX4_isNote 8 = .ok (.iload_n 2, 1) := by decide +kernel
theorem dX4_isNote_9 : decode cX4_isNote 9 = .ok (.iconst 0, 1) := by decide +kernel
theorem dX4_isNote_10 : decode cX4_isNote 10 = .ok (.iconst 1, 1) := by decide +kernel
theorem dX4_isNote_11 : decode cX4_isNote 11 = .ok (.invokestatic 51, 3) := by decide +kernel
theorem dX4_isNote_14 : decode cX4_isNote 14 = .ok (.ifCond .eq 23, 3) := by decide +kernel
theorem dX4_isNote_17 : decode cX4_isNote 17 = .ok (.iload_n 3, 1) := by decide +kernel
theorem dX4_isNote_18 : decode cX4_isNote 18 = .ok (.iconst 0, 1) := by decide +kernel
theorem dX4_isNote_19 : decode cX4_isNote 19 = .ok (.aload_n 0, 1) := by decide +kernel
theorem dX4_isNote_20 : decode cX4_isNote 20 = .ok (.getfield 7, 3) := by decide +kernel
theorem dX4_isNote_23 : decode cX4_isNote 23 = .ok (.iload_n 1, 1) := by decide +kernel
theorem dX4_isNote_24 : decode cX4_isNote 24 = .ok (.iaload, 1) := by decide +kernel
theorem dX4_isNote_25 : decode cX4_isNote 25 = .ok (.iconst 1, 1) := by decide +kernel
theorem dX4_isNote_26 : decode cX4_isNote 26 = .ok (.isub, 1) := by decide +kernel
theorem dX4_isNote_27 : decode cX4_isNote 27 = .ok (.invokestatic 51, 3) := by decide +kernel
theorem dX4_isNote_30 : decode cX4_isNote 30 = .ok (.ifCond .eq 7, 3) := by decide +kernel
theorem dX4_isNote_33 : decode cX4_isNote 33 = .ok (.iconst 1, 1) := by decide +kernel
theorem dX4_isNote_34 : decode cX4_isNote 34 = .ok (.goto 4, 3) := by decide +kernel
theorem dX4_isNote_37 : decode cX4_isNote 37 = .ok (.iconst 0, 1) := by decide +kernel
theorem dX4_isNote_38 : decode cX4_isNote 38 = .ok (.ireturn, 1) := by decide +kernel
theorem dX4_at_0 : decode cX4_at 0 = .ok (.bipush 12, 2) := by decide +kernel
theorem dX4_at_2 : decode cX4_at 2 = .ok (.iconst 2, 1) := by decide +kernel
theorem dX4_at_3 : decode cX4_at 3 = .ok (.iload_n 0, 1) := by decide +kernel
theorem dX4_at_4 : decode cX4_at 4 = .ok (.imul, 1) := by decide +kernel
theorem dX4_at_5 : decode cX4_at 5 = .ok (.iload_n 1, 1) := by decide +kernel
theorem dX4_at_6 : decode cX4_at 6 = .ok (.iadd, 1) := by decide +kernel
theorem dX4_at_7 : decode cX4_at 7 = .ok (.imul, 1) := by decide +kernel
theorem dX4_at_8 : decode cX4_at 8 = .ok (.iload_n 2, 1) := by decide +kernel
theorem dX4_at_9 : decode cX4_at 9 = .ok (.iadd, 1) := by decide +kernel
theorem dX4_at_10 : decode cX4_at 10 = .ok (.ireturn, 1) := by decide +kernel
set_option maxRecDepth 20000 in
theorem ggX4_begin_X4_isIn : GoodIn wsX4_begin wsX4_isIn := goodIn_r _ [8] (by decide +kernel) (by decide +kernel)
set_option maxRecDepth 20000 in
theorem gX4_begin_X4_isIn : GoodIn wsX4_begin (va_wsS RX4 51 yX4_isIn wsX4_isIn) := goodIn_app (goodIn_of _ (by decide +kernel)) ggX4_begin_X4_isIn
set_option maxRecDepth 20000 in
theorem ggX4_begin_X4_fails : GoodIn wsX4_begin wsX4_fails := goodIn_r _ [12, 13, 17, 18, 19, 20, 21, 22, 23, 24, 25, 26, 27, 28, 29, 30] (by decide +kernel) (by decide +kernel)
set_option maxRecDepth 20000 in
theorem gX4_begin_X4_fails : GoodIn wsX4_begin (wsV RX4 59 RX4 yX4_fails wsX4_fails) := goodIn_app (goodIn_of _ (by decide +kernel)) ggX4_begin_X4_fails
set_option maxRecDepth 20000 in
theorem ggX4_begin_X4_at : GoodIn wsX4_begin wsX4_at := goodIn_r _ [16] (by decide +kernel) (by decide +kernel)
set_option maxRecDepth 20000 in
theorem gX4_begin_X4_at : GoodIn wsX4_begin (va_wsS RX4 62 yX4_at wsX4_at) := goodIn_app (goodIn_of _ (by decide +kernel)) ggX4_begin_X4_at
theorem dX4_begin_0 : decode cX4_begin 0 = .ok (.aload_n 0, 1) := by decide +kernel
theorem dX4_begin_1 : decode cX4_begin 1 = .ok (.iload_n 1, 1) := by decide +kernel
theorem dX4_begin_2 : decode cX4_begin 2 = .ok (.iconst 1, 1) := by decide +kernel
theorem dX4_begin_3 : decode cX4_begin 3 = .ok (.bipush 12, 2) := by decide +kernel
theorem dX4_begin_5 : decode cX4_begin 5 = .ok (.invokestatic 51, 3) := by decide +kernel
theorem dX4_begin_8 : decode cX4_begin 8 = .ok (.ifCond .ne 7, 3) := by decide +kernel
theorem dX4_begin_11 : decode cX4_begin 11 = .ok (.iconst 1, 1) := by decide +kernel
theorem dX4_begin_12 : decode cX4_begin 12 = .ok (.goto 17, 3) := by decide +kernel
theorem dX4_begin_15 : decode cX4_begin 15 = .ok (.aload_n 0, 1) := by decide +kernel
theorem dX4_begin_16 : decode cX4_begin 16 = .ok (.getfield 48, 3) := by decide +kernel
theorem dX4_begin_19 : decode cX4_begin 19 = .ok (.bipush 30, 2) := by decide +kernel
theorem dX4_begin_21 : decode cX4_begin 21 = .ok (.if_icmp .ne 7, 3) := by decide +kernel
theorem dX4_begin_24 : decode cX4_begin 24 = .ok (.iconst 2, 1) := by decide +kernel
theorem dX4_begin_25 : decode cX4_begin 25 = .ok (.goto 4, 3) := by decide +kernel
theorem dX4_begin_28 : decode cX4_begin 28 = .ok (.iconst 0, 1) := by decide +kernel
theorem dX4_begin_29 : decode cX4_begin 29 = .ok (.invokevirtual 59, 3) := by decide +kernel
theorem dX4_begin_32 : decode cX4_begin 32 = .ok (.ifCond .eq 5, 3) := by decide +kernel
theorem dX4_begin_35 : decode cX4_begin 35 = .ok (.iconst 0, 1) := by decide +kernel
theorem dX4_begin_36 : decode cX4_begin 36 = .ok (.ireturn, 1) := by decide +kernel
theorem dX4_begin_37 : decode cX4_begin 37 = .ok (.aload_n 0, 1) := by decide +kernel
theorem dX4_begin_38 : decode cX4_begin 38 = .ok (.getfield 7, 3) := by decide +kernel
theorem dX4_begin_41 : decode cX4_begin 41 = .ok (.aload_n 0, 1) := by decide +kernel
theorem dX4_begin_42 : decode cX4_begin 42 = .ok (.getfield 48, 3) := by decide +kernel
theorem dX4_begin_45 : decode cX4_begin 45 = .ok (.iload_n 1, 1) := by decide +kernel
theorem dX4_begin_46 : decode cX4_begin 46 = .ok (.iastore, 1) := by decide +kernel
theorem dX4_begin_47 : decode cX4_begin 47 = .ok (.aload_n 0, 1) := by decide +kernel
theorem dX4_begin_48 : decode cX4_begin 48 = .ok (.getfield 13, 3) := by decide +kernel
theorem dX4_begin_51 : decode cX4_begin 51 = .ok (.aload_n 0, 1) := by decide +kernel
theorem dX4_begin_52 : decode cX4_begin 52 = .ok (.getfield 48, 3) := by decide +kernel
theorem dX4_begin_55 : decode cX4_begin 55 = .ok (.iconst (-1), 1) := by decide +kernel
theorem dX4_begin_56 : decode cX4_begin 56 = .ok (.iastore, 1) := by decide +kernel
theorem dX4_begin_57 : decode cX4_begin 57 = .ok (.iconst 0, 1) := by decide +kernel
theorem dX4_begin_58 : decode cX4_begin 58 = .ok (.istore_n 2, 1) := by decide +kernel
theorem dX4_begin_59 : decode cX4_begin 59 = .ok (.iload_n 2, 1) := by decide +kernel
theorem dX4_begin_60 : decode cX4_begin 60 = .ok (.bipush 24, 2) := by decide +kernel
theorem dX4_begin_62 : decode cX4_begin 62 = .ok (.if_icmp .ge 25, 3) := by decide +kernel
theorem dX4_begin_65 : decode cX4_begin 65 = .ok (.aload_n 0, 1) := by decide +kernel
theorem dX4_begin_66 : decode cX4_begin 66 = .ok (.getfield 23, 3) := by decide +kernel
theorem dX4_begin_69 : decode cX4_begin 69 = .ok (.aload_n 0, 1) := by decide +kernel
theorem dX4_begin_70 : decode cX4_begin 70 = .ok (.getfield 48, 3) := by decide +kernel
theorem dX4_begin_73 : decode cX4_begin 73 = .ok (.iconst 0, 1) := by decide +kernel
theorem dX4_begin_74 : decode cX4_begin 74 = .ok (.iload_n 2, 1) := by decide +kernel
theorem dX4_begin_75 : decode cX4_begin 75 = .ok (.invokestatic 62, 3) := by decide +kernel
theorem dX4_begin_78 : decode cX4_begin 78 = .ok (.bipush 20, 2) := by decide +kernel
theorem dX4_begin_80 : decode cX4_begin 80 = .ok (.iastore, 1) := by decide +kernel
theorem dX4_begin_81 : decode cX4_begin 81 = .ok (.iinc 2 1, 3) := by decide +kernel
theorem dX4_begin_84 : decode cX4_begin 84 = .ok (.goto (-25), 3) := by decide +kernel
theorem dX4_begin_87 : decode cX4_begin 87 = .ok (.aload_n 0, 1) := by decide +kernel
theorem dX4_begin_88 : decode cX4_begin 88 = .ok (.dup, 1) := by decide +kernel
theorem dX4_begin_89 : decode cX4_begin 89 = .ok (.getfield 48, 3) := by decide +kernel
theorem dX4_begin_92 : decode cX4_begin 92 = .ok (.iconst 1, 1) := by decide +kernel
theorem dX4_begin_93 : decode cX4_begin 93 = .ok (.iadd, 1) := by decide +kernel
theorem dX4_begin_94 : decode cX4_begin 94 = .ok (.putfield 48, 3) := by decide +kernel
theorem dX4_begin_97 : decode cX4_begin 97 = .ok (.aload_n 0, 1) := by decide +kernel
theorem dX4_begin_98 : decode cX4_begin 98 = .ok (.getfield 48, 3) := by decide +kernel
theorem dX4_begin_101 : decode cX4_begin 101 = .ok (.iconst 1, 1) := by decide +kernel
theorem dX4_begin_102 : decode cX4_begin 102 = .ok (.isub, 1) := by decide +kernel
theorem dX4_begin_103 : decode cX4_begin 103 = .ok (.ireturn, 1) := by decide +kernel
set_option maxRecDepth 20000 in
theorem ggX4_makes_X4_at : GoodIn wsX4_makes wsX4_at := goodIn_r _ [9] (by decide +kernel) (by decide +kernel)
set_option maxRecDepth 20000 in
theorem gX4_makes_X4_at : GoodIn wsX4_makes (va_wsS RX4 62 yX4_at wsX4_at) := goodIn_app (goodIn_of _ (by decide +kernel)) ggX4_makes_X4_at
theorem dX4_makes_0 : decode cX4_makes 0 = .ok (.aload_n 0, 1) := by decide +kernel
theorem dX4_makes_1 : decode cX4_makes 1 = .ok (.getfield 7, 3) := by decide +kernel
theorem dX4_makes_4 : decode cX4_makes 4 = .ok (.aload_n 0, 1) := by decide +kernel
theorem dX4_makes_5 : decode cX4_makes 5 = .ok (.getfield 48, 3) := by decide +kernel
theorem dX4_makes_8 : decode cX4_makes 8 = .ok (.aload_n 0, 1) := by decide +kernel
theorem dX4_makes_9 : decode cX4_makes 9 = .ok (.getfield 7, 3) := by decide +kernel
theorem dX4_makes_12 : decode cX4_makes 12 = .ok (.iload_n 1, 1) := by decide +kernel
theorem dX4_makes_13 : decode cX4_makes 13 = .ok (.iaload, 1) := by decide +kernel
theorem dX4_makes_14 : decode cX4_makes 14 = .ok (.iastore, 1) := by decide +kernel
theorem dX4_makes_15 : decode cX4_makes 15 = .ok (.aload_n 0, 1) := by decide +kernel
theorem dX4_makes_16 : decode cX4_makes 16 = .ok (.getfield 13, 3) := by decide +kernel
theorem dX4_makes_19 : decode cX4_makes 19 = .ok (.aload_n 0, 1) := by decide +kernel
theorem dX4_makes_20 : decode cX4_makes 20 = .ok (.getfield 48, 3) := by decide +kernel
theorem dX4_makes_23 : decode cX4_makes 23 = .ok (.iload_n 1, 1) := by decide +kernel
theorem dX4_makes_24 : decode cX4_makes 24 = .ok (.iastore, 1) := by decide +kernel
theorem dX4_makes_25 : decode cX4_makes 25 = .ok (.iconst 0, 1) := by decide +kernel
theorem dX4_makes_26 : decode cX4_makes 26 = .ok (.istore_n 2, 1) := by decide +kernel
theorem dX4_makes_27 : decode cX4_makes 27 = .ok (.iload_n 2, 1) := by decide +kernel
theorem dX4_makes_28 : decode cX4_makes 28 = .ok (.bipush 24, 2) := by decide +kernel
theorem dX4_makes_30 : decode cX4_makes 30 = .ok (.if_icmp .ge 34, 3) := by decide +kernel
theorem dX4_makes_33 : decode cX4_makes 33 = .ok (.aload_n 0, 1) := by decide +kernel
theorem dX4_makes_34 : decode cX4_makes 34 = .ok (.getfield 23, 3) := by decide +kernel
theorem dX4_makes_37 : decode cX4_makes 37 = .ok (.aload_n 0, 1) := by decide +kernel
theorem dX4_makes_38 : decode cX4_makes 38 = .ok (.getfield 48, 3) := by decide +kernel
theorem dX4_makes_41 : decode cX4_makes 41 = .ok (.iconst 0, 1) := by decide +kernel
theorem dX4_makes_42 : decode cX4_makes 42 = .ok (.iload_n 2, 1) := by decide +kernel
theorem dX4_makes_43 : decode cX4_makes 43 = .ok (.invokestatic 62, 3) := by decide +kernel
theorem dX4_makes_46 : decode cX4_makes 46 = .ok (.aload_n 0, 1) := by decide +kernel
theorem dX4_makes_47 : decode cX4_makes 47 = .ok (.getfield 23, 3) := by decide +kernel
theorem dX4_makes_50 : decode cX4_makes 50 = .ok (.iload_n 1, 1) := by decide +kernel
theorem dX4_makes_51 : decode cX4_makes 51 = .ok (.iconst 0, 1) := by decide +kernel
theorem dX4_makes_52 : decode cX4_makes 52 = .ok (.iload_n 2, 1) := by decide +kernel
theorem dX4_makes_53 : decode cX4_makes 53 = .ok (.invokestatic 62, 3) := by decide +kernel
theorem dX4_makes_56 : decode cX4_makes 56 = .ok (.iaload, 1) := by decide +kernel
theorem dX4_makes_57 : decode cX4_makes 57 = .ok (.iastore, 1) := by decide +kernel
theorem dX4_makes_58 : decode cX4_makes 58 = .ok (.iinc 2 1, 3) := by decide +kernel
theorem dX4_makes_61 : decode cX4_makes 61 = .ok (.goto (-34), 3) := by decide +kernel
theorem dX4_makes_64 : decode cX4_makes 64 = .ok (.aload_n 0, 1) := by decide +kernel
theorem dX4_makes_65 : decode cX4_makes 65 = .ok (.getfield 16, 3) := by decide +kernel
theorem dX4_makes_68 : decode cX4_makes 68 = .ok (.iload_n 1, 1) := by decide +kernel
theorem dX4_makes_69 : decode cX4_makes 69 = .ok (.iconst 1, 1) := by decide +kernel
theorem dX4_makes_70 : decode cX4_makes 70 = .ok (.bastore, 1) := by decide +kernel
theorem dX4_makes_71 : decode cX4_makes 71 = .ok (.aload_n 0, 1) := by decide +kernel
theorem dX4_makes_72 : decode cX4_makes 72 = .ok (.dup, 1) := by decide +kernel
theorem dX4_makes_73 : decode cX4_makes 73 = .ok (.getfield 48, 3) := by decide +kernel
theorem dX4_makes_76 : decode cX4_makes 76 = .ok (.iconst 1, 1) := by decide +kernel
theorem dX4_makes_77 : decode cX4_makes 77 = .ok (.iadd, 1) := by decide +kernel
theorem dX4_makes_78 : decode cX4_makes 78 = .ok (.putfield 48, 3) := by decide +kernel
theorem dX4_makes_81 : decode cX4_makes 81 = .ok (.aload_n 0, 1) := by decide +kernel
theorem dX4_makes_82 : decode cX4_makes 82 = .ok (.getfield 48, 3) := by decide +kernel
theorem dX4_makes_85 : decode cX4_makes 85 = .ok (.iconst 1, 1) := by decide +kernel
theorem dX4_makes_86 : decode cX4_makes 86 = .ok (.isub, 1) := by decide +kernel
theorem dX4_makes_87 : decode cX4_makes 87 = .ok (.ireturn, 1) := by decide +kernel
set_option maxRecDepth 20000 in
theorem ggX4_branch_X4_isVersion : GoodIn wsX4_branch wsX4_isVersion := goodIn_r _ [6, 1, 7, 8, 5, 9, 26, 27, 28, 29, 30, 31, 32, 33, 34, 35, 36, 37, 38, 39] (by decide +kernel) (by decide +kernel)
set_option maxRecDepth 20000 in
theorem gX4_branch_X4_isVersion : GoodIn wsX4_branch (wsV RX4 55 RX4 yX4_isVersion wsX4_isVersion) := goodIn_app (goodIn_of _ (by decide +kernel)) ggX4_branch_X4_isVersion
set_option maxRecDepth 20000 in
theorem ggX4_branch_X4_fails : GoodIn wsX4_branch wsX4_fails := goodIn_r _ [13, 14, 26, 27, 28, 29, 30, 31, 32, 33, 34, 35, 36, 37, 38, 39] (by decide +kernel) (by decide +kernel)
set_option maxRecDepth 20000 in
theorem gX4_branch_X4_fails : GoodIn wsX4_branch (wsV RX4 59 RX4 yX4_fails wsX4_fails) := goodIn_app (goodIn_of _ (by decide +kernel)) ggX4_branch_X4_fails
set_option maxRecDepth 20000 in
theorem ggX4_branch_X4_makes : GoodIn wsX4_branch wsX4_makes := goodIn_r _ [18, 19, 1, 20, 21, 22, 23, 24, 5, 25, 26, 27, 28, 29, 30, 31, 32, 33, 34, 35, 36, 37, 38, 39] (by decide +kernel) (by decide +kernel)
set_option maxRecDepth 20000 in
theorem gX4_branch_X4_makes : GoodIn wsX4_branch (wsV RX4 66 RX4 yX4_makes wsX4_makes) := goodIn_app (goodIn_of _ (by decide +kernel)) ggX4_branch_X4_makes
theorem dX4_branch_0 : decode cX4_branch 0 = .ok (.aload_n 0, 1) := by decide +kernel
theorem dX4_branch_1 : decode cX4_branch 1 = .ok (.aload_n 0, 1) := by decide +kernel
theorem dX4_branch_2 : decode cX4_branch 2 = .ok (.iload_n 1, 1) := by decide +kernel
theorem dX4_branch_3 : decode cX4_branch 3 = .ok (.invokevirtual 55, 3) := by decide +kernel
theorem dX4_branch_6 : decode cX4_branch 6 = .ok (.ifCond .ne 7, 3) := by decide +kernel
theorem dX4_branch_9 : decode cX4_branch 9 = .ok (.iconst 1, 1) := by decide +kernel
theorem dX4_branch_10 : decode cX4_branch 10 = .ok (.goto 17, 3) := by decide +kernel
theorem dX4_branch_13 : decode cX4_branch 13 = .ok (.aload_n 0, 1) := by decide +kernel
theorem dX4_branch_14 : decode cX4_branch 14 = .ok (.getfield 48, 3) := by decide +kernel
theorem dX4_branch_17 : decode cX4_branch 17 = .ok (.bipush 30, 2) := by decide +kernel
theorem dX4_branch_19 : decode cX4_branch 19 = .ok (.if_icmp .ne 7, 3) := by decide +kernel
theorem dX4_branch_22 : decode cX4_branch 22 = .ok (.iconst 2, 1) := by decide +kernel
theorem dX4_branch_23 : decode cX4_branch 23 = .ok (.goto 4, 3) := by decide +kernel
theorem dX4_branch_26 : decode cX4_branch 26 = .ok (.iconst 0, 1) := by decide +kernel
theorem dX4_branch_27 : decode cX4_branch 27 = .ok (.invokevirtual 59, 3) := by decide +kernel
theorem dX4_branch_30 : decode cX4_branch 30 = .ok (.ifCond .eq 5, 3) := by decide +kernel
theorem dX4_branch_33 : decode cX4_branch 33 = .ok (.iconst 0, 1) := by decide +kernel
theorem dX4_branch_34 : decode cX4_branch 34 = .ok (.ireturn, 1) := by decide +kernel
theorem dX4_branch_35 : decode cX4_branch 35 = .ok (.aload_n 0, 1) := by decide +kernel
theorem dX4_branch_36 : decode cX4_branch 36 = .ok (.iload_n 1, 1) := by decide +kernel
theorem dX4_branch_37 : decode cX4_branch 37 = .ok (.invokevirtual 66, 3) := by decide +kernel
theorem dX4_branch_40 : decode cX4_branch 40 = .ok (.ireturn, 1) := by decide +kernel
set_option maxRecDepth 20000 in
theorem ggX4_setNote_X4_isNote : GoodIn wsX4_setNote wsX4_isNote := goodIn_r _ [7, 8, 9, 10, 11, 6, 12, 13, 14, 15, 16, 25, 26, 27, 28, 29, 30, 31, 32, 33, 34, 35, 36, 37, 38] (by decide +kernel) (by decide +kernel)
set_option maxRecDepth 20000 in
theorem gX4_setNote_X4_isNote : GoodIn wsX4_setNote (wsV RX4 70 RX4 yX4_isNote wsX4_isNote) := goodIn_app (goodIn_of _ (by decide +kernel)) ggX4_setNote_X4_isNote
set_option maxRecDepth 20000 in
theorem ggX4_setNote_X4_isIn : GoodIn wsX4_setNote wsX4_isIn := goodIn_r _ [16] (by decide +kernel) (by decide +kernel)
set_option maxRecDepth 20000 in
theorem gX4_setNote_X4_isIn : GoodIn wsX4_setNote (va_wsS RX4 51 yX4_isIn wsX4_isIn) := goodIn_app (goodIn_of _ (by decide +kernel)) ggX4_setNote_X4_isIn
set_option maxRecDepth 20000 in
theorem ggX4_setNote_X4_fails : GoodIn wsX4_setNote wsX4_fails := goodIn_r _ [20, 21, 25, 26, 27, 28, 29, 30, 31, 32, 33, 34, 35, 36, 37, 38] (by decide +kernel) (by decide +kernel)
set_option maxRecDepth 20000 in
theorem gX4_setNote_X4_fails : GoodIn wsX4_setNote (wsV RX4 59 RX4 yX4_fails wsX4_fails) := goodIn_app (goodIn_of _ (by decide +kernel)) ggX4_setNote_X4_fails
set_option maxRecDepth 20000 in
theorem ggX4_setNote_X4_at : GoodIn wsX4_setNote wsX4_at := goodIn_r _ [24] (by decide +kernel) (by decide +kernel)
set_option maxRecDepth 20000 in
theorem gX4_setNote_X4_at : GoodIn wsX4_setNote (va_wsS RX4 62 yX4_at wsX4_at) := goodIn_app (goodIn_of _ (by decide +kernel)) ggX4_setNote_X4_at
theorem dX4_setNote_0 : decode cX4_setNote 0 = .ok (.aload_n 0, 1) := by decide +kernel
theorem dX4_setNote_1 : decode cX4_setNote 1 = .ok (.iload_n 1, 1) := by decide +kernel
theorem dX4_setNote_2 : decode cX4_setNote 2 = .ok (.iload_n 2, 1) := by decide +kernel
theorem dX4_setNote_3 : decode cX4_setNote 3 = .ok (.iload_n 3, 1) := by decide +kernel
theorem dX4_setNote_4 : decode cX4_setNote 4 = .ok (.invokevirtual 70, 3) := by decide +kernel
theorem dX4_setNote_7 : decode cX4_setNote 7 = .ok (.istore 5, 2) := by decide +kernel
theorem dX4_setNote_9 : decode cX4_setNote 9 = .ok (.aload_n 0, 1) := by decide +kernel
theorem dX4_setNote_10 : decode cX4_setNote 10 = .ok (.iload 5, 2) := by decide +kernel
theorem dX4_setNote_12 : decode cX4_setNote 12 = .ok (.ifCond .ne 7, 3) := by decide +kernel
theorem dX4_setNote_15 : decode cX4_setNote 15 = .ok (.iconst 1, 1) := by decide +kernel
theorem dX4_setNote_16 : decode cX4_setNote 16 = .ok (.goto 32, 3) := by decide +kernel
theorem dX4_setNote_19 : decode cX4_setNote 19 = .ok (.iload 4, 2) := by decide +kernel
theorem dX4_setNote_21 : decode cX4_setNote 21 = .ok (.iconst 0, 1) := by decide +kernel
theorem dX4_setNote_22 : decode cX4_setNote 22 = .ok (.bipush 40, 2) := by decide +kernel
theorem dX4_setNote_24 : decode cX4_setNote 24 = .ok (.invokestatic 51, 3) := by decide +kernel
theorem dX4_setNote_27 : decode cX4_setNote 27 = .ok (.ifCond .ne 7, 3) := by decide +kernel
theorem dX4_setNote_30 : decode cX4_setNote 30 = .ok (.iconst 2, 1) := by decide +kernel
theorem dX4_setNote_31 : decode cX4_setNote 31 = .ok (.goto 17, 3) := by decide +kernel
theorem dX4_setNote_34 : decode cX4_setNote 34 = .ok (.aload_n 0, 1) := by decide +kernel
theorem dX4_setNote_35 : decode cX4_setNote 35 = .ok (.getfield 16, 3) := by decide +kernel
theorem dX4_setNote_38 : decode cX4_setNote 38 = .ok (.iload_n 1, 1) := by decide +kernel
theorem dX4_setNote_39 : decode cX4_setNote 39 = .ok (.baload, 1) := by decide +kernel
theorem dX4_setNote_40 : decode cX4_setNote 40 = .ok (.ifCond .eq 7, 3) := by decide +kernel
theorem dX4_setNote_43 : decode cX4_setNote 43 = .ok (.iconst 3, 1) := by decide +kernel
theorem dX4_setNote_44 : decode cX4_setNote 44 = .ok (.goto 4, 3) := by decide +kernel
theorem dX4_setNote_47 : decode cX4_setNote 47 = .ok (.iconst 0, 1) := by decide +kernel
theorem dX4_setNote_48 : decode cX4_setNote 48 = .ok (.invokevirtual 59, 3) := by decide +kernel
theorem dX4_setNote_51 : decode cX4_setNote 51 = .ok (.ifCond .eq 5, 3) := by decide +kernel
theorem dX4_setNote_54 : decode cX4_setNote 54 = .ok (.iconst 0, 1) := by decide +kernel
theorem dX4_setNote_55 : decode cX4_setNote 55 = .ok (.ireturn, 1) := by decide +kernel
theorem dX4_setNote_56 : decode cX4_setNote 56 = .ok (.aload_n 0, 1) := by decide +kernel
theorem dX4_setNote_57 : decode cX4_setNote 57 = .ok (.getfield 23, 3) := by decide +kernel
theorem dX4_setNote_60 : decode cX4_setNote 60 = .ok (.iload_n 1, 1) := by decide +kernel
theorem dX4_setNote_61 : decode cX4_setNote 61 = .ok (.iload_n 2, 1) := by decide +kernel
theorem dX4_setNote_62 : decode cX4_setNote 62 = .ok (.iload_n 3, 1) := by decide +kernel
theorem dX4_setNote_63 : decode cX4_setNote 63 = .ok (.invokestatic 62, 3) := by decide +kernel
theorem dX4_setNote_66 : decode cX4_setNote 66 = .ok (.iaload, 1) := by decide +kernel
theorem dX4_setNote_67 : decode cX4_setNote 67 = .ok (.istore 6, 2) := by decide +kernel
theorem dX4_setNote_69 : decode cX4_setNote 69 = .ok (.aload_n 0, 1) := by decide +kernel
theorem dX4_setNote_70 : decode cX4_setNote 70 = .ok (.getfield 23, 3) := by decide +kernel
theorem dX4_setNote_73 : decode cX4_setNote 73 = .ok (.iload_n 1, 1) := by decide +kernel
theorem dX4_setNote_74 : decode cX4_setNote 74 = .ok (.iload_n 2, 1) := by decide +kernel
theorem dX4_setNote_75 : decode cX4_setNote 75 = .ok (.iload_n 3, 1) := by decide +kernel
theorem dX4_setNote_76 : decode cX4_setNote 76 = .ok (.invokestatic 62, 3) := by decide +kernel
theorem dX4_setNote_79 : decode cX4_setNote 79 = .ok (.iload 4, 2) := by decide +kernel
theorem dX4_setNote_81 : decode cX4_setNote 81 = .ok (.iastore, 1) := by decide +kernel
theorem dX4_setNote_82 : decode cX4_setNote 82 = .ok (.iload 6, 2) := by decide +kernel
theorem dX4_setNote_84 : decode cX4_setNote 84 = .ok (.ireturn, 1) := by decide +kernel
set_option maxRecDepth 20000 in
theorem ggX4_note_X4_isNote : GoodIn wsX4_note wsX4_isNote := goodIn_r _ [6, 7, 8, 9, 10, 5, 11, 12, 13, 14, 15, 24, 25, 26, 27, 28, 29, 30, 31, 32, 33, 34, 35, 36, 37] (by decide +kernel) (by decide +kernel)
set_option maxRecDepth 20000 in
theorem gX4_note_X4_isNote : GoodIn wsX4_note (wsV RX4 70 RX4 yX4_isNote wsX4_isNote) := goodIn_app (goodIn_of _ (by decide +kernel)) ggX4_note_X4_isNote
set_option maxRecDepth 20000 in
theorem ggX4_note_X4_fails : GoodIn wsX4_note wsX4_fails := goodIn_r _ [19, 20, 24, 25, 26, 27, 28, 29, 30, 31, 32, 33, 34, 35, 36, 37] (by decide +kernel) (by decide +kernel)
set_option maxRecDepth 20000 in
theorem gX4_note_X4_fails : GoodIn wsX4_note (wsV RX4 59 RX4 yX4_fails wsX4_fails) := goodIn_app (goodIn_of _ (by decide +kernel)) ggX4_note_X4_fails
set_option maxRecDepth 20000 in
theorem ggX4_note_X4_at : GoodIn wsX4_note wsX4_at := goodIn_r _ [23] (by decide +kernel) (by decide +kernel)
set_option maxRecDepth 20000 in
theorem gX4_note_X4_at : GoodIn wsX4_note (va_wsS RX4 62 yX4_at wsX4_at) := goodIn_app (goodIn_of _ (by decide +kernel)) ggX4_note_X4_at
theorem dX4_note_0 : decode cX4_note 0 = .ok (.aload_n 0, 1) := by decide +kernel
theorem dX4_note_1 : decode cX4_note 1 = .ok (.aload_n 0, 1) := by decide +kernel
theorem dX4_note_2 : decode cX4_note 2 = .ok (.iload_n 1, 1) := by decide +kernel
theorem dX4_note_3 : decode cX4_note 3 = .ok (.iload_n 2, 1) := by decide +kernel
theorem dX4_note_4 : decode cX4_note 4 = .ok (.iload_n 3, 1) := by decide +kernel
theorem dX4_note_5 : decode cX4_note 5 = .ok (.invokevirtual 70, 3) := by decide +kernel
theorem dX4_note_8 : decode cX4_note 8 = .ok (.ifCond .eq 7, 3) := by decide +kernel
theorem dX4_note_11 : decode cX4_note 11 = .ok (.iconst 0, 1) := by decide +kernel
theorem dX4_note_12 : decode cX4_note 12 = .ok (.goto 4, 3) := by decide +kernel
theorem dX4_note_15 : decode cX4_note 15 = .ok (.iconst 1, 1) := by decide +kernel
theorem dX4_note_16 : decode cX4_note 16 = .ok (.invokevirtual 59, 3) := by decide +kernel
theorem dX4_note_19 : decode cX4_note 19 = .ok (.ifCond .eq 7, 3) := by decide +kernel
theorem dX4_note_22 : decode cX4_note 22 = .ok (.iconst 0, 1) := by decide +kernel
theorem dX4_note_23 : decode cX4_note 23 = .ok (.goto 14, 3) := by decide +kernel
theorem dX4_note_26 : decode cX4_note 26 = .ok (.aload_n 0, 1) := by decide +kernel
theorem dX4_note_27 : decode cX4_note 27 = .ok (.getfield 23, 3) := by decide +kernel
theorem dX4_note_30 : decode cX4_note 30 = .ok (.iload_n 1, 1) := by decide +kernel
theorem dX4_note_31 : decode cX4_note 31 = .ok (.iload_n 2, 1) := by decide +kernel
theorem dX4_note_32 : decode cX4_note 32 = .ok (.iload_n 3, 1) := by decide +kernel
theorem dX4_note_33 : decode cX4_note 33 = .ok (.invokestatic 62, 3) := by decide +kernel
theorem dX4_note_36 : decode cX4_note 36 = .ok (.iaload, 1) := by decide +kernel
theorem dX4_note_37 : decode cX4_note 37 = .ok (.ireturn, 1) := by decide +kernel
theorem dX4_isAncestor_0 : decode cX4_isAncestor 0 = .ok (.iconst 0, 1) := by decide +kernel
theorem dX4_isAncestor_1 : decode cX4_isAncestor 1 = .ok (.istore_n 3, 1) := by decide +kernel
theorem dX4_isAncestor_2 : decode cX4_isAncestor 2 = .ok (.iload_n 2, 1) := by decide +kernel
theorem dX4_isAncestor_3 : decode cX4_isAncestor 3 = .ok (.istore 4, 2) := by decide +kernel
theorem dX4_isAncestor_5 : decode cX4_isAncestor 5 = .ok (.iload 4, 2) := by decide +kernel
theorem dX4_isAncestor_7 : decode cX4_isAncestor 7 = .ok (.iconst (-1), 1) := by decide +kernel
theorem dX4_isAncestor_8 : decode cX4_isAncestor 8 = .ok (.if_icmp .eq 31, 3) := by decide +kernel
theorem dX4_isAncestor_11 : decode cX4_isAncestor 11 = .ok (.iload_n 3, 1) := by decide +kernel
theorem dX4_isAncestor_12 : decode cX4_isAncestor 12 = .ok (.ifCond .ne 9, 3) := by decide +kernel
theorem dX4_isAncestor_15 : decode cX4_isAncestor 15 = .ok (.iload 4, 2) := by decide +kernel
theorem dX4_isAncestor_17 : decode cX4_isAncestor 17 = .ok (.iload_n 1, 1) := by decide +kernel
theorem dX4_isAncestor_18 : decode cX4_isAncestor 18 = .ok (.if_icmp .ne 7, 3) := by decide +kernel
theorem dX4_isAncestor_21 : decode cX4_isAncestor 21 = .ok (.iconst 1, 1) := by decide +kernel
theorem dX4_isAncestor_22 : decode cX4_isAncestor 22 = .ok (.goto 4, 3) := by decide +kernel
theorem dX4_isAncestor_25 : decode cX4_isAncestor 25 = .ok (.iconst 0, 1) := by decide +kernel
theorem dX4_isAncestor_26 : decode cX4_isAncestor 26 = .ok (.istore_n 3, 1) := by decide +kernel
theorem dX4_isAncestor_27 : decode cX4_isAncestor 27 = .ok (.aload_n 0, 1) := by decide +kernel
theorem dX4_isAncestor_28 : decode cX4_isAncestor 28 = .ok (.getfield 13, 3) := by decide +kernel
theorem dX4_isAncestor_31 : decode cX4_isAncestor 31 = .ok (.iload 4, 2) := by decide +kernel
theorem dX4_isAncestor_33 : decode cX4_isAncestor 33 = .ok (.iaload, 1) := by decide +kernel
theorem dX4_isAncestor_34 : decode cX4_isAncestor 34 = .ok (.istore 4, 2) := by decide +kernel
theorem dX4_isAncestor_36 : decode cX4_isAncestor 36 = .ok (.goto (-31), 3) := by decide +kernel
theorem dX4_isAncestor_39 : decode cX4_isAncestor 39 = .ok (.iload_n 3, 1) := by decide +kernel
theorem dX4_isAncestor_40 : decode cX4_isAncestor 40 = .ok (.ireturn, 1) := by decide +kernel
set_option maxRecDepth 20000 in
theorem ggX4_baseOf_X4_isAncestor : GoodIn wsX4_baseOf wsX4_isAncestor := goodIn_r _ [6, 7, 8, 9, 10, 11, 12, 13, 14, 15, 16, 17, 18, 19, 20, 21] (by decide +kernel) (by decide +kernel)
set_option maxRecDepth 20000 in
theorem gX4_baseOf_X4_isAncestor : GoodIn wsX4_baseOf (wsV RX4 73 RX4 yX4_isAncestor wsX4_isAncestor) := goodIn_app (goodIn_of _ (by decide +kernel)) ggX4_baseOf_X4_isAncestor
theorem dX4_baseOf_0 : decode cX4_baseOf 0 = .ok (.iconst (-1), 1) := by decide +kernel
theorem dX4_baseOf_1 : decode cX4_baseOf 1 = .ok (.istore_n 3, 1) := by decide +kernel
theorem dX4_baseOf_2 : decode cX4_baseOf 2 = .ok (.iconst 0, 1) := by decide +kernel
theorem dX4_baseOf_3 : decode cX4_baseOf 3 = .ok (.istore 4, 2) := by decide +kernel
theorem dX4_baseOf_5 : decode cX4_baseOf 5 = .ok (.iload 4, 2) := by decide +kernel
theorem dX4_baseOf_7 : decode cX4_baseOf 7 = .ok (.aload_n 0, 1) := by decide +kernel
theorem dX4_baseOf_8 : decode cX4_baseOf 8 = .ok (.getfield 48, 3) := by decide +kernel
theorem dX4_baseOf_11 : decode cX4_baseOf 11 = .ok (.if_icmp .ge 36, 3) := by decide +kernel
theorem dX4_baseOf_14 : decode cX4_baseOf 14 = .ok (.aload_n 0, 1) := by decide +kernel
theorem dX4_baseOf_15 : decode cX4_baseOf 15 = .ok (.iload 4, 2) := by decide +kernel
theorem dX4_baseOf_17 : decode cX4_baseOf 17 = .ok (.iload_n 1, 1) := by decide +kernel
theorem dX4_baseOf_18 : decode cX4_baseOf 18 = .ok (.invokevirtual 73, 3) := by decide +kernel
theorem dX4_baseOf_21 : decode cX4_baseOf 21 = .ok (.ifCond .eq 18, 3) := by decide +kernel
theorem dX4_baseOf_24 : decode cX4_baseOf 24 = .ok (.aload_n 0, 1) := by decide +kernel
theorem dX4_baseOf_25 : decode cX4_baseOf 25 = .ok (.iload 4, 2) := by decide +kernel
theorem dX4_baseOf_27 : decode cX4_baseOf 27 = .ok (.iload_n 2, 1) := by decide +kernel
theorem dX4_baseOf_28 : decode cX4_baseOf 28 = .ok (.invokevirtual 73, 3) := by decide +kernel
theorem dX4_baseOf_31 : decode cX4_baseOf 31 = .ok (.ifCond .eq 8, 3) := by decide +kernel
theorem dX4_baseOf_34 : decode cX4_baseOf 34 = .ok (.iload 4, 2) := by decide +kernel
theorem dX4_baseOf_36 : decode cX4_baseOf 36 = .ok (.goto 4, 3) := by decide +kernel
theorem dX4_baseOf_39 : decode cX4_baseOf 39 = .ok (.iload_n 3, 1) := by decide +kernel
theorem dX4_baseOf_40 : decode cX4_baseOf 40 = .ok (.istore_n 3, 1) := by decide +kernel
theorem dX4_baseOf_41 : decode cX4_baseOf 41 = .ok (.iinc 4 1, 3) := by decide +kernel
theorem dX4_baseOf_44 : decode cX4_baseOf 44 = .ok (.goto (-39), 3) := by decide +kernel
theorem dX4_baseOf_47 : decode cX4_baseOf 47 = .ok (.iload_n 3, 1) := by decide +kernel
theorem dX4_baseOf_48 : decode cX4_baseOf 48 = .ok (.ireturn, 1) := by decide +kernel
set_option maxRecDepth 20000 in
theorem ggX4_base_X4_isVersion : GoodIn wsX4_base wsX4_isVersion := goodIn_r _ [5, 6, 7, 8, 4, 9, 24, 25, 26, 27, 28, 29, 30, 31, 32, 33, 34, 35, 36, 37] (by decide +kernel) (by decide +kernel)
set_option maxRecDepth 20000 in
theorem gX4_base_X4_isVersion : GoodIn wsX4_base (wsV RX4 55 RX4 yX4_isVersion wsX4_isVersion) := goodIn_app (goodIn_of _ (by decide +kernel)) ggX4_base_X4_isVersion
set_option maxRecDepth 20000 in
theorem ggX4_base_X4_fails : GoodIn wsX4_base wsX4_fails := goodIn_r _ [13, 14, 24, 25, 26, 27, 28, 29, 30, 31, 32, 33, 34, 35, 36, 37] (by decide +kernel) (by decide +kernel)
set_option maxRecDepth 20000 in
theorem gX4_base_X4_fails : GoodIn wsX4_base (wsV RX4 59 RX4 yX4_fails wsX4_fails) := goodIn_app (goodIn_of _ (by decide +kernel)) ggX4_base_X4_fails
set_option maxRecDepth 20000 in
theorem ggX4_base_X4_baseOf : GoodIn wsX4_base wsX4_baseOf := goodIn_r _ [18, 6, 19, 20, 21, 4, 22, 23, 24, 25, 26, 27, 28, 29, 30, 31, 32, 33, 34, 35, 36, 37] (by decide +kernel) (by decide +kernel)
set_option maxRecDepth 20000 in
theorem gX4_base_X4_baseOf : GoodIn wsX4_base (wsV RX4 77 RX4 yX4_baseOf wsX4_baseOf) := goodIn_app (goodIn_of _ (by decide +kernel)) ggX4_base_X4_baseOf
theorem dX4_base_0 : decode cX4_base 0 = .ok (.aload_n 0, 1) := by decide +kernel
theorem dX4_base_1 : decode cX4_base 1 = .ok (.aload_n 0, 1) := by decide +kernel
theorem dX4_base_2 : decode cX4_base 2 = .ok (.iload_n 1, 1) := by decide +kernel
theorem dX4_base_3 : decode cX4_base 3 = .ok (.invokevirtual 55, 3) := by decide +kernel
theorem dX4_base_6 : decode cX4_base 6 = .ok (.ifCond .eq 15, 3) := by decide +kernel
theorem dX4_base_9 : decode cX4_base 9 = .ok (.aload_n 0, 1) := by decide +kernel
theorem dX4_base_10 : decode cX4_base 10 = .ok (.iload_n 2, 1) := by decide +kernel
theorem dX4_base_11 : decode cX4_base 11 = .ok (.invokevirtual 55, 3) := by decide +kernel
theorem dX4_base_14 : decode cX4_base 14 = .ok (.ifCond .eq 7, 3) := by decide +kernel
theorem dX4_base_17 : decode cX4_base 17 = .ok (.iconst 0, 1) := by decide +kernel
theorem dX4_base_18 : decode cX4_base 18 = .ok (.goto 4, 3) := by decide +kernel
theorem dX4_base_21 : decode cX4_base 21 = .ok (.iconst 1, 1) := by decide +kernel
theorem dX4_base_22 : decode cX4_base 22 = .ok (.invokevirtual 59, 3) := by decide +kernel
theorem dX4_base_25 : decode cX4_base 25 = .ok (.ifCond .eq 7, 3) := by decide +kernel
theorem dX4_base_28 : decode cX4_base 28 = .ok (.iconst 0, 1) := by decide +kernel
theorem dX4_base_29 : decode cX4_base 29 = .ok (.goto 9, 3) := by decide +kernel
theorem dX4_base_32 : decode cX4_base 32 = .ok (.aload_n 0, 1) := by decide +kernel
theorem dX4_base_33 : decode cX4_base 33 = .ok (.iload_n 1, 1) := by decide +kernel
theorem dX4_base_34 : decode cX4_base 34 = .ok (.iload_n 2, 1) := by decide +kernel
theorem dX4_base_35 : decode cX4_base 35 = .ok (.invokevirtual 77, 3) := by decide +kernel
theorem dX4_base_38 : decode cX4_base 38 = .ok (.ireturn, 1) := by decide +kernel
set_option maxRecDepth 20000 in
theorem ggX4_areAlike_X4_at : GoodIn wsX4_areAlike wsX4_at := goodIn_r _ [5] (by decide +kernel) (by decide +kernel)
set_option maxRecDepth 20000 in
theorem gX4_areAlike_X4_at : GoodIn wsX4_areAlike (va_wsS RX4 62 yX4_at wsX4_at) := goodIn_app (goodIn_of _ (by decide +kernel)) ggX4_areAlike_X4_at
theorem dX4_areAlike_0 : decode cX4_areAlike 0 = .ok (.aload_n 0, 1) := by decide +kernel
theorem dX4_areAlike_1 : decode cX4_areAlike 1 = .ok (.getfield 23, 3) := by decide +kernel
theorem dX4_areAlike_4 : decode cX4_areAlike 4 = .ok (.iload_n 1, 1) := by decide +kernel
theorem dX4_areAlike_5 : decode cX4_areAlike 5 = .ok (.iconst 0, 1) := by decide +kernel
theorem dX4_areAlike_6 : decode cX4_areAlike 6 = .ok (.iload_n 3, 1) := by decide +kernel
theorem dX4_areAlike_7 : decode cX4_areAlike 7 = .ok (.invokestatic 62, 3) := by decide +kernel
theorem dX4_areAlike_10 : decode cX4_areAlike 10 = .ok (.iaload, 1) := by decide +kernel
theorem dX4_areAlike_11 : decode cX4_areAlike 11 = .ok (.aload_n 0, 1) := by decide +kernel
theorem dX4_areAlike_12 : decode cX4_areAlike 12 = .ok (.getfield 23, 3) := by decide +kernel
theorem dX4_areAlike_15 : decode cX4_areAlike 15 = .ok (.iload_n 2, 1) := by decide +kernel
theorem dX4_areAlike_16 : decode cX4_areAlike 16 = .ok (.iconst 0, 1) := by decide +kernel
theorem dX4_areAlike_17 : decode cX4_areAlike 17 = .ok (.iload_n 3, 1) := by decide +kernel
theorem dX4_areAlike_18 : decode cX4_areAlike 18 = .ok (.invokestatic 62, 3) := by decide +kernel
theorem dX4_areAlike_21 : decode cX4_areAlike 21 = .ok (.iaload, 1) := by decide +kernel
theorem dX4_areAlike_22 : decode cX4_areAlike 22 = .ok (.if_icmp .ne 32, 3) := by decide +kernel
theorem dX4_areAlike_25 : decode cX4_areAlike 25 = .ok (.aload_n 0, 1) := by decide +kernel
theorem dX4_areAlike_26 : decode cX4_areAlike 26 = .ok (.getfield 23, 3) := by decide +kernel
theorem dX4_areAlike_29 : decode cX4_areAlike 29 = .ok (.iload_n 1, 1) := by decide +kernel
theorem dX4_areAlike_30 : decode cX4_areAlike 30 = .ok (.iconst 1, 1) := by decide +kernel
theorem dX4_areAlike_31 : decode cX4_areAlike 31 = .ok (.iload_n 3, 1) := by decide +kernel
theorem dX4_areAlike_32 : decode cX4_areAlike 32 = .ok (.invokestatic 62, 3) := by decide +kernel
theorem dX4_areAlike_35 : decode cX4_areAlike 35 = .ok (.iaload, 1) := by decide +kernel
theorem dX4_areAlike_36 : decode cX4_areAlike 36 = .ok (.aload_n 0, 1) := by decide +kernel
theorem dX4_areAlike_37 : decode cX4_areAlike 37 = .ok (.getfield 23, 3) := by decide +kernel
theorem dX4_areAlike_40 : decode cX4_areAlike 40 = .ok (.iload_n 2, 1) := by decide +kernel
theorem dX4_areAlike_41 : decode cX4_areAlike 41 = .ok (.iconst 1, 1) := by decide +kernel
theorem dX4_areAlike_42 : decode cX4_areAlike 42 = .ok (.iload_n 3, 1) := by decide +kernel
theorem dX4_areAlike_43 : decode cX4_areAlike 43 = .ok (.invokestatic 62, 3) := by decide +kernel
theorem dX4_areAlike_46 : decode cX4_areAlike 46 = .ok (.iaload, 1) := by decide +kernel
theorem dX4_areAlike_47 : decode cX4_areAlike 47 = .ok (.if_icmp .ne 7, 3) := by decide +kernel
theorem dX4_areAlike_50 : decode cX4_areAlike 50 = .ok (.iconst 1, 1) := by decide +kernel
theorem dX4_areAlike_51 : decode cX4_areAlike 51 = .ok (.goto 4, 3) := by decide +kernel
theorem dX4_areAlike_54 : decode cX4_areAlike 54 = .ok (.iconst 0, 1) := by decide +kernel
theorem dX4_areAlike_55 : decode cX4_areAlike 55 = .ok (.ireturn, 1) := by decide +kernel
set_option maxRecDepth 20000 in
theorem ggX4_conflicts_X4_isVersion : GoodIn wsX4_conflicts wsX4_isVersion := goodIn_r _ [6, 7, 8, 9, 5, 10, 33, 34, 35, 36, 37, 38, 39, 40, 41, 42, 43, 44, 45, 46] (by decide +kernel) (by decide +kernel)
set_option maxRecDepth 20000 in
theorem gX4_conflicts_X4_isVersion : GoodIn wsX4_conflicts (wsV RX4 55 RX4 yX4_isVersion wsX4_isVersion) := goodIn_app (goodIn_of _ (by decide +kernel)) ggX4_conflicts_X4_isVersion
set_option maxRecDepth 20000 in
theorem ggX4_conflicts_X4_baseOf : GoodIn wsX4_conflicts wsX4_baseOf := goodIn_r _ [14, 7, 15, 16, 17, 5, 18, 19, 33, 34, 35, 36, 37, 38, 39, 40, 41, 42, 43, 44, 45, 46] (by decide +kernel) (by decide +kernel)
set_option maxRecDepth 20000 in
theorem gX4_conflicts_X4_baseOf : GoodIn wsX4_conflicts (wsV RX4 77 RX4 yX4_baseOf wsX4_baseOf) := goodIn_app (goodIn_of _ (by decide +kernel)) ggX4_conflicts_X4_baseOf
set_option maxRecDepth 20000 in
theorem ggX4_conflicts_X4_fails : GoodIn wsX4_conflicts wsX4_fails := goodIn_r _ [23, 24, 33, 34, 35, 36, 37, 38, 39, 40, 41, 42, 43, 44, 45, 46] (by decide +kernel) (by decide +kernel)
set_option maxRecDepth 20000 in
theorem gX4_conflicts_X4_fails : GoodIn wsX4_conflicts (wsV RX4 59 RX4 yX4_fails wsX4_fails) := goodIn_app (goodIn_of _ (by decide +kernel)) ggX4_conflicts_X4_fails
set_option maxRecDepth 20000 in
theorem ggX4_conflicts_X4_areAlike : GoodIn wsX4_conflicts wsX4_areAlike := goodIn_r _ [28, 29, 30, 31, 5, 32, 33, 34, 35, 36, 37, 38, 39, 40, 41, 42, 43, 44, 45, 46] (by decide +kernel) (by decide +kernel)
set_option maxRecDepth 20000 in
theorem gX4_conflicts_X4_areAlike : GoodIn wsX4_conflicts (wsV RX4 81 RX4 yX4_areAlike wsX4_areAlike) := goodIn_app (goodIn_of _ (by decide +kernel)) ggX4_conflicts_X4_areAlike
theorem dX4_conflicts_0 : decode cX4_conflicts 0 = .ok (.aload_n 0, 1) := by decide +kernel
theorem dX4_conflicts_1 : decode cX4_conflicts 1 = .ok (.iload_n 1, 1) := by decide +kernel
theorem dX4_conflicts_2 : decode cX4_conflicts 2 = .ok (.invokevirtual 55, 3) := by decide +kernel
theorem dX4_conflicts_5 : decode cX4_conflicts 5 = .ok (.ifCond .eq 15, 3) := by decide +kernel
theorem dX4_conflicts_8 : decode cX4_conflicts 8 = .ok (.aload_n 0, 1) := by decide +kernel
theorem dX4_conflicts_9 : decode cX4_conflicts 9 = .ok (.iload_n 2, 1) := by decide +kernel
theorem dX4_conflicts_10 : decode cX4_conflicts 10 = .ok (.invokevirtual 55, 3) := by decide +kernel
theorem dX4_conflicts_13 : decode cX4_conflicts 13 = .ok (.ifCond .eq 7, 3) := by decide +kernel
theorem dX4_conflicts_16 : decode cX4_conflicts 16 = .ok (.iconst 1, 1) := by decide +kernel
theorem dX4_conflicts_17 : decode cX4_conflicts 17 = .ok (.goto 4, 3) := by decide +kernel
theorem dX4_conflicts_20 : decode cX4_conflicts 20 = .ok (.iconst 0, 1) := by decide +kernel
theorem dX4_conflicts_21 : decode cX4_conflicts 21 = .ok (.istore_n 3, 1) := by decide +kernel
theorem dX4_conflicts_22 : decode cX4_conflicts 22 = .ok (.aload_n 0, 1) := by decide +kernel
theorem dX4_conflicts_23 : decode cX4_conflicts 23 = .ok (.iload_n 3, 1) := by decide +kernel
theorem dX4_conflicts_24 : decode cX4_conflicts 24 = .ok (.ifCond .ne 7, 3) := by decide +kernel
theorem dX4_conflicts_27 : decode cX4_conflicts 27 = .ok (.iconst 1, 1) := by decide +kernel
theorem dX4_conflicts_28 : decode cX4_conflicts 28 = .ok (.goto 18, 3) := by decide +kernel
theorem dX4_conflicts_31 : decode cX4_conflicts 31 = .ok (.aload_n 0, 1) := by decide +kernel
theorem dX4_conflicts_32 : decode cX4_conflicts 32 = .ok (.iload_n 1, 1) := by decide +kernel
theorem dX4_conflicts_33 : decode cX4_conflicts 33 = .ok (.iload_n 2, 1) := by decide +kernel
theorem dX4_conflicts_34 : decode cX4_conflicts 34 = .ok (.invokevirtual 77, 3) := by decide +kernel
theorem dX4_conflicts_37 : decode cX4_conflicts 37 = .ok (.iconst (-1), 1) := by decide +kernel
theorem dX4_conflicts_38 : decode cX4_conflicts 38 = .ok (.if_icmp .ne 7, 3) := by decide +kernel
theorem dX4_conflicts_41 : decode cX4_conflicts 41 = .ok (.iconst 2, 1) := by decide +kernel
theorem dX4_conflicts_42 : decode cX4_conflicts 42 = .ok (.goto 4, 3) := by decide +kernel
theorem dX4_conflicts_45 : decode cX4_conflicts 45 = .ok (.iconst 0, 1) := by decide +kernel
theorem dX4_conflicts_46 : decode cX4_conflicts 46 = .ok (.invokevirtual 59, 3) := by decide +kernel
theorem dX4_conflicts_49 : decode cX4_conflicts 49 = .ok (.ifCond .eq 5, 3) := by decide +kernel
theorem dX4_conflicts_52 : decode cX4_conflicts 52 = .ok (.iconst 0, 1) := by decide +kernel
theorem dX4_conflicts_53 : decode cX4_conflicts 53 = .ok (.ireturn, 1) := by decide +kernel
theorem dX4_conflicts_54 : decode cX4_conflicts 54 = .ok (.aload_n 0, 1) := by decide +kernel
theorem dX4_conflicts_55 : decode cX4_conflicts 55 = .ok (.iload_n 1, 1) := by decide +kernel
theorem dX4_conflicts_56 : decode cX4_conflicts 56 = .ok (.iload_n 2, 1) := by decide +kernel
theorem dX4_conflicts_57 : decode cX4_conflicts 57 = .ok (.invokevirtual 77, 3) := by decide +kernel
theorem dX4_conflicts_60 : decode cX4_conflicts 60 = .ok (.istore 4, 2) := by decide +kernel
theorem dX4_conflicts_62 : decode cX4_conflicts 62 = .ok (.iconst 0, 1) := by decide +kernel
theorem dX4_conflicts_63 : decode cX4_conflicts 63 = .ok (.istore 5, 2) := by decide +kernel
theorem dX4_conflicts_65 : decode cX4_conflicts 65 = .ok (.iconst 0, 1) := by decide +kernel
theorem dX4_conflicts_66 : decode cX4_conflicts 66 = .ok (.istore 6, 2) := by decide +kernel
theorem dX4_conflicts_68 : decode cX4_conflicts 68 = .ok (.iload 6, 2) := by decide +kernel
theorem dX4_conflicts_70 : decode cX4_conflicts 70 = .ok (.aload_n 0, 1) := by decide +kernel
theorem dX4_conflicts_71 : decode cX4_conflicts 71 = .ok (.getfield 7, 3) := by decide +kernel
theorem dX4_conflicts_74 : decode cX4_conflicts 74 = .ok (.iload_n 1, 1) := by decide +kernel
theorem dX4_conflicts_75 : decode cX4_conflicts 75 = .ok (.iaload, 1) := by decide +kernel
theorem dX4_conflicts_76 : decode cX4_conflicts 76 = .ok (.if_icmp .ge 57, 3) := by decide +kernel
theorem dX4_conflicts_79 : decode cX4_conflicts 79 = .ok (.iload 5, 2) := by decide +kernel
theorem dX4_conflicts_81 : decode cX4_conflicts 81 = .ok (.aload_n 0, 1) := by decide +kernel
theorem dX4_conflicts_82 : decode cX4_conflicts 82 = .ok (.iload_n 1, 1) := by decide +kernel
theorem dX4_conflicts_83 : decode cX4_conflicts 83 = .ok (.iload_n 2, 1) := by decide +kernel
theorem dX4_conflicts_84 : decode cX4_conflicts 84 = .ok (.iload 6, 2) := by decide +kernel
theorem dX4_conflicts_86 : decode cX4_conflicts 86 = .ok (.invokevirtual 81, 3) := by decide +kernel
theorem dX4_conflicts_89 : decode cX4_conflicts 89 = .ok (.ifCond .ne 34, 3) := by decide +kernel
theorem dX4_conflicts_92 : decode cX4_conflicts 92 = .ok (.aload_n 0, 1) := by decide +kernel
theorem dX4_conflicts_93 : decode cX4_conflicts 93 = .ok (.iload_n 1, 1) := by decide +kernel
theorem dX4_conflicts_94 : decode cX4_conflicts 94 = .ok (.iload 4, 2) := by decide +kernel
theorem dX4_conflicts_96 : decode cX4_conflicts 96 = .ok (.iload 6, 2) := by decide +kernel
theorem dX4_conflicts_98 : decode cX4_conflicts 98 = .ok (.invokevirtual 81, 3) := by decide +kernel
theorem dX4_conflicts_101 : decode cX4_conflicts 101 = .ok (.ifCond .ne 22, 3) := by decide +kernel
theorem dX4_conflicts_104 : decode cX4_conflicts 104 = .ok (.aload_n 0, 1) := by decide +kernel
theorem dX4_conflicts_105 : decode cX4_conflicts 105 = .ok (.iload_n 2, 1) := by decide +kernel
theorem dX4_conflicts_106 : decode cX4_conflicts 106 = .ok (.iload 4, 2) := by decide +kernel
theorem dX4_conflicts_108 : decode cX4_conflicts 108 = .ok (.iload 6, 2) := by decide +kernel
theorem dX4_conflicts_110 : decode cX4_conflicts 110 = .ok (.invokevirtual 81, 3) := by decide +kernel
theorem dX4_conflicts_113 : decode cX4_conflicts 113 = .ok (.ifCond .ne 10, 3) := by decide +kernel
theorem dX4_conflicts_116 : decode cX4_conflicts 116 = .ok (.iconst 1, 1) := by decide +kernel
theorem dX4_conflicts_117 : decode cX4_conflicts 117 = .ok (.iload 6, 2) := by decide +kernel
theorem dX4_conflicts_119 : decode cX4_conflicts 119 = .ok (.ishl, 1) := by decide +kernel
theorem dX4_conflicts_120 : decode cX4_conflicts 120 = .ok (.goto 4, 3) := by decide +kernel
theorem dX4_conflicts_123 : decode cX4_conflicts 123 = .ok (.iconst 0, 1) := by decide +kernel
theorem dX4_conflicts_124 : decode cX4_conflicts 124 = .ok (.ior, 1) := by decide +kernel
theorem dX4_conflicts_125 : decode cX4_conflicts 125 = .ok (.istore 5, 2) := by decide +kernel
theorem dX4_conflicts_127 : decode cX4_conflicts 127 = .ok (.iinc 6 1, 3) := by decide +kernel
theorem dX4_conflicts_130 : decode cX4_conflicts 130 = .ok (.goto (-62), 3) := by decide +kernel
theorem dX4_conflicts_133 : decode cX4_conflicts 133 = .ok (.iload 5, 2) := by decide +kernel
theorem dX4_conflicts_135 : decode cX4_conflicts 135 = .ok (.ireturn, 1) := by decide +kernel
set_option maxRecDepth 20000 in
theorem ggX4_merge_X4_isVersion : GoodIn wsX4_merge wsX4_isVersion := goodIn_r _ [9, 1, 10, 11, 8, 12, 38, 39, 40, 41, 42, 43, 44, 45, 46, 47, 48, 49, 50, 51] (by decide +kernel) (by decide +kernel)
set_option maxRecDepth 20000 in
theorem gX4_merge_X4_isVersion : GoodIn wsX4_merge (wsV RX4 55 RX4 yX4_isVersion wsX4_isVersion) := goodIn_app (goodIn_of _ (by decide +kernel)) ggX4_merge_X4_isVersion
set_option maxRecDepth 20000 in
theorem ggX4_merge_X4_baseOf : GoodIn wsX4_merge wsX4_baseOf := goodIn_r _ [16, 1, 17, 18, 19, 8, 20, 21, 38, 39, 40, 41, 42, 43, 44, 45, 46, 47, 48, 49, 50, 51] (by decide +kernel) (by decide +kernel)
set_option maxRecDepth 20000 in
theorem gX4_merge_X4_baseOf : GoodIn wsX4_merge (wsV RX4 77 RX4 yX4_baseOf wsX4_baseOf) := goodIn_app (goodIn_of _ (by decide +kernel)) ggX4_merge_X4_baseOf
set_option maxRecDepth 20000 in
theorem ggX4_merge_X4_fails : GoodIn wsX4_merge wsX4_fails := goodIn_r _ [25, 26, 38, 39, 40, 41, 42, 43, 44, 45, 46, 47, 48, 49, 50, 51] (by decide +kernel) (by decide +kernel)
set_option maxRecDepth 20000 in
theorem gX4_merge_X4_fails : GoodIn wsX4_merge (wsV RX4 59 RX4 yX4_fails wsX4_fails) := goodIn_app (goodIn_of _ (by decide +kernel)) ggX4_merge_X4_fails
set_option maxRecDepth 20000 in
theorem ggX4_merge_X4_makes : GoodIn wsX4_merge wsX4_makes := goodIn_r _ [30, 3, 1, 21, 4, 2, 31, 32, 8, 33, 38, 39, 40, 41, 42, 43, 44, 45, 46, 47, 48, 49, 50, 51] (by decide +kernel) (by decide +kernel)
set_option maxRecDepth 20000 in
theorem gX4_merge_X4_makes : GoodIn wsX4_merge (wsV RX4 66 RX4 yX4_makes wsX4_makes) := goodIn_app (goodIn_of _ (by decide +kernel)) ggX4_merge_X4_makes
set_option maxRecDepth 20000 in
theorem ggX4_merge_X4_areAlike : GoodIn wsX4_merge wsX4_areAlike := goodIn_r _ [37, 4, 31, 32, 8, 33, 38, 39, 40, 41, 42, 43, 44, 45, 46, 47, 48, 49, 50, 51] (by decide +kernel) (by decide +kernel)
set_option maxRecDepth 20000 in
theorem gX4_merge_X4_areAlike : GoodIn wsX4_merge (wsV RX4 81 RX4 yX4_areAlike wsX4_areAlike) := goodIn_app (goodIn_of _ (by decide +kernel)) ggX4_merge_X4_areAlike
set_option maxRecDepth 20000 in
theorem ggX4_merge_X4_at : GoodIn wsX4_merge wsX4_at := goodIn_r _ [33] (by decide +kernel) (by decide +kernel)
set_option maxRecDepth 20000 in
theorem gX4_merge_X4_at : GoodIn wsX4_merge (va_wsS RX4 62 yX4_at wsX4_at) := goodIn_app (goodIn_of _ (by decide +kernel)) ggX4_merge_X4_at
theorem dX4_merge_0 : decode cX4_merge 0 = .ok (.aload_n 0, 1) := by decide +kernel
theorem dX4_merge_1 : decode cX4_merge 1 = .ok (.iload_n 1, 1) := by decide +kernel
theorem dX4_merge_2 : decode cX4_merge 2 = .ok (.invokevirtual 55, 3) := by decide +kernel
theorem dX4_merge_5 : decode cX4_merge 5 = .ok (.ifCond .eq 15, 3) := by decide +kernel
theorem dX4_merge_8 : decode cX4_merge 8 = .ok (.aload_n 0, 1) := by decide +kernel
theorem dX4_merge_9 : decode cX4_merge 9 = .ok (.iload_n 2, 1) := by decide +kernel
theorem dX4_merge_10 : decode cX4_merge 10 = .ok (.invokevirtual 55, 3) := by decide +kernel
theorem dX4_merge_13 : decode cX4_merge 13 = .ok (.ifCond .eq 7, 3) := by decide +kernel
theorem dX4_merge_16 : decode cX4_merge 16 = .ok (.iconst 1, 1) := by decide +kernel
theorem dX4_merge_17 : decode cX4_merge 17 = .ok (.goto 4, 3) := by decide +kernel
theorem dX4_merge_20 : decode cX4_merge 20 = .ok (.iconst 0, 1) := by decide +kernel
theorem dX4_merge_21 : decode cX4_merge 21 = .ok (.istore_n 3, 1) := by decide +kernel
theorem dX4_merge_22 : decode cX4_merge 22 = .ok (.aload_n 0, 1) := by decide +kernel
theorem dX4_merge_23 : decode cX4_merge 23 = .ok (.iload_n 3, 1) := by decide +kernel
theorem dX4_merge_24 : decode cX4_merge 24 = .ok (.ifCond .ne 7, 3) := by decide +kernel
theorem dX4_merge_27 : decode cX4_merge 27 = .ok (.iconst 1, 1) := by decide +kernel
theorem dX4_merge_28 : decode cX4_merge 28 = .ok (.goto 36, 3) := by decide +kernel
theorem dX4_merge_31 : decode cX4_merge 31 = .ok (.iload_n 1, 1) := by decide +kernel
theorem dX4_merge_32 : decode cX4_merge 32 = .ok (.iload_n 2, 1) := by decide +kernel
theorem dX4_merge_33 : decode cX4_merge 33 = .ok (.if_icmp .ne 7, 3) := by decide +kernel
theorem dX4_merge_36 : decode cX4_merge 36 = .ok (.iconst 2, 1) := by decide +kernel
theorem dX4_merge_37 : decode cX4_merge 37 = .ok (.goto 27, 3) := by decide +kernel
theorem dX4_merge_40 : decode cX4_merge 40 = .ok (.aload_n 0, 1) := by decide +kernel
theorem dX4_merge_41 : decode cX4_merge 41 = .ok (.iload_n 1, 1) := by decide +kernel
theorem dX4_merge_42 : decode cX4_merge 42 = .ok (.iload_n 2, 1) := by decide +kernel
theorem dX4_merge_43 : decode cX4_merge 43 = .ok (.invokevirtual 77, 3) := by decide +kernel
theorem dX4_merge_46 : decode cX4_merge 46 = .ok (.iconst (-1), 1) := by decide +kernel
theorem dX4_merge_47 : decode cX4_merge 47 = .ok (.if_icmp .eq 12, 3) := by decide +kernel
theorem dX4_merge_50 : decode cX4_merge 50 = .ok (.aload_n 0, 1) := by decide +kernel
theorem dX4_merge_51 : decode cX4_merge 51 = .ok (.getfield 48, 3) := by decide +kernel
theorem dX4_merge_54 : decode cX4_merge 54 = .ok (.bipush 30, 2) := by decide +kernel
theorem dX4_merge_56 : decode cX4_merge 56 = .ok (.if_icmp .ne 7, 3) := by decide +kernel
theorem dX4_merge_59 : decode cX4_merge 59 = .ok (.iconst 3, 1) := by decide +kernel
theorem dX4_merge_60 : decode cX4_merge 60 = .ok (.goto 4, 3) := by decide +kernel
theorem dX4_merge_63 : decode cX4_merge 63 = .ok (.iconst 0, 1) := by decide +kernel
theorem dX4_merge_64 : decode cX4_merge 64 = .ok (.invokevirtual 59, 3) := by decide +kernel
theorem dX4_merge_67 : decode cX4_merge 67 = .ok (.ifCond .eq 5, 3) := by decide +kernel
theorem dX4_merge_70 : decode cX4_merge 70 = .ok (.iconst 0, 1) := by decide +kernel
theorem dX4_merge_71 : decode cX4_merge 71 = .ok (.ireturn, 1) := by decide +kernel
theorem dX4_merge_72 : decode cX4_merge 72 = .ok (.aload_n 0, 1) := by decide +kernel
theorem dX4_merge_73 : decode cX4_merge 73 = .ok (.iload_n 1, 1) := by decide +kernel
theorem dX4_merge_74 : decode cX4_merge 74 = .ok (.iload_n 2, 1) := by decide +kernel
theorem dX4_merge_75 : decode cX4_merge 75 = .ok (.invokevirtual 77, 3) := by decide +kernel
theorem dX4_merge_78 : decode cX4_merge 78 = .ok (.istore 4, 2) := by decide +kernel
theorem dX4_merge_80 : decode cX4_merge 80 = .ok (.aload_n 0, 1) := by decide +kernel
theorem dX4_merge_81 : decode cX4_merge 81 = .ok (.iload_n 1, 1) := by decide +kernel
theorem dX4_merge_82 : decode cX4_merge 82 = .ok (.invokevirtual 66, 3) := by decide +kernel
theorem dX4_merge_85 : decode cX4_merge 85 = .ok (.istore 5, 2) := by decide +kernel
theorem dX4_merge_87 : decode cX4_merge 87 = .ok (.aload_n 0, 1) := by decide +kernel
theorem dX4_merge_88 : decode cX4_merge 88 = .ok (.getfield 16, 3) := by decide +kernel
theorem dX4_merge_91 : decode cX4_merge 91 = .ok (.iload_n 2, 1) := by decide +kernel
theorem dX4_merge_92 : decode cX4_merge 92 = .ok (.iconst 1, 1) := by decide +kernel
theorem dX4_merge_93 : decode cX4_merge 93 = .ok (.bastore, 1) := by decide +kernel
theorem dX4_merge_94 : decode cX4_merge 94 = .ok (.iconst 0, 1) := by decide +kernel
theorem dX4_merge_95 : decode cX4_merge 95 = .ok (.istore 6, 2) := by decide +kernel
theorem dX4_merge_97 : decode cX4_merge 97 = .ok (.iload 6, 2) := by decide +kernel
theorem dX4_merge_99 : decode cX4_merge 99 = .ok (.aload_n 0, 1) := by decide +kernel
theorem dX4_merge_100 : decode cX4_merge 100 = .ok (.getfield 7, 3) := by decide +kernel
theorem dX4_merge_103 : decode cX4_merge 103 = .ok (.iload_n 1, 1) := by decide +kernel
theorem dX4_merge_104 : decode cX4_merge 104 = .ok (.iaload, 1) := by decide +kernel
theorem dX4_merge_105 : decode cX4_merge 105 = .ok (.if_icmp .ge 71, 3) := by decide +kernel
theorem dX4_merge_108 : decode cX4_merge 108 = .ok (.aload_n 0, 1) := by decide +kernel
theorem dX4_merge_109 : decode cX4_merge 109 = .ok (.iload_n 1, 1) := by decide +kernel
theorem dX4_merge_110 : decode cX4_merge 110 = .ok (.iload 4, 2) := by decide +kernel
theorem dX4_merge_112 : decode cX4_merge 112 = .ok (.iload 6, 2) := by decide +kernel
theorem dX4_merge_114 : decode cX4_merge 114 = .ok (.invokevirtual 81, 3) := by decide +kernel
theorem dX4_merge_117 : decode cX4_merge 117 = .ok (.ifCond .eq 53, 3) := by decide +kernel
theorem dX4_merge_120 : decode cX4_merge 120 = .ok (.aload_n 0, 1) := by decide +kernel
theorem dX4_merge_121 : decode cX4_merge 121 = .ok (.getfield 23, 3) := by decide +kernel
theorem dX4_merge_124 : decode cX4_merge 124 = .ok (.iload 5, 2) := by decide +kernel
theorem dX4_merge_126 : decode cX4_merge 126 = .ok (.iconst 0, 1) := by decide +kernel
theorem dX4_merge_127 : decode cX4_merge 127 = .ok (.iload 6, 2) := by decide +kernel
theorem dX4_merge_129 : decode cX4_merge 129 = .ok (.invokestatic 62, 3) := by decide +kernel
theorem dX4_merge_132 : decode cX4_merge 132 = .ok (.aload_n 0, 1) := by decide +kernel
theorem dX4_merge_133 : decode cX4_merge 133 = .ok (.getfield 23, 3) := by decide +kernel
theorem dX4_merge_136 : decode cX4_merge 136 = .ok (.iload_n 2, 1) := by decide +kernel
theorem dX4_merge_137 : decode cX4_merge 137 = .ok (.iconst 0, 1) := by decide +kernel
theorem dX4_merge_138 : decode cX4_merge 138 = .ok (.iload 6, 2) := by decide +kernel
theorem dX4_merge_140 : decode cX4_merge 140 = .ok (.invokestatic 62, 3) := by decide +kernel
theorem dX4_merge_143 : decode cX4_merge 143 = .ok (.iaload, 1) := by decide +kernel
theorem dX4_merge_144 : decode cX4_merge 144 = .ok (.iastore, 1) := by decide +kernel
theorem dX4_merge_145 : decode cX4_merge 145 = .ok (.aload_n 0, 1) := by decide +kernel
theorem dX4_merge_146 : decode cX4_merge 146 = .ok (.getfield 23, 3) := by decide +kernel
theorem dX4_merge_149 : decode cX4_merge 149 = .ok (.iload 5, 2) := by decide +kernel
theorem dX4_merge_151 : decode cX4_merge 151 = .ok (.iconst 1, 1) := by decide +kernel
theorem dX4_merge_152 : decode cX4_merge 152 = .ok (.iload 6, 2) := by decide +kernel
theorem dX4_merge_154 : decode cX4_merge 154 = .ok (.invokestatic 62, 3) := by decide +kernel
theorem dX4_merge_157 : decode cX4_merge 157 = .ok (.aload_n 0, 1) := by decide +kernel
theorem dX4_merge_158 : decode cX4_merge 158 = .ok (.getfield 23, 3) := by decide +kernel
theorem dX4_merge_161 : decode cX4_merge 161 = .ok (.iload_n 2, 1) := by decide +kernel
theorem dX4_merge_162 : decode cX4_merge 162 = .ok (.iconst 1, 1) := by decide +kernel
theorem dX4_merge_163 : decode cX4_merge 163 = .ok (.iload 6, 2) := by decide +kernel
theorem dX4_merge_165 : decode cX4_merge 165 = .ok (.invokestatic 62, 3) := by decide +kernel
theorem dX4_merge_168 : decode cX4_merge 168 = .ok (.iaload, 1) := by decide +kernel
theorem dX4_merge_169 : decode cX4_merge 169 = .ok (.iastore, 1) := by decide +kernel
theorem dX4_merge_170 : decode cX4_merge 170 = .ok (.iinc 6 1, 3) := by decide +kernel
theorem dX4_merge_173 : decode cX4_merge 173 = .ok (.goto (-76), 3) := by decide +kernel
theorem dX4_merge_176 : decode cX4_merge 176 = .ok (.iload 5, 2) := by decide +kernel
theorem dX4_merge_178 : decode cX4_merge 178 = .ok (.ireturn, 1) := by decide +kernel
set_option maxRecDepth 20000 in
theorem ggX4_setWeight_X4_isIn : GoodIn wsX4_setWeight wsX4_isIn := goodIn_r _ [5] (by decide +kernel) (by decide +kernel)
set_option maxRecDepth 20000 in
theorem gX4_setWeight_X4_isIn : GoodIn wsX4_setWeight (va_wsS RX4 51 yX4_isIn wsX4_isIn) := goodIn_app (goodIn_of _ (by decide +kernel)) ggX4_setWeight_X4_isIn
set_option maxRecDepth 20000 in
theorem ggX4_setWeight_X4_fails : GoodIn wsX4_setWeight wsX4_fails := goodIn_r _ [9, 10, 11, 12, 13, 14, 15, 16, 17, 18, 19, 20, 21, 22, 23, 24] (by decide +kernel) (by decide +kernel)
set_option maxRecDepth 20000 in
theorem gX4_setWeight_X4_fails : GoodIn wsX4_setWeight (wsV RX4 59 RX4 yX4_fails wsX4_fails) := goodIn_app (goodIn_of _ (by decide +kernel)) ggX4_setWeight_X4_fails
theorem dX4_setWeight_0 : decode cX4_setWeight 0 = .ok (.iload_n 1, 1) := by decide +kernel
theorem dX4_setWeight_1 : decode cX4_setWeight 1 = .ok (.iconst 0, 1) := by decide +kernel
theorem dX4_setWeight_2 : decode cX4_setWeight 2 = .ok (.iconst 5, 1) := by decide +kernel
theorem dX4_setWeight_3 : decode cX4_setWeight 3 = .ok (.invokestatic 51, 3) := by decide +kernel
theorem dX4_setWeight_6 : decode cX4_setWeight 6 = .ok (.istore_n 3, 1) := by decide +kernel
theorem dX4_setWeight_7 : decode cX4_setWeight 7 = .ok (.aload_n 0, 1) := by decide +kernel
theorem dX4_setWeight_8 : decode cX4_setWeight 8 = .ok (.iload_n 3, 1) := by decide +kernel
theorem dX4_setWeight_9 : decode cX4_setWeight 9 = .ok (.ifCond .ne 7, 3) := by decide +kernel
theorem dX4_setWeight_12 : decode cX4_setWeight 12 = .ok (.iconst 1, 1) := by decide +kernel
theorem dX4_setWeight_13 : decode cX4_setWeight 13 = .ok (.goto 18, 3) := by decide +kernel
theorem dX4_setWeight_16 : decode cX4_setWeight 16 = .ok (.iload_n 2, 1) := by decide +kernel
theorem dX4_setWeight_17 : decode cX4_setWeight 17 = .ok (.iconst 0, 1) := by decide +kernel
theorem dX4_setWeight_18 : decode cX4_setWeight 18 = .ok (.bipush 50, 2) := by decide +kernel
theorem dX4_setWeight_20 : decode cX4_setWeight 20 = .ok (.invokestatic 51, 3) := by decide +kernel
theorem dX4_setWeight_23 : decode cX4_setWeight 23 = .ok (.ifCond .eq 7, 3) := by decide +kernel
theorem dX4_setWeight_26 : decode cX4_setWeight 26 = .ok (.iconst 0, 1) := by decide +kernel
theorem dX4_setWeight_27 : decode cX4_setWeight 27 = .ok (.goto 4, 3) := by decide +kernel
theorem dX4_setWeight_30 : decode cX4_setWeight 30 = .ok (.iconst 2, 1) := by decide +kernel
theorem dX4_setWeight_31 : decode cX4_setWeight 31 = .ok (.invokevirtual 59, 3) := by decide +kernel
theorem dX4_setWeight_34 : decode cX4_setWeight 34 = .ok (.ifCond .eq 5, 3) := by decide +kernel
theorem dX4_setWeight_37 : decode cX4_setWeight 37 = .ok (.iconst 0, 1) := by decide +kernel
theorem dX4_setWeight_38 : decode cX4_setWeight 38 = .ok (.ireturn, 1) := by decide +kernel
theorem dX4_setWeight_39 : decode cX4_setWeight 39 = .ok (.aload_n 0, 1) := by decide +kernel
theorem dX4_setWeight_40 : decode cX4_setWeight 40 = .ok (.getfield 26, 3) := by decide +kernel
theorem dX4_setWeight_43 : decode cX4_setWeight 43 = .ok (.iload_n 1, 1) := by decide +kernel
theorem dX4_setWeight_44 : decode cX4_setWeight 44 = .ok (.iaload, 1) := by decide +kernel
theorem dX4_setWeight_45 : decode cX4_setWeight 45 = .ok (.istore 4, 2) := by decide +kernel
theorem dX4_setWeight_47 : decode cX4_setWeight 47 = .ok (.aload_n 0, 1) := by decide +kernel
theorem dX4_setWeight_48 : decode cX4_setWeight 48 = .ok (.getfield 26, 3) := by decide +kernel
theorem dX4_setWeight_51 : decode cX4_setWeight 51 = .ok (.iload_n 1, 1) := by decide +kernel
theorem dX4_setWeight_52 : decode cX4_setWeight 52 = .ok (.iload_n 2, 1) := by decide +kernel
theorem dX4_setWeight_53 : decode cX4_setWeight 53 = .ok (.iastore, 1) := by decide +kernel
theorem dX4_setWeight_54 : decode cX4_setWeight 54 = .ok (.iload 4, 2) := by decide +kernel
theorem dX4_setWeight_56 : decode cX4_setWeight 56 = .ok (.ireturn, 1) := by decide +kernel
set_option maxRecDepth 20000 in
theorem ggX4_setPass_X4_isIn : GoodIn wsX4_setPass wsX4_isIn := goodIn_r _ [5] (by decide +kernel) (by decide +kernel)
set_option maxRecDepth 20000 in
theorem gX4_setPass_X4_isIn : GoodIn wsX4_setPass (va_wsS RX4 51 yX4_isIn wsX4_isIn) := goodIn_app (goodIn_of _ (by decide +kernel)) ggX4_setPass_X4_isIn
set_option maxRecDepth 20000 in
theorem ggX4_setPass_X4_fails : GoodIn wsX4_setPass wsX4_fails := goodIn_r _ [9, 10, 11, 12, 13, 14, 15, 16, 17, 18, 19, 20, 21, 22, 23, 24] (by decide +kernel) (by decide +kernel)
set_option maxRecDepth 20000 in
theorem gX4_setPass_X4_fails : GoodIn wsX4_setPass (wsV RX4 59 RX4 yX4_fails wsX4_fails) := goodIn_app (goodIn_of _ (by decide +kernel)) ggX4_setPass_X4_fails
theorem dX4_setPass_0 : decode cX4_setPass 0 = .ok (.aload_n 0, 1) := by decide +kernel
theorem dX4_setPass_1 : decode cX4_setPass 1 = .ok (.iload_n 1, 1) := by decide +kernel
theorem dX4_setPass_2 : decode cX4_setPass 2 = .ok (.iconst 0, 1) := by decide +kernel
theorem dX4_setPass_3 : decode cX4_setPass 3 = .ok (.bipush 100, 2) := by decide +kernel
theorem dX4_setPass_5 : decode cX4_setPass 5 = .ok (.invokestatic 51, 3) := by decide +kernel
theorem dX4_setPass_8 : decode cX4_setPass 8 = .ok (.ifCond .eq 7, 3) := by decide +kernel
theorem dX4_setPass_11 : decode cX4_setPass 11 = .ok (.iconst 0, 1) := by decide +kernel
theorem dX4_setPass_12 : decode cX4_setPass 12 = .ok (.goto 4, 3) := by decide +kernel
theorem dX4_setPass_15 : decode cX4_setPass 15 = .ok (.iconst 1, 1) := by decide +kernel
theorem dX4_setPass_16 : decode cX4_setPass 16 = .ok (.invokevirtual 59, 3) := by decide +kernel
theorem dX4_setPass_19 : decode cX4_setPass 19 = .ok (.ifCond .eq 5, 3) := by decide +kernel
theorem dX4_setPass_22 : decode cX4_setPass 22 = .ok (.iconst 0, 1) := by decide +kernel
theorem dX4_setPass_23 : decode cX4_setPass 23 = .ok (.ireturn, 1) := by decide +kernel
theorem dX4_setPass_24 : decode cX4_setPass 24 = .ok (.aload_n 0, 1) := by decide +kernel
theorem dX4_setPass_25 : decode cX4_setPass 25 = .ok (.getfield 29, 3) := by decide +kernel
theorem dX4_setPass_28 : decode cX4_setPass 28 = .ok (.istore_n 2, 1) := by decide +kernel
theorem dX4_setPass_29 : decode cX4_setPass 29 = .ok (.aload_n 0, 1) := by decide +kernel
theorem dX4_setPass_30 : decode cX4_setPass 30 = .ok (.iload_n 1, 1) := by decide +kernel
theorem dX4_setPass_31 : decode cX4_setPass 31 = .ok (.putfield 29, 3) := by decide +kernel
theorem dX4_setPass_34 : decode cX4_setPass 34 = .ok (.iload_n 2, 1) := by decide +kernel
theorem dX4_setPass_35 : decode cX4_setPass 35 = .ok (.ireturn, 1) := by decide +kernel
theorem dX4_away_0 : decode cX4_away 0 = .ok (.iload_n 0, 1) := by decide +kernel
theorem dX4_away_1 : decode cX4_away 1 = .ok (.iload_n 1, 1) := by decide +kernel
theorem dX4_away_2 : decode cX4_away 2 = .ok (.if_icmp .le 9, 3) := by decide +kernel
theorem dX4_away_5 : decode cX4_away 5 = .ok (.iload_n 0, 1) := by decide +kernel
theorem dX4_away_6 : decode cX4_away 6 = .ok (.iload_n 1, 1) := by decide +kernel
theorem dX4_away_7 : decode cX4_away 7 = .ok (.isub, 1) := by decide +kernel
theorem dX4_away_8 : decode cX4_away 8 = .ok (.goto 6, 3) := by decide +kernel
theorem dX4_away_11 : decode cX4_away 11 = .ok (.iload_n 1, 1) := by decide +kernel
theorem dX4_away_12 : decode cX4_away 12 = .ok (.iload_n 0, 1) := by decide +kernel
theorem dX4_away_13 : decode cX4_away 13 = .ok (.isub, 1) := by decide +kernel
theorem dX4_away_14 : decode cX4_away 14 = .ok (.ireturn, 1) := by decide +kernel
set_option maxRecDepth 20000 in
theorem ggX4_interval_X4_at : GoodIn wsX4_interval wsX4_at := goodIn_r _ [5] (by decide +kernel) (by decide +kernel)
set_option maxRecDepth 20000 in
theorem gX4_interval_X4_at : GoodIn wsX4_interval (va_wsS RX4 62 yX4_at wsX4_at) := goodIn_app (goodIn_of _ (by decide +kernel)) ggX4_interval_X4_at
set_option maxRecDepth 20000 in
theorem ggX4_interval_X4_away : GoodIn wsX4_interval wsX4_away := goodIn_r _ [8] (by decide +kernel) (by decide +kernel)
set_option maxRecDepth 20000 in
theorem gX4_interval_X4_away : GoodIn wsX4_interval (va_wsS RX4 84 yX4_away wsX4_away) := goodIn_app (goodIn_of _ (by decide +kernel)) ggX4_interval_X4_away
theorem dX4_interval_0 : decode cX4_interval 0 = .ok (.aload_n 0, 1) := by decide +kernel
theorem dX4_interval_1 : decode cX4_interval 1 = .ok (.getfield 23, 3) := by decide +kernel
theorem dX4_interval_4 : decode cX4_interval 4 = .ok (.iload_n 1, 1) := by decide +kernel
theorem dX4_interval_5 : decode cX4_interval 5 = .ok (.iconst 0, 1) := by decide +kernel
theorem dX4_interval_6 : decode cX4_interval 6 = .ok (.iload_n 2, 1) := by decide +kernel
theorem dX4_interval_7 : decode cX4_interval 7 = .ok (.invokestatic 62, 3) := by decide +kernel
theorem dX4_interval_10 : decode cX4_interval 10 = .ok (.iaload, 1) := by decide +kernel
theorem dX4_interval_11 : decode cX4_interval 11 = .ok (.aload_n 0, 1) := by decide +kernel
theorem dX4_interval_12 : decode cX4_interval 12 = .ok (.getfield 23, 3) := by decide +kernel
theorem dX4_interval_15 : decode cX4_interval 15 = .ok (.iload_n 1, 1) := by decide +kernel
theorem dX4_interval_16 : decode cX4_interval 16 = .ok (.iconst 1, 1) := by decide +kernel
theorem dX4_interval_17 : decode cX4_interval 17 = .ok (.iload_n 2, 1) := by decide +kernel
theorem dX4_interval_18 : decode cX4_interval 18 = .ok (.invokestatic 62, 3) := by decide +kernel
theorem dX4_interval_21 : decode cX4_interval 21 = .ok (.iaload, 1) := by decide +kernel
theorem dX4_interval_22 : decode cX4_interval 22 = .ok (.invokestatic 84, 3) := by decide +kernel
theorem dX4_interval_25 : decode cX4_interval 25 = .ok (.bipush 12, 2) := by decide +kernel
theorem dX4_interval_27 : decode cX4_interval 27 = .ok (.irem, 1) := by decide +kernel
theorem dX4_interval_28 : decode cX4_interval 28 = .ok (.ireturn, 1) := by decide +kernel
set_option maxRecDepth 20000 in
theorem ggX4_stays_X4_at : GoodIn wsX4_stays wsX4_at := goodIn_r _ [5] (by decide +kernel) (by decide +kernel)
set_option maxRecDepth 20000 in
theorem gX4_stays_X4_at : GoodIn wsX4_stays (va_wsS RX4 62 yX4_at wsX4_at) := goodIn_app (goodIn_of _ (by decide +kernel)) ggX4_stays_X4_at
theorem dX4_stays_0 : decode cX4_stays 0 = .ok (.aload_n 0, 1) := by decide +kernel
theorem dX4_stays_1 : decode cX4_stays 1 = .ok (.getfield 23, 3) := by decide +kernel
theorem dX4_stays_4 : decode cX4_stays 4 = .ok (.iload_n 1, 1) := by decide +kernel
theorem dX4_stays_5 : decode cX4_stays 5 = .ok (.iload_n 2, 1) := by decide +kernel
theorem dX4_stays_6 : decode cX4_stays 6 = .ok (.iload_n 3, 1) := by decide +kernel
theorem dX4_stays_7 : decode cX4_stays 7 = .ok (.invokestatic 62, 3) := by decide +kernel
end
section
theorem dX4_stays_10 : decode cX4_stays 10 = .ok (.iaload, 1) := by decide +kernel
theorem dX4_stays_11 : decode cX4_stays 11 = .ok (.aload_n 0, 1) := by decide +kernel
theorem dX4_stays_12 : decode cX4_stays 12 = .ok (.getfield 23, 3) := by decide +kernel
theorem dX4_stays_15 : decode cX4_stays 15 = .ok (.iload_n 1, 1) := by decide +kernel
theorem dX4_stays_16 : decode cX4_stays 16 = .ok (.iload_n 2, 1) := by decide +kernel
theorem dX4_stays_17 : decode cX4_stays 17 = .ok (.iload_n 3, 1) := by decide +kernel
theorem dX4_stays_18 : decode cX4_stays 18 = .ok (.iconst 1, 1) := by decide +kernel
theorem dX4_stays_19 : decode cX4_stays 19 = .ok (.isub, 1) := by decide +kernel
theorem dX4_stays_20 : decode cX4_stays 20 = .ok (.invokestatic 62, 3) := by decide +kernel
theorem dX4_stays_23 : decode cX4_stays 23 = .ok (.iaload, 1) := by decide +kernel
theorem dX4_stays_24 : decode cX4_stays 24 = .ok (.if_icmp .ne 7, 3) := by decide +kernel
theorem dX4_stays_27 : decode cX4_stays 27 = .ok (.iconst 1, 1) := by decide +kernel
theorem dX4_stays_28 : decode cX4_stays 28 = .ok (.goto 4, 3) := by decide +kernel
theorem dX4_stays_31 : decode cX4_stays 31 = .ok (.iconst 0, 1) := by decide +kernel
theorem dX4_stays_32 : decode cX4_stays 32 = .ok (.ireturn, 1) := by decide +kernel
set_option maxRecDepth 20000 in
theorem ggX4_leap_X4_at : GoodIn wsX4_leap wsX4_at := goodIn_r _ [5] (by decide +kernel) (by decide +kernel)
set_option maxRecDepth 20000 in
theorem gX4_leap_X4_at : GoodIn wsX4_leap (va_wsS RX4 62 yX4_at wsX4_at) := goodIn_app (goodIn_of _ (by decide +kernel)) ggX4_leap_X4_at
set_option maxRecDepth 20000 in
theorem ggX4_leap_X4_away : GoodIn wsX4_leap wsX4_away := goodIn_r _ [8] (by decide +kernel) (by decide +kernel)
set_option maxRecDepth 20000 in
theorem gX4_leap_X4_away : GoodIn wsX4_leap (va_wsS RX4 84 yX4_away wsX4_away) := goodIn_app (goodIn_of _ (by decide +kernel)) ggX4_leap_X4_away
theorem dX4_leap_0 : decode cX4_leap 0 = .ok (.aload_n 0, 1) := by decide +kernel
theorem dX4_leap_1 : decode cX4_leap 1 = .ok (.getfield 23, 3) := by decide +kernel
theorem dX4_leap_4 : decode cX4_leap 4 = .ok (.iload_n 1, 1) := by decide +kernel
theorem dX4_leap_5 : decode cX4_leap 5 = .ok (.iload_n 2, 1) := by decide +kernel
theorem dX4_leap_6 : decode cX4_leap 6 = .ok (.iload_n 3, 1) := by decide +kernel
theorem dX4_leap_7 : decode cX4_leap 7 = .ok (.invokestatic 62, 3) := by decide +kernel
theorem dX4_leap_10 : decode cX4_leap 10 = .ok (.iaload, 1) := by decide +kernel
theorem dX4_leap_11 : decode cX4_leap 11 = .ok (.aload_n 0, 1) := by decide +kernel
theorem dX4_leap_12 : decode cX4_leap 12 = .ok (.getfield 23, 3) := by decide +kernel
theorem dX4_leap_15 : decode cX4_leap 15 = .ok (.iload_n 1, 1) := by decide +kernel
theorem dX4_leap_16 : decode cX4_leap 16 = .ok (.iload_n 2, 1) := by decide +kernel
theorem dX4_leap_17 : decode cX4_leap 17 = .ok (.iload_n 3, 1) := by decide +kernel
theorem dX4_leap_18 : decode cX4_leap 18 = .ok (.iconst 1, 1) := by decide +kernel
theorem dX4_leap_19 : decode cX4_leap 19 = .ok (.isub, 1) := by decide +kernel
theorem dX4_leap_20 : decode cX4_leap 20 = .ok (.invokestatic 62, 3) := by decide +kernel
theorem dX4_leap_23 : decode cX4_leap 23 = .ok (.iaload, 1) := by decide +kernel
theorem dX4_leap_24 : decode cX4_leap 24 = .ok (.invokestatic 84, 3) := by decide +kernel
theorem dX4_leap_27 : decode cX4_leap 27 = .ok (.bipush 9, 2) := by decide +kernel
theorem dX4_leap_29 : decode cX4_leap 29 = .ok (.if_icmp .le 7, 3) := by decide +kernel
theorem dX4_leap_32 : decode cX4_leap 32 = .ok (.iconst 1, 1) := by decide +kernel
theorem dX4_leap_33 : decode cX4_leap 33 = .ok (.goto 4, 3) := by decide +kernel
theorem dX4_leap_36 : decode cX4_leap 36 = .ok (.iconst 0, 1) := by decide +kernel
theorem dX4_leap_37 : decode cX4_leap 37 = .ok (.ireturn, 1) := by decide +kernel
set_option maxRecDepth 20000 in
theorem ggX4_faultsAt_X4_interval : GoodIn wsX4_faultsAt wsX4_interval := goodIn_r _ [7, 1, 8, 9, 6, 10, 11, 12, 13, 22, 23, 24, 25, 26, 27, 28, 29, 30, 31, 32, 33, 34, 35] (by decide +kernel) (by decide +kernel)
set_option maxRecDepth 20000 in
theorem gX4_faultsAt_X4_interval : GoodIn wsX4_faultsAt (wsV RX4 87 RX4 yX4_interval wsX4_interval) := goodIn_app (goodIn_of _ (by decide +kernel)) ggX4_faultsAt_X4_interval
set_option maxRecDepth 20000 in
theorem ggX4_faultsAt_X4_stays : GoodIn wsX4_faultsAt wsX4_stays := goodIn_r _ [17, 1, 8, 9, 6, 10, 22, 23, 24, 25, 26, 27, 28, 29, 30, 31, 32, 33, 34, 35] (by decide +kernel) (by decide +kernel)
set_option maxRecDepth 20000 in
theorem gX4_faultsAt_X4_stays : GoodIn wsX4_faultsAt (wsV RX4 90 RX4 yX4_stays wsX4_stays) := goodIn_app (goodIn_of _ (by decide +kernel)) ggX4_faultsAt_X4_stays
set_option maxRecDepth 20000 in
theorem ggX4_faultsAt_X4_leap : GoodIn wsX4_faultsAt wsX4_leap := goodIn_r _ [21, 1, 8, 9, 6, 10, 11, 12, 13, 22, 23, 24, 25, 26, 27, 28, 29, 30, 31, 32, 33, 34, 35] (by decide +kernel) (by decide +kernel)
set_option maxRecDepth 20000 in
theorem gX4_faultsAt_X4_leap : GoodIn wsX4_faultsAt (wsV RX4 93 RX4 yX4_leap wsX4_leap) := goodIn_app (goodIn_of _ (by decide +kernel)) ggX4_faultsAt_X4_leap
set_option maxRecDepth 20000 in
theorem ggX4_faultsAt_X4_at : GoodIn wsX4_faultsAt wsX4_at := goodIn_r _ [10] (by decide +kernel) (by decide +kernel)
set_option maxRecDepth 20000 in
theorem gX4_faultsAt_X4_at : GoodIn wsX4_faultsAt (va_wsS RX4 62 yX4_at wsX4_at) := goodIn_app (goodIn_of _ (by decide +kernel)) ggX4_faultsAt_X4_at
theorem dX4_faultsAt_0 : decode cX4_faultsAt 0 = .ok (.aload_n 0, 1) := by decide +kernel
theorem dX4_faultsAt_1 : decode cX4_faultsAt 1 = .ok (.iload_n 1, 1) := by decide +kernel
theorem dX4_faultsAt_2 : decode cX4_faultsAt 2 = .ok (.iload_n 2, 1) := by decide +kernel
theorem dX4_faultsAt_3 : decode cX4_faultsAt 3 = .ok (.invokevirtual 87, 3) := by decide +kernel
theorem dX4_faultsAt_6 : decode cX4_faultsAt 6 = .ok (.istore 4, 2) := by decide +kernel
theorem dX4_faultsAt_8 : decode cX4_faultsAt 8 = .ok (.iload 4, 2) := by decide +kernel
theorem dX4_faultsAt_10 : decode cX4_faultsAt 10 = .ok (.ifCond .eq 10, 3) := by decide +kernel
theorem dX4_faultsAt_13 : decode cX4_faultsAt 13 = .ok (.iload 4, 2) := by decide +kernel
theorem dX4_faultsAt_15 : decode cX4_faultsAt 15 = .ok (.bipush 7, 2) := by decide +kernel
theorem dX4_faultsAt_17 : decode cX4_faultsAt 17 = .ok (.if_icmp .ne 7, 3) := by decide +kernel
theorem dX4_faultsAt_20 : decode cX4_faultsAt 20 = .ok (.iconst 1, 1) := by decide +kernel
theorem dX4_faultsAt_21 : decode cX4_faultsAt 21 = .ok (.goto 4, 3) := by decide +kernel
theorem dX4_faultsAt_24 : decode cX4_faultsAt 24 = .ok (.iconst 0, 1) := by decide +kernel
theorem dX4_faultsAt_25 : decode cX4_faultsAt 25 = .ok (.istore 5, 2) := by decide +kernel
theorem dX4_faultsAt_27 : decode cX4_faultsAt 27 = .ok (.iload_n 3, 1) := by decide +kernel
theorem dX4_faultsAt_28 : decode cX4_faultsAt 28 = .ok (.tableswitch 214 0 4 #[36, 74, 122, 146, 177], 36) := by decide +kernel
theorem dX4_faultsAt_64 : decode cX4_faultsAt 64 = .ok (.iload 4, 2) := by decide +kernel
theorem dX4_faultsAt_66 : decode cX4_faultsAt 66 = .ok (.iconst 1, 1) := by decide +kernel
theorem dX4_faultsAt_67 : decode cX4_faultsAt 67 = .ok (.if_icmp .eq 29, 3) := by decide +kernel
theorem dX4_faultsAt_70 : decode cX4_faultsAt 70 = .ok (.iload 4, 2) := by decide +kernel
theorem dX4_faultsAt_72 : decode cX4_faultsAt 72 = .ok (.iconst 2, 1) := by decide +kernel
theorem dX4_faultsAt_73 : decode cX4_faultsAt 73 = .ok (.if_icmp .eq 23, 3) := by decide +kernel
theorem dX4_faultsAt_76 : decode cX4_faultsAt 76 = .ok (.iload 4, 2) := by decide +kernel
theorem dX4_faultsAt_78 : decode cX4_faultsAt 78 = .ok (.iconst 5, 1) := by decide +kernel
theorem dX4_faultsAt_79 : decode cX4_faultsAt 79 = .ok (.if_icmp .eq 17, 3) := by decide +kernel
theorem dX4_faultsAt_82 : decode cX4_faultsAt 82 = .ok (.iload 4, 2) := by decide +kernel
theorem dX4_faultsAt_84 : decode cX4_faultsAt 84 = .ok (.bipush 6, 2) := by decide +kernel
theorem dX4_faultsAt_86 : decode cX4_faultsAt 86 = .ok (.if_icmp .eq 10, 3) := by decide +kernel
theorem dX4_faultsAt_89 : decode cX4_faultsAt 89 = .ok (.iload 4, 2) := by decide +kernel
theorem dX4_faultsAt_91 : decode cX4_faultsAt 91 = .ok (.bipush 9, 2) := by decide +kernel
theorem dX4_faultsAt_93 : decode cX4_faultsAt 93 = .ok (.if_icmp .le 7, 3) := by decide +kernel
theorem dX4_faultsAt_96 : decode cX4_faultsAt 96 = .ok (.iconst 1, 1) := by decide +kernel
theorem dX4_faultsAt_97 : decode cX4_faultsAt 97 = .ok (.goto 4, 3) := by decide +kernel
theorem dX4_faultsAt_100 : decode cX4_faultsAt 100 = .ok (.iconst 0, 1) := by decide +kernel
theorem dX4_faultsAt_101 : decode cX4_faultsAt 101 = .ok (.ireturn, 1) := by decide +kernel
theorem dX4_faultsAt_102 : decode cX4_faultsAt 102 = .ok (.iload_n 2, 1) := by decide +kernel
theorem dX4_faultsAt_103 : decode cX4_faultsAt 103 = .ok (.ifCond .le 45, 3) := by decide +kernel
theorem dX4_faultsAt_106 : decode cX4_faultsAt 106 = .ok (.iload 5, 2) := by decide +kernel
theorem dX4_faultsAt_108 : decode cX4_faultsAt 108 = .ok (.ifCond .eq 40, 3) := by decide +kernel
theorem dX4_faultsAt_111 : decode cX4_faultsAt 111 = .ok (.aload_n 0, 1) := by decide +kernel
theorem dX4_faultsAt_112 : decode cX4_faultsAt 112 = .ok (.iload_n 1, 1) := by decide +kernel
theorem dX4_faultsAt_113 : decode cX4_faultsAt 113 = .ok (.iconst 0, 1) := by decide +kernel
theorem dX4_faultsAt_114 : decode cX4_faultsAt 114 = .ok (.iload_n 2, 1) := by decide +kernel
theorem dX4_faultsAt_115 : decode cX4_faultsAt 115 = .ok (.invokevirtual 90, 3) := by decide +kernel
theorem dX4_faultsAt_118 : decode cX4_faultsAt 118 = .ok (.ifCond .ne 30, 3) := by decide +kernel
theorem dX4_faultsAt_121 : decode cX4_faultsAt 121 = .ok (.aload_n 0, 1) := by decide +kernel
theorem dX4_faultsAt_122 : decode cX4_faultsAt 122 = .ok (.iload_n 1, 1) := by decide +kernel
theorem dX4_faultsAt_123 : decode cX4_faultsAt 123 = .ok (.iconst 1, 1) := by decide +kernel
theorem dX4_faultsAt_124 : decode cX4_faultsAt 124 = .ok (.iload_n 2, 1) := by decide +kernel
theorem dX4_faultsAt_125 : decode cX4_faultsAt 125 = .ok (.invokevirtual 90, 3) := by decide +kernel
theorem dX4_faultsAt_128 : decode cX4_faultsAt 128 = .ok (.ifCond .ne 20, 3) := by decide +kernel
theorem dX4_faultsAt_131 : decode cX4_faultsAt 131 = .ok (.aload_n 0, 1) := by decide +kernel
theorem dX4_faultsAt_132 : decode cX4_faultsAt 132 = .ok (.iload_n 1, 1) := by decide +kernel
theorem dX4_faultsAt_133 : decode cX4_faultsAt 133 = .ok (.iload_n 2, 1) := by decide +kernel
theorem dX4_faultsAt_134 : decode cX4_faultsAt 134 = .ok (.iconst 1, 1) := by decide +kernel
theorem dX4_faultsAt_135 : decode cX4_faultsAt 135 = .ok (.isub, 1) := by decide +kernel
theorem dX4_faultsAt_136 : decode cX4_faultsAt 136 = .ok (.invokevirtual 87, 3) := by decide +kernel
theorem dX4_faultsAt_139 : decode cX4_faultsAt 139 = .ok (.iload 4, 2) := by decide +kernel
theorem dX4_faultsAt_141 : decode cX4_faultsAt 141 = .ok (.if_icmp .ne 7, 3) := by decide +kernel
theorem dX4_faultsAt_144 : decode cX4_faultsAt 144 = .ok (.iconst 1, 1) := by decide +kernel
theorem dX4_faultsAt_145 : decode cX4_faultsAt 145 = .ok (.goto 4, 3) := by decide +kernel
theorem dX4_faultsAt_148 : decode cX4_faultsAt 148 = .ok (.iconst 0, 1) := by decide +kernel
theorem dX4_faultsAt_149 : decode cX4_faultsAt 149 = .ok (.ireturn, 1) := by decide +kernel
theorem dX4_faultsAt_150 : decode cX4_faultsAt 150 = .ok (.iload_n 2, 1) := by decide +kernel
theorem dX4_faultsAt_151 : decode cX4_faultsAt 151 = .ok (.ifCond .le 21, 3) := by decide +kernel
theorem dX4_faultsAt_154 : decode cX4_faultsAt 154 = .ok (.aload_n 0, 1) := by decide +kernel
theorem dX4_faultsAt_155 : decode cX4_faultsAt 155 = .ok (.iload_n 1, 1) := by decide +kernel
theorem dX4_faultsAt_156 : decode cX4_faultsAt 156 = .ok (.iconst 0, 1) := by decide +kernel
theorem dX4_faultsAt_157 : decode cX4_faultsAt 157 = .ok (.iload_n 2, 1) := by decide +kernel
theorem dX4_faultsAt_158 : decode cX4_faultsAt 158 = .ok (.invokevirtual 93, 3) := by decide +kernel
theorem dX4_faultsAt_161 : decode cX4_faultsAt 161 = .ok (.aload_n 0, 1) := by decide +kernel
theorem dX4_faultsAt_162 : decode cX4_faultsAt 162 = .ok (.iload_n 1, 1) := by decide +kernel
theorem dX4_faultsAt_163 : decode cX4_faultsAt 163 = .ok (.iconst 1, 1) := by decide +kernel
theorem dX4_faultsAt_164 : decode cX4_faultsAt 164 = .ok (.iload_n 2, 1) := by decide +kernel
theorem dX4_faultsAt_165 : decode cX4_faultsAt 165 = .ok (.invokevirtual 93, 3) := by decide +kernel
theorem dX4_faultsAt_168 : decode cX4_faultsAt 168 = .ok (.iadd, 1) := by decide +kernel
theorem dX4_faultsAt_169 : decode cX4_faultsAt 169 = .ok (.goto 4, 3) := by decide +kernel
theorem dX4_faultsAt_172 : decode cX4_faultsAt 172 = .ok (.iconst 0, 1) := by decide +kernel
theorem dX4_faultsAt_173 : decode cX4_faultsAt 173 = .ok (.ireturn, 1) := by decide +kernel
theorem dX4_faultsAt_174 : decode cX4_faultsAt 174 = .ok (.aload_n 0, 1) := by decide +kernel
theorem dX4_faultsAt_175 : decode cX4_faultsAt 175 = .ok (.getfield 23, 3) := by decide +kernel
theorem dX4_faultsAt_178 : decode cX4_faultsAt 178 = .ok (.iload_n 1, 1) := by decide +kernel
theorem dX4_faultsAt_179 : decode cX4_faultsAt 179 = .ok (.iconst 0, 1) := by decide +kernel
theorem dX4_faultsAt_180 : decode cX4_faultsAt 180 = .ok (.iload_n 2, 1) := by decide +kernel
theorem dX4_faultsAt_181 : decode cX4_faultsAt 181 = .ok (.invokestatic 62, 3) := by decide +kernel
theorem dX4_faultsAt_184 : decode cX4_faultsAt 184 = .ok (.iaload, 1) := by decide +kernel
theorem dX4_faultsAt_185 : decode cX4_faultsAt 185 = .ok (.aload_n 0, 1) := by decide +kernel
theorem dX4_faultsAt_186 : decode cX4_faultsAt 186 = .ok (.getfield 23, 3) := by decide +kernel
theorem dX4_faultsAt_189 : decode cX4_faultsAt 189 = .ok (.iload_n 1, 1) := by decide +kernel
theorem dX4_faultsAt_190 : decode cX4_faultsAt 190 = .ok (.iconst 1, 1) := by decide +kernel
theorem dX4_faultsAt_191 : decode cX4_faultsAt 191 = .ok (.iload_n 2, 1) := by decide +kernel
theorem dX4_faultsAt_192 : decode cX4_faultsAt 192 = .ok (.invokestatic 62, 3) := by decide +kernel
theorem dX4_faultsAt_195 : decode cX4_faultsAt 195 = .ok (.iaload, 1) := by decide +kernel
theorem dX4_faultsAt_196 : decode cX4_faultsAt 196 = .ok (.if_icmp .ge 7, 3) := by decide +kernel
theorem dX4_faultsAt_199 : decode cX4_faultsAt 199 = .ok (.iconst 1, 1) := by decide +kernel
theorem dX4_faultsAt_200 : decode cX4_faultsAt 200 = .ok (.goto 4, 3) := by decide +kernel
theorem dX4_faultsAt_203 : decode cX4_faultsAt 203 = .ok (.iconst 0, 1) := by decide +kernel
theorem dX4_faultsAt_204 : decode cX4_faultsAt 204 = .ok (.ireturn, 1) := by decide +kernel
theorem dX4_faultsAt_205 : decode cX4_faultsAt 205 = .ok (.iload 5, 2) := by decide +kernel
theorem dX4_faultsAt_207 : decode cX4_faultsAt 207 = .ok (.ifCond .eq 7, 3) := by decide +kernel
theorem dX4_faultsAt_210 : decode cX4_faultsAt 210 = .ok (.iconst 0, 1) := by decide +kernel
theorem dX4_faultsAt_211 : decode cX4_faultsAt 211 = .ok (.goto 30, 3) := by decide +kernel
theorem dX4_faultsAt_214 : decode cX4_faultsAt 214 = .ok (.iload_n 2, 1) := by decide +kernel
theorem dX4_faultsAt_215 : decode cX4_faultsAt 215 = .ok (.ifCond .ne 7, 3) := by decide +kernel
theorem dX4_faultsAt_218 : decode cX4_faultsAt 218 = .ok (.iconst 1, 1) := by decide +kernel
theorem dX4_faultsAt_219 : decode cX4_faultsAt 219 = .ok (.goto 4, 3) := by decide +kernel
theorem dX4_faultsAt_222 : decode cX4_faultsAt 222 = .ok (.iconst 0, 1) := by decide +kernel
theorem dX4_faultsAt_223 : decode cX4_faultsAt 223 = .ok (.iload_n 2, 1) := by decide +kernel
theorem dX4_faultsAt_224 : decode cX4_faultsAt 224 = .ok (.aload_n 0, 1) := by decide +kernel
theorem dX4_faultsAt_225 : decode cX4_faultsAt 225 = .ok (.getfield 7, 3) := by decide +kernel
theorem dX4_faultsAt_228 : decode cX4_faultsAt 228 = .ok (.iload_n 1, 1) := by decide +kernel
theorem dX4_faultsAt_229 : decode cX4_faultsAt 229 = .ok (.iaload, 1) := by decide +kernel
theorem dX4_faultsAt_230 : decode cX4_faultsAt 230 = .ok (.iconst 1, 1) := by decide +kernel
theorem dX4_faultsAt_231 : decode cX4_faultsAt 231 = .ok (.isub, 1) := by decide +kernel
theorem dX4_faultsAt_232 : decode cX4_faultsAt 232 = .ok (.if_icmp .ne 7, 3) := by decide +kernel
theorem dX4_faultsAt_235 : decode cX4_faultsAt 235 = .ok (.iconst 1, 1) := by decide +kernel
theorem dX4_faultsAt_236 : decode cX4_faultsAt 236 = .ok (.goto 4, 3) := by decide +kernel
theorem dX4_faultsAt_239 : decode cX4_faultsAt 239 = .ok (.iconst 0, 1) := by decide +kernel
theorem dX4_faultsAt_240 : decode cX4_faultsAt 240 = .ok (.iadd, 1) := by decide +kernel
theorem dX4_faultsAt_241 : decode cX4_faultsAt 241 = .ok (.ireturn, 1) := by decide +kernel
theorem dX4_faultsAt_242 : decode cX4_faultsAt 242 = .ok (.iload_n 2, 1) := by decide +kernel
theorem dX4_faultsAt_243 : decode cX4_faultsAt 243 = .ok (.iconst 1, 1) := by decide +kernel
theorem dX4_faultsAt_244 : decode cX4_faultsAt 244 = .ok (.if_icmp .le 29, 3) := by decide +kernel
theorem dX4_faultsAt_247 : decode cX4_faultsAt 247 = .ok (.aload_n 0, 1) := by decide +kernel
theorem dX4_faultsAt_248 : decode cX4_faultsAt 248 = .ok (.iload_n 1, 1) := by decide +kernel
theorem dX4_faultsAt_249 : decode cX4_faultsAt 249 = .ok (.iconst 0, 1) := by decide +kernel
theorem dX4_faultsAt_250 : decode cX4_faultsAt 250 = .ok (.iload_n 2, 1) := by decide +kernel
theorem dX4_faultsAt_251 : decode cX4_faultsAt 251 = .ok (.invokevirtual 90, 3) := by decide +kernel
theorem dX4_faultsAt_254 : decode cX4_faultsAt 254 = .ok (.ifCond .eq 19, 3) := by decide +kernel
theorem dX4_faultsAt_257 : decode cX4_faultsAt 257 = .ok (.aload_n 0, 1) := by decide +kernel
theorem dX4_faultsAt_258 : decode cX4_faultsAt 258 = .ok (.iload_n 1, 1) := by decide +kernel
theorem dX4_faultsAt_259 : decode cX4_faultsAt 259 = .ok (.iconst 0, 1) := by decide +kernel
theorem dX4_faultsAt_260 : decode cX4_faultsAt 260 = .ok (.iload_n 2, 1) := by decide +kernel
theorem dX4_faultsAt_261 : decode cX4_faultsAt 261 = .ok (.iconst 1, 1) := by decide +kernel
theorem dX4_faultsAt_262 : decode cX4_faultsAt 262 = .ok (.isub, 1) := by decide +kernel
theorem dX4_faultsAt_263 : decode cX4_faultsAt 263 = .ok (.invokevirtual 90, 3) := by decide +kernel
theorem dX4_faultsAt_266 : decode cX4_faultsAt 266 = .ok (.ifCond .eq 7, 3) := by decide +kernel
theorem dX4_faultsAt_269 : decode cX4_faultsAt 269 = .ok (.iconst 1, 1) := by decide +kernel
theorem dX4_faultsAt_270 : decode cX4_faultsAt 270 = .ok (.goto 4, 3) := by decide +kernel
theorem dX4_faultsAt_273 : decode cX4_faultsAt 273 = .ok (.iconst 0, 1) := by decide +kernel
theorem dX4_faultsAt_274 : decode cX4_faultsAt 274 = .ok (.ireturn, 1) := by decide +kernel
set_option maxRecDepth 20000 in
theorem ggX4_faults_X4_isNote : GoodIn wsX4_faults wsX4_isNote := goodIn_r _ [5, 6, 7, 8, 9, 4, 10, 11, 12, 13, 14, 43, 44, 45, 46, 47, 48, 49, 50, 51, 52, 53, 54, 55, 56] (by decide +kernel) (by decide +kernel)
set_option maxRecDepth 20000 in
theorem gX4_faults_X4_isNote : GoodIn wsX4_faults (wsV RX4 70 RX4 yX4_isNote wsX4_isNote) := goodIn_app (goodIn_of _ (by decide +kernel)) ggX4_faults_X4_isNote
set_option maxRecDepth 20000 in
theorem ggX4_faults_X4_isIn : GoodIn wsX4_faults wsX4_isIn := goodIn_r _ [14] (by decide +kernel) (by decide +kernel)
set_option maxRecDepth 20000 in
theorem gX4_faults_X4_isIn : GoodIn wsX4_faults (va_wsS RX4 51 yX4_isIn wsX4_isIn) := goodIn_app (goodIn_of _ (by decide +kernel)) ggX4_faults_X4_isIn
set_option maxRecDepth 20000 in
theorem ggX4_faults_X4_fails : GoodIn wsX4_faults wsX4_fails := goodIn_r _ [18, 19, 43, 44, 45, 46, 47, 48, 49, 50, 51, 52, 53, 54, 55, 56] (by decide +kernel) (by decide +kernel)
set_option maxRecDepth 20000 in
theorem gX4_faults_X4_fails : GoodIn wsX4_faults (wsV RX4 59 RX4 yX4_fails wsX4_fails) := goodIn_app (goodIn_of _ (by decide +kernel)) ggX4_faults_X4_fails
set_option maxRecDepth 20000 in
theorem ggX4_faults_X4_faultsAt : GoodIn wsX4_faults wsX4_faultsAt := goodIn_r _ [23, 24, 6, 25, 26, 27, 4, 28, 29, 30, 31, 32, 33, 34, 35, 36, 37, 38, 39, 40, 41, 42, 43, 44, 45, 46, 47, 48, 49, 50, 51, 52, 53, 54, 55, 56] (by decide +kernel) (by decide +kernel)
set_option maxRecDepth 20000 in
theorem gX4_faults_X4_faultsAt : GoodIn wsX4_faults (wsV RX4 96 RX4 yX4_faultsAt wsX4_faultsAt) := goodIn_app (goodIn_of _ (by decide +kernel)) ggX4_faults_X4_faultsAt
theorem dX4_faults_0 : decode cX4_faults 0 = .ok (.aload_n 0, 1) := by decide +kernel
theorem dX4_faults_1 : decode cX4_faults 1 = .ok (.iload_n 1, 1) := by decide +kernel
theorem dX4_faults_2 : decode cX4_faults 2 = .ok (.iconst 0, 1) := by decide +kernel
theorem dX4_faults_3 : decode cX4_faults 3 = .ok (.iload_n 2, 1) := by decide +kernel
theorem dX4_faults_4 : decode cX4_faults 4 = .ok (.invokevirtual 70, 3) := by decide +kernel
theorem dX4_faults_7 : decode cX4_faults 7 = .ok (.ifCond .eq 16, 3) := by decide +kernel
theorem dX4_faults_10 : decode cX4_faults 10 = .ok (.iload_n 3, 1) := by decide +kernel
theorem dX4_faults_11 : decode cX4_faults 11 = .ok (.iconst 0, 1) := by decide +kernel
theorem dX4_faults_12 : decode cX4_faults 12 = .ok (.iconst 5, 1) := by decide +kernel
theorem dX4_faults_13 : decode cX4_faults 13 = .ok (.invokestatic 51, 3) := by decide +kernel
theorem dX4_faults_16 : decode cX4_faults 16 = .ok (.ifCond .eq 7, 3) := by decide +kernel
theorem dX4_faults_19 : decode cX4_faults 19 = .ok (.iconst 1, 1) := by decide +kernel
theorem dX4_faults_20 : decode cX4_faults 20 = .ok (.goto 4, 3) := by decide +kernel
theorem dX4_faults_23 : decode cX4_faults 23 = .ok (.iconst 0, 1) := by decide +kernel
theorem dX4_faults_24 : decode cX4_faults 24 = .ok (.istore 4, 2) := by decide +kernel
theorem dX4_faults_26 : decode cX4_faults 26 = .ok (.aload_n 0, 1) := by decide +kernel
theorem dX4_faults_27 : decode cX4_faults 27 = .ok (.iload 4, 2) := by decide +kernel
theorem dX4_faults_29 : decode cX4_faults 29 = .ok (.ifCond .eq 7, 3) := by decide +kernel
theorem dX4_faults_32 : decode cX4_faults 32 = .ok (.iconst 0, 1) := by decide +kernel
theorem dX4_faults_33 : decode cX4_faults 33 = .ok (.goto 4, 3) := by decide +kernel
theorem dX4_faults_36 : decode cX4_faults 36 = .ok (.iconst 1, 1) := by decide +kernel
theorem dX4_faults_37 : decode cX4_faults 37 = .ok (.invokevirtual 59, 3) := by decide +kernel
theorem dX4_faults_40 : decode cX4_faults 40 = .ok (.ifCond .eq 7, 3) := by decide +kernel
theorem dX4_faults_43 : decode cX4_faults 43 = .ok (.iconst 0, 1) := by decide +kernel
theorem dX4_faults_44 : decode cX4_faults 44 = .ok (.goto 10, 3) := by decide +kernel
theorem dX4_faults_47 : decode cX4_faults 47 = .ok (.aload_n 0, 1) := by decide +kernel
theorem dX4_faults_48 : decode cX4_faults 48 = .ok (.iload_n 1, 1) := by decide +kernel
theorem dX4_faults_49 : decode cX4_faults 49 = .ok (.iload_n 2, 1) := by decide +kernel
theorem dX4_faults_50 : decode cX4_faults 50 = .ok (.iload_n 3, 1) := by decide +kernel
theorem dX4_faults_51 : decode cX4_faults 51 = .ok (.invokevirtual 96, 3) := by decide +kernel
theorem dX4_faults_54 : decode cX4_faults 54 = .ok (.ireturn, 1) := by decide +kernel
set_option maxRecDepth 20000 in
theorem ggX4_costs_X4_faultsAt : GoodIn wsX4_costs wsX4_faultsAt := goodIn_r _ [7, 8, 1, 9, 10, 11, 6, 12, 13, 14, 15, 16, 17, 18, 19, 20, 21, 22, 23, 24, 25, 26, 27, 28, 29, 30, 31, 32, 33, 34, 35, 36, 37, 38, 39, 40] (by decide +kernel) (by decide +kernel)
set_option maxRecDepth 20000 in
theorem gX4_costs_X4_faultsAt : GoodIn wsX4_costs (wsV RX4 96 RX4 yX4_faultsAt wsX4_faultsAt) := goodIn_app (goodIn_of _ (by decide +kernel)) ggX4_costs_X4_faultsAt
theorem dX4_costs_0 : decode cX4_costs 0 = .ok (.iconst 0, 1) := by decide +kernel
theorem dX4_costs_1 : decode cX4_costs 1 = .ok (.istore_n 2, 1) := by decide +kernel
theorem dX4_costs_2 : decode cX4_costs 2 = .ok (.iconst 0, 1) := by decide +kernel
theorem dX4_costs_3 : decode cX4_costs 3 = .ok (.istore_n 3, 1) := by decide +kernel
theorem dX4_costs_4 : decode cX4_costs 4 = .ok (.iload_n 3, 1) := by decide +kernel
theorem dX4_costs_5 : decode cX4_costs 5 = .ok (.aload_n 0, 1) := by decide +kernel
theorem dX4_costs_6 : decode cX4_costs 6 = .ok (.getfield 7, 3) := by decide +kernel
theorem dX4_costs_9 : decode cX4_costs 9 = .ok (.iload_n 1, 1) := by decide +kernel
theorem dX4_costs_10 : decode cX4_costs 10 = .ok (.iaload, 1) := by decide +kernel
theorem dX4_costs_11 : decode cX4_costs 11 = .ok (.bipush 6, 2) := by decide +kernel
theorem dX4_costs_13 : decode cX4_costs 13 = .ok (.imul, 1) := by decide +kernel
theorem dX4_costs_14 : decode cX4_costs 14 = .ok (.if_icmp .ge 35, 3) := by decide +kernel
theorem dX4_costs_17 : decode cX4_costs 17 = .ok (.iload_n 2, 1) := by decide +kernel
theorem dX4_costs_18 : decode cX4_costs 18 = .ok (.aload_n 0, 1) := by decide +kernel
theorem dX4_costs_19 : decode cX4_costs 19 = .ok (.getfield 26, 3) := by decide +kernel
theorem dX4_costs_22 : decode cX4_costs 22 = .ok (.iload_n 3, 1) := by decide +kernel
theorem dX4_costs_23 : decode cX4_costs 23 = .ok (.bipush 6, 2) := by decide +kernel
theorem dX4_costs_25 : decode cX4_costs 25 = .ok (.irem, 1) := by decide +kernel
theorem dX4_costs_26 : decode cX4_costs 26 = .ok (.iaload, 1) := by decide +kernel
theorem dX4_costs_27 : decode cX4_costs 27 = .ok (.aload_n 0, 1) := by decide +kernel
theorem dX4_costs_28 : decode cX4_costs 28 = .ok (.iload_n 1, 1) := by decide +kernel
theorem dX4_costs_29 : decode cX4_costs 29 = .ok (.iload_n 3, 1) := by decide +kernel
theorem dX4_costs_30 : decode cX4_costs 30 = .ok (.bipush 6, 2) := by decide +kernel
theorem dX4_costs_32 : decode cX4_costs 32 = .ok (.idiv, 1) := by decide +kernel
theorem dX4_costs_33 : decode cX4_costs 33 = .ok (.iload_n 3, 1) := by decide +kernel
theorem dX4_costs_34 : decode cX4_costs 34 = .ok (.bipush 6, 2) := by decide +kernel
theorem dX4_costs_36 : decode cX4_costs 36 = .ok (.irem, 1) := by decide +kernel
theorem dX4_costs_37 : decode cX4_costs 37 = .ok (.invokevirtual 96, 3) := by decide +kernel
theorem dX4_costs_40 : decode cX4_costs 40 = .ok (.imul, 1) := by decide +kernel
theorem dX4_costs_41 : decode cX4_costs 41 = .ok (.iadd, 1) := by decide +kernel
theorem dX4_costs_42 : decode cX4_costs 42 = .ok (.istore_n 2, 1) := by decide +kernel
theorem dX4_costs_43 : decode cX4_costs 43 = .ok (.iinc 3 1, 3) := by decide +kernel
theorem dX4_costs_46 : decode cX4_costs 46 = .ok (.goto (-42), 3) := by decide +kernel
theorem dX4_costs_49 : decode cX4_costs 49 = .ok (.iload_n 2, 1) := by decide +kernel
theorem dX4_costs_50 : decode cX4_costs 50 = .ok (.ireturn, 1) := by decide +kernel
set_option maxRecDepth 20000 in
theorem ggX4_markOf_X4_costs : GoodIn wsX4_markOf wsX4_costs := goodIn_r _ [5, 6, 7, 8, 9, 10, 4, 11, 12, 13, 14, 15, 16, 17, 18, 19, 20, 21, 22, 23, 24, 25, 26, 27, 28, 29, 30, 31, 32, 33, 34, 35, 36, 37, 38, 39, 40, 41, 42, 43, 44] (by decide +kernel) (by decide +kernel)
set_option maxRecDepth 20000 in
theorem gX4_markOf_X4_costs : GoodIn wsX4_markOf (wsV RX4 99 RX4 yX4_costs wsX4_costs) := goodIn_app (goodIn_of _ (by decide +kernel)) ggX4_markOf_X4_costs
theorem dX4_markOf_0 : decode cX4_markOf 0 = .ok (.aload_n 0, 1) := by decide +kernel
theorem dX4_markOf_1 : decode cX4_markOf 1 = .ok (.iload_n 1, 1) := by decide +kernel
theorem dX4_markOf_2 : decode cX4_markOf 2 = .ok (.invokevirtual 99, 3) := by decide +kernel
theorem dX4_markOf_5 : decode cX4_markOf 5 = .ok (.bipush 100, 2) := by decide +kernel
theorem dX4_markOf_7 : decode cX4_markOf 7 = .ok (.if_icmp .le 7, 3) := by decide +kernel
theorem dX4_markOf_10 : decode cX4_markOf 10 = .ok (.iconst 0, 1) := by decide +kernel
theorem dX4_markOf_11 : decode cX4_markOf 11 = .ok (.goto 11, 3) := by decide +kernel
theorem dX4_markOf_14 : decode cX4_markOf 14 = .ok (.bipush 100, 2) := by decide +kernel
theorem dX4_markOf_16 : decode cX4_markOf 16 = .ok (.aload_n 0, 1) := by decide +kernel
theorem dX4_markOf_17 : decode cX4_markOf 17 = .ok (.iload_n 1, 1) := by decide +kernel
theorem dX4_markOf_18 : decode cX4_markOf 18 = .ok (.invokevirtual 99, 3) := by decide +kernel
theorem dX4_markOf_21 : decode cX4_markOf 21 = .ok (.isub, 1) := by decide +kernel
theorem dX4_markOf_22 : decode cX4_markOf 22 = .ok (.ireturn, 1) := by decide +kernel
set_option maxRecDepth 20000 in
theorem ggX4_mark_X4_isVersion : GoodIn wsX4_mark wsX4_isVersion := goodIn_r _ [5, 6, 7, 8, 4, 9, 48, 49, 50, 51, 52, 53, 54, 55, 56, 57, 58, 59, 60, 61] (by decide +kernel) (by decide +kernel)
set_option maxRecDepth 20000 in
theorem gX4_mark_X4_isVersion : GoodIn wsX4_mark (wsV RX4 55 RX4 yX4_isVersion wsX4_isVersion) := goodIn_app (goodIn_of _ (by decide +kernel)) ggX4_mark_X4_isVersion
set_option maxRecDepth 20000 in
theorem ggX4_mark_X4_fails : GoodIn wsX4_mark wsX4_fails := goodIn_r _ [13, 14, 48, 49, 50, 51, 52, 53, 54, 55, 56, 57, 58, 59, 60, 61] (by decide +kernel) (by decide +kernel)
set_option maxRecDepth 20000 in
theorem gX4_mark_X4_fails : GoodIn wsX4_mark (wsV RX4 59 RX4 yX4_fails wsX4_fails) := goodIn_app (goodIn_of _ (by decide +kernel)) ggX4_mark_X4_fails
set_option maxRecDepth 20000 in
theorem ggX4_mark_X4_markOf : GoodIn wsX4_mark wsX4_markOf := goodIn_r _ [18, 19, 20, 21, 4, 22, 23, 24, 25, 26, 27, 28, 29, 30, 31, 32, 33, 34, 35, 36, 37, 38, 39, 40, 41, 42, 43, 44, 45, 46, 47, 48, 49, 50, 51, 52, 53, 54, 55, 56, 57, 58, 59, 60, 61] (by decide +kernel) (by decide +kernel)
set_option maxRecDepth 20000 in
theorem gX4_mark_X4_markOf : GoodIn wsX4_mark (wsV RX4 102 RX4 yX4_markOf wsX4_markOf) := goodIn_app (goodIn_of _ (by decide +kernel)) ggX4_mark_X4_markOf
theorem dX4_mark_0 : decode cX4_mark 0 = .ok (.aload_n 0, 1) := by decide +kernel
theorem dX4_mark_1 : decode cX4_mark 1 = .ok (.aload_n 0, 1) := by decide +kernel
theorem dX4_mark_2 : decode cX4_mark 2 = .ok (.iload_n 1, 1) := by decide +kernel
theorem dX4_mark_3 : decode cX4_mark 3 = .ok (.invokevirtual 55, 3) := by decide +kernel
theorem dX4_mark_6 : decode cX4_mark 6 = .ok (.ifCond .eq 7, 3) := by decide +kernel
theorem dX4_mark_9 : decode cX4_mark 9 = .ok (.iconst 0, 1) := by decide +kernel
theorem dX4_mark_10 : decode cX4_mark 10 = .ok (.goto 4, 3) := by decide +kernel
theorem dX4_mark_13 : decode cX4_mark 13 = .ok (.iconst 1, 1) := by decide +kernel
theorem dX4_mark_14 : decode cX4_mark 14 = .ok (.invokevirtual 59, 3) := by decide +kernel
theorem dX4_mark_17 : decode cX4_mark 17 = .ok (.ifCond .eq 7, 3) := by decide +kernel
theorem dX4_mark_20 : decode cX4_mark 20 = .ok (.iconst 0, 1) := by decide +kernel
theorem dX4_mark_21 : decode cX4_mark 21 = .ok (.goto 8, 3) := by decide +kernel
theorem dX4_mark_24 : decode cX4_mark 24 = .ok (.aload_n 0, 1) := by decide +kernel
theorem dX4_mark_25 : decode cX4_mark 25 = .ok (.iload_n 1, 1) := by decide +kernel
theorem dX4_mark_26 : decode cX4_mark 26 = .ok (.invokevirtual 102, 3) := by decide +kernel
theorem dX4_mark_29 : decode cX4_mark 29 = .ok (.ireturn, 1) := by decide +kernel
set_option maxRecDepth 20000 in
theorem ggX4_handIn_X4_isVersion : GoodIn wsX4_handIn wsX4_isVersion := goodIn_r _ [7, 8, 9, 10, 6, 11, 50, 51, 52, 53, 54, 55, 56, 57, 58, 59, 60, 61, 62, 63] (by decide +kernel) (by decide +kernel)
set_option maxRecDepth 20000 in
theorem gX4_handIn_X4_isVersion : GoodIn wsX4_handIn (wsV RX4 55 RX4 yX4_isVersion wsX4_isVersion) := goodIn_app (goodIn_of _ (by decide +kernel)) ggX4_handIn_X4_isVersion
set_option maxRecDepth 20000 in
theorem ggX4_handIn_X4_fails : GoodIn wsX4_handIn wsX4_fails := goodIn_r _ [15, 16, 50, 51, 52, 53, 54, 55, 56, 57, 58, 59, 60, 61, 62, 63] (by decide +kernel) (by decide +kernel)
set_option maxRecDepth 20000 in
theorem gX4_handIn_X4_fails : GoodIn wsX4_handIn (wsV RX4 59 RX4 yX4_fails wsX4_fails) := goodIn_app (goodIn_of _ (by decide +kernel)) ggX4_handIn_X4_fails
set_option maxRecDepth 20000 in
theorem ggX4_handIn_X4_markOf : GoodIn wsX4_handIn wsX4_markOf := goodIn_r _ [20, 21, 22, 23, 6, 24, 25, 26, 27, 28, 29, 30, 31, 32, 33, 34, 35, 36, 37, 38, 39, 40, 41, 42, 43, 44, 45, 46, 47, 48, 49, 50, 51, 52, 53, 54, 55, 56, 57, 58, 59, 60, 61, 62, 63] (by decide +kernel) (by decide +kernel)
set_option maxRecDepth 20000 in
theorem gX4_handIn_X4_markOf : GoodIn wsX4_handIn (wsV RX4 102 RX4 yX4_markOf wsX4_markOf) := goodIn_app (goodIn_of _ (by decide +kernel)) ggX4_handIn_X4_markOf
theorem dX4_handIn_0 : decode cX4_handIn 0 = .ok (.aload_n 0, 1) := by decide +kernel
theorem dX4_handIn_1 : decode cX4_handIn 1 = .ok (.aload_n 0, 1) := by decide +kernel
theorem dX4_handIn_2 : decode cX4_handIn 2 = .ok (.iload_n 1, 1) := by decide +kernel
theorem dX4_handIn_3 : decode cX4_handIn 3 = .ok (.invokevirtual 55, 3) := by decide +kernel
theorem dX4_handIn_6 : decode cX4_handIn 6 = .ok (.ifCond .eq 7, 3) := by decide +kernel
theorem dX4_handIn_9 : decode cX4_handIn 9 = .ok (.iconst 0, 1) := by decide +kernel
theorem dX4_handIn_10 : decode cX4_handIn 10 = .ok (.goto 4, 3) := by decide +kernel
theorem dX4_handIn_13 : decode cX4_handIn 13 = .ok (.iconst 1, 1) := by decide +kernel
theorem dX4_handIn_14 : decode cX4_handIn 14 = .ok (.invokevirtual 59, 3) := by decide +kernel
theorem dX4_handIn_17 : decode cX4_handIn 17 = .ok (.ifCond .eq 5, 3) := by decide +kernel
theorem dX4_handIn_20 : decode cX4_handIn 20 = .ok (.iconst 0, 1) := by decide +kernel
theorem dX4_handIn_21 : decode cX4_handIn 21 = .ok (.ireturn, 1) := by decide +kernel
theorem dX4_handIn_22 : decode cX4_handIn 22 = .ok (.aload_n 0, 1) := by decide +kernel
theorem dX4_handIn_23 : decode cX4_handIn 23 = .ok (.getfield 20, 3) := by decide +kernel
theorem dX4_handIn_26 : decode cX4_handIn 26 = .ok (.iload_n 1, 1) := by decide +kernel
theorem dX4_handIn_27 : decode cX4_handIn 27 = .ok (.aload_n 0, 1) := by decide +kernel
theorem dX4_handIn_28 : decode cX4_handIn 28 = .ok (.iload_n 1, 1) := by decide +kernel
theorem dX4_handIn_29 : decode cX4_handIn 29 = .ok (.invokevirtual 102, 3) := by decide +kernel
theorem dX4_handIn_32 : decode cX4_handIn 32 = .ok (.aload_n 0, 1) := by decide +kernel
theorem dX4_handIn_33 : decode cX4_handIn 33 = .ok (.getfield 29, 3) := by decide +kernel
theorem dX4_handIn_36 : decode cX4_handIn 36 = .ok (.if_icmp .lt 7, 3) := by decide +kernel
theorem dX4_handIn_39 : decode cX4_handIn 39 = .ok (.iconst 1, 1) := by decide +kernel
theorem dX4_handIn_40 : decode cX4_handIn 40 = .ok (.goto 4, 3) := by decide +kernel
theorem dX4_handIn_43 : decode cX4_handIn 43 = .ok (.iconst 0, 1) := by decide +kernel
theorem dX4_handIn_44 : decode cX4_handIn 44 = .ok (.bastore, 1) := by decide +kernel
theorem dX4_handIn_45 : decode cX4_handIn 45 = .ok (.aload_n 0, 1) := by decide +kernel
theorem dX4_handIn_46 : decode cX4_handIn 46 = .ok (.getfield 20, 3) := by decide +kernel
theorem dX4_handIn_49 : decode cX4_handIn 49 = .ok (.iload_n 1, 1) := by decide +kernel
theorem dX4_handIn_50 : decode cX4_handIn 50 = .ok (.baload, 1) := by decide +kernel
theorem dX4_handIn_51 : decode cX4_handIn 51 = .ok (.ireturn, 1) := by decide +kernel
set_option maxRecDepth 20000 in
theorem ggX4_fallen_X4_markOf : GoodIn wsX4_fallen wsX4_markOf := goodIn_r _ [9, 10, 11, 12, 8, 13, 14, 15, 16, 17, 18, 19, 20, 21, 22, 23, 24, 25, 26, 27, 28, 29, 30, 31, 32, 33, 34, 35, 36, 37, 38, 39, 40, 41, 42, 43, 44, 45, 46, 47, 48, 49, 50, 51, 52] (by decide +kernel) (by decide +kernel)
set_option maxRecDepth 20000 in
theorem gX4_fallen_X4_markOf : GoodIn wsX4_fallen (wsV RX4 102 RX4 yX4_markOf wsX4_markOf) := goodIn_app (goodIn_of _ (by decide +kernel)) ggX4_fallen_X4_markOf
theorem dX4_fallen_0 : decode cX4_fallen 0 = .ok (.aload_n 0, 1) := by decide +kernel
theorem dX4_fallen_1 : decode cX4_fallen 1 = .ok (.iconst 0, 1) := by decide +kernel
theorem dX4_fallen_2 : decode cX4_fallen 2 = .ok (.putfield 45, 3) := by decide +kernel
theorem dX4_fallen_5 : decode cX4_fallen 5 = .ok (.iconst 0, 1) := by decide +kernel
theorem dX4_fallen_6 : decode cX4_fallen 6 = .ok (.istore_n 1, 1) := by decide +kernel
theorem dX4_fallen_7 : decode cX4_fallen 7 = .ok (.iconst 0, 1) := by decide +kernel
theorem dX4_fallen_8 : decode cX4_fallen 8 = .ok (.istore_n 2, 1) := by decide +kernel
theorem dX4_fallen_9 : decode cX4_fallen 9 = .ok (.iload_n 2, 1) := by decide +kernel
theorem dX4_fallen_10 : decode cX4_fallen 10 = .ok (.aload_n 0, 1) := by decide +kernel
theorem dX4_fallen_11 : decode cX4_fallen 11 = .ok (.getfield 48, 3) := by decide +kernel
theorem dX4_fallen_14 : decode cX4_fallen 14 = .ok (.if_icmp .ge 40, 3) := by decide +kernel
theorem dX4_fallen_17 : decode cX4_fallen 17 = .ok (.iload_n 1, 1) := by decide +kernel
theorem dX4_fallen_18 : decode cX4_fallen 18 = .ok (.aload_n 0, 1) := by decide +kernel
theorem dX4_fallen_19 : decode cX4_fallen 19 = .ok (.getfield 20, 3) := by decide +kernel
theorem dX4_fallen_22 : decode cX4_fallen 22 = .ok (.iload_n 2, 1) := by decide +kernel
theorem dX4_fallen_23 : decode cX4_fallen 23 = .ok (.baload, 1) := by decide +kernel
theorem dX4_fallen_24 : decode cX4_fallen 24 = .ok (.ifCond .eq 21, 3) := by decide +kernel
theorem dX4_fallen_27 : decode cX4_fallen 27 = .ok (.aload_n 0, 1) := by decide +kernel
theorem dX4_fallen_28 : decode cX4_fallen 28 = .ok (.iload_n 2, 1) := by decide +kernel
theorem dX4_fallen_29 : decode cX4_fallen 29 = .ok (.invokevirtual 102, 3) := by decide +kernel
theorem dX4_fallen_32 : decode cX4_fallen 32 = .ok (.aload_n 0, 1) := by decide +kernel
theorem dX4_fallen_33 : decode cX4_fallen 33 = .ok (.getfield 29, 3) := by decide +kernel
theorem dX4_fallen_36 : decode cX4_fallen 36 = .ok (.if_icmp .ge 9, 3) := by decide +kernel
theorem dX4_fallen_39 : decode cX4_fallen 39 = .ok (.iconst 1, 1) := by decide +kernel
theorem dX4_fallen_40 : decode cX4_fallen 40 = .ok (.iload_n 2, 1) := by decide +kernel
theorem dX4_fallen_41 : decode cX4_fallen 41 = .ok (.ishl, 1) := by decide +kernel
theorem dX4_fallen_42 : decode cX4_fallen 42 = .ok (.goto 4, 3) := by decide +kernel
theorem dX4_fallen_45 : decode cX4_fallen 45 = .ok (.iconst 0, 1) := by decide +kernel
theorem dX4_fallen_46 : decode cX4_fallen 46 = .ok (.ior, 1) := by decide +kernel
theorem dX4_fallen_47 : decode cX4_fallen 47 = .ok (.istore_n 1, 1) := by decide +kernel
theorem dX4_fallen_48 : decode cX4_fallen 48 = .ok (.iinc 2 1, 3) := by decide +kernel
theorem dX4_fallen_51 : decode cX4_fallen 51 = .ok (.goto (-42), 3) := by decide +kernel
theorem dX4_fallen_54 : decode cX4_fallen 54 = .ok (.iload_n 1, 1) := by decide +kernel
theorem dX4_fallen_55 : decode cX4_fallen 55 = .ok (.ireturn, 1) := by decide +kernel
set_option maxRecDepth 20000 in
theorem ggX4_best_X4_isNote : GoodIn wsX4_best wsX4_isNote := goodIn_r _ [6, 7, 8, 9, 10, 5, 11, 12, 13, 14, 15, 48, 49, 50, 51, 52, 53, 54, 55, 56, 57, 58, 59, 60, 61] (by decide +kernel) (by decide +kernel)
set_option maxRecDepth 20000 in
theorem gX4_best_X4_isNote : GoodIn wsX4_best (wsV RX4 70 RX4 yX4_isNote wsX4_isNote) := goodIn_app (goodIn_of _ (by decide +kernel)) ggX4_best_X4_isNote
set_option maxRecDepth 20000 in
theorem ggX4_best_X4_fails : GoodIn wsX4_best wsX4_fails := goodIn_r _ [19, 20, 48, 49, 50, 51, 52, 53, 54, 55, 56, 57, 58, 59, 60, 61] (by decide +kernel) (by decide +kernel)
set_option maxRecDepth 20000 in
theorem gX4_best_X4_fails : GoodIn wsX4_best (wsV RX4 59 RX4 yX4_fails wsX4_fails) := goodIn_app (goodIn_of _ (by decide +kernel)) ggX4_best_X4_fails
set_option maxRecDepth 20000 in
theorem ggX4_best_X4_at : GoodIn wsX4_best wsX4_at := goodIn_r _ [23] (by decide +kernel) (by decide +kernel)
set_option maxRecDepth 20000 in
theorem gX4_best_X4_at : GoodIn wsX4_best (va_wsS RX4 62 yX4_at wsX4_at) := goodIn_app (goodIn_of _ (by decide +kernel)) ggX4_best_X4_at
set_option maxRecDepth 20000 in
theorem ggX4_best_X4_costs : GoodIn wsX4_best wsX4_costs := goodIn_r _ [27, 7, 28, 29, 30, 31, 5, 32, 1, 33, 34, 35, 36, 21, 22, 23, 37, 38, 39, 40, 41, 42, 43, 44, 45, 46, 47, 48, 49, 50, 51, 52, 53, 54, 55, 56, 57, 58, 59, 60, 61] (by decide +kernel) (by decide +kernel)
set_option maxRecDepth 20000 in
theorem gX4_best_X4_costs : GoodIn wsX4_best (wsV RX4 99 RX4 yX4_costs wsX4_costs) := goodIn_app (goodIn_of _ (by decide +kernel)) ggX4_best_X4_costs
theorem dX4_best_0 : decode cX4_best 0 = .ok (.aload_n 0, 1) := by decide +kernel
theorem dX4_best_1 : decode cX4_best 1 = .ok (.aload_n 0, 1) := by decide +kernel
theorem dX4_best_2 : decode cX4_best 2 = .ok (.iload_n 1, 1) := by decide +kernel
theorem dX4_best_3 : decode cX4_best 3 = .ok (.iload_n 2, 1) := by decide +kernel
theorem dX4_best_4 : decode cX4_best 4 = .ok (.iload_n 3, 1) := by decide +kernel
theorem dX4_best_5 : decode cX4_best 5 = .ok (.invokevirtual 70, 3) := by decide +kernel
theorem dX4_best_8 : decode cX4_best 8 = .ok (.ifCond .eq 7, 3) := by decide +kernel
theorem dX4_best_11 : decode cX4_best 11 = .ok (.iconst 0, 1) := by decide +kernel
theorem dX4_best_12 : decode cX4_best 12 = .ok (.goto 4, 3) := by decide +kernel
theorem dX4_best_15 : decode cX4_best 15 = .ok (.iconst 1, 1) := by decide +kernel
theorem dX4_best_16 : decode cX4_best 16 = .ok (.invokevirtual 59, 3) := by decide +kernel
theorem dX4_best_19 : decode cX4_best 19 = .ok (.ifCond .eq 5, 3) := by decide +kernel
theorem dX4_best_22 : decode cX4_best 22 = .ok (.iconst 0, 1) := by decide +kernel
theorem dX4_best_23 : decode cX4_best 23 = .ok (.ireturn, 1) := by decide +kernel
theorem dX4_best_24 : decode cX4_best 24 = .ok (.aload_n 0, 1) := by decide +kernel
theorem dX4_best_25 : decode cX4_best 25 = .ok (.getfield 23, 3) := by decide +kernel
theorem dX4_best_28 : decode cX4_best 28 = .ok (.iload_n 1, 1) := by decide +kernel
theorem dX4_best_29 : decode cX4_best 29 = .ok (.iload_n 2, 1) := by decide +kernel
theorem dX4_best_30 : decode cX4_best 30 = .ok (.iload_n 3, 1) := by decide +kernel
theorem dX4_best_31 : decode cX4_best 31 = .ok (.invokestatic 62, 3) := by decide +kernel
theorem dX4_best_34 : decode cX4_best 34 = .ok (.iaload, 1) := by decide +kernel
theorem dX4_best_35 : decode cX4_best 35 = .ok (.istore 4, 2) := by decide +kernel
theorem dX4_best_37 : decode cX4_best 37 = .ok (.iconst (-1), 1) := by decide +kernel
theorem dX4_best_38 : decode cX4_best 38 = .ok (.istore 5, 2) := by decide +kernel
theorem dX4_best_40 : decode cX4_best 40 = .ok (.iconst 0, 1) := by decide +kernel
theorem dX4_best_41 : decode cX4_best 41 = .ok (.istore 6, 2) := by decide +kernel
theorem dX4_best_43 : decode cX4_best 43 = .ok (.iconst 0, 1) := by decide +kernel
theorem dX4_best_44 : decode cX4_best 44 = .ok (.istore 7, 2) := by decide +kernel
theorem dX4_best_46 : decode cX4_best 46 = .ok (.iload 7, 2) := by decide +kernel
theorem dX4_best_48 : decode cX4_best 48 = .ok (.bipush 40, 2) := by decide +kernel
theorem dX4_best_50 : decode cX4_best 50 = .ok (.if_icmp .gt 77, 3) := by decide +kernel
theorem dX4_best_53 : decode cX4_best 53 = .ok (.aload_n 0, 1) := by decide +kernel
theorem dX4_best_54 : decode cX4_best 54 = .ok (.getfield 23, 3) := by decide +kernel
theorem dX4_best_57 : decode cX4_best 57 = .ok (.iload_n 1, 1) := by decide +kernel
theorem dX4_best_58 : decode cX4_best 58 = .ok (.iload_n 2, 1) := by decide +kernel
theorem dX4_best_59 : decode cX4_best 59 = .ok (.iload_n 3, 1) := by decide +kernel
theorem dX4_best_60 : decode cX4_best 60 = .ok (.invokestatic 62, 3) := by decide +kernel
theorem dX4_best_63 : decode cX4_best 63 = .ok (.iload 7, 2) := by decide +kernel
theorem dX4_best_65 : decode cX4_best 65 = .ok (.iastore, 1) := by decide +kernel
theorem dX4_best_66 : decode cX4_best 66 = .ok (.aload_n 0, 1) := by decide +kernel
theorem dX4_best_67 : decode cX4_best 67 = .ok (.iload_n 1, 1) := by decide +kernel
theorem dX4_best_68 : decode cX4_best 68 = .ok (.invokevirtual 99, 3) := by decide +kernel
theorem dX4_best_71 : decode cX4_best 71 = .ok (.istore 8, 2) := by decide +kernel
theorem dX4_best_73 : decode cX4_best 73 = .ok (.iload 5, 2) := by decide +kernel
theorem dX4_best_75 : decode cX4_best 75 = .ok (.iconst (-1), 1) := by decide +kernel
theorem dX4_best_76 : decode cX4_best 76 = .ok (.if_icmp .eq 10, 3) := by decide +kernel
theorem dX4_best_79 : decode cX4_best 79 = .ok (.iload 8, 2) := by decide +kernel
theorem dX4_best_81 : decode cX4_best 81 = .ok (.iload 6, 2) := by decide +kernel
theorem dX4_best_83 : decode cX4_best 83 = .ok (.if_icmp .ge 7, 3) := by decide +kernel
theorem dX4_best_86 : decode cX4_best 86 = .ok (.iconst 1, 1) := by decide +kernel
theorem dX4_best_87 : decode cX4_best 87 = .ok (.goto 4, 3) := by decide +kernel
theorem dX4_best_90 : decode cX4_best 90 = .ok (.iconst 0, 1) := by decide +kernel
theorem dX4_best_91 : decode cX4_best 91 = .ok (.istore 9, 2) := by decide +kernel
theorem dX4_best_93 : decode cX4_best 93 = .ok (.iload 9, 2) := by decide +kernel
theorem dX4_best_95 : decode cX4_best 95 = .ok (.ifCond .eq 8, 3) := by decide +kernel
theorem dX4_best_98 : decode cX4_best 98 = .ok (.iload 7, 2) := by decide +kernel
theorem dX4_best_100 : decode cX4_best 100 = .ok (.goto 5, 3) := by decide +kernel
theorem dX4_best_103 : decode cX4_best 103 = .ok (.iload 5, 2) := by decide +kernel
theorem dX4_best_105 : decode cX4_best 105 = .ok (.istore 5, 2) := by decide +kernel
theorem dX4_best_107 : decode cX4_best 107 = .ok (.iload 9, 2) := by decide +kernel
theorem dX4_best_109 : decode cX4_best 109 = .ok (.ifCond .eq 8, 3) := by decide +kernel
theorem dX4_best_112 : decode cX4_best 112 = .ok (.iload 8, 2) := by decide +kernel
theorem dX4_best_114 : decode cX4_best 114 = .ok (.goto 5, 3) := by decide +kernel
theorem dX4_best_117 : decode cX4_best 117 = .ok (.iload 6, 2) := by decide +kernel
theorem dX4_best_119 : decode cX4_best 119 = .ok (.istore 6, 2) := by decide +kernel
theorem dX4_best_121 : decode cX4_best 121 = .ok (.iinc 7 1, 3) := by decide +kernel
theorem dX4_best_124 : decode cX4_best 124 = .ok (.goto (-78), 3) := by decide +kernel
theorem dX4_best_127 : decode cX4_best 127 = .ok (.aload_n 0, 1) := by decide +kernel
theorem dX4_best_128 : decode cX4_best 128 = .ok (.getfield 23, 3) := by decide +kernel
theorem dX4_best_131 : decode cX4_best 131 = .ok (.iload_n 1, 1) := by decide +kernel
theorem dX4_best_132 : decode cX4_best 132 = .ok (.iload_n 2, 1) := by decide +kernel
theorem dX4_best_133 : decode cX4_best 133 = .ok (.iload_n 3, 1) := by decide +kernel
theorem dX4_best_134 : decode cX4_best 134 = .ok (.invokestatic 62, 3) := by decide +kernel
theorem dX4_best_137 : decode cX4_best 137 = .ok (.iload 4, 2) := by decide +kernel
theorem dX4_best_139 : decode cX4_best 139 = .ok (.iastore, 1) := by decide +kernel
theorem dX4_best_140 : decode cX4_best 140 = .ok (.iload 5, 2) := by decide +kernel
theorem dX4_best_142 : decode cX4_best 142 = .ok (.ireturn, 1) := by decide +kernel
set_option maxRecDepth 20000 in
theorem ggX4_movement_X4_isNote : GoodIn wsX4_movement wsX4_isNote := goodIn_r _ [7, 1, 8, 9, 10, 6, 11, 12, 13, 14, 15, 27, 28, 29, 30, 31, 32, 33, 34, 35, 36, 37, 38, 39, 40] (by decide +kernel) (by decide +kernel)
set_option maxRecDepth 20000 in
theorem gX4_movement_X4_isNote : GoodIn wsX4_movement (wsV RX4 70 RX4 yX4_isNote wsX4_isNote) := goodIn_app (goodIn_of _ (by decide +kernel)) ggX4_movement_X4_isNote
set_option maxRecDepth 20000 in
theorem ggX4_movement_X4_fails : GoodIn wsX4_movement wsX4_fails := goodIn_r _ [19, 20, 27, 28, 29, 30, 31, 32, 33, 34, 35, 36, 37, 38, 39, 40] (by decide +kernel) (by decide +kernel)
set_option maxRecDepth 20000 in
theorem gX4_movement_X4_fails : GoodIn wsX4_movement (wsV RX4 59 RX4 yX4_fails wsX4_fails) := goodIn_app (goodIn_of _ (by decide +kernel)) ggX4_movement_X4_fails
set_option maxRecDepth 20000 in
theorem ggX4_movement_X4_at : GoodIn wsX4_movement wsX4_at := goodIn_r _ [23] (by decide +kernel) (by decide +kernel)
set_option maxRecDepth 20000 in
theorem gX4_movement_X4_at : GoodIn wsX4_movement (va_wsS RX4 62 yX4_at wsX4_at) := goodIn_app (goodIn_of _ (by decide +kernel)) ggX4_movement_X4_at
set_option maxRecDepth 20000 in
theorem ggX4_movement_X4_away : GoodIn wsX4_movement wsX4_away := goodIn_r _ [26] (by decide +kernel) (by decide +kernel)
set_option maxRecDepth 20000 in
theorem gX4_movement_X4_away : GoodIn wsX4_movement (va_wsS RX4 84 yX4_away wsX4_away) := goodIn_app (goodIn_of _ (by decide +kernel)) ggX4_movement_X4_away
theorem dX4_movement_0 : decode cX4_movement 0 = .ok (.aload_n 0, 1) := by decide +kernel
theorem dX4_movement_1 : decode cX4_movement 1 = .ok (.aload_n 0, 1) := by decide +kernel
theorem dX4_movement_2 : decode cX4_movement 2 = .ok (.iload_n 1, 1) := by decide +kernel
theorem dX4_movement_3 : decode cX4_movement 3 = .ok (.iload_n 2, 1) := by decide +kernel
theorem dX4_movement_4 : decode cX4_movement 4 = .ok (.iconst 0, 1) := by decide +kernel
theorem dX4_movement_5 : decode cX4_movement 5 = .ok (.invokevirtual 70, 3) := by decide +kernel
theorem dX4_movement_8 : decode cX4_movement 8 = .ok (.ifCond .eq 7, 3) := by decide +kernel
theorem dX4_movement_11 : decode cX4_movement 11 = .ok (.iconst 0, 1) := by decide +kernel
theorem dX4_movement_12 : decode cX4_movement 12 = .ok (.goto 4, 3) := by decide +kernel
theorem dX4_movement_15 : decode cX4_movement 15 = .ok (.iconst 1, 1) := by decide +kernel
theorem dX4_movement_16 : decode cX4_movement 16 = .ok (.invokevirtual 59, 3) := by decide +kernel
theorem dX4_movement_19 : decode cX4_movement 19 = .ok (.ifCond .ne 13, 3) := by decide +kernel
theorem dX4_movement_22 : decode cX4_movement 22 = .ok (.aload_n 0, 1) := by decide +kernel
theorem dX4_movement_23 : decode cX4_movement 23 = .ok (.getfield 7, 3) := by decide +kernel
theorem dX4_movement_26 : decode cX4_movement 26 = .ok (.iload_n 1, 1) := by decide +kernel
theorem dX4_movement_27 : decode cX4_movement 27 = .ok (.iaload, 1) := by decide +kernel
theorem dX4_movement_28 : decode cX4_movement 28 = .ok (.iconst 1, 1) := by decide +kernel
theorem dX4_movement_29 : decode cX4_movement 29 = .ok (.if_icmp .ne 5, 3) := by decide +kernel
theorem dX4_movement_32 : decode cX4_movement 32 = .ok (.fconst 0, 1) := by decide +kernel
theorem dX4_movement_33 : decode cX4_movement 33 = .ok (.freturn, 1) := by decide +kernel
theorem dX4_movement_34 : decode cX4_movement 34 = .ok (.iconst 0, 1) := by decide +kernel
theorem dX4_movement_35 : decode cX4_movement 35 = .ok (.istore_n 3, 1) := by decide +kernel
theorem dX4_movement_36 : decode cX4_movement 36 = .ok (.iconst 1, 1) := by decide +kernel
theorem dX4_movement_37 : decode cX4_movement 37 = .ok (.istore 4, 2) := by decide +kernel
theorem dX4_movement_39 : decode cX4_movement 39 = .ok (.iload 4, 2) := by decide +kernel
theorem dX4_movement_41 : decode cX4_movement 41 = .ok (.aload_n 0, 1) := by decide +kernel
theorem dX4_movement_42 : decode cX4_movement 42 = .ok (.getfield 7, 3) := by decide +kernel
theorem dX4_movement_45 : decode cX4_movement 45 = .ok (.iload_n 1, 1) := by decide +kernel
theorem dX4_movement_46 : decode cX4_movement 46 = .ok (.iaload, 1) := by decide +kernel
theorem dX4_movement_47 : decode cX4_movement 47 = .ok (.if_icmp .ge 41, 3) := by decide +kernel
theorem dX4_movement_50 : decode cX4_movement 50 = .ok (.iload_n 3, 1) := by decide +kernel
theorem dX4_movement_51 : decode cX4_movement 51 = .ok (.aload_n 0, 1) := by decide +kernel
theorem dX4_movement_52 : decode cX4_movement 52 = .ok (.getfield 23, 3) := by decide +kernel
theorem dX4_movement_55 : decode cX4_movement 55 = .ok (.iload_n 1, 1) := by decide +kernel
theorem dX4_movement_56 : decode cX4_movement 56 = .ok (.iload_n 2, 1) := by decide +kernel
theorem dX4_movement_57 : decode cX4_movement 57 = .ok (.iload 4, 2) := by decide +kernel
theorem dX4_movement_59 : decode cX4_movement 59 = .ok (.invokestatic 62, 3) := by decide +kernel
theorem dX4_movement_62 : decode cX4_movement 62 = .ok (.iaload, 1) := by decide +kernel
theorem dX4_movement_63 : decode cX4_movement 63 = .ok (.aload_n 0, 1) := by decide +kernel
theorem dX4_movement_64 : decode cX4_movement 64 = .ok (.getfield 23, 3) := by decide +kernel
theorem dX4_movement_67 : decode cX4_movement 67 = .ok (.iload_n 1, 1) := by decide +kernel
theorem dX4_movement_68 : decode cX4_movement 68 = .ok (.iload_n 2, 1) := by decide +kernel
theorem dX4_movement_69 : decode cX4_movement 69 = .ok (.iload 4, 2) := by decide +kernel
theorem dX4_movement_71 : decode cX4_movement 71 = .ok (.iconst 1, 1) := by decide +kernel
theorem dX4_movement_72 : decode cX4_movement 72 = .ok (.isub, 1) := by decide +kernel
theorem dX4_movement_73 : decode cX4_movement 73 = .ok (.invokestatic 62, 3) := by decide +kernel
theorem dX4_movement_76 : decode cX4_movement 76 = .ok (.iaload, 1) := by decide +kernel
theorem dX4_movement_77 : decode cX4_movement 77 = .ok (.invokestatic 84, 3) := by decide +kernel
theorem dX4_movement_80 : decode cX4_movement 80 = .ok (.iadd, 1) := by decide +kernel
theorem dX4_movement_81 : decode cX4_movement 81 = .ok (.istore_n 3, 1) := by decide +kernel
theorem dX4_movement_82 : decode cX4_movement 82 = .ok (.iinc 4 1, 3) := by decide +kernel
theorem dX4_movement_85 : decode cX4_movement 85 = .ok (.goto (-46), 3) := by decide +kernel
theorem dX4_movement_88 : decode cX4_movement 88 = .ok (.iload_n 3, 1) := by decide +kernel
theorem dX4_movement_89 : decode cX4_movement 89 = .ok (.i2f, 1) := by decide +kernel
theorem dX4_movement_90 : decode cX4_movement 90 = .ok (.aload_n 0, 1) := by decide +kernel
theorem dX4_movement_91 : decode cX4_movement 91 = .ok (.getfield 7, 3) := by decide +kernel
theorem dX4_movement_94 : decode cX4_movement 94 = .ok (.iload_n 1, 1) := by decide +kernel
theorem dX4_movement_95 : decode cX4_movement 95 = .ok (.iaload, 1) := by decide +kernel
theorem dX4_movement_96 : decode cX4_movement 96 = .ok (.iconst 1, 1) := by decide +kernel
theorem dX4_movement_97 : decode cX4_movement 97 = .ok (.isub, 1) := by decide +kernel
theorem dX4_movement_98 : decode cX4_movement 98 = .ok (.i2f, 1) := by decide +kernel
theorem dX4_movement_99 : decode cX4_movement 99 = .ok (.fdiv, 1) := by decide +kernel
theorem dX4_movement_100 : decode cX4_movement 100 = .ok (.freturn, 1) := by decide +kernel
set_option maxRecDepth 20000 in
theorem ggX4_isCopy_X4_isIn : GoodIn wsX4_isCopy wsX4_isIn := goodIn_r _ [5] (by decide +kernel) (by decide +kernel)
set_option maxRecDepth 20000 in
theorem gX4_isCopy_X4_isIn : GoodIn wsX4_isCopy (va_wsS RX4 51 yX4_isIn wsX4_isIn) := goodIn_app (goodIn_of _ (by decide +kernel)) ggX4_isCopy_X4_isIn
theorem dX4_isCopy_0 : decode cX4_isCopy 0 = .ok (.iload_n 1, 1) := by decide +kernel
theorem dX4_isCopy_1 : decode cX4_isCopy 1 = .ok (.iconst 0, 1) := by decide +kernel
theorem dX4_isCopy_2 : decode cX4_isCopy 2 = .ok (.aload_n 0, 1) := by decide +kernel
theorem dX4_isCopy_3 : decode cX4_isCopy 3 = .ok (.getfield 105, 3) := by decide +kernel
theorem dX4_isCopy_6 : decode cX4_isCopy 6 = .ok (.iconst 1, 1) := by decide +kernel
theorem dX4_isCopy_7 : decode cX4_isCopy 7 = .ok (.isub, 1) := by decide +kernel
theorem dX4_isCopy_8 : decode cX4_isCopy 8 = .ok (.invokestatic 51, 3) := by decide +kernel
theorem dX4_isCopy_11 : decode cX4_isCopy 11 = .ok (.ireturn, 1) := by decide +kernel
set_option maxRecDepth 20000 in
theorem ggX4_print_X4_isNote : GoodIn wsX4_print wsX4_isNote := goodIn_r _ [12, 4, 13, 14, 15, 11, 16, 17, 18, 19, 20, 29, 30, 31, 32, 33, 34, 35, 36, 37, 38, 39, 40, 41, 42] (by decide +kernel) (by decide +kernel)
set_option maxRecDepth 20000 in
theorem gX4_print_X4_isNote : GoodIn wsX4_print (wsV RX4 70 RX4 yX4_isNote wsX4_isNote) := goodIn_app (goodIn_of _ (by decide +kernel)) ggX4_print_X4_isNote
set_option maxRecDepth 20000 in
theorem ggX4_print_X4_fails : GoodIn wsX4_print wsX4_fails := goodIn_r _ [24, 25, 29, 30, 31, 32, 33, 34, 35, 36, 37, 38, 39, 40, 41, 42] (by decide +kernel) (by decide +kernel)
set_option maxRecDepth 20000 in
theorem gX4_print_X4_fails : GoodIn wsX4_print (wsV RX4 59 RX4 yX4_fails wsX4_fails) := goodIn_app (goodIn_of _ (by decide +kernel)) ggX4_print_X4_fails
set_option maxRecDepth 20000 in
theorem ggX4_print_X4_at : GoodIn wsX4_print wsX4_at := goodIn_r _ [28] (by decide +kernel) (by decide +kernel)
set_option maxRecDepth 20000 in
theorem gX4_print_X4_at : GoodIn wsX4_print (va_wsS RX4 62 yX4_at wsX4_at) := goodIn_app (goodIn_of _ (by decide +kernel)) ggX4_print_X4_at
theorem dX4_print_0 : decode cX4_print 0 = .ok (.aload_n 0, 1) := by decide +kernel
theorem dX4_print_1 : decode cX4_print 1 = .ok (.iload_n 1, 1) := by decide +kernel
theorem dX4_print_2 : decode cX4_print 2 = .ok (.iload_n 2, 1) := by decide +kernel
theorem dX4_print_3 : decode cX4_print 3 = .ok (.iconst 0, 1) := by decide +kernel
theorem dX4_print_4 : decode cX4_print 4 = .ok (.invokevirtual 70, 3) := by decide +kernel
theorem dX4_print_7 : decode cX4_print 7 = .ok (.istore_n 3, 1) := by decide +kernel
theorem dX4_print_8 : decode cX4_print 8 = .ok (.aload_n 0, 1) := by decide +kernel
theorem dX4_print_9 : decode cX4_print 9 = .ok (.iload_n 3, 1) := by decide +kernel
theorem dX4_print_10 : decode cX4_print 10 = .ok (.ifCond .ne 7, 3) := by decide +kernel
theorem dX4_print_13 : decode cX4_print 13 = .ok (.iconst 1, 1) := by decide +kernel
theorem dX4_print_14 : decode cX4_print 14 = .ok (.goto 17, 3) := by decide +kernel
theorem dX4_print_17 : decode cX4_print 17 = .ok (.aload_n 0, 1) := by decide +kernel
theorem dX4_print_18 : decode cX4_print 18 = .ok (.getfield 105, 3) := by decide +kernel
theorem dX4_print_21 : decode cX4_print 21 = .ok (.bipush 20, 2) := by decide +kernel
theorem dX4_print_23 : decode cX4_print 23 = .ok (.if_icmp .ne 7, 3) := by decide +kernel
theorem dX4_print_26 : decode cX4_print 26 = .ok (.iconst 2, 1) := by decide +kernel
theorem dX4_print_27 : decode cX4_print 27 = .ok (.goto 4, 3) := by decide +kernel
theorem dX4_print_30 : decode cX4_print 30 = .ok (.iconst 0, 1) := by decide +kernel
theorem dX4_print_31 : decode cX4_print 31 = .ok (.invokevirtual 59, 3) := by decide +kernel
theorem dX4_print_34 : decode cX4_print 34 = .ok (.ifCond .eq 5, 3) := by decide +kernel
theorem dX4_print_37 : decode cX4_print 37 = .ok (.iconst 0, 1) := by decide +kernel
theorem dX4_print_38 : decode cX4_print 38 = .ok (.ireturn, 1) := by decide +kernel
theorem dX4_print_39 : decode cX4_print 39 = .ok (.aload_n 0, 1) := by decide +kernel
theorem dX4_print_40 : decode cX4_print 40 = .ok (.getfield 16, 3) := by decide +kernel
theorem dX4_print_43 : decode cX4_print 43 = .ok (.iload_n 1, 1) := by decide +kernel
theorem dX4_print_44 : decode cX4_print 44 = .ok (.iconst 1, 1) := by decide +kernel
theorem dX4_print_45 : decode cX4_print 45 = .ok (.bastore, 1) := by decide +kernel
theorem dX4_print_46 : decode cX4_print 46 = .ok (.aload_n 0, 1) := by decide +kernel
theorem dX4_print_47 : decode cX4_print 47 = .ok (.getfield 33, 3) := by decide +kernel
theorem dX4_print_50 : decode cX4_print 50 = .ok (.aload_n 0, 1) := by decide +kernel
theorem dX4_print_51 : decode cX4_print 51 = .ok (.getfield 105, 3) := by decide +kernel
theorem dX4_print_54 : decode cX4_print 54 = .ok (.aload_n 0, 1) := by decide +kernel
theorem dX4_print_55 : decode cX4_print 55 = .ok (.getfield 7, 3) := by decide +kernel
theorem dX4_print_58 : decode cX4_print 58 = .ok (.iload_n 1, 1) := by decide +kernel
theorem dX4_print_59 : decode cX4_print 59 = .ok (.iaload, 1) := by decide +kernel
theorem dX4_print_60 : decode cX4_print 60 = .ok (.iastore, 1) := by decide +kernel
theorem dX4_print_61 : decode cX4_print 61 = .ok (.aload_n 0, 1) := by decide +kernel
theorem dX4_print_62 : decode cX4_print 62 = .ok (.getfield 36, 3) := by decide +kernel
theorem dX4_print_65 : decode cX4_print 65 = .ok (.aload_n 0, 1) := by decide +kernel
theorem dX4_print_66 : decode cX4_print 66 = .ok (.getfield 105, 3) := by decide +kernel
theorem dX4_print_69 : decode cX4_print 69 = .ok (.iload_n 2, 1) := by decide +kernel
theorem dX4_print_70 : decode cX4_print 70 = .ok (.iastore, 1) := by decide +kernel
theorem dX4_print_71 : decode cX4_print 71 = .ok (.iconst 0, 1) := by decide +kernel
theorem dX4_print_72 : decode cX4_print 72 = .ok (.istore 4, 2) := by decide +kernel
theorem dX4_print_74 : decode cX4_print 74 = .ok (.iload 4, 2) := by decide +kernel
theorem dX4_print_76 : decode cX4_print 76 = .ok (.aload_n 0, 1) := by decide +kernel
theorem dX4_print_77 : decode cX4_print 77 = .ok (.getfield 7, 3) := by decide +kernel
theorem dX4_print_80 : decode cX4_print 80 = .ok (.iload_n 1, 1) := by decide +kernel
theorem dX4_print_81 : decode cX4_print 81 = .ok (.iaload, 1) := by decide +kernel
theorem dX4_print_82 : decode cX4_print 82 = .ok (.if_icmp .ge 36, 3) := by decide +kernel
theorem dX4_print_85 : decode cX4_print 85 = .ok (.aload_n 0, 1) := by decide +kernel
theorem dX4_print_86 : decode cX4_print 86 = .ok (.getfield 39, 3) := by decide +kernel
theorem dX4_print_89 : decode cX4_print 89 = .ok (.bipush 12, 2) := by decide +kernel
theorem dX4_print_91 : decode cX4_print 91 = .ok (.aload_n 0, 1) := by decide +kernel
theorem dX4_print_92 : decode cX4_print 92 = .ok (.getfield 105, 3) := by decide +kernel
theorem dX4_print_95 : decode cX4_print 95 = .ok (.imul, 1) := by decide +kernel
theorem dX4_print_96 : decode cX4_print 96 = .ok (.iload 4, 2) := by decide +kernel
theorem dX4_print_98 : decode cX4_print 98 = .ok (.iadd, 1) := by decide +kernel
theorem dX4_print_99 : decode cX4_print 99 = .ok (.aload_n 0, 1) := by decide +kernel
theorem dX4_print_100 : decode cX4_print 100 = .ok (.getfield 23, 3) := by decide +kernel
theorem dX4_print_103 : decode cX4_print 103 = .ok (.iload_n 1, 1) := by decide +kernel
theorem dX4_print_104 : decode cX4_print 104 = .ok (.iload_n 2, 1) := by decide +kernel
theorem dX4_print_105 : decode cX4_print 105 = .ok (.iload 4, 2) := by decide +kernel
theorem dX4_print_107 : decode cX4_print 107 = .ok (.invokestatic 62, 3) := by decide +kernel
theorem dX4_print_110 : decode cX4_print 110 = .ok (.iaload, 1) := by decide +kernel
theorem dX4_print_111 : decode cX4_print 111 = .ok (.iastore, 1) := by decide +kernel
theorem dX4_print_112 : decode cX4_print 112 = .ok (.iinc 4 1, 3) := by decide +kernel
theorem dX4_print_115 : decode cX4_print 115 = .ok (.goto (-41), 3) := by decide +kernel
theorem dX4_print_118 : decode cX4_print 118 = .ok (.aload_n 0, 1) := by decide +kernel
theorem dX4_print_119 : decode cX4_print 119 = .ok (.dup, 1) := by decide +kernel
theorem dX4_print_120 : decode cX4_print 120 = .ok (.getfield 105, 3) := by decide +kernel
theorem dX4_print_123 : decode cX4_print 123 = .ok (.iconst 1, 1) := by decide +kernel
theorem dX4_print_124 : decode cX4_print 124 = .ok (.iadd, 1) := by decide +kernel
theorem dX4_print_125 : decode cX4_print 125 = .ok (.putfield 105, 3) := by decide +kernel
theorem dX4_print_128 : decode cX4_print 128 = .ok (.aload_n 0, 1) := by decide +kernel
theorem dX4_print_129 : decode cX4_print 129 = .ok (.getfield 105, 3) := by decide +kernel
theorem dX4_print_132 : decode cX4_print 132 = .ok (.iconst 1, 1) := by decide +kernel
theorem dX4_print_133 : decode cX4_print 133 = .ok (.isub, 1) := by decide +kernel
theorem dX4_print_134 : decode cX4_print 134 = .ok (.ireturn, 1) := by decide +kernel
set_option maxRecDepth 20000 in
theorem ggX4_differs_X4_at : GoodIn wsX4_differs wsX4_at := goodIn_r _ [8] (by decide +kernel) (by decide +kernel)
set_option maxRecDepth 20000 in
theorem gX4_differs_X4_at : GoodIn wsX4_differs (va_wsS RX4 62 yX4_at wsX4_at) := goodIn_app (goodIn_of _ (by decide +kernel)) ggX4_differs_X4_at
theorem dX4_differs_0 : decode cX4_differs 0 = .ok (.iconst 0, 1) := by decide +kernel
theorem dX4_differs_1 : decode cX4_differs 1 = .ok (.istore_n 3, 1) := by decide +kernel
theorem dX4_differs_2 : decode cX4_differs 2 = .ok (.iconst 0, 1) := by decide +kernel
theorem dX4_differs_3 : decode cX4_differs 3 = .ok (.istore 4, 2) := by decide +kernel
theorem dX4_differs_5 : decode cX4_differs 5 = .ok (.iload 4, 2) := by decide +kernel
theorem dX4_differs_7 : decode cX4_differs 7 = .ok (.aload_n 0, 1) := by decide +kernel
theorem dX4_differs_8 : decode cX4_differs 8 = .ok (.getfield 7, 3) := by decide +kernel
theorem dX4_differs_11 : decode cX4_differs 11 = .ok (.iload_n 2, 1) := by decide +kernel
theorem dX4_differs_12 : decode cX4_differs 12 = .ok (.iaload, 1) := by decide +kernel
theorem dX4_differs_13 : decode cX4_differs 13 = .ok (.if_icmp .ge 52, 3) := by decide +kernel
theorem dX4_differs_16 : decode cX4_differs 16 = .ok (.iload_n 3, 1) := by decide +kernel
theorem dX4_differs_17 : decode cX4_differs 17 = .ok (.aload_n 0, 1) := by decide +kernel
theorem dX4_differs_18 : decode cX4_differs 18 = .ok (.getfield 39, 3) := by decide +kernel
theorem dX4_differs_21 : decode cX4_differs 21 = .ok (.bipush 12, 2) := by decide +kernel
theorem dX4_differs_23 : decode cX4_differs 23 = .ok (.iload_n 1, 1) := by decide +kernel
theorem dX4_differs_24 : decode cX4_differs 24 = .ok (.imul, 1) := by decide +kernel
theorem dX4_differs_25 : decode cX4_differs 25 = .ok (.iload 4, 2) := by decide +kernel
theorem dX4_differs_27 : decode cX4_differs 27 = .ok (.iadd, 1) := by decide +kernel
theorem dX4_differs_28 : decode cX4_differs 28 = .ok (.iaload, 1) := by decide +kernel
theorem dX4_differs_29 : decode cX4_differs 29 = .ok (.aload_n 0, 1) := by decide +kernel
theorem dX4_differs_30 : decode cX4_differs 30 = .ok (.getfield 23, 3) := by decide +kernel
theorem dX4_differs_33 : decode cX4_differs 33 = .ok (.iload_n 2, 1) := by decide +kernel
theorem dX4_differs_34 : decode cX4_differs 34 = .ok (.aload_n 0, 1) := by decide +kernel
theorem dX4_differs_35 : decode cX4_differs 35 = .ok (.getfield 36, 3) := by decide +kernel
theorem dX4_differs_38 : decode cX4_differs 38 = .ok (.iload_n 1, 1) := by decide +kernel
theorem dX4_differs_39 : decode cX4_differs 39 = .ok (.iaload, 1) := by decide +kernel
theorem dX4_differs_40 : decode cX4_differs 40 = .ok (.iload 4, 2) := by decide +kernel
theorem dX4_differs_42 : decode cX4_differs 42 = .ok (.invokestatic 62, 3) := by decide +kernel
theorem dX4_differs_45 : decode cX4_differs 45 = .ok (.iaload, 1) := by decide +kernel
theorem dX4_differs_46 : decode cX4_differs 46 = .ok (.if_icmp .eq 10, 3) := by decide +kernel
theorem dX4_differs_49 : decode cX4_differs 49 = .ok (.iconst 1, 1) := by decide +kernel
theorem dX4_differs_50 : decode cX4_differs 50 = .ok (.iload 4, 2) := by decide +kernel
theorem dX4_differs_52 : decode cX4_differs 52 = .ok (.ishl, 1) := by decide +kernel
theorem dX4_differs_53 : decode cX4_differs 53 = .ok (.goto 4, 3) := by decide +kernel
theorem dX4_differs_56 : decode cX4_differs 56 = .ok (.iconst 0, 1) := by decide +kernel
theorem dX4_differs_57 : decode cX4_differs 57 = .ok (.ior, 1) := by decide +kernel
theorem dX4_differs_58 : decode cX4_differs 58 = .ok (.istore_n 3, 1) := by decide +kernel
theorem dX4_differs_59 : decode cX4_differs 59 = .ok (.iinc 4 1, 3) := by decide +kernel
theorem dX4_differs_62 : decode cX4_differs 62 = .ok (.goto (-57), 3) := by decide +kernel
theorem dX4_differs_65 : decode cX4_differs 65 = .ok (.iload_n 3, 1) := by decide +kernel
theorem dX4_differs_66 : decode cX4_differs 66 = .ok (.ireturn, 1) := by decide +kernel
set_option maxRecDepth 20000 in
theorem ggX4_misses_X4_isCopy : GoodIn wsX4_misses wsX4_isCopy := goodIn_r _ [7, 8, 9, 10, 6, 11, 17, 18, 19, 20, 21, 22, 23, 24, 25, 26, 27, 28, 29, 30] (by decide +kernel) (by decide +kernel)
set_option maxRecDepth 20000 in
theorem gX4_misses_X4_isCopy : GoodIn wsX4_misses (wsV RX4 108 RX4 yX4_isCopy wsX4_isCopy) := goodIn_app (goodIn_of _ (by decide +kernel)) ggX4_misses_X4_isCopy
set_option maxRecDepth 20000 in
theorem ggX4_misses_X4_isVersion : GoodIn wsX4_misses wsX4_isVersion := goodIn_r _ [15, 16, 9, 10, 6, 11, 17, 18, 19, 20, 21, 22, 23, 24, 25, 26, 27, 28, 29, 30] (by decide +kernel) (by decide +kernel)
set_option maxRecDepth 20000 in
theorem gX4_misses_X4_isVersion : GoodIn wsX4_misses (wsV RX4 55 RX4 yX4_isVersion wsX4_isVersion) := goodIn_app (goodIn_of _ (by decide +kernel)) ggX4_misses_X4_isVersion
theorem dX4_misses_0 : decode cX4_misses 0 = .ok (.aload_n 0, 1) := by decide +kernel
theorem dX4_misses_1 : decode cX4_misses 1 = .ok (.iload_n 1, 1) := by decide +kernel
theorem dX4_misses_2 : decode cX4_misses 2 = .ok (.invokevirtual 108, 3) := by decide +kernel
theorem dX4_misses_5 : decode cX4_misses 5 = .ok (.ifCond .eq 11, 3) := by decide +kernel
theorem dX4_misses_8 : decode cX4_misses 8 = .ok (.aload_n 0, 1) := by decide +kernel
theorem dX4_misses_9 : decode cX4_misses 9 = .ok (.iload_n 2, 1) := by decide +kernel
theorem dX4_misses_10 : decode cX4_misses 10 = .ok (.invokevirtual 55, 3) := by decide +kernel
theorem dX4_misses_13 : decode cX4_misses 13 = .ok (.ifCond .ne 7, 3) := by decide +kernel
theorem dX4_misses_16 : decode cX4_misses 16 = .ok (.iconst 1, 1) := by decide +kernel
theorem dX4_misses_17 : decode cX4_misses 17 = .ok (.goto 23, 3) := by decide +kernel
theorem dX4_misses_20 : decode cX4_misses 20 = .ok (.aload_n 0, 1) := by decide +kernel
theorem dX4_misses_21 : decode cX4_misses 21 = .ok (.getfield 7, 3) := by decide +kernel
theorem dX4_misses_24 : decode cX4_misses 24 = .ok (.iload_n 2, 1) := by decide +kernel
theorem dX4_misses_25 : decode cX4_misses 25 = .ok (.iaload, 1) := by decide +kernel
theorem dX4_misses_26 : decode cX4_misses 26 = .ok (.aload_n 0, 1) := by decide +kernel
theorem dX4_misses_27 : decode cX4_misses 27 = .ok (.getfield 33, 3) := by decide +kernel
theorem dX4_misses_30 : decode cX4_misses 30 = .ok (.iload_n 1, 1) := by decide +kernel
theorem dX4_misses_31 : decode cX4_misses 31 = .ok (.iaload, 1) := by decide +kernel
theorem dX4_misses_32 : decode cX4_misses 32 = .ok (.if_icmp .ne 7, 3) := by decide +kernel
theorem dX4_misses_35 : decode cX4_misses 35 = .ok (.iconst 0, 1) := by decide +kernel
theorem dX4_misses_36 : decode cX4_misses 36 = .ok (.goto 4, 3) := by decide +kernel
theorem dX4_misses_39 : decode cX4_misses 39 = .ok (.iconst 2, 1) := by decide +kernel
theorem dX4_misses_40 : decode cX4_misses 40 = .ok (.ireturn, 1) := by decide +kernel
set_option maxRecDepth 20000 in
theorem ggX4_errata_X4_misses : GoodIn wsX4_errata wsX4_misses := goodIn_r _ [5, 6, 7, 8, 9, 10, 4, 11, 12, 13, 14, 15, 16, 17, 18, 19, 20, 36, 37, 38, 39, 40, 41, 42, 43, 44, 45, 46, 47, 48, 49] (by decide +kernel) (by decide +kernel)
set_option maxRecDepth 20000 in
theorem gX4_errata_X4_misses : GoodIn wsX4_errata (wsV RX4 111 RX4 yX4_misses wsX4_misses) := goodIn_app (goodIn_of _ (by decide +kernel)) ggX4_errata_X4_misses
set_option maxRecDepth 20000 in
theorem ggX4_errata_X4_fails : GoodIn wsX4_errata wsX4_fails := goodIn_r _ [24, 25, 36, 37, 38, 39, 40, 41, 42, 43, 44, 45, 46, 47, 48, 49] (by decide +kernel) (by decide +kernel)
set_option maxRecDepth 20000 in
theorem gX4_errata_X4_fails : GoodIn wsX4_errata (wsV RX4 59 RX4 yX4_fails wsX4_fails) := goodIn_app (goodIn_of _ (by decide +kernel)) ggX4_errata_X4_fails
set_option maxRecDepth 20000 in
theorem ggX4_errata_X4_differs : GoodIn wsX4_errata wsX4_differs := goodIn_r _ [29, 6, 30, 31, 32, 33, 34, 4, 35, 36, 37, 38, 39, 40, 41, 42, 43, 44, 45, 46, 47, 48, 49] (by decide +kernel) (by decide +kernel)
set_option maxRecDepth 20000 in
theorem gX4_errata_X4_differs : GoodIn wsX4_errata (wsV RX4 114 RX4 yX4_differs wsX4_differs) := goodIn_app (goodIn_of _ (by decide +kernel)) ggX4_errata_X4_differs
theorem dX4_errata_0 : decode cX4_errata 0 = .ok (.aload_n 0, 1) := by decide +kernel
theorem dX4_errata_1 : decode cX4_errata 1 = .ok (.aload_n 0, 1) := by decide +kernel
theorem dX4_errata_2 : decode cX4_errata 2 = .ok (.iload_n 1, 1) := by decide +kernel
theorem dX4_errata_3 : decode cX4_errata 3 = .ok (.iload_n 2, 1) := by decide +kernel
theorem dX4_errata_4 : decode cX4_errata 4 = .ok (.invokevirtual 111, 3) := by decide +kernel
theorem dX4_errata_7 : decode cX4_errata 7 = .ok (.invokevirtual 59, 3) := by decide +kernel
theorem dX4_errata_10 : decode cX4_errata 10 = .ok (.ifCond .eq 7, 3) := by decide +kernel
theorem dX4_errata_13 : decode cX4_errata 13 = .ok (.iconst 0, 1) := by decide +kernel
theorem dX4_errata_14 : decode cX4_errata 14 = .ok (.goto 9, 3) := by decide +kernel
theorem dX4_errata_17 : decode cX4_errata 17 = .ok (.aload_n 0, 1) := by decide +kernel
theorem dX4_errata_18 : decode cX4_errata 18 = .ok (.iload_n 1, 1) := by decide +kernel
theorem dX4_errata_19 : decode cX4_errata 19 = .ok (.iload_n 2, 1) := by decide +kernel
theorem dX4_errata_20 : decode cX4_errata 20 = .ok (.invokevirtual 114, 3) := by decide +kernel
theorem dX4_errata_23 : decode cX4_errata 23 = .ok (.ireturn, 1) := by decide +kernel
set_option maxRecDepth 20000 in
theorem ggX4_slip_X4_misses : GoodIn wsX4_slip wsX4_misses := goodIn_r _ [10, 1, 11, 12, 13, 14, 9, 15, 16, 17, 18, 19, 20, 21, 22, 23, 24, 37, 38, 39, 40, 41, 42, 43, 44, 45, 46, 47, 48, 49, 50] (by decide +kernel) (by decide +kernel)
set_option maxRecDepth 20000 in
theorem gX4_slip_X4_misses : GoodIn wsX4_slip (wsV RX4 111 RX4 yX4_misses wsX4_misses) := goodIn_app (goodIn_of _ (by decide +kernel)) ggX4_slip_X4_misses
set_option maxRecDepth 20000 in
theorem ggX4_slip_X4_fails : GoodIn wsX4_slip wsX4_fails := goodIn_r _ [28, 29, 37, 38, 39, 40, 41, 42, 43, 44, 45, 46, 47, 48, 49, 50] (by decide +kernel) (by decide +kernel)
set_option maxRecDepth 20000 in
theorem gX4_slip_X4_fails : GoodIn wsX4_slip (wsV RX4 59 RX4 yX4_fails wsX4_fails) := goodIn_app (goodIn_of _ (by decide +kernel)) ggX4_slip_X4_fails
set_option maxRecDepth 20000 in
theorem ggX4_slip_X4_differs : GoodIn wsX4_slip wsX4_differs := goodIn_r _ [33, 1, 2, 3, 4, 34, 35, 9, 36, 37, 38, 39, 40, 41, 42, 43, 44, 45, 46, 47, 48, 49, 50] (by decide +kernel) (by decide +kernel)
set_option maxRecDepth 20000 in
theorem gX4_slip_X4_differs : GoodIn wsX4_slip (wsV RX4 114 RX4 yX4_differs wsX4_differs) := goodIn_app (goodIn_of _ (by decide +kernel)) ggX4_slip_X4_differs
set_option maxRecDepth 20000 in
theorem ggX4_slip_X4_at : GoodIn wsX4_slip wsX4_at := goodIn_r _ [36] (by decide +kernel) (by decide +kernel)
set_option maxRecDepth 20000 in
theorem gX4_slip_X4_at : GoodIn wsX4_slip (va_wsS RX4 62 yX4_at wsX4_at) := goodIn_app (goodIn_of _ (by decide +kernel)) ggX4_slip_X4_at
theorem dX4_slip_0 : decode cX4_slip 0 = .ok (.aload_n 0, 1) := by decide +kernel
theorem dX4_slip_1 : decode cX4_slip 1 = .ok (.aload_n 0, 1) := by decide +kernel
theorem dX4_slip_2 : decode cX4_slip 2 = .ok (.iload_n 1, 1) := by decide +kernel
theorem dX4_slip_3 : decode cX4_slip 3 = .ok (.iload_n 2, 1) := by decide +kernel
theorem dX4_slip_4 : decode cX4_slip 4 = .ok (.invokevirtual 111, 3) := by decide +kernel
theorem dX4_slip_7 : decode cX4_slip 7 = .ok (.invokevirtual 59, 3) := by decide +kernel
theorem dX4_slip_10 : decode cX4_slip 10 = .ok (.ifCond .eq 5, 3) := by decide +kernel
theorem dX4_slip_13 : decode cX4_slip 13 = .ok (.iconst 0, 1) := by decide +kernel
theorem dX4_slip_14 : decode cX4_slip 14 = .ok (.ireturn, 1) := by decide +kernel
theorem dX4_slip_15 : decode cX4_slip 15 = .ok (.aload_n 0, 1) := by decide +kernel
theorem dX4_slip_16 : decode cX4_slip 16 = .ok (.iload_n 1, 1) := by decide +kernel
theorem dX4_slip_17 : decode cX4_slip 17 = .ok (.iload_n 2, 1) := by decide +kernel
theorem dX4_slip_18 : decode cX4_slip 18 = .ok (.invokevirtual 114, 3) := by decide +kernel
theorem dX4_slip_21 : decode cX4_slip 21 = .ok (.istore_n 3, 1) := by decide +kernel
theorem dX4_slip_22 : decode cX4_slip 22 = .ok (.iconst 0, 1) := by decide +kernel
theorem dX4_slip_23 : decode cX4_slip 23 = .ok (.istore 4, 2) := by decide +kernel
theorem dX4_slip_25 : decode cX4_slip 25 = .ok (.iconst 0, 1) := by decide +kernel
theorem dX4_slip_26 : decode cX4_slip 26 = .ok (.istore 5, 2) := by decide +kernel
theorem dX4_slip_28 : decode cX4_slip 28 = .ok (.iload 5, 2) := by decide +kernel
theorem dX4_slip_30 : decode cX4_slip 30 = .ok (.aload_n 0, 1) := by decide +kernel
theorem dX4_slip_31 : decode cX4_slip 31 = .ok (.getfield 7, 3) := by decide +kernel
theorem dX4_slip_34 : decode cX4_slip 34 = .ok (.iload_n 2, 1) := by decide +kernel
theorem dX4_slip_35 : decode cX4_slip 35 = .ok (.iaload, 1) := by decide +kernel
theorem dX4_slip_36 : decode cX4_slip 36 = .ok (.if_icmp .ge 49, 3) := by decide +kernel
theorem dX4_slip_39 : decode cX4_slip 39 = .ok (.iload 4, 2) := by decide +kernel
theorem dX4_slip_41 : decode cX4_slip 41 = .ok (.iload_n 3, 1) := by decide +kernel
theorem dX4_slip_42 : decode cX4_slip 42 = .ok (.iload 5, 2) := by decide +kernel
theorem dX4_slip_44 : decode cX4_slip 44 = .ok (.ishr, 1) := by decide +kernel
theorem dX4_slip_45 : decode cX4_slip 45 = .ok (.iconst 1, 1) := by decide +kernel
theorem dX4_slip_46 : decode cX4_slip 46 = .ok (.iand, 1) := by decide +kernel
theorem dX4_slip_47 : decode cX4_slip 47 = .ok (.iadd, 1) := by decide +kernel
theorem dX4_slip_48 : decode cX4_slip 48 = .ok (.istore 4, 2) := by decide +kernel
theorem dX4_slip_50 : decode cX4_slip 50 = .ok (.aload_n 0, 1) := by decide +kernel
theorem dX4_slip_51 : decode cX4_slip 51 = .ok (.getfield 39, 3) := by decide +kernel
theorem dX4_slip_54 : decode cX4_slip 54 = .ok (.bipush 12, 2) := by decide +kernel
theorem dX4_slip_56 : decode cX4_slip 56 = .ok (.iload_n 1, 1) := by decide +kernel
theorem dX4_slip_57 : decode cX4_slip 57 = .ok (.imul, 1) := by decide +kernel
theorem dX4_slip_58 : decode cX4_slip 58 = .ok (.iload 5, 2) := by decide +kernel
theorem dX4_slip_60 : decode cX4_slip 60 = .ok (.iadd, 1) := by decide +kernel
theorem dX4_slip_61 : decode cX4_slip 61 = .ok (.aload_n 0, 1) := by decide +kernel
theorem dX4_slip_62 : decode cX4_slip 62 = .ok (.getfield 23, 3) := by decide +kernel
theorem dX4_slip_65 : decode cX4_slip 65 = .ok (.iload_n 2, 1) := by decide +kernel
theorem dX4_slip_66 : decode cX4_slip 66 = .ok (.aload_n 0, 1) := by decide +kernel
theorem dX4_slip_67 : decode cX4_slip 67 = .ok (.getfield 36, 3) := by decide +kernel
theorem dX4_slip_70 : decode cX4_slip 70 = .ok (.iload_n 1, 1) := by decide +kernel
theorem dX4_slip_71 : decode cX4_slip 71 = .ok (.iaload, 1) := by decide +kernel
theorem dX4_slip_72 : decode cX4_slip 72 = .ok (.iload 5, 2) := by decide +kernel
theorem dX4_slip_74 : decode cX4_slip 74 = .ok (.invokestatic 62, 3) := by decide +kernel
theorem dX4_slip_77 : decode cX4_slip 77 = .ok (.iaload, 1) := by decide +kernel
theorem dX4_slip_78 : decode cX4_slip 78 = .ok (.iastore, 1) := by decide +kernel
theorem dX4_slip_79 : decode cX4_slip 79 = .ok (.iinc 5 1, 3) := by decide +kernel
theorem dX4_slip_82 : decode cX4_slip 82 = .ok (.goto (-54), 3) := by decide +kernel
theorem dX4_slip_85 : decode cX4_slip 85 = .ok (.aload_n 0, 1) := by decide +kernel
theorem dX4_slip_86 : decode cX4_slip 86 = .ok (.getfield 42, 3) := by decide +kernel
theorem dX4_slip_89 : decode cX4_slip 89 = .ok (.iload_n 1, 1) := by decide +kernel
theorem dX4_slip_90 : decode cX4_slip 90 = .ok (.dup2, 1) := by decide +kernel
theorem dX4_slip_91 : decode cX4_slip 91 = .ok (.iaload, 1) := by decide +kernel
theorem dX4_slip_92 : decode cX4_slip 92 = .ok (.iload 4, 2) := by decide +kernel
theorem dX4_slip_94 : decode cX4_slip 94 = .ok (.iadd, 1) := by decide +kernel
theorem dX4_slip_95 : decode cX4_slip 95 = .ok (.iastore, 1) := by decide +kernel
theorem dX4_slip_96 : decode cX4_slip 96 = .ok (.iload 4, 2) := by decide +kernel
theorem dX4_slip_98 : decode cX4_slip 98 = .ok (.ireturn, 1) := by decide +kernel
set_option maxRecDepth 20000 in
theorem ggX4_slips_X4_isCopy : GoodIn wsX4_slips wsX4_isCopy := goodIn_r _ [6, 7, 8, 9, 5, 10, 16, 17, 18, 19, 20, 21, 22, 23, 24, 25, 26, 27, 28, 29] (by decide +kernel) (by decide +kernel)
set_option maxRecDepth 20000 in
theorem gX4_slips_X4_isCopy : GoodIn wsX4_slips (wsV RX4 108 RX4 yX4_isCopy wsX4_isCopy) := goodIn_app (goodIn_of _ (by decide +kernel)) ggX4_slips_X4_isCopy
set_option maxRecDepth 20000 in
theorem ggX4_slips_X4_fails : GoodIn wsX4_slips wsX4_fails := goodIn_r _ [14, 15, 16, 17, 18, 19, 20, 21, 22, 23, 24, 25, 26, 27, 28, 29] (by decide +kernel) (by decide +kernel)
set_option maxRecDepth 20000 in
theorem gX4_slips_X4_fails : GoodIn wsX4_slips (wsV RX4 59 RX4 yX4_fails wsX4_fails) := goodIn_app (goodIn_of _ (by decide +kernel)) ggX4_slips_X4_fails
theorem dX4_slips_0 : decode cX4_slips 0 = .ok (.aload_n 0, 1) := by decide +kernel
theorem dX4_slips_1 : decode cX4_slips 1 = .ok (.aload_n 0, 1) := by decide +kernel
theorem dX4_slips_2 : decode cX4_slips 2 = .ok (.iload_n 1, 1) := by decide +kernel
theorem dX4_slips_3 : decode cX4_slips 3 = .ok (.invokevirtual 108, 3) := by decide +kernel
theorem dX4_slips_6 : decode cX4_slips 6 = .ok (.ifCond .eq 7, 3) := by decide +kernel
theorem dX4_slips_9 : decode cX4_slips 9 = .ok (.iconst 0, 1) := by decide +kernel
theorem dX4_slips_10 : decode cX4_slips 10 = .ok (.goto 4, 3) := by decide +kernel
theorem dX4_slips_13 : decode cX4_slips 13 = .ok (.iconst 1, 1) := by decide +kernel
theorem dX4_slips_14 : decode cX4_slips 14 = .ok (.invokevirtual 59, 3) := by decide +kernel
theorem dX4_slips_17 : decode cX4_slips 17 = .ok (.ifCond .eq 7, 3) := by decide +kernel
theorem dX4_slips_20 : decode cX4_slips 20 = .ok (.iconst 0, 1) := by decide +kernel
theorem dX4_slips_21 : decode cX4_slips 21 = .ok (.goto 9, 3) := by decide +kernel
theorem dX4_slips_24 : decode cX4_slips 24 = .ok (.aload_n 0, 1) := by decide +kernel
theorem dX4_slips_25 : decode cX4_slips 25 = .ok (.getfield 42, 3) := by decide +kernel
theorem dX4_slips_28 : decode cX4_slips 28 = .ok (.iload_n 1, 1) := by decide +kernel
theorem dX4_slips_29 : decode cX4_slips 29 = .ok (.iaload, 1) := by decide +kernel
theorem dX4_slips_30 : decode cX4_slips 30 = .ok (.ireturn, 1) := by decide +kernel
theorem dJ6_bitCount_0f7a4_0 : decode cJ6_bitCount_0f7a4 0 = .ok (.iload_n 0, 1) := by decide +kernel
theorem dJ6_bitCount_0f7a4_1 : decode cJ6_bitCount_0f7a4 1 = .ok (.iload_n 0, 1) := by decide +kernel
theorem dJ6_bitCount_0f7a4_2 : decode cJ6_bitCount_0f7a4 2 = .ok (.iconst 1, 1) := by decide +kernel
theorem dJ6_bitCount_0f7a4_3 : decode cJ6_bitCount_0f7a4 3 = .ok (.iushr, 1) := by decide +kernel
theorem dJ6_bitCount_0f7a4_4 : decode cJ6_bitCount_0f7a4 4 = .ok (.ldc_w 265, 3) := by decide +kernel
theorem dJ6_bitCount_0f7a4_7 : decode cJ6_bitCount_0f7a4 7 = .ok (.iand, 1) := by decide +kernel
theorem dJ6_bitCount_0f7a4_8 : decode cJ6_bitCount_0f7a4 8 = .ok (.isub, 1) := by decide +kernel
theorem dJ6_bitCount_0f7a4_9 : decode cJ6_bitCount_0f7a4 9 = .ok (.istore_n 0, 1) := by decide +kernel
theorem dJ6_bitCount_0f7a4_10 : decode cJ6_bitCount_0f7a4 10 = .ok (.iload_n 0, 1) := by decide +kernel
theorem dJ6_bitCount_0f7a4_11 : decode cJ6_bitCount_0f7a4 11 = .ok (.ldc_w 266, 3) := by decide +kernel
theorem dJ6_bitCount_0f7a4_14 : decode cJ6_bitCount_0f7a4 14 = .ok (.iand, 1) := by decide +kernel
theorem dJ6_bitCount_0f7a4_15 : decode cJ6_bitCount_0f7a4 15 = .ok (.iload_n 0, 1) := by decide +kernel
theorem dJ6_bitCount_0f7a4_16 : decode cJ6_bitCount_0f7a4 16 = .ok (.iconst 2, 1) := by decide +kernel
theorem dJ6_bitCount_0f7a4_17 : decode cJ6_bitCount_0f7a4 17 = .ok (.iushr, 1) := by decide +kernel
theorem dJ6_bitCount_0f7a4_18 : decode cJ6_bitCount_0f7a4 18 = .ok (.ldc_w 266, 3) := by decide +kernel
theorem dJ6_bitCount_0f7a4_21 : decode cJ6_bitCount_0f7a4 21 = .ok (.iand, 1) := by decide +kernel
theorem dJ6_bitCount_0f7a4_22 : decode cJ6_bitCount_0f7a4 22 = .ok (.iadd, 1) := by decide +kernel
theorem dJ6_bitCount_0f7a4_23 : decode cJ6_bitCount_0f7a4 23 = .ok (.istore_n 0, 1) := by decide +kernel
theorem dJ6_bitCount_0f7a4_24 : decode cJ6_bitCount_0f7a4 24 = .ok (.iload_n 0, 1) := by decide +kernel
theorem dJ6_bitCount_0f7a4_25 : decode cJ6_bitCount_0f7a4 25 = .ok (.iload_n 0, 1) := by decide +kernel
theorem dJ6_bitCount_0f7a4_26 : decode cJ6_bitCount_0f7a4 26 = .ok (.iconst 4, 1) := by decide +kernel
theorem dJ6_bitCount_0f7a4_27 : decode cJ6_bitCount_0f7a4 27 = .ok (.iushr, 1) := by decide +kernel
theorem dJ6_bitCount_0f7a4_28 : decode cJ6_bitCount_0f7a4 28 = .ok (.iadd, 1) := by decide +kernel
theorem dJ6_bitCount_0f7a4_29 : decode cJ6_bitCount_0f7a4 29 = .ok (.ldc_w 267, 3) := by decide +kernel
theorem dJ6_bitCount_0f7a4_32 : decode cJ6_bitCount_0f7a4 32 = .ok (.iand, 1) := by decide +kernel
theorem dJ6_bitCount_0f7a4_33 : decode cJ6_bitCount_0f7a4 33 = .ok (.istore_n 0, 1) := by decide +kernel
theorem dJ6_bitCount_0f7a4_34 : decode cJ6_bitCount_0f7a4 34 = .ok (.iload_n 0, 1) := by decide +kernel
theorem dJ6_bitCount_0f7a4_35 : decode cJ6_bitCount_0f7a4 35 = .ok (.iload_n 0, 1) := by decide +kernel
theorem dJ6_bitCount_0f7a4_36 : decode cJ6_bitCount_0f7a4 36 = .ok (.bipush 8, 2) := by decide +kernel
theorem dJ6_bitCount_0f7a4_38 : decode cJ6_bitCount_0f7a4 38 = .ok (.iushr, 1) := by decide +kernel
theorem dJ6_bitCount_0f7a4_39 : decode cJ6_bitCount_0f7a4 39 = .ok (.iadd, 1) := by decide +kernel
theorem dJ6_bitCount_0f7a4_40 : decode cJ6_bitCount_0f7a4 40 = .ok (.istore_n 0, 1) := by decide +kernel
theorem dJ6_bitCount_0f7a4_41 : decode cJ6_bitCount_0f7a4 41 = .ok (.iload_n 0, 1) := by decide +kernel
theorem dJ6_bitCount_0f7a4_42 : decode cJ6_bitCount_0f7a4 42 = .ok (.iload_n 0, 1) := by decide +kernel
theorem dJ6_bitCount_0f7a4_43 : decode cJ6_bitCount_0f7a4 43 = .ok (.bipush 16, 2) := by decide +kernel
theorem dJ6_bitCount_0f7a4_45 : decode cJ6_bitCount_0f7a4 45 = .ok (.iushr, 1) := by decide +kernel
theorem dJ6_bitCount_0f7a4_46 : decode cJ6_bitCount_0f7a4 46 = .ok (.iadd, 1) := by decide +kernel
theorem dJ6_bitCount_0f7a4_47 : decode cJ6_bitCount_0f7a4 47 = .ok (.istore_n 0, 1) := by decide +kernel
theorem dJ6_bitCount_0f7a4_48 : decode cJ6_bitCount_0f7a4 48 = .ok (.iload_n 0, 1) := by decide +kernel
theorem dJ6_bitCount_0f7a4_49 : decode cJ6_bitCount_0f7a4 49 = .ok (.bipush 63, 2) := by decide +kernel
theorem dJ6_bitCount_0f7a4_51 : decode cJ6_bitCount_0f7a4 51 = .ok (.iand, 1) := by decide +kernel
theorem dJ6_bitCount_0f7a4_52 : decode cJ6_bitCount_0f7a4 52 = .ok (.ireturn, 1) := by decide +kernel
theorem dJ9_abs_0f7a4_0 : decode cJ9_abs_0f7a4 0 = .ok (.iload_n 0, 1) := by decide +kernel
theorem dJ9_abs_0f7a4_1 : decode cJ9_abs_0f7a4 1 = .ok (.ifCond .ge 8, 3) := by decide +kernel
theorem dJ9_abs_0f7a4_4 : decode cJ9_abs_0f7a4 4 = .ok (.iload_n 0, 1) := by decide +kernel
theorem dJ9_abs_0f7a4_5 : decode cJ9_abs_0f7a4 5 = .ok (.ineg, 1) := by decide +kernel
theorem dJ9_abs_0f7a4_6 : decode cJ9_abs_0f7a4 6 = .ok (.goto 4, 3) := by decide +kernel
theorem dJ9_abs_0f7a4_9 : decode cJ9_abs_0f7a4 9 = .ok (.iload_n 0, 1) := by decide +kernel
theorem dJ9_abs_0f7a4_10 : decode cJ9_abs_0f7a4 10 = .ok (.ireturn, 1) := by decide +kernel
theorem dJ9_max_7cf53_0 : decode cJ9_max_7cf53 0 = .ok (.iload_n 0, 1) := by decide +kernel
theorem dJ9_max_7cf53_1 : decode cJ9_max_7cf53 1 = .ok (.iload_n 1, 1) := by decide +kernel
theorem dJ9_max_7cf53_2 : decode cJ9_max_7cf53 2 = .ok (.if_icmp .lt 7, 3) := by decide +kernel
theorem dJ9_max_7cf53_5 : decode cJ9_max_7cf53 5 = .ok (.iload_n 0, 1) := by decide +kernel
theorem dJ9_max_7cf53_6 : decode cJ9_max_7cf53 6 = .ok (.goto 4, 3) := by decide +kernel
theorem dJ9_max_7cf53_9 : decode cJ9_max_7cf53 9 = .ok (.iload_n 1, 1) := by decide +kernel
theorem dJ9_max_7cf53_10 : decode cJ9_max_7cf53 10 = .ok (.ireturn, 1) := by decide +kernel
theorem dJ9_min_7cf53_0 : decode cJ9_min_7cf53 0 = .ok (.iload_n 0, 1) := by decide +kernel
theorem dJ9_min_7cf53_1 : decode cJ9_min_7cf53 1 = .ok (.iload_n 1, 1) := by decide +kernel
theorem dJ9_min_7cf53_2 : decode cJ9_min_7cf53 2 = .ok (.if_icmp .gt 7, 3) := by decide +kernel
theorem dJ9_min_7cf53_5 : decode cJ9_min_7cf53 5 = .ok (.iload_n 0, 1) := by decide +kernel
theorem dJ9_min_7cf53_6 : decode cJ9_min_7cf53 6 = .ok (.goto 4, 3) := by decide +kernel
theorem dJ9_min_7cf53_9 : decode cJ9_min_7cf53 9 = .ok (.iload_n 1, 1) := by decide +kernel
theorem dJ9_min_7cf53_10 : decode cJ9_min_7cf53 10 = .ok (.ireturn, 1) := by decide +kernel
end
section
/-! ===== numbers: every int is zi of a whole number ===== -/
def zi (z : Int) : Int32 := Int32.ofInt z
abbrev zr (z : Int) : Prop := -2147483648 ≤ z ∧ z ≤ 2147483647
theorem zi_add (a b : Int) : zi a + zi b = zi (a + b) := (Int32.ofInt_add a b).symm
theorem zi_sub (a b : Int) : zi a - zi b = zi (a - b) := (Int32.ofInt_sub a b).symm
theorem zi_mul (a b : Int) : zi a * zi b = zi (a * b) := (Int32.ofInt_mul a b).symm
theorem zi_of (x : Int32) : x = zi x.toInt := (Int32.ofInt_toInt x).symm
theorem zi_rg (x : Int32) : zr x.toInt := ⟨by have := x.le_toInt; omega, by have := x.toInt_lt; omega⟩
theorem zi_toInt {z : Int} (h : zr z) : (zi z).toInt = z := Int32.toInt_ofInt_of_le (by omega) (by omega)
theorem zi_lt {a b : Int} (ha : zr a) (hb : zr b) : zi a < zi b ↔ a < b := by rw [Int32.lt_iff_toInt_lt, zi_toInt ha, zi_toInt hb]
theorem zi_le {a b : Int} (ha : zr a) (hb : zr b) : zi a ≤ zi b ↔ a ≤ b := by rw [Int32.le_iff_toInt_le, zi_toInt ha, zi_toInt hb]
theorem zi_eq {a b : Int} (ha : zr a) (hb : zr b) : zi a = zi b ↔ a = b := by rw [← Int32.toInt_inj, zi_toInt ha, zi_toInt hb]
theorem zi_0 : (0 : Int32) = zi 0 := rfl
theorem zi_1 : (1 : Int32) = zi 1 := rfl
theorem zr_0 : zr 0 := ⟨by decide, by decide⟩
theorem zi_ofNat (n : Nat) : Int32.ofNat n = zi n := Int32.ofInt_eq_ofNat.symm
theorem zi_ix {i : Nat} (h : i < 2147483648) : (zi (i : Int)).toNatClampNeg = i := by
  rw [← zi_ofNat]; exact Int32.toNatClampNeg_ofNat_of_lt (by omega)
theorem zi_in {i n : Nat} (h : i < n) (hn : n < 2147483648) : vp_in (zi (i : Int)) n := by
  rw [vp_in_iff, zi_toInt ⟨by omega, by omega⟩]; omega
theorem zi_ne0 {b : Int} (h : zr b) (h0 : b ≠ 0) : ¬ zi b = 0 := fun e => h0 ((zi_eq h zr_0).mp e)
theorem zi_div {a b : Int} (ha : zr a) (h0 : 0 ≤ a) (hb : 0 < b) (hr : zr b) : zi a / zi b = zi (a / b) := by
  have hq : zr (a / b) := by
    have h1 : 0 ≤ a / b := Int.ediv_nonneg h0 (by omega)
    have h2 : a / b ≤ a := Int.ediv_le_self b h0
    omega
  rw [← Int32.toInt_inj, zi_toInt hq, Int32.toInt_div_of_ne_right, zi_toInt ha, zi_toInt hr, Int.tdiv_eq_ediv_of_nonneg h0]
  intro e
  have := congrArg Int32.toInt e
  rw [zi_toInt hr] at this
  have h1 : (-1 : Int32).toInt = -1 := by decide
  omega
theorem zi_rem {a b : Int} (ha : zr a) (h0 : 0 ≤ a) (hb : 0 < b) (hr : zr b) : zi a - zi a / zi b * zi b = zi (a % b) := by
  rw [zi_div ha h0 hb hr, zi_mul, zi_sub, Int.emod_def, Int.mul_comm (a / b) b]
abbrev pz (P : Prop) [Decidable P] : Int := if P then 1 else 0
theorem pz_r (P : Prop) [Decidable P] : zr (pz P) := by unfold pz; split <;> decide
theorem pz_0 (P : Prop) [Decidable P] : pz P = 0 ↔ ¬ P := by unfold pz; split <;> simp_all
theorem pz_n0 (P : Prop) [Decidable P] : ¬ pz P = 0 ↔ P := by unfold pz; split <;> simp_all
theorem pz_t {P : Prop} [Decidable P] (h : P) : pz P = 1 := if_pos h
theorem pz_f {P : Prop} [Decidable P] (h : ¬ P) : pz P = 0 := if_neg h
theorem pz_c {P Q : Prop} [Decidable P] [Decidable Q] (h : P ↔ Q) : pz P = pz Q := by unfold pz; by_cases hq : Q <;> simp [h, hq]
theorem zi_bool (P : Prop) [Decidable P] : narrow .boolean (.int (zi (pz P))) = .int (zi (pz P)) := by unfold pz; split <;> rfl
theorem zi_nar (P : Prop) [Decidable P] : vp_nar .boolean (zi (pz P)) = zi (pz P) := by unfold pz; split <;> rfl
/-! ===== the tables' part of every contract ===== -/
abbrev gG : Type := va_G × ClassId × ClassId × ClassId × ClassId
def nwL : List Cond := [.fieldLinkNest RX3 130 RX2 "passedWhenHandedIn" "Z" RX3, .fieldLinkNest RX3 136 RX1 "bars" "I" RX3, .fieldLinkNest RX3 166 RX0 "slipCount" "I" RX3, .fieldLinkNest RX3 177 RX0 "bars" "I" RX3, .fieldLinkNest RX3 194 RX2 "parent" "LHarmoniumDesk$Version;" RX3, .fieldLinkNest RX3 53 RX2 "score" "LHarmoniumDesk$Score;" RX3, .fieldLinkNest RX3 60 RX2 "number" "I" RX3, .fieldLinkNest RX3 71 RX2 "fixed" "Z" RX3, .fieldLinkNest RX0 22 RX1 "bars" "I" RX3, .methodLinkNest RX3 37 yX1_init RX3, .methodLinkNest RX2 9 yX1_init RX3]
def nwS (U : State) : Prop := ∀ w ∈ nwL, va_Nw w U
theorem nwS.same {u U : State} (h : u.vm = U.vm) (hZ : nwS u) : nwS U := by
  intro w hw
  have ht : w.onTables = true := by
    revert w
    decide
  exact va_Nw.same ht h (hZ w hw)
theorem nwS.warm {s U : State} (hW : s.WarmedH U.vm) (hZ : nwS s) : nwS U := by
  have h : ∀ w ∈ nwL, va_Nw w s → va_Nw w U := by
    simp only [nwL, List.forall_mem_cons]
    refine ⟨va_Nw.warmF hW, va_Nw.warmF hW, va_Nw.warmF hW, va_Nw.warmF hW, va_Nw.warmF hW, va_Nw.warmF hW, va_Nw.warmF hW, va_Nw.warmF hW, va_Nw.warmF hW, va_Nw.warmM hW, va_Nw.warmM hW, ?_⟩
    intro w hw
    cases hw
  exact fun w hw => h w hw (hZ w hw)
def KK (g : gG) (U : State) : Prop := va_K g.1 vwCl [(g.2.1, .int), (g.2.2.1, .boolean), (g.2.2.2.1, .object RX2), (g.2.2.2.2, .object RX0)] U ∧ nwS U
theorem KK.warm {g : gG} {s U : State} (hW : s.WarmedH U.vm) (h : KK g s) : KK g U := ⟨va_K.moved hW.alike h.1, nwS.warm hW h.2⟩
theorem KK.same {g : gG} {u U : State} (hv : u.vm = U.vm) (h : KK g u) : KK g U := ⟨va_K.moved (by rw [hv]; exact Vm.Alike.refl U.vm) h.1, nwS.same hv h.2⟩
theorem KK.calling {g : gG} {U : State} {f : JFrame} {mk : MethodId} {a : Array Value} (h : KK g U) : KK g (U.calling f mk a) := KK.same (u := U) rfl h
/-- a picture of the heap, and the tables -/
abbrev zPc (g : gG) (av : List Value) (P : Heap → Prop) : Array Value → State → Prop := va_Pc av (fun U => P U.heap ∧ KK g U)
theorem zPc.blind (g : gG) (av : List Value) (P : Heap → Prop) : FrameBlind (zPc g av P) := fun _ _ _ _ h => ⟨h.1, h.2.1, KK.calling h.2.2⟩
/-- a method that reads alone, and answers an int -/
abbrev RO (l : Launch) (y : MethodName) (ws : List Cond) (rm : Room) (g : gG) (av : List Value) (P : Heap → Prop) (v : Int) : Prop :=
  Met l y ws rm (zPc g av P) (vp_Si (fun r => r = zi v)) 0 0 (fun _ => False)
theorem ZM.ofW {l : Launch} {y : MethodName} {ws ws' : List Cond} {rm : Room} {g : gG} {av : List Value} {P : Heap → Prop} {Qc : Array Value → State → Outcome → State → Prop} {mc ms : Nat} {free : Addr → Prop} {cc : ByteArray} {maxL : Nat} {ret : Option FieldType} (hy : plainName y.cls = true) (hw : ws = Cond.code y cc maxL ret :: ws') (hn : (lg_sl av).length ≤ maxL)
    (body : ∀ (p : Program) (e : Env) (s : State) (m : MethodId) (below : List Frame) (meth : Method) (c : Code) (ls : Array Slot), p.tables.exec = Jvm.exec → c.code = cc → meth.sig.returnType = ret → c.maxLocals = maxL → s.vm.findClass y.cls = some m.cls → (∀ w ∈ ws, w.before av.toArray s = true) → meth.locks = false → P s.heap → KK g s → lv_has ls maxL (lv_args 0 av) → (y.name = "<init>" → meth.name = "<init>") →
      W p l e rm s m av.toArray below meth c s.heap [] 0 0 (MQ below Qc av.toArray s mc ms free) (F0 m 0 ls [])) : Met l y ws rm (zPc g av P) Qc mc ms free := by
  refine Met.ofW hy hw ?_
  intro p e s m args below meth c s₁ B hml hv
  obtain ⟨rfl, hP, hK⟩ := hv
  have hl := lv_entry av (n := maxL) hn
  rw [lg_entry_eq]
  exact body p e s m below meth c _ B.exec B.bytes B.returns hml (findClass_of_methodNamed B.named) (atoms_spec (ws := ws) B.pre) B.notSynchronized hP hK hl (fun h => by rw [← h]; exact (name_of_methodNamed B.named B.method).1)
theorem RO.ofW {l : Launch} {y : MethodName} {ws ws' : List Cond} {rm : Room} {g : gG} {av : List Value} {P : Heap → Prop} {v : Int} {cc : ByteArray} {maxL : Nat} {ret : Option FieldType} (hy : plainName y.cls = true) (hw : ws = Cond.code y cc maxL ret :: ws') (hn : (lg_sl av).length ≤ maxL)
    (body : ∀ (p : Program) (e : Env) (s : State) (m : MethodId) (below : List Frame) (meth : Method) (c : Code) (ls : Array Slot), p.tables.exec = Jvm.exec → c.code = cc → meth.sig.returnType = ret → c.maxLocals = maxL → s.vm.findClass y.cls = some m.cls → (∀ w ∈ ws, w.before av.toArray s = true) → meth.locks = false → P s.heap → KK g s → lv_has ls maxL (lv_args 0 av) →
      W p l e rm s m av.toArray below meth c s.heap [] 0 0 (MQ below (vp_Si (fun r => r = zi v)) av.toArray s 0 0 (fun _ => False)) (F0 m 0 ls [])) : RO l y ws rm g av P v :=
  ZM.ofW hy hw hn (fun p e s m below meth c ls a1 a2 a3 a4 a5 a6 a7 a8 a9 a10 _ => body p e s m below meth c ls a1 a2 a3 a4 a5 a6 a7 a8 a9 a10)
section ZR
variable {p : Program} {l : Launch} {e : Env} {R : Room} {s : State} {m : MethodId} {args : Array Value} {below : List Frame} {meth : Method} {c : Code} {H : Heap} {locs : List Loc} {cells slots : Nat} {Q : State → Prop}
variable {cc : ByteArray} {pc : Nat} {ls : Array Slot} {rest : List Value}
theorem z_iconst (hx : p.tables.exec = Jvm.exec) (hb : c.code = cc) {n : Int} (hdg : decode cc pc = .ok (.iconst n, 1)) (k : W p l e R s m args below meth c H locs cells slots Q (F0 m (pc + 1) ls (.int (zi n) :: rest))) : W p l e R s m args below meth c H locs cells slots Q (F0 m pc ls rest) := lv_iconst hx hb hdg rfl k
theorem z_bipush (hx : p.tables.exec = Jvm.exec) (hb : c.code = cc) {n : Int} (hdg : decode cc pc = .ok (.bipush n, 2)) (hv : (Int8.ofInt n).toInt32 = zi n) (k : W p l e R s m args below meth c H locs cells slots Q (F0 m (pc + 2) ls (.int (zi n) :: rest))) : W p l e R s m args below meth c H locs cells slots Q (F0 m pc ls rest) := lv_bipush hx hb hdg hv k
theorem z_sipush (hx : p.tables.exec = Jvm.exec) (hb : c.code = cc) {n : Int} (hdg : decode cc pc = .ok (.sipush n, 3)) (hv : (Int16.ofInt n).toInt32 = zi n) (k : W p l e R s m args below meth c H locs cells slots Q (F0 m (pc + 3) ls (.int (zi n) :: rest))) : W p l e R s m args below meth c H locs cells slots Q (F0 m pc ls rest) := lv_sipush hx hb hdg hv k
theorem z_iadd (hx : p.tables.exec = Jvm.exec) (hb : c.code = cc) {a b : Int} (hdg : decode cc pc = .ok (.iadd, 1)) (k : W p l e R s m args below meth c H locs cells slots Q (F0 m (pc + 1) ls (.int (zi (a + b)) :: rest))) : W p l e R s m args below meth c H locs cells slots Q (F0 m pc ls (.int (zi b) :: .int (zi a) :: rest)) := lv_iadd hx hb hdg (by rw [zi_add]; exact k)
theorem z_isub (hx : p.tables.exec = Jvm.exec) (hb : c.code = cc) {a b : Int} (hdg : decode cc pc = .ok (.isub, 1)) (k : W p l e R s m args below meth c H locs cells slots Q (F0 m (pc + 1) ls (.int (zi (a - b)) :: rest))) : W p l e R s m args below meth c H locs cells slots Q (F0 m pc ls (.int (zi b) :: .int (zi a) :: rest)) := lv_isub hx hb hdg (by rw [zi_sub]; exact k)
theorem z_imul (hx : p.tables.exec = Jvm.exec) (hb : c.code = cc) {a b : Int} (hdg : decode cc pc = .ok (.imul, 1)) (k : W p l e R s m args below meth c H locs cells slots Q (F0 m (pc + 1) ls (.int (zi (a * b)) :: rest))) : W p l e R s m args below meth c H locs cells slots Q (F0 m pc ls (.int (zi b) :: .int (zi a) :: rest)) := lv_imul hx hb hdg (by rw [zi_mul]; exact k)
theorem z_irem (hx : p.tables.exec = Jvm.exec) (hb : c.code = cc) {a b : Int} (ha : zr a) (h0 : 0 ≤ a) (hb0 : 0 < b) (hr : zr b) (hdg : decode cc pc = .ok (.irem, 1)) (k : W p l e R s m args below meth c H locs cells slots Q (F0 m (pc + 1) ls (.int (zi (a % b)) :: rest))) : W p l e R s m args below meth c H locs cells slots Q (F0 m pc ls (.int (zi b) :: .int (zi a) :: rest)) := lv_irem hx hb hdg (zi_ne0 hr (by omega)) (by rw [zi_rem ha h0 hb0 hr]; exact k)
theorem z_idiv (hx : p.tables.exec = Jvm.exec) (hb : c.code = cc) {a b : Int} (ha : zr a) (h0 : 0 ≤ a) (hb0 : 0 < b) (hr : zr b) (hdg : decode cc pc = .ok (.idiv, 1)) (k : W p l e R s m args below meth c H locs cells slots Q (F0 m (pc + 1) ls (.int (zi (a / b)) :: rest))) : W p l e R s m args below meth c H locs cells slots Q (F0 m pc ls (.int (zi b) :: .int (zi a) :: rest)) := lv_idiv hx hb hdg (zi_ne0 hr (by omega)) (by rw [zi_div ha h0 hb0 hr]; exact k)
/-- the top under another name -/
theorem z_top {a b : Int} (h : a = b) (k : W p l e R s m args below meth c H locs cells slots Q (F0 m pc ls (.int (zi b) :: rest))) : W p l e R s m args below meth c H locs cells slots Q (F0 m pc ls (.int (zi a) :: rest)) := by rw [h]; exact k
theorem z_iinc (hx : p.tables.exec = Jvm.exec) (hb : c.code = cc) {i nL k : Nat} {n a b : Int} {lv lv' : List (Nat × Value)} (hdg : decode cc pc = .ok (.iinc i n, 3)) (h : lv_has ls nL lv) (hk : lv[k]? = some (i, .int (zi a))) (hv : a + n = b) (hn : i < nL) (hl : (i, Value.int (zi b)) :: lv.filter (fun q => !(q.1 == i) && !(q.1 + 1 == i && q.2.category == 2)) = lv')
    (kk : ∀ ls' : Array Slot, lv_has ls' nL lv' → W p l e R s m args below meth c H locs cells slots Q (F0 m (pc + 3) ls' rest)) : W p l e R s m args below meth c H locs cells slots Q (F0 m pc ls rest) :=
  lv_iinc hx hb hdg h hk (by rw [← hv]; exact zi_add a n) hn hl kk
theorem z_if_eq (hx : p.tables.exec = Jvm.exec) (hb : c.code = cc) {a : Int} {off : Int} {tgt : Nat} (hdg : decode cc pc = .ok (.ifCond .eq off, 3)) (ht : (pc : Int) + off = (tgt : Int)) (hr : zr a) (kt : a = 0 → W p l e R s m args below meth c H locs cells slots Q (F0 m tgt ls rest)) (kf : ¬ a = 0 → W p l e R s m args below meth c H locs cells slots Q (F0 m (pc + 3) ls rest)) : W p l e R s m args below meth c H locs cells slots Q (F0 m pc ls (.int (zi a) :: rest)) := lv_if_eq hx hb hdg ht (fun h => kt ((zi_eq hr zr_0).mp h)) (fun h => kf (fun z => h ((zi_eq hr zr_0).mpr z)))
theorem z_icmp_eq (hx : p.tables.exec = Jvm.exec) (hb : c.code = cc) {a b : Int} {off : Int} {tgt : Nat} (hdg : decode cc pc = .ok (.if_icmp .eq off, 3)) (ht : (pc : Int) + off = (tgt : Int)) (hr : zr a) (hr2 : zr b) (kt : a = b → W p l e R s m args below meth c H locs cells slots Q (F0 m tgt ls rest)) (kf : ¬ a = b → W p l e R s m args below meth c H locs cells slots Q (F0 m (pc + 3) ls rest)) : W p l e R s m args below meth c H locs cells slots Q (F0 m pc ls (.int (zi b) :: .int (zi a) :: rest)) := lv_icmp_eq hx hb hdg ht (fun h => kt ((zi_eq hr hr2).mp h)) (fun h => kf (fun z => h ((zi_eq hr hr2).mpr z)))
theorem z_if_ne (hx : p.tables.exec = Jvm.exec) (hb : c.code = cc) {a : Int} {off : Int} {tgt : Nat} (hdg : decode cc pc = .ok (.ifCond .ne off, 3)) (ht : (pc : Int) + off = (tgt : Int)) (hr : zr a) (kt : ¬ a = 0 → W p l e R s m args below meth c H locs cells slots Q (F0 m tgt ls rest)) (kf : a = 0 → W p l e R s m args below meth c H locs cells slots Q (F0 m (pc + 3) ls rest)) : W p l e R s m args below meth c H locs cells slots Q (F0 m pc ls (.int (zi a) :: rest)) := lv_if_ne hx hb hdg ht (fun h => kt (fun z => h ((zi_eq hr zr_0).mpr z))) (fun h => kf ((zi_eq hr zr_0).mp h))
theorem z_icmp_ne (hx : p.tables.exec = Jvm.exec) (hb : c.code = cc) {a b : Int} {off : Int} {tgt : Nat} (hdg : decode cc pc = .ok (.if_icmp .ne off, 3)) (ht : (pc : Int) + off = (tgt : Int)) (hr : zr a) (hr2 : zr b) (kt : ¬ a = b → W p l e R s m args below meth c H locs cells slots Q (F0 m tgt ls rest)) (kf : a = b → W p l e R s m args below meth c H locs cells slots Q (F0 m (pc + 3) ls rest)) : W p l e R s m args below meth c H locs cells slots Q (F0 m pc ls (.int (zi b) :: .int (zi a) :: rest)) := lv_icmp_ne hx hb hdg ht (fun h => kt (fun z => h ((zi_eq hr hr2).mpr z))) (fun h => kf ((zi_eq hr hr2).mp h))
theorem z_if_lt (hx : p.tables.exec = Jvm.exec) (hb : c.code = cc) {a : Int} {off : Int} {tgt : Nat} (hdg : decode cc pc = .ok (.ifCond .lt off, 3)) (ht : (pc : Int) + off = (tgt : Int)) (hr : zr a) (kt : a < 0 → W p l e R s m args below meth c H locs cells slots Q (F0 m tgt ls rest)) (kf : 0 ≤ a → W p l e R s m args below meth c H locs cells slots Q (F0 m (pc + 3) ls rest)) : W p l e R s m args below meth c H locs cells slots Q (F0 m pc ls (.int (zi a) :: rest)) := lv_if_lt hx hb hdg ht (fun h => kt ((zi_lt hr zr_0).mp h)) (fun h => kf (Int.not_lt.mp (fun z => h ((zi_lt hr zr_0).mpr z))))
theorem z_icmp_lt (hx : p.tables.exec = Jvm.exec) (hb : c.code = cc) {a b : Int} {off : Int} {tgt : Nat} (hdg : decode cc pc = .ok (.if_icmp .lt off, 3)) (ht : (pc : Int) + off = (tgt : Int)) (hr : zr a) (hr2 : zr b) (kt : a < b → W p l e R s m args below meth c H locs cells slots Q (F0 m tgt ls rest)) (kf : b ≤ a → W p l e R s m args below meth c H locs cells slots Q (F0 m (pc + 3) ls rest)) : W p l e R s m args below meth c H locs cells slots Q (F0 m pc ls (.int (zi b) :: .int (zi a) :: rest)) := lv_icmp_lt hx hb hdg ht (fun h => kt ((zi_lt hr hr2).mp h)) (fun h => kf (Int.not_lt.mp (fun z => h ((zi_lt hr hr2).mpr z))))
theorem z_if_ge (hx : p.tables.exec = Jvm.exec) (hb : c.code = cc) {a : Int} {off : Int} {tgt : Nat} (hdg : decode cc pc = .ok (.ifCond .ge off, 3)) (ht : (pc : Int) + off = (tgt : Int)) (hr : zr a) (kt : 0 ≤ a → W p l e R s m args below meth c H locs cells slots Q (F0 m tgt ls rest)) (kf : a < 0 → W p l e R s m args below meth c H locs cells slots Q (F0 m (pc + 3) ls rest)) : W p l e R s m args below meth c H locs cells slots Q (F0 m pc ls (.int (zi a) :: rest)) := lv_if_ge hx hb hdg ht (fun h => kt ((zi_le zr_0 hr).mp h)) (fun h => kf (Int.not_le.mp (fun z => h ((zi_le zr_0 hr).mpr z))))
theorem z_icmp_ge (hx : p.tables.exec = Jvm.exec) (hb : c.code = cc) {a b : Int} {off : Int} {tgt : Nat} (hdg : decode cc pc = .ok (.if_icmp .ge off, 3)) (ht : (pc : Int) + off = (tgt : Int)) (hr : zr a) (hr2 : zr b) (kt : b ≤ a → W p l e R s m args below meth c H locs cells slots Q (F0 m tgt ls rest)) (kf : a < b → W p l e R s m args below meth c H locs cells slots Q (F0 m (pc + 3) ls rest)) : W p l e R s m args below meth c H locs cells slots Q (F0 m pc ls (.int (zi b) :: .int (zi a) :: rest)) := lv_icmp_ge hx hb hdg ht (fun h => kt ((zi_le hr2 hr).mp h)) (fun h => kf (Int.not_le.mp (fun z => h ((zi_le hr2 hr).mpr z))))
theorem z_if_gt (hx : p.tables.exec = Jvm.exec) (hb : c.code = cc) {a : Int} {off : Int} {tgt : Nat} (hdg : decode cc pc = .ok (.ifCond .gt off, 3)) (ht : (pc : Int) + off = (tgt : Int)) (hr : zr a) (kt : 0 < a → W p l e R s m args below meth c H locs cells slots Q (F0 m tgt ls rest)) (kf : a ≤ 0 → W p l e R s m args below meth c H locs cells slots Q (F0 m (pc + 3) ls rest)) : W p l e R s m args below meth c H locs cells slots Q (F0 m pc ls (.int (zi a) :: rest)) := lv_if_gt hx hb hdg ht (fun h => kt ((zi_lt zr_0 hr).mp h)) (fun h => kf (Int.not_lt.mp (fun z => h ((zi_lt zr_0 hr).mpr z))))
theorem z_icmp_gt (hx : p.tables.exec = Jvm.exec) (hb : c.code = cc) {a b : Int} {off : Int} {tgt : Nat} (hdg : decode cc pc = .ok (.if_icmp .gt off, 3)) (ht : (pc : Int) + off = (tgt : Int)) (hr : zr a) (hr2 : zr b) (kt : b < a → W p l e R s m args below meth c H locs cells slots Q (F0 m tgt ls rest)) (kf : a ≤ b → W p l e R s m args below meth c H locs cells slots Q (F0 m (pc + 3) ls rest)) : W p l e R s m args below meth c H locs cells slots Q (F0 m pc ls (.int (zi b) :: .int (zi a) :: rest)) := lv_icmp_gt hx hb hdg ht (fun h => kt ((zi_lt hr2 hr).mp h)) (fun h => kf (Int.not_lt.mp (fun z => h ((zi_lt hr2 hr).mpr z))))
theorem z_if_le (hx : p.tables.exec = Jvm.exec) (hb : c.code = cc) {a : Int} {off : Int} {tgt : Nat} (hdg : decode cc pc = .ok (.ifCond .le off, 3)) (ht : (pc : Int) + off = (tgt : Int)) (hr : zr a) (kt : a ≤ 0 → W p l e R s m args below meth c H locs cells slots Q (F0 m tgt ls rest)) (kf : 0 < a → W p l e R s m args below meth c H locs cells slots Q (F0 m (pc + 3) ls rest)) : W p l e R s m args below meth c H locs cells slots Q (F0 m pc ls (.int (zi a) :: rest)) := lv_if_le hx hb hdg ht (fun h => kt ((zi_le hr zr_0).mp h)) (fun h => kf (Int.not_le.mp (fun z => h ((zi_le hr zr_0).mpr z))))
theorem z_icmp_le (hx : p.tables.exec = Jvm.exec) (hb : c.code = cc) {a b : Int} {off : Int} {tgt : Nat} (hdg : decode cc pc = .ok (.if_icmp .le off, 3)) (ht : (pc : Int) + off = (tgt : Int)) (hr : zr a) (hr2 : zr b) (kt : a ≤ b → W p l e R s m args below meth c H locs cells slots Q (F0 m tgt ls rest)) (kf : b < a → W p l e R s m args below meth c H locs cells slots Q (F0 m (pc + 3) ls rest)) : W p l e R s m args below meth c H locs cells slots Q (F0 m pc ls (.int (zi b) :: .int (zi a) :: rest)) := lv_icmp_le hx hb hdg ht (fun h => kt ((zi_le hr hr2).mp h)) (fun h => kf (Int.not_le.mp (fun z => h ((zi_le hr hr2).mpr z))))
theorem z_ifp_eq (hx : p.tables.exec = Jvm.exec) (hb : c.code = cc) {P : Prop} [Decidable P] {off : Int} {tgt : Nat} (hdg : decode cc pc = .ok (.ifCond .eq off, 3)) (ht : (pc : Int) + off = (tgt : Int)) (kt : ¬ P → W p l e R s m args below meth c H locs cells slots Q (F0 m tgt ls rest)) (kf : P → W p l e R s m args below meth c H locs cells slots Q (F0 m (pc + 3) ls rest)) : W p l e R s m args below meth c H locs cells slots Q (F0 m pc ls (.int (zi (pz P)) :: rest)) := z_if_eq hx hb hdg ht (pz_r P) (fun h => kt ((pz_0 P).mp h)) (fun h => kf ((pz_n0 P).mp h))
theorem z_ifp_ne (hx : p.tables.exec = Jvm.exec) (hb : c.code = cc) {P : Prop} [Decidable P] {off : Int} {tgt : Nat} (hdg : decode cc pc = .ok (.ifCond .ne off, 3)) (ht : (pc : Int) + off = (tgt : Int)) (kt : P → W p l e R s m args below meth c H locs cells slots Q (F0 m tgt ls rest)) (kf : ¬ P → W p l e R s m args below meth c H locs cells slots Q (F0 m (pc + 3) ls rest)) : W p l e R s m args below meth c H locs cells slots Q (F0 m pc ls (.int (zi (pz P)) :: rest)) := z_if_ne hx hb hdg ht (pz_r P) (fun h => kt ((pz_n0 P).mp h)) (fun h => kf ((pz_0 P).mp h))
theorem z_one {D : va_G} {cl : List vw_C} {q : Nat × va_E} {H : Heap} (h : va_at D cl q H) : va_P D cl [q] H := by
  intro k q' hk
  match k, hk with
  | 0, hk => cases hk; exact h
  | k + 1, hk => simp at hk
theorem z_stay {D : va_G} {cl : List vw_C} {q : Nat × va_E} {A : Nat → Prop} {H0 H : Heap} {locs : List Loc} (h : va_at D cl q H0) (hS : va_S A H0 H locs) (hn : ¬ A q.1) : va_at D cl q H := h.kept (hS.2.1 q.1 h.lt hn)
theorem z_recv {g : gG} {a ci : Nat} {fs : List Value} {q : vw_C} (hK : KK g s) (hat : va_at g.1 vwCl (a, .inr (ci, fs)) H) (hc : vwCl[ci]? = some q) : ∃ cell : Cell, H[a]? = some cell ∧ cell.vm.isStatics = false ∧ s.vm.findClass q.1 = some cell.cls := va_recv hK.1 (z_one hat) hc (q0 := 0) rfl
theorem z_get (hx : p.tables.exec = Jvm.exec) (hb : c.code = cc) {own ref C : String} {T : u_T} {N ci index a : Nat} {Ts : List Cond} {g : gG} (hts : ∀ w ∈ Ts, w.before args s = true) (hin : ∀ w ∈ u_ws C T N, w ∈ Ts) (hown : s.vm.findClass own = some m.cls) (hK : KK g s) {fs : List Value} (hat : va_at g.1 vwCl (a, .inr (ci, fs)) H) (hc : vwCl[ci]? = some (C, T, N)) (k : Nat) (hk : k < N) (hlink : (Cond.fieldLink own index ref (T k).2.1 (T k).2.2.1).before args s = true) (hsame : ref = (T k).1) {v : Value} (hv : fs[k]? = some v) (hdg : decode cc pc = .ok (.getfield index, 3))
    (kk : W p l e R s m args below meth c H locs cells slots Q (F0 m (pc + 3) ls (v :: rest))) : W p l e R s m args below meth c H locs cells slots Q (F0 m pc ls (.ref a :: rest)) :=
  va_get hx hb hts hin hown hK.1 (z_one hat) 0 rfl hc k hk hlink (fun _ h => by rw [hsame]; exact h) hv hdg kk
theorem z_getN (hx : p.tables.exec = Jvm.exec) (hb : c.code = cc) {own ref C host : String} {T : u_T} {N ci index a : Nat} {Ts : List Cond} {g : gG} (hts : ∀ w ∈ Ts, w.before args s = true) (hin : ∀ w ∈ u_ws C T N, w ∈ Ts) (hown : s.vm.findClass own = some m.cls) (hK : KK g s) {fs : List Value} (hat : va_at g.1 vwCl (a, .inr (ci, fs)) H) (hc : vwCl[ci]? = some (C, T, N)) (k : Nat) (hk : k < N) (hlink : (Cond.fieldLinkNest own index ref (T k).2.1 (T k).2.2.1 host) ∈ nwL) (hsame : ref = (T k).1) {v : Value} (hv : fs[k]? = some v) (hdg : decode cc pc = .ok (.getfield index, 3))
    (kk : W p l e R s m args below meth c H locs cells slots Q (F0 m (pc + 3) ls (v :: rest))) : W p l e R s m args below meth c H locs cells slots Q (F0 m pc ls (.ref a :: rest)) :=
  va_getN hx hb hts hin hown hK.1 (z_one hat) 0 rfl hc k hk (va_Nw.use rfl (hK.2 _ hlink)) (fun _ h => by rw [hsame]; exact h) hv hdg kk
theorem z_iald (hx : p.tables.exec = Jvm.exec) (hb : c.code = cc) {g : gG} (hK : KK g s) {a n : Nat} {f : Nat → Int} (hat : va_at g.1 vwCl (a, .inl (g.2.1, n, .inl (fun j => zi (f j)))) H) {z : Int} (i : Nat) (hz : z = (i : Int)) (hi : i < n) (hn : n < 2147483648) (hdg : decode cc pc = .ok (.iaload, 1))
    (kk : W p l e R s m args below meth c H locs cells slots Q (F0 m (pc + 1) ls (.int (zi (f i)) :: rest))) : W p l e R s m args below meth c H locs cells slots Q (F0 m pc ls (.int (zi z) :: .ref a :: rest)) := by
  subst hz
  refine va_iald hx hb hK.1 (z_one hat) 0 0 rfl rfl (zi_in hi hn) hdg ?_
  rw [zi_ix (by omega)]
  exact kk
theorem z_zald (hx : p.tables.exec = Jvm.exec) (hb : c.code = cc) {g : gG} (hK : KK g s) {a n : Nat} {f : Nat → Int} (hat : va_at g.1 vwCl (a, .inl (g.2.2.1, n, .inl (fun j => zi (f j)))) H) {z : Int} (i : Nat) (hz : z = (i : Int)) (hi : i < n) (hn : n < 2147483648) (hdg : decode cc pc = .ok (.baload, 1))
    (kk : W p l e R s m args below meth c H locs cells slots Q (F0 m (pc + 1) ls (.int (zi (f i)) :: rest))) : W p l e R s m args below meth c H locs cells slots Q (F0 m pc ls (.int (zi z) :: .ref a :: rest)) := by
  subst hz
  refine va_zald hx hb hK.1 (z_one hat) 0 1 rfl rfl (zi_in hi hn) hdg ?_
  rw [zi_ix (by omega)]
  exact kk
theorem z_alen (hx : p.tables.exec = Jvm.exec) (hb : c.code = cc) {g : gG} (hK : KK g s) {a : Nat} {cA : ClassId} {x : vp_A} (hat : va_at g.1 vwCl (a, .inl (cA, x)) H) (t0 : Nat) {ty : FieldType} (ht : [(g.2.1, FieldType.int), (g.2.2.1, .boolean), (g.2.2.2.1, .object RX2), (g.2.2.2.2, .object RX0)][t0]? = some (cA, ty)) (hdg : decode cc pc = .ok (.arraylength, 1))
    (kk : W p l e R s m args below meth c H locs cells slots Q (F0 m (pc + 1) ls (.int (zi (x.1 : Int)) :: rest))) : W p l e R s m args below meth c H locs cells slots Q (F0 m pc ls (.ref a :: rest)) :=
  va_alen hx hb hK.1 (z_one hat) 0 t0 rfl ht (zi_ofNat x.1) hdg kk
theorem z_aldq (hx : p.tables.exec = Jvm.exec) (hb : c.code = cc) {g : gG} (hK : KK g s) {a n : Nat} {cA : ClassId} {C : String} {f : Nat → Option Nat} (hat : va_at g.1 vwCl (a, .inl (cA, n, .inr (.inr (.inr (.inr f))))) H) (t0 : Nat) (ht : [(g.2.1, FieldType.int), (g.2.2.1, .boolean), (g.2.2.2.1, .object RX2), (g.2.2.2.2, .object RX0)][t0]? = some (cA, .object C)) {z : Int} (i : Nat) (hz : z = (i : Int)) (hi : i < n) (hn : n < 2147483648) {o : Option Nat} (ho : f i = o) (hdg : decode cc pc = .ok (.aaload, 1))
    (kk : W p l e R s m args below meth c H locs cells slots Q (F0 m (pc + 1) ls (va_rf o :: rest))) : W p l e R s m args below meth c H locs cells slots Q (F0 m pc ls (.int (zi z) :: .ref a :: rest)) := by
  subst hz
  refine va_aldq hx hb hK.1 (z_one hat) 0 t0 rfl ht (zi_in hi hn) hdg ?_
  rw [zi_ix (by omega), ho]
  exact kk
theorem zi_upd (f : Nat → Int) (i : Nat) (h : i < 2147483648) (x : Int) : upd (fun j => zi (f j)) (zi (i : Int)).toNatClampNeg (zi x) = fun j => zi (va_up f i x j) := by
  rw [zi_ix h]
  funext j
  unfold upd va_up
  split <;> rfl
theorem z_iast (hx : p.tables.exec = Jvm.exec) (hb : c.code = cc) {g : gG} {ws : va_W} {A : Nat → Prop} {H0 : Heap} (hK : KK g s) (hP : va_P g.1 vwCl ws H) (hD : va_D A ws) (hS : va_S A H0 H locs) (q0 : Nat) {a n : Nat} {f : Nat → Int} (ha : ws[q0]? = some (a, .inl (g.2.1, n, .inl (fun j => zi (f j))))) {z x : Int} (i : Nat) (hz : z = (i : Int)) (hi : i < n) (hn : n < 2147483648) (hdg : decode cc pc = .ok (.iastore, 1))
    (kk : ∀ (H1 : Heap) (locs1 : List Loc), va_P g.1 vwCl (ws.set q0 (a, .inl (g.2.1, n, .inl (fun j => zi (va_up f i x j))))) H1 → va_D A (ws.set q0 (a, .inl (g.2.1, n, .inl (fun j => zi (va_up f i x j))))) → va_S A H0 H1 locs1 → W p l e R s m args below meth c H1 locs1 cells slots Q (F0 m (pc + 1) ls rest)) : W p l e R s m args below meth c H locs cells slots Q (F0 m pc ls (.int (zi x) :: .int (zi z) :: .ref a :: rest)) := by
  subst hz
  refine va_iast hx hb hK.1 hP hD hS q0 0 ha rfl (zi_in hi hn) hdg (fun H1 l1 h1 h2 h3 => ?_)
  rw [zi_upd f i (by omega) x] at h1 h2
  exact kk H1 l1 h1 h2 h3
theorem z_zast (hx : p.tables.exec = Jvm.exec) (hb : c.code = cc) {g : gG} {ws : va_W} {A : Nat → Prop} {H0 : Heap} (hK : KK g s) (hP : va_P g.1 vwCl ws H) (hD : va_D A ws) (hS : va_S A H0 H locs) (q0 : Nat) {a n : Nat} {f : Nat → Int} (ha : ws[q0]? = some (a, .inl (g.2.2.1, n, .inl (fun j => zi (f j))))) {z x : Int} (i : Nat) (hz : z = (i : Int)) (hi : i < n) (hn : n < 2147483648) (hx01 : x = 0 ∨ x = 1) (hdg : decode cc pc = .ok (.bastore, 1))
    (kk : ∀ (H1 : Heap) (locs1 : List Loc), va_P g.1 vwCl (ws.set q0 (a, .inl (g.2.2.1, n, .inl (fun j => zi (va_up f i x j))))) H1 → va_D A (ws.set q0 (a, .inl (g.2.2.1, n, .inl (fun j => zi (va_up f i x j))))) → va_S A H0 H1 locs1 → W p l e R s m args below meth c H1 locs1 cells slots Q (F0 m (pc + 1) ls rest)) : W p l e R s m args below meth c H locs cells slots Q (F0 m pc ls (.int (zi x) :: .int (zi z) :: .ref a :: rest)) := by
  subst hz
  refine va_zast hx hb hK.1 hP hD hS q0 1 ha rfl (zi_in hi hn) hdg (fun H1 l1 h1 h2 h3 => ?_)
  have hn : vp_nar .boolean (zi x) = zi x := by rcases hx01 with rfl | rfl <;> rfl
  rw [hn, zi_upd f i (by omega) x] at h1 h2
  exact kk H1 l1 h1 h2 h3
theorem z_abs (hx : p.tables.exec = Jvm.exec) (hb : c.code = cc) (hml : c.maxLocals = ls.size) {own : String} {index : Nat} (hown : s.vm.findClass own = some m.cls) (hlink : (Cond.methodLink own index Lib.Math.abs.name).before args s = true) (hstat : (Cond.static Lib.Math.abs.name).before args s = true) (hini : (Cond.initialized "java/lang/Math").before args s = true) (hcode : (Cond.code Lib.Math.abs.name Lib.Math.abs.code 1 (some .int)).before args s = true)
    (hframes : 1 ≤ R.frames) (hlocals : (rest.map fun v => v.category).sum + 13 ≤ R.locals) (hc : cells ≤ R.cells) (hs : slots ≤ R.slots) {a d : Int} (ha : zr a) (h1 : 0 ≤ a → d = a) (h2 : a < 0 → d = -a) (hdg : decode cc pc = .ok (.invokestatic index, 3))
    (kk : W p l e R s m args below meth c H locs cells slots Q (F0 m (pc + 3) ls (.int (zi d) :: rest))) : W p l e R s m args below meth c H locs cells slots Q (F0 m pc ls (.int (zi a) :: rest)) := by
  refine va_mabs hx hb hml hown hlink hstat hini hcode hframes hlocals hc hs hdg ?_
  have e : (if 0 ≤ zi a then zi a else 0 - zi a) = zi d := by
    rw [zi_0]
    by_cases h : 0 ≤ a
    · rw [if_pos ((zi_le zr_0 ha).mpr h), h1 h]
    · rw [if_neg (fun z => h ((zi_le zr_0 ha).mp z)), h2 (by omega), zi_sub]
      congr 1
      omega
  rw [e]
  exact kk
theorem z_max (hx : p.tables.exec = Jvm.exec) (hb : c.code = cc) (hml : c.maxLocals = ls.size) {own : String} {index : Nat} (hown : s.vm.findClass own = some m.cls) (hlink : (Cond.methodLink own index Lib.Math.max.name).before args s = true) (hstat : (Cond.static Lib.Math.max.name).before args s = true) (hini : (Cond.initialized "java/lang/Math").before args s = true) (hcode : (Cond.code Lib.Math.max.name Lib.Math.max.code 2 (some .int)).before args s = true)
    (hframes : 1 ≤ R.frames) (hlocals : (rest.map fun v => v.category).sum + 13 ≤ R.locals) (hc : cells ≤ R.cells) (hs : slots ≤ R.slots) {a b d : Int} (ha : zr a) (hb2 : zr b) (h1 : a < b → d = b) (h2 : b ≤ a → d = a) (hdg : decode cc pc = .ok (.invokestatic index, 3))
    (kk : W p l e R s m args below meth c H locs cells slots Q (F0 m (pc + 3) ls (.int (zi d) :: rest))) : W p l e R s m args below meth c H locs cells slots Q (F0 m pc ls (.int (zi b) :: .int (zi a) :: rest)) := by
  refine va_mmax hx hb hml hown hlink hstat hini hcode hframes hlocals hc hs hdg ?_
  have e : (if zi a < zi b then zi b else zi a) = zi d := by
    by_cases h : a < b
    · rw [if_pos ((zi_lt ha hb2).mpr h), h1 h]
    · rw [if_neg (fun z => h ((zi_lt ha hb2).mp z)), h2 (by omega)]
  rw [e]
  exact kk
theorem z_min (hx : p.tables.exec = Jvm.exec) (hb : c.code = cc) (hml : c.maxLocals = ls.size) {own : String} {index : Nat} (hown : s.vm.findClass own = some m.cls) (hlink : (Cond.methodLink own index Lib.Math.min.name).before args s = true) (hstat : (Cond.static Lib.Math.min.name).before args s = true) (hini : (Cond.initialized "java/lang/Math").before args s = true) (hcode : (Cond.code Lib.Math.min.name Lib.Math.min.code 2 (some .int)).before args s = true)
    (hframes : 1 ≤ R.frames) (hlocals : (rest.map fun v => v.category).sum + 13 ≤ R.locals) (hc : cells ≤ R.cells) (hs : slots ≤ R.slots) {a b d : Int} (ha : zr a) (hb2 : zr b) (h1 : b < a → d = b) (h2 : a ≤ b → d = a) (hdg : decode cc pc = .ok (.invokestatic index, 3))
    (kk : W p l e R s m args below meth c H locs cells slots Q (F0 m (pc + 3) ls (.int (zi d) :: rest))) : W p l e R s m args below meth c H locs cells slots Q (F0 m pc ls (.int (zi b) :: .int (zi a) :: rest)) := by
  refine va_mmin hx hb hml hown hlink hstat hini hcode hframes hlocals hc hs hdg ?_
  have e : (if zi b < zi a then zi b else zi a) = zi d := by
    by_cases h : b < a
    · rw [if_pos ((zi_lt hb2 ha).mpr h), h1 h]
    · rw [if_neg (fun z => h ((zi_lt hb2 ha).mp z)), h2 (by omega)]
  rw [e]
  exact kk
/-! ===== calls of what reads alone ===== -/
theorem ro_V {y : MethodName} {bytes : ByteArray} {maxL nL n index b : Nat} {ret : Option FieldType} {ws : List Cond} {rm : Room} {Ts : List Cond} {own C : String} {As st0 : List Value} {g : gG} {P : Heap → Prop} {v : Int}
    (S : CallFix p m c cc nL s args Ts own) (hM : RO l y ws rm g (.ref b :: As) P v) (cw : CallW R s args own C index y bytes maxL ret ws rm 0 0 n) (hr : ∃ cell : Cell, H[b]? = some cell ∧ cell.vm.isStatics = false ∧ s.vm.findClass C = some cell.cls) (hP : P H) (hK : KK g s)
    (hn : As.length = n) (hsize : ls.size = nL) (hst : st0 = As.reverse ++ .ref b :: rest) (hW : (rest.map fun v => v.category).sum ≤ 8) (hdg : decode cc pc = .ok (.invokevirtual index, 3)) (hf : cells + 0 ≤ R.cells ∧ slots + 0 ≤ R.slots)
    (kk : W p l e R s m args below meth c H locs cells slots Q (F0 m (pc + 3) ls (.int (zi v) :: rest))) : W p l e R s m args below meth c H locs cells slots Q (F0 m pc ls st0) :=
  vp_callSi (va_Run.run (va_runV S hM cw ⟨zPc.blind g _ P, hr, fun U hU hW => ⟨rfl, by rw [hU]; exact hP, hK.warm hW⟩⟩ rfl hn hsize hst (lv_room hW) hdg hf)) (fun r hr => by rw [hr]; exact kk)
theorem ro_S {y : MethodName} {bytes : ByteArray} {maxL nL n index : Nat} {ret : Option FieldType} {ws : List Cond} {rm : Room} {Ts : List Cond} {own : String} {As st0 : List Value} {g : gG} {P : Heap → Prop} {v : Int}
    (S : CallFix p m c cc nL s args Ts own) (hM : RO l y ws rm g As P v) (cw : CallB R s args own index y bytes maxL ret ws rm 0 0 n ∧ (Cond.static y).before args s = true) (hP : P H) (hK : KK g s)
    (hn : As.length = n) (hsize : ls.size = nL) (hst : st0 = As.reverse ++ rest) (hW : (rest.map fun v => v.category).sum ≤ 8) (hdg : decode cc pc = .ok (.invokestatic index, 3)) (hf : cells + 0 ≤ R.cells ∧ slots + 0 ≤ R.slots)
    (kk : W p l e R s m args below meth c H locs cells slots Q (F0 m (pc + 3) ls (.int (zi v) :: rest))) : W p l e R s m args below meth c H locs cells slots Q (F0 m pc ls st0) :=
  vp_callSi (va_Run.run (va_runS S hM cw ⟨zPc.blind g _ P, fun U hU hW => ⟨rfl, by rw [hU]; exact hP, hK.warm hW⟩⟩ rfl hn hsize hst (lv_room hW) hdg hf)) (fun r hr => by rw [hr]; exact kk)
/-! ===== their ends ===== -/
theorem z_iret {a v : Int} (hx : p.tables.exec = Jvm.exec) (hb : c.code = cc) (hr : meth.sig.returnType = some .int) (hlk : meth.locks = false) (hdg : decode cc pc = .ok (.ireturn, 1)) (h : a = v) : W p l e R s m args below meth c s.heap [] 0 0 (MQ below (vp_Si (fun r => r = zi v)) args s 0 0 (fun _ => False)) (F0 m pc ls [.int (zi a)]) :=
  W.iret hx hb hr (fun t ht _ => ⟨_, rfl, by rw [h], ht⟩) (fun q hq => absurd hq List.not_mem_nil) hdg hlk
theorem z_zret {a v : Int} (hx : p.tables.exec = Jvm.exec) (hb : c.code = cc) (hr : meth.sig.returnType = some .boolean) (hlk : meth.locks = false) (hdg : decode cc pc = .ok (.ireturn, 1)) (h01 : a = 0 ∨ a = 1) (h : a = v) : W p l e R s m args below meth c s.heap [] 0 0 (MQ below (vp_Si (fun r => r = zi v)) args s 0 0 (fun _ => False)) (F0 m pc ls [.int (zi a)]) :=
  W.zret hx hb hr (by rcases h01 with rfl | rfl <;> rfl) (fun t ht _ => ⟨_, rfl, by rw [h], ht⟩) (fun q hq => absurd hq List.not_mem_nil) hdg hlk
end ZR
end
section
/-! ===== what the rules find: the mathematics of both sides ===== -/
def dz (a b : Int) : Int := if b ≤ a then a - b else b - a
theorem dz_0 {a b : Int} : dz a b = 0 ↔ a = b := by unfold dz; split <;> omega
theorem dz_c (a b : Int) : dz a b = dz b a := by unfold dz; split <;> split <;> omega
theorem dz_r {a b : Int} (ha : 0 ≤ a ∧ a ≤ 40) (hb : 0 ≤ b ∧ b ≤ 40) : 0 ≤ dz a b ∧ dz a b ≤ 40 := by unfold dz; split <;> omega
def iv (u lo : Nat → Int) (b : Nat) : Int := dz (u b) (lo b) % 12
theorem iv_r (u lo : Nat → Int) (b : Nat) : 0 ≤ iv u lo b ∧ iv u lo b ≤ 11 := by unfold iv; omega
def Nt (u : Nat → Int) : Prop := ∀ j, 0 ≤ u j ∧ u j ≤ 40
abbrev P7 (x : Int) : Prop := x = 0 ∨ x = 7
abbrev D0 (u lo : Nat → Int) (b : Nat) : Prop := iv u lo b = 1 ∨ iv u lo b = 2 ∨ iv u lo b = 5 ∨ iv u lo b = 6 ∨ iv u lo b = 10 ∨ iv u lo b = 11
abbrev D1 (u lo : Nat → Int) (b : Nat) : Prop := 1 ≤ b ∧ ¬ u b = u (b - 1) ∧ ¬ lo b = lo (b - 1) ∧ iv u lo b = iv u lo (b - 1) ∧ P7 (iv u lo b)
def F2 (u lo : Nat → Int) (b : Nat) : Int := if 1 ≤ b then pz (9 < dz (u b) (u (b - 1))) + pz (9 < dz (lo b) (lo (b - 1))) else 0
abbrev D3 (u lo : Nat → Int) (b : Nat) : Prop := u b < lo b
def F4 (n : Nat) (u lo : Nat → Int) (b : Nat) : Int := if P7 (iv u lo b) then 0 else pz (b = 0) + pz (b + 1 = n)
abbrev D5 (u : Nat → Int) (b : Nat) : Prop := 2 ≤ b ∧ u b = u (b - 1) ∧ u (b - 1) = u (b - 2)
def ft (r n : Nat) (u lo : Nat → Int) (b : Nat) : Int := match r with
  | 0 => pz (D0 u lo b)
  | 1 => pz (D1 u lo b)
  | 2 => F2 u lo b
  | 3 => pz (D3 u lo b)
  | 4 => F4 n u lo b
  | _ => pz (D5 u b)
theorem pz_b (P : Prop) [Decidable P] : 0 ≤ pz P ∧ pz P ≤ 1 := by unfold pz; split <;> decide
theorem ft_r (r n : Nat) (u lo : Nat → Int) (b : Nat) : 0 ≤ ft r n u lo b ∧ ft r n u lo b ≤ 2 := by
  unfold ft
  split
  · have := pz_b (D0 u lo b); omega
  · have := pz_b (D1 u lo b); omega
  · unfold F2
    split
    · have h1 := pz_b (9 < dz (u b) (u (b - 1)))
      have h2 := pz_b (9 < dz (lo b) (lo (b - 1)))
      omega
    · omega
  · have := pz_b (D3 u lo b); omega
  · unfold F4
    split
    · omega
    · have h1 := pz_b (b = 0)
      have h2 := pz_b (b + 1 = n)
      omega
  · have := pz_b (D5 u b); omega
/-- the way of a voice up to a bar -/
def wy (w : Nat → Int) : Nat → Int
  | 0 => 0
  | 1 => 0
  | k + 2 => wy w (k + 1) + dz (w (k + 1)) (w k)
theorem wy_s (w : Nat → Int) {k : Nat} (h : 1 ≤ k) : wy w (k + 1) = wy w k + dz (w k) (w (k - 1)) := by
  match k, h with
  | k + 1, _ => rfl
theorem wy_r {w : Nat → Int} (hw : Nt w) : ∀ j : Nat, 0 ≤ wy w j ∧ wy w j ≤ 40 * (j : Int) := by
  intro j
  induction j with
  | zero => simp [wy]
  | succ j ih =>
    by_cases h : 1 ≤ j
    · rw [wy_s w h]
      have h1 := dz_r (hw j) (hw (j - 1))
      omega
    · have h0 : j = 0 := by omega
      subst h0
      simp [wy]
/-! ===== a score's cells ===== -/
def ScP (g : gG) (q a b : Nat) (n : Int) (u lo : Nat → Int) (H : Heap) : Prop :=
  va_at g.1 vwCl (q, .inr (1, [.int (zi n), .ref a, .ref b])) H ∧ va_at g.1 vwCl (a, .inl (g.2.1, 12, .inl (fun j => zi (u j)))) H ∧ va_at g.1 vwCl (b, .inl (g.2.1, 12, .inl (fun j => zi (lo j)))) H
end
section
/-! ===== what writes: worlds, their contracts, calls of them ===== -/
theorem z_D {A : Nat → Prop} {ws ws' : va_W} (h : va_D A ws) (e : ws'.map Prod.fst = ws.map Prod.fst) : va_D A ws' := by
  have key : ∀ (k : Nat) (q : Nat × va_E), ws'[k]? = some q → ∃ q0, ws[k]? = some q0 ∧ q0.1 = q.1 := by
    intro k q hk
    have h1 : (ws'.map Prod.fst)[k]? = some q.1 := by rw [List.getElem?_map, hk]; rfl
    rw [e, List.getElem?_map] at h1
    cases hw : ws[k]? with
    | none => rw [hw] at h1; cases h1
    | some q0 => rw [hw] at h1; exact ⟨q0, rfl, Option.some.inj h1⟩
  refine ⟨fun i j x y hi hj hxy => ?_, fun k q hk => ?_⟩
  · obtain ⟨x0, h1, h2⟩ := key i x hi
    obtain ⟨y0, h3, h4⟩ := key j y hj
    exact h.1 i j x0 y0 h1 h3 (h2.trans (hxy.trans h4.symm))
  · obtain ⟨q0, h1, h2⟩ := key k q hk
    rw [← h2]
    exact h.2 k q0 h1
theorem z_nA {w0 : va_W} {sz x : Nat} (hl : x < sz) (hn : x ∉ w0.map Prod.fst) : ¬ va_A w0 sz x := by
  rintro (⟨k, e, h⟩ | h)
  · exact hn (List.mem_map.mpr ⟨(x, e), List.mem_of_getElem? h, rfl⟩)
  · omega
theorem z_inA {w0 : va_W} {sz x : Nat} (h : va_A w0 sz x) : x ∈ w0.map Prod.fst ∨ sz ≤ x := by
  rcases h with ⟨k, e, h⟩ | h
  · exact Or.inl (List.mem_map.mpr ⟨(x, e), List.mem_of_getElem? h, rfl⟩)
  · exact Or.inr h
theorem ScP.stay {g : gG} {q a b : Nat} {n : Int} {u lo : Nat → Int} {A : Nat → Prop} {H0 H : Heap} {locs : List Loc} (h : ScP g q a b n u lo H0) (hS : va_S A H0 H locs) (h1 : ¬ A q) (h2 : ¬ A a) (h3 : ¬ A b) : ScP g q a b n u lo H := ⟨z_stay h.1 hS h1, z_stay h.2.1 hS h2, z_stay h.2.2 hS h3⟩
theorem ScP.kept {g : gG} {q a b : Nat} {n : Int} {u lo : Nat → Int} {H0 H : Heap} (h : ScP g q a b n u lo H0) (h1 : H[q]? = H0[q]?) (h2 : H[a]? = H0[a]?) (h3 : H[b]? = H0[b]?) : ScP g q a b n u lo H := ⟨h.1.kept h1, h.2.1.kept h2, h.2.2.kept h3⟩
theorem ScP.lt {g : gG} {q a b : Nat} {n : Int} {u lo : Nat → Int} {H : Heap} (h : ScP g q a b n u lo H) : q < H.size ∧ a < H.size ∧ b < H.size := ⟨h.1.lt, h.2.1.lt, h.2.2.lt⟩
abbrev ScW (g : gG) (q a b : Nat) (n : Int) (u lo : Nat → Int) : va_W := [(q, .inr (1, [.int (zi n), .ref a, .ref b])), (a, .inl (g.2.1, 12, .inl (fun j => zi (u j)))), (b, .inl (g.2.1, 12, .inl (fun j => zi (lo j))))]
theorem ScW.P {g : gG} {q a b : Nat} {n : Int} {u lo : Nat → Int} {H : Heap} (h : va_P g.1 vwCl (ScW g q a b n u lo) H) : ScP g q a b n u lo H := ⟨h 0 _ rfl, h 1 _ rfl, h 2 _ rfl⟩
theorem ScP.W {g : gG} {q a b : Nat} {n : Int} {u lo : Nat → Int} {H : Heap} (h : ScP g q a b n u lo H) : va_P g.1 vwCl (ScW g q a b n u lo) H := by
  intro k x hk
  match k, hk with
  | 0, hk => cases hk; exact h.1
  | 1, hk => cases hk; exact h.2.1
  | 2, hk => cases hk; exact h.2.2
  | k + 3, hk => simp at hk
abbrev wP (g : gG) (sz : Nat) (w0 : va_W) (P : Heap → Prop) : Heap → Prop := fun H => H.size = sz ∧ va_P g.1 vwCl w0 H ∧ P H
/-- writes cells of its world alone, makes none, answers nothing -/
abbrev WV (l : Launch) (y : MethodName) (ws : List Cond) (rm : Room) (g : gG) (av : List Value) (sz : Nat) (w0 : va_W) (P : Heap → Prop) (w1 : va_W) : Prop :=
  Met l y ws rm (zPc g av (wP g sz w0 P)) (va_Qv (fun _ : Unit => True) (fun _ t => va_P g.1 vwCl w1 t.heap) (va_A w0 sz)) 0 0 (va_A w0 sz)
abbrev WI (l : Launch) (y : MethodName) (ws : List Cond) (rm : Room) (g : gG) (av : List Value) (sz : Nat) (w0 : va_W) (P : Heap → Prop) (w1 : va_W) (v : Int) : Prop :=
  Met l y ws rm (zPc g av (wP g sz w0 P)) (va_Qi (fun r (_ : Unit) => r = zi v) (fun _ t => va_P g.1 vwCl w1 t.heap) (va_A w0 sz)) 0 0 (va_A w0 sz)
section ZW
variable {p : Program} {l : Launch} {e : Env} {R : Room} {s : State} {m : MethodId} {args : Array Value} {below : List Frame} {meth : Method} {c : Code} {H : Heap} {locs : List Loc} {cells slots : Nat} {Q : State → Prop}
variable {cc : ByteArray} {pc : Nat} {ls : Array Slot} {rest : List Value}
theorem z_put (hx : p.tables.exec = Jvm.exec) (hb : c.code = cc) {own ref C : String} {T : u_T} {N ci index a : Nat} {Ts : List Cond} {g : gG} {ws : va_W} {A : Nat → Prop} {H0 : Heap} (hts : ∀ w ∈ Ts, w.before args s = true) (hin : ∀ w ∈ u_ws C T N, w ∈ Ts) (ty0 : Nat → FieldType) (hty : ∀ k, k < N → parseFieldDescriptor (T k).2.2.1 = some (ty0 k)) (hnm : ∀ a, a < N → ∀ b, b < N → a ≠ b → (T a).2.1 ≠ (T b).2.1) (hown : s.vm.findClass own = some m.cls) (hK : KK g s) (hP : va_P g.1 vwCl ws H) (hD : va_D A ws) (hS : va_S A H0 H locs) (q0 : Nat) {fs : List Value} (he : ws[q0]? = some (a, .inr (ci, fs))) (hc : vwCl[ci]? = some (C, T, N)) (k : Nat) (hk : k < N) (hlink : (Cond.fieldLink own index ref (T k).2.1 (T k).2.2.1).before args s = true) (hsame : ref = (T k).1) (hfin : (T k).2.2.2 = false ∨ ((T k).2.2.2 = true ∧ meth.name = "<init>" ∧ (T k).1 = own)) {v : Value} (hn : narrow (ty0 k) v = v) (hfit : fits (ty0 k) v = true) (hl : k < fs.length) (hdg : decode cc pc = .ok (.putfield index, 3))
    (kk : ∀ (H1 : Heap) (locs1 : List Loc), va_P g.1 vwCl (ws.set q0 (a, .inr (ci, fs.set k v))) H1 → va_D A (ws.set q0 (a, .inr (ci, fs.set k v))) → va_S A H0 H1 locs1 → W p l e R s m args below meth c H1 locs1 cells slots Q (F0 m (pc + 3) ls rest)) : W p l e R s m args below meth c H locs cells slots Q (F0 m pc ls (v :: .ref a :: rest)) := by
  rcases hfin with hfin | ⟨h1, h2, h3⟩
  · exact va_put hx hb hts hin ty0 hty hnm hown hK.1 hP hD hS q0 he hc k hk hlink (fun _ h => by rw [hsame]; exact h) hfin (hty k hk) hn hfit hl hdg kk
  · exact va_putF hx hb hts hin ty0 hty hnm hown hK.1 hP hD hS q0 he hc k hk hlink (fun _ h => by rw [hsame]; exact h) h1 h2 h3 (hty k hk) hn hfit hl hdg kk
theorem z_putN (hx : p.tables.exec = Jvm.exec) (hb : c.code = cc) {own ref C host : String} {T : u_T} {N ci index a : Nat} {Ts : List Cond} {g : gG} {ws : va_W} {A : Nat → Prop} {H0 : Heap} (hts : ∀ w ∈ Ts, w.before args s = true) (hin : ∀ w ∈ u_ws C T N, w ∈ Ts) (ty0 : Nat → FieldType) (hty : ∀ k, k < N → parseFieldDescriptor (T k).2.2.1 = some (ty0 k)) (hnm : ∀ a, a < N → ∀ b, b < N → a ≠ b → (T a).2.1 ≠ (T b).2.1) (hown : s.vm.findClass own = some m.cls) (hK : KK g s) (hP : va_P g.1 vwCl ws H) (hD : va_D A ws) (hS : va_S A H0 H locs) (q0 : Nat) {fs : List Value} (he : ws[q0]? = some (a, .inr (ci, fs))) (hc : vwCl[ci]? = some (C, T, N)) (k : Nat) (hk : k < N) (hlink : (Cond.fieldLinkNest own index ref (T k).2.1 (T k).2.2.1 host) ∈ nwL) (hsame : ref = (T k).1) (hfin : (T k).2.2.2 = false) {v : Value} (hn : narrow (ty0 k) v = v) (hfit : fits (ty0 k) v = true) (hl : k < fs.length) (hdg : decode cc pc = .ok (.putfield index, 3))
    (kk : ∀ (H1 : Heap) (locs1 : List Loc), va_P g.1 vwCl (ws.set q0 (a, .inr (ci, fs.set k v))) H1 → va_D A (ws.set q0 (a, .inr (ci, fs.set k v))) → va_S A H0 H1 locs1 → W p l e R s m args below meth c H1 locs1 cells slots Q (F0 m (pc + 3) ls rest)) : W p l e R s m args below meth c H locs cells slots Q (F0 m pc ls (v :: .ref a :: rest)) :=
  va_putN hx hb hts hin ty0 hty hnm hown hK.1 hP hD hS q0 he hc k hk (va_Nw.use rfl (hK.2 _ hlink)) (fun _ h => by rw [hsame]; exact h) hfin (hty k hk) hn hfit hl hdg kk
theorem z_vret {Qc : Array Value → State → Outcome → State → Prop} {free : Addr → Prop} (hx : p.tables.exec = Jvm.exec) (hb : c.code = cc) (hr : meth.sig.returnType = none) (hlk : meth.locks = false) (hdg : decode cc pc = .ok (.return_, 1)) (hq : ∀ t : State, t.heap = H → s.WarmedH t.vm → Qc args s (.returned none) t) (hf : ∀ q ∈ locs, free q.base) : W p l e R s m args below meth c H locs cells slots (MQ below Qc args s cells slots free) (F0 m pc ls []) := W.vret hx hb hr hq hf hdg hlk
theorem wv_V {y : MethodName} {bytes : ByteArray} {maxL nL n index b : Nat} {ret : Option FieldType} {ws : List Cond} {rm : Room} {Ts : List Cond} {own C : String} {As st0 : List Value} {g : gG} {w0 w1 : va_W} {P : Heap → Prop} {A0 : Nat → Prop} {H0 : Heap}
    (S : CallFix p m c cc nL s args Ts own) (hM : WV l y ws rm g (.ref b :: As) H.size w0 P w1) (cw : CallW R s args own C index y bytes maxL ret ws rm 0 0 n) (hr : ∃ cell : Cell, H[b]? = some cell ∧ cell.vm.isStatics = false ∧ s.vm.findClass C = some cell.cls) (hP0 : va_P g.1 vwCl w0 H) (hP : P H) (hK : KK g s)
    (hn : As.length = n) (hsize : ls.size = nL) (hst : st0 = As.reverse ++ .ref b :: rest) (hW : (rest.map fun v => v.category).sum ≤ 8) (hdg : decode cc pc = .ok (.invokevirtual index, 3)) (hf : cells + 0 ≤ R.cells ∧ slots + 0 ≤ R.slots) (hS : va_S A0 H0 H locs) (hfree : ∀ q, va_A w0 H.size q → A0 q)
    (kk : ∀ (H1 : Heap) (locs1 : List Loc), va_P g.1 vwCl w1 H1 → H.size ≤ H1.size → (∀ q : Nat, q < H.size → ¬ va_A w0 H.size q → H1[q]? = H[q]?) → va_S A0 H0 H1 locs1 → W p l e R s m args below meth c H1 locs1 cells slots Q (F0 m (pc + 3) ls rest)) : W p l e R s m args below meth c H locs cells slots Q (F0 m pc ls st0) :=
  va_callv (va_runV S hM cw ⟨zPc.blind g _ _, hr, fun U hU hW => ⟨rfl, ⟨by rw [hU], by rw [hU]; exact hP0, by rw [hU]; exact hP⟩, hK.warm hW⟩⟩ rfl hn hsize hst (lv_room hW) hdg hf) hS (fun q _ h => hfree q h) hfree (fun u t H1 locs1 ht hvm hw hB hz hk hS1 => kk H1 locs1 (by rw [← ht]; exact hB) hz hk hS1)
theorem wi_V {y : MethodName} {bytes : ByteArray} {maxL nL n index b : Nat} {ret : Option FieldType} {ws : List Cond} {rm : Room} {Ts : List Cond} {own C : String} {As st0 : List Value} {g : gG} {w0 w1 : va_W} {P : Heap → Prop} {A0 : Nat → Prop} {H0 : Heap} {v : Int}
    (S : CallFix p m c cc nL s args Ts own) (hM : WI l y ws rm g (.ref b :: As) H.size w0 P w1 v) (cw : CallW R s args own C index y bytes maxL ret ws rm 0 0 n) (hr : ∃ cell : Cell, H[b]? = some cell ∧ cell.vm.isStatics = false ∧ s.vm.findClass C = some cell.cls) (hP0 : va_P g.1 vwCl w0 H) (hP : P H) (hK : KK g s)
    (hn : As.length = n) (hsize : ls.size = nL) (hst : st0 = As.reverse ++ .ref b :: rest) (hW : (rest.map fun v => v.category).sum ≤ 8) (hdg : decode cc pc = .ok (.invokevirtual index, 3)) (hf : cells + 0 ≤ R.cells ∧ slots + 0 ≤ R.slots) (hS : va_S A0 H0 H locs) (hfree : ∀ q, va_A w0 H.size q → A0 q)
    (kk : ∀ (H1 : Heap) (locs1 : List Loc), va_P g.1 vwCl w1 H1 → H.size ≤ H1.size → (∀ q : Nat, q < H.size → ¬ va_A w0 H.size q → H1[q]? = H[q]?) → va_S A0 H0 H1 locs1 → W p l e R s m args below meth c H1 locs1 cells slots Q (F0 m (pc + 3) ls (.int (zi v) :: rest))) : W p l e R s m args below meth c H locs cells slots Q (F0 m pc ls st0) :=
  va_calli (va_runV S hM cw ⟨zPc.blind g _ _, hr, fun U hU hW => ⟨rfl, ⟨by rw [hU], by rw [hU]; exact hP0, by rw [hU]; exact hP⟩, hK.warm hW⟩⟩ rfl hn hsize hst (lv_room hW) hdg hf) hS (fun q _ h => hfree q h) hfree (fun r u t H1 locs1 ht hvm hw hB hz hk hS1 => by rw [hw]; exact kk H1 locs1 (by rw [← ht]; exact hB) hz hk hS1)
theorem z_wiret {v a : Int} {w0 w1 : va_W} {g : gG} (hx : p.tables.exec = Jvm.exec) (hb : c.code = cc) (hr : meth.sig.returnType = some .int) (hlk : meth.locks = false) (hdg : decode cc pc = .ok (.ireturn, 1)) (h : a = v) (hP : va_P g.1 vwCl w1 H) (hS : va_S (va_A w0 s.heap.size) s.heap H locs) : W p l e R s m args below meth c H locs cells slots (MQ below (va_Qi (fun r (_ : Unit) => r = zi v) (fun _ t => va_P g.1 vwCl w1 t.heap) (va_A w0 s.heap.size)) args s cells slots (va_A w0 s.heap.size)) (F0 m pc ls [.int (zi a)]) :=
  W.iret hx hb hr (fun t ht _ => ⟨⟨_, (), rfl, by rw [h], by show va_P _ _ _ t.heap; rw [ht]; exact hP⟩, hS.F ht⟩) hS.2.2 hdg hlk
theorem z_wzret {v a : Int} {w0 w1 : va_W} {g : gG} (hx : p.tables.exec = Jvm.exec) (hb : c.code = cc) (hr : meth.sig.returnType = some .boolean) (hlk : meth.locks = false) (hdg : decode cc pc = .ok (.ireturn, 1)) (h01 : a = 0 ∨ a = 1) (h : a = v) (hP : va_P g.1 vwCl w1 H) (hS : va_S (va_A w0 s.heap.size) s.heap H locs) : W p l e R s m args below meth c H locs cells slots (MQ below (va_Qi (fun r (_ : Unit) => r = zi v) (fun _ t => va_P g.1 vwCl w1 t.heap) (va_A w0 s.heap.size)) args s cells slots (va_A w0 s.heap.size)) (F0 m pc ls [.int (zi a)]) :=
  W.zret hx hb hr (by rcases h01 with rfl | rfl <;> rfl) (fun t ht _ => ⟨⟨_, (), rfl, by rw [h], by show va_P _ _ _ t.heap; rw [ht]; exact hP⟩, hS.F ht⟩) hS.2.2 hdg hlk
theorem z_wvret {w0 w1 : va_W} {g : gG} (hx : p.tables.exec = Jvm.exec) (hb : c.code = cc) (hr : meth.sig.returnType = none) (hlk : meth.locks = false) (hdg : decode cc pc = .ok (.return_, 1)) (hP : va_P g.1 vwCl w1 H) (hS : va_S (va_A w0 s.heap.size) s.heap H locs) : W p l e R s m args below meth c H locs cells slots (MQ below (va_Qv (fun _ : Unit => True) (fun _ t => va_P g.1 vwCl w1 t.heap) (va_A w0 s.heap.size)) args s cells slots (va_A w0 s.heap.size)) (F0 m pc ls []) :=
  W.vret hx hb hr (fun t ht _ => ⟨⟨(), rfl, trivial, by show va_P _ _ _ t.heap; rw [ht]; exact hP⟩, hS.F ht⟩) hS.2.2 hdg hlk
end ZW
end
section
set_option maxHeartbeats 4000000 in
set_option maxRecDepth 100000 in
/-- a note of a bar that there is -/
theorem c_X1_tone (l : Launch) (g : gG) (q a b : Nat) (n : Int) (u lo : Nat → Int) (hu : Nt u) (hlo : Nt lo) (v : Int) (hv : zr v) (k : Nat) (hk : k < 12) (z : Int) (hz : z = (k : Int)) (x : Int) (hx0 : v = 0 → x = u k) (hx1 : ¬ v = 0 → x = lo k) : RO l yX1_tone wsX1_tone ({ frames := 0, cells := 0, slots := 0, locals := 0 }) g [.ref q, .int (zi (v)), .int (zi (z))] (ScP g q a b n u lo) (x) := by
  refine RO.ofW (cc := cX1_tone) (maxL := 4) (ret := (some .int)) (by decide) rfl (Nat.le_of_ble_eq_true rfl) ?_
  intro p e s m below meth c ls hx hb hr hml hown hts hlk hP hK hl
  have hown : s.vm.findClass RX1 = some m.cls := hown
  have hl : lv_has ls 4 [(0, .ref q), (1, .int (zi (v))), (2, .int (zi (z)))] := hl
  have hiX1 : ∀ w ∈ u_ws RX1 TX1 3, w ∈ wsX1_tone := by decide +kernel
  refine lv_iload_n hx hb dX1_tone_0 rfl (lv_at hl 1 rfl) ?_
  refine z_if_ne (tgt := 11) hx hb dX1_tone_1 (by decide) (by omega) (fun h1 => ?_) (fun h1 => ?_)
  ·
    refine lv_aload_n hx hb dX1_tone_11 rfl (lv_at hl 0 rfl) ?_
    refine z_get (C := RX1) (T := TX1) (N := 3) hx hb hts hiX1 hown hK hP.1 rfl 2 (by decide) (hts (.fieldLink RX1 19 "HarmoniumDesk$Score" "lower" "[I") (by decide +kernel)) rfl rfl dX1_tone_12 ?_
    refine lv_astore_n (lv' := [(3, .ref b), (0, .ref q), (1, .int (zi (v))), (2, .int (zi (z)))]) hx hb dX1_tone_15 rfl hl (by decide) rfl (fun ls hl => ?_)
    refine lv_iload_n hx hb dX1_tone_16 rfl (lv_at hl 3 rfl) ?_
    refine z_if_lt (tgt := 32) hx hb dX1_tone_17 (by decide) (by omega) (fun h17 => ?_) (fun h17 => ?_)
    · exfalso; omega
    ·
      refine lv_iload_n hx hb dX1_tone_20 rfl (lv_at hl 3 rfl) ?_
      refine lv_aload_n hx hb dX1_tone_21 rfl (lv_at hl 0 rfl) ?_
      refine z_alen hx hb hK hP.2.2 0 rfl dX1_tone_22 ?_
      refine z_icmp_ge (tgt := 32) hx hb dX1_tone_23 (by decide) (by omega) (by omega) (fun h23 => ?_) (fun h23 => ?_)
      · exfalso; omega
      ·
        refine lv_aload_n hx hb dX1_tone_26 rfl (lv_at hl 0 rfl) ?_
        refine lv_iload_n hx hb dX1_tone_27 rfl (lv_at hl 3 rfl) ?_
        refine z_iald hx hb hK hP.2.2 (k) (by omega) (by omega) (by decide) dX1_tone_28 ?_
        refine lv_goto (tgt := 33) hx hb dX1_tone_29 (by decide) ?_
        exact z_iret hx hb hr hlk dX1_tone_33 ((hx1 (by omega)).symm)
  ·
    refine lv_aload_n hx hb dX1_tone_4 rfl (lv_at hl 0 rfl) ?_
    refine z_get (C := RX1) (T := TX1) (N := 3) hx hb hts hiX1 hown hK hP.1 rfl 1 (by decide) (hts (.fieldLink RX1 15 "HarmoniumDesk$Score" "upper" "[I") (by decide +kernel)) rfl rfl dX1_tone_5 ?_
    refine lv_goto (tgt := 15) hx hb dX1_tone_8 (by decide) ?_
    refine lv_astore_n (lv' := [(3, .ref a), (0, .ref q), (1, .int (zi (v))), (2, .int (zi (z)))]) hx hb dX1_tone_15 rfl hl (by decide) rfl (fun ls hl => ?_)
    refine lv_iload_n hx hb dX1_tone_16 rfl (lv_at hl 3 rfl) ?_
    refine z_if_lt (tgt := 32) hx hb dX1_tone_17 (by decide) (by omega) (fun h17 => ?_) (fun h17 => ?_)
    · exfalso; omega
    ·
      refine lv_iload_n hx hb dX1_tone_20 rfl (lv_at hl 3 rfl) ?_
      refine lv_aload_n hx hb dX1_tone_21 rfl (lv_at hl 0 rfl) ?_
      refine z_alen hx hb hK hP.2.1 0 rfl dX1_tone_22 ?_
      refine z_icmp_ge (tgt := 32) hx hb dX1_tone_23 (by decide) (by omega) (by omega) (fun h23 => ?_) (fun h23 => ?_)
      · exfalso; omega
      ·
        refine lv_aload_n hx hb dX1_tone_26 rfl (lv_at hl 0 rfl) ?_
        refine lv_iload_n hx hb dX1_tone_27 rfl (lv_at hl 3 rfl) ?_
        refine z_iald hx hb hK hP.2.1 (k) (by omega) (by omega) (by decide) dX1_tone_28 ?_
        refine lv_goto (tgt := 33) hx hb dX1_tone_29 (by decide) ?_
        exact z_iret hx hb hr hlk dX1_tone_33 ((hx0 (by omega)).symm)

set_option maxHeartbeats 4000000 in
set_option maxRecDepth 100000 in
/-- the interval of a bar -/
theorem c_X1_interval (l : Launch) (g : gG) (q a b : Nat) (n : Int) (u lo : Nat → Int) (hu : Nt u) (hlo : Nt lo) (k : Nat) (hk : k < 12) (z : Int) (hz : z = (k : Int)) : RO l yX1_interval wsX1_interval ({ frames := 1, cells := 0, slots := 0, locals := 23 }) g [.ref q, .int (zi (z))] (ScP g q a b n u lo) (iv u lo k) := by
  refine RO.ofW (cc := cX1_interval) (maxL := 2) (ret := (some .int)) (by decide) rfl (Nat.le_of_ble_eq_true rfl) ?_
  intro p e s m below meth c ls hx hb hr hml hown hts hlk hP hK hl
  have hown : s.vm.findClass RX1 = some m.cls := hown
  have hl : lv_has ls 2 [(0, .ref q), (1, .int (zi (z)))] := hl
  have h1 := hu k
  have h2 := hlo k
  refine lv_aload_n hx hb dX1_interval_0 rfl (lv_at hl 0 rfl) ?_
  refine z_iconst hx hb dX1_interval_1 ?_
  refine lv_iload_n hx hb dX1_interval_2 rfl (lv_at hl 1 rfl) ?_
  refine ro_V (rest := []) (As := [.int (zi (0)), .int (zi (z))]) ⟨hx, hb, hml, hown, hts⟩ (c_X1_tone l g q a b n u lo hu hlo (0) (by omega) (k) (by omega) (z) (by omega) (u (k)) (fun _ => rfl) (fun h => absurd rfl h)) (cwV 2 hts gX1_interval_X1_tone rfl rfl rfl (by decide +kernel) ⟨Nat.le_of_ble_eq_true rfl, Nat.le_of_ble_eq_true rfl⟩) (z_recv hK hP.1 rfl) hP hK rfl hl.1 rfl (Nat.le_of_ble_eq_true rfl) dX1_interval_3 ⟨Nat.zero_le _, Nat.zero_le _⟩ ?_
  refine lv_aload_n hx hb dX1_interval_6 rfl (lv_at hl 0 rfl) ?_
  refine z_iconst hx hb dX1_interval_7 ?_
  refine lv_iload_n hx hb dX1_interval_8 rfl (lv_at hl 1 rfl) ?_
  refine ro_V (rest := [.int (zi (u (k)))]) (As := [.int (zi (1)), .int (zi (z))]) ⟨hx, hb, hml, hown, hts⟩ (c_X1_tone l g q a b n u lo hu hlo (1) (by omega) (k) (by omega) (z) (by omega) (lo (k)) (fun h => absurd h (by decide)) (fun _ => rfl)) (cwV 2 hts gX1_interval_X1_tone rfl rfl rfl (by decide +kernel) ⟨Nat.le_of_ble_eq_true rfl, Nat.le_of_ble_eq_true rfl⟩) (z_recv hK hP.1 rfl) hP hK rfl hl.1 rfl (Nat.le_of_ble_eq_true rfl) dX1_interval_9 ⟨Nat.zero_le _, Nat.zero_le _⟩ ?_
  refine z_isub hx hb dX1_interval_12 ?_
  refine z_abs (d := dz (u (k)) (lo (k))) hx hb (hml.trans hl.1.symm) hown (hts (.methodLink RX1 54 Lib.Math.abs.name) (by decide +kernel)) (hts (.static Lib.Math.abs.name) (by decide +kernel)) (hts (.initialized "java/lang/Math") (by decide +kernel)) (hts (.code Lib.Math.abs.name Lib.Math.abs.code 1 (some .int)) (by decide +kernel)) (Nat.le_of_ble_eq_true rfl) (Nat.le_of_ble_eq_true rfl) (Nat.zero_le _) (Nat.zero_le _) (by omega) (by (try unfold dz); omega) (by (try unfold dz); omega) dX1_interval_13 ?_
  have h3 := dz_r h1 h2
  refine z_bipush hx hb dX1_interval_16 (by decide) ?_
  refine z_irem hx hb (by omega) (by omega) (by omega) (by omega) dX1_interval_18 ?_
  exact z_iret hx hb hr hlk dX1_interval_19 (rfl)

set_option maxHeartbeats 4000000 in
set_option maxRecDepth 100000 in
theorem c_X1_isPerfect (l : Launch) (g : gG) (x : Int) (hr : zr x) : RO l yX1_isPerfect wsX1_isPerfect ({ frames := 0, cells := 0, slots := 0, locals := 0 }) g [.int (zi (x))] (fun _ => True) (pz (P7 x)) := by
  refine RO.ofW (cc := cX1_isPerfect) (maxL := 1) (ret := (some .boolean)) (by decide) rfl (Nat.le_of_ble_eq_true rfl) ?_
  intro p e s m below meth c ls hx hb hr hml hown hts hlk hP hK hl
  have hown : s.vm.findClass RX1 = some m.cls := hown
  have hl : lv_has ls 1 [(0, .int (zi (x)))] := hl
  refine lv_iload_n hx hb dX1_isPerfect_0 rfl (lv_at hl 0 rfl) ?_
  refine z_if_eq (tgt := 10) hx hb dX1_isPerfect_1 (by decide) (by omega) (fun h1 => ?_) (fun h1 => ?_)
  ·
    refine z_iconst hx hb dX1_isPerfect_10 ?_
    refine lv_goto (tgt := 15) hx hb dX1_isPerfect_11 (by decide) ?_
    exact z_zret hx hb hr hlk dX1_isPerfect_15 (by omega) ((pz_t (by simp only [P7]; omega)).symm)
  ·
    refine lv_iload_n hx hb dX1_isPerfect_4 rfl (lv_at hl 0 rfl) ?_
    refine z_bipush hx hb dX1_isPerfect_5 (by decide) ?_
    refine z_icmp_ne (tgt := 14) hx hb dX1_isPerfect_7 (by decide) (by omega) (by omega) (fun h7 => ?_) (fun h7 => ?_)
    ·
      refine z_iconst hx hb dX1_isPerfect_14 ?_
      exact z_zret hx hb hr hlk dX1_isPerfect_15 (by omega) ((pz_f (by simp only [P7]; omega)).symm)
    ·
      refine z_iconst hx hb dX1_isPerfect_10 ?_
      refine lv_goto (tgt := 15) hx hb dX1_isPerfect_11 (by decide) ?_
      exact z_zret hx hb hr hlk dX1_isPerfect_15 (by omega) ((pz_t (by simp only [P7]; omega)).symm)

set_option maxHeartbeats 4000000 in
set_option maxRecDepth 100000 in
/-- how far a voice steps to a bar -/
theorem c_X1_stepTo (l : Launch) (g : gG) (q a b : Nat) (n : Int) (u lo : Nat → Int) (hu : Nt u) (hlo : Nt lo) (v : Int) (hv : zr v) (w : Nat → Int) (hw0 : v = 0 → w = u) (hw1 : ¬ v = 0 → w = lo) (k : Nat) (h1k : 1 ≤ k) (hk : k < 12) (z : Int) (hz : z = (k : Int)) : RO l yX1_stepTo wsX1_stepTo ({ frames := 1, cells := 0, slots := 0, locals := 23 }) g [.ref q, .int (zi (v)), .int (zi (z))] (ScP g q a b n u lo) (dz (w k) (w (k - 1))) := by
  refine RO.ofW (cc := cX1_stepTo) (maxL := 3) (ret := (some .int)) (by decide) rfl (Nat.le_of_ble_eq_true rfl) ?_
  intro p e s m below meth c ls hx hb hr hml hown hts hlk hP hK hl
  have hown : s.vm.findClass RX1 = some m.cls := hown
  have hl : lv_has ls 3 [(0, .ref q), (1, .int (zi (v))), (2, .int (zi (z)))] := hl
  have hw : Nt w := if h : v = 0 then by rw [hw0 h]; exact hu else by rw [hw1 h]; exact hlo
  have h1 := hw k
  have h2 := hw (k - 1)
  refine lv_aload_n hx hb dX1_stepTo_0 rfl (lv_at hl 0 rfl) ?_
  refine lv_iload_n hx hb dX1_stepTo_1 rfl (lv_at hl 1 rfl) ?_
  refine lv_iload_n hx hb dX1_stepTo_2 rfl (lv_at hl 2 rfl) ?_
  refine ro_V (rest := []) (As := [.int (zi (v)), .int (zi (z))]) ⟨hx, hb, hml, hown, hts⟩ (c_X1_tone l g q a b n u lo hu hlo (v) (by omega) (k) (by omega) (z) (by omega) (w (k)) (fun h => by rw [hw0 h]) (fun h => by rw [hw1 h])) (cwV 2 hts gX1_stepTo_X1_tone rfl rfl rfl (by decide +kernel) ⟨Nat.le_of_ble_eq_true rfl, Nat.le_of_ble_eq_true rfl⟩) (z_recv hK hP.1 rfl) hP hK rfl hl.1 rfl (Nat.le_of_ble_eq_true rfl) dX1_stepTo_3 ⟨Nat.zero_le _, Nat.zero_le _⟩ ?_
  refine lv_aload_n hx hb dX1_stepTo_6 rfl (lv_at hl 0 rfl) ?_
  refine lv_iload_n hx hb dX1_stepTo_7 rfl (lv_at hl 1 rfl) ?_
  refine lv_iload_n hx hb dX1_stepTo_8 rfl (lv_at hl 2 rfl) ?_
  refine z_iconst hx hb dX1_stepTo_9 ?_
  refine z_isub hx hb dX1_stepTo_10 ?_
  refine ro_V (rest := [.int (zi (w (k)))]) (As := [.int (zi (v)), .int (zi ((z) - (1)))]) ⟨hx, hb, hml, hown, hts⟩ (c_X1_tone l g q a b n u lo hu hlo (v) (by omega) (k - 1) (by omega) ((z) - (1)) (by omega) (w (k - 1)) (fun h => by rw [hw0 h]) (fun h => by rw [hw1 h])) (cwV 2 hts gX1_stepTo_X1_tone rfl rfl rfl (by decide +kernel) ⟨Nat.le_of_ble_eq_true rfl, Nat.le_of_ble_eq_true rfl⟩) (z_recv hK hP.1 rfl) hP hK rfl hl.1 rfl (Nat.le_of_ble_eq_true rfl) dX1_stepTo_11 ⟨Nat.zero_le _, Nat.zero_le _⟩ ?_
  refine z_isub hx hb dX1_stepTo_14 ?_
  refine z_abs (d := dz (w (k)) (w (k - 1))) hx hb (hml.trans hl.1.symm) hown (hts (.methodLink RX1 54 Lib.Math.abs.name) (by decide +kernel)) (hts (.static Lib.Math.abs.name) (by decide +kernel)) (hts (.initialized "java/lang/Math") (by decide +kernel)) (hts (.code Lib.Math.abs.name Lib.Math.abs.code 1 (some .int)) (by decide +kernel)) (Nat.le_of_ble_eq_true rfl) (Nat.le_of_ble_eq_true rfl) (Nat.zero_le _) (Nat.zero_le _) (by omega) (by (try unfold dz); omega) (by (try unfold dz); omega) dX1_stepTo_15 ?_
  exact z_iret hx hb hr hlk dX1_stepTo_18 (rfl)

set_option maxHeartbeats 4000000 in
set_option maxRecDepth 100000 in
theorem c_X1_isDiscord (l : Launch) (g : gG) (q a b : Nat) (n : Int) (u lo : Nat → Int) (hu : Nt u) (hlo : Nt lo) (k : Nat) (hk : k < 12) (z : Int) (hz : z = (k : Int)) : RO l yX1_isDiscord wsX1_isDiscord ({ frames := 2, cells := 0, slots := 0, locals := 44 }) g [.ref q, .int (zi (z))] (ScP g q a b n u lo) (pz (D0 u lo k)) := by
  refine RO.ofW (cc := cX1_isDiscord) (maxL := 2) (ret := (some .boolean)) (by decide) rfl (Nat.le_of_ble_eq_true rfl) ?_
  intro p e s m below meth c ls hx hb hr hml hown hts hlk hP hK hl
  have hown : s.vm.findClass RX1 = some m.cls := hown
  have hl : lv_has ls 2 [(0, .ref q), (1, .int (zi (z)))] := hl
  refine lv_aload_n hx hb dX1_isDiscord_0 rfl (lv_at hl 0 rfl) ?_
  refine lv_iload_n hx hb dX1_isDiscord_1 rfl (lv_at hl 1 rfl) ?_
  refine ro_V (rest := []) (As := [.int (zi (z))]) ⟨hx, hb, hml, hown, hts⟩ (c_X1_interval l g q a b n u lo hu hlo (k) (by omega) (z) (by omega)) (cwV 1 hts gX1_isDiscord_X1_interval rfl rfl rfl (by decide +kernel) ⟨Nat.le_of_ble_eq_true rfl, Nat.le_of_ble_eq_true rfl⟩) (z_recv hK hP.1 rfl) hP hK rfl hl.1 rfl (Nat.le_of_ble_eq_true rfl) dX1_isDiscord_2 ⟨Nat.zero_le _, Nat.zero_le _⟩ ?_
  have hri := iv_r u lo k
  rcases (show iv u lo k = 0 ∨ iv u lo k = 1 ∨ iv u lo k = 2 ∨ iv u lo k = 3 ∨ iv u lo k = 4 ∨ iv u lo k = 5 ∨ iv u lo k = 6 ∨ iv u lo k = 7 ∨ iv u lo k = 8 ∨ iv u lo k = 9 ∨ iv u lo k = 10 ∨ iv u lo k = 11 by omega) with h5 | h5 | h5 | h5 | h5 | h5 | h5 | h5 | h5 | h5 | h5 | h5
  · refine z_top (b := 0) h5 ?_
    refine lv_tableOut (tgt := 66) hx hb dX1_isDiscord_5 (by decide +kernel) (by decide) ?_
    refine z_iconst hx hb dX1_isDiscord_66 ?_
    exact z_zret hx hb hr hlk dX1_isDiscord_67 (by omega) ((pz_f (by simp only [D0]; omega)).symm)
  · refine z_top (b := 1) h5 ?_
    refine lv_tableIn (off := 59) (tgt := 64) hx hb dX1_isDiscord_5 (by decide +kernel) (by decide +kernel) (by decide +kernel) (by decide) ?_
    refine z_iconst hx hb dX1_isDiscord_64 ?_
    exact z_zret hx hb hr hlk dX1_isDiscord_65 (by omega) ((pz_t (by simp only [D0]; omega)).symm)
  · refine z_top (b := 2) h5 ?_
    refine lv_tableIn (off := 59) (tgt := 64) hx hb dX1_isDiscord_5 (by decide +kernel) (by decide +kernel) (by decide +kernel) (by decide) ?_
    refine z_iconst hx hb dX1_isDiscord_64 ?_
    exact z_zret hx hb hr hlk dX1_isDiscord_65 (by omega) ((pz_t (by simp only [D0]; omega)).symm)
  · refine z_top (b := 3) h5 ?_
    refine lv_tableIn (off := 61) (tgt := 66) hx hb dX1_isDiscord_5 (by decide +kernel) (by decide +kernel) (by decide +kernel) (by decide) ?_
    refine z_iconst hx hb dX1_isDiscord_66 ?_
    exact z_zret hx hb hr hlk dX1_isDiscord_67 (by omega) ((pz_f (by simp only [D0]; omega)).symm)
  · refine z_top (b := 4) h5 ?_
    refine lv_tableIn (off := 61) (tgt := 66) hx hb dX1_isDiscord_5 (by decide +kernel) (by decide +kernel) (by decide +kernel) (by decide) ?_
    refine z_iconst hx hb dX1_isDiscord_66 ?_
    exact z_zret hx hb hr hlk dX1_isDiscord_67 (by omega) ((pz_f (by simp only [D0]; omega)).symm)
  · refine z_top (b := 5) h5 ?_
    refine lv_tableIn (off := 59) (tgt := 64) hx hb dX1_isDiscord_5 (by decide +kernel) (by decide +kernel) (by decide +kernel) (by decide) ?_
    refine z_iconst hx hb dX1_isDiscord_64 ?_
    exact z_zret hx hb hr hlk dX1_isDiscord_65 (by omega) ((pz_t (by simp only [D0]; omega)).symm)
  · refine z_top (b := 6) h5 ?_
    refine lv_tableIn (off := 59) (tgt := 64) hx hb dX1_isDiscord_5 (by decide +kernel) (by decide +kernel) (by decide +kernel) (by decide) ?_
    refine z_iconst hx hb dX1_isDiscord_64 ?_
    exact z_zret hx hb hr hlk dX1_isDiscord_65 (by omega) ((pz_t (by simp only [D0]; omega)).symm)
  · refine z_top (b := 7) h5 ?_
    refine lv_tableIn (off := 61) (tgt := 66) hx hb dX1_isDiscord_5 (by decide +kernel) (by decide +kernel) (by decide +kernel) (by decide) ?_
    refine z_iconst hx hb dX1_isDiscord_66 ?_
    exact z_zret hx hb hr hlk dX1_isDiscord_67 (by omega) ((pz_f (by simp only [D0]; omega)).symm)
  · refine z_top (b := 8) h5 ?_
    refine lv_tableIn (off := 61) (tgt := 66) hx hb dX1_isDiscord_5 (by decide +kernel) (by decide +kernel) (by decide +kernel) (by decide) ?_
    refine z_iconst hx hb dX1_isDiscord_66 ?_
    exact z_zret hx hb hr hlk dX1_isDiscord_67 (by omega) ((pz_f (by simp only [D0]; omega)).symm)
  · refine z_top (b := 9) h5 ?_
    refine lv_tableIn (off := 61) (tgt := 66) hx hb dX1_isDiscord_5 (by decide +kernel) (by decide +kernel) (by decide +kernel) (by decide) ?_
    refine z_iconst hx hb dX1_isDiscord_66 ?_
    exact z_zret hx hb hr hlk dX1_isDiscord_67 (by omega) ((pz_f (by simp only [D0]; omega)).symm)
  · refine z_top (b := 10) h5 ?_
    refine lv_tableIn (off := 59) (tgt := 64) hx hb dX1_isDiscord_5 (by decide +kernel) (by decide +kernel) (by decide +kernel) (by decide) ?_
    refine z_iconst hx hb dX1_isDiscord_64 ?_
    exact z_zret hx hb hr hlk dX1_isDiscord_65 (by omega) ((pz_t (by simp only [D0]; omega)).symm)
  · refine z_top (b := 11) h5 ?_
    refine lv_tableIn (off := 59) (tgt := 64) hx hb dX1_isDiscord_5 (by decide +kernel) (by decide +kernel) (by decide +kernel) (by decide) ?_
    refine z_iconst hx hb dX1_isDiscord_64 ?_
    exact z_zret hx hb hr hlk dX1_isDiscord_65 (by omega) ((pz_t (by simp only [D0]; omega)).symm)

set_option maxHeartbeats 4000000 in
set_option maxRecDepth 100000 in
theorem c_X1_isParallel (l : Launch) (g : gG) (q a b : Nat) (n : Int) (u lo : Nat → Int) (hu : Nt u) (hlo : Nt lo) (k : Nat) (hk : k < 12) (z : Int) (hz : z = (k : Int)) : RO l yX1_isParallel wsX1_isParallel ({ frames := 2, cells := 0, slots := 0, locals := 45 }) g [.ref q, .int (zi (z))] (ScP g q a b n u lo) (pz (D1 u lo k)) := by
  refine RO.ofW (cc := cX1_isParallel) (maxL := 2) (ret := (some .boolean)) (by decide) rfl (Nat.le_of_ble_eq_true rfl) ?_
  intro p e s m below meth c ls hx hb hr hml hown hts hlk hP hK hl
  have hown : s.vm.findClass RX1 = some m.cls := hown
  have hl : lv_has ls 2 [(0, .ref q), (1, .int (zi (z)))] := hl
  have e1 := hu k
  have e2 := hu (k - 1)
  have e3 := hlo k
  have e4 := hlo (k - 1)
  have r1 := dz_r e1 e2
  have r2 := dz_r e3 e4
  have r3 := iv_r u lo k
  have r4 := iv_r u lo (k - 1)
  have z1 := @dz_0 (u k) (u (k - 1))
  have z2 := @dz_0 (lo k) (lo (k - 1))
  refine lv_iload_n hx hb dX1_isParallel_0 rfl (lv_at hl 1 rfl) ?_
  refine z_iconst hx hb dX1_isParallel_1 ?_
  refine z_icmp_lt (tgt := 53) hx hb dX1_isParallel_2 (by decide) (by omega) (by omega) (fun h2 => ?_) (fun h2 => ?_)
  ·
    refine z_iconst hx hb dX1_isParallel_53 ?_
    exact z_zret hx hb hr hlk dX1_isParallel_54 (by omega) ((pz_f (by simp only [D1, P7]; omega)).symm)
  ·
    refine lv_aload_n hx hb dX1_isParallel_5 rfl (lv_at hl 0 rfl) ?_
    refine z_iconst hx hb dX1_isParallel_6 ?_
    refine lv_iload_n hx hb dX1_isParallel_7 rfl (lv_at hl 1 rfl) ?_
    refine ro_V (rest := []) (As := [.int (zi (0)), .int (zi (z))]) ⟨hx, hb, hml, hown, hts⟩ (c_X1_stepTo l g q a b n u lo hu hlo (0) (by omega) u (fun _ => rfl) (fun h => absurd rfl h) (k) (by omega) (by omega) (z) (by omega)) (cwV 2 hts gX1_isParallel_X1_stepTo rfl rfl rfl (by decide +kernel) ⟨Nat.le_of_ble_eq_true rfl, Nat.le_of_ble_eq_true rfl⟩) (z_recv hK hP.1 rfl) hP hK rfl hl.1 rfl (Nat.le_of_ble_eq_true rfl) dX1_isParallel_8 ⟨Nat.zero_le _, Nat.zero_le _⟩ ?_
    refine z_if_eq (tgt := 53) hx hb dX1_isParallel_11 (by decide) (by omega) (fun h11 => ?_) (fun h11 => ?_)
    ·
      refine z_iconst hx hb dX1_isParallel_53 ?_
      exact z_zret hx hb hr hlk dX1_isParallel_54 (by omega) ((pz_f (by simp only [D1, P7]; omega)).symm)
    ·
      refine lv_aload_n hx hb dX1_isParallel_14 rfl (lv_at hl 0 rfl) ?_
      refine z_iconst hx hb dX1_isParallel_15 ?_
      refine lv_iload_n hx hb dX1_isParallel_16 rfl (lv_at hl 1 rfl) ?_
      refine ro_V (rest := []) (As := [.int (zi (1)), .int (zi (z))]) ⟨hx, hb, hml, hown, hts⟩ (c_X1_stepTo l g q a b n u lo hu hlo (1) (by omega) lo (fun h => absurd h (by decide)) (fun _ => rfl) (k) (by omega) (by omega) (z) (by omega)) (cwV 2 hts gX1_isParallel_X1_stepTo rfl rfl rfl (by decide +kernel) ⟨Nat.le_of_ble_eq_true rfl, Nat.le_of_ble_eq_true rfl⟩) (z_recv hK hP.1 rfl) hP hK rfl hl.1 rfl (Nat.le_of_ble_eq_true rfl) dX1_isParallel_17 ⟨Nat.zero_le _, Nat.zero_le _⟩ ?_
      refine z_if_eq (tgt := 53) hx hb dX1_isParallel_20 (by decide) (by omega) (fun h20 => ?_) (fun h20 => ?_)
      ·
        refine z_iconst hx hb dX1_isParallel_53 ?_
        exact z_zret hx hb hr hlk dX1_isParallel_54 (by omega) ((pz_f (by simp only [D1, P7]; omega)).symm)
      ·
        refine lv_aload_n hx hb dX1_isParallel_23 rfl (lv_at hl 0 rfl) ?_
        refine lv_iload_n hx hb dX1_isParallel_24 rfl (lv_at hl 1 rfl) ?_
        refine ro_V (rest := []) (As := [.int (zi (z))]) ⟨hx, hb, hml, hown, hts⟩ (c_X1_interval l g q a b n u lo hu hlo (k) (by omega) (z) (by omega)) (cwV 1 hts gX1_isParallel_X1_interval rfl rfl rfl (by decide +kernel) ⟨Nat.le_of_ble_eq_true rfl, Nat.le_of_ble_eq_true rfl⟩) (z_recv hK hP.1 rfl) hP hK rfl hl.1 rfl (Nat.le_of_ble_eq_true rfl) dX1_isParallel_25 ⟨Nat.zero_le _, Nat.zero_le _⟩ ?_
        refine lv_aload_n hx hb dX1_isParallel_28 rfl (lv_at hl 0 rfl) ?_
        refine lv_iload_n hx hb dX1_isParallel_29 rfl (lv_at hl 1 rfl) ?_
        refine z_iconst hx hb dX1_isParallel_30 ?_
        refine z_isub hx hb dX1_isParallel_31 ?_
        refine ro_V (rest := [.int (zi (iv u lo (k)))]) (As := [.int (zi ((z) - (1)))]) ⟨hx, hb, hml, hown, hts⟩ (c_X1_interval l g q a b n u lo hu hlo (k - 1) (by omega) ((z) - (1)) (by omega)) (cwV 1 hts gX1_isParallel_X1_interval rfl rfl rfl (by decide +kernel) ⟨Nat.le_of_ble_eq_true rfl, Nat.le_of_ble_eq_true rfl⟩) (z_recv hK hP.1 rfl) hP hK rfl hl.1 rfl (Nat.le_of_ble_eq_true rfl) dX1_isParallel_32 ⟨Nat.zero_le _, Nat.zero_le _⟩ ?_
        refine z_icmp_ne (tgt := 53) hx hb dX1_isParallel_35 (by decide) (by omega) (by omega) (fun h35 => ?_) (fun h35 => ?_)
        ·
          refine z_iconst hx hb dX1_isParallel_53 ?_
          exact z_zret hx hb hr hlk dX1_isParallel_54 (by omega) ((pz_f (by simp only [D1, P7]; omega)).symm)
        ·
          refine lv_aload_n hx hb dX1_isParallel_38 rfl (lv_at hl 0 rfl) ?_
          refine lv_iload_n hx hb dX1_isParallel_39 rfl (lv_at hl 1 rfl) ?_
          refine ro_V (rest := []) (As := [.int (zi (z))]) ⟨hx, hb, hml, hown, hts⟩ (c_X1_interval l g q a b n u lo hu hlo (k) (by omega) (z) (by omega)) (cwV 1 hts gX1_isParallel_X1_interval rfl rfl rfl (by decide +kernel) ⟨Nat.le_of_ble_eq_true rfl, Nat.le_of_ble_eq_true rfl⟩) (z_recv hK hP.1 rfl) hP hK rfl hl.1 rfl (Nat.le_of_ble_eq_true rfl) dX1_isParallel_40 ⟨Nat.zero_le _, Nat.zero_le _⟩ ?_
          refine ro_S (rest := []) (As := [.int (zi (iv u lo (k)))]) ⟨hx, hb, hml, hown, hts⟩ (c_X1_isPerfect l g (iv u lo (k)) (by have := iv_r u lo k; omega)) (cwS 1 hts gX1_isParallel_X1_isPerfect rfl rfl rfl (by decide +kernel) ⟨Nat.le_of_ble_eq_true rfl, Nat.le_of_ble_eq_true rfl⟩) trivial hK rfl hl.1 rfl (Nat.le_of_ble_eq_true rfl) dX1_isParallel_43 ⟨Nat.zero_le _, Nat.zero_le _⟩ ?_
          refine z_ifp_eq (P := P7 (iv u lo (k))) (tgt := 53) hx hb dX1_isParallel_46 (by decide)  (fun h46 => ?_) (fun h46 => ?_)
          ·
            refine z_iconst hx hb dX1_isParallel_53 ?_
            exact z_zret hx hb hr hlk dX1_isParallel_54 (by omega) ((pz_f (by simp only [D1, P7]; omega)).symm)
          ·
            refine z_iconst hx hb dX1_isParallel_49 ?_
            refine lv_goto (tgt := 54) hx hb dX1_isParallel_50 (by decide) ?_
            exact z_zret hx hb hr hlk dX1_isParallel_54 (by omega) ((pz_t (by simp only [D1, P7]; omega)).symm)

set_option maxHeartbeats 4000000 in
set_option maxRecDepth 100000 in
theorem c_X1_leapsTo (l : Launch) (g : gG) (q a b : Nat) (n : Int) (u lo : Nat → Int) (hu : Nt u) (hlo : Nt lo) (k : Nat) (hk : k < 12) (z : Int) (hz : z = (k : Int)) : RO l yX1_leapsTo wsX1_leapsTo ({ frames := 2, cells := 0, slots := 0, locals := 45 }) g [.ref q, .int (zi (z))] (ScP g q a b n u lo) (F2 u lo k) := by
  refine RO.ofW (cc := cX1_leapsTo) (maxL := 4) (ret := (some .int)) (by decide) rfl (Nat.le_of_ble_eq_true rfl) ?_
  intro p e s m below meth c ls hx hb hr hml hown hts hlk hP hK hl
  have hown : s.vm.findClass RX1 = some m.cls := hown
  have hl : lv_has ls 4 [(0, .ref q), (1, .int (zi (z)))] := hl
  have e1 := hu k
  have e2 := hu (k - 1)
  have e3 := hlo k
  have e4 := hlo (k - 1)
  have r1 := dz_r e1 e2
  have r2 := dz_r e3 e4
  refine lv_iload_n hx hb dX1_leapsTo_0 rfl (lv_at hl 1 rfl) ?_
  refine z_iconst hx hb dX1_leapsTo_1 ?_
  refine z_icmp_ge (tgt := 7) hx hb dX1_leapsTo_2 (by decide) (by omega) (by omega) (fun h2 => ?_) (fun h2 => ?_)
  ·
    refine lv_aload_n hx hb dX1_leapsTo_7 rfl (lv_at hl 0 rfl) ?_
    refine z_iconst hx hb dX1_leapsTo_8 ?_
    refine lv_iload_n hx hb dX1_leapsTo_9 rfl (lv_at hl 1 rfl) ?_
    refine ro_V (rest := []) (As := [.int (zi (0)), .int (zi (z))]) ⟨hx, hb, hml, hown, hts⟩ (c_X1_stepTo l g q a b n u lo hu hlo (0) (by omega) u (fun _ => rfl) (fun h => absurd rfl h) (k) (by omega) (by omega) (z) (by omega)) (cwV 2 hts gX1_leapsTo_X1_stepTo rfl rfl rfl (by decide +kernel) ⟨Nat.le_of_ble_eq_true rfl, Nat.le_of_ble_eq_true rfl⟩) (z_recv hK hP.1 rfl) hP hK rfl hl.1 rfl (Nat.le_of_ble_eq_true rfl) dX1_leapsTo_10 ⟨Nat.zero_le _, Nat.zero_le _⟩ ?_
    refine z_bipush hx hb dX1_leapsTo_13 (by decide) ?_
    refine z_icmp_le (tgt := 22) hx hb dX1_leapsTo_15 (by decide) (by omega) (by omega) (fun h15 => ?_) (fun h15 => ?_)
    ·
      refine z_iconst hx hb dX1_leapsTo_22 ?_
      refine lv_istore_n (lv' := [(2, .int (zi (0))), (0, .ref q), (1, .int (zi (z)))]) hx hb dX1_leapsTo_23 rfl hl (by decide) rfl (fun ls hl => ?_)
      refine lv_aload_n hx hb dX1_leapsTo_24 rfl (lv_at hl 1 rfl) ?_
      refine z_iconst hx hb dX1_leapsTo_25 ?_
      refine lv_iload_n hx hb dX1_leapsTo_26 rfl (lv_at hl 2 rfl) ?_
      refine ro_V (rest := []) (As := [.int (zi (1)), .int (zi (z))]) ⟨hx, hb, hml, hown, hts⟩ (c_X1_stepTo l g q a b n u lo hu hlo (1) (by omega) lo (fun h => absurd h (by decide)) (fun _ => rfl) (k) (by omega) (by omega) (z) (by omega)) (cwV 2 hts gX1_leapsTo_X1_stepTo rfl rfl rfl (by decide +kernel) ⟨Nat.le_of_ble_eq_true rfl, Nat.le_of_ble_eq_true rfl⟩) (z_recv hK hP.1 rfl) hP hK rfl hl.1 rfl (Nat.le_of_ble_eq_true rfl) dX1_leapsTo_27 ⟨Nat.zero_le _, Nat.zero_le _⟩ ?_
      refine z_bipush hx hb dX1_leapsTo_30 (by decide) ?_
      refine z_icmp_le (tgt := 39) hx hb dX1_leapsTo_32 (by decide) (by omega) (by omega) (fun h32 => ?_) (fun h32 => ?_)
      ·
        refine z_iconst hx hb dX1_leapsTo_39 ?_
        refine lv_istore_n (lv' := [(3, .int (zi (0))), (2, .int (zi (0))), (0, .ref q), (1, .int (zi (z)))]) hx hb dX1_leapsTo_40 rfl hl (by decide) rfl (fun ls hl => ?_)
        refine lv_iload_n hx hb dX1_leapsTo_41 rfl (lv_at hl 1 rfl) ?_
        refine lv_iload_n hx hb dX1_leapsTo_42 rfl (lv_at hl 0 rfl) ?_
        refine z_iadd hx hb dX1_leapsTo_43 ?_
        exact z_iret hx hb hr hlk dX1_leapsTo_44 ((by unfold F2; rw [if_pos (by omega), pz_f (by omega), pz_f (by omega)]))
      ·
        refine z_iconst hx hb dX1_leapsTo_35 ?_
        refine lv_goto (tgt := 40) hx hb dX1_leapsTo_36 (by decide) ?_
        refine lv_istore_n (lv' := [(3, .int (zi (1))), (2, .int (zi (0))), (0, .ref q), (1, .int (zi (z)))]) hx hb dX1_leapsTo_40 rfl hl (by decide) rfl (fun ls hl => ?_)
        refine lv_iload_n hx hb dX1_leapsTo_41 rfl (lv_at hl 1 rfl) ?_
        refine lv_iload_n hx hb dX1_leapsTo_42 rfl (lv_at hl 0 rfl) ?_
        refine z_iadd hx hb dX1_leapsTo_43 ?_
        exact z_iret hx hb hr hlk dX1_leapsTo_44 ((by unfold F2; rw [if_pos (by omega), pz_f (by omega), pz_t (by omega)]))
    ·
      refine z_iconst hx hb dX1_leapsTo_18 ?_
      refine lv_goto (tgt := 23) hx hb dX1_leapsTo_19 (by decide) ?_
      refine lv_istore_n (lv' := [(2, .int (zi (1))), (0, .ref q), (1, .int (zi (z)))]) hx hb dX1_leapsTo_23 rfl hl (by decide) rfl (fun ls hl => ?_)
      refine lv_aload_n hx hb dX1_leapsTo_24 rfl (lv_at hl 1 rfl) ?_
      refine z_iconst hx hb dX1_leapsTo_25 ?_
      refine lv_iload_n hx hb dX1_leapsTo_26 rfl (lv_at hl 2 rfl) ?_
      refine ro_V (rest := []) (As := [.int (zi (1)), .int (zi (z))]) ⟨hx, hb, hml, hown, hts⟩ (c_X1_stepTo l g q a b n u lo hu hlo (1) (by omega) lo (fun h => absurd h (by decide)) (fun _ => rfl) (k) (by omega) (by omega) (z) (by omega)) (cwV 2 hts gX1_leapsTo_X1_stepTo rfl rfl rfl (by decide +kernel) ⟨Nat.le_of_ble_eq_true rfl, Nat.le_of_ble_eq_true rfl⟩) (z_recv hK hP.1 rfl) hP hK rfl hl.1 rfl (Nat.le_of_ble_eq_true rfl) dX1_leapsTo_27 ⟨Nat.zero_le _, Nat.zero_le _⟩ ?_
      refine z_bipush hx hb dX1_leapsTo_30 (by decide) ?_
      refine z_icmp_le (tgt := 39) hx hb dX1_leapsTo_32 (by decide) (by omega) (by omega) (fun h32 => ?_) (fun h32 => ?_)
      ·
        refine z_iconst hx hb dX1_leapsTo_39 ?_
        refine lv_istore_n (lv' := [(3, .int (zi (0))), (2, .int (zi (1))), (0, .ref q), (1, .int (zi (z)))]) hx hb dX1_leapsTo_40 rfl hl (by decide) rfl (fun ls hl => ?_)
        refine lv_iload_n hx hb dX1_leapsTo_41 rfl (lv_at hl 1 rfl) ?_
        refine lv_iload_n hx hb dX1_leapsTo_42 rfl (lv_at hl 0 rfl) ?_
        refine z_iadd hx hb dX1_leapsTo_43 ?_
        exact z_iret hx hb hr hlk dX1_leapsTo_44 ((by unfold F2; rw [if_pos (by omega), pz_t (by omega), pz_f (by omega)]))
      ·
        refine z_iconst hx hb dX1_leapsTo_35 ?_
        refine lv_goto (tgt := 40) hx hb dX1_leapsTo_36 (by decide) ?_
        refine lv_istore_n (lv' := [(3, .int (zi (1))), (2, .int (zi (1))), (0, .ref q), (1, .int (zi (z)))]) hx hb dX1_leapsTo_40 rfl hl (by decide) rfl (fun ls hl => ?_)
        refine lv_iload_n hx hb dX1_leapsTo_41 rfl (lv_at hl 1 rfl) ?_
        refine lv_iload_n hx hb dX1_leapsTo_42 rfl (lv_at hl 0 rfl) ?_
        refine z_iadd hx hb dX1_leapsTo_43 ?_
        exact z_iret hx hb hr hlk dX1_leapsTo_44 ((by unfold F2; rw [if_pos (by omega), pz_t (by omega), pz_t (by omega)]))
  ·
    refine z_iconst hx hb dX1_leapsTo_5 ?_
    exact z_iret hx hb hr hlk dX1_leapsTo_6 ((show _ = F2 u lo k from by unfold F2; rw [if_neg (by omega)]))

set_option maxHeartbeats 4000000 in
set_option maxRecDepth 100000 in
theorem c_X1_badEndsAt (l : Launch) (g : gG) (q a b : Nat) (n : Int) (u lo : Nat → Int) (hu : Nt u) (hlo : Nt lo) (k : Nat) (hk : k < 12) (z : Int) (hz : z = (k : Int)) (nb : Nat) (hn : n = (nb : Int)) (hn1 : nb ≤ 12) : RO l yX1_badEndsAt wsX1_badEndsAt ({ frames := 2, cells := 0, slots := 0, locals := 44 }) g [.ref q, .int (zi (z))] (ScP g q a b n u lo) (F4 nb u lo k) := by
  refine RO.ofW (cc := cX1_badEndsAt) (maxL := 4) (ret := (some .int)) (by decide) rfl (Nat.le_of_ble_eq_true rfl) ?_
  intro p e s m below meth c ls hx hb hr hml hown hts hlk hP hK hl
  have hown : s.vm.findClass RX1 = some m.cls := hown
  have hl : lv_has ls 4 [(0, .ref q), (1, .int (zi (z)))] := hl
  have hiX1 : ∀ w ∈ u_ws RX1 TX1 3, w ∈ wsX1_badEndsAt := by decide +kernel
  refine lv_aload_n hx hb dX1_badEndsAt_0 rfl (lv_at hl 0 rfl) ?_
  refine lv_iload_n hx hb dX1_badEndsAt_1 rfl (lv_at hl 1 rfl) ?_
  refine ro_V (rest := []) (As := [.int (zi (z))]) ⟨hx, hb, hml, hown, hts⟩ (c_X1_interval l g q a b n u lo hu hlo (k) (by omega) (z) (by omega)) (cwV 1 hts gX1_badEndsAt_X1_interval rfl rfl rfl (by decide +kernel) ⟨Nat.le_of_ble_eq_true rfl, Nat.le_of_ble_eq_true rfl⟩) (z_recv hK hP.1 rfl) hP hK rfl hl.1 rfl (Nat.le_of_ble_eq_true rfl) dX1_badEndsAt_2 ⟨Nat.zero_le _, Nat.zero_le _⟩ ?_
  refine ro_S (rest := []) (As := [.int (zi (iv u lo (k)))]) ⟨hx, hb, hml, hown, hts⟩ (c_X1_isPerfect l g (iv u lo (k)) (by have := iv_r u lo k; omega)) (cwS 1 hts gX1_badEndsAt_X1_isPerfect rfl rfl rfl (by decide +kernel) ⟨Nat.le_of_ble_eq_true rfl, Nat.le_of_ble_eq_true rfl⟩) trivial hK rfl hl.1 rfl (Nat.le_of_ble_eq_true rfl) dX1_badEndsAt_5 ⟨Nat.zero_le _, Nat.zero_le _⟩ ?_
  refine z_ifp_eq (P := P7 (iv u lo (k))) (tgt := 13) hx hb dX1_badEndsAt_8 (by decide)  (fun h8 => ?_) (fun h8 => ?_)
  ·
    refine lv_iload_n hx hb dX1_badEndsAt_13 rfl (lv_at hl 1 rfl) ?_
    refine z_if_ne (tgt := 21) hx hb dX1_badEndsAt_14 (by decide) (by omega) (fun h14 => ?_) (fun h14 => ?_)
    ·
      refine z_iconst hx hb dX1_badEndsAt_21 ?_
      refine lv_istore_n (lv' := [(2, .int (zi (0))), (0, .ref q), (1, .int (zi (z)))]) hx hb dX1_badEndsAt_22 rfl hl (by decide) rfl (fun ls hl => ?_)
      refine lv_iload_n hx hb dX1_badEndsAt_23 rfl (lv_at hl 2 rfl) ?_
      refine lv_aload_n hx hb dX1_badEndsAt_24 rfl (lv_at hl 1 rfl) ?_
      refine z_get (C := RX1) (T := TX1) (N := 3) hx hb hts hiX1 hown hK hP.1 rfl 0 (by decide) (hts (.fieldLink RX1 9 "HarmoniumDesk$Score" "bars" "I") (by decide +kernel)) rfl rfl dX1_badEndsAt_25 ?_
      refine z_iconst hx hb dX1_badEndsAt_28 ?_
      refine z_isub hx hb dX1_badEndsAt_29 ?_
      refine z_icmp_ne (tgt := 37) hx hb dX1_badEndsAt_30 (by decide) (by omega) (by omega) (fun h30 => ?_) (fun h30 => ?_)
      ·
        refine z_iconst hx hb dX1_badEndsAt_37 ?_
        refine lv_istore_n (lv' := [(3, .int (zi (0))), (2, .int (zi (0))), (0, .ref q), (1, .int (zi (z)))]) hx hb dX1_badEndsAt_38 rfl hl (by decide) rfl (fun ls hl => ?_)
        refine lv_iload_n hx hb dX1_badEndsAt_39 rfl (lv_at hl 1 rfl) ?_
        refine lv_iload_n hx hb dX1_badEndsAt_40 rfl (lv_at hl 0 rfl) ?_
        refine z_iadd hx hb dX1_badEndsAt_41 ?_
        exact z_iret hx hb hr hlk dX1_badEndsAt_42 ((by unfold F4; rw [if_neg (by assumption), pz_f (by omega), pz_f (by omega)]))
      ·
        refine z_iconst hx hb dX1_badEndsAt_33 ?_
        refine lv_goto (tgt := 38) hx hb dX1_badEndsAt_34 (by decide) ?_
        refine lv_istore_n (lv' := [(3, .int (zi (1))), (2, .int (zi (0))), (0, .ref q), (1, .int (zi (z)))]) hx hb dX1_badEndsAt_38 rfl hl (by decide) rfl (fun ls hl => ?_)
        refine lv_iload_n hx hb dX1_badEndsAt_39 rfl (lv_at hl 1 rfl) ?_
        refine lv_iload_n hx hb dX1_badEndsAt_40 rfl (lv_at hl 0 rfl) ?_
        refine z_iadd hx hb dX1_badEndsAt_41 ?_
        exact z_iret hx hb hr hlk dX1_badEndsAt_42 ((by unfold F4; rw [if_neg (by assumption), pz_f (by omega), pz_t (by omega)]))
    ·
      refine z_iconst hx hb dX1_badEndsAt_17 ?_
      refine lv_goto (tgt := 22) hx hb dX1_badEndsAt_18 (by decide) ?_
      refine lv_istore_n (lv' := [(2, .int (zi (1))), (0, .ref q), (1, .int (zi (z)))]) hx hb dX1_badEndsAt_22 rfl hl (by decide) rfl (fun ls hl => ?_)
      refine lv_iload_n hx hb dX1_badEndsAt_23 rfl (lv_at hl 2 rfl) ?_
      refine lv_aload_n hx hb dX1_badEndsAt_24 rfl (lv_at hl 1 rfl) ?_
      refine z_get (C := RX1) (T := TX1) (N := 3) hx hb hts hiX1 hown hK hP.1 rfl 0 (by decide) (hts (.fieldLink RX1 9 "HarmoniumDesk$Score" "bars" "I") (by decide +kernel)) rfl rfl dX1_badEndsAt_25 ?_
      refine z_iconst hx hb dX1_badEndsAt_28 ?_
      refine z_isub hx hb dX1_badEndsAt_29 ?_
      refine z_icmp_ne (tgt := 37) hx hb dX1_badEndsAt_30 (by decide) (by omega) (by omega) (fun h30 => ?_) (fun h30 => ?_)
      ·
        refine z_iconst hx hb dX1_badEndsAt_37 ?_
        refine lv_istore_n (lv' := [(3, .int (zi (0))), (2, .int (zi (1))), (0, .ref q), (1, .int (zi (z)))]) hx hb dX1_badEndsAt_38 rfl hl (by decide) rfl (fun ls hl => ?_)
        refine lv_iload_n hx hb dX1_badEndsAt_39 rfl (lv_at hl 1 rfl) ?_
        refine lv_iload_n hx hb dX1_badEndsAt_40 rfl (lv_at hl 0 rfl) ?_
        refine z_iadd hx hb dX1_badEndsAt_41 ?_
        exact z_iret hx hb hr hlk dX1_badEndsAt_42 ((by unfold F4; rw [if_neg (by assumption), pz_t (by omega), pz_f (by omega)]))
      ·
        refine z_iconst hx hb dX1_badEndsAt_33 ?_
        refine lv_goto (tgt := 38) hx hb dX1_badEndsAt_34 (by decide) ?_
        refine lv_istore_n (lv' := [(3, .int (zi (1))), (2, .int (zi (1))), (0, .ref q), (1, .int (zi (z)))]) hx hb dX1_badEndsAt_38 rfl hl (by decide) rfl (fun ls hl => ?_)
        refine lv_iload_n hx hb dX1_badEndsAt_39 rfl (lv_at hl 1 rfl) ?_
        refine lv_iload_n hx hb dX1_badEndsAt_40 rfl (lv_at hl 0 rfl) ?_
        refine z_iadd hx hb dX1_badEndsAt_41 ?_
        exact z_iret hx hb hr hlk dX1_badEndsAt_42 ((by unfold F4; rw [if_neg (by assumption), pz_t (by omega), pz_t (by omega)]))
  ·
    refine z_iconst hx hb dX1_badEndsAt_11 ?_
    exact z_iret hx hb hr hlk dX1_badEndsAt_12 ((by unfold F4; rw [if_pos (by assumption)]))

set_option maxHeartbeats 4000000 in
set_option maxRecDepth 100000 in
theorem c_X1_isStanding (l : Launch) (g : gG) (q a b : Nat) (n : Int) (u lo : Nat → Int) (hu : Nt u) (hlo : Nt lo) (k : Nat) (hk : k < 12) (z : Int) (hz : z = (k : Int)) : RO l yX1_isStanding wsX1_isStanding ({ frames := 2, cells := 0, slots := 0, locals := 45 }) g [.ref q, .int (zi (z))] (ScP g q a b n u lo) (pz (D5 u k)) := by
  refine RO.ofW (cc := cX1_isStanding) (maxL := 2) (ret := (some .boolean)) (by decide) rfl (Nat.le_of_ble_eq_true rfl) ?_
  intro p e s m below meth c ls hx hb hr hml hown hts hlk hP hK hl
  have hown : s.vm.findClass RX1 = some m.cls := hown
  have hl : lv_has ls 2 [(0, .ref q), (1, .int (zi (z)))] := hl
  have e1 := hu k
  have e2 := hu (k - 1)
  have e3 := hu (k - 1 - 1)
  have r1 := dz_r e1 e2
  have r2 := dz_r e2 e3
  have z1 := @dz_0 (u k) (u (k - 1))
  have z2 := @dz_0 (u (k - 1)) (u (k - 1 - 1))
  have z3 : k - 1 - 1 = k - 2 := by omega
  rw [z3] at z2 r2 e3
  refine lv_iload_n hx hb dX1_isStanding_0 rfl (lv_at hl 1 rfl) ?_
  refine z_iconst hx hb dX1_isStanding_1 ?_
  refine z_icmp_lt (tgt := 29) hx hb dX1_isStanding_2 (by decide) (by omega) (by omega) (fun h2 => ?_) (fun h2 => ?_)
  ·
    refine z_iconst hx hb dX1_isStanding_29 ?_
    exact z_zret hx hb hr hlk dX1_isStanding_30 (by omega) ((pz_f (by simp only [D5]; omega)).symm)
  ·
    refine lv_aload_n hx hb dX1_isStanding_5 rfl (lv_at hl 0 rfl) ?_
    refine z_iconst hx hb dX1_isStanding_6 ?_
    refine lv_iload_n hx hb dX1_isStanding_7 rfl (lv_at hl 1 rfl) ?_
    refine ro_V (rest := []) (As := [.int (zi (0)), .int (zi (z))]) ⟨hx, hb, hml, hown, hts⟩ (c_X1_stepTo l g q a b n u lo hu hlo (0) (by omega) u (fun _ => rfl) (fun h => absurd rfl h) (k) (by omega) (by omega) (z) (by omega)) (cwV 2 hts gX1_isStanding_X1_stepTo rfl rfl rfl (by decide +kernel) ⟨Nat.le_of_ble_eq_true rfl, Nat.le_of_ble_eq_true rfl⟩) (z_recv hK hP.1 rfl) hP hK rfl hl.1 rfl (Nat.le_of_ble_eq_true rfl) dX1_isStanding_8 ⟨Nat.zero_le _, Nat.zero_le _⟩ ?_
    refine z_if_ne (tgt := 29) hx hb dX1_isStanding_11 (by decide) (by omega) (fun h11 => ?_) (fun h11 => ?_)
    ·
      refine z_iconst hx hb dX1_isStanding_29 ?_
      exact z_zret hx hb hr hlk dX1_isStanding_30 (by omega) ((pz_f (by simp only [D5]; omega)).symm)
    ·
      refine lv_aload_n hx hb dX1_isStanding_14 rfl (lv_at hl 0 rfl) ?_
      refine z_iconst hx hb dX1_isStanding_15 ?_
      refine lv_iload_n hx hb dX1_isStanding_16 rfl (lv_at hl 1 rfl) ?_
      refine z_iconst hx hb dX1_isStanding_17 ?_
      refine z_isub hx hb dX1_isStanding_18 ?_
      refine ro_V (rest := []) (As := [.int (zi (0)), .int (zi ((z) - (1)))]) ⟨hx, hb, hml, hown, hts⟩ (c_X1_stepTo l g q a b n u lo hu hlo (0) (by omega) u (fun _ => rfl) (fun h => absurd rfl h) (k - 1) (by omega) (by omega) ((z) - (1)) (by omega)) (cwV 2 hts gX1_isStanding_X1_stepTo rfl rfl rfl (by decide +kernel) ⟨Nat.le_of_ble_eq_true rfl, Nat.le_of_ble_eq_true rfl⟩) (z_recv hK hP.1 rfl) hP hK rfl hl.1 rfl (Nat.le_of_ble_eq_true rfl) dX1_isStanding_19 ⟨Nat.zero_le _, Nat.zero_le _⟩ ?_
      refine z_top (b := dz (u (k - 1)) (u (k - 2))) (by rw [z3]) ?_
      refine z_if_ne (tgt := 29) hx hb dX1_isStanding_22 (by decide) (by omega) (fun h22 => ?_) (fun h22 => ?_)
      ·
        refine z_iconst hx hb dX1_isStanding_29 ?_
        exact z_zret hx hb hr hlk dX1_isStanding_30 (by omega) ((pz_f (by simp only [D5]; omega)).symm)
      ·
        refine z_iconst hx hb dX1_isStanding_25 ?_
        refine lv_goto (tgt := 30) hx hb dX1_isStanding_26 (by decide) ?_
        exact z_zret hx hb hr hlk dX1_isStanding_30 (by omega) ((pz_t (by simp only [D5]; omega)).symm)

set_option maxHeartbeats 4000000 in
set_option maxRecDepth 100000 in
/-- what a rule finds at a bar -/
theorem c_X1_faultsOf (l : Launch) (g : gG) (q a b : Nat) (n : Int) (u lo : Nat → Int) (hu : Nt u) (hlo : Nt lo) (k : Nat) (hk : k < 12) (z : Int) (hz : z = (k : Int)) (nb : Nat) (hn : n = (nb : Int)) (hn1 : nb ≤ 12) (r : Nat) (hr6 : r < 6) (zr1 : Int) (hzr : zr1 = (r : Int)) : RO l yX1_faultsOf wsX1_faultsOf ({ frames := 3, cells := 0, slots := 0, locals := 68 }) g [.ref q, .int (zi (zr1)), .int (zi (z))] (ScP g q a b n u lo) (ft r nb u lo k) := by
  refine RO.ofW (cc := cX1_faultsOf) (maxL := 3) (ret := (some .int)) (by decide) rfl (Nat.le_of_ble_eq_true rfl) ?_
  intro p e s m below meth c ls hx hb hr hml hown hts hlk hP hK hl
  have hown : s.vm.findClass RX1 = some m.cls := hown
  have hl : lv_has ls 3 [(0, .ref q), (1, .int (zi (zr1))), (2, .int (zi (z)))] := hl
  have h1 := hu k
  have h2 := hlo k
  refine lv_iload_n hx hb dX1_faultsOf_0 rfl (lv_at hl 1 rfl) ?_
  by_cases e0 : r = 0
  · subst e0
    refine z_top (b := 0) hzr ?_
    refine lv_tableIn (off := 39) (tgt := 40) hx hb dX1_faultsOf_1 (by decide +kernel) (by decide +kernel) (by decide +kernel) (by decide) ?_
    refine lv_aload_n hx hb dX1_faultsOf_40 rfl (lv_at hl 0 rfl) ?_
    refine lv_iload_n hx hb dX1_faultsOf_41 rfl (lv_at hl 2 rfl) ?_
    refine ro_V (rest := []) (As := [.int (zi (z))]) ⟨hx, hb, hml, hown, hts⟩ (c_X1_isDiscord l g q a b n u lo hu hlo k hk (z) (by omega)) (cwV 1 hts gX1_faultsOf_X1_isDiscord rfl rfl rfl (by decide +kernel) ⟨Nat.le_of_ble_eq_true rfl, Nat.le_of_ble_eq_true rfl⟩) (z_recv hK hP.1 rfl) hP hK rfl hl.1 rfl (Nat.le_of_ble_eq_true rfl) dX1_faultsOf_42 ⟨Nat.zero_le _, Nat.zero_le _⟩ ?_
    refine z_ifp_eq (P := D0 u lo k) (tgt := 52) hx hb dX1_faultsOf_45 (by decide)  (fun h45 => ?_) (fun h45 => ?_)
    ·
      refine z_iconst hx hb dX1_faultsOf_52 ?_
      exact z_iret hx hb hr hlk dX1_faultsOf_53 (show _ = pz _ from (pz_f (by assumption)).symm)
    ·
      refine z_iconst hx hb dX1_faultsOf_48 ?_
      refine lv_goto (tgt := 53) hx hb dX1_faultsOf_49 (by decide) ?_
      exact z_iret hx hb hr hlk dX1_faultsOf_53 (show _ = pz _ from (pz_t (by assumption)).symm)
  by_cases e1 : r = 1
  · subst e1
    refine z_top (b := 1) hzr ?_
    refine lv_tableIn (off := 53) (tgt := 54) hx hb dX1_faultsOf_1 (by decide +kernel) (by decide +kernel) (by decide +kernel) (by decide) ?_
    refine lv_aload_n hx hb dX1_faultsOf_54 rfl (lv_at hl 0 rfl) ?_
    refine lv_iload_n hx hb dX1_faultsOf_55 rfl (lv_at hl 2 rfl) ?_
    refine ro_V (rest := []) (As := [.int (zi (z))]) ⟨hx, hb, hml, hown, hts⟩ (c_X1_isParallel l g q a b n u lo hu hlo k hk (z) (by omega)) (cwV 1 hts gX1_faultsOf_X1_isParallel rfl rfl rfl (by decide +kernel) ⟨Nat.le_of_ble_eq_true rfl, Nat.le_of_ble_eq_true rfl⟩) (z_recv hK hP.1 rfl) hP hK rfl hl.1 rfl (Nat.le_of_ble_eq_true rfl) dX1_faultsOf_56 ⟨Nat.zero_le _, Nat.zero_le _⟩ ?_
    refine z_ifp_eq (P := D1 u lo k) (tgt := 66) hx hb dX1_faultsOf_59 (by decide)  (fun h59 => ?_) (fun h59 => ?_)
    ·
      refine z_iconst hx hb dX1_faultsOf_66 ?_
      exact z_iret hx hb hr hlk dX1_faultsOf_67 (show _ = pz _ from (pz_f (by assumption)).symm)
    ·
      refine z_iconst hx hb dX1_faultsOf_62 ?_
      refine lv_goto (tgt := 67) hx hb dX1_faultsOf_63 (by decide) ?_
      exact z_iret hx hb hr hlk dX1_faultsOf_67 (show _ = pz _ from (pz_t (by assumption)).symm)
  by_cases e2 : r = 2
  · subst e2
    refine z_top (b := 2) hzr ?_
    refine lv_tableIn (off := 67) (tgt := 68) hx hb dX1_faultsOf_1 (by decide +kernel) (by decide +kernel) (by decide +kernel) (by decide) ?_
    refine lv_aload_n hx hb dX1_faultsOf_68 rfl (lv_at hl 0 rfl) ?_
    refine lv_iload_n hx hb dX1_faultsOf_69 rfl (lv_at hl 2 rfl) ?_
    refine ro_V (rest := []) (As := [.int (zi (z))]) ⟨hx, hb, hml, hown, hts⟩ (c_X1_leapsTo l g q a b n u lo hu hlo k hk (z) (by omega)) (cwV 1 hts gX1_faultsOf_X1_leapsTo rfl rfl rfl (by decide +kernel) ⟨Nat.le_of_ble_eq_true rfl, Nat.le_of_ble_eq_true rfl⟩) (z_recv hK hP.1 rfl) hP hK rfl hl.1 rfl (Nat.le_of_ble_eq_true rfl) dX1_faultsOf_70 ⟨Nat.zero_le _, Nat.zero_le _⟩ ?_
    exact z_iret hx hb hr hlk dX1_faultsOf_73 (rfl)
  by_cases e3 : r = 3
  · subst e3
    refine z_top (b := 3) hzr ?_
    refine lv_tableIn (off := 73) (tgt := 74) hx hb dX1_faultsOf_1 (by decide +kernel) (by decide +kernel) (by decide +kernel) (by decide) ?_
    refine lv_aload_n hx hb dX1_faultsOf_74 rfl (lv_at hl 0 rfl) ?_
    refine z_iconst hx hb dX1_faultsOf_75 ?_
    refine lv_iload_n hx hb dX1_faultsOf_76 rfl (lv_at hl 2 rfl) ?_
    refine ro_V (rest := []) (As := [.int (zi (0)), .int (zi (z))]) ⟨hx, hb, hml, hown, hts⟩ (c_X1_tone l g q a b n u lo hu hlo (0) (by omega) (k) (by omega) (z) (by omega) (u (k)) (fun _ => rfl) (fun h => absurd rfl h)) (cwV 2 hts gX1_faultsOf_X1_tone rfl rfl rfl (by decide +kernel) ⟨Nat.le_of_ble_eq_true rfl, Nat.le_of_ble_eq_true rfl⟩) (z_recv hK hP.1 rfl) hP hK rfl hl.1 rfl (Nat.le_of_ble_eq_true rfl) dX1_faultsOf_77 ⟨Nat.zero_le _, Nat.zero_le _⟩ ?_
    refine lv_aload_n hx hb dX1_faultsOf_80 rfl (lv_at hl 0 rfl) ?_
    refine z_iconst hx hb dX1_faultsOf_81 ?_
    refine lv_iload_n hx hb dX1_faultsOf_82 rfl (lv_at hl 2 rfl) ?_
    refine ro_V (rest := [.int (zi (u (k)))]) (As := [.int (zi (1)), .int (zi (z))]) ⟨hx, hb, hml, hown, hts⟩ (c_X1_tone l g q a b n u lo hu hlo (1) (by omega) (k) (by omega) (z) (by omega) (lo (k)) (fun h => absurd h (by decide)) (fun _ => rfl)) (cwV 2 hts gX1_faultsOf_X1_tone rfl rfl rfl (by decide +kernel) ⟨Nat.le_of_ble_eq_true rfl, Nat.le_of_ble_eq_true rfl⟩) (z_recv hK hP.1 rfl) hP hK rfl hl.1 rfl (Nat.le_of_ble_eq_true rfl) dX1_faultsOf_83 ⟨Nat.zero_le _, Nat.zero_le _⟩ ?_
    refine z_icmp_ge (tgt := 93) hx hb dX1_faultsOf_86 (by decide) (by omega) (by omega) (fun h86 => ?_) (fun h86 => ?_)
    ·
      refine z_iconst hx hb dX1_faultsOf_93 ?_
      exact z_iret hx hb hr hlk dX1_faultsOf_94 (show _ = pz (D3 u lo k) from (pz_f (by simp only [D3]; omega)).symm)
    ·
      refine z_iconst hx hb dX1_faultsOf_89 ?_
      refine lv_goto (tgt := 94) hx hb dX1_faultsOf_90 (by decide) ?_
      exact z_iret hx hb hr hlk dX1_faultsOf_94 (show _ = pz (D3 u lo k) from (pz_t (by simp only [D3]; omega)).symm)
  by_cases e4 : r = 4
  · subst e4
    refine z_top (b := 4) hzr ?_
    refine lv_tableIn (off := 94) (tgt := 95) hx hb dX1_faultsOf_1 (by decide +kernel) (by decide +kernel) (by decide +kernel) (by decide) ?_
    refine lv_aload_n hx hb dX1_faultsOf_95 rfl (lv_at hl 0 rfl) ?_
    refine lv_iload_n hx hb dX1_faultsOf_96 rfl (lv_at hl 2 rfl) ?_
    refine ro_V (rest := []) (As := [.int (zi (z))]) ⟨hx, hb, hml, hown, hts⟩ (c_X1_badEndsAt l g q a b n u lo hu hlo k hk (z) (by omega) nb hn hn1) (cwV 1 hts gX1_faultsOf_X1_badEndsAt rfl rfl rfl (by decide +kernel) ⟨Nat.le_of_ble_eq_true rfl, Nat.le_of_ble_eq_true rfl⟩) (z_recv hK hP.1 rfl) hP hK rfl hl.1 rfl (Nat.le_of_ble_eq_true rfl) dX1_faultsOf_97 ⟨Nat.zero_le _, Nat.zero_le _⟩ ?_
    exact z_iret hx hb hr hlk dX1_faultsOf_100 (rfl)
  by_cases e5 : r = 5
  · subst e5
    refine z_top (b := 5) hzr ?_
    refine lv_tableIn (off := 100) (tgt := 101) hx hb dX1_faultsOf_1 (by decide +kernel) (by decide +kernel) (by decide +kernel) (by decide) ?_
    refine lv_aload_n hx hb dX1_faultsOf_101 rfl (lv_at hl 0 rfl) ?_
    refine lv_iload_n hx hb dX1_faultsOf_102 rfl (lv_at hl 2 rfl) ?_
    refine ro_V (rest := []) (As := [.int (zi (z))]) ⟨hx, hb, hml, hown, hts⟩ (c_X1_isStanding l g q a b n u lo hu hlo k hk (z) (by omega)) (cwV 1 hts gX1_faultsOf_X1_isStanding rfl rfl rfl (by decide +kernel) ⟨Nat.le_of_ble_eq_true rfl, Nat.le_of_ble_eq_true rfl⟩) (z_recv hK hP.1 rfl) hP hK rfl hl.1 rfl (Nat.le_of_ble_eq_true rfl) dX1_faultsOf_103 ⟨Nat.zero_le _, Nat.zero_le _⟩ ?_
    refine z_ifp_eq (P := D5 u k) (tgt := 113) hx hb dX1_faultsOf_106 (by decide)  (fun h106 => ?_) (fun h106 => ?_)
    ·
      refine z_iconst hx hb dX1_faultsOf_113 ?_
      exact z_iret hx hb hr hlk dX1_faultsOf_114 (show _ = pz _ from (pz_f (by assumption)).symm)
    ·
      refine z_iconst hx hb dX1_faultsOf_109 ?_
      refine lv_goto (tgt := 114) hx hb dX1_faultsOf_110 (by decide) ?_
      exact z_iret hx hb hr hlk dX1_faultsOf_114 (show _ = pz _ from (pz_t (by assumption)).symm)
  exact absurd hr6 (by omega)

abbrev Sb (u lo u2 lo2 : Nat → Int) (k : Nat) : Prop := u k = u2 k ∧ lo k = lo2 k

set_option maxHeartbeats 4000000 in
set_option maxRecDepth 100000 in
theorem c_X1_sameBar (l : Launch) (g : gG) (q a b : Nat) (n : Int) (u lo : Nat → Int) (hu : Nt u) (hlo : Nt lo) (q2 a2 b2 : Nat) (n2 : Int) (u2 lo2 : Nat → Int) (hu2 : Nt u2) (hlo2 : Nt lo2) (k : Nat) (hk : k < 12) (z : Int) (hz : z = (k : Int)) : RO l yX1_sameBar wsX1_sameBar ({ frames := 1, cells := 0, slots := 0, locals := 23 }) g [.ref q, .ref q2, .int (zi (z))] (fun H => ScP g q a b n u lo H ∧ ScP g q2 a2 b2 n2 u2 lo2 H) (pz (Sb u lo u2 lo2 k)) := by
  refine RO.ofW (cc := cX1_sameBar) (maxL := 3) (ret := (some .boolean)) (by decide) rfl (Nat.le_of_ble_eq_true rfl) ?_
  intro p e s m below meth c ls hx hb hr hml hown hts hlk hP hK hl
  have hown : s.vm.findClass RX1 = some m.cls := hown
  have hl : lv_has ls 3 [(0, .ref q), (1, .ref q2), (2, .int (zi (z)))] := hl
  have h1 := hu k
  have h2 := hlo k
  have h3 := hu2 k
  have h4 := hlo2 k
  refine lv_aload_n hx hb dX1_sameBar_0 rfl (lv_at hl 0 rfl) ?_
  refine z_iconst hx hb dX1_sameBar_1 ?_
  refine lv_iload_n hx hb dX1_sameBar_2 rfl (lv_at hl 2 rfl) ?_
  refine ro_V (rest := []) (As := [.int (zi (0)), .int (zi (z))]) ⟨hx, hb, hml, hown, hts⟩ (c_X1_tone l g q a b n u lo hu hlo (0) (by omega) k hk (z) (by omega) (u (k)) (fun _ => rfl) (fun h => absurd rfl h)) (cwV 2 hts gX1_sameBar_X1_tone rfl rfl rfl (by decide +kernel) ⟨Nat.le_of_ble_eq_true rfl, Nat.le_of_ble_eq_true rfl⟩) (z_recv hK hP.1.1 rfl) hP.1 hK rfl hl.1 rfl (Nat.le_of_ble_eq_true rfl) dX1_sameBar_3 ⟨Nat.zero_le _, Nat.zero_le _⟩ ?_
  refine lv_aload_n hx hb dX1_sameBar_6 rfl (lv_at hl 1 rfl) ?_
  refine z_iconst hx hb dX1_sameBar_7 ?_
  refine lv_iload_n hx hb dX1_sameBar_8 rfl (lv_at hl 2 rfl) ?_
  refine ro_V (rest := [.int (zi (u (k)))]) (As := [.int (zi (0)), .int (zi (z))]) ⟨hx, hb, hml, hown, hts⟩ (c_X1_tone l g q2 a2 b2 n2 u2 lo2 hu2 hlo2 (0) (by omega) k hk (z) (by omega) (u2 (k)) (fun _ => rfl) (fun h => absurd rfl h)) (cwV 2 hts gX1_sameBar_X1_tone rfl rfl rfl (by decide +kernel) ⟨Nat.le_of_ble_eq_true rfl, Nat.le_of_ble_eq_true rfl⟩) (z_recv hK hP.2.1 rfl) hP.2 hK rfl hl.1 rfl (Nat.le_of_ble_eq_true rfl) dX1_sameBar_9 ⟨Nat.zero_le _, Nat.zero_le _⟩ ?_
  refine z_icmp_ne (tgt := 34) hx hb dX1_sameBar_12 (by decide) (by omega) (by omega) (fun h12 => ?_) (fun h12 => ?_)
  ·
    refine z_iconst hx hb dX1_sameBar_34 ?_
    exact z_zret hx hb hr hlk dX1_sameBar_35 (by omega) ((pz_f (by simp only [Sb]; omega)).symm)
  ·
    refine lv_aload_n hx hb dX1_sameBar_15 rfl (lv_at hl 0 rfl) ?_
    refine z_iconst hx hb dX1_sameBar_16 ?_
    refine lv_iload_n hx hb dX1_sameBar_17 rfl (lv_at hl 2 rfl) ?_
    refine ro_V (rest := []) (As := [.int (zi (1)), .int (zi (z))]) ⟨hx, hb, hml, hown, hts⟩ (c_X1_tone l g q a b n u lo hu hlo (1) (by omega) k hk (z) (by omega) (lo (k)) (fun h => absurd h (by decide)) (fun _ => rfl)) (cwV 2 hts gX1_sameBar_X1_tone rfl rfl rfl (by decide +kernel) ⟨Nat.le_of_ble_eq_true rfl, Nat.le_of_ble_eq_true rfl⟩) (z_recv hK hP.1.1 rfl) hP.1 hK rfl hl.1 rfl (Nat.le_of_ble_eq_true rfl) dX1_sameBar_18 ⟨Nat.zero_le _, Nat.zero_le _⟩ ?_
    refine lv_aload_n hx hb dX1_sameBar_21 rfl (lv_at hl 1 rfl) ?_
    refine z_iconst hx hb dX1_sameBar_22 ?_
    refine lv_iload_n hx hb dX1_sameBar_23 rfl (lv_at hl 2 rfl) ?_
    refine ro_V (rest := [.int (zi (lo (k)))]) (As := [.int (zi (1)), .int (zi (z))]) ⟨hx, hb, hml, hown, hts⟩ (c_X1_tone l g q2 a2 b2 n2 u2 lo2 hu2 hlo2 (1) (by omega) k hk (z) (by omega) (lo2 (k)) (fun h => absurd h (by decide)) (fun _ => rfl)) (cwV 2 hts gX1_sameBar_X1_tone rfl rfl rfl (by decide +kernel) ⟨Nat.le_of_ble_eq_true rfl, Nat.le_of_ble_eq_true rfl⟩) (z_recv hK hP.2.1 rfl) hP.2 hK rfl hl.1 rfl (Nat.le_of_ble_eq_true rfl) dX1_sameBar_24 ⟨Nat.zero_le _, Nat.zero_le _⟩ ?_
    refine z_icmp_ne (tgt := 34) hx hb dX1_sameBar_27 (by decide) (by omega) (by omega) (fun h27 => ?_) (fun h27 => ?_)
    ·
      refine z_iconst hx hb dX1_sameBar_34 ?_
      exact z_zret hx hb hr hlk dX1_sameBar_35 (by omega) ((pz_f (by simp only [Sb]; omega)).symm)
    ·
      refine z_iconst hx hb dX1_sameBar_30 ?_
      refine lv_goto (tgt := 35) hx hb dX1_sameBar_31 (by decide) ?_
      exact z_zret hx hb hr hlk dX1_sameBar_35 (by omega) ((pz_t (by simp only [Sb]; omega)).symm)

set_option maxHeartbeats 4000000 in
set_option maxRecDepth 100000 in
/-- how far a voice goes -/
theorem c_X1_wayOf (l : Launch) (g : gG) (q a b : Nat) (n : Int) (u lo : Nat → Int) (hu : Nt u) (hlo : Nt lo) (v : Int) (hv : zr v) (w : Nat → Int) (hw0 : v = 0 → w = u) (hw1 : ¬ v = 0 → w = lo) (nb : Nat) (hn : n = (nb : Int)) (hn1 : 1 ≤ nb ∧ nb ≤ 12) : RO l yX1_wayOf wsX1_wayOf ({ frames := 2, cells := 0, slots := 0, locals := 45 }) g [.ref q, .int (zi (v))] (ScP g q a b n u lo) (wy w nb) := by
  refine RO.ofW (cc := cX1_wayOf) (maxL := 4) (ret := (some .int)) (by decide) rfl (Nat.le_of_ble_eq_true rfl) ?_
  intro p e s m below meth c ls hx hb hr hml hown hts hlk hP hK hl
  have hown : s.vm.findClass RX1 = some m.cls := hown
  have hl : lv_has ls 4 [(0, .ref q), (1, .int (zi (v)))] := hl
  have hiX1 : ∀ w ∈ u_ws RX1 TX1 3, w ∈ wsX1_wayOf := by decide +kernel
  have hw : Nt w := if h : v = 0 then by rw [hw0 h]; exact hu else by rw [hw1 h]; exact hlo
  refine z_iconst hx hb dX1_wayOf_0 ?_
  refine lv_istore_n (lv' := [(2, .int (zi (0))), (0, .ref q), (1, .int (zi (v)))]) hx hb dX1_wayOf_1 rfl hl (by decide) rfl (fun ls hl => ?_)
  refine z_iconst hx hb dX1_wayOf_2 ?_
  refine lv_istore_n (lv' := [(3, .int (zi (1))), (2, .int (zi (0))), (0, .ref q), (1, .int (zi (v)))]) hx hb dX1_wayOf_3 rfl hl (by decide) rfl (fun ls hl => ?_)
  have wb := wy_r hw
  have loop : ∀ (d k : Nat), k ≤ nb → nb - k = d → 1 ≤ k → ∀ ls : Array Slot, lv_has ls 4 [(3, .int (zi ((k : Int)))), (2, .int (zi (wy w k))), (0, .ref q), (1, .int (zi (v)))] → W p l e ({ frames := 2, cells := 0, slots := 0, locals := 45 }) s m ([.ref q, .int (zi (v))] : List Value).toArray below meth c s.heap [] 0 0 (MQ below (vp_Si (fun r => r = zi (wy w nb))) ([.ref q, .int (zi (v))] : List Value).toArray s 0 0 (fun _ => False)) (F0 m 4 ls []) := by
    intro d
    induction d with
    | zero =>
      intro k hkn hd h1k ls hl
      refine lv_iload_n hx hb dX1_wayOf_4 rfl (lv_at hl 0 rfl) ?_
      refine lv_aload_n hx hb dX1_wayOf_5 rfl (lv_at hl 2 rfl) ?_
      refine z_get (C := RX1) (T := TX1) (N := 3) hx hb hts hiX1 hown hK hP.1 rfl 0 (by decide) (hts (.fieldLink RX1 9 "HarmoniumDesk$Score" "bars" "I") (by decide +kernel)) rfl rfl dX1_wayOf_6 ?_
      refine z_icmp_ge (tgt := 27) hx hb dX1_wayOf_9 (by decide) (by omega) (by omega) (fun h9 => ?_) (fun h9 => ?_)
      ·
        refine lv_iload_n hx hb dX1_wayOf_27 rfl (lv_at hl 1 rfl) ?_
        exact z_iret hx hb hr hlk dX1_wayOf_28 (by rw [show k = nb by omega])
      · exfalso; omega
    | succ d ih =>
      intro k hkn hd h1k ls hl
      refine lv_iload_n hx hb dX1_wayOf_4 rfl (lv_at hl 0 rfl) ?_
      refine lv_aload_n hx hb dX1_wayOf_5 rfl (lv_at hl 2 rfl) ?_
      refine z_get (C := RX1) (T := TX1) (N := 3) hx hb hts hiX1 hown hK hP.1 rfl 0 (by decide) (hts (.fieldLink RX1 9 "HarmoniumDesk$Score" "bars" "I") (by decide +kernel)) rfl rfl dX1_wayOf_6 ?_
      refine z_icmp_ge (tgt := 27) hx hb dX1_wayOf_9 (by decide) (by omega) (by omega) (fun h9 => ?_) (fun h9 => ?_)
      · exfalso; omega
      ·
        refine lv_iload_n hx hb dX1_wayOf_12 rfl (lv_at hl 1 rfl) ?_
        refine lv_aload_n hx hb dX1_wayOf_13 rfl (lv_at hl 2 rfl) ?_
        refine lv_iload_n hx hb dX1_wayOf_14 rfl (lv_at hl 3 rfl) ?_
        refine lv_iload_n hx hb dX1_wayOf_15 rfl (lv_at hl 0 rfl) ?_
        refine ro_V (rest := [.int (zi (wy w k))]) (As := [.int (zi (v)), .int (zi ((k : Int)))]) ⟨hx, hb, hml, hown, hts⟩ (c_X1_stepTo l g q a b n u lo hu hlo v hv w hw0 hw1 k (by omega) (by omega) ((k : Int)) (by omega)) (cwV 2 hts gX1_wayOf_X1_stepTo rfl rfl rfl (by decide +kernel) ⟨Nat.le_of_ble_eq_true rfl, Nat.le_of_ble_eq_true rfl⟩) (z_recv hK hP.1 rfl) hP hK rfl hl.1 rfl (Nat.le_of_ble_eq_true rfl) dX1_wayOf_16 ⟨Nat.zero_le _, Nat.zero_le _⟩ ?_
        refine z_iadd hx hb dX1_wayOf_19 ?_
        refine z_top (b := wy w (k + 1)) ((wy_s w h1k).symm) ?_
        refine lv_istore_n (lv' := [(2, .int (zi (wy w (k + 1)))), (3, .int (zi ((k : Int)))), (0, .ref q), (1, .int (zi (v)))]) hx hb dX1_wayOf_20 rfl hl (by decide) rfl (fun ls hl => ?_)
        refine z_iinc (b := ((k + 1 : Nat) : Int)) (lv' := [(3, .int (zi (((k + 1 : Nat) : Int)))), (2, .int (zi (wy w (k + 1)))), (0, .ref q), (1, .int (zi (v)))]) hx hb dX1_wayOf_21 hl (k := 1) rfl (by omega) (by decide) rfl (fun ls hl => ?_)
        refine lv_goto (tgt := 4) hx hb dX1_wayOf_24 (by decide) ?_
        exact ih (k + 1) (by omega) (by omega) (by omega) ls (lv_sub hl [0, 1, 2, 3] rfl)
  exact loop (nb - 1) 1 (by omega) (by omega) (by omega) ls (lv_sub hl [0, 1, 2, 3] rfl)
end
section
/-! ===== the state of both sides, by fields: 0 versions, 1 bars, 2 parent, 3 isFixed, 4 hasPassed, 5 notes, 6 weight, 7 pass, 8 copies, 9 longs, 10 voiceOf, 11 printed, 12 slips ===== -/
abbrev SG : Type := Nat → Nat → Int
def sup (σ : SG) (f i : Nat) (x : Int) : SG := fun f' => if f' = f then va_up (σ f) i x else σ f'
theorem sup_eq (σ : SG) (f i : Nat) (x : Int) : sup σ f i x f = va_up (σ f) i x := if_pos rfl
theorem sup_ne (σ : SG) {f f' : Nat} (i : Nat) (x : Int) (h : f' ≠ f) : sup σ f i x f' = σ f' := if_neg h
def NU (σ : SG) (k : Nat) : Nat → Int := fun b => σ 5 (24 * k + b)
def NL (σ : SG) (k : Nat) : Nat → Int := fun b => σ 5 (24 * k + 12 + b)
def NV (σ : SG) (k v : Nat) : Nat → Int := fun b => σ 5 (24 * k + 12 * v + b)
theorem NV_0 (σ : SG) (k : Nat) : NV σ k 0 = NU σ k := by funext b; simp [NV, NU]
theorem NV_1 (σ : SG) (k : Nat) : NV σ k 1 = NL σ k := by funext b; simp [NV, NL]
/-- what holds of the state at all times -/
def WF (σ : SG) : Prop := (0 ≤ σ 0 0 ∧ σ 0 0 ≤ 30) ∧ (∀ k : Nat, (k : Int) < σ 0 0 → 1 ≤ σ 1 k ∧ σ 1 k ≤ 12) ∧ (∀ k : Nat, (k : Int) < σ 0 0 → σ 2 k = -1 ∨ (0 ≤ σ 2 k ∧ σ 2 k < k ∧ σ 1 (σ 2 k).toNat = σ 1 k)) ∧ (∀ k : Nat, (σ 3 k = 0 ∨ σ 3 k = 1) ∧ (σ 4 k = 0 ∨ σ 4 k = 1) ∧ (σ 0 0 ≤ k → σ 3 k = 0 ∧ σ 4 k = 0)) ∧ (∀ j : Nat, 0 ≤ σ 5 j ∧ σ 5 j ≤ 40) ∧ (∀ r : Nat, 0 ≤ σ 6 r ∧ σ 6 r ≤ 50) ∧ (0 ≤ σ 7 0 ∧ σ 7 0 ≤ 100) ∧ (0 ≤ σ 8 0 ∧ σ 8 0 ≤ 20) ∧ (∀ c : Nat, (c : Int) < σ 8 0 → (1 ≤ σ 9 c ∧ σ 9 c ≤ 12) ∧ (σ 10 c = 0 ∨ σ 10 c = 1))
theorem WF.n {σ : SG} (h : WF σ) : 0 ≤ σ 0 0 ∧ σ 0 0 ≤ 30 := h.1
theorem WF.bars {σ : SG} (h : WF σ) {k : Nat} (hk : (k : Int) < σ 0 0) : 1 ≤ σ 1 k ∧ σ 1 k ≤ 12 := h.2.1 k hk
theorem WF.par {σ : SG} (h : WF σ) {k : Nat} (hk : (k : Int) < σ 0 0) : σ 2 k = -1 ∨ (0 ≤ σ 2 k ∧ σ 2 k < k ∧ σ 1 (σ 2 k).toNat = σ 1 k) := h.2.2.1 k hk
theorem WF.flag {σ : SG} (h : WF σ) (k : Nat) : (σ 3 k = 0 ∨ σ 3 k = 1) ∧ (σ 4 k = 0 ∨ σ 4 k = 1) ∧ (σ 0 0 ≤ k → σ 3 k = 0 ∧ σ 4 k = 0) := h.2.2.2.1 k
theorem WF.note {σ : SG} (h : WF σ) (j : Nat) : 0 ≤ σ 5 j ∧ σ 5 j ≤ 40 := h.2.2.2.2.1 j
theorem WF.wt {σ : SG} (h : WF σ) (r : Nat) : 0 ≤ σ 6 r ∧ σ 6 r ≤ 50 := h.2.2.2.2.2.1 r
theorem WF.pass {σ : SG} (h : WF σ) : 0 ≤ σ 7 0 ∧ σ 7 0 ≤ 100 := h.2.2.2.2.2.2.1
theorem WF.cn {σ : SG} (h : WF σ) : 0 ≤ σ 8 0 ∧ σ 8 0 ≤ 20 := h.2.2.2.2.2.2.2.1
theorem WF.cp {σ : SG} (h : WF σ) {c : Nat} (hc : (c : Int) < σ 8 0) : (1 ≤ σ 9 c ∧ σ 9 c ≤ 12) ∧ (σ 10 c = 0 ∨ σ 10 c = 1) := h.2.2.2.2.2.2.2.2 c hc
theorem WF.u {σ : SG} (h : WF σ) (k : Nat) : Nt (NU σ k) := fun j => h.note _
theorem WF.lo {σ : SG} (h : WF σ) (k : Nat) : Nt (NL σ k) := fun j => h.note _
theorem WF.v {σ : SG} (h : WF σ) (k v : Nat) : Nt (NV σ k v) := fun j => h.note _
abbrev IsV (σ : SG) (z : Int) : Prop := 0 ≤ z ∧ z < σ 0 0
abbrev IsN (σ : SG) (z v b : Int) : Prop := (0 ≤ z ∧ z < σ 0 0) ∧ (0 ≤ v ∧ v ≤ 1) ∧ 0 ≤ b ∧ b < σ 1 z.toNat
abbrev IsC (σ : SG) (z : Int) : Prop := 0 ≤ z ∧ z < σ 8 0
/-! ancestors -/
def anc (p : Nat → Int) (x : Int) : Nat → Int → Bool
  | 0, _ => false
  | d + 1, k => if k < 0 then false else (decide (k = x) || anc p x d (p k.toNat))
def An (p : Nat → Int) (x k : Int) : Bool := anc p x (k.toNat + 1) k
theorem anc_fuel (p : Nat → Int) (x : Int) (n : Int) (hp : ∀ j : Nat, (j : Int) < n → p j < j) : ∀ (d e : Nat) (k : Int), k < d → k < e → k < n → anc p x d k = anc p x e k := by
  intro d
  induction d with
  | zero =>
    intro e k hd he hn
    cases e with
    | zero => rfl
    | succ e => simp only [anc]; rw [if_pos (by omega)]
  | succ d ih =>
    intro e k hd he hn
    cases e with
    | zero => simp only [anc]; rw [if_pos (by omega)]
    | succ e =>
      simp only [anc]
      by_cases h : k < 0
      · rw [if_pos h, if_pos h]
      · rw [if_neg h, if_neg h]
        have h1 := hp k.toNat (by omega)
        rw [ih e (p k.toNat) (by omega) (by omega) (by omega)]
theorem An_neg (p : Nat → Int) (x : Int) {k : Int} (h : k < 0) : An p x k = false := by
  unfold An; simp only [anc]; rw [if_pos h]
theorem An_s (p : Nat → Int) (x : Int) {n : Int} (hp : ∀ j : Nat, (j : Int) < n → p j < j) {k : Nat} (h : (k : Int) < n) : An p x k = (decide ((k : Int) = x) || An p x (p k)) := by
  have h1 := hp k h
  unfold An
  rw [Int.toNat_natCast]
  conv => lhs; unfold anc
  rw [if_neg (by omega), Int.toNat_natCast]
  by_cases h0 : p k < 0
  · have e1 : anc p x k (p k) = false := by
      cases k with
      | zero => rfl
      | succ k => simp only [anc]; rw [if_pos h0]
    have e2 : anc p x ((p k).toNat + 1) (p k) = false := by simp only [anc]; rw [if_pos h0]
    rw [e1, e2]
  · rw [anc_fuel p x n hp k ((p k).toNat + 1) (p k) h1 (by omega) (by omega)]
def bs (p : Nat → Int) (one other : Int) : Nat → Int
  | 0 => -1
  | k + 1 => if An p k one = true ∧ An p k other = true then (k : Int) else bs p one other k
theorem bs_s (p : Nat → Int) (one other : Int) (k : Nat) : bs p one other (k + 1) = if An p k one = true ∧ An p k other = true then (k : Int) else bs p one other k := rfl
theorem bs_r (p : Nat → Int) (one other : Int) : ∀ k : Nat, -1 ≤ bs p one other k ∧ bs p one other k < k := by
  intro k
  induction k with
  | zero => simp [bs]
  | succ k ih =>
    unfold bs
    split
    · omega
    · omega
/-! sets of bars and versions -/
def bt1 (k : Nat) : Int32 := zi 1 <<< (zi (k : Int) &&& 31)
def sset (f : Nat → Bool) : Nat → Int32
  | 0 => zi 0
  | k + 1 => if f k = true then sset f k ||| bt1 k else sset f k
theorem or_0 (x : Int32) : x ||| zi 0 = x := by
  apply Int32.toBitVec_inj.mp
  simp [zi]
abbrev Al (σ : SG) (i j b : Nat) : Prop := NU σ i b = NU σ j b ∧ NL σ i b = NL σ j b
/-! costs, as the reference adds them -/
def cs (w : Nat → Int) (n : Nat) (u lo : Nat → Int) : Nat → Int
  | 0 => 0
  | k + 1 => cs w n u lo k + w (k % 6) * ft (k % 6) n u lo (k / 6)
theorem cs_r {w : Nat → Int} (hw : ∀ r, 0 ≤ w r ∧ w r ≤ 50) (n : Nat) (u lo : Nat → Int) : ∀ k : Nat, 0 ≤ cs w n u lo k ∧ cs w n u lo k ≤ 100 * (k : Int) := by
  intro k
  induction k with
  | zero => simp [cs]
  | succ k ih =>
    unfold cs
    have h1 := hw (k % 6)
    have h2 := ft_r (k % 6) n u lo (k / 6)
    have h3 : 0 ≤ w (k % 6) * ft (k % 6) n u lo (k / 6) := Int.mul_nonneg h1.1 h2.1
    have h4 : w (k % 6) * ft (k % 6) n u lo (k / 6) ≤ 50 * 2 := Int.mul_le_mul h1.2 h2.2 h2.1 (by decide)
    omega
def CS (σ : SG) (k : Nat) : Int := cs (σ 6) (σ 1 k).toNat (NU σ k) (NL σ k) (6 * (σ 1 k).toNat)
theorem CS_r {σ : SG} (h : WF σ) {k : Nat} (hk : (k : Int) < σ 0 0) : 0 ≤ CS σ k ∧ CS σ k ≤ 7200 := by
  have h1 := cs_r h.wt (σ 1 k).toNat (NU σ k) (NL σ k) (6 * (σ 1 k).toNat)
  have h2 := h.bars hk
  unfold CS
  omega
def MK (σ : SG) (k : Nat) : Int := if 100 < CS σ k then 0 else 100 - CS σ k
theorem MK_r {σ : SG} (h : WF σ) {k : Nat} (hk : (k : Int) < σ 0 0) : 0 ≤ MK σ k ∧ MK σ k ≤ 100 := by
  have := CS_r h hk
  unfold MK
  split <;> omega
/-! ===== the reference's cells ===== -/
abbrev MWs (g : gG) (ad : Nat → Nat) (σ : SG) (th : Int) : va_W := [(ad 0, .inr (4, [.int (zi (σ 0 0)), .ref (ad 1), .ref (ad 2), .ref (ad 3), .ref (ad 4), .ref (ad 5), .ref (ad 6), .int (zi (σ 7 0)), .int (zi (σ 8 0)), .ref (ad 7), .ref (ad 8), .ref (ad 9), .ref (ad 10), .int (zi th)])), (ad 1, .inl (g.2.1, 30, .inl (fun j => zi (σ 1 j)))), (ad 2, .inl (g.2.1, 30, .inl (fun j => zi (σ 2 j)))), (ad 3, .inl (g.2.2.1, 30, .inl (fun j => zi (σ 3 j)))), (ad 4, .inl (g.2.2.1, 30, .inl (fun j => zi (σ 4 j)))), (ad 5, .inl (g.2.1, 720, .inl (fun j => zi (σ 5 j)))), (ad 6, .inl (g.2.1, 6, .inl (fun j => zi (σ 6 j)))), (ad 7, .inl (g.2.1, 20, .inl (fun j => zi (σ 9 j)))), (ad 8, .inl (g.2.1, 20, .inl (fun j => zi (σ 10 j)))), (ad 9, .inl (g.2.1, 240, .inl (fun j => zi (σ 11 j)))), (ad 10, .inl (g.2.1, 20, .inl (fun j => zi (σ 12 j))))]
def MP (g : gG) (ad : Nat → Nat) (σ : SG) (th : Int) (H : Heap) : Prop := va_P g.1 vwCl (MWs g ad σ th) H
def Dst (ad : Nat → Nat) : Prop := ∀ i j : Nat, i < 11 → j < 11 → ad i = ad j → i = j
theorem MW_map (g : gG) (ad : Nat → Nat) (σ : SG) (th : Int) : (MWs g ad σ th).map Prod.fst = (List.range 11).map ad := rfl
theorem MW_at (g : gG) (ad : Nat → Nat) (σ : SG) (th : Int) {i : Nat} {q : Nat × va_E} (h : (MWs g ad σ th)[i]? = some q) : i < 11 ∧ q.1 = ad i := by
  have h1 : ((MWs g ad σ th).map Prod.fst)[i]? = some q.1 := by rw [List.getElem?_map, h]; rfl
  rw [MW_map, List.getElem?_map] at h1
  have hi : i < 11 := (List.getElem?_eq_some_iff.mp h).1
  rw [List.getElem?_range hi] at h1
  exact ⟨hi, (Option.some.inj h1).symm⟩
theorem MW_fr {g : gG} {ad : Nat → Nat} {σ σ' : SG} {th th' : Int} {sz sz' : Nat} (h : sz' ≤ sz) : ∀ q, va_A (MWs g ad σ th) sz q → va_A (MWs g ad σ' th') sz' q := by
  rintro q (⟨k, e, hk⟩ | hq)
  · obtain ⟨hi, hq⟩ := MW_at g ad σ th hk
    have h2 : k < (MWs g ad σ' th').length := hi
    have h3 := MW_at g ad σ' th' (List.getElem?_eq_getElem h2)
    refine Or.inl ⟨k, ((MWs g ad σ' th')[k]).2, ?_⟩
    rw [List.getElem?_eq_getElem h2]
    congr 1
    exact Prod.ext (h3.2.trans hq.symm) rfl
  · exact Or.inr (Nat.le_trans h hq)
theorem MW_D {g : gG} {ad : Nat → Nat} (hd : Dst ad) (σ σ' : SG) (th th' : Int) (sz : Nat) : va_D (va_A (MWs g ad σ' th') sz) (MWs g ad σ th) := by
  refine ⟨fun i j x y hi hj hxy => ?_, fun k q hk => ?_⟩
  · obtain ⟨a1, a2⟩ := MW_at g ad σ th hi
    obtain ⟨b1, b2⟩ := MW_at g ad σ th hj
    exact hd i j a1 b1 (a2.symm.trans (hxy.trans b2))
  · exact MW_fr (Nat.le_refl sz) q.1 (va_A.in (sz := sz) hk)
end
section
set_option maxHeartbeats 4000000 in
set_option maxRecDepth 100000 in
theorem c_X4_isIn (l : Launch) (g : gG) (v a b : Int) (hv : zr v) (ha : zr a) (hb9 : zr b) : RO l yX4_isIn wsX4_isIn ({ frames := 0, cells := 0, slots := 0, locals := 0 }) g [.int (zi (v)), .int (zi (a)), .int (zi (b))] (fun _ => True) (pz (a ≤ v ∧ v ≤ b)) := by
  refine RO.ofW (cc := cX4_isIn) (maxL := 3) (ret := (some .boolean)) (by decide) rfl (Nat.le_of_ble_eq_true rfl) ?_
  intro p e s m below meth c ls hx hb hr hml hown hts hlk hP hK hl
  have hown : s.vm.findClass RX4 = some m.cls := hown
  have hl : lv_has ls 3 [(0, .int (zi (v))), (1, .int (zi (a))), (2, .int (zi (b)))] := hl
  refine lv_iload_n hx hb dX4_isIn_0 rfl (lv_at hl 0 rfl) ?_
  refine lv_iload_n hx hb dX4_isIn_1 rfl (lv_at hl 1 rfl) ?_
  refine z_icmp_lt (tgt := 14) hx hb dX4_isIn_2 (by decide) (by omega) (by omega) (fun h2 => ?_) (fun h2 => ?_)
  ·
    refine z_iconst hx hb dX4_isIn_14 ?_
    exact z_zret hx hb hr hlk dX4_isIn_15 (by omega) ((pz_f (by omega)).symm)
  ·
    refine lv_iload_n hx hb dX4_isIn_5 rfl (lv_at hl 0 rfl) ?_
    refine lv_iload_n hx hb dX4_isIn_6 rfl (lv_at hl 2 rfl) ?_
    refine z_icmp_gt (tgt := 14) hx hb dX4_isIn_7 (by decide) (by omega) (by omega) (fun h7 => ?_) (fun h7 => ?_)
    ·
      refine z_iconst hx hb dX4_isIn_14 ?_
      exact z_zret hx hb hr hlk dX4_isIn_15 (by omega) ((pz_f (by omega)).symm)
    ·
      refine z_iconst hx hb dX4_isIn_10 ?_
      refine lv_goto (tgt := 15) hx hb dX4_isIn_11 (by decide) ?_
      exact z_zret hx hb hr hlk dX4_isIn_15 (by omega) ((pz_t (by omega)).symm)

set_option maxHeartbeats 4000000 in
set_option maxRecDepth 100000 in
theorem c_X4_at (l : Launch) (g : gG) (a v b : Int) : RO l yX4_at wsX4_at ({ frames := 0, cells := 0, slots := 0, locals := 0 }) g [.int (zi (a)), .int (zi (v)), .int (zi (b))] (fun _ => True) (12 * (2 * a + v) + b) := by
  refine RO.ofW (cc := cX4_at) (maxL := 3) (ret := (some .int)) (by decide) rfl (Nat.le_of_ble_eq_true rfl) ?_
  intro p e s m below meth c ls hx hb hr hml hown hts hlk hP hK hl
  have hown : s.vm.findClass RX4 = some m.cls := hown
  have hl : lv_has ls 3 [(0, .int (zi (a))), (1, .int (zi (v))), (2, .int (zi (b)))] := hl
  refine z_bipush hx hb dX4_at_0 (by decide) ?_
  refine z_iconst hx hb dX4_at_2 ?_
  refine lv_iload_n hx hb dX4_at_3 rfl (lv_at hl 0 rfl) ?_
  refine z_imul hx hb dX4_at_4 ?_
  refine lv_iload_n hx hb dX4_at_5 rfl (lv_at hl 1 rfl) ?_
  refine z_iadd hx hb dX4_at_6 ?_
  refine z_imul hx hb dX4_at_7 ?_
  refine lv_iload_n hx hb dX4_at_8 rfl (lv_at hl 2 rfl) ?_
  refine z_iadd hx hb dX4_at_9 ?_
  exact z_iret hx hb hr hlk dX4_at_10 (by omega)

set_option maxHeartbeats 4000000 in
set_option maxRecDepth 100000 in
theorem c_X4_away (l : Launch) (g : gG) (a b : Int) (ha : zr a) (hb9 : zr b) : RO l yX4_away wsX4_away ({ frames := 0, cells := 0, slots := 0, locals := 0 }) g [.int (zi (a)), .int (zi (b))] (fun _ => True) (dz a b) := by
  refine RO.ofW (cc := cX4_away) (maxL := 2) (ret := (some .int)) (by decide) rfl (Nat.le_of_ble_eq_true rfl) ?_
  intro p e s m below meth c ls hx hb hr hml hown hts hlk hP hK hl
  have hown : s.vm.findClass RX4 = some m.cls := hown
  have hl : lv_has ls 2 [(0, .int (zi (a))), (1, .int (zi (b)))] := hl
  refine lv_iload_n hx hb dX4_away_0 rfl (lv_at hl 0 rfl) ?_
  refine lv_iload_n hx hb dX4_away_1 rfl (lv_at hl 1 rfl) ?_
  refine z_icmp_le (tgt := 11) hx hb dX4_away_2 (by decide) (by omega) (by omega) (fun h2 => ?_) (fun h2 => ?_)
  ·
    refine lv_iload_n hx hb dX4_away_11 rfl (lv_at hl 1 rfl) ?_
    refine lv_iload_n hx hb dX4_away_12 rfl (lv_at hl 0 rfl) ?_
    refine z_isub hx hb dX4_away_13 ?_
    exact z_iret hx hb hr hlk dX4_away_14 (by unfold dz; split <;> omega)
  ·
    refine lv_iload_n hx hb dX4_away_5 rfl (lv_at hl 0 rfl) ?_
    refine lv_iload_n hx hb dX4_away_6 rfl (lv_at hl 1 rfl) ?_
    refine z_isub hx hb dX4_away_7 ?_
    refine lv_goto (tgt := 14) hx hb dX4_away_8 (by decide) ?_
    exact z_iret hx hb hr hlk dX4_away_14 (by unfold dz; split <;> omega)

set_option maxHeartbeats 4000000 in
set_option maxRecDepth 100000 in
theorem c_X4_isVersion (l : Launch) (g : gG) (ad : Nat → Nat) (σ : SG) (th : Int) (hW : WF σ) (z : Int) (hz : zr z) : RO l yX4_isVersion wsX4_isVersion ({ frames := 1, cells := 0, slots := 0, locals := 22 }) g [.ref (ad 0), .int (zi (z))] (MP g ad σ th) (pz (IsV σ z)) := by
  refine RO.ofW (cc := cX4_isVersion) (maxL := 2) (ret := (some .boolean)) (by decide) rfl (Nat.le_of_ble_eq_true rfl) ?_
  intro p e s m below meth c ls hx hb hr hml hown hts hlk hP hK hl
  have hown : s.vm.findClass RX4 = some m.cls := hown
  have hl : lv_has ls 2 [(0, .ref (ad 0)), (1, .int (zi (z)))] := hl
  have hiX4 : ∀ w ∈ u_ws RX4 TX4 14, w ∈ wsX4_isVersion := by decide +kernel
  have hn := hW.n
  refine lv_iload_n hx hb dX4_isVersion_0 rfl (lv_at hl 1 rfl) ?_
  refine z_iconst hx hb dX4_isVersion_1 ?_
  refine lv_aload_n hx hb dX4_isVersion_2 rfl (lv_at hl 0 rfl) ?_
  refine z_get (C := RX4) (T := TX4) (N := 14) hx hb hts hiX4 hown hK (hP 0 _ rfl) rfl 0 (by decide) (hts (.fieldLink RX4 48 "HarmoniumDeskModel" "versions" "I") (by decide +kernel)) rfl rfl dX4_isVersion_3 ?_
  refine z_iconst hx hb dX4_isVersion_6 ?_
  refine z_isub hx hb dX4_isVersion_7 ?_
  refine ro_S (rest := []) (As := [.int (zi (z)), .int (zi (0)), .int (zi ((σ 0 0) - (1)))]) ⟨hx, hb, hml, hown, hts⟩ (c_X4_isIn l g (z) (0) ((σ 0 0) - (1)) (by omega) (by omega) (by omega)) (cwS 3 hts gX4_isVersion_X4_isIn rfl rfl rfl (by decide +kernel) ⟨Nat.le_of_ble_eq_true rfl, Nat.le_of_ble_eq_true rfl⟩) trivial hK rfl hl.1 rfl (Nat.le_of_ble_eq_true rfl) dX4_isVersion_8 ⟨Nat.zero_le _, Nat.zero_le _⟩ ?_
  refine z_top (b := pz (IsV σ z)) (pz_c (by simp only [IsV]; omega)) ?_
  exact z_zret hx hb hr hlk dX4_isVersion_11 ((by have := pz_b (IsV σ z); omega)) (rfl)

set_option maxHeartbeats 4000000 in
set_option maxRecDepth 100000 in
theorem c_X4_isCopy (l : Launch) (g : gG) (ad : Nat → Nat) (σ : SG) (th : Int) (hW : WF σ) (z : Int) (hz : zr z) : RO l yX4_isCopy wsX4_isCopy ({ frames := 1, cells := 0, slots := 0, locals := 22 }) g [.ref (ad 0), .int (zi (z))] (MP g ad σ th) (pz (IsC σ z)) := by
  refine RO.ofW (cc := cX4_isCopy) (maxL := 2) (ret := (some .boolean)) (by decide) rfl (Nat.le_of_ble_eq_true rfl) ?_
  intro p e s m below meth c ls hx hb hr hml hown hts hlk hP hK hl
  have hown : s.vm.findClass RX4 = some m.cls := hown
  have hl : lv_has ls 2 [(0, .ref (ad 0)), (1, .int (zi (z)))] := hl
  have hiX4 : ∀ w ∈ u_ws RX4 TX4 14, w ∈ wsX4_isCopy := by decide +kernel
  have hn := hW.cn
  refine lv_iload_n hx hb dX4_isCopy_0 rfl (lv_at hl 1 rfl) ?_
  refine z_iconst hx hb dX4_isCopy_1 ?_
  refine lv_aload_n hx hb dX4_isCopy_2 rfl (lv_at hl 0 rfl) ?_
  refine z_get (C := RX4) (T := TX4) (N := 14) hx hb hts hiX4 hown hK (hP 0 _ rfl) rfl 8 (by decide) (hts (.fieldLink RX4 105 "HarmoniumDeskModel" "copies" "I") (by decide +kernel)) rfl rfl dX4_isCopy_3 ?_
  refine z_iconst hx hb dX4_isCopy_6 ?_
  refine z_isub hx hb dX4_isCopy_7 ?_
  refine ro_S (rest := []) (As := [.int (zi (z)), .int (zi (0)), .int (zi ((σ 8 0) - (1)))]) ⟨hx, hb, hml, hown, hts⟩ (c_X4_isIn l g (z) (0) ((σ 8 0) - (1)) (by omega) (by omega) (by omega)) (cwS 3 hts gX4_isCopy_X4_isIn rfl rfl rfl (by decide +kernel) ⟨Nat.le_of_ble_eq_true rfl, Nat.le_of_ble_eq_true rfl⟩) trivial hK rfl hl.1 rfl (Nat.le_of_ble_eq_true rfl) dX4_isCopy_8 ⟨Nat.zero_le _, Nat.zero_le _⟩ ?_
  refine z_top (b := pz (IsC σ z)) (pz_c (by simp only [IsC]; omega)) ?_
  exact z_zret hx hb hr hlk dX4_isCopy_11 ((by have := pz_b (IsC σ z); omega)) (rfl)

set_option maxHeartbeats 4000000 in
set_option maxRecDepth 100000 in
theorem c_X4_isNote (l : Launch) (g : gG) (ad : Nat → Nat) (σ : SG) (th : Int) (hW : WF σ) (z v b : Int) (hz : zr z) (hv : zr v) (hb9 : zr b) : RO l yX4_isNote wsX4_isNote ({ frames := 2, cells := 0, slots := 0, locals := 43 }) g [.ref (ad 0), .int (zi (z)), .int (zi (v)), .int (zi (b))] (MP g ad σ th) (pz (IsN σ z v b)) := by
  refine RO.ofW (cc := cX4_isNote) (maxL := 4) (ret := (some .boolean)) (by decide) rfl (Nat.le_of_ble_eq_true rfl) ?_
  intro p e s m below meth c ls hx hb hr hml hown hts hlk hP hK hl
  have hown : s.vm.findClass RX4 = some m.cls := hown
  have hl : lv_has ls 4 [(0, .ref (ad 0)), (1, .int (zi (z))), (2, .int (zi (v))), (3, .int (zi (b)))] := hl
  have hiX4 : ∀ w ∈ u_ws RX4 TX4 14, w ∈ wsX4_isNote := by decide +kernel
  have hn := hW.n
  refine lv_aload_n hx hb dX4_isNote_0 rfl (lv_at hl 0 rfl) ?_
  refine lv_iload_n hx hb dX4_isNote_1 rfl (lv_at hl 1 rfl) ?_
  refine ro_V (rest := []) (As := [.int (zi (z))]) ⟨hx, hb, hml, hown, hts⟩ (c_X4_isVersion l g ad σ th hW (z) (by omega)) (cwV 1 hts gX4_isNote_X4_isVersion rfl rfl rfl (by decide +kernel) ⟨Nat.le_of_ble_eq_true rfl, Nat.le_of_ble_eq_true rfl⟩) (z_recv hK (hP 0 _ rfl) rfl) hP hK rfl hl.1 rfl (Nat.le_of_ble_eq_true rfl) dX4_isNote_2 ⟨Nat.zero_le _, Nat.zero_le _⟩ ?_
  refine z_ifp_eq (P := IsV σ (z)) (tgt := 37) hx hb dX4_isNote_5 (by decide)  (fun h5 => ?_) (fun h5 => ?_)
  ·
    refine z_iconst hx hb dX4_isNote_37 ?_
    exact z_zret hx hb hr hlk dX4_isNote_38 (by omega) ((pz_f (by simp only [IsN]; omega)).symm)
  ·
    refine lv_iload_n hx hb dX4_isNote_8 rfl (lv_at hl 2 rfl) ?_
    refine z_iconst hx hb dX4_isNote_9 ?_
    refine z_iconst hx hb dX4_isNote_10 ?_
    refine ro_S (rest := []) (As := [.int (zi (v)), .int (zi (0)), .int (zi (1))]) ⟨hx, hb, hml, hown, hts⟩ (c_X4_isIn l g (v) (0) (1) (by omega) (by omega) (by omega)) (cwS 3 hts gX4_isNote_X4_isIn rfl rfl rfl (by decide +kernel) ⟨Nat.le_of_ble_eq_true rfl, Nat.le_of_ble_eq_true rfl⟩) trivial hK rfl hl.1 rfl (Nat.le_of_ble_eq_true rfl) dX4_isNote_11 ⟨Nat.zero_le _, Nat.zero_le _⟩ ?_
    refine z_ifp_eq (P := (0) ≤ (v) ∧ (v) ≤ (1)) (tgt := 37) hx hb dX4_isNote_14 (by decide)  (fun h14 => ?_) (fun h14 => ?_)
    ·
      refine z_iconst hx hb dX4_isNote_37 ?_
      exact z_zret hx hb hr hlk dX4_isNote_38 (by omega) ((pz_f (by simp only [IsN]; omega)).symm)
    ·
      obtain ⟨k, hk⟩ : ∃ k : Nat, z = (k : Int) := ⟨z.toNat, by omega⟩
      have hbk := hW.bars (k := k) (by omega)
      have ek : z.toNat = k := by omega
      rw [← ek] at hbk
      refine lv_iload_n hx hb dX4_isNote_17 rfl (lv_at hl 3 rfl) ?_
      refine z_iconst hx hb dX4_isNote_18 ?_
      refine lv_aload_n hx hb dX4_isNote_19 rfl (lv_at hl 0 rfl) ?_
      refine z_get (C := RX4) (T := TX4) (N := 14) hx hb hts hiX4 hown hK (hP 0 _ rfl) rfl 1 (by decide) (hts (.fieldLink RX4 7 "HarmoniumDeskModel" "bars" "[I") (by decide +kernel)) rfl rfl dX4_isNote_20 ?_
      refine lv_iload_n hx hb dX4_isNote_23 rfl (lv_at hl 1 rfl) ?_
      refine z_iald hx hb hK (hP 1 _ rfl) (z.toNat) (by omega) (by omega) (by decide) dX4_isNote_24 ?_
      refine z_iconst hx hb dX4_isNote_25 ?_
      refine z_isub hx hb dX4_isNote_26 ?_
      refine ro_S (rest := []) (As := [.int (zi (b)), .int (zi (0)), .int (zi ((σ 1 (z.toNat)) - (1)))]) ⟨hx, hb, hml, hown, hts⟩ (c_X4_isIn l g (b) (0) ((σ 1 (z.toNat)) - (1)) (by omega) (by omega) (by omega)) (cwS 3 hts gX4_isNote_X4_isIn rfl rfl rfl (by decide +kernel) ⟨Nat.le_of_ble_eq_true rfl, Nat.le_of_ble_eq_true rfl⟩) trivial hK rfl hl.1 rfl (Nat.le_of_ble_eq_true rfl) dX4_isNote_27 ⟨Nat.zero_le _, Nat.zero_le _⟩ ?_
      refine z_ifp_eq (P := (0) ≤ (b) ∧ (b) ≤ ((σ 1 (z.toNat)) - (1))) (tgt := 37) hx hb dX4_isNote_30 (by decide)  (fun h30 => ?_) (fun h30 => ?_)
      ·
        refine z_iconst hx hb dX4_isNote_37 ?_
        exact z_zret hx hb hr hlk dX4_isNote_38 (by omega) ((pz_f (by simp only [IsN]; omega)).symm)
      ·
        refine z_iconst hx hb dX4_isNote_33 ?_
        refine lv_goto (tgt := 38) hx hb dX4_isNote_34 (by decide) ?_
        exact z_zret hx hb hr hlk dX4_isNote_38 (by omega) ((pz_t (by simp only [IsN]; omega)).symm)

set_option maxHeartbeats 4000000 in
set_option maxRecDepth 100000 in
theorem c_X4_interval (l : Launch) (g : gG) (ad : Nat → Nat) (σ : SG) (th : Int) (hW : WF σ) (k : Nat) (hk : (k : Int) < σ 0 0) (zk : Int) (hzk : zk = (k : Int)) (b : Nat) (hb12 : b < 12) (zb : Int) (hzb : zb = (b : Int)) : RO l yX4_interval wsX4_interval ({ frames := 1, cells := 0, slots := 0, locals := 22 }) g [.ref (ad 0), .int (zi (zk)), .int (zi (zb))] (MP g ad σ th) (iv (NU σ k) (NL σ k) b) := by
  refine RO.ofW (cc := cX4_interval) (maxL := 3) (ret := (some .int)) (by decide) rfl (Nat.le_of_ble_eq_true rfl) ?_
  intro p e s m below meth c ls hx hb hr hml hown hts hlk hP hK hl
  have hown : s.vm.findClass RX4 = some m.cls := hown
  have hl : lv_has ls 3 [(0, .ref (ad 0)), (1, .int (zi (zk))), (2, .int (zi (zb)))] := hl
  have hiX4 : ∀ w ∈ u_ws RX4 TX4 14, w ∈ wsX4_interval := by decide +kernel
  have hn := hW.n
  have h1 := hW.u k b
  have h2 := hW.lo k b
  have h3 := dz_r h1 h2
  refine lv_aload_n hx hb dX4_interval_0 rfl (lv_at hl 0 rfl) ?_
  refine z_get (C := RX4) (T := TX4) (N := 14) hx hb hts hiX4 hown hK (hP 0 _ rfl) rfl 5 (by decide) (hts (.fieldLink RX4 23 "HarmoniumDeskModel" "notes" "[I") (by decide +kernel)) rfl rfl dX4_interval_1 ?_
  refine lv_iload_n hx hb dX4_interval_4 rfl (lv_at hl 1 rfl) ?_
  refine z_iconst hx hb dX4_interval_5 ?_
  refine lv_iload_n hx hb dX4_interval_6 rfl (lv_at hl 2 rfl) ?_
  refine ro_S (rest := [.ref (ad 5)]) (As := [.int (zi (zk)), .int (zi (0)), .int (zi (zb))]) ⟨hx, hb, hml, hown, hts⟩ (c_X4_at l g (zk) (0) (zb)) (cwS 3 hts gX4_interval_X4_at rfl rfl rfl (by decide +kernel) ⟨Nat.le_of_ble_eq_true rfl, Nat.le_of_ble_eq_true rfl⟩) trivial hK rfl hl.1 rfl (Nat.le_of_ble_eq_true rfl) dX4_interval_7 ⟨Nat.zero_le _, Nat.zero_le _⟩ ?_
  refine z_iald hx hb hK (hP 5 _ rfl) (24 * k + b) (by omega) (by omega) (by decide) dX4_interval_10 ?_
  refine z_top (b := NU σ k b) (rfl) ?_
  refine lv_aload_n hx hb dX4_interval_11 rfl (lv_at hl 0 rfl) ?_
  refine z_get (C := RX4) (T := TX4) (N := 14) hx hb hts hiX4 hown hK (hP 0 _ rfl) rfl 5 (by decide) (hts (.fieldLink RX4 23 "HarmoniumDeskModel" "notes" "[I") (by decide +kernel)) rfl rfl dX4_interval_12 ?_
  refine lv_iload_n hx hb dX4_interval_15 rfl (lv_at hl 1 rfl) ?_
  refine z_iconst hx hb dX4_interval_16 ?_
  refine lv_iload_n hx hb dX4_interval_17 rfl (lv_at hl 2 rfl) ?_
  refine ro_S (rest := [.ref (ad 5), .int (zi (NU σ k b))]) (As := [.int (zi (zk)), .int (zi (1)), .int (zi (zb))]) ⟨hx, hb, hml, hown, hts⟩ (c_X4_at l g (zk) (1) (zb)) (cwS 3 hts gX4_interval_X4_at rfl rfl rfl (by decide +kernel) ⟨Nat.le_of_ble_eq_true rfl, Nat.le_of_ble_eq_true rfl⟩) trivial hK rfl hl.1 rfl (Nat.le_of_ble_eq_true rfl) dX4_interval_18 ⟨Nat.zero_le _, Nat.zero_le _⟩ ?_
  refine z_iald hx hb hK (hP 5 _ rfl) (24 * k + 12 + b) (by omega) (by omega) (by decide) dX4_interval_21 ?_
  refine z_top (b := NL σ k b) (rfl) ?_
  refine ro_S (rest := []) (As := [.int (zi (NU σ k b)), .int (zi (NL σ k b))]) ⟨hx, hb, hml, hown, hts⟩ (c_X4_away l g (NU σ k b) (NL σ k b) (by omega) (by omega)) (cwS 2 hts gX4_interval_X4_away rfl rfl rfl (by decide +kernel) ⟨Nat.le_of_ble_eq_true rfl, Nat.le_of_ble_eq_true rfl⟩) trivial hK rfl hl.1 rfl (Nat.le_of_ble_eq_true rfl) dX4_interval_22 ⟨Nat.zero_le _, Nat.zero_le _⟩ ?_
  refine z_bipush hx hb dX4_interval_25 (by decide) ?_
  refine z_irem hx hb (by omega) (by omega) (by omega) (by omega) dX4_interval_27 ?_
  exact z_iret hx hb hr hlk dX4_interval_28 (rfl)

set_option maxHeartbeats 4000000 in
set_option maxRecDepth 100000 in
theorem c_X4_stays (l : Launch) (g : gG) (ad : Nat → Nat) (σ : SG) (th : Int) (hW : WF σ) (k : Nat) (hk : (k : Int) < σ 0 0) (zk : Int) (hzk : zk = (k : Int)) (v : Nat) (hv1 : v ≤ 1) (zv : Int) (hzv : zv = (v : Int)) (w : Nat → Int) (hw : NV σ k v = w) (b : Nat) (hb1 : 1 ≤ b) (hb12 : b < 12) (zb : Int) (hzb : zb = (b : Int)) : RO l yX4_stays wsX4_stays ({ frames := 1, cells := 0, slots := 0, locals := 22 }) g [.ref (ad 0), .int (zi (zk)), .int (zi (zv)), .int (zi (zb))] (MP g ad σ th) (pz (w b = w (b - 1))) := by
  refine RO.ofW (cc := cX4_stays) (maxL := 4) (ret := (some .boolean)) (by decide) rfl (Nat.le_of_ble_eq_true rfl) ?_
  intro p e s m below meth c ls hx hb hr hml hown hts hlk hP hK hl
  have hown : s.vm.findClass RX4 = some m.cls := hown
  have hl : lv_has ls 4 [(0, .ref (ad 0)), (1, .int (zi (zk))), (2, .int (zi (zv))), (3, .int (zi (zb)))] := hl
  have hiX4 : ∀ w ∈ u_ws RX4 TX4 14, w ∈ wsX4_stays := by decide +kernel
  have hn := hW.n
  have h0 := hW.v k v
  rw [hw] at h0
  have h1 := h0 b
  have h2 := h0 (b - 1)
  have h3 := dz_r h1 h2
  refine lv_aload_n hx hb dX4_stays_0 rfl (lv_at hl 0 rfl) ?_
  refine z_get (C := RX4) (T := TX4) (N := 14) hx hb hts hiX4 hown hK (hP 0 _ rfl) rfl 5 (by decide) (hts (.fieldLink RX4 23 "HarmoniumDeskModel" "notes" "[I") (by decide +kernel)) rfl rfl dX4_stays_1 ?_
  refine lv_iload_n hx hb dX4_stays_4 rfl (lv_at hl 1 rfl) ?_
  refine lv_iload_n hx hb dX4_stays_5 rfl (lv_at hl 2 rfl) ?_
  refine lv_iload_n hx hb dX4_stays_6 rfl (lv_at hl 3 rfl) ?_
  refine ro_S (rest := [.ref (ad 5)]) (As := [.int (zi (zk)), .int (zi (zv)), .int (zi (zb))]) ⟨hx, hb, hml, hown, hts⟩ (c_X4_at l g (zk) (zv) (zb)) (cwS 3 hts gX4_stays_X4_at rfl rfl rfl (by decide +kernel) ⟨Nat.le_of_ble_eq_true rfl, Nat.le_of_ble_eq_true rfl⟩) trivial hK rfl hl.1 rfl (Nat.le_of_ble_eq_true rfl) dX4_stays_7 ⟨Nat.zero_le _, Nat.zero_le _⟩ ?_
  refine z_iald hx hb hK (hP 5 _ rfl) (24 * k + 12 * v + b) (by omega) (by omega) (by decide) dX4_stays_10 ?_
  refine z_top (b := w b) (by rw [← hw]; rfl) ?_
  refine lv_aload_n hx hb dX4_stays_11 rfl (lv_at hl 0 rfl) ?_
  refine z_get (C := RX4) (T := TX4) (N := 14) hx hb hts hiX4 hown hK (hP 0 _ rfl) rfl 5 (by decide) (hts (.fieldLink RX4 23 "HarmoniumDeskModel" "notes" "[I") (by decide +kernel)) rfl rfl dX4_stays_12 ?_
  refine lv_iload_n hx hb dX4_stays_15 rfl (lv_at hl 1 rfl) ?_
  refine lv_iload_n hx hb dX4_stays_16 rfl (lv_at hl 2 rfl) ?_
  refine lv_iload_n hx hb dX4_stays_17 rfl (lv_at hl 3 rfl) ?_
  refine z_iconst hx hb dX4_stays_18 ?_
  refine z_isub hx hb dX4_stays_19 ?_
  refine ro_S (rest := [.ref (ad 5), .int (zi (w b))]) (As := [.int (zi (zk)), .int (zi (zv)), .int (zi ((zb) - (1)))]) ⟨hx, hb, hml, hown, hts⟩ (c_X4_at l g (zk) (zv) ((zb) - (1))) (cwS 3 hts gX4_stays_X4_at rfl rfl rfl (by decide +kernel) ⟨Nat.le_of_ble_eq_true rfl, Nat.le_of_ble_eq_true rfl⟩) trivial hK rfl hl.1 rfl (Nat.le_of_ble_eq_true rfl) dX4_stays_20 ⟨Nat.zero_le _, Nat.zero_le _⟩ ?_
  refine z_iald hx hb hK (hP 5 _ rfl) (24 * k + 12 * v + (b - 1)) (by omega) (by omega) (by decide) dX4_stays_23 ?_
  refine z_top (b := w (b - 1)) (by rw [← hw]; rfl) ?_
  refine z_icmp_ne (tgt := 31) hx hb dX4_stays_24 (by decide) (by omega) (by omega) (fun h24 => ?_) (fun h24 => ?_)
  ·
    refine z_iconst hx hb dX4_stays_31 ?_
    exact z_zret hx hb hr hlk dX4_stays_32 (by omega) ((pz_f (by omega)).symm)
  ·
    refine z_iconst hx hb dX4_stays_27 ?_
    refine lv_goto (tgt := 32) hx hb dX4_stays_28 (by decide) ?_
    exact z_zret hx hb hr hlk dX4_stays_32 (by omega) ((pz_t (by omega)).symm)

set_option maxHeartbeats 4000000 in
set_option maxRecDepth 100000 in
theorem c_X4_leap (l : Launch) (g : gG) (ad : Nat → Nat) (σ : SG) (th : Int) (hW : WF σ) (k : Nat) (hk : (k : Int) < σ 0 0) (zk : Int) (hzk : zk = (k : Int)) (v : Nat) (hv1 : v ≤ 1) (zv : Int) (hzv : zv = (v : Int)) (w : Nat → Int) (hw : NV σ k v = w) (b : Nat) (hb1 : 1 ≤ b) (hb12 : b < 12) (zb : Int) (hzb : zb = (b : Int)) : RO l yX4_leap wsX4_leap ({ frames := 1, cells := 0, slots := 0, locals := 22 }) g [.ref (ad 0), .int (zi (zk)), .int (zi (zv)), .int (zi (zb))] (MP g ad σ th) (pz (9 < dz (w b) (w (b - 1)))) := by
  refine RO.ofW (cc := cX4_leap) (maxL := 4) (ret := (some .int)) (by decide) rfl (Nat.le_of_ble_eq_true rfl) ?_
  intro p e s m below meth c ls hx hb hr hml hown hts hlk hP hK hl
  have hown : s.vm.findClass RX4 = some m.cls := hown
  have hl : lv_has ls 4 [(0, .ref (ad 0)), (1, .int (zi (zk))), (2, .int (zi (zv))), (3, .int (zi (zb)))] := hl
  have hiX4 : ∀ w ∈ u_ws RX4 TX4 14, w ∈ wsX4_leap := by decide +kernel
  have hn := hW.n
  have h0 := hW.v k v
  rw [hw] at h0
  have h1 := h0 b
  have h2 := h0 (b - 1)
  have h3 := dz_r h1 h2
  refine lv_aload_n hx hb dX4_leap_0 rfl (lv_at hl 0 rfl) ?_
  refine z_get (C := RX4) (T := TX4) (N := 14) hx hb hts hiX4 hown hK (hP 0 _ rfl) rfl 5 (by decide) (hts (.fieldLink RX4 23 "HarmoniumDeskModel" "notes" "[I") (by decide +kernel)) rfl rfl dX4_leap_1 ?_
  refine lv_iload_n hx hb dX4_leap_4 rfl (lv_at hl 1 rfl) ?_
  refine lv_iload_n hx hb dX4_leap_5 rfl (lv_at hl 2 rfl) ?_
  refine lv_iload_n hx hb dX4_leap_6 rfl (lv_at hl 3 rfl) ?_
  refine ro_S (rest := [.ref (ad 5)]) (As := [.int (zi (zk)), .int (zi (zv)), .int (zi (zb))]) ⟨hx, hb, hml, hown, hts⟩ (c_X4_at l g (zk) (zv) (zb)) (cwS 3 hts gX4_leap_X4_at rfl rfl rfl (by decide +kernel) ⟨Nat.le_of_ble_eq_true rfl, Nat.le_of_ble_eq_true rfl⟩) trivial hK rfl hl.1 rfl (Nat.le_of_ble_eq_true rfl) dX4_leap_7 ⟨Nat.zero_le _, Nat.zero_le _⟩ ?_
  refine z_iald hx hb hK (hP 5 _ rfl) (24 * k + 12 * v + b) (by omega) (by omega) (by decide) dX4_leap_10 ?_
  refine z_top (b := w b) (by rw [← hw]; rfl) ?_
  refine lv_aload_n hx hb dX4_leap_11 rfl (lv_at hl 0 rfl) ?_
  refine z_get (C := RX4) (T := TX4) (N := 14) hx hb hts hiX4 hown hK (hP 0 _ rfl) rfl 5 (by decide) (hts (.fieldLink RX4 23 "HarmoniumDeskModel" "notes" "[I") (by decide +kernel)) rfl rfl dX4_leap_12 ?_
  refine lv_iload_n hx hb dX4_leap_15 rfl (lv_at hl 1 rfl) ?_
  refine lv_iload_n hx hb dX4_leap_16 rfl (lv_at hl 2 rfl) ?_
  refine lv_iload_n hx hb dX4_leap_17 rfl (lv_at hl 3 rfl) ?_
  refine z_iconst hx hb dX4_leap_18 ?_
  refine z_isub hx hb dX4_leap_19 ?_
  refine ro_S (rest := [.ref (ad 5), .int (zi (w b))]) (As := [.int (zi (zk)), .int (zi (zv)), .int (zi ((zb) - (1)))]) ⟨hx, hb, hml, hown, hts⟩ (c_X4_at l g (zk) (zv) ((zb) - (1))) (cwS 3 hts gX4_leap_X4_at rfl rfl rfl (by decide +kernel) ⟨Nat.le_of_ble_eq_true rfl, Nat.le_of_ble_eq_true rfl⟩) trivial hK rfl hl.1 rfl (Nat.le_of_ble_eq_true rfl) dX4_leap_20 ⟨Nat.zero_le _, Nat.zero_le _⟩ ?_
  refine z_iald hx hb hK (hP 5 _ rfl) (24 * k + 12 * v + (b - 1)) (by omega) (by omega) (by decide) dX4_leap_23 ?_
  refine z_top (b := w (b - 1)) (by rw [← hw]; rfl) ?_
  refine ro_S (rest := []) (As := [.int (zi (w b)), .int (zi (w (b - 1)))]) ⟨hx, hb, hml, hown, hts⟩ (c_X4_away l g (w b) (w (b - 1)) (by omega) (by omega)) (cwS 2 hts gX4_leap_X4_away rfl rfl rfl (by decide +kernel) ⟨Nat.le_of_ble_eq_true rfl, Nat.le_of_ble_eq_true rfl⟩) trivial hK rfl hl.1 rfl (Nat.le_of_ble_eq_true rfl) dX4_leap_24 ⟨Nat.zero_le _, Nat.zero_le _⟩ ?_
  refine z_bipush hx hb dX4_leap_27 (by decide) ?_
  refine z_icmp_le (tgt := 36) hx hb dX4_leap_29 (by decide) (by omega) (by omega) (fun h29 => ?_) (fun h29 => ?_)
  ·
    refine z_iconst hx hb dX4_leap_36 ?_
    exact z_iret hx hb hr hlk dX4_leap_37 ((pz_f (by omega)).symm)
  ·
    refine z_iconst hx hb dX4_leap_32 ?_
    refine lv_goto (tgt := 37) hx hb dX4_leap_33 (by decide) ?_
    exact z_iret hx hb hr hlk dX4_leap_37 ((pz_t (by omega)).symm)

set_option maxHeartbeats 4000000 in
set_option maxRecDepth 100000 in
theorem c_X4_faultsAt (l : Launch) (g : gG) (ad : Nat → Nat) (σ : SG) (th : Int) (hW : WF σ) (k : Nat) (hk : (k : Int) < σ 0 0) (zk : Int) (hzk : zk = (k : Int)) (b : Nat) (hbb : (b : Int) < σ 1 k) (zb : Int) (hzb : zb = (b : Int)) (r : Nat) (hr6 : r < 6) (zr1 : Int) (hzr : zr1 = (r : Int)) : RO l yX4_faultsAt wsX4_faultsAt ({ frames := 2, cells := 0, slots := 0, locals := 45 }) g [.ref (ad 0), .int (zi (zk)), .int (zi (zb)), .int (zi (zr1))] (MP g ad σ th) (ft r (σ 1 k).toNat (NU σ k) (NL σ k) b) := by
  refine RO.ofW (cc := cX4_faultsAt) (maxL := 6) (ret := (some .int)) (by decide) rfl (Nat.le_of_ble_eq_true rfl) ?_
  intro p e s m below meth c ls hx hb hr hml hown hts hlk hP hK hl
  have hown : s.vm.findClass RX4 = some m.cls := hown
  have hl : lv_has ls 6 [(0, .ref (ad 0)), (1, .int (zi (zk))), (2, .int (zi (zb))), (3, .int (zi (zr1)))] := hl
  have hiX4 : ∀ w ∈ u_ws RX4 TX4 14, w ∈ wsX4_faultsAt := by decide +kernel
  have hn := hW.n
  have hbk := hW.bars hk
  have h1 := hW.u k b
  have h2 := hW.lo k b
  have r1 := iv_r (NU σ k) (NL σ k) b
  have r2 := iv_r (NU σ k) (NL σ k) (b - 1)
  refine lv_aload_n hx hb dX4_faultsAt_0 rfl (lv_at hl 0 rfl) ?_
  refine lv_iload_n hx hb dX4_faultsAt_1 rfl (lv_at hl 1 rfl) ?_
  refine lv_iload_n hx hb dX4_faultsAt_2 rfl (lv_at hl 2 rfl) ?_
  refine ro_V (rest := []) (As := [.int (zi (zk)), .int (zi (zb))]) ⟨hx, hb, hml, hown, hts⟩ (c_X4_interval l g ad σ th hW k hk (zk) (by omega) (b) (by omega) (zb) (by omega)) (cwV 2 hts gX4_faultsAt_X4_interval rfl rfl rfl (by decide +kernel) ⟨Nat.le_of_ble_eq_true rfl, Nat.le_of_ble_eq_true rfl⟩) (z_recv hK (hP 0 _ rfl) rfl) hP hK rfl hl.1 rfl (Nat.le_of_ble_eq_true rfl) dX4_faultsAt_3 ⟨Nat.zero_le _, Nat.zero_le _⟩ ?_
  refine lv_istore (lv' := [(4, .int (zi (iv (NU σ k) (NL σ k) (b)))), (0, .ref (ad 0)), (1, .int (zi (zk))), (2, .int (zi (zb))), (3, .int (zi (zr1)))]) hx hb dX4_faultsAt_6 hl (by decide) rfl (fun ls hl => ?_)
  have J25 : ∀ ls : Array Slot, lv_has ls 6 [(4, .int (zi (iv (NU σ k) (NL σ k) (b)))), (0, .ref (ad 0)), (1, .int (zi (zk))), (2, .int (zi (zb))), (3, .int (zi (zr1)))] → W p l e ({ frames := 2, cells := 0, slots := 0, locals := 45 }) s m ([.ref (ad 0), .int (zi (zk)), .int (zi (zb)), .int (zi (zr1))] : List Value).toArray below meth c s.heap [] 0 0 (MQ below (vp_Si (fun z9 => z9 = zi (ft r (σ 1 k).toNat (NU σ k) (NL σ k) b))) ([.ref (ad 0), .int (zi (zk)), .int (zi (zb)), .int (zi (zr1))] : List Value).toArray s 0 0 (fun _ => False)) (F0 m 25 ls [.int (zi (pz (P7 (iv (NU σ k) (NL σ k) b))))]) := by
    intro ls hl
    refine lv_istore (lv' := [(5, .int (zi (pz (P7 (iv (NU σ k) (NL σ k) b))))), (4, .int (zi (iv (NU σ k) (NL σ k) (b)))), (0, .ref (ad 0)), (1, .int (zi (zk))), (2, .int (zi (zb))), (3, .int (zi (zr1)))]) hx hb dX4_faultsAt_25 hl (by decide) rfl (fun ls hl => ?_)
    refine lv_iload_n hx hb dX4_faultsAt_27 rfl (lv_at hl 5 rfl) ?_
    by_cases e0 : r = 0
    · subst e0
      refine z_top (b := 0) hzr ?_
      refine lv_tableIn (off := 36) (tgt := 64) hx hb dX4_faultsAt_28 (by decide +kernel) (by decide +kernel) (by decide +kernel) (by decide) ?_
      refine lv_iload hx hb dX4_faultsAt_64 (lv_at hl 1 rfl) ?_
      refine z_iconst hx hb dX4_faultsAt_66 ?_
      refine z_icmp_eq (tgt := 96) hx hb dX4_faultsAt_67 (by decide) (by omega) (by omega) (fun h67 => ?_) (fun h67 => ?_)
      ·
        refine z_iconst hx hb dX4_faultsAt_96 ?_
        refine lv_goto (tgt := 101) hx hb dX4_faultsAt_97 (by decide) ?_
        exact z_iret hx hb hr hlk dX4_faultsAt_101 (show _ = pz (D0 (NU σ k) (NL σ k) b) from (pz_t (by simp only [D0]; omega)).symm)
      ·
        refine lv_iload hx hb dX4_faultsAt_70 (lv_at hl 1 rfl) ?_
        refine z_iconst hx hb dX4_faultsAt_72 ?_
        refine z_icmp_eq (tgt := 96) hx hb dX4_faultsAt_73 (by decide) (by omega) (by omega) (fun h73 => ?_) (fun h73 => ?_)
        ·
          refine z_iconst hx hb dX4_faultsAt_96 ?_
          refine lv_goto (tgt := 101) hx hb dX4_faultsAt_97 (by decide) ?_
          exact z_iret hx hb hr hlk dX4_faultsAt_101 (show _ = pz (D0 (NU σ k) (NL σ k) b) from (pz_t (by simp only [D0]; omega)).symm)
        ·
          refine lv_iload hx hb dX4_faultsAt_76 (lv_at hl 1 rfl) ?_
          refine z_iconst hx hb dX4_faultsAt_78 ?_
          refine z_icmp_eq (tgt := 96) hx hb dX4_faultsAt_79 (by decide) (by omega) (by omega) (fun h79 => ?_) (fun h79 => ?_)
          ·
            refine z_iconst hx hb dX4_faultsAt_96 ?_
            refine lv_goto (tgt := 101) hx hb dX4_faultsAt_97 (by decide) ?_
            exact z_iret hx hb hr hlk dX4_faultsAt_101 (show _ = pz (D0 (NU σ k) (NL σ k) b) from (pz_t (by simp only [D0]; omega)).symm)
          ·
            refine lv_iload hx hb dX4_faultsAt_82 (lv_at hl 1 rfl) ?_
            refine z_bipush hx hb dX4_faultsAt_84 (by decide) ?_
            refine z_icmp_eq (tgt := 96) hx hb dX4_faultsAt_86 (by decide) (by omega) (by omega) (fun h86 => ?_) (fun h86 => ?_)
            ·
              refine z_iconst hx hb dX4_faultsAt_96 ?_
              refine lv_goto (tgt := 101) hx hb dX4_faultsAt_97 (by decide) ?_
              exact z_iret hx hb hr hlk dX4_faultsAt_101 (show _ = pz (D0 (NU σ k) (NL σ k) b) from (pz_t (by simp only [D0]; omega)).symm)
            ·
              refine lv_iload hx hb dX4_faultsAt_89 (lv_at hl 1 rfl) ?_
              refine z_bipush hx hb dX4_faultsAt_91 (by decide) ?_
              refine z_icmp_le (tgt := 100) hx hb dX4_faultsAt_93 (by decide) (by omega) (by omega) (fun h93 => ?_) (fun h93 => ?_)
              ·
                refine z_iconst hx hb dX4_faultsAt_100 ?_
                exact z_iret hx hb hr hlk dX4_faultsAt_101 (show _ = pz (D0 (NU σ k) (NL σ k) b) from (pz_f (by simp only [D0]; omega)).symm)
              ·
                refine z_iconst hx hb dX4_faultsAt_96 ?_
                refine lv_goto (tgt := 101) hx hb dX4_faultsAt_97 (by decide) ?_
                exact z_iret hx hb hr hlk dX4_faultsAt_101 (show _ = pz (D0 (NU σ k) (NL σ k) b) from (pz_t (by simp only [D0]; omega)).symm)
    by_cases e1 : r = 1
    · subst e1
      refine z_top (b := 1) hzr ?_
      refine lv_tableIn (off := 74) (tgt := 102) hx hb dX4_faultsAt_28 (by decide +kernel) (by decide +kernel) (by decide +kernel) (by decide) ?_
      refine lv_iload_n hx hb dX4_faultsAt_102 rfl (lv_at hl 4 rfl) ?_
      refine z_if_le (tgt := 148) hx hb dX4_faultsAt_103 (by decide) (by omega) (fun h103 => ?_) (fun h103 => ?_)
      ·
        refine z_iconst hx hb dX4_faultsAt_148 ?_
        exact z_iret hx hb hr hlk dX4_faultsAt_149 (show _ = pz (D1 (NU σ k) (NL σ k) b) from (pz_f (by simp only [D1]; omega)).symm)
      ·
        refine lv_iload hx hb dX4_faultsAt_106 (lv_at hl 0 rfl) ?_
        refine z_ifp_eq (P := P7 (iv (NU σ k) (NL σ k) b)) (tgt := 148) hx hb dX4_faultsAt_108 (by decide)  (fun h108 => ?_) (fun h108 => ?_)
        ·
          refine z_iconst hx hb dX4_faultsAt_148 ?_
          exact z_iret hx hb hr hlk dX4_faultsAt_149 (show _ = pz (D1 (NU σ k) (NL σ k) b) from (pz_f (by simp only [D1]; omega)).symm)
        ·
          refine lv_aload_n hx hb dX4_faultsAt_111 rfl (lv_at hl 2 rfl) ?_
          refine lv_iload_n hx hb dX4_faultsAt_112 rfl (lv_at hl 3 rfl) ?_
          refine z_iconst hx hb dX4_faultsAt_113 ?_
          refine lv_iload_n hx hb dX4_faultsAt_114 rfl (lv_at hl 4 rfl) ?_
          refine ro_V (rest := []) (As := [.int (zi (zk)), .int (zi (0)), .int (zi (zb))]) ⟨hx, hb, hml, hown, hts⟩ (c_X4_stays l g ad σ th hW k hk (zk) (by omega) 0 (by decide) (0) rfl (NU σ k) (NV_0 σ k) (b) (by omega) (by omega) (zb) (by omega)) (cwV 3 hts gX4_faultsAt_X4_stays rfl rfl rfl (by decide +kernel) ⟨Nat.le_of_ble_eq_true rfl, Nat.le_of_ble_eq_true rfl⟩) (z_recv hK (hP 0 _ rfl) rfl) hP hK rfl hl.1 rfl (Nat.le_of_ble_eq_true rfl) dX4_faultsAt_115 ⟨Nat.zero_le _, Nat.zero_le _⟩ ?_
          refine z_ifp_ne (P := (NU σ k) (b) = (NU σ k) ((b) - 1)) (tgt := 148) hx hb dX4_faultsAt_118 (by decide)  (fun h118 => ?_) (fun h118 => ?_)
          ·
            refine z_iconst hx hb dX4_faultsAt_148 ?_
            exact z_iret hx hb hr hlk dX4_faultsAt_149 (show _ = pz (D1 (NU σ k) (NL σ k) b) from (pz_f (by simp only [D1]; omega)).symm)
          ·
            refine lv_aload_n hx hb dX4_faultsAt_121 rfl (lv_at hl 2 rfl) ?_
            refine lv_iload_n hx hb dX4_faultsAt_122 rfl (lv_at hl 3 rfl) ?_
            refine z_iconst hx hb dX4_faultsAt_123 ?_
            refine lv_iload_n hx hb dX4_faultsAt_124 rfl (lv_at hl 4 rfl) ?_
            refine ro_V (rest := []) (As := [.int (zi (zk)), .int (zi (1)), .int (zi (zb))]) ⟨hx, hb, hml, hown, hts⟩ (c_X4_stays l g ad σ th hW k hk (zk) (by omega) 1 (by decide) (1) rfl (NL σ k) (NV_1 σ k) (b) (by omega) (by omega) (zb) (by omega)) (cwV 3 hts gX4_faultsAt_X4_stays rfl rfl rfl (by decide +kernel) ⟨Nat.le_of_ble_eq_true rfl, Nat.le_of_ble_eq_true rfl⟩) (z_recv hK (hP 0 _ rfl) rfl) hP hK rfl hl.1 rfl (Nat.le_of_ble_eq_true rfl) dX4_faultsAt_125 ⟨Nat.zero_le _, Nat.zero_le _⟩ ?_
            refine z_ifp_ne (P := (NL σ k) (b) = (NL σ k) ((b) - 1)) (tgt := 148) hx hb dX4_faultsAt_128 (by decide)  (fun h128 => ?_) (fun h128 => ?_)
            ·
              refine z_iconst hx hb dX4_faultsAt_148 ?_
              exact z_iret hx hb hr hlk dX4_faultsAt_149 (show _ = pz (D1 (NU σ k) (NL σ k) b) from (pz_f (by simp only [D1]; omega)).symm)
            ·
              refine lv_aload_n hx hb dX4_faultsAt_131 rfl (lv_at hl 2 rfl) ?_
              refine lv_iload_n hx hb dX4_faultsAt_132 rfl (lv_at hl 3 rfl) ?_
              refine lv_iload_n hx hb dX4_faultsAt_133 rfl (lv_at hl 4 rfl) ?_
              refine z_iconst hx hb dX4_faultsAt_134 ?_
              refine z_isub hx hb dX4_faultsAt_135 ?_
              refine ro_V (rest := []) (As := [.int (zi (zk)), .int (zi ((zb) - (1)))]) ⟨hx, hb, hml, hown, hts⟩ (c_X4_interval l g ad σ th hW k hk (zk) (by omega) (b - 1) (by omega) ((zb) - (1)) (by omega)) (cwV 2 hts gX4_faultsAt_X4_interval rfl rfl rfl (by decide +kernel) ⟨Nat.le_of_ble_eq_true rfl, Nat.le_of_ble_eq_true rfl⟩) (z_recv hK (hP 0 _ rfl) rfl) hP hK rfl hl.1 rfl (Nat.le_of_ble_eq_true rfl) dX4_faultsAt_136 ⟨Nat.zero_le _, Nat.zero_le _⟩ ?_
              refine lv_iload hx hb dX4_faultsAt_139 (lv_at hl 1 rfl) ?_
              refine z_icmp_ne (tgt := 148) hx hb dX4_faultsAt_141 (by decide) (by omega) (by omega) (fun h141 => ?_) (fun h141 => ?_)
              ·
                refine z_iconst hx hb dX4_faultsAt_148 ?_
                exact z_iret hx hb hr hlk dX4_faultsAt_149 (show _ = pz (D1 (NU σ k) (NL σ k) b) from (pz_f (by simp only [D1]; omega)).symm)
              ·
                refine z_iconst hx hb dX4_faultsAt_144 ?_
                refine lv_goto (tgt := 149) hx hb dX4_faultsAt_145 (by decide) ?_
                exact z_iret hx hb hr hlk dX4_faultsAt_149 (show _ = pz (D1 (NU σ k) (NL σ k) b) from (pz_t (by simp only [D1]; omega)).symm)
    by_cases e2 : r = 2
    · subst e2
      refine z_top (b := 2) hzr ?_
      refine lv_tableIn (off := 122) (tgt := 150) hx hb dX4_faultsAt_28 (by decide +kernel) (by decide +kernel) (by decide +kernel) (by decide) ?_
      refine lv_iload_n hx hb dX4_faultsAt_150 rfl (lv_at hl 4 rfl) ?_
      refine z_if_le (tgt := 172) hx hb dX4_faultsAt_151 (by decide) (by omega) (fun h151 => ?_) (fun h151 => ?_)
      ·
        refine z_iconst hx hb dX4_faultsAt_172 ?_
        exact z_iret hx hb hr hlk dX4_faultsAt_173 (show _ = F2 (NU σ k) (NL σ k) b from by unfold F2; rw [if_neg (by omega)])
      ·
        refine lv_aload_n hx hb dX4_faultsAt_154 rfl (lv_at hl 2 rfl) ?_
        refine lv_iload_n hx hb dX4_faultsAt_155 rfl (lv_at hl 3 rfl) ?_
        refine z_iconst hx hb dX4_faultsAt_156 ?_
        refine lv_iload_n hx hb dX4_faultsAt_157 rfl (lv_at hl 4 rfl) ?_
        refine ro_V (rest := []) (As := [.int (zi (zk)), .int (zi (0)), .int (zi (zb))]) ⟨hx, hb, hml, hown, hts⟩ (c_X4_leap l g ad σ th hW k hk (zk) (by omega) 0 (by decide) (0) rfl (NU σ k) (NV_0 σ k) (b) (by omega) (by omega) (zb) (by omega)) (cwV 3 hts gX4_faultsAt_X4_leap rfl rfl rfl (by decide +kernel) ⟨Nat.le_of_ble_eq_true rfl, Nat.le_of_ble_eq_true rfl⟩) (z_recv hK (hP 0 _ rfl) rfl) hP hK rfl hl.1 rfl (Nat.le_of_ble_eq_true rfl) dX4_faultsAt_158 ⟨Nat.zero_le _, Nat.zero_le _⟩ ?_
        refine lv_aload_n hx hb dX4_faultsAt_161 rfl (lv_at hl 2 rfl) ?_
        refine lv_iload_n hx hb dX4_faultsAt_162 rfl (lv_at hl 3 rfl) ?_
        refine z_iconst hx hb dX4_faultsAt_163 ?_
        refine lv_iload_n hx hb dX4_faultsAt_164 rfl (lv_at hl 4 rfl) ?_
        refine ro_V (rest := [.int (zi (pz (9 < dz ((NU σ k) (b)) ((NU σ k) ((b) - 1)))))]) (As := [.int (zi (zk)), .int (zi (1)), .int (zi (zb))]) ⟨hx, hb, hml, hown, hts⟩ (c_X4_leap l g ad σ th hW k hk (zk) (by omega) 1 (by decide) (1) rfl (NL σ k) (NV_1 σ k) (b) (by omega) (by omega) (zb) (by omega)) (cwV 3 hts gX4_faultsAt_X4_leap rfl rfl rfl (by decide +kernel) ⟨Nat.le_of_ble_eq_true rfl, Nat.le_of_ble_eq_true rfl⟩) (z_recv hK (hP 0 _ rfl) rfl) hP hK rfl hl.1 rfl (Nat.le_of_ble_eq_true rfl) dX4_faultsAt_165 ⟨Nat.zero_le _, Nat.zero_le _⟩ ?_
        refine z_iadd hx hb dX4_faultsAt_168 ?_
        refine lv_goto (tgt := 173) hx hb dX4_faultsAt_169 (by decide) ?_
        exact z_iret hx hb hr hlk dX4_faultsAt_173 (show _ = F2 (NU σ k) (NL σ k) b from by unfold F2; rw [if_pos (by omega)])
    by_cases e3 : r = 3
    · subst e3
      refine z_top (b := 3) hzr ?_
      refine lv_tableIn (off := 146) (tgt := 174) hx hb dX4_faultsAt_28 (by decide +kernel) (by decide +kernel) (by decide +kernel) (by decide) ?_
      refine lv_aload_n hx hb dX4_faultsAt_174 rfl (lv_at hl 2 rfl) ?_
      refine z_get (C := RX4) (T := TX4) (N := 14) hx hb hts hiX4 hown hK (hP 0 _ rfl) rfl 5 (by decide) (hts (.fieldLink RX4 23 "HarmoniumDeskModel" "notes" "[I") (by decide +kernel)) rfl rfl dX4_faultsAt_175 ?_
      refine lv_iload_n hx hb dX4_faultsAt_178 rfl (lv_at hl 3 rfl) ?_
      refine z_iconst hx hb dX4_faultsAt_179 ?_
      refine lv_iload_n hx hb dX4_faultsAt_180 rfl (lv_at hl 4 rfl) ?_
      refine ro_S (rest := [.ref (ad 5)]) (As := [.int (zi (zk)), .int (zi (0)), .int (zi (zb))]) ⟨hx, hb, hml, hown, hts⟩ (c_X4_at l g (zk) (0) (zb)) (cwS 3 hts gX4_faultsAt_X4_at rfl rfl rfl (by decide +kernel) ⟨Nat.le_of_ble_eq_true rfl, Nat.le_of_ble_eq_true rfl⟩) trivial hK rfl hl.1 rfl (Nat.le_of_ble_eq_true rfl) dX4_faultsAt_181 ⟨Nat.zero_le _, Nat.zero_le _⟩ ?_
      refine z_iald hx hb hK (hP 5 _ rfl) (24 * k + b) (by omega) (by omega) (by decide) dX4_faultsAt_184 ?_
      refine z_top (b := NU σ k b) (rfl) ?_
      refine lv_aload_n hx hb dX4_faultsAt_185 rfl (lv_at hl 2 rfl) ?_
      refine z_get (C := RX4) (T := TX4) (N := 14) hx hb hts hiX4 hown hK (hP 0 _ rfl) rfl 5 (by decide) (hts (.fieldLink RX4 23 "HarmoniumDeskModel" "notes" "[I") (by decide +kernel)) rfl rfl dX4_faultsAt_186 ?_
      refine lv_iload_n hx hb dX4_faultsAt_189 rfl (lv_at hl 3 rfl) ?_
      refine z_iconst hx hb dX4_faultsAt_190 ?_
      refine lv_iload_n hx hb dX4_faultsAt_191 rfl (lv_at hl 4 rfl) ?_
      refine ro_S (rest := [.ref (ad 5), .int (zi (NU σ k b))]) (As := [.int (zi (zk)), .int (zi (1)), .int (zi (zb))]) ⟨hx, hb, hml, hown, hts⟩ (c_X4_at l g (zk) (1) (zb)) (cwS 3 hts gX4_faultsAt_X4_at rfl rfl rfl (by decide +kernel) ⟨Nat.le_of_ble_eq_true rfl, Nat.le_of_ble_eq_true rfl⟩) trivial hK rfl hl.1 rfl (Nat.le_of_ble_eq_true rfl) dX4_faultsAt_192 ⟨Nat.zero_le _, Nat.zero_le _⟩ ?_
      refine z_iald hx hb hK (hP 5 _ rfl) (24 * k + 12 + b) (by omega) (by omega) (by decide) dX4_faultsAt_195 ?_
      refine z_top (b := NL σ k b) (rfl) ?_
      refine z_icmp_ge (tgt := 203) hx hb dX4_faultsAt_196 (by decide) (by omega) (by omega) (fun h196 => ?_) (fun h196 => ?_)
      ·
        refine z_iconst hx hb dX4_faultsAt_203 ?_
        exact z_iret hx hb hr hlk dX4_faultsAt_204 (show _ = pz (D3 (NU σ k) (NL σ k) b) from (pz_f (by simp only [D3]; omega)).symm)
      ·
        refine z_iconst hx hb dX4_faultsAt_199 ?_
        refine lv_goto (tgt := 204) hx hb dX4_faultsAt_200 (by decide) ?_
        exact z_iret hx hb hr hlk dX4_faultsAt_204 (show _ = pz (D3 (NU σ k) (NL σ k) b) from (pz_t (by simp only [D3]; omega)).symm)
    by_cases e4 : r = 4
    · subst e4
      refine z_top (b := 4) hzr ?_
      refine lv_tableIn (off := 177) (tgt := 205) hx hb dX4_faultsAt_28 (by decide +kernel) (by decide +kernel) (by decide +kernel) (by decide) ?_
      refine lv_iload hx hb dX4_faultsAt_205 (lv_at hl 0 rfl) ?_
      refine z_ifp_eq (P := P7 (iv (NU σ k) (NL σ k) b)) (tgt := 214) hx hb dX4_faultsAt_207 (by decide)  (fun h207 => ?_) (fun h207 => ?_)
      ·
        refine lv_iload_n hx hb dX4_faultsAt_214 rfl (lv_at hl 4 rfl) ?_
        refine z_if_ne (tgt := 222) hx hb dX4_faultsAt_215 (by decide) (by omega) (fun h215 => ?_) (fun h215 => ?_)
        ·
          refine z_iconst hx hb dX4_faultsAt_222 ?_
          refine lv_iload_n hx hb dX4_faultsAt_223 rfl (lv_at hl 4 rfl) ?_
          refine lv_aload_n hx hb dX4_faultsAt_224 rfl (lv_at hl 2 rfl) ?_
          refine z_get (C := RX4) (T := TX4) (N := 14) hx hb hts hiX4 hown hK (hP 0 _ rfl) rfl 1 (by decide) (hts (.fieldLink RX4 7 "HarmoniumDeskModel" "bars" "[I") (by decide +kernel)) rfl rfl dX4_faultsAt_225 ?_
          refine lv_iload_n hx hb dX4_faultsAt_228 rfl (lv_at hl 3 rfl) ?_
          refine z_iald hx hb hK (hP 1 _ rfl) (k) (by omega) (by omega) (by decide) dX4_faultsAt_229 ?_
          refine z_iconst hx hb dX4_faultsAt_230 ?_
          refine z_isub hx hb dX4_faultsAt_231 ?_
          refine z_icmp_ne (tgt := 239) hx hb dX4_faultsAt_232 (by decide) (by omega) (by omega) (fun h232 => ?_) (fun h232 => ?_)
          ·
            refine z_iconst hx hb dX4_faultsAt_239 ?_
            refine z_iadd hx hb dX4_faultsAt_240 ?_
            exact z_iret hx hb hr hlk dX4_faultsAt_241 (show _ = F4 (σ 1 k).toNat (NU σ k) (NL σ k) b from by unfold F4; rw [if_neg (by assumption), pz_f (by omega), pz_f (by omega)])
          ·
            refine z_iconst hx hb dX4_faultsAt_235 ?_
            refine lv_goto (tgt := 240) hx hb dX4_faultsAt_236 (by decide) ?_
            refine z_iadd hx hb dX4_faultsAt_240 ?_
            exact z_iret hx hb hr hlk dX4_faultsAt_241 (show _ = F4 (σ 1 k).toNat (NU σ k) (NL σ k) b from by unfold F4; rw [if_neg (by assumption), pz_f (by omega), pz_t (by omega)])
        ·
          refine z_iconst hx hb dX4_faultsAt_218 ?_
          refine lv_goto (tgt := 223) hx hb dX4_faultsAt_219 (by decide) ?_
          refine lv_iload_n hx hb dX4_faultsAt_223 rfl (lv_at hl 4 rfl) ?_
          refine lv_aload_n hx hb dX4_faultsAt_224 rfl (lv_at hl 2 rfl) ?_
          refine z_get (C := RX4) (T := TX4) (N := 14) hx hb hts hiX4 hown hK (hP 0 _ rfl) rfl 1 (by decide) (hts (.fieldLink RX4 7 "HarmoniumDeskModel" "bars" "[I") (by decide +kernel)) rfl rfl dX4_faultsAt_225 ?_
          refine lv_iload_n hx hb dX4_faultsAt_228 rfl (lv_at hl 3 rfl) ?_
          refine z_iald hx hb hK (hP 1 _ rfl) (k) (by omega) (by omega) (by decide) dX4_faultsAt_229 ?_
          refine z_iconst hx hb dX4_faultsAt_230 ?_
          refine z_isub hx hb dX4_faultsAt_231 ?_
          refine z_icmp_ne (tgt := 239) hx hb dX4_faultsAt_232 (by decide) (by omega) (by omega) (fun h232 => ?_) (fun h232 => ?_)
          ·
            refine z_iconst hx hb dX4_faultsAt_239 ?_
            refine z_iadd hx hb dX4_faultsAt_240 ?_
            exact z_iret hx hb hr hlk dX4_faultsAt_241 (show _ = F4 (σ 1 k).toNat (NU σ k) (NL σ k) b from by unfold F4; rw [if_neg (by assumption), pz_t (by omega), pz_f (by omega)])
          ·
            refine z_iconst hx hb dX4_faultsAt_235 ?_
            refine lv_goto (tgt := 240) hx hb dX4_faultsAt_236 (by decide) ?_
            refine z_iadd hx hb dX4_faultsAt_240 ?_
            exact z_iret hx hb hr hlk dX4_faultsAt_241 (show _ = F4 (σ 1 k).toNat (NU σ k) (NL σ k) b from by unfold F4; rw [if_neg (by assumption), pz_t (by omega), pz_t (by omega)])
      ·
        refine z_iconst hx hb dX4_faultsAt_210 ?_
        refine lv_goto (tgt := 241) hx hb dX4_faultsAt_211 (by decide) ?_
        exact z_iret hx hb hr hlk dX4_faultsAt_241 (show _ = F4 (σ 1 k).toNat (NU σ k) (NL σ k) b from by unfold F4; rw [if_pos (by assumption)])
    by_cases e5 : r = 5
    · subst e5
      refine z_top (b := 5) hzr ?_
      refine lv_tableOut (tgt := 242) hx hb dX4_faultsAt_28 (by decide +kernel) (by decide) ?_
      have z3 : b - 1 - 1 = b - 2 := by omega
      refine lv_iload_n hx hb dX4_faultsAt_242 rfl (lv_at hl 4 rfl) ?_
      refine z_iconst hx hb dX4_faultsAt_243 ?_
      refine z_icmp_le (tgt := 273) hx hb dX4_faultsAt_244 (by decide) (by omega) (by omega) (fun h244 => ?_) (fun h244 => ?_)
      ·
        refine z_iconst hx hb dX4_faultsAt_273 ?_
        exact z_iret hx hb hr hlk dX4_faultsAt_274 (show _ = pz (D5 (NU σ k) b) from (pz_f (by simp only [D5]; omega)).symm)
      ·
        refine lv_aload_n hx hb dX4_faultsAt_247 rfl (lv_at hl 2 rfl) ?_
        refine lv_iload_n hx hb dX4_faultsAt_248 rfl (lv_at hl 3 rfl) ?_
        refine z_iconst hx hb dX4_faultsAt_249 ?_
        refine lv_iload_n hx hb dX4_faultsAt_250 rfl (lv_at hl 4 rfl) ?_
        refine ro_V (rest := []) (As := [.int (zi (zk)), .int (zi (0)), .int (zi (zb))]) ⟨hx, hb, hml, hown, hts⟩ (c_X4_stays l g ad σ th hW k hk (zk) (by omega) 0 (by decide) (0) rfl (NU σ k) (NV_0 σ k) (b) (by omega) (by omega) (zb) (by omega)) (cwV 3 hts gX4_faultsAt_X4_stays rfl rfl rfl (by decide +kernel) ⟨Nat.le_of_ble_eq_true rfl, Nat.le_of_ble_eq_true rfl⟩) (z_recv hK (hP 0 _ rfl) rfl) hP hK rfl hl.1 rfl (Nat.le_of_ble_eq_true rfl) dX4_faultsAt_251 ⟨Nat.zero_le _, Nat.zero_le _⟩ ?_
        refine z_ifp_eq (P := (NU σ k) (b) = (NU σ k) ((b) - 1)) (tgt := 273) hx hb dX4_faultsAt_254 (by decide)  (fun h254 => ?_) (fun h254 => ?_)
        ·
          refine z_iconst hx hb dX4_faultsAt_273 ?_
          exact z_iret hx hb hr hlk dX4_faultsAt_274 (show _ = pz (D5 (NU σ k) b) from (pz_f (by simp only [D5]; omega)).symm)
        ·
          refine lv_aload_n hx hb dX4_faultsAt_257 rfl (lv_at hl 2 rfl) ?_
          refine lv_iload_n hx hb dX4_faultsAt_258 rfl (lv_at hl 3 rfl) ?_
          refine z_iconst hx hb dX4_faultsAt_259 ?_
          refine lv_iload_n hx hb dX4_faultsAt_260 rfl (lv_at hl 4 rfl) ?_
          refine z_iconst hx hb dX4_faultsAt_261 ?_
          refine z_isub hx hb dX4_faultsAt_262 ?_
          refine ro_V (rest := []) (As := [.int (zi (zk)), .int (zi (0)), .int (zi ((zb) - (1)))]) ⟨hx, hb, hml, hown, hts⟩ (c_X4_stays l g ad σ th hW k hk (zk) (by omega) 0 (by decide) (0) rfl (NU σ k) (NV_0 σ k) (b - 1) (by omega) (by omega) ((zb) - (1)) (by omega)) (cwV 3 hts gX4_faultsAt_X4_stays rfl rfl rfl (by decide +kernel) ⟨Nat.le_of_ble_eq_true rfl, Nat.le_of_ble_eq_true rfl⟩) (z_recv hK (hP 0 _ rfl) rfl) hP hK rfl hl.1 rfl (Nat.le_of_ble_eq_true rfl) dX4_faultsAt_263 ⟨Nat.zero_le _, Nat.zero_le _⟩ ?_
          refine z_top (b := pz (NU σ k (b - 1) = NU σ k (b - 2))) (by rw [z3]) ?_
          refine z_ifp_eq (P := NU σ k (b - 1) = NU σ k (b - 2)) (tgt := 273) hx hb dX4_faultsAt_266 (by decide)  (fun h266 => ?_) (fun h266 => ?_)
          ·
            refine z_iconst hx hb dX4_faultsAt_273 ?_
            exact z_iret hx hb hr hlk dX4_faultsAt_274 (show _ = pz (D5 (NU σ k) b) from (pz_f (by simp only [D5]; omega)).symm)
          ·
            refine z_iconst hx hb dX4_faultsAt_269 ?_
            refine lv_goto (tgt := 274) hx hb dX4_faultsAt_270 (by decide) ?_
            exact z_iret hx hb hr hlk dX4_faultsAt_274 (show _ = pz (D5 (NU σ k) b) from (pz_t (by simp only [D5]; omega)).symm)
    exact absurd hr6 (by omega)
  refine lv_iload hx hb dX4_faultsAt_8 (lv_at hl 0 rfl) ?_
  refine z_if_eq (tgt := 20) hx hb dX4_faultsAt_10 (by decide) (by omega) (fun h10 => ?_) (fun h10 => ?_)
  ·
    refine z_iconst hx hb dX4_faultsAt_20 ?_
    refine lv_goto (tgt := 25) hx hb dX4_faultsAt_21 (by decide) ?_
    refine z_top (b := pz (P7 (iv (NU σ k) (NL σ k) b))) ((pz_t (by simp only [P7]; omega)).symm) ?_
    exact J25 ls (lv_sub hl [0, 1, 2, 3, 4] rfl)
  ·
    refine lv_iload hx hb dX4_faultsAt_13 (lv_at hl 0 rfl) ?_
    refine z_bipush hx hb dX4_faultsAt_15 (by decide) ?_
    refine z_icmp_ne (tgt := 24) hx hb dX4_faultsAt_17 (by decide) (by omega) (by omega) (fun h17 => ?_) (fun h17 => ?_)
    ·
      refine z_iconst hx hb dX4_faultsAt_24 ?_
      refine z_top (b := pz (P7 (iv (NU σ k) (NL σ k) b))) ((pz_f (by simp only [P7]; omega)).symm) ?_
      exact J25 ls (lv_sub hl [0, 1, 2, 3, 4] rfl)
    ·
      refine z_iconst hx hb dX4_faultsAt_20 ?_
      refine lv_goto (tgt := 25) hx hb dX4_faultsAt_21 (by decide) ?_
      refine z_top (b := pz (P7 (iv (NU σ k) (NL σ k) b))) ((pz_t (by simp only [P7]; omega)).symm) ?_
      exact J25 ls (lv_sub hl [0, 1, 2, 3, 4] rfl)

set_option maxHeartbeats 4000000 in
set_option maxRecDepth 100000 in
theorem c_X4_costs (l : Launch) (g : gG) (ad : Nat → Nat) (σ : SG) (th : Int) (hW : WF σ) (k : Nat) (hk : (k : Int) < σ 0 0) (zk : Int) (hzk : zk = (k : Int)) : RO l yX4_costs wsX4_costs ({ frames := 3, cells := 0, slots := 0, locals := 70 }) g [.ref (ad 0), .int (zi (zk))] (MP g ad σ th) (CS σ k) := by
  refine RO.ofW (cc := cX4_costs) (maxL := 4) (ret := (some .int)) (by decide) rfl (Nat.le_of_ble_eq_true rfl) ?_
  intro p e s m below meth c ls hx hb hr hml hown hts hlk hP hK hl
  have hown : s.vm.findClass RX4 = some m.cls := hown
  have hl : lv_has ls 4 [(0, .ref (ad 0)), (1, .int (zi (zk)))] := hl
  have hiX4 : ∀ w ∈ u_ws RX4 TX4 14, w ∈ wsX4_costs := by decide +kernel
  have hn := hW.n
  have hbk := hW.bars hk
  refine z_iconst hx hb dX4_costs_0 ?_
  refine lv_istore_n (lv' := [(2, .int (zi (0))), (0, .ref (ad 0)), (1, .int (zi (zk)))]) hx hb dX4_costs_1 rfl hl (by decide) rfl (fun ls hl => ?_)
  refine z_iconst hx hb dX4_costs_2 ?_
  refine lv_istore_n (lv' := [(3, .int (zi (0))), (2, .int (zi (0))), (0, .ref (ad 0)), (1, .int (zi (zk)))]) hx hb dX4_costs_3 rfl hl (by decide) rfl (fun ls hl => ?_)
  have cb := cs_r hW.wt (σ 1 k).toNat (NU σ k) (NL σ k)
  have loop : ∀ (d j : Nat), (j : Int) ≤ 6 * σ 1 k → 6 * (σ 1 k).toNat - j = d → ∀ ls : Array Slot, lv_has ls 4 [(3, .int (zi ((j : Int)))), (2, .int (zi (cs (σ 6) (σ 1 k).toNat (NU σ k) (NL σ k) j))), (0, .ref (ad 0)), (1, .int (zi (zk)))] → W p l e ({ frames := 3, cells := 0, slots := 0, locals := 70 }) s m ([.ref (ad 0), .int (zi (zk))] : List Value).toArray below meth c s.heap [] 0 0 (MQ below (vp_Si (fun z9 => z9 = zi (CS σ k))) ([.ref (ad 0), .int (zi (zk))] : List Value).toArray s 0 0 (fun _ => False)) (F0 m 4 ls []) := by
    intro d
    induction d with
    | zero =>
      intro j hjn hd ls hl
      refine lv_iload_n hx hb dX4_costs_4 rfl (lv_at hl 0 rfl) ?_
      refine lv_aload_n hx hb dX4_costs_5 rfl (lv_at hl 2 rfl) ?_
      refine z_get (C := RX4) (T := TX4) (N := 14) hx hb hts hiX4 hown hK (hP 0 _ rfl) rfl 1 (by decide) (hts (.fieldLink RX4 7 "HarmoniumDeskModel" "bars" "[I") (by decide +kernel)) rfl rfl dX4_costs_6 ?_
      refine lv_iload_n hx hb dX4_costs_9 rfl (lv_at hl 3 rfl) ?_
      refine z_iald hx hb hK (hP 1 _ rfl) (k) (by omega) (by omega) (by decide) dX4_costs_10 ?_
      refine z_bipush hx hb dX4_costs_11 (by decide) ?_
      refine z_imul hx hb dX4_costs_13 ?_
      refine z_icmp_ge (tgt := 49) hx hb dX4_costs_14 (by decide) (by omega) (by omega) (fun h14 => ?_) (fun h14 => ?_)
      ·
        refine lv_iload_n hx hb dX4_costs_49 rfl (lv_at hl 1 rfl) ?_
        exact z_iret hx hb hr hlk dX4_costs_50 (by unfold CS; rw [show j = 6 * (σ 1 k).toNat by omega])
      · exfalso; omega
    | succ d ih =>
      intro j hjn hd ls hl
      have c1 := cb j
      have c2 := hW.wt (j % 6)
      have c3 := ft_r (j % 6) (σ 1 k).toNat (NU σ k) (NL σ k) (j / 6)
      refine lv_iload_n hx hb dX4_costs_4 rfl (lv_at hl 0 rfl) ?_
      refine lv_aload_n hx hb dX4_costs_5 rfl (lv_at hl 2 rfl) ?_
      refine z_get (C := RX4) (T := TX4) (N := 14) hx hb hts hiX4 hown hK (hP 0 _ rfl) rfl 1 (by decide) (hts (.fieldLink RX4 7 "HarmoniumDeskModel" "bars" "[I") (by decide +kernel)) rfl rfl dX4_costs_6 ?_
      refine lv_iload_n hx hb dX4_costs_9 rfl (lv_at hl 3 rfl) ?_
      refine z_iald hx hb hK (hP 1 _ rfl) (k) (by omega) (by omega) (by decide) dX4_costs_10 ?_
      refine z_bipush hx hb dX4_costs_11 (by decide) ?_
      refine z_imul hx hb dX4_costs_13 ?_
      refine z_icmp_ge (tgt := 49) hx hb dX4_costs_14 (by decide) (by omega) (by omega) (fun h14 => ?_) (fun h14 => ?_)
      · exfalso; omega
      ·
        refine lv_iload_n hx hb dX4_costs_17 rfl (lv_at hl 1 rfl) ?_
        refine lv_aload_n hx hb dX4_costs_18 rfl (lv_at hl 2 rfl) ?_
        refine z_get (C := RX4) (T := TX4) (N := 14) hx hb hts hiX4 hown hK (hP 0 _ rfl) rfl 6 (by decide) (hts (.fieldLink RX4 26 "HarmoniumDeskModel" "weight" "[I") (by decide +kernel)) rfl rfl dX4_costs_19 ?_
        refine lv_iload_n hx hb dX4_costs_22 rfl (lv_at hl 0 rfl) ?_
        refine z_bipush hx hb dX4_costs_23 (by decide) ?_
        refine z_irem hx hb (by omega) (by omega) (by omega) (by omega) dX4_costs_25 ?_
        refine z_iald hx hb hK (hP 6 _ rfl) (j % 6) (by omega) (by omega) (by decide) dX4_costs_26 ?_
        refine lv_aload_n hx hb dX4_costs_27 rfl (lv_at hl 2 rfl) ?_
        refine lv_iload_n hx hb dX4_costs_28 rfl (lv_at hl 3 rfl) ?_
        refine lv_iload_n hx hb dX4_costs_29 rfl (lv_at hl 0 rfl) ?_
        refine z_bipush hx hb dX4_costs_30 (by decide) ?_
        refine z_idiv hx hb (by omega) (by omega) (by omega) (by omega) dX4_costs_32 ?_
        refine lv_iload_n hx hb dX4_costs_33 rfl (lv_at hl 0 rfl) ?_
        refine z_bipush hx hb dX4_costs_34 (by decide) ?_
        refine z_irem hx hb (by omega) (by omega) (by omega) (by omega) dX4_costs_36 ?_
        refine ro_V (rest := [.int (zi (σ 6 (j % 6))), .int (zi (cs (σ 6) (σ 1 k).toNat (NU σ k) (NL σ k) j))]) (As := [.int (zi (zk)), .int (zi (((j : Int)) / (6))), .int (zi (((j : Int)) % (6)))]) ⟨hx, hb, hml, hown, hts⟩ (c_X4_faultsAt l g ad σ th hW k hk (zk) (by omega) (j / 6) (by omega) (((j : Int)) / (6)) (by omega) (j % 6) (by omega) (((j : Int)) % (6)) (by omega)) (cwV 3 hts gX4_costs_X4_faultsAt rfl rfl rfl (by decide +kernel) ⟨Nat.le_of_ble_eq_true rfl, Nat.le_of_ble_eq_true rfl⟩) (z_recv hK (hP 0 _ rfl) rfl) hP hK rfl hl.1 rfl (Nat.le_of_ble_eq_true rfl) dX4_costs_37 ⟨Nat.zero_le _, Nat.zero_le _⟩ ?_
        refine z_imul hx hb dX4_costs_40 ?_
        refine z_iadd hx hb dX4_costs_41 ?_
        refine z_top (b := cs (σ 6) (σ 1 k).toNat (NU σ k) (NL σ k) (j + 1)) (rfl) ?_
        refine lv_istore_n (lv' := [(2, .int (zi (cs (σ 6) (σ 1 k).toNat (NU σ k) (NL σ k) (j + 1)))), (3, .int (zi ((j : Int)))), (0, .ref (ad 0)), (1, .int (zi (zk)))]) hx hb dX4_costs_42 rfl hl (by decide) rfl (fun ls hl => ?_)
        refine z_iinc (b := ((j + 1 : Nat) : Int)) (lv' := [(3, .int (zi (((j + 1 : Nat) : Int)))), (2, .int (zi (cs (σ 6) (σ 1 k).toNat (NU σ k) (NL σ k) (j + 1)))), (0, .ref (ad 0)), (1, .int (zi (zk)))]) hx hb dX4_costs_43 hl (k := 1) rfl (by omega) (by decide) rfl (fun ls hl => ?_)
        refine lv_goto (tgt := 4) hx hb dX4_costs_46 (by decide) ?_
        exact ih (j + 1) (by omega) (by omega) ls (lv_sub hl [0, 1, 2, 3] rfl)
  exact loop _ 0 (by omega) rfl ls (lv_sub hl [0, 1, 2, 3] rfl)

set_option maxHeartbeats 4000000 in
set_option maxRecDepth 100000 in
theorem c_X4_markOf (l : Launch) (g : gG) (ad : Nat → Nat) (σ : SG) (th : Int) (hW : WF σ) (k : Nat) (hk : (k : Int) < σ 0 0) (zk : Int) (hzk : zk = (k : Int)) : RO l yX4_markOf wsX4_markOf ({ frames := 4, cells := 0, slots := 0, locals := 93 }) g [.ref (ad 0), .int (zi (zk))] (MP g ad σ th) (MK σ k) := by
  refine RO.ofW (cc := cX4_markOf) (maxL := 2) (ret := (some .int)) (by decide) rfl (Nat.le_of_ble_eq_true rfl) ?_
  intro p e s m below meth c ls hx hb hr hml hown hts hlk hP hK hl
  have hown : s.vm.findClass RX4 = some m.cls := hown
  have hl : lv_has ls 2 [(0, .ref (ad 0)), (1, .int (zi (zk)))] := hl
  have hn := hW.n
  have hc := CS_r hW hk
  refine lv_aload_n hx hb dX4_markOf_0 rfl (lv_at hl 0 rfl) ?_
  refine lv_iload_n hx hb dX4_markOf_1 rfl (lv_at hl 1 rfl) ?_
  refine ro_V (rest := []) (As := [.int (zi (zk))]) ⟨hx, hb, hml, hown, hts⟩ (c_X4_costs l g ad σ th hW k hk (zk) (by omega)) (cwV 1 hts gX4_markOf_X4_costs rfl rfl rfl (by decide +kernel) ⟨Nat.le_of_ble_eq_true rfl, Nat.le_of_ble_eq_true rfl⟩) (z_recv hK (hP 0 _ rfl) rfl) hP hK rfl hl.1 rfl (Nat.le_of_ble_eq_true rfl) dX4_markOf_2 ⟨Nat.zero_le _, Nat.zero_le _⟩ ?_
  refine z_bipush hx hb dX4_markOf_5 (by decide) ?_
  refine z_icmp_le (tgt := 14) hx hb dX4_markOf_7 (by decide) (by omega) (by omega) (fun h7 => ?_) (fun h7 => ?_)
  ·
    refine z_bipush hx hb dX4_markOf_14 (by decide) ?_
    refine lv_aload_n hx hb dX4_markOf_16 rfl (lv_at hl 0 rfl) ?_
    refine lv_iload_n hx hb dX4_markOf_17 rfl (lv_at hl 1 rfl) ?_
    refine ro_V (rest := [.int (zi (100))]) (As := [.int (zi (zk))]) ⟨hx, hb, hml, hown, hts⟩ (c_X4_costs l g ad σ th hW k hk (zk) (by omega)) (cwV 1 hts gX4_markOf_X4_costs rfl rfl rfl (by decide +kernel) ⟨Nat.le_of_ble_eq_true rfl, Nat.le_of_ble_eq_true rfl⟩) (z_recv hK (hP 0 _ rfl) rfl) hP hK rfl hl.1 rfl (Nat.le_of_ble_eq_true rfl) dX4_markOf_18 ⟨Nat.zero_le _, Nat.zero_le _⟩ ?_
    refine z_isub hx hb dX4_markOf_21 ?_
    exact z_iret hx hb hr hlk dX4_markOf_22 (by unfold MK; split <;> omega)
  ·
    refine z_iconst hx hb dX4_markOf_10 ?_
    refine lv_goto (tgt := 22) hx hb dX4_markOf_11 (by decide) ?_
    exact z_iret hx hb hr hlk dX4_markOf_22 (by unfold MK; split <;> omega)

set_option maxHeartbeats 4000000 in
set_option maxRecDepth 100000 in
theorem c_X4_areAlike (l : Launch) (g : gG) (ad : Nat → Nat) (σ : SG) (th : Int) (hW : WF σ) (i : Nat) (hi : (i : Int) < σ 0 0) (zi1 : Int) (hzi : zi1 = (i : Int)) (j : Nat) (hj : (j : Int) < σ 0 0) (zj : Int) (hzj : zj = (j : Int)) (b : Nat) (hb12 : b < 12) (zb : Int) (hzb : zb = (b : Int)) : RO l yX4_areAlike wsX4_areAlike ({ frames := 1, cells := 0, slots := 0, locals := 22 }) g [.ref (ad 0), .int (zi (zi1)), .int (zi (zj)), .int (zi (zb))] (MP g ad σ th) (pz (Al σ i j b)) := by
  refine RO.ofW (cc := cX4_areAlike) (maxL := 4) (ret := (some .boolean)) (by decide) rfl (Nat.le_of_ble_eq_true rfl) ?_
  intro p e s m below meth c ls hx hb hr hml hown hts hlk hP hK hl
  have hown : s.vm.findClass RX4 = some m.cls := hown
  have hl : lv_has ls 4 [(0, .ref (ad 0)), (1, .int (zi (zi1))), (2, .int (zi (zj))), (3, .int (zi (zb)))] := hl
  have hiX4 : ∀ w ∈ u_ws RX4 TX4 14, w ∈ wsX4_areAlike := by decide +kernel
  have hn := hW.n
  have h1 := hW.u i b
  have h2 := hW.lo i b
  have h3 := hW.u j b
  have h4 := hW.lo j b
  refine lv_aload_n hx hb dX4_areAlike_0 rfl (lv_at hl 0 rfl) ?_
  refine z_get (C := RX4) (T := TX4) (N := 14) hx hb hts hiX4 hown hK (hP 0 _ rfl) rfl 5 (by decide) (hts (.fieldLink RX4 23 "HarmoniumDeskModel" "notes" "[I") (by decide +kernel)) rfl rfl dX4_areAlike_1 ?_
  refine lv_iload_n hx hb dX4_areAlike_4 rfl (lv_at hl 1 rfl) ?_
  refine z_iconst hx hb dX4_areAlike_5 ?_
  refine lv_iload_n hx hb dX4_areAlike_6 rfl (lv_at hl 3 rfl) ?_
  refine ro_S (rest := [.ref (ad 5)]) (As := [.int (zi (zi1)), .int (zi (0)), .int (zi (zb))]) ⟨hx, hb, hml, hown, hts⟩ (c_X4_at l g (zi1) (0) (zb)) (cwS 3 hts gX4_areAlike_X4_at rfl rfl rfl (by decide +kernel) ⟨Nat.le_of_ble_eq_true rfl, Nat.le_of_ble_eq_true rfl⟩) trivial hK rfl hl.1 rfl (Nat.le_of_ble_eq_true rfl) dX4_areAlike_7 ⟨Nat.zero_le _, Nat.zero_le _⟩ ?_
  refine z_iald hx hb hK (hP 5 _ rfl) (24 * i + b) (by omega) (by omega) (by decide) dX4_areAlike_10 ?_
  refine z_top (b := NU σ i b) (rfl) ?_
  refine lv_aload_n hx hb dX4_areAlike_11 rfl (lv_at hl 0 rfl) ?_
  refine z_get (C := RX4) (T := TX4) (N := 14) hx hb hts hiX4 hown hK (hP 0 _ rfl) rfl 5 (by decide) (hts (.fieldLink RX4 23 "HarmoniumDeskModel" "notes" "[I") (by decide +kernel)) rfl rfl dX4_areAlike_12 ?_
  refine lv_iload_n hx hb dX4_areAlike_15 rfl (lv_at hl 2 rfl) ?_
  refine z_iconst hx hb dX4_areAlike_16 ?_
  refine lv_iload_n hx hb dX4_areAlike_17 rfl (lv_at hl 3 rfl) ?_
  refine ro_S (rest := [.ref (ad 5), .int (zi (NU σ i b))]) (As := [.int (zi (zj)), .int (zi (0)), .int (zi (zb))]) ⟨hx, hb, hml, hown, hts⟩ (c_X4_at l g (zj) (0) (zb)) (cwS 3 hts gX4_areAlike_X4_at rfl rfl rfl (by decide +kernel) ⟨Nat.le_of_ble_eq_true rfl, Nat.le_of_ble_eq_true rfl⟩) trivial hK rfl hl.1 rfl (Nat.le_of_ble_eq_true rfl) dX4_areAlike_18 ⟨Nat.zero_le _, Nat.zero_le _⟩ ?_
  refine z_iald hx hb hK (hP 5 _ rfl) (24 * j + b) (by omega) (by omega) (by decide) dX4_areAlike_21 ?_
  refine z_top (b := NU σ j b) (rfl) ?_
  refine z_icmp_ne (tgt := 54) hx hb dX4_areAlike_22 (by decide) (by omega) (by omega) (fun h22 => ?_) (fun h22 => ?_)
  ·
    refine z_iconst hx hb dX4_areAlike_54 ?_
    exact z_zret hx hb hr hlk dX4_areAlike_55 (by omega) ((pz_f (by simp only [Al]; omega)).symm)
  ·
    refine lv_aload_n hx hb dX4_areAlike_25 rfl (lv_at hl 0 rfl) ?_
    refine z_get (C := RX4) (T := TX4) (N := 14) hx hb hts hiX4 hown hK (hP 0 _ rfl) rfl 5 (by decide) (hts (.fieldLink RX4 23 "HarmoniumDeskModel" "notes" "[I") (by decide +kernel)) rfl rfl dX4_areAlike_26 ?_
    refine lv_iload_n hx hb dX4_areAlike_29 rfl (lv_at hl 1 rfl) ?_
    refine z_iconst hx hb dX4_areAlike_30 ?_
    refine lv_iload_n hx hb dX4_areAlike_31 rfl (lv_at hl 3 rfl) ?_
    refine ro_S (rest := [.ref (ad 5)]) (As := [.int (zi (zi1)), .int (zi (1)), .int (zi (zb))]) ⟨hx, hb, hml, hown, hts⟩ (c_X4_at l g (zi1) (1) (zb)) (cwS 3 hts gX4_areAlike_X4_at rfl rfl rfl (by decide +kernel) ⟨Nat.le_of_ble_eq_true rfl, Nat.le_of_ble_eq_true rfl⟩) trivial hK rfl hl.1 rfl (Nat.le_of_ble_eq_true rfl) dX4_areAlike_32 ⟨Nat.zero_le _, Nat.zero_le _⟩ ?_
    refine z_iald hx hb hK (hP 5 _ rfl) (24 * i + 12 + b) (by omega) (by omega) (by decide) dX4_areAlike_35 ?_
    refine z_top (b := NL σ i b) (rfl) ?_
    refine lv_aload_n hx hb dX4_areAlike_36 rfl (lv_at hl 0 rfl) ?_
    refine z_get (C := RX4) (T := TX4) (N := 14) hx hb hts hiX4 hown hK (hP 0 _ rfl) rfl 5 (by decide) (hts (.fieldLink RX4 23 "HarmoniumDeskModel" "notes" "[I") (by decide +kernel)) rfl rfl dX4_areAlike_37 ?_
    refine lv_iload_n hx hb dX4_areAlike_40 rfl (lv_at hl 2 rfl) ?_
    refine z_iconst hx hb dX4_areAlike_41 ?_
    refine lv_iload_n hx hb dX4_areAlike_42 rfl (lv_at hl 3 rfl) ?_
    refine ro_S (rest := [.ref (ad 5), .int (zi (NL σ i b))]) (As := [.int (zi (zj)), .int (zi (1)), .int (zi (zb))]) ⟨hx, hb, hml, hown, hts⟩ (c_X4_at l g (zj) (1) (zb)) (cwS 3 hts gX4_areAlike_X4_at rfl rfl rfl (by decide +kernel) ⟨Nat.le_of_ble_eq_true rfl, Nat.le_of_ble_eq_true rfl⟩) trivial hK rfl hl.1 rfl (Nat.le_of_ble_eq_true rfl) dX4_areAlike_43 ⟨Nat.zero_le _, Nat.zero_le _⟩ ?_
    refine z_iald hx hb hK (hP 5 _ rfl) (24 * j + 12 + b) (by omega) (by omega) (by decide) dX4_areAlike_46 ?_
    refine z_top (b := NL σ j b) (rfl) ?_
    refine z_icmp_ne (tgt := 54) hx hb dX4_areAlike_47 (by decide) (by omega) (by omega) (fun h47 => ?_) (fun h47 => ?_)
    ·
      refine z_iconst hx hb dX4_areAlike_54 ?_
      exact z_zret hx hb hr hlk dX4_areAlike_55 (by omega) ((pz_f (by simp only [Al]; omega)).symm)
    ·
      refine z_iconst hx hb dX4_areAlike_50 ?_
      refine lv_goto (tgt := 55) hx hb dX4_areAlike_51 (by decide) ?_
      exact z_zret hx hb hr hlk dX4_areAlike_55 (by omega) ((pz_t (by simp only [Al]; omega)).symm)

set_option maxHeartbeats 4000000 in
set_option maxRecDepth 100000 in
theorem c_X4_isAncestor (l : Launch) (g : gG) (ad : Nat → Nat) (σ : SG) (th : Int) (hW : WF σ) (x o : Int) (hx0 : zr x) (ho : -1 ≤ o ∧ o < σ 0 0) : RO l yX4_isAncestor wsX4_isAncestor ({ frames := 0, cells := 0, slots := 0, locals := 0 }) g [.ref (ad 0), .int (zi (x)), .int (zi (o))] (MP g ad σ th) (pz (An (σ 2) x o = true)) := by
  refine RO.ofW (cc := cX4_isAncestor) (maxL := 5) (ret := (some .boolean)) (by decide) rfl (Nat.le_of_ble_eq_true rfl) ?_
  intro p e s m below meth c ls hx hb hr hml hown hts hlk hP hK hl
  have hown : s.vm.findClass RX4 = some m.cls := hown
  have hl : lv_has ls 5 [(0, .ref (ad 0)), (1, .int (zi (x))), (2, .int (zi (o)))] := hl
  have hiX4 : ∀ w ∈ u_ws RX4 TX4 14, w ∈ wsX4_isAncestor := by decide +kernel
  have hn := hW.n
  refine z_iconst hx hb dX4_isAncestor_0 ?_
  refine z_top (b := pz (false = true)) (rfl) ?_
  refine lv_istore_n (lv' := [(3, .int (zi (pz (false = true)))), (0, .ref (ad 0)), (1, .int (zi (x))), (2, .int (zi (o)))]) hx hb dX4_isAncestor_1 rfl hl (by decide) rfl (fun ls hl => ?_)
  refine lv_iload_n hx hb dX4_isAncestor_2 rfl (lv_at hl 3 rfl) ?_
  refine lv_istore (lv' := [(4, .int (zi (o))), (3, .int (zi (pz (false = true)))), (0, .ref (ad 0)), (1, .int (zi (x))), (2, .int (zi (o)))]) hx hb dX4_isAncestor_3 hl (by decide) rfl (fun ls hl => ?_)
  have hp : ∀ j : Nat, (j : Int) < σ 0 0 → σ 2 j < j := fun j hj => by have := hW.par hj; omega
  have loop : ∀ (d : Nat) (k : Int) (B : Bool), -1 ≤ k → k < d → k < σ 0 0 → (B || An (σ 2) x k) = An (σ 2) x o → ∀ ls : Array Slot, lv_has ls 5 [(4, .int (zi (k))), (3, .int (zi (pz (B = true)))), (0, .ref (ad 0)), (1, .int (zi (x))), (2, .int (zi (o)))] → W p l e ({ frames := 0, cells := 0, slots := 0, locals := 0 }) s m ([.ref (ad 0), .int (zi (x)), .int (zi (o))] : List Value).toArray below meth c s.heap [] 0 0 (MQ below (vp_Si (fun z9 => z9 = zi (pz (An (σ 2) x o = true)))) ([.ref (ad 0), .int (zi (x)), .int (zi (o))] : List Value).toArray s 0 0 (fun _ => False)) (F0 m 5 ls []) := by
    intro d
    induction d with
    | zero =>
      intro k B h1 h2 h3 hB ls hl
      refine lv_iload hx hb dX4_isAncestor_5 (lv_at hl 0 rfl) ?_
      refine z_iconst hx hb dX4_isAncestor_7 ?_
      refine z_icmp_eq (tgt := 39) hx hb dX4_isAncestor_8 (by decide) (by omega) (by omega) (fun h8 => ?_) (fun h8 => ?_)
      ·
        refine lv_iload_n hx hb dX4_isAncestor_39 rfl (lv_at hl 1 rfl) ?_
        exact z_zret hx hb hr hlk dX4_isAncestor_40 ((by have := pz_b (B = true); omega)) (by have e : An (σ 2) x k = false := An_neg _ _ (by omega); rw [← hB, e, Bool.or_false])
      · exfalso; omega
    | succ d ih =>
      intro k B h1 h2 h3 hB ls hl
      refine lv_iload hx hb dX4_isAncestor_5 (lv_at hl 0 rfl) ?_
      refine z_iconst hx hb dX4_isAncestor_7 ?_
      refine z_icmp_eq (tgt := 39) hx hb dX4_isAncestor_8 (by decide) (by omega) (by omega) (fun h8 => ?_) (fun h8 => ?_)
      ·
        refine lv_iload_n hx hb dX4_isAncestor_39 rfl (lv_at hl 1 rfl) ?_
        exact z_zret hx hb hr hlk dX4_isAncestor_40 ((by have := pz_b (B = true); omega)) (by have e : An (σ 2) x k = false := An_neg _ _ (by omega); rw [← hB, e, Bool.or_false])
      ·
        obtain ⟨j, hj⟩ : ∃ j : Nat, k = (j : Int) := ⟨k.toNat, by omega⟩
        subst hj
        have hpj := hW.par (k := j) (by omega)
        have hA := An_s (σ 2) x hp (k := j) (by omega)
        have J26 : ∀ ls : Array Slot, lv_has ls 5 [(4, .int (zi ((j : Int)))), (3, .int (zi (pz (B = true)))), (0, .ref (ad 0)), (1, .int (zi (x))), (2, .int (zi (o)))] → W p l e ({ frames := 0, cells := 0, slots := 0, locals := 0 }) s m ([.ref (ad 0), .int (zi (x)), .int (zi (o))] : List Value).toArray below meth c s.heap [] 0 0 (MQ below (vp_Si (fun z9 => z9 = zi (pz (An (σ 2) x o = true)))) ([.ref (ad 0), .int (zi (x)), .int (zi (o))] : List Value).toArray s 0 0 (fun _ => False)) (F0 m 26 ls [.int (zi (pz ((B || decide ((j : Int) = x)) = true)))]) := by
          intro ls hl
          refine lv_istore_n (lv' := [(3, .int (zi (pz ((B || decide ((j : Int) = x)) = true)))), (4, .int (zi ((j : Int)))), (0, .ref (ad 0)), (1, .int (zi (x))), (2, .int (zi (o)))]) hx hb dX4_isAncestor_26 rfl hl (by decide) rfl (fun ls hl => ?_)
          refine lv_aload_n hx hb dX4_isAncestor_27 rfl (lv_at hl 2 rfl) ?_
          refine z_get (C := RX4) (T := TX4) (N := 14) hx hb hts hiX4 hown hK (hP 0 _ rfl) rfl 2 (by decide) (hts (.fieldLink RX4 13 "HarmoniumDeskModel" "parent" "[I") (by decide +kernel)) rfl rfl dX4_isAncestor_28 ?_
          refine lv_iload hx hb dX4_isAncestor_31 (lv_at hl 1 rfl) ?_
          refine z_iald hx hb hK (hP 2 _ rfl) (j) (by omega) (by omega) (by decide) dX4_isAncestor_33 ?_
          refine lv_istore (lv' := [(4, .int (zi (σ 2 (j)))), (3, .int (zi (pz ((B || decide ((j : Int) = x)) = true)))), (0, .ref (ad 0)), (1, .int (zi (x))), (2, .int (zi (o)))]) hx hb dX4_isAncestor_34 hl (by decide) rfl (fun ls hl => ?_)
          refine lv_goto (tgt := 5) hx hb dX4_isAncestor_36 (by decide) ?_
          exact ih (σ 2 j) (B || decide ((j : Int) = x)) (by omega) (by omega) (by omega) (by rw [← hB, hA, Bool.or_assoc]) ls (lv_sub hl [0, 1, 2, 3, 4] rfl)
        refine lv_iload_n hx hb dX4_isAncestor_11 rfl (lv_at hl 1 rfl) ?_
        refine z_ifp_ne (P := B = true) (tgt := 21) hx hb dX4_isAncestor_12 (by decide)  (fun h12 => ?_) (fun h12 => ?_)
        ·
          refine z_iconst hx hb dX4_isAncestor_21 ?_
          refine lv_goto (tgt := 26) hx hb dX4_isAncestor_22 (by decide) ?_
          refine z_top (b := pz ((B || decide ((j : Int) = x)) = true)) ((pz_t (by simp [*])).symm) ?_
          exact J26 ls (lv_sub hl [0, 1, 2, 3, 4] rfl)
        ·
          refine lv_iload hx hb dX4_isAncestor_15 (lv_at hl 0 rfl) ?_
          refine lv_iload_n hx hb dX4_isAncestor_17 rfl (lv_at hl 3 rfl) ?_
          refine z_icmp_ne (tgt := 25) hx hb dX4_isAncestor_18 (by decide) (by omega) (by omega) (fun h18 => ?_) (fun h18 => ?_)
          ·
            refine z_iconst hx hb dX4_isAncestor_25 ?_
            refine z_top (b := pz ((B || decide ((j : Int) = x)) = true)) ((pz_f (by simp [*])).symm) ?_
            exact J26 ls (lv_sub hl [0, 1, 2, 3, 4] rfl)
          ·
            refine z_iconst hx hb dX4_isAncestor_21 ?_
            refine lv_goto (tgt := 26) hx hb dX4_isAncestor_22 (by decide) ?_
            refine z_top (b := pz ((B || decide ((j : Int) = x)) = true)) ((pz_t (by simp [*])).symm) ?_
            exact J26 ls (lv_sub hl [0, 1, 2, 3, 4] rfl)
  exact loop (o.toNat + 1) o false (by omega) (by omega) (by omega) (by simp) ls (lv_sub hl [0, 1, 2, 3, 4] rfl)

set_option maxHeartbeats 4000000 in
set_option maxRecDepth 100000 in
theorem c_X4_baseOf (l : Launch) (g : gG) (ad : Nat → Nat) (σ : SG) (th : Int) (hW : WF σ) (one other : Int) (h1 : 0 ≤ one ∧ one < σ 0 0) (h2 : 0 ≤ other ∧ other < σ 0 0) : RO l yX4_baseOf wsX4_baseOf ({ frames := 1, cells := 0, slots := 0, locals := 24 }) g [.ref (ad 0), .int (zi (one)), .int (zi (other))] (MP g ad σ th) (bs (σ 2) one other (σ 0 0).toNat) := by
  refine RO.ofW (cc := cX4_baseOf) (maxL := 5) (ret := (some .int)) (by decide) rfl (Nat.le_of_ble_eq_true rfl) ?_
  intro p e s m below meth c ls hx hb hr hml hown hts hlk hP hK hl
  have hown : s.vm.findClass RX4 = some m.cls := hown
  have hl : lv_has ls 5 [(0, .ref (ad 0)), (1, .int (zi (one))), (2, .int (zi (other)))] := hl
  have hiX4 : ∀ w ∈ u_ws RX4 TX4 14, w ∈ wsX4_baseOf := by decide +kernel
  have hn := hW.n
  refine z_iconst hx hb dX4_baseOf_0 ?_
  refine lv_istore_n (lv' := [(3, .int (zi ((-1)))), (0, .ref (ad 0)), (1, .int (zi (one))), (2, .int (zi (other)))]) hx hb dX4_baseOf_1 rfl hl (by decide) rfl (fun ls hl => ?_)
  refine z_iconst hx hb dX4_baseOf_2 ?_
  refine lv_istore (lv' := [(4, .int (zi (0))), (3, .int (zi ((-1)))), (0, .ref (ad 0)), (1, .int (zi (one))), (2, .int (zi (other)))]) hx hb dX4_baseOf_3 hl (by decide) rfl (fun ls hl => ?_)
  have hbs := bs_r (σ 2) one other
  have loop : ∀ (d k : Nat), (k : Int) ≤ σ 0 0 → (σ 0 0).toNat - k = d → ∀ ls : Array Slot, lv_has ls 5 [(4, .int (zi ((k : Int)))), (3, .int (zi (bs (σ 2) one other k))), (0, .ref (ad 0)), (1, .int (zi (one))), (2, .int (zi (other)))] → W p l e ({ frames := 1, cells := 0, slots := 0, locals := 24 }) s m ([.ref (ad 0), .int (zi (one)), .int (zi (other))] : List Value).toArray below meth c s.heap [] 0 0 (MQ below (vp_Si (fun z9 => z9 = zi (bs (σ 2) one other (σ 0 0).toNat))) ([.ref (ad 0), .int (zi (one)), .int (zi (other))] : List Value).toArray s 0 0 (fun _ => False)) (F0 m 5 ls []) := by
    intro d
    induction d with
    | zero =>
      intro k hkn hd ls hl
      refine lv_iload hx hb dX4_baseOf_5 (lv_at hl 0 rfl) ?_
      refine lv_aload_n hx hb dX4_baseOf_7 rfl (lv_at hl 2 rfl) ?_
      refine z_get (C := RX4) (T := TX4) (N := 14) hx hb hts hiX4 hown hK (hP 0 _ rfl) rfl 0 (by decide) (hts (.fieldLink RX4 48 "HarmoniumDeskModel" "versions" "I") (by decide +kernel)) rfl rfl dX4_baseOf_8 ?_
      refine z_icmp_ge (tgt := 47) hx hb dX4_baseOf_11 (by decide) (by omega) (by omega) (fun h11 => ?_) (fun h11 => ?_)
      ·
        refine lv_iload_n hx hb dX4_baseOf_47 rfl (lv_at hl 1 rfl) ?_
        exact z_iret hx hb hr hlk dX4_baseOf_48 (by rw [show k = (σ 0 0).toNat by omega])
      · exfalso; omega
    | succ d ih =>
      intro k hkn hd ls hl
      have hb1 := hbs k
      refine lv_iload hx hb dX4_baseOf_5 (lv_at hl 0 rfl) ?_
      refine lv_aload_n hx hb dX4_baseOf_7 rfl (lv_at hl 2 rfl) ?_
      refine z_get (C := RX4) (T := TX4) (N := 14) hx hb hts hiX4 hown hK (hP 0 _ rfl) rfl 0 (by decide) (hts (.fieldLink RX4 48 "HarmoniumDeskModel" "versions" "I") (by decide +kernel)) rfl rfl dX4_baseOf_8 ?_
      refine z_icmp_ge (tgt := 47) hx hb dX4_baseOf_11 (by decide) (by omega) (by omega) (fun h11 => ?_) (fun h11 => ?_)
      · exfalso; omega
      ·
        have J40 : ∀ ls : Array Slot, lv_has ls 5 [(4, .int (zi ((k : Int)))), (3, .int (zi (bs (σ 2) one other k))), (0, .ref (ad 0)), (1, .int (zi (one))), (2, .int (zi (other)))] → W p l e ({ frames := 1, cells := 0, slots := 0, locals := 24 }) s m ([.ref (ad 0), .int (zi (one)), .int (zi (other))] : List Value).toArray below meth c s.heap [] 0 0 (MQ below (vp_Si (fun z9 => z9 = zi (bs (σ 2) one other (σ 0 0).toNat))) ([.ref (ad 0), .int (zi (one)), .int (zi (other))] : List Value).toArray s 0 0 (fun _ => False)) (F0 m 40 ls [.int (zi (bs (σ 2) one other (k + 1)))]) := by
          intro ls hl
          refine lv_istore_n (lv' := [(3, .int (zi (bs (σ 2) one other (k + 1)))), (4, .int (zi ((k : Int)))), (0, .ref (ad 0)), (1, .int (zi (one))), (2, .int (zi (other)))]) hx hb dX4_baseOf_40 rfl hl (by decide) rfl (fun ls hl => ?_)
          refine z_iinc (b := ((k + 1 : Nat) : Int)) (lv' := [(4, .int (zi (((k + 1 : Nat) : Int)))), (3, .int (zi (bs (σ 2) one other (k + 1)))), (0, .ref (ad 0)), (1, .int (zi (one))), (2, .int (zi (other)))]) hx hb dX4_baseOf_41 hl (k := 1) rfl (by omega) (by decide) rfl (fun ls hl => ?_)
          refine lv_goto (tgt := 5) hx hb dX4_baseOf_44 (by decide) ?_
          exact ih (k + 1) (by omega) (by omega) ls (lv_sub hl [0, 1, 2, 3, 4] rfl)
        refine lv_aload_n hx hb dX4_baseOf_14 rfl (lv_at hl 2 rfl) ?_
        refine lv_iload hx hb dX4_baseOf_15 (lv_at hl 0 rfl) ?_
        refine lv_iload_n hx hb dX4_baseOf_17 rfl (lv_at hl 3 rfl) ?_
        refine ro_V (rest := []) (As := [.int (zi ((k : Int))), .int (zi (one))]) ⟨hx, hb, hml, hown, hts⟩ (c_X4_isAncestor l g ad σ th hW ((k : Int)) (one) (by omega) (by omega)) (cwV 2 hts gX4_baseOf_X4_isAncestor rfl rfl rfl (by decide +kernel) ⟨Nat.le_of_ble_eq_true rfl, Nat.le_of_ble_eq_true rfl⟩) (z_recv hK (hP 0 _ rfl) rfl) hP hK rfl hl.1 rfl (Nat.le_of_ble_eq_true rfl) dX4_baseOf_18 ⟨Nat.zero_le _, Nat.zero_le _⟩ ?_
        refine z_ifp_eq (P := An (σ 2) ((k : Int)) (one) = true) (tgt := 39) hx hb dX4_baseOf_21 (by decide)  (fun h21 => ?_) (fun h21 => ?_)
        ·
          refine lv_iload_n hx hb dX4_baseOf_39 rfl (lv_at hl 1 rfl) ?_
          refine z_top (b := bs (σ 2) one other (k + 1)) (((bs_s _ _ _ _).trans (if_neg (fun hh => by first | exact absurd hh.1 (by assumption) | exact absurd hh.2 (by assumption)))).symm) ?_
          exact J40 ls (lv_sub hl [0, 1, 2, 3, 4] rfl)
        ·
          refine lv_aload_n hx hb dX4_baseOf_24 rfl (lv_at hl 2 rfl) ?_
          refine lv_iload hx hb dX4_baseOf_25 (lv_at hl 0 rfl) ?_
          refine lv_iload_n hx hb dX4_baseOf_27 rfl (lv_at hl 4 rfl) ?_
          refine ro_V (rest := []) (As := [.int (zi ((k : Int))), .int (zi (other))]) ⟨hx, hb, hml, hown, hts⟩ (c_X4_isAncestor l g ad σ th hW ((k : Int)) (other) (by omega) (by omega)) (cwV 2 hts gX4_baseOf_X4_isAncestor rfl rfl rfl (by decide +kernel) ⟨Nat.le_of_ble_eq_true rfl, Nat.le_of_ble_eq_true rfl⟩) (z_recv hK (hP 0 _ rfl) rfl) hP hK rfl hl.1 rfl (Nat.le_of_ble_eq_true rfl) dX4_baseOf_28 ⟨Nat.zero_le _, Nat.zero_le _⟩ ?_
          refine z_ifp_eq (P := An (σ 2) ((k : Int)) (other) = true) (tgt := 39) hx hb dX4_baseOf_31 (by decide)  (fun h31 => ?_) (fun h31 => ?_)
          ·
            refine lv_iload_n hx hb dX4_baseOf_39 rfl (lv_at hl 1 rfl) ?_
            refine z_top (b := bs (σ 2) one other (k + 1)) (((bs_s _ _ _ _).trans (if_neg (fun hh => by first | exact absurd hh.1 (by assumption) | exact absurd hh.2 (by assumption)))).symm) ?_
            exact J40 ls (lv_sub hl [0, 1, 2, 3, 4] rfl)
          ·
            refine lv_iload hx hb dX4_baseOf_34 (lv_at hl 0 rfl) ?_
            refine lv_goto (tgt := 40) hx hb dX4_baseOf_36 (by decide) ?_
            refine z_top (b := bs (σ 2) one other (k + 1)) (((bs_s _ _ _ _).trans (if_pos ⟨by assumption, by assumption⟩)).symm) ?_
            exact J40 ls (lv_sub hl [0, 1, 2, 3, 4] rfl)
  exact loop _ 0 (by omega) rfl ls (lv_sub hl [0, 1, 2, 3, 4] rfl)
end
section
/-! ===== rows that write the reference's cells ===== -/
def sfl (σ : SG) (f a m : Nat) (h : Nat → Int) : SG := fun f' => if f' = f then (fun j => if a ≤ j ∧ j < a + m then h j else σ f j) else σ f'
theorem sfl_0 (σ : SG) (f a : Nat) (h : Nat → Int) : sfl σ f a 0 h = σ := by
  funext f' j
  unfold sfl
  split
  · rename_i e
    subst e
    show (if a ≤ j ∧ j < a + 0 then h j else σ f' j) = σ f' j
    rw [if_neg (by omega)]
  · rfl
theorem sfl_s (σ : SG) (f a k i : Nat) (h : Nat → Int) (x : Int) (hi : i = a + k) (hx : x = h i) : sup (sfl σ f a k h) f i x = sfl σ f a (k + 1) h := by
  subst hi; subst hx
  funext f' j
  unfold sup
  split
  · rename_i e
    subst e
    unfold va_up sfl
    rw [if_pos rfl, if_pos rfl]
    by_cases h1 : j = a + k
    · subst h1
      rw [if_pos rfl, if_pos (by omega)]
    · rw [if_neg h1]
      by_cases h2 : a ≤ j ∧ j < a + k
      · rw [if_pos h2, if_pos (by omega)]
      · rw [if_neg h2, if_neg (by omega)]
  · rename_i e
    unfold sfl
    rw [if_neg e, if_neg e]
theorem sfl_out (σ : SG) (f a m : Nat) (h : Nat → Int) {j : Nat} (hj : j < a ∨ a + m ≤ j) : sfl σ f a m h f j = σ f j := by
  unfold sfl
  rw [if_pos rfl, if_neg (by omega)]
theorem sfl_in (σ : SG) (f a m : Nat) (h : Nat → Int) {j : Nat} (hj : a ≤ j ∧ j < a + m) : sfl σ f a m h f j = h j := by
  unfold sfl
  rw [if_pos rfl, if_pos hj]
theorem sfl_ne (σ : SG) {f f' : Nat} (a m : Nat) (h : Nat → Int) (hf : f' ≠ f) : sfl σ f a m h f' = σ f' := if_neg hf
theorem ms0 (g : gG) (ad : Nat → Nat) (σ : SG) (th x : Int) : (MWs g ad σ th).set 0 (ad 0, .inr (4, ([.int (zi (σ 0 0)), .ref (ad 1), .ref (ad 2), .ref (ad 3), .ref (ad 4), .ref (ad 5), .ref (ad 6), .int (zi (σ 7 0)), .int (zi (σ 8 0)), .ref (ad 7), .ref (ad 8), .ref (ad 9), .ref (ad 10), .int (zi th)] : List Value).set 0 (.int (zi x)))) = MWs g ad (sup σ 0 0 x) th := rfl
theorem ms7 (g : gG) (ad : Nat → Nat) (σ : SG) (th x : Int) : (MWs g ad σ th).set 0 (ad 0, .inr (4, ([.int (zi (σ 0 0)), .ref (ad 1), .ref (ad 2), .ref (ad 3), .ref (ad 4), .ref (ad 5), .ref (ad 6), .int (zi (σ 7 0)), .int (zi (σ 8 0)), .ref (ad 7), .ref (ad 8), .ref (ad 9), .ref (ad 10), .int (zi th)] : List Value).set 7 (.int (zi x)))) = MWs g ad (sup σ 7 0 x) th := rfl
theorem ms8 (g : gG) (ad : Nat → Nat) (σ : SG) (th x : Int) : (MWs g ad σ th).set 0 (ad 0, .inr (4, ([.int (zi (σ 0 0)), .ref (ad 1), .ref (ad 2), .ref (ad 3), .ref (ad 4), .ref (ad 5), .ref (ad 6), .int (zi (σ 7 0)), .int (zi (σ 8 0)), .ref (ad 7), .ref (ad 8), .ref (ad 9), .ref (ad 10), .int (zi th)] : List Value).set 8 (.int (zi x)))) = MWs g ad (sup σ 8 0 x) th := rfl
theorem ms13 (g : gG) (ad : Nat → Nat) (σ : SG) (th x : Int) : (MWs g ad σ th).set 0 (ad 0, .inr (4, ([.int (zi (σ 0 0)), .ref (ad 1), .ref (ad 2), .ref (ad 3), .ref (ad 4), .ref (ad 5), .ref (ad 6), .int (zi (σ 7 0)), .int (zi (σ 8 0)), .ref (ad 7), .ref (ad 8), .ref (ad 9), .ref (ad 10), .int (zi th)] : List Value).set 13 (.int (zi x)))) = MWs g ad σ x := rfl
theorem msa1 (g : gG) (ad : Nat → Nat) (σ : SG) (th : Int) (i : Nat) (x : Int) : (MWs g ad σ th).set 1 (ad 1, .inl (g.2.1, 30, .inl (fun j => zi (va_up (σ 1) i x j)))) = MWs g ad (sup σ 1 i x) th := rfl
theorem msa2 (g : gG) (ad : Nat → Nat) (σ : SG) (th : Int) (i : Nat) (x : Int) : (MWs g ad σ th).set 2 (ad 2, .inl (g.2.1, 30, .inl (fun j => zi (va_up (σ 2) i x j)))) = MWs g ad (sup σ 2 i x) th := rfl
theorem msa3 (g : gG) (ad : Nat → Nat) (σ : SG) (th : Int) (i : Nat) (x : Int) : (MWs g ad σ th).set 3 (ad 3, .inl (g.2.2.1, 30, .inl (fun j => zi (va_up (σ 3) i x j)))) = MWs g ad (sup σ 3 i x) th := rfl
theorem msa4 (g : gG) (ad : Nat → Nat) (σ : SG) (th : Int) (i : Nat) (x : Int) : (MWs g ad σ th).set 4 (ad 4, .inl (g.2.2.1, 30, .inl (fun j => zi (va_up (σ 4) i x j)))) = MWs g ad (sup σ 4 i x) th := rfl
theorem msa5 (g : gG) (ad : Nat → Nat) (σ : SG) (th : Int) (i : Nat) (x : Int) : (MWs g ad σ th).set 5 (ad 5, .inl (g.2.1, 720, .inl (fun j => zi (va_up (σ 5) i x j)))) = MWs g ad (sup σ 5 i x) th := rfl
theorem msa6 (g : gG) (ad : Nat → Nat) (σ : SG) (th : Int) (i : Nat) (x : Int) : (MWs g ad σ th).set 6 (ad 6, .inl (g.2.1, 6, .inl (fun j => zi (va_up (σ 6) i x j)))) = MWs g ad (sup σ 6 i x) th := rfl
theorem msa7 (g : gG) (ad : Nat → Nat) (σ : SG) (th : Int) (i : Nat) (x : Int) : (MWs g ad σ th).set 7 (ad 7, .inl (g.2.1, 20, .inl (fun j => zi (va_up (σ 9) i x j)))) = MWs g ad (sup σ 9 i x) th := rfl
theorem msa8 (g : gG) (ad : Nat → Nat) (σ : SG) (th : Int) (i : Nat) (x : Int) : (MWs g ad σ th).set 8 (ad 8, .inl (g.2.1, 20, .inl (fun j => zi (va_up (σ 10) i x j)))) = MWs g ad (sup σ 10 i x) th := rfl
theorem msa9 (g : gG) (ad : Nat → Nat) (σ : SG) (th : Int) (i : Nat) (x : Int) : (MWs g ad σ th).set 9 (ad 9, .inl (g.2.1, 240, .inl (fun j => zi (va_up (σ 11) i x j)))) = MWs g ad (sup σ 11 i x) th := rfl
theorem msa10 (g : gG) (ad : Nat → Nat) (σ : SG) (th : Int) (i : Nat) (x : Int) : (MWs g ad σ th).set 10 (ad 10, .inl (g.2.1, 20, .inl (fun j => zi (va_up (σ 12) i x j)))) = MWs g ad (sup σ 12 i x) th := rfl
section ZMR
variable {p : Program} {l : Launch} {e : Env} {R : Room} {s : State} {m : MethodId} {args : Array Value} {below : List Frame} {meth : Method} {c : Code} {H : Heap} {locs : List Loc} {cells slots : Nat} {Q : State → Prop}
variable {cc : ByteArray} {pc : Nat} {ls : Array Slot} {rest : List Value}
theorem z_mput (hx : p.tables.exec = Jvm.exec) (hb : c.code = cc) {index : Nat} {Ts : List Cond} {g : gG} {ad : Nat → Nat} {σ σ0 σ' : SG} {th th0 th' x : Int} {sz : Nat} {H0 : Heap} (hd : Dst ad) (hts : ∀ w ∈ Ts, w.before args s = true) (hin : ∀ w ∈ u_ws RX4 TX4 14, w ∈ Ts) (hown : s.vm.findClass RX4 = some m.cls) (hK : KK g s) (hP : va_P g.1 vwCl (MWs g ad σ th) H) (hS : va_S (va_A (MWs g ad σ0 th0) sz) H0 H locs) (k : Nat) (hk : k < 14)
    (hlink : (Cond.fieldLink RX4 index RX4 (TX4 k).2.1 (TX4 k).2.2.1).before args s = true) (hsame : RX4 = (TX4 k).1) (hfin : (TX4 k).2.2.2 = false) (hty : tyX4 k = .int)
    (hset : (MWs g ad σ th).set 0 (ad 0, .inr (4, ([.int (zi (σ 0 0)), .ref (ad 1), .ref (ad 2), .ref (ad 3), .ref (ad 4), .ref (ad 5), .ref (ad 6), .int (zi (σ 7 0)), .int (zi (σ 8 0)), .ref (ad 7), .ref (ad 8), .ref (ad 9), .ref (ad 10), .int (zi th)] : List Value).set k (.int (zi x)))) = MWs g ad σ' th')
    (hdg : decode cc pc = .ok (.putfield index, 3))
    (kk : ∀ (H : Heap) (locs : List Loc), va_P g.1 vwCl (MWs g ad σ' th') H → va_S (va_A (MWs g ad σ0 th0) sz) H0 H locs → W p l e R s m args below meth c H locs cells slots Q (F0 m (pc + 3) ls rest)) : W p l e R s m args below meth c H locs cells slots Q (F0 m pc ls (.int (zi x) :: .ref (ad 0) :: rest)) := by
  refine z_put hx hb hts hin tyX4 tyX4_ok nmX4 hown hK hP (MW_D hd σ σ0 th th0 sz) hS 0 rfl rfl k hk hlink hsame (Or.inl hfin) (v := .int (zi x)) (by rw [hty]; rfl) (by rw [hty]; rfl) hk hdg (fun H1 l1 h1 _ h3 => ?_)
  rw [hset] at h1
  exact kk H1 l1 h1 h3
theorem z_mast (hx : p.tables.exec = Jvm.exec) (hb : c.code = cc) {g : gG} {ad : Nat → Nat} {σ σ0 σ' : SG} {th th0 x z : Int} {sz : Nat} {H0 : Heap} (hd : Dst ad) (hK : KK g s) (hP : va_P g.1 vwCl (MWs g ad σ th) H) (hS : va_S (va_A (MWs g ad σ0 th0) sz) H0 H locs) (pos f n : Nat) (ha : (MWs g ad σ th)[pos]? = some (ad pos, .inl (g.2.1, n, .inl (fun j => zi (σ f j))))) (i : Nat) (hset : (MWs g ad σ th).set pos (ad pos, .inl (g.2.1, n, .inl (fun j => zi (va_up (σ f) i x j)))) = MWs g ad σ' th) (hz : z = (i : Int)) (hi : i < n) (hn : n < 2147483648) (hdg : decode cc pc = .ok (.iastore, 1))
    (kk : ∀ (H : Heap) (locs : List Loc), va_P g.1 vwCl (MWs g ad σ' th) H → va_S (va_A (MWs g ad σ0 th0) sz) H0 H locs → W p l e R s m args below meth c H locs cells slots Q (F0 m (pc + 1) ls rest)) : W p l e R s m args below meth c H locs cells slots Q (F0 m pc ls (.int (zi x) :: .int (zi z) :: .ref (ad pos) :: rest)) := by
  refine z_iast hx hb hK hP (MW_D hd σ σ0 th th0 sz) hS pos ha i hz hi hn hdg (fun H1 l1 h1 _ h3 => ?_)
  rw [hset] at h1
  exact kk H1 l1 h1 h3
theorem z_mzast (hx : p.tables.exec = Jvm.exec) (hb : c.code = cc) {g : gG} {ad : Nat → Nat} {σ σ0 σ' : SG} {th th0 x z : Int} {sz : Nat} {H0 : Heap} (hd : Dst ad) (hK : KK g s) (hP : va_P g.1 vwCl (MWs g ad σ th) H) (hS : va_S (va_A (MWs g ad σ0 th0) sz) H0 H locs) (pos f n : Nat) (ha : (MWs g ad σ th)[pos]? = some (ad pos, .inl (g.2.2.1, n, .inl (fun j => zi (σ f j))))) (i : Nat) (hset : (MWs g ad σ th).set pos (ad pos, .inl (g.2.2.1, n, .inl (fun j => zi (va_up (σ f) i x j)))) = MWs g ad σ' th) (hz : z = (i : Int)) (hi : i < n) (hn : n < 2147483648) (h01 : x = 0 ∨ x = 1) (hdg : decode cc pc = .ok (.bastore, 1))
    (kk : ∀ (H : Heap) (locs : List Loc), va_P g.1 vwCl (MWs g ad σ' th) H → va_S (va_A (MWs g ad σ0 th0) sz) H0 H locs → W p l e R s m args below meth c H locs cells slots Q (F0 m (pc + 1) ls rest)) : W p l e R s m args below meth c H locs cells slots Q (F0 m pc ls (.int (zi x) :: .int (zi z) :: .ref (ad pos) :: rest)) := by
  refine z_zast hx hb hK hP (MW_D hd σ σ0 th th0 sz) hS pos ha i hz hi hn h01 hdg (fun H1 l1 h1 _ h3 => ?_)
  rw [hset] at h1
  exact kk H1 l1 h1 h3
theorem z_xtop {x y : Int32} (h : x = y) (k : W p l e R s m args below meth c H locs cells slots Q (F0 m pc ls (.int y :: rest))) : W p l e R s m args below meth c H locs cells slots Q (F0 m pc ls (.int x :: rest)) := by rw [h]; exact k
end ZMR
/-- a call of the reference that answers an int, from one state to the next -/
abbrev MI (l : Launch) (y : MethodName) (ws : List Cond) (rm : Room) (g : gG) (ad : Nat → Nat) (av : List Value) (sz : Nat) (σ : SG) (th : Int) (σ' : SG) (th' v : Int) : Prop :=
  WI l y ws rm g (.ref (ad 0) :: av) sz (MWs g ad σ th) (fun _ => True) (MWs g ad σ' th') v
end
section
/-! ===== what the calls make of the state ===== -/
def opB (σ : SG) (N : Nat) (b : Int) : SG := sup (sfl (sup (sup σ 1 N b) 2 N (-1)) 5 (24 * N) 24 (fun _ => 20)) 0 0 ((N + 1 : Nat) : Int)
def opK (σ : SG) (N k : Nat) : SG := sup (sup (sfl (sup (sup σ 1 N (σ 1 k)) 2 N (k : Int)) 5 (24 * N) 24 (fun i => σ 5 (i - 24 * N + 24 * k))) 3 k 1) 0 0 ((N + 1 : Nat) : Int)
theorem WF.setN {σ : SG} (h : WF σ) {i : Nat} {x : Int} (hx : 0 ≤ x ∧ x ≤ 40) : WF (sup σ 5 i x) := by
  refine ⟨h.1, h.2.1, h.2.2.1, h.2.2.2.1, fun j => ?_, h.2.2.2.2.2⟩
  rw [sup_eq]
  unfold va_up
  split
  · exact hx
  · exact h.note j
theorem WF.setF {σ : SG} (h : WF σ) {k : Nat} (hk : (k : Int) < σ 0 0) : WF (sup σ 3 k 1) := by
  refine ⟨h.1, h.2.1, h.2.2.1, fun j => ?_, h.2.2.2.2⟩
  have h1 := h.flag j
  rw [sup_eq]
  show (va_up (σ 3) k 1 j = 0 ∨ va_up (σ 3) k 1 j = 1) ∧ (σ 4 j = 0 ∨ σ 4 j = 1) ∧ (σ 0 0 ≤ j → va_up (σ 3) k 1 j = 0 ∧ σ 4 j = 0)
  unfold va_up
  split
  · rename_i e
    subst e
    exact ⟨Or.inr rfl, h1.2.1, fun h2 => by omega⟩
  · exact h1
theorem WF.opB {σ : SG} (h : WF σ) {N : Nat} (hN : σ 0 0 = (N : Int)) (hN1 : N < 30) {b : Int} (hb : 1 ≤ b ∧ b ≤ 12) : WF (opB σ N b) := by
  refine ⟨?_, fun k hk => ?_, fun k hk => ?_, fun k => ?_, fun j => ?_, h.2.2.2.2.2⟩
  · show 0 ≤ ((N + 1 : Nat) : Int) ∧ ((N + 1 : Nat) : Int) ≤ 30
    omega
  · show 1 ≤ va_up (σ 1) N b k ∧ va_up (σ 1) N b k ≤ 12
    have hk : (k : Int) < ((N + 1 : Nat) : Int) := hk
    unfold va_up
    split
    · exact hb
    · exact h.bars (by omega)
  · have hk : (k : Int) < ((N + 1 : Nat) : Int) := hk
    show va_up (σ 2) N (-1) k = -1 ∨ (0 ≤ va_up (σ 2) N (-1) k ∧ va_up (σ 2) N (-1) k < k ∧ va_up (σ 1) N b (va_up (σ 2) N (-1) k).toNat = va_up (σ 1) N b k)
    by_cases e : k = N
    · left; unfold va_up; rw [if_pos e]
    · have e1 : va_up (σ 2) N (-1) k = σ 2 k := if_neg e
      have e2 : va_up (σ 1) N b k = σ 1 k := if_neg e
      rw [e1, e2]
      rcases h.par (k := k) (by omega) with h1 | ⟨h1, h2, h3⟩
      · exact Or.inl h1
      · refine Or.inr ⟨h1, h2, ?_⟩
        have e3 : va_up (σ 1) N b (σ 2 k).toNat = σ 1 (σ 2 k).toNat := if_neg (by omega)
        rw [e3, h3]
  · have h1 := h.flag k
    show (σ 3 k = 0 ∨ σ 3 k = 1) ∧ (σ 4 k = 0 ∨ σ 4 k = 1) ∧ (((N + 1 : Nat) : Int) ≤ k → σ 3 k = 0 ∧ σ 4 k = 0)
    exact ⟨h1.1, h1.2.1, fun h2 => h1.2.2 (by omega)⟩
  · show 0 ≤ sfl (sup (sup σ 1 N b) 2 N (-1)) 5 (24 * N) 24 (fun _ => 20) 5 j ∧ sfl (sup (sup σ 1 N b) 2 N (-1)) 5 (24 * N) 24 (fun _ => 20) 5 j ≤ 40
    by_cases e : 24 * N ≤ j ∧ j < 24 * N + 24
    · rw [sfl_in _ _ _ _ _ e]; decide
    · rw [sfl_out _ _ _ _ _ (by omega)]; exact h.note j
theorem WF.opK {σ : SG} (h : WF σ) {N k : Nat} (hN : σ 0 0 = (N : Int)) (hN1 : N < 30) (hk : k < N) : WF (opK σ N k) := by
  refine ⟨?_, fun i hi => ?_, fun i hi => ?_, fun i => ?_, fun j => ?_, h.2.2.2.2.2⟩
  · show 0 ≤ ((N + 1 : Nat) : Int) ∧ ((N + 1 : Nat) : Int) ≤ 30
    omega
  · have hi : (i : Int) < ((N + 1 : Nat) : Int) := hi
    show 1 ≤ va_up (σ 1) N (σ 1 k) i ∧ va_up (σ 1) N (σ 1 k) i ≤ 12
    unfold va_up
    split
    · exact h.bars (by omega)
    · exact h.bars (by omega)
  · have hi : (i : Int) < ((N + 1 : Nat) : Int) := hi
    show va_up (σ 2) N k i = -1 ∨ (0 ≤ va_up (σ 2) N k i ∧ va_up (σ 2) N k i < i ∧ va_up (σ 1) N (σ 1 k) (va_up (σ 2) N k i).toNat = va_up (σ 1) N (σ 1 k) i)
    by_cases e : i = N
    · subst e
      right
      have e1 : va_up (σ 2) i k i = k := if_pos rfl
      have e2 : va_up (σ 1) i (σ 1 k) i = σ 1 k := if_pos rfl
      have e3 : va_up (σ 1) i (σ 1 k) k = σ 1 k := if_neg (by omega)
      rw [e1, e2, Int.toNat_natCast, e3]
      omega
    · have e1 : va_up (σ 2) N k i = σ 2 i := if_neg e
      have e2 : va_up (σ 1) N (σ 1 k) i = σ 1 i := if_neg e
      rw [e1, e2]
      rcases h.par (k := i) (by omega) with h1 | ⟨h1, h2, h3⟩
      · exact Or.inl h1
      · refine Or.inr ⟨h1, h2, ?_⟩
        have e3 : va_up (σ 1) N (σ 1 k) (σ 2 i).toNat = σ 1 (σ 2 i).toNat := if_neg (by omega)
        rw [e3, h3]
  · have h1 := h.flag i
    show (va_up (σ 3) k 1 i = 0 ∨ va_up (σ 3) k 1 i = 1) ∧ (σ 4 i = 0 ∨ σ 4 i = 1) ∧ (((N + 1 : Nat) : Int) ≤ i → va_up (σ 3) k 1 i = 0 ∧ σ 4 i = 0)
    unfold va_up
    split
    · exact ⟨Or.inr rfl, h1.2.1, fun h2 => by omega⟩
    · exact ⟨h1.1, h1.2.1, fun h2 => h1.2.2 (by omega)⟩
  · show 0 ≤ sfl (sup (sup σ 1 N (σ 1 k)) 2 N (k : Int)) 5 (24 * N) 24 (fun i => σ 5 (i - 24 * N + 24 * k)) 5 j ∧ sfl (sup (sup σ 1 N (σ 1 k)) 2 N (k : Int)) 5 (24 * N) 24 (fun i => σ 5 (i - 24 * N + 24 * k)) 5 j ≤ 40
    by_cases e : 24 * N ≤ j ∧ j < 24 * N + 24
    · rw [sfl_in _ _ _ _ _ e]; exact h.note _
    · rw [sfl_out _ _ _ _ _ (by omega)]; exact h.note j
/-- bar by bar, where cond says so, the notes of another version go into the new one -/
def mgf (S : SG) (ν : Nat → Int) (N o : Nat) (cond : Nat → Bool) : Nat → SG
  | 0 => S
  | k + 1 => if cond k = true then sup (sup (mgf S ν N o cond k) 5 (24 * N + k) (ν (24 * o + k))) 5 (24 * N + 12 + k) (ν (24 * o + 12 + k)) else mgf S ν N o cond k
theorem mgf_ne (S : SG) (ν : Nat → Int) (N o : Nat) (cond : Nat → Bool) {f : Nat} (hf : f ≠ 5) : ∀ k, mgf S ν N o cond k f = S f := by
  intro k
  induction k with
  | zero => rfl
  | succ k ih =>
    unfold mgf
    split
    · rw [sup_ne _ _ _ hf, sup_ne _ _ _ hf, ih]
    · exact ih
theorem mgf_lt (S : SG) (ν : Nat → Int) (N o : Nat) (cond : Nat → Bool) {j : Nat} (hj : j < 24 * N) : ∀ k, mgf S ν N o cond k 5 j = S 5 j := by
  intro k
  induction k with
  | zero => rfl
  | succ k ih =>
    unfold mgf
    split
    · rw [sup_eq]
      unfold va_up
      rw [if_neg (by omega), sup_eq]
      unfold va_up
      rw [if_neg (by omega), ih]
    · exact ih
theorem WF.mgf {S : SG} (h : WF S) {ν : Nat → Int} (hν : ∀ j, 0 ≤ ν j ∧ ν j ≤ 40) (N o : Nat) (cond : Nat → Bool) : ∀ k, WF (mgf S ν N o cond k) := by
  intro k
  induction k with
  | zero => exact h
  | succ k ih =>
    show WF (if cond k = true then _ else _)
    split
    · exact (ih.setN (hν _)).setN (hν _)
    · exact ih
theorem mgf_t (S : SG) (ν : Nat → Int) (N o : Nat) (cond : Nat → Bool) (k : Nat) (h : cond k = true) : sup (sup (mgf S ν N o cond k) 5 (24 * N + k) (ν (24 * o + k))) 5 (24 * N + 12 + k) (ν (24 * o + 12 + k)) = mgf S ν N o cond (k + 1) := (if_pos h).symm
theorem mgf_f (S : SG) (ν : Nat → Int) (N o : Nat) (cond : Nat → Bool) (k : Nat) (h : ¬ cond k = true) : mgf S ν N o cond k = mgf S ν N o cond (k + 1) := (if_neg h).symm
def alB (σ : SG) (i j : Nat) : Nat → Bool := fun b => decide (Al σ i j b)
def opM (σ : SG) (N i o bn : Nat) : SG := mgf (sup (opK σ N i) 3 o 1) (σ 5) N o (alB σ i bn) (σ 1 i).toNat
theorem opK_lt {σ : SG} {N k j : Nat} (hj : j < 24 * N) : opK σ N k 5 j = σ 5 j := by
  show sfl (sup (sup σ 1 N (σ 1 k)) 2 N (k : Int)) 5 (24 * N) 24 (fun i => σ 5 (i - 24 * N + 24 * k)) 5 j = σ 5 j
  rw [sfl_out _ _ _ _ _ (by omega)]
  rfl
theorem Al_lt {σ T : SG} {N : Nat} (hT : ∀ j, j < 24 * N → T 5 j = σ 5 j) {i j b : Nat} (hi : i < N) (hj : j < N) (hb : b < 12) : Al T i j b ↔ Al σ i j b := by
  unfold Al NU NL
  rw [hT _ (by omega), hT _ (by omega), hT _ (by omega), hT _ (by omega)]
/-! sets -/
theorem sset_t (f : Nat → Bool) (k : Nat) (h : f k = true) : sset f k ||| bt1 k = sset f (k + 1) := (if_pos h).symm
theorem sset_f (f : Nat → Bool) (k : Nat) (h : ¬ f k = true) : sset f k ||| zi 0 = sset f (k + 1) := (or_0 _).trans (if_neg h).symm
def cfB (σ : SG) (i j bn : Nat) : Nat → Bool := fun b => decide (¬ Al σ i j b ∧ ¬ Al σ i bn b ∧ ¬ Al σ j bn b)
def faB (σ : SG) : Nat → Bool := fun k => decide (σ 4 k = 1 ∧ MK σ k < σ 7 0)
def dfB (σ : SG) (c k : Nat) : Nat → Bool := fun b => decide (¬ σ 11 (12 * c + b) = NV σ k (σ 10 c).toNat b)
def cnt (f : Nat → Bool) : Nat → Int
  | 0 => 0
  | k + 1 => cnt f k + pz (f k = true)
theorem cnt_r (f : Nat → Bool) : ∀ k : Nat, 0 ≤ cnt f k ∧ cnt f k ≤ k := by
  intro k
  induction k with
  | zero => simp [cnt]
  | succ k ih =>
    unfold cnt
    have := pz_b (f k = true)
    omega
def opP (σ : SG) (k v C : Nat) : SG := sup (sfl (sup (sup (sup σ 3 k 1) 9 C (σ 1 k)) 10 C (v : Int)) 11 (12 * C) (σ 1 k).toNat (fun i => NV σ k v (i - 12 * C))) 8 0 ((C + 1 : Nat) : Int)
def opS (σ : SG) (c k : Nat) : SG := sup (sfl σ 11 (12 * c) (σ 1 k).toNat (fun i => NV σ k (σ 10 c).toNat (i - 12 * c))) 12 c (σ 12 c + cnt (dfB σ c k) (σ 1 k).toNat)
/-! the best note: the first tone of least costs -/
def bst (c : Nat → Int) : Nat → Nat
  | 0 => 0
  | k + 1 => if c (k + 1) < c (bst c k) then k + 1 else bst c k
def opN (σ : SG) (k v b : Nat) (x : Int) : SG := sup σ 5 (24 * k + 12 * v + b) x
theorem bst_r (c : Nat → Int) : ∀ k, bst c k ≤ k := by
  intro k
  induction k with
  | zero => exact Nat.le_refl 0
  | succ k ih =>
    unfold bst
    split <;> omega
theorem opN_opN (σ : SG) (k v b : Nat) (x y : Int) : opN (opN σ k v b x) k v b y = opN σ k v b y := by
  unfold opN
  funext f j
  unfold sup
  split
  · rename_i e
    unfold va_up
    rw [if_pos rfl]
    split
    · rfl
    · rfl
  · rfl
theorem opN_id (σ : SG) (k v b : Nat) {x : Int} (h : x = σ 5 (24 * k + 12 * v + b)) : opN σ k v b x = σ := by
  unfold opN
  funext f j
  unfold sup
  split
  · rename_i e
    subst e
    unfold va_up
    split
    · rename_i e
      subst e
      exact h
    · rfl
  · rfl
end
section
set_option maxHeartbeats 4000000 in
set_option maxRecDepth 100000 in
theorem c_X4_fails (l : Launch) (g : gG) (ad : Nat → Nat) (σ : SG) (th : Int) (hW : WF σ) (hd : Dst ad) (sz : Nat) (w : Int) (hw : zr w) : MI l yX4_fails wsX4_fails ({ frames := 0, cells := 0, slots := 0, locals := 0 }) g ad [.int (zi (w))] sz σ th (σ) (w) (pz (0 < w)) := by
  refine ZM.ofW (cc := cX4_fails) (maxL := 2) (ret := (some .boolean)) (by decide) rfl (Nat.le_of_ble_eq_true rfl) ?_
  intro p e s m below meth c ls hx hb hr hml hown hts hlk hP hK hl _
  obtain ⟨rfl, hP, -⟩ := hP
  have hS : va_S (va_A (MWs g ad σ th) s.heap.size) s.heap s.heap [] := va_S.rf
  have hown : s.vm.findClass RX4 = some m.cls := hown
  have hl : lv_has ls 2 [(0, .ref (ad 0)), (1, .int (zi (w)))] := hl
  have hiX4 : ∀ w ∈ u_ws RX4 TX4 14, w ∈ wsX4_fails := by decide +kernel
  refine lv_aload_n hx hb dX4_fails_0 rfl (lv_at hl 0 rfl) ?_
  refine lv_iload_n hx hb dX4_fails_1 rfl (lv_at hl 1 rfl) ?_
  refine z_mput hx hb hd hts hiX4 hown hK hP hS 13 (by decide) (hts (.fieldLink RX4 45 "HarmoniumDeskModel" "thrown" "I") (by decide +kernel)) rfl rfl rfl (ms13 _ _ _ _ _) dX4_fails_2 (fun H locs hP hS => ?_)
  refine lv_iload_n hx hb dX4_fails_5 rfl (lv_at hl 1 rfl) ?_
  refine z_if_le (tgt := 13) hx hb dX4_fails_6 (by decide) (by omega) (fun h6 => ?_) (fun h6 => ?_)
  ·
    refine z_iconst hx hb dX4_fails_13 ?_
    exact z_wzret hx hb hr hlk dX4_fails_14 (by omega) ((pz_f (by omega)).symm) hP hS
  ·
    refine z_iconst hx hb dX4_fails_9 ?_
    refine lv_goto (tgt := 14) hx hb dX4_fails_10 (by decide) ?_
    exact z_wzret hx hb hr hlk dX4_fails_14 (by omega) ((pz_t (by omega)).symm) hP hS

set_option maxHeartbeats 4000000 in
set_option maxRecDepth 100000 in
theorem c_X4_begin_1 (l : Launch) (g : gG) (ad : Nat → Nat) (σ : SG) (th : Int) (hW : WF σ) (hd : Dst ad) (sz : Nat) (b : Int) (hb9 : zr b) (hbad : ¬ (1 ≤ b ∧ b ≤ 12)) : MI l yX4_begin wsX4_begin ({ frames := 1, cells := 0, slots := 0, locals := 22 }) g ad [.int (zi (b))] sz σ th (σ) (1) (0) := by
  refine ZM.ofW (cc := cX4_begin) (maxL := 3) (ret := (some .int)) (by decide) rfl (Nat.le_of_ble_eq_true rfl) ?_
  intro p e s m below meth c ls hx hb hr hml hown hts hlk hP hK hl _
  obtain ⟨rfl, hP, -⟩ := hP
  have hS : va_S (va_A (MWs g ad σ th) s.heap.size) s.heap s.heap [] := va_S.rf
  have hown : s.vm.findClass RX4 = some m.cls := hown
  have hl : lv_has ls 3 [(0, .ref (ad 0)), (1, .int (zi (b)))] := hl
  have hn := hW.n
  refine lv_aload_n hx hb dX4_begin_0 rfl (lv_at hl 0 rfl) ?_
  refine lv_iload_n hx hb dX4_begin_1 rfl (lv_at hl 1 rfl) ?_
  refine z_iconst hx hb dX4_begin_2 ?_
  refine z_bipush hx hb dX4_begin_3 (by decide) ?_
  refine ro_S (rest := [.ref (ad 0)]) (As := [.int (zi (b)), .int (zi (1)), .int (zi (12))]) ⟨hx, hb, hml, hown, hts⟩ (c_X4_isIn l g (b) (1) (12) (by omega) (by omega) (by omega)) (cwS 3 hts gX4_begin_X4_isIn rfl rfl rfl (by decide +kernel) ⟨Nat.le_of_ble_eq_true rfl, Nat.le_of_ble_eq_true rfl⟩) trivial hK rfl hl.1 rfl (Nat.le_of_ble_eq_true rfl) dX4_begin_5 ⟨Nat.zero_le _, Nat.zero_le _⟩ ?_
  refine z_ifp_ne (P := (1) ≤ (b) ∧ (b) ≤ (12)) (tgt := 15) hx hb dX4_begin_8 (by decide)  (fun h8 => ?_) (fun h8 => ?_)
  · exfalso; omega
  ·
    refine z_iconst hx hb dX4_begin_11 ?_
    refine lv_goto (tgt := 29) hx hb dX4_begin_12 (by decide) ?_
    refine wi_V (rest := []) (As := [.int (zi (1))]) ⟨hx, hb, hml, hown, hts⟩ (c_X4_fails l g ad σ (th) hW hd _ (1) (by omega)) (cwV 1 hts gX4_begin_X4_fails rfl rfl rfl (by decide +kernel) ⟨Nat.le_of_ble_eq_true rfl, Nat.le_of_ble_eq_true rfl⟩) (z_recv hK (hP 0 _ rfl) rfl) hP trivial hK rfl hl.1 rfl (Nat.le_of_ble_eq_true rfl) dX4_begin_29 ⟨Nat.zero_le _, Nat.zero_le _⟩ hS (MW_fr hS.1) (fun H locs hP _ _ hS => ?_)
    refine z_ifp_eq (P := 0 < (1)) (tgt := 37) hx hb dX4_begin_32 (by decide)  (fun h32 => ?_) (fun h32 => ?_)
    · exfalso; omega
    ·
      refine z_iconst hx hb dX4_begin_35 ?_
      exact z_wiret hx hb hr hlk dX4_begin_36 (by omega) hP hS

set_option maxHeartbeats 4000000 in
set_option maxRecDepth 100000 in
theorem c_X4_begin_2 (l : Launch) (g : gG) (ad : Nat → Nat) (σ : SG) (th : Int) (hW : WF σ) (hd : Dst ad) (sz : Nat) (b : Int) (hb9 : zr b) (hgood : 1 ≤ b ∧ b ≤ 12) (hfull : σ 0 0 = 30) : MI l yX4_begin wsX4_begin ({ frames := 1, cells := 0, slots := 0, locals := 22 }) g ad [.int (zi (b))] sz σ th (σ) (2) (0) := by
  refine ZM.ofW (cc := cX4_begin) (maxL := 3) (ret := (some .int)) (by decide) rfl (Nat.le_of_ble_eq_true rfl) ?_
  intro p e s m below meth c ls hx hb hr hml hown hts hlk hP hK hl _
  obtain ⟨rfl, hP, -⟩ := hP
  have hS : va_S (va_A (MWs g ad σ th) s.heap.size) s.heap s.heap [] := va_S.rf
  have hown : s.vm.findClass RX4 = some m.cls := hown
  have hl : lv_has ls 3 [(0, .ref (ad 0)), (1, .int (zi (b)))] := hl
  have hiX4 : ∀ w ∈ u_ws RX4 TX4 14, w ∈ wsX4_begin := by decide +kernel
  have hn := hW.n
  refine lv_aload_n hx hb dX4_begin_0 rfl (lv_at hl 0 rfl) ?_
  refine lv_iload_n hx hb dX4_begin_1 rfl (lv_at hl 1 rfl) ?_
  refine z_iconst hx hb dX4_begin_2 ?_
  refine z_bipush hx hb dX4_begin_3 (by decide) ?_
  refine ro_S (rest := [.ref (ad 0)]) (As := [.int (zi (b)), .int (zi (1)), .int (zi (12))]) ⟨hx, hb, hml, hown, hts⟩ (c_X4_isIn l g (b) (1) (12) (by omega) (by omega) (by omega)) (cwS 3 hts gX4_begin_X4_isIn rfl rfl rfl (by decide +kernel) ⟨Nat.le_of_ble_eq_true rfl, Nat.le_of_ble_eq_true rfl⟩) trivial hK rfl hl.1 rfl (Nat.le_of_ble_eq_true rfl) dX4_begin_5 ⟨Nat.zero_le _, Nat.zero_le _⟩ ?_
  refine z_ifp_ne (P := (1) ≤ (b) ∧ (b) ≤ (12)) (tgt := 15) hx hb dX4_begin_8 (by decide)  (fun h8 => ?_) (fun h8 => ?_)
  ·
    refine lv_aload_n hx hb dX4_begin_15 rfl (lv_at hl 0 rfl) ?_
    refine z_get (C := RX4) (T := TX4) (N := 14) hx hb hts hiX4 hown hK (hP 0 _ rfl) rfl 0 (by decide) (hts (.fieldLink RX4 48 "HarmoniumDeskModel" "versions" "I") (by decide +kernel)) rfl rfl dX4_begin_16 ?_
    refine z_bipush hx hb dX4_begin_19 (by decide) ?_
    refine z_icmp_ne (tgt := 28) hx hb dX4_begin_21 (by decide) (by omega) (by omega) (fun h21 => ?_) (fun h21 => ?_)
    · exfalso; omega
    ·
      refine z_iconst hx hb dX4_begin_24 ?_
      refine lv_goto (tgt := 29) hx hb dX4_begin_25 (by decide) ?_
      refine wi_V (rest := []) (As := [.int (zi (2))]) ⟨hx, hb, hml, hown, hts⟩ (c_X4_fails l g ad σ (th) hW hd _ (2) (by omega)) (cwV 1 hts gX4_begin_X4_fails rfl rfl rfl (by decide +kernel) ⟨Nat.le_of_ble_eq_true rfl, Nat.le_of_ble_eq_true rfl⟩) (z_recv hK (hP 0 _ rfl) rfl) hP trivial hK rfl hl.1 rfl (Nat.le_of_ble_eq_true rfl) dX4_begin_29 ⟨Nat.zero_le _, Nat.zero_le _⟩ hS (MW_fr hS.1) (fun H locs hP _ _ hS => ?_)
      refine z_ifp_eq (P := 0 < (2)) (tgt := 37) hx hb dX4_begin_32 (by decide)  (fun h32 => ?_) (fun h32 => ?_)
      · exfalso; omega
      ·
        refine z_iconst hx hb dX4_begin_35 ?_
        exact z_wiret hx hb hr hlk dX4_begin_36 (by omega) hP hS
  · exfalso; omega

set_option maxHeartbeats 4000000 in
set_option maxRecDepth 100000 in
theorem c_X4_begin_0 (l : Launch) (g : gG) (ad : Nat → Nat) (σ : SG) (th : Int) (hW : WF σ) (hd : Dst ad) (sz : Nat) (b : Int) (hb9 : zr b) (hgood : 1 ≤ b ∧ b ≤ 12) (N : Nat) (hN : σ 0 0 = (N : Int)) (hnf : N < 30) : MI l yX4_begin wsX4_begin ({ frames := 1, cells := 0, slots := 0, locals := 22 }) g ad [.int (zi (b))] sz σ th (opB σ N b) (0) ((N : Int)) := by
  refine ZM.ofW (cc := cX4_begin) (maxL := 3) (ret := (some .int)) (by decide) rfl (Nat.le_of_ble_eq_true rfl) ?_
  intro p e s m below meth c ls hx hb hr hml hown hts hlk hP hK hl _
  obtain ⟨rfl, hP, -⟩ := hP
  have hS : va_S (va_A (MWs g ad σ th) s.heap.size) s.heap s.heap [] := va_S.rf
  have hown : s.vm.findClass RX4 = some m.cls := hown
  have hl : lv_has ls 3 [(0, .ref (ad 0)), (1, .int (zi (b)))] := hl
  have hiX4 : ∀ w ∈ u_ws RX4 TX4 14, w ∈ wsX4_begin := by decide +kernel
  have hn := hW.n
  refine lv_aload_n hx hb dX4_begin_0 rfl (lv_at hl 0 rfl) ?_
  refine lv_iload_n hx hb dX4_begin_1 rfl (lv_at hl 1 rfl) ?_
  refine z_iconst hx hb dX4_begin_2 ?_
  refine z_bipush hx hb dX4_begin_3 (by decide) ?_
  refine ro_S (rest := [.ref (ad 0)]) (As := [.int (zi (b)), .int (zi (1)), .int (zi (12))]) ⟨hx, hb, hml, hown, hts⟩ (c_X4_isIn l g (b) (1) (12) (by omega) (by omega) (by omega)) (cwS 3 hts gX4_begin_X4_isIn rfl rfl rfl (by decide +kernel) ⟨Nat.le_of_ble_eq_true rfl, Nat.le_of_ble_eq_true rfl⟩) trivial hK rfl hl.1 rfl (Nat.le_of_ble_eq_true rfl) dX4_begin_5 ⟨Nat.zero_le _, Nat.zero_le _⟩ ?_
  refine z_ifp_ne (P := (1) ≤ (b) ∧ (b) ≤ (12)) (tgt := 15) hx hb dX4_begin_8 (by decide)  (fun h8 => ?_) (fun h8 => ?_)
  ·
    refine lv_aload_n hx hb dX4_begin_15 rfl (lv_at hl 0 rfl) ?_
    refine z_get (C := RX4) (T := TX4) (N := 14) hx hb hts hiX4 hown hK (hP 0 _ rfl) rfl 0 (by decide) (hts (.fieldLink RX4 48 "HarmoniumDeskModel" "versions" "I") (by decide +kernel)) rfl rfl dX4_begin_16 ?_
    refine z_bipush hx hb dX4_begin_19 (by decide) ?_
    refine z_icmp_ne (tgt := 28) hx hb dX4_begin_21 (by decide) (by omega) (by omega) (fun h21 => ?_) (fun h21 => ?_)
    ·
      refine z_iconst hx hb dX4_begin_28 ?_
      refine wi_V (rest := []) (As := [.int (zi (0))]) ⟨hx, hb, hml, hown, hts⟩ (c_X4_fails l g ad σ (th) hW hd _ (0) (by omega)) (cwV 1 hts gX4_begin_X4_fails rfl rfl rfl (by decide +kernel) ⟨Nat.le_of_ble_eq_true rfl, Nat.le_of_ble_eq_true rfl⟩) (z_recv hK (hP 0 _ rfl) rfl) hP trivial hK rfl hl.1 rfl (Nat.le_of_ble_eq_true rfl) dX4_begin_29 ⟨Nat.zero_le _, Nat.zero_le _⟩ hS (MW_fr hS.1) (fun H locs hP _ _ hS => ?_)
      refine z_ifp_eq (P := 0 < (0)) (tgt := 37) hx hb dX4_begin_32 (by decide)  (fun h32 => ?_) (fun h32 => ?_)
      ·
        refine lv_aload_n hx hb dX4_begin_37 rfl (lv_at hl 0 rfl) ?_
        refine z_get (C := RX4) (T := TX4) (N := 14) hx hb hts hiX4 hown hK (hP 0 _ rfl) rfl 1 (by decide) (hts (.fieldLink RX4 7 "HarmoniumDeskModel" "bars" "[I") (by decide +kernel)) rfl rfl dX4_begin_38 ?_
        refine lv_aload_n hx hb dX4_begin_41 rfl (lv_at hl 0 rfl) ?_
        refine z_get (C := RX4) (T := TX4) (N := 14) hx hb hts hiX4 hown hK (hP 0 _ rfl) rfl 0 (by decide) (hts (.fieldLink RX4 48 "HarmoniumDeskModel" "versions" "I") (by decide +kernel)) rfl rfl dX4_begin_42 ?_
        refine lv_iload_n hx hb dX4_begin_45 rfl (lv_at hl 1 rfl) ?_
        refine z_mast (x := b) hx hb hd hK hP hS 1 1 30 rfl (N) (msa1 _ _ _ _ _ _) (by omega) (by omega) (by decide) dX4_begin_46 (fun H locs hP hS => ?_)
        refine lv_aload_n hx hb dX4_begin_47 rfl (lv_at hl 0 rfl) ?_
        refine z_get (C := RX4) (T := TX4) (N := 14) hx hb hts hiX4 hown hK (hP 0 _ rfl) rfl 2 (by decide) (hts (.fieldLink RX4 13 "HarmoniumDeskModel" "parent" "[I") (by decide +kernel)) rfl rfl dX4_begin_48 ?_
        refine lv_aload_n hx hb dX4_begin_51 rfl (lv_at hl 0 rfl) ?_
        refine z_get (C := RX4) (T := TX4) (N := 14) hx hb hts hiX4 hown hK (hP 0 _ rfl) rfl 0 (by decide) (hts (.fieldLink RX4 48 "HarmoniumDeskModel" "versions" "I") (by decide +kernel)) rfl rfl dX4_begin_52 ?_
        refine z_top (b := σ 0 0) rfl ?_
        refine z_iconst hx hb dX4_begin_55 ?_
        refine z_mast (x := (-1)) hx hb hd hK hP hS 2 2 30 rfl (N) (msa2 _ _ _ _ _ _) (by omega) (by omega) (by decide) dX4_begin_56 (fun H locs hP hS => ?_)
        refine z_iconst hx hb dX4_begin_57 ?_
        refine lv_istore_n (lv' := [(2, .int (zi (0))), (0, .ref (ad 0)), (1, .int (zi (b)))]) hx hb dX4_begin_58 rfl hl (by decide) rfl (fun ls hl => ?_)
        have loop59 : ∀ (d j : Nat), j ≤ 24 → 24 - j = d → ∀ (H : Heap) (locs : List Loc), va_P g.1 vwCl (MWs g ad (sfl (sup (sup σ 1 N b) 2 N (-1)) 5 (24 * N) j (fun _ => 20)) (0)) H → va_S (va_A (MWs g ad σ th) s.heap.size) s.heap H locs → ∀ ls : Array Slot, lv_has ls 3 [(2, .int (zi ((j : Int)))), (0, .ref (ad 0)), (1, .int (zi (b)))] → W p l e ({ frames := 1, cells := 0, slots := 0, locals := 22 }) s m ([.ref (ad 0), .int (zi (b))] : List Value).toArray below meth c H locs 0 0 (MQ below (va_Qi (fun z9 (_ : Unit) => z9 = zi ((N : Int))) (fun _ t9 => va_P g.1 vwCl (MWs g ad (opB σ N b) (0)) t9.heap) (va_A (MWs g ad σ th) s.heap.size)) ([.ref (ad 0), .int (zi (b))] : List Value).toArray s 0 0 (va_A (MWs g ad σ th) s.heap.size)) (F0 m 59 ls []) := by
          intro d
          induction d with
          | zero =>
            intro j hj hd2 H locs hP hS ls hl
            have e24 : j = 24 := by omega
            subst e24
            refine lv_iload_n hx hb dX4_begin_59 rfl (lv_at hl 0 rfl) ?_
            refine z_bipush hx hb dX4_begin_60 (by decide) ?_
            refine z_icmp_ge (tgt := 87) hx hb dX4_begin_62 (by decide) (by omega) (by omega) (fun h62 => ?_) (fun h62 => ?_)
            ·
              refine lv_aload_n hx hb dX4_begin_87 rfl (lv_at hl 1 rfl) ?_
              refine lv_dup hx hb dX4_begin_88 rfl ?_
              refine z_get (C := RX4) (T := TX4) (N := 14) hx hb hts hiX4 hown hK (hP 0 _ rfl) rfl 0 (by decide) (hts (.fieldLink RX4 48 "HarmoniumDeskModel" "versions" "I") (by decide +kernel)) rfl rfl dX4_begin_89 ?_
              refine z_top (b := σ 0 0) rfl ?_
              refine z_iconst hx hb dX4_begin_92 ?_
              refine z_iadd hx hb dX4_begin_93 ?_
              refine z_top (b := ((N + 1 : Nat) : Int)) (by omega) ?_
              refine z_mput hx hb hd hts hiX4 hown hK hP hS 0 (by decide) (hts (.fieldLink RX4 48 "HarmoniumDeskModel" "versions" "I") (by decide +kernel)) rfl rfl rfl (ms0 _ _ _ _ _) dX4_begin_94 (fun H locs hP hS => ?_)
              refine lv_aload_n hx hb dX4_begin_97 rfl (lv_at hl 1 rfl) ?_
              refine z_get (C := RX4) (T := TX4) (N := 14) hx hb hts hiX4 hown hK (hP 0 _ rfl) rfl 0 (by decide) (hts (.fieldLink RX4 48 "HarmoniumDeskModel" "versions" "I") (by decide +kernel)) rfl rfl dX4_begin_98 ?_
              refine z_top (b := ((N + 1 : Nat) : Int)) (rfl) ?_
              refine z_iconst hx hb dX4_begin_101 ?_
              refine z_isub hx hb dX4_begin_102 ?_
              exact z_wiret hx hb hr hlk dX4_begin_103 (by omega) hP hS
            · exfalso; omega
          | succ d ih =>
            intro j hj hd2 H locs hP hS ls hl
            refine lv_iload_n hx hb dX4_begin_59 rfl (lv_at hl 0 rfl) ?_
            refine z_bipush hx hb dX4_begin_60 (by decide) ?_
            refine z_icmp_ge (tgt := 87) hx hb dX4_begin_62 (by decide) (by omega) (by omega) (fun h62 => ?_) (fun h62 => ?_)
            · exfalso; omega
            ·
              refine lv_aload_n hx hb dX4_begin_65 rfl (lv_at hl 1 rfl) ?_
              refine z_get (C := RX4) (T := TX4) (N := 14) hx hb hts hiX4 hown hK (hP 0 _ rfl) rfl 5 (by decide) (hts (.fieldLink RX4 23 "HarmoniumDeskModel" "notes" "[I") (by decide +kernel)) rfl rfl dX4_begin_66 ?_
              refine lv_aload_n hx hb dX4_begin_69 rfl (lv_at hl 1 rfl) ?_
              refine z_get (C := RX4) (T := TX4) (N := 14) hx hb hts hiX4 hown hK (hP 0 _ rfl) rfl 0 (by decide) (hts (.fieldLink RX4 48 "HarmoniumDeskModel" "versions" "I") (by decide +kernel)) rfl rfl dX4_begin_70 ?_
              refine z_top (b := σ 0 0) rfl ?_
              refine z_iconst hx hb dX4_begin_73 ?_
              refine lv_iload_n hx hb dX4_begin_74 rfl (lv_at hl 0 rfl) ?_
              refine ro_S (rest := [.ref (ad 5)]) (As := [.int (zi (σ 0 0)), .int (zi (0)), .int (zi ((j : Int)))]) ⟨hx, hb, hml, hown, hts⟩ (c_X4_at l g (σ 0 0) (0) ((j : Int))) (cwS 3 hts gX4_begin_X4_at rfl rfl rfl (by decide +kernel) ⟨Nat.le_of_ble_eq_true rfl, Nat.le_of_ble_eq_true rfl⟩) trivial hK rfl hl.1 rfl (Nat.le_of_ble_eq_true rfl) dX4_begin_75 ⟨Nat.zero_le _, Nat.zero_le _⟩ ?_
              refine z_bipush hx hb dX4_begin_78 (by decide) ?_
              refine z_mast (x := 20) hx hb hd hK hP hS 5 5 720 rfl (24 * N + j) (msa5 _ _ _ _ _ _) (by omega) (by omega) (by decide) dX4_begin_80 (fun H locs hP hS => ?_)
              refine z_iinc (b := ((j + 1 : Nat) : Int)) (lv' := [(2, .int (zi (((j + 1 : Nat) : Int)))), (0, .ref (ad 0)), (1, .int (zi (b)))]) hx hb dX4_begin_81 hl (k := 0) rfl (by omega) (by decide) rfl (fun ls hl => ?_)
              refine lv_goto (tgt := 59) hx hb dX4_begin_84 (by decide) ?_
              rw [sfl_s (sup (sup σ 1 N b) 2 N (-1)) 5 (24 * N) j (24 * N + j) (fun _ => 20) 20 rfl rfl] at hP
              exact ih (j + 1) (by omega) (by omega) H locs hP hS ls (lv_sub hl [0, 1, 2] rfl)
        rw [← sfl_0 (sup (sup σ 1 N b) 2 N (-1)) 5 (24 * N) (fun _ => 20)] at hP
        exact loop59 _ 0 (by omega) rfl _ _ hP hS ls (lv_sub hl [0, 1, 2] rfl)
      · exfalso; omega
    · exfalso; omega
  · exfalso; omega

set_option maxHeartbeats 4000000 in
set_option maxRecDepth 100000 in
theorem c_X4_makes (l : Launch) (g : gG) (ad : Nat → Nat) (σ : SG) (th : Int) (hW : WF σ) (hd : Dst ad) (sz : Nat) (k : Nat) (hk : (k : Int) < σ 0 0) (zk : Int) (hzk : zk = (k : Int)) (N : Nat) (hN : σ 0 0 = (N : Int)) (hnf : N < 30) : MI l yX4_makes wsX4_makes ({ frames := 1, cells := 0, slots := 0, locals := 22 }) g ad [.int (zi (zk))] sz σ th (opK σ N k) (th) ((N : Int)) := by
  refine ZM.ofW (cc := cX4_makes) (maxL := 3) (ret := (some .int)) (by decide) rfl (Nat.le_of_ble_eq_true rfl) ?_
  intro p e s m below meth c ls hx hb hr hml hown hts hlk hP hK hl _
  obtain ⟨rfl, hP, -⟩ := hP
  have hS : va_S (va_A (MWs g ad σ th) s.heap.size) s.heap s.heap [] := va_S.rf
  have hown : s.vm.findClass RX4 = some m.cls := hown
  have hl : lv_has ls 3 [(0, .ref (ad 0)), (1, .int (zi (zk)))] := hl
  have hiX4 : ∀ w ∈ u_ws RX4 TX4 14, w ∈ wsX4_makes := by decide +kernel
  have hn := hW.n
  refine lv_aload_n hx hb dX4_makes_0 rfl (lv_at hl 0 rfl) ?_
  refine z_get (C := RX4) (T := TX4) (N := 14) hx hb hts hiX4 hown hK (hP 0 _ rfl) rfl 1 (by decide) (hts (.fieldLink RX4 7 "HarmoniumDeskModel" "bars" "[I") (by decide +kernel)) rfl rfl dX4_makes_1 ?_
  refine lv_aload_n hx hb dX4_makes_4 rfl (lv_at hl 0 rfl) ?_
  refine z_get (C := RX4) (T := TX4) (N := 14) hx hb hts hiX4 hown hK (hP 0 _ rfl) rfl 0 (by decide) (hts (.fieldLink RX4 48 "HarmoniumDeskModel" "versions" "I") (by decide +kernel)) rfl rfl dX4_makes_5 ?_
  refine lv_aload_n hx hb dX4_makes_8 rfl (lv_at hl 0 rfl) ?_
  refine z_get (C := RX4) (T := TX4) (N := 14) hx hb hts hiX4 hown hK (hP 0 _ rfl) rfl 1 (by decide) (hts (.fieldLink RX4 7 "HarmoniumDeskModel" "bars" "[I") (by decide +kernel)) rfl rfl dX4_makes_9 ?_
  refine lv_iload_n hx hb dX4_makes_12 rfl (lv_at hl 1 rfl) ?_
  refine z_iald hx hb hK (hP 1 _ rfl) (k) (by omega) (by omega) (by decide) dX4_makes_13 ?_
  refine z_mast (x := σ 1 (k)) hx hb hd hK hP hS 1 1 30 rfl (N) (msa1 _ _ _ _ _ _) (by omega) (by omega) (by decide) dX4_makes_14 (fun H locs hP hS => ?_)
  refine lv_aload_n hx hb dX4_makes_15 rfl (lv_at hl 0 rfl) ?_
  refine z_get (C := RX4) (T := TX4) (N := 14) hx hb hts hiX4 hown hK (hP 0 _ rfl) rfl 2 (by decide) (hts (.fieldLink RX4 13 "HarmoniumDeskModel" "parent" "[I") (by decide +kernel)) rfl rfl dX4_makes_16 ?_
  refine lv_aload_n hx hb dX4_makes_19 rfl (lv_at hl 0 rfl) ?_
  refine z_get (C := RX4) (T := TX4) (N := 14) hx hb hts hiX4 hown hK (hP 0 _ rfl) rfl 0 (by decide) (hts (.fieldLink RX4 48 "HarmoniumDeskModel" "versions" "I") (by decide +kernel)) rfl rfl dX4_makes_20 ?_
  refine z_top (b := σ 0 0) rfl ?_
  refine lv_iload_n hx hb dX4_makes_23 rfl (lv_at hl 1 rfl) ?_
  refine z_top (b := (k : Int)) (hzk) ?_
  refine z_mast (x := (k : Int)) hx hb hd hK hP hS 2 2 30 rfl (N) (msa2 _ _ _ _ _ _) (by omega) (by omega) (by decide) dX4_makes_24 (fun H locs hP hS => ?_)
  refine z_iconst hx hb dX4_makes_25 ?_
  refine lv_istore_n (lv' := [(2, .int (zi (0))), (0, .ref (ad 0)), (1, .int (zi (zk)))]) hx hb dX4_makes_26 rfl hl (by decide) rfl (fun ls hl => ?_)
  have loop27 : ∀ (d j : Nat), j ≤ 24 → 24 - j = d → ∀ (H : Heap) (locs : List Loc), va_P g.1 vwCl (MWs g ad (sfl (sup (sup σ 1 N (σ 1 k)) 2 N (k : Int)) 5 (24 * N) j (fun i => σ 5 (i - 24 * N + 24 * k))) (th)) H → va_S (va_A (MWs g ad σ th) s.heap.size) s.heap H locs → ∀ ls : Array Slot, lv_has ls 3 [(2, .int (zi ((j : Int)))), (0, .ref (ad 0)), (1, .int (zi (zk)))] → W p l e ({ frames := 1, cells := 0, slots := 0, locals := 22 }) s m ([.ref (ad 0), .int (zi (zk))] : List Value).toArray below meth c H locs 0 0 (MQ below (va_Qi (fun z9 (_ : Unit) => z9 = zi ((N : Int))) (fun _ t9 => va_P g.1 vwCl (MWs g ad (opK σ N k) (th)) t9.heap) (va_A (MWs g ad σ th) s.heap.size)) ([.ref (ad 0), .int (zi (zk))] : List Value).toArray s 0 0 (va_A (MWs g ad σ th) s.heap.size)) (F0 m 27 ls []) := by
    intro d
    induction d with
    | zero =>
      intro j hj hd2 H locs hP hS ls hl
      have e24 : j = 24 := by omega
      subst e24
      refine lv_iload_n hx hb dX4_makes_27 rfl (lv_at hl 0 rfl) ?_
      refine z_bipush hx hb dX4_makes_28 (by decide) ?_
      refine z_icmp_ge (tgt := 64) hx hb dX4_makes_30 (by decide) (by omega) (by omega) (fun h30 => ?_) (fun h30 => ?_)
      ·
        refine lv_aload_n hx hb dX4_makes_64 rfl (lv_at hl 1 rfl) ?_
        refine z_get (C := RX4) (T := TX4) (N := 14) hx hb hts hiX4 hown hK (hP 0 _ rfl) rfl 3 (by decide) (hts (.fieldLink RX4 16 "HarmoniumDeskModel" "isFixed" "[Z") (by decide +kernel)) rfl rfl dX4_makes_65 ?_
        refine lv_iload_n hx hb dX4_makes_68 rfl (lv_at hl 2 rfl) ?_
        refine z_iconst hx hb dX4_makes_69 ?_
        refine z_mzast (x := 1) hx hb hd hK hP hS 3 3 30 rfl (k) (msa3 _ _ _ _ _ _) (by omega) (by omega) (by decide) (Or.inr rfl) dX4_makes_70 (fun H locs hP hS => ?_)
        refine lv_aload_n hx hb dX4_makes_71 rfl (lv_at hl 1 rfl) ?_
        refine lv_dup hx hb dX4_makes_72 rfl ?_
        refine z_get (C := RX4) (T := TX4) (N := 14) hx hb hts hiX4 hown hK (hP 0 _ rfl) rfl 0 (by decide) (hts (.fieldLink RX4 48 "HarmoniumDeskModel" "versions" "I") (by decide +kernel)) rfl rfl dX4_makes_73 ?_
        refine z_top (b := σ 0 0) rfl ?_
        refine z_iconst hx hb dX4_makes_76 ?_
        refine z_iadd hx hb dX4_makes_77 ?_
        refine z_top (b := ((N + 1 : Nat) : Int)) (by omega) ?_
        refine z_mput hx hb hd hts hiX4 hown hK hP hS 0 (by decide) (hts (.fieldLink RX4 48 "HarmoniumDeskModel" "versions" "I") (by decide +kernel)) rfl rfl rfl (ms0 _ _ _ _ _) dX4_makes_78 (fun H locs hP hS => ?_)
        refine lv_aload_n hx hb dX4_makes_81 rfl (lv_at hl 1 rfl) ?_
        refine z_get (C := RX4) (T := TX4) (N := 14) hx hb hts hiX4 hown hK (hP 0 _ rfl) rfl 0 (by decide) (hts (.fieldLink RX4 48 "HarmoniumDeskModel" "versions" "I") (by decide +kernel)) rfl rfl dX4_makes_82 ?_
        refine z_top (b := ((N + 1 : Nat) : Int)) (rfl) ?_
        refine z_iconst hx hb dX4_makes_85 ?_
        refine z_isub hx hb dX4_makes_86 ?_
        exact z_wiret hx hb hr hlk dX4_makes_87 (by omega) hP hS
      · exfalso; omega
    | succ d ih =>
      intro j hj hd2 H locs hP hS ls hl
      refine lv_iload_n hx hb dX4_makes_27 rfl (lv_at hl 0 rfl) ?_
      refine z_bipush hx hb dX4_makes_28 (by decide) ?_
      refine z_icmp_ge (tgt := 64) hx hb dX4_makes_30 (by decide) (by omega) (by omega) (fun h30 => ?_) (fun h30 => ?_)
      · exfalso; omega
      ·
        refine lv_aload_n hx hb dX4_makes_33 rfl (lv_at hl 1 rfl) ?_
        refine z_get (C := RX4) (T := TX4) (N := 14) hx hb hts hiX4 hown hK (hP 0 _ rfl) rfl 5 (by decide) (hts (.fieldLink RX4 23 "HarmoniumDeskModel" "notes" "[I") (by decide +kernel)) rfl rfl dX4_makes_34 ?_
        refine lv_aload_n hx hb dX4_makes_37 rfl (lv_at hl 1 rfl) ?_
        refine z_get (C := RX4) (T := TX4) (N := 14) hx hb hts hiX4 hown hK (hP 0 _ rfl) rfl 0 (by decide) (hts (.fieldLink RX4 48 "HarmoniumDeskModel" "versions" "I") (by decide +kernel)) rfl rfl dX4_makes_38 ?_
        refine z_top (b := σ 0 0) rfl ?_
        refine z_iconst hx hb dX4_makes_41 ?_
        refine lv_iload_n hx hb dX4_makes_42 rfl (lv_at hl 0 rfl) ?_
        refine ro_S (rest := [.ref (ad 5)]) (As := [.int (zi (σ 0 0)), .int (zi (0)), .int (zi ((j : Int)))]) ⟨hx, hb, hml, hown, hts⟩ (c_X4_at l g (σ 0 0) (0) ((j : Int))) (cwS 3 hts gX4_makes_X4_at rfl rfl rfl (by decide +kernel) ⟨Nat.le_of_ble_eq_true rfl, Nat.le_of_ble_eq_true rfl⟩) trivial hK rfl hl.1 rfl (Nat.le_of_ble_eq_true rfl) dX4_makes_43 ⟨Nat.zero_le _, Nat.zero_le _⟩ ?_
        refine lv_aload_n hx hb dX4_makes_46 rfl (lv_at hl 1 rfl) ?_
        refine z_get (C := RX4) (T := TX4) (N := 14) hx hb hts hiX4 hown hK (hP 0 _ rfl) rfl 5 (by decide) (hts (.fieldLink RX4 23 "HarmoniumDeskModel" "notes" "[I") (by decide +kernel)) rfl rfl dX4_makes_47 ?_
        refine lv_iload_n hx hb dX4_makes_50 rfl (lv_at hl 2 rfl) ?_
        refine z_iconst hx hb dX4_makes_51 ?_
        refine lv_iload_n hx hb dX4_makes_52 rfl (lv_at hl 0 rfl) ?_
        refine ro_S (rest := [.ref (ad 5), .int (zi (12 * (2 * (σ 0 0) + (0)) + ((j : Int)))), .ref (ad 5)]) (As := [.int (zi (zk)), .int (zi (0)), .int (zi ((j : Int)))]) ⟨hx, hb, hml, hown, hts⟩ (c_X4_at l g (zk) (0) ((j : Int))) (cwS 3 hts gX4_makes_X4_at rfl rfl rfl (by decide +kernel) ⟨Nat.le_of_ble_eq_true rfl, Nat.le_of_ble_eq_true rfl⟩) trivial hK rfl hl.1 rfl (Nat.le_of_ble_eq_true rfl) dX4_makes_53 ⟨Nat.zero_le _, Nat.zero_le _⟩ ?_
        refine z_iald hx hb hK (hP 5 _ rfl) (24 * k + j) (by omega) (by omega) (by decide) dX4_makes_56 ?_
        refine z_top (b := σ 5 (24 * k + j)) (by rw [sfl_out _ _ _ _ _ (by omega)]; rfl) ?_
        refine z_mast (x := σ 5 (24 * k + j)) hx hb hd hK hP hS 5 5 720 rfl (24 * N + j) (msa5 _ _ _ _ _ _) (by omega) (by omega) (by decide) dX4_makes_57 (fun H locs hP hS => ?_)
        refine z_iinc (b := ((j + 1 : Nat) : Int)) (lv' := [(2, .int (zi (((j + 1 : Nat) : Int)))), (0, .ref (ad 0)), (1, .int (zi (zk)))]) hx hb dX4_makes_58 hl (k := 0) rfl (by omega) (by decide) rfl (fun ls hl => ?_)
        refine lv_goto (tgt := 27) hx hb dX4_makes_61 (by decide) ?_
        rw [sfl_s (sup (sup σ 1 N (σ 1 k)) 2 N (k : Int)) 5 (24 * N) j (24 * N + j) (fun i => σ 5 (i - 24 * N + 24 * k)) (σ 5 (24 * k + j)) rfl (by show _ = σ 5 _; congr 1; omega)] at hP
        exact ih (j + 1) (by omega) (by omega) H locs hP hS ls (lv_sub hl [0, 1, 2] rfl)
  rw [← sfl_0 (sup (sup σ 1 N (σ 1 k)) 2 N (k : Int)) 5 (24 * N) (fun i => σ 5 (i - 24 * N + 24 * k))] at hP
  exact loop27 _ 0 (by omega) rfl _ _ hP hS ls (lv_sub hl [0, 1, 2] rfl)

set_option maxHeartbeats 4000000 in
set_option maxRecDepth 100000 in
theorem c_X4_branch_1 (l : Launch) (g : gG) (ad : Nat → Nat) (σ : SG) (th : Int) (hW : WF σ) (hd : Dst ad) (sz : Nat) (z : Int) (hz : zr z) (hbad : ¬ IsV σ z) : MI l yX4_branch wsX4_branch ({ frames := 2, cells := 0, slots := 0, locals := 43 }) g ad [.int (zi (z))] sz σ th (σ) (1) (0) := by
  refine ZM.ofW (cc := cX4_branch) (maxL := 2) (ret := (some .int)) (by decide) rfl (Nat.le_of_ble_eq_true rfl) ?_
  intro p e s m below meth c ls hx hb hr hml hown hts hlk hP hK hl _
  obtain ⟨rfl, hP, -⟩ := hP
  have hS : va_S (va_A (MWs g ad σ th) s.heap.size) s.heap s.heap [] := va_S.rf
  have hown : s.vm.findClass RX4 = some m.cls := hown
  have hl : lv_has ls 2 [(0, .ref (ad 0)), (1, .int (zi (z)))] := hl
  have hn := hW.n
  refine lv_aload_n hx hb dX4_branch_0 rfl (lv_at hl 0 rfl) ?_
  refine lv_aload_n hx hb dX4_branch_1 rfl (lv_at hl 0 rfl) ?_
  refine lv_iload_n hx hb dX4_branch_2 rfl (lv_at hl 1 rfl) ?_
  refine ro_V (rest := [.ref (ad 0)]) (As := [.int (zi (z))]) ⟨hx, hb, hml, hown, hts⟩ (c_X4_isVersion l g ad σ (th) hW (z) (by omega)) (cwV 1 hts gX4_branch_X4_isVersion rfl rfl rfl (by decide +kernel) ⟨Nat.le_of_ble_eq_true rfl, Nat.le_of_ble_eq_true rfl⟩) (z_recv hK (hP 0 _ rfl) rfl) hP hK rfl hl.1 rfl (Nat.le_of_ble_eq_true rfl) dX4_branch_3 ⟨Nat.zero_le _, Nat.zero_le _⟩ ?_
  refine z_ifp_ne (P := IsV σ (z)) (tgt := 13) hx hb dX4_branch_6 (by decide)  (fun h6 => ?_) (fun h6 => ?_)
  · exfalso; omega
  ·
    refine z_iconst hx hb dX4_branch_9 ?_
    refine lv_goto (tgt := 27) hx hb dX4_branch_10 (by decide) ?_
    refine wi_V (rest := []) (As := [.int (zi (1))]) ⟨hx, hb, hml, hown, hts⟩ (c_X4_fails l g ad σ (th) hW hd _ (1) (by omega)) (cwV 1 hts gX4_branch_X4_fails rfl rfl rfl (by decide +kernel) ⟨Nat.le_of_ble_eq_true rfl, Nat.le_of_ble_eq_true rfl⟩) (z_recv hK (hP 0 _ rfl) rfl) hP trivial hK rfl hl.1 rfl (Nat.le_of_ble_eq_true rfl) dX4_branch_27 ⟨Nat.zero_le _, Nat.zero_le _⟩ hS (MW_fr hS.1) (fun H locs hP _ _ hS => ?_)
    refine z_ifp_eq (P := 0 < (1)) (tgt := 35) hx hb dX4_branch_30 (by decide)  (fun h30 => ?_) (fun h30 => ?_)
    · exfalso; omega
    ·
      refine z_iconst hx hb dX4_branch_33 ?_
      exact z_wiret hx hb hr hlk dX4_branch_34 (by omega) hP hS

set_option maxHeartbeats 4000000 in
set_option maxRecDepth 100000 in
theorem c_X4_branch_2 (l : Launch) (g : gG) (ad : Nat → Nat) (σ : SG) (th : Int) (hW : WF σ) (hd : Dst ad) (sz : Nat) (z : Int) (hz : zr z) (hgood : IsV σ z) (hfull : σ 0 0 = 30) : MI l yX4_branch wsX4_branch ({ frames := 2, cells := 0, slots := 0, locals := 43 }) g ad [.int (zi (z))] sz σ th (σ) (2) (0) := by
  refine ZM.ofW (cc := cX4_branch) (maxL := 2) (ret := (some .int)) (by decide) rfl (Nat.le_of_ble_eq_true rfl) ?_
  intro p e s m below meth c ls hx hb hr hml hown hts hlk hP hK hl _
  obtain ⟨rfl, hP, -⟩ := hP
  have hS : va_S (va_A (MWs g ad σ th) s.heap.size) s.heap s.heap [] := va_S.rf
  have hown : s.vm.findClass RX4 = some m.cls := hown
  have hl : lv_has ls 2 [(0, .ref (ad 0)), (1, .int (zi (z)))] := hl
  have hiX4 : ∀ w ∈ u_ws RX4 TX4 14, w ∈ wsX4_branch := by decide +kernel
  have hn := hW.n
  refine lv_aload_n hx hb dX4_branch_0 rfl (lv_at hl 0 rfl) ?_
  refine lv_aload_n hx hb dX4_branch_1 rfl (lv_at hl 0 rfl) ?_
  refine lv_iload_n hx hb dX4_branch_2 rfl (lv_at hl 1 rfl) ?_
  refine ro_V (rest := [.ref (ad 0)]) (As := [.int (zi (z))]) ⟨hx, hb, hml, hown, hts⟩ (c_X4_isVersion l g ad σ (th) hW (z) (by omega)) (cwV 1 hts gX4_branch_X4_isVersion rfl rfl rfl (by decide +kernel) ⟨Nat.le_of_ble_eq_true rfl, Nat.le_of_ble_eq_true rfl⟩) (z_recv hK (hP 0 _ rfl) rfl) hP hK rfl hl.1 rfl (Nat.le_of_ble_eq_true rfl) dX4_branch_3 ⟨Nat.zero_le _, Nat.zero_le _⟩ ?_
  refine z_ifp_ne (P := IsV σ (z)) (tgt := 13) hx hb dX4_branch_6 (by decide)  (fun h6 => ?_) (fun h6 => ?_)
  ·
    refine lv_aload_n hx hb dX4_branch_13 rfl (lv_at hl 0 rfl) ?_
    refine z_get (C := RX4) (T := TX4) (N := 14) hx hb hts hiX4 hown hK (hP 0 _ rfl) rfl 0 (by decide) (hts (.fieldLink RX4 48 "HarmoniumDeskModel" "versions" "I") (by decide +kernel)) rfl rfl dX4_branch_14 ?_
    refine z_bipush hx hb dX4_branch_17 (by decide) ?_
    refine z_icmp_ne (tgt := 26) hx hb dX4_branch_19 (by decide) (by omega) (by omega) (fun h19 => ?_) (fun h19 => ?_)
    · exfalso; omega
    ·
      refine z_iconst hx hb dX4_branch_22 ?_
      refine lv_goto (tgt := 27) hx hb dX4_branch_23 (by decide) ?_
      refine wi_V (rest := []) (As := [.int (zi (2))]) ⟨hx, hb, hml, hown, hts⟩ (c_X4_fails l g ad σ (th) hW hd _ (2) (by omega)) (cwV 1 hts gX4_branch_X4_fails rfl rfl rfl (by decide +kernel) ⟨Nat.le_of_ble_eq_true rfl, Nat.le_of_ble_eq_true rfl⟩) (z_recv hK (hP 0 _ rfl) rfl) hP trivial hK rfl hl.1 rfl (Nat.le_of_ble_eq_true rfl) dX4_branch_27 ⟨Nat.zero_le _, Nat.zero_le _⟩ hS (MW_fr hS.1) (fun H locs hP _ _ hS => ?_)
      refine z_ifp_eq (P := 0 < (2)) (tgt := 35) hx hb dX4_branch_30 (by decide)  (fun h30 => ?_) (fun h30 => ?_)
      · exfalso; omega
      ·
        refine z_iconst hx hb dX4_branch_33 ?_
        exact z_wiret hx hb hr hlk dX4_branch_34 (by omega) hP hS
  · exfalso; omega

set_option maxHeartbeats 4000000 in
set_option maxRecDepth 100000 in
theorem c_X4_branch_0 (l : Launch) (g : gG) (ad : Nat → Nat) (σ : SG) (th : Int) (hW : WF σ) (hd : Dst ad) (sz : Nat) (k : Nat) (hk : (k : Int) < σ 0 0) (zk : Int) (hzk : zk = (k : Int)) (N : Nat) (hN : σ 0 0 = (N : Int)) (hnf : N < 30) : MI l yX4_branch wsX4_branch ({ frames := 2, cells := 0, slots := 0, locals := 44 }) g ad [.int (zi (zk))] sz σ th (opK σ N k) (0) ((N : Int)) := by
  refine ZM.ofW (cc := cX4_branch) (maxL := 2) (ret := (some .int)) (by decide) rfl (Nat.le_of_ble_eq_true rfl) ?_
  intro p e s m below meth c ls hx hb hr hml hown hts hlk hP hK hl _
  obtain ⟨rfl, hP, -⟩ := hP
  have hS : va_S (va_A (MWs g ad σ th) s.heap.size) s.heap s.heap [] := va_S.rf
  have hown : s.vm.findClass RX4 = some m.cls := hown
  have hl : lv_has ls 2 [(0, .ref (ad 0)), (1, .int (zi (zk)))] := hl
  have hiX4 : ∀ w ∈ u_ws RX4 TX4 14, w ∈ wsX4_branch := by decide +kernel
  have hn := hW.n
  refine lv_aload_n hx hb dX4_branch_0 rfl (lv_at hl 0 rfl) ?_
  refine lv_aload_n hx hb dX4_branch_1 rfl (lv_at hl 0 rfl) ?_
  refine lv_iload_n hx hb dX4_branch_2 rfl (lv_at hl 1 rfl) ?_
  refine ro_V (rest := [.ref (ad 0)]) (As := [.int (zi (zk))]) ⟨hx, hb, hml, hown, hts⟩ (c_X4_isVersion l g ad σ (th) hW (zk) (by omega)) (cwV 1 hts gX4_branch_X4_isVersion rfl rfl rfl (by decide +kernel) ⟨Nat.le_of_ble_eq_true rfl, Nat.le_of_ble_eq_true rfl⟩) (z_recv hK (hP 0 _ rfl) rfl) hP hK rfl hl.1 rfl (Nat.le_of_ble_eq_true rfl) dX4_branch_3 ⟨Nat.zero_le _, Nat.zero_le _⟩ ?_
  refine z_ifp_ne (P := IsV σ (zk)) (tgt := 13) hx hb dX4_branch_6 (by decide)  (fun h6 => ?_) (fun h6 => ?_)
  ·
    refine lv_aload_n hx hb dX4_branch_13 rfl (lv_at hl 0 rfl) ?_
    refine z_get (C := RX4) (T := TX4) (N := 14) hx hb hts hiX4 hown hK (hP 0 _ rfl) rfl 0 (by decide) (hts (.fieldLink RX4 48 "HarmoniumDeskModel" "versions" "I") (by decide +kernel)) rfl rfl dX4_branch_14 ?_
    refine z_bipush hx hb dX4_branch_17 (by decide) ?_
    refine z_icmp_ne (tgt := 26) hx hb dX4_branch_19 (by decide) (by omega) (by omega) (fun h19 => ?_) (fun h19 => ?_)
    ·
      refine z_iconst hx hb dX4_branch_26 ?_
      refine wi_V (rest := []) (As := [.int (zi (0))]) ⟨hx, hb, hml, hown, hts⟩ (c_X4_fails l g ad σ (th) hW hd _ (0) (by omega)) (cwV 1 hts gX4_branch_X4_fails rfl rfl rfl (by decide +kernel) ⟨Nat.le_of_ble_eq_true rfl, Nat.le_of_ble_eq_true rfl⟩) (z_recv hK (hP 0 _ rfl) rfl) hP trivial hK rfl hl.1 rfl (Nat.le_of_ble_eq_true rfl) dX4_branch_27 ⟨Nat.zero_le _, Nat.zero_le _⟩ hS (MW_fr hS.1) (fun H locs hP _ _ hS => ?_)
      refine z_ifp_eq (P := 0 < (0)) (tgt := 35) hx hb dX4_branch_30 (by decide)  (fun h30 => ?_) (fun h30 => ?_)
      ·
        refine lv_aload_n hx hb dX4_branch_35 rfl (lv_at hl 0 rfl) ?_
        refine lv_iload_n hx hb dX4_branch_36 rfl (lv_at hl 1 rfl) ?_
        refine wi_V (rest := []) (As := [.int (zi (zk))]) ⟨hx, hb, hml, hown, hts⟩ (c_X4_makes l g ad σ (0) hW hd _ k hk (zk) (by omega) N hN hnf) (cwV 1 hts gX4_branch_X4_makes rfl rfl rfl (by decide +kernel) ⟨Nat.le_of_ble_eq_true rfl, Nat.le_of_ble_eq_true rfl⟩) (z_recv hK (hP 0 _ rfl) rfl) hP trivial hK rfl hl.1 rfl (Nat.le_of_ble_eq_true rfl) dX4_branch_37 ⟨Nat.zero_le _, Nat.zero_le _⟩ hS (MW_fr hS.1) (fun H locs hP _ _ hS => ?_)
        exact z_wiret hx hb hr hlk dX4_branch_40 (by omega) hP hS
      · exfalso; omega
    · exfalso; omega
  · exfalso; omega

set_option maxHeartbeats 4000000 in
set_option maxRecDepth 100000 in
theorem c_X4_setNote_1 (l : Launch) (g : gG) (ad : Nat → Nat) (σ : SG) (th : Int) (hW : WF σ) (hd : Dst ad) (sz : Nat) (z v b t : Int) (hz : zr z) (hv : zr v) (hb9 : zr b) (ht : zr t) (hbad : ¬ IsN σ z v b) : MI l yX4_setNote wsX4_setNote ({ frames := 3, cells := 0, slots := 0, locals := 66 }) g ad [.int (zi (z)), .int (zi (v)), .int (zi (b)), .int (zi (t))] sz σ th (σ) (1) (0) := by
  refine ZM.ofW (cc := cX4_setNote) (maxL := 7) (ret := (some .int)) (by decide) rfl (Nat.le_of_ble_eq_true rfl) ?_
  intro p e s m below meth c ls hx hb hr hml hown hts hlk hP hK hl _
  obtain ⟨rfl, hP, -⟩ := hP
  have hS : va_S (va_A (MWs g ad σ th) s.heap.size) s.heap s.heap [] := va_S.rf
  have hown : s.vm.findClass RX4 = some m.cls := hown
  have hl : lv_has ls 7 [(0, .ref (ad 0)), (1, .int (zi (z))), (2, .int (zi (v))), (3, .int (zi (b))), (4, .int (zi (t)))] := hl
  have hn := hW.n
  refine lv_aload_n hx hb dX4_setNote_0 rfl (lv_at hl 0 rfl) ?_
  refine lv_iload_n hx hb dX4_setNote_1 rfl (lv_at hl 1 rfl) ?_
  refine lv_iload_n hx hb dX4_setNote_2 rfl (lv_at hl 2 rfl) ?_
  refine lv_iload_n hx hb dX4_setNote_3 rfl (lv_at hl 3 rfl) ?_
  refine ro_V (rest := []) (As := [.int (zi (z)), .int (zi (v)), .int (zi (b))]) ⟨hx, hb, hml, hown, hts⟩ (c_X4_isNote l g ad σ (th) hW (z) (v) (b) (by omega) (by omega) (by omega)) (cwV 3 hts gX4_setNote_X4_isNote rfl rfl rfl (by decide +kernel) ⟨Nat.le_of_ble_eq_true rfl, Nat.le_of_ble_eq_true rfl⟩) (z_recv hK (hP 0 _ rfl) rfl) hP hK rfl hl.1 rfl (Nat.le_of_ble_eq_true rfl) dX4_setNote_4 ⟨Nat.zero_le _, Nat.zero_le _⟩ ?_
  refine lv_istore (lv' := [(5, .int (zi (pz (IsN σ (z) (v) (b))))), (0, .ref (ad 0)), (1, .int (zi (z))), (2, .int (zi (v))), (3, .int (zi (b))), (4, .int (zi (t)))]) hx hb dX4_setNote_7 hl (by decide) rfl (fun ls hl => ?_)
  refine lv_aload_n hx hb dX4_setNote_9 rfl (lv_at hl 1 rfl) ?_
  refine lv_iload hx hb dX4_setNote_10 (lv_at hl 0 rfl) ?_
  refine z_ifp_ne (P := IsN σ (z) (v) (b)) (tgt := 19) hx hb dX4_setNote_12 (by decide)  (fun h12 => ?_) (fun h12 => ?_)
  · exfalso; omega
  ·
    refine z_iconst hx hb dX4_setNote_15 ?_
    refine lv_goto (tgt := 48) hx hb dX4_setNote_16 (by decide) ?_
    refine wi_V (rest := []) (As := [.int (zi (1))]) ⟨hx, hb, hml, hown, hts⟩ (c_X4_fails l g ad σ (th) hW hd _ (1) (by omega)) (cwV 1 hts gX4_setNote_X4_fails rfl rfl rfl (by decide +kernel) ⟨Nat.le_of_ble_eq_true rfl, Nat.le_of_ble_eq_true rfl⟩) (z_recv hK (hP 0 _ rfl) rfl) hP trivial hK rfl hl.1 rfl (Nat.le_of_ble_eq_true rfl) dX4_setNote_48 ⟨Nat.zero_le _, Nat.zero_le _⟩ hS (MW_fr hS.1) (fun H locs hP _ _ hS => ?_)
    refine z_ifp_eq (P := 0 < (1)) (tgt := 56) hx hb dX4_setNote_51 (by decide)  (fun h51 => ?_) (fun h51 => ?_)
    · exfalso; omega
    ·
      refine z_iconst hx hb dX4_setNote_54 ?_
      exact z_wiret hx hb hr hlk dX4_setNote_55 (by omega) hP hS

set_option maxHeartbeats 4000000 in
set_option maxRecDepth 100000 in
theorem c_X4_setNote_2 (l : Launch) (g : gG) (ad : Nat → Nat) (σ : SG) (th : Int) (hW : WF σ) (hd : Dst ad) (sz : Nat) (z v b t : Int) (hz : zr z) (hv : zr v) (hb9 : zr b) (ht : zr t) (hgood : IsN σ z v b) (hbad : ¬ (0 ≤ t ∧ t ≤ 40)) : MI l yX4_setNote wsX4_setNote ({ frames := 3, cells := 0, slots := 0, locals := 66 }) g ad [.int (zi (z)), .int (zi (v)), .int (zi (b)), .int (zi (t))] sz σ th (σ) (2) (0) := by
  refine ZM.ofW (cc := cX4_setNote) (maxL := 7) (ret := (some .int)) (by decide) rfl (Nat.le_of_ble_eq_true rfl) ?_
  intro p e s m below meth c ls hx hb hr hml hown hts hlk hP hK hl _
  obtain ⟨rfl, hP, -⟩ := hP
  have hS : va_S (va_A (MWs g ad σ th) s.heap.size) s.heap s.heap [] := va_S.rf
  have hown : s.vm.findClass RX4 = some m.cls := hown
  have hl : lv_has ls 7 [(0, .ref (ad 0)), (1, .int (zi (z))), (2, .int (zi (v))), (3, .int (zi (b))), (4, .int (zi (t)))] := hl
  have hn := hW.n
  refine lv_aload_n hx hb dX4_setNote_0 rfl (lv_at hl 0 rfl) ?_
  refine lv_iload_n hx hb dX4_setNote_1 rfl (lv_at hl 1 rfl) ?_
  refine lv_iload_n hx hb dX4_setNote_2 rfl (lv_at hl 2 rfl) ?_
  refine lv_iload_n hx hb dX4_setNote_3 rfl (lv_at hl 3 rfl) ?_
  refine ro_V (rest := []) (As := [.int (zi (z)), .int (zi (v)), .int (zi (b))]) ⟨hx, hb, hml, hown, hts⟩ (c_X4_isNote l g ad σ (th) hW (z) (v) (b) (by omega) (by omega) (by omega)) (cwV 3 hts gX4_setNote_X4_isNote rfl rfl rfl (by decide +kernel) ⟨Nat.le_of_ble_eq_true rfl, Nat.le_of_ble_eq_true rfl⟩) (z_recv hK (hP 0 _ rfl) rfl) hP hK rfl hl.1 rfl (Nat.le_of_ble_eq_true rfl) dX4_setNote_4 ⟨Nat.zero_le _, Nat.zero_le _⟩ ?_
  refine lv_istore (lv' := [(5, .int (zi (pz (IsN σ (z) (v) (b))))), (0, .ref (ad 0)), (1, .int (zi (z))), (2, .int (zi (v))), (3, .int (zi (b))), (4, .int (zi (t)))]) hx hb dX4_setNote_7 hl (by decide) rfl (fun ls hl => ?_)
  refine lv_aload_n hx hb dX4_setNote_9 rfl (lv_at hl 1 rfl) ?_
  refine lv_iload hx hb dX4_setNote_10 (lv_at hl 0 rfl) ?_
  refine z_ifp_ne (P := IsN σ (z) (v) (b)) (tgt := 19) hx hb dX4_setNote_12 (by decide)  (fun h12 => ?_) (fun h12 => ?_)
  ·
    refine lv_iload hx hb dX4_setNote_19 (lv_at hl 5 rfl) ?_
    refine z_iconst hx hb dX4_setNote_21 ?_
    refine z_bipush hx hb dX4_setNote_22 (by decide) ?_
    refine ro_S (rest := [.ref (ad 0)]) (As := [.int (zi (t)), .int (zi (0)), .int (zi (40))]) ⟨hx, hb, hml, hown, hts⟩ (c_X4_isIn l g (t) (0) (40) (by omega) (by omega) (by omega)) (cwS 3 hts gX4_setNote_X4_isIn rfl rfl rfl (by decide +kernel) ⟨Nat.le_of_ble_eq_true rfl, Nat.le_of_ble_eq_true rfl⟩) trivial hK rfl hl.1 rfl (Nat.le_of_ble_eq_true rfl) dX4_setNote_24 ⟨Nat.zero_le _, Nat.zero_le _⟩ ?_
    refine z_ifp_ne (P := (0) ≤ (t) ∧ (t) ≤ (40)) (tgt := 34) hx hb dX4_setNote_27 (by decide)  (fun h27 => ?_) (fun h27 => ?_)
    · exfalso; omega
    ·
      refine z_iconst hx hb dX4_setNote_30 ?_
      refine lv_goto (tgt := 48) hx hb dX4_setNote_31 (by decide) ?_
      refine wi_V (rest := []) (As := [.int (zi (2))]) ⟨hx, hb, hml, hown, hts⟩ (c_X4_fails l g ad σ (th) hW hd _ (2) (by omega)) (cwV 1 hts gX4_setNote_X4_fails rfl rfl rfl (by decide +kernel) ⟨Nat.le_of_ble_eq_true rfl, Nat.le_of_ble_eq_true rfl⟩) (z_recv hK (hP 0 _ rfl) rfl) hP trivial hK rfl hl.1 rfl (Nat.le_of_ble_eq_true rfl) dX4_setNote_48 ⟨Nat.zero_le _, Nat.zero_le _⟩ hS (MW_fr hS.1) (fun H locs hP _ _ hS => ?_)
      refine z_ifp_eq (P := 0 < (2)) (tgt := 56) hx hb dX4_setNote_51 (by decide)  (fun h51 => ?_) (fun h51 => ?_)
      · exfalso; omega
      ·
        refine z_iconst hx hb dX4_setNote_54 ?_
        exact z_wiret hx hb hr hlk dX4_setNote_55 (by omega) hP hS
  · exfalso; omega

set_option maxHeartbeats 4000000 in
set_option maxRecDepth 100000 in
theorem c_X4_setNote_3 (l : Launch) (g : gG) (ad : Nat → Nat) (σ : SG) (th : Int) (hW : WF σ) (hd : Dst ad) (sz : Nat) (z v b t : Int) (hz : zr z) (hv : zr v) (hb9 : zr b) (ht : zr t) (hgood : IsN σ z v b) (hg2 : 0 ≤ t ∧ t ≤ 40) (hbad : σ 3 z.toNat = 1) : MI l yX4_setNote wsX4_setNote ({ frames := 3, cells := 0, slots := 0, locals := 66 }) g ad [.int (zi (z)), .int (zi (v)), .int (zi (b)), .int (zi (t))] sz σ th (σ) (3) (0) := by
  refine ZM.ofW (cc := cX4_setNote) (maxL := 7) (ret := (some .int)) (by decide) rfl (Nat.le_of_ble_eq_true rfl) ?_
  intro p e s m below meth c ls hx hb hr hml hown hts hlk hP hK hl _
  obtain ⟨rfl, hP, -⟩ := hP
  have hS : va_S (va_A (MWs g ad σ th) s.heap.size) s.heap s.heap [] := va_S.rf
  have hown : s.vm.findClass RX4 = some m.cls := hown
  have hl : lv_has ls 7 [(0, .ref (ad 0)), (1, .int (zi (z))), (2, .int (zi (v))), (3, .int (zi (b))), (4, .int (zi (t)))] := hl
  have hiX4 : ∀ w ∈ u_ws RX4 TX4 14, w ∈ wsX4_setNote := by decide +kernel
  have hn := hW.n
  have hfl := hW.flag z.toNat
  refine lv_aload_n hx hb dX4_setNote_0 rfl (lv_at hl 0 rfl) ?_
  refine lv_iload_n hx hb dX4_setNote_1 rfl (lv_at hl 1 rfl) ?_
  refine lv_iload_n hx hb dX4_setNote_2 rfl (lv_at hl 2 rfl) ?_
  refine lv_iload_n hx hb dX4_setNote_3 rfl (lv_at hl 3 rfl) ?_
  refine ro_V (rest := []) (As := [.int (zi (z)), .int (zi (v)), .int (zi (b))]) ⟨hx, hb, hml, hown, hts⟩ (c_X4_isNote l g ad σ (th) hW (z) (v) (b) (by omega) (by omega) (by omega)) (cwV 3 hts gX4_setNote_X4_isNote rfl rfl rfl (by decide +kernel) ⟨Nat.le_of_ble_eq_true rfl, Nat.le_of_ble_eq_true rfl⟩) (z_recv hK (hP 0 _ rfl) rfl) hP hK rfl hl.1 rfl (Nat.le_of_ble_eq_true rfl) dX4_setNote_4 ⟨Nat.zero_le _, Nat.zero_le _⟩ ?_
  refine lv_istore (lv' := [(5, .int (zi (pz (IsN σ (z) (v) (b))))), (0, .ref (ad 0)), (1, .int (zi (z))), (2, .int (zi (v))), (3, .int (zi (b))), (4, .int (zi (t)))]) hx hb dX4_setNote_7 hl (by decide) rfl (fun ls hl => ?_)
  refine lv_aload_n hx hb dX4_setNote_9 rfl (lv_at hl 1 rfl) ?_
  refine lv_iload hx hb dX4_setNote_10 (lv_at hl 0 rfl) ?_
  refine z_ifp_ne (P := IsN σ (z) (v) (b)) (tgt := 19) hx hb dX4_setNote_12 (by decide)  (fun h12 => ?_) (fun h12 => ?_)
  ·
    refine lv_iload hx hb dX4_setNote_19 (lv_at hl 5 rfl) ?_
    refine z_iconst hx hb dX4_setNote_21 ?_
    refine z_bipush hx hb dX4_setNote_22 (by decide) ?_
    refine ro_S (rest := [.ref (ad 0)]) (As := [.int (zi (t)), .int (zi (0)), .int (zi (40))]) ⟨hx, hb, hml, hown, hts⟩ (c_X4_isIn l g (t) (0) (40) (by omega) (by omega) (by omega)) (cwS 3 hts gX4_setNote_X4_isIn rfl rfl rfl (by decide +kernel) ⟨Nat.le_of_ble_eq_true rfl, Nat.le_of_ble_eq_true rfl⟩) trivial hK rfl hl.1 rfl (Nat.le_of_ble_eq_true rfl) dX4_setNote_24 ⟨Nat.zero_le _, Nat.zero_le _⟩ ?_
    refine z_ifp_ne (P := (0) ≤ (t) ∧ (t) ≤ (40)) (tgt := 34) hx hb dX4_setNote_27 (by decide)  (fun h27 => ?_) (fun h27 => ?_)
    ·
      refine lv_aload_n hx hb dX4_setNote_34 rfl (lv_at hl 1 rfl) ?_
      refine z_get (C := RX4) (T := TX4) (N := 14) hx hb hts hiX4 hown hK (hP 0 _ rfl) rfl 3 (by decide) (hts (.fieldLink RX4 16 "HarmoniumDeskModel" "isFixed" "[Z") (by decide +kernel)) rfl rfl dX4_setNote_35 ?_
      refine lv_iload_n hx hb dX4_setNote_38 rfl (lv_at hl 2 rfl) ?_
      refine z_zald hx hb hK (hP 3 _ rfl) (z.toNat) (by omega) (by omega) (by decide) dX4_setNote_39 ?_
      refine z_if_eq (tgt := 47) hx hb dX4_setNote_40 (by decide) (by omega) (fun h40 => ?_) (fun h40 => ?_)
      · exfalso; omega
      ·
        refine z_iconst hx hb dX4_setNote_43 ?_
        refine lv_goto (tgt := 48) hx hb dX4_setNote_44 (by decide) ?_
        refine wi_V (rest := []) (As := [.int (zi (3))]) ⟨hx, hb, hml, hown, hts⟩ (c_X4_fails l g ad σ (th) hW hd _ (3) (by omega)) (cwV 1 hts gX4_setNote_X4_fails rfl rfl rfl (by decide +kernel) ⟨Nat.le_of_ble_eq_true rfl, Nat.le_of_ble_eq_true rfl⟩) (z_recv hK (hP 0 _ rfl) rfl) hP trivial hK rfl hl.1 rfl (Nat.le_of_ble_eq_true rfl) dX4_setNote_48 ⟨Nat.zero_le _, Nat.zero_le _⟩ hS (MW_fr hS.1) (fun H locs hP _ _ hS => ?_)
        refine z_ifp_eq (P := 0 < (3)) (tgt := 56) hx hb dX4_setNote_51 (by decide)  (fun h51 => ?_) (fun h51 => ?_)
        · exfalso; omega
        ·
          refine z_iconst hx hb dX4_setNote_54 ?_
          exact z_wiret hx hb hr hlk dX4_setNote_55 (by omega) hP hS
    · exfalso; omega
  · exfalso; omega

set_option maxHeartbeats 4000000 in
set_option maxRecDepth 100000 in
theorem c_X4_setNote_0 (l : Launch) (g : gG) (ad : Nat → Nat) (σ : SG) (th : Int) (hW : WF σ) (hd : Dst ad) (sz : Nat) (k : Nat) (hk : (k : Int) < σ 0 0) (zk : Int) (hzk : zk = (k : Int)) (v : Nat) (hv1 : v ≤ 1) (zv : Int) (hzv : zv = (v : Int)) (b : Nat) (hbb : (b : Int) < σ 1 k) (zb : Int) (hzb : zb = (b : Int)) (t : Int) (hg2 : 0 ≤ t ∧ t ≤ 40) (hfx : σ 3 k = 0) : MI l yX4_setNote wsX4_setNote ({ frames := 3, cells := 0, slots := 0, locals := 66 }) g ad [.int (zi (zk)), .int (zi (zv)), .int (zi (zb)), .int (zi (t))] sz σ th (opN σ k v b t) (0) (NV σ k v b) := by
  refine ZM.ofW (cc := cX4_setNote) (maxL := 7) (ret := (some .int)) (by decide) rfl (Nat.le_of_ble_eq_true rfl) ?_
  intro p e s m below meth c ls hx hb hr hml hown hts hlk hP hK hl _
  obtain ⟨rfl, hP, -⟩ := hP
  have hS : va_S (va_A (MWs g ad σ th) s.heap.size) s.heap s.heap [] := va_S.rf
  have hown : s.vm.findClass RX4 = some m.cls := hown
  have hl : lv_has ls 7 [(0, .ref (ad 0)), (1, .int (zi (zk))), (2, .int (zi (zv))), (3, .int (zi (zb))), (4, .int (zi (t)))] := hl
  have hiX4 : ∀ w ∈ u_ws RX4 TX4 14, w ∈ wsX4_setNote := by decide +kernel
  have hn := hW.n
  have hbk := hW.bars hk
  have ek : zk.toNat = k := by omega
  have hbz : (b : Int) < σ 1 zk.toNat := by rw [ek]; exact hbb
  refine lv_aload_n hx hb dX4_setNote_0 rfl (lv_at hl 0 rfl) ?_
  refine lv_iload_n hx hb dX4_setNote_1 rfl (lv_at hl 1 rfl) ?_
  refine lv_iload_n hx hb dX4_setNote_2 rfl (lv_at hl 2 rfl) ?_
  refine lv_iload_n hx hb dX4_setNote_3 rfl (lv_at hl 3 rfl) ?_
  refine ro_V (rest := []) (As := [.int (zi (zk)), .int (zi (zv)), .int (zi (zb))]) ⟨hx, hb, hml, hown, hts⟩ (c_X4_isNote l g ad σ (th) hW (zk) (zv) (zb) (by omega) (by omega) (by omega)) (cwV 3 hts gX4_setNote_X4_isNote rfl rfl rfl (by decide +kernel) ⟨Nat.le_of_ble_eq_true rfl, Nat.le_of_ble_eq_true rfl⟩) (z_recv hK (hP 0 _ rfl) rfl) hP hK rfl hl.1 rfl (Nat.le_of_ble_eq_true rfl) dX4_setNote_4 ⟨Nat.zero_le _, Nat.zero_le _⟩ ?_
  refine lv_istore (lv' := [(5, .int (zi (pz (IsN σ (zk) (zv) (zb))))), (0, .ref (ad 0)), (1, .int (zi (zk))), (2, .int (zi (zv))), (3, .int (zi (zb))), (4, .int (zi (t)))]) hx hb dX4_setNote_7 hl (by decide) rfl (fun ls hl => ?_)
  refine lv_aload_n hx hb dX4_setNote_9 rfl (lv_at hl 1 rfl) ?_
  refine lv_iload hx hb dX4_setNote_10 (lv_at hl 0 rfl) ?_
  refine z_ifp_ne (P := IsN σ (zk) (zv) (zb)) (tgt := 19) hx hb dX4_setNote_12 (by decide)  (fun h12 => ?_) (fun h12 => ?_)
  ·
    refine lv_iload hx hb dX4_setNote_19 (lv_at hl 5 rfl) ?_
    refine z_iconst hx hb dX4_setNote_21 ?_
    refine z_bipush hx hb dX4_setNote_22 (by decide) ?_
    refine ro_S (rest := [.ref (ad 0)]) (As := [.int (zi (t)), .int (zi (0)), .int (zi (40))]) ⟨hx, hb, hml, hown, hts⟩ (c_X4_isIn l g (t) (0) (40) (by omega) (by omega) (by omega)) (cwS 3 hts gX4_setNote_X4_isIn rfl rfl rfl (by decide +kernel) ⟨Nat.le_of_ble_eq_true rfl, Nat.le_of_ble_eq_true rfl⟩) trivial hK rfl hl.1 rfl (Nat.le_of_ble_eq_true rfl) dX4_setNote_24 ⟨Nat.zero_le _, Nat.zero_le _⟩ ?_
    refine z_ifp_ne (P := (0) ≤ (t) ∧ (t) ≤ (40)) (tgt := 34) hx hb dX4_setNote_27 (by decide)  (fun h27 => ?_) (fun h27 => ?_)
    ·
      refine lv_aload_n hx hb dX4_setNote_34 rfl (lv_at hl 1 rfl) ?_
      refine z_get (C := RX4) (T := TX4) (N := 14) hx hb hts hiX4 hown hK (hP 0 _ rfl) rfl 3 (by decide) (hts (.fieldLink RX4 16 "HarmoniumDeskModel" "isFixed" "[Z") (by decide +kernel)) rfl rfl dX4_setNote_35 ?_
      refine lv_iload_n hx hb dX4_setNote_38 rfl (lv_at hl 2 rfl) ?_
      refine z_zald hx hb hK (hP 3 _ rfl) (k) (by omega) (by omega) (by decide) dX4_setNote_39 ?_
      refine z_if_eq (tgt := 47) hx hb dX4_setNote_40 (by decide) (by omega) (fun h40 => ?_) (fun h40 => ?_)
      ·
        refine z_iconst hx hb dX4_setNote_47 ?_
        refine wi_V (rest := []) (As := [.int (zi (0))]) ⟨hx, hb, hml, hown, hts⟩ (c_X4_fails l g ad σ (th) hW hd _ (0) (by omega)) (cwV 1 hts gX4_setNote_X4_fails rfl rfl rfl (by decide +kernel) ⟨Nat.le_of_ble_eq_true rfl, Nat.le_of_ble_eq_true rfl⟩) (z_recv hK (hP 0 _ rfl) rfl) hP trivial hK rfl hl.1 rfl (Nat.le_of_ble_eq_true rfl) dX4_setNote_48 ⟨Nat.zero_le _, Nat.zero_le _⟩ hS (MW_fr hS.1) (fun H locs hP _ _ hS => ?_)
        refine z_ifp_eq (P := 0 < (0)) (tgt := 56) hx hb dX4_setNote_51 (by decide)  (fun h51 => ?_) (fun h51 => ?_)
        ·
          refine lv_aload_n hx hb dX4_setNote_56 rfl (lv_at hl 1 rfl) ?_
          refine z_get (C := RX4) (T := TX4) (N := 14) hx hb hts hiX4 hown hK (hP 0 _ rfl) rfl 5 (by decide) (hts (.fieldLink RX4 23 "HarmoniumDeskModel" "notes" "[I") (by decide +kernel)) rfl rfl dX4_setNote_57 ?_
          refine lv_iload_n hx hb dX4_setNote_60 rfl (lv_at hl 2 rfl) ?_
          refine lv_iload_n hx hb dX4_setNote_61 rfl (lv_at hl 3 rfl) ?_
          refine lv_iload_n hx hb dX4_setNote_62 rfl (lv_at hl 4 rfl) ?_
          refine ro_S (rest := [.ref (ad 5)]) (As := [.int (zi (zk)), .int (zi (zv)), .int (zi (zb))]) ⟨hx, hb, hml, hown, hts⟩ (c_X4_at l g (zk) (zv) (zb)) (cwS 3 hts gX4_setNote_X4_at rfl rfl rfl (by decide +kernel) ⟨Nat.le_of_ble_eq_true rfl, Nat.le_of_ble_eq_true rfl⟩) trivial hK rfl hl.1 rfl (Nat.le_of_ble_eq_true rfl) dX4_setNote_63 ⟨Nat.zero_le _, Nat.zero_le _⟩ ?_
          refine z_iald hx hb hK (hP 5 _ rfl) (24 * k + 12 * v + b) (by omega) (by omega) (by decide) dX4_setNote_66 ?_
          refine z_top (b := NV σ k v b) (rfl) ?_
          refine lv_istore (lv' := [(6, .int (zi (NV σ k v b))), (5, .int (zi (pz (IsN σ (zk) (zv) (zb))))), (0, .ref (ad 0)), (1, .int (zi (zk))), (2, .int (zi (zv))), (3, .int (zi (zb))), (4, .int (zi (t)))]) hx hb dX4_setNote_67 hl (by decide) rfl (fun ls hl => ?_)
          refine lv_aload_n hx hb dX4_setNote_69 rfl (lv_at hl 2 rfl) ?_
          refine z_get (C := RX4) (T := TX4) (N := 14) hx hb hts hiX4 hown hK (hP 0 _ rfl) rfl 5 (by decide) (hts (.fieldLink RX4 23 "HarmoniumDeskModel" "notes" "[I") (by decide +kernel)) rfl rfl dX4_setNote_70 ?_
          refine lv_iload_n hx hb dX4_setNote_73 rfl (lv_at hl 3 rfl) ?_
          refine lv_iload_n hx hb dX4_setNote_74 rfl (lv_at hl 4 rfl) ?_
          refine lv_iload_n hx hb dX4_setNote_75 rfl (lv_at hl 5 rfl) ?_
          refine ro_S (rest := [.ref (ad 5)]) (As := [.int (zi (zk)), .int (zi (zv)), .int (zi (zb))]) ⟨hx, hb, hml, hown, hts⟩ (c_X4_at l g (zk) (zv) (zb)) (cwS 3 hts gX4_setNote_X4_at rfl rfl rfl (by decide +kernel) ⟨Nat.le_of_ble_eq_true rfl, Nat.le_of_ble_eq_true rfl⟩) trivial hK rfl hl.1 rfl (Nat.le_of_ble_eq_true rfl) dX4_setNote_76 ⟨Nat.zero_le _, Nat.zero_le _⟩ ?_
          refine lv_iload hx hb dX4_setNote_79 (lv_at hl 6 rfl) ?_
          refine z_mast (x := t) hx hb hd hK hP hS 5 5 720 rfl (24 * k + 12 * v + b) (msa5 _ _ _ _ _ _) (by omega) (by omega) (by decide) dX4_setNote_81 (fun H locs hP hS => ?_)
          refine lv_iload hx hb dX4_setNote_82 (lv_at hl 0 rfl) ?_
          exact z_wiret hx hb hr hlk dX4_setNote_84 (rfl) hP hS
        · exfalso; omega
      · exfalso; omega
    · exfalso; omega
  · exfalso; omega

set_option maxHeartbeats 4000000 in
set_option maxRecDepth 100000 in
theorem c_X4_note_1 (l : Launch) (g : gG) (ad : Nat → Nat) (σ : SG) (th : Int) (hW : WF σ) (hd : Dst ad) (sz : Nat) (z v b : Int) (hz : zr z) (hv : zr v) (hb9 : zr b) (hbad : ¬ IsN σ z v b) : MI l yX4_note wsX4_note ({ frames := 3, cells := 0, slots := 0, locals := 66 }) g ad [.int (zi (z)), .int (zi (v)), .int (zi (b))] sz σ th (σ) (1) (0) := by
  refine ZM.ofW (cc := cX4_note) (maxL := 4) (ret := (some .int)) (by decide) rfl (Nat.le_of_ble_eq_true rfl) ?_
  intro p e s m below meth c ls hx hb hr hml hown hts hlk hP hK hl _
  obtain ⟨rfl, hP, -⟩ := hP
  have hS : va_S (va_A (MWs g ad σ th) s.heap.size) s.heap s.heap [] := va_S.rf
  have hown : s.vm.findClass RX4 = some m.cls := hown
  have hl : lv_has ls 4 [(0, .ref (ad 0)), (1, .int (zi (z))), (2, .int (zi (v))), (3, .int (zi (b)))] := hl
  have hn := hW.n
  refine lv_aload_n hx hb dX4_note_0 rfl (lv_at hl 0 rfl) ?_
  refine lv_aload_n hx hb dX4_note_1 rfl (lv_at hl 0 rfl) ?_
  refine lv_iload_n hx hb dX4_note_2 rfl (lv_at hl 1 rfl) ?_
  refine lv_iload_n hx hb dX4_note_3 rfl (lv_at hl 2 rfl) ?_
  refine lv_iload_n hx hb dX4_note_4 rfl (lv_at hl 3 rfl) ?_
  refine ro_V (rest := [.ref (ad 0)]) (As := [.int (zi (z)), .int (zi (v)), .int (zi (b))]) ⟨hx, hb, hml, hown, hts⟩ (c_X4_isNote l g ad σ (th) hW (z) (v) (b) (by omega) (by omega) (by omega)) (cwV 3 hts gX4_note_X4_isNote rfl rfl rfl (by decide +kernel) ⟨Nat.le_of_ble_eq_true rfl, Nat.le_of_ble_eq_true rfl⟩) (z_recv hK (hP 0 _ rfl) rfl) hP hK rfl hl.1 rfl (Nat.le_of_ble_eq_true rfl) dX4_note_5 ⟨Nat.zero_le _, Nat.zero_le _⟩ ?_
  refine z_ifp_eq (P := IsN σ (z) (v) (b)) (tgt := 15) hx hb dX4_note_8 (by decide)  (fun h8 => ?_) (fun h8 => ?_)
  ·
    refine z_iconst hx hb dX4_note_15 ?_
    refine wi_V (rest := []) (As := [.int (zi (1))]) ⟨hx, hb, hml, hown, hts⟩ (c_X4_fails l g ad σ (th) hW hd _ (1) (by omega)) (cwV 1 hts gX4_note_X4_fails rfl rfl rfl (by decide +kernel) ⟨Nat.le_of_ble_eq_true rfl, Nat.le_of_ble_eq_true rfl⟩) (z_recv hK (hP 0 _ rfl) rfl) hP trivial hK rfl hl.1 rfl (Nat.le_of_ble_eq_true rfl) dX4_note_16 ⟨Nat.zero_le _, Nat.zero_le _⟩ hS (MW_fr hS.1) (fun H locs hP _ _ hS => ?_)
    refine z_ifp_eq (P := 0 < (1)) (tgt := 26) hx hb dX4_note_19 (by decide)  (fun h19 => ?_) (fun h19 => ?_)
    · exfalso; omega
    ·
      refine z_iconst hx hb dX4_note_22 ?_
      refine lv_goto (tgt := 37) hx hb dX4_note_23 (by decide) ?_
      exact z_wiret hx hb hr hlk dX4_note_37 (by omega) hP hS
  · exfalso; omega

set_option maxHeartbeats 4000000 in
set_option maxRecDepth 100000 in
theorem c_X4_note_0 (l : Launch) (g : gG) (ad : Nat → Nat) (σ : SG) (th : Int) (hW : WF σ) (hd : Dst ad) (sz : Nat) (k : Nat) (hk : (k : Int) < σ 0 0) (zk : Int) (hzk : zk = (k : Int)) (v : Nat) (hv1 : v ≤ 1) (zv : Int) (hzv : zv = (v : Int)) (b : Nat) (hbb : (b : Int) < σ 1 k) (zb : Int) (hzb : zb = (b : Int))  : MI l yX4_note wsX4_note ({ frames := 3, cells := 0, slots := 0, locals := 66 }) g ad [.int (zi (zk)), .int (zi (zv)), .int (zi (zb))] sz σ th (σ) (0) (NV σ k v b) := by
  refine ZM.ofW (cc := cX4_note) (maxL := 4) (ret := (some .int)) (by decide) rfl (Nat.le_of_ble_eq_true rfl) ?_
  intro p e s m below meth c ls hx hb hr hml hown hts hlk hP hK hl _
  obtain ⟨rfl, hP, -⟩ := hP
  have hS : va_S (va_A (MWs g ad σ th) s.heap.size) s.heap s.heap [] := va_S.rf
  have hown : s.vm.findClass RX4 = some m.cls := hown
  have hl : lv_has ls 4 [(0, .ref (ad 0)), (1, .int (zi (zk))), (2, .int (zi (zv))), (3, .int (zi (zb)))] := hl
  have hiX4 : ∀ w ∈ u_ws RX4 TX4 14, w ∈ wsX4_note := by decide +kernel
  have hn := hW.n
  have hbk := hW.bars hk
  have ek : zk.toNat = k := by omega
  have hbz : (b : Int) < σ 1 zk.toNat := by rw [ek]; exact hbb
  refine lv_aload_n hx hb dX4_note_0 rfl (lv_at hl 0 rfl) ?_
  refine lv_aload_n hx hb dX4_note_1 rfl (lv_at hl 0 rfl) ?_
  refine lv_iload_n hx hb dX4_note_2 rfl (lv_at hl 1 rfl) ?_
  refine lv_iload_n hx hb dX4_note_3 rfl (lv_at hl 2 rfl) ?_
  refine lv_iload_n hx hb dX4_note_4 rfl (lv_at hl 3 rfl) ?_
  refine ro_V (rest := [.ref (ad 0)]) (As := [.int (zi (zk)), .int (zi (zv)), .int (zi (zb))]) ⟨hx, hb, hml, hown, hts⟩ (c_X4_isNote l g ad σ (th) hW (zk) (zv) (zb) (by omega) (by omega) (by omega)) (cwV 3 hts gX4_note_X4_isNote rfl rfl rfl (by decide +kernel) ⟨Nat.le_of_ble_eq_true rfl, Nat.le_of_ble_eq_true rfl⟩) (z_recv hK (hP 0 _ rfl) rfl) hP hK rfl hl.1 rfl (Nat.le_of_ble_eq_true rfl) dX4_note_5 ⟨Nat.zero_le _, Nat.zero_le _⟩ ?_
  refine z_ifp_eq (P := IsN σ (zk) (zv) (zb)) (tgt := 15) hx hb dX4_note_8 (by decide)  (fun h8 => ?_) (fun h8 => ?_)
  · exfalso; omega
  ·
    refine z_iconst hx hb dX4_note_11 ?_
    refine lv_goto (tgt := 16) hx hb dX4_note_12 (by decide) ?_
    refine wi_V (rest := []) (As := [.int (zi (0))]) ⟨hx, hb, hml, hown, hts⟩ (c_X4_fails l g ad σ (th) hW hd _ (0) (by omega)) (cwV 1 hts gX4_note_X4_fails rfl rfl rfl (by decide +kernel) ⟨Nat.le_of_ble_eq_true rfl, Nat.le_of_ble_eq_true rfl⟩) (z_recv hK (hP 0 _ rfl) rfl) hP trivial hK rfl hl.1 rfl (Nat.le_of_ble_eq_true rfl) dX4_note_16 ⟨Nat.zero_le _, Nat.zero_le _⟩ hS (MW_fr hS.1) (fun H locs hP _ _ hS => ?_)
    refine z_ifp_eq (P := 0 < (0)) (tgt := 26) hx hb dX4_note_19 (by decide)  (fun h19 => ?_) (fun h19 => ?_)
    ·
      refine lv_aload_n hx hb dX4_note_26 rfl (lv_at hl 0 rfl) ?_
      refine z_get (C := RX4) (T := TX4) (N := 14) hx hb hts hiX4 hown hK (hP 0 _ rfl) rfl 5 (by decide) (hts (.fieldLink RX4 23 "HarmoniumDeskModel" "notes" "[I") (by decide +kernel)) rfl rfl dX4_note_27 ?_
      refine lv_iload_n hx hb dX4_note_30 rfl (lv_at hl 1 rfl) ?_
      refine lv_iload_n hx hb dX4_note_31 rfl (lv_at hl 2 rfl) ?_
      refine lv_iload_n hx hb dX4_note_32 rfl (lv_at hl 3 rfl) ?_
      refine ro_S (rest := [.ref (ad 5)]) (As := [.int (zi (zk)), .int (zi (zv)), .int (zi (zb))]) ⟨hx, hb, hml, hown, hts⟩ (c_X4_at l g (zk) (zv) (zb)) (cwS 3 hts gX4_note_X4_at rfl rfl rfl (by decide +kernel) ⟨Nat.le_of_ble_eq_true rfl, Nat.le_of_ble_eq_true rfl⟩) trivial hK rfl hl.1 rfl (Nat.le_of_ble_eq_true rfl) dX4_note_33 ⟨Nat.zero_le _, Nat.zero_le _⟩ ?_
      refine z_iald hx hb hK (hP 5 _ rfl) (24 * k + 12 * v + b) (by omega) (by omega) (by decide) dX4_note_36 ?_
      refine z_top (b := NV σ k v b) (rfl) ?_
      exact z_wiret hx hb hr hlk dX4_note_37 (rfl) hP hS
    · exfalso; omega

set_option maxHeartbeats 4000000 in
set_option maxRecDepth 100000 in
theorem c_X4_base_1 (l : Launch) (g : gG) (ad : Nat → Nat) (σ : SG) (th : Int) (hW : WF σ) (hd : Dst ad) (sz : Nat) (z y : Int) (hz : zr z) (hy : zr y) (hbad : ¬ (IsV σ z ∧ IsV σ y)) : MI l yX4_base wsX4_base ({ frames := 2, cells := 0, slots := 0, locals := 43 }) g ad [.int (zi (z)), .int (zi (y))] sz σ th (σ) (1) (0) := by
  refine ZM.ofW (cc := cX4_base) (maxL := 3) (ret := (some .int)) (by decide) rfl (Nat.le_of_ble_eq_true rfl) ?_
  intro p e s m below meth c ls hx hb hr hml hown hts hlk hP hK hl _
  obtain ⟨rfl, hP, -⟩ := hP
  have hS : va_S (va_A (MWs g ad σ th) s.heap.size) s.heap s.heap [] := va_S.rf
  have hown : s.vm.findClass RX4 = some m.cls := hown
  have hl : lv_has ls 3 [(0, .ref (ad 0)), (1, .int (zi (z))), (2, .int (zi (y)))] := hl
  have hn := hW.n
  refine lv_aload_n hx hb dX4_base_0 rfl (lv_at hl 0 rfl) ?_
  refine lv_aload_n hx hb dX4_base_1 rfl (lv_at hl 0 rfl) ?_
  refine lv_iload_n hx hb dX4_base_2 rfl (lv_at hl 1 rfl) ?_
  refine ro_V (rest := [.ref (ad 0)]) (As := [.int (zi (z))]) ⟨hx, hb, hml, hown, hts⟩ (c_X4_isVersion l g ad σ (th) hW (z) (by omega)) (cwV 1 hts gX4_base_X4_isVersion rfl rfl rfl (by decide +kernel) ⟨Nat.le_of_ble_eq_true rfl, Nat.le_of_ble_eq_true rfl⟩) (z_recv hK (hP 0 _ rfl) rfl) hP hK rfl hl.1 rfl (Nat.le_of_ble_eq_true rfl) dX4_base_3 ⟨Nat.zero_le _, Nat.zero_le _⟩ ?_
  refine z_ifp_eq (P := IsV σ (z)) (tgt := 21) hx hb dX4_base_6 (by decide)  (fun h6 => ?_) (fun h6 => ?_)
  ·
    refine z_iconst hx hb dX4_base_21 ?_
    refine wi_V (rest := []) (As := [.int (zi (1))]) ⟨hx, hb, hml, hown, hts⟩ (c_X4_fails l g ad σ (th) hW hd _ (1) (by omega)) (cwV 1 hts gX4_base_X4_fails rfl rfl rfl (by decide +kernel) ⟨Nat.le_of_ble_eq_true rfl, Nat.le_of_ble_eq_true rfl⟩) (z_recv hK (hP 0 _ rfl) rfl) hP trivial hK rfl hl.1 rfl (Nat.le_of_ble_eq_true rfl) dX4_base_22 ⟨Nat.zero_le _, Nat.zero_le _⟩ hS (MW_fr hS.1) (fun H locs hP _ _ hS => ?_)
    refine z_ifp_eq (P := 0 < (1)) (tgt := 32) hx hb dX4_base_25 (by decide)  (fun h25 => ?_) (fun h25 => ?_)
    · exfalso; omega
    ·
      refine z_iconst hx hb dX4_base_28 ?_
      refine lv_goto (tgt := 38) hx hb dX4_base_29 (by decide) ?_
      exact z_wiret hx hb hr hlk dX4_base_38 (by omega) hP hS
  ·
    refine lv_aload_n hx hb dX4_base_9 rfl (lv_at hl 0 rfl) ?_
    refine lv_iload_n hx hb dX4_base_10 rfl (lv_at hl 2 rfl) ?_
    refine ro_V (rest := [.ref (ad 0)]) (As := [.int (zi (y))]) ⟨hx, hb, hml, hown, hts⟩ (c_X4_isVersion l g ad σ (th) hW (y) (by omega)) (cwV 1 hts gX4_base_X4_isVersion rfl rfl rfl (by decide +kernel) ⟨Nat.le_of_ble_eq_true rfl, Nat.le_of_ble_eq_true rfl⟩) (z_recv hK (hP 0 _ rfl) rfl) hP hK rfl hl.1 rfl (Nat.le_of_ble_eq_true rfl) dX4_base_11 ⟨Nat.zero_le _, Nat.zero_le _⟩ ?_
    refine z_ifp_eq (P := IsV σ (y)) (tgt := 21) hx hb dX4_base_14 (by decide)  (fun h14 => ?_) (fun h14 => ?_)
    ·
      refine z_iconst hx hb dX4_base_21 ?_
      refine wi_V (rest := []) (As := [.int (zi (1))]) ⟨hx, hb, hml, hown, hts⟩ (c_X4_fails l g ad σ (th) hW hd _ (1) (by omega)) (cwV 1 hts gX4_base_X4_fails rfl rfl rfl (by decide +kernel) ⟨Nat.le_of_ble_eq_true rfl, Nat.le_of_ble_eq_true rfl⟩) (z_recv hK (hP 0 _ rfl) rfl) hP trivial hK rfl hl.1 rfl (Nat.le_of_ble_eq_true rfl) dX4_base_22 ⟨Nat.zero_le _, Nat.zero_le _⟩ hS (MW_fr hS.1) (fun H locs hP _ _ hS => ?_)
      refine z_ifp_eq (P := 0 < (1)) (tgt := 32) hx hb dX4_base_25 (by decide)  (fun h25 => ?_) (fun h25 => ?_)
      · exfalso; omega
      ·
        refine z_iconst hx hb dX4_base_28 ?_
        refine lv_goto (tgt := 38) hx hb dX4_base_29 (by decide) ?_
        exact z_wiret hx hb hr hlk dX4_base_38 (by omega) hP hS
    · exfalso; omega

set_option maxHeartbeats 4000000 in
set_option maxRecDepth 100000 in
theorem c_X4_base_0 (l : Launch) (g : gG) (ad : Nat → Nat) (σ : SG) (th : Int) (hW : WF σ) (hd : Dst ad) (sz : Nat) (z y : Int) (hz : zr z) (hy : zr y) (hg : IsV σ z) (hg2 : IsV σ y) : MI l yX4_base wsX4_base ({ frames := 2, cells := 0, slots := 0, locals := 48 }) g ad [.int (zi (z)), .int (zi (y))] sz σ th (σ) (0) (bs (σ 2) z y (σ 0 0).toNat) := by
  refine ZM.ofW (cc := cX4_base) (maxL := 3) (ret := (some .int)) (by decide) rfl (Nat.le_of_ble_eq_true rfl) ?_
  intro p e s m below meth c ls hx hb hr hml hown hts hlk hP hK hl _
  obtain ⟨rfl, hP, -⟩ := hP
  have hS : va_S (va_A (MWs g ad σ th) s.heap.size) s.heap s.heap [] := va_S.rf
  have hown : s.vm.findClass RX4 = some m.cls := hown
  have hl : lv_has ls 3 [(0, .ref (ad 0)), (1, .int (zi (z))), (2, .int (zi (y)))] := hl
  have hn := hW.n
  refine lv_aload_n hx hb dX4_base_0 rfl (lv_at hl 0 rfl) ?_
  refine lv_aload_n hx hb dX4_base_1 rfl (lv_at hl 0 rfl) ?_
  refine lv_iload_n hx hb dX4_base_2 rfl (lv_at hl 1 rfl) ?_
  refine ro_V (rest := [.ref (ad 0)]) (As := [.int (zi (z))]) ⟨hx, hb, hml, hown, hts⟩ (c_X4_isVersion l g ad σ (th) hW (z) (by omega)) (cwV 1 hts gX4_base_X4_isVersion rfl rfl rfl (by decide +kernel) ⟨Nat.le_of_ble_eq_true rfl, Nat.le_of_ble_eq_true rfl⟩) (z_recv hK (hP 0 _ rfl) rfl) hP hK rfl hl.1 rfl (Nat.le_of_ble_eq_true rfl) dX4_base_3 ⟨Nat.zero_le _, Nat.zero_le _⟩ ?_
  refine z_ifp_eq (P := IsV σ (z)) (tgt := 21) hx hb dX4_base_6 (by decide)  (fun h6 => ?_) (fun h6 => ?_)
  · exfalso; omega
  ·
    refine lv_aload_n hx hb dX4_base_9 rfl (lv_at hl 0 rfl) ?_
    refine lv_iload_n hx hb dX4_base_10 rfl (lv_at hl 2 rfl) ?_
    refine ro_V (rest := [.ref (ad 0)]) (As := [.int (zi (y))]) ⟨hx, hb, hml, hown, hts⟩ (c_X4_isVersion l g ad σ (th) hW (y) (by omega)) (cwV 1 hts gX4_base_X4_isVersion rfl rfl rfl (by decide +kernel) ⟨Nat.le_of_ble_eq_true rfl, Nat.le_of_ble_eq_true rfl⟩) (z_recv hK (hP 0 _ rfl) rfl) hP hK rfl hl.1 rfl (Nat.le_of_ble_eq_true rfl) dX4_base_11 ⟨Nat.zero_le _, Nat.zero_le _⟩ ?_
    refine z_ifp_eq (P := IsV σ (y)) (tgt := 21) hx hb dX4_base_14 (by decide)  (fun h14 => ?_) (fun h14 => ?_)
    · exfalso; omega
    ·
      refine z_iconst hx hb dX4_base_17 ?_
      refine lv_goto (tgt := 22) hx hb dX4_base_18 (by decide) ?_
      refine wi_V (rest := []) (As := [.int (zi (0))]) ⟨hx, hb, hml, hown, hts⟩ (c_X4_fails l g ad σ (th) hW hd _ (0) (by omega)) (cwV 1 hts gX4_base_X4_fails rfl rfl rfl (by decide +kernel) ⟨Nat.le_of_ble_eq_true rfl, Nat.le_of_ble_eq_true rfl⟩) (z_recv hK (hP 0 _ rfl) rfl) hP trivial hK rfl hl.1 rfl (Nat.le_of_ble_eq_true rfl) dX4_base_22 ⟨Nat.zero_le _, Nat.zero_le _⟩ hS (MW_fr hS.1) (fun H locs hP _ _ hS => ?_)
      refine z_ifp_eq (P := 0 < (0)) (tgt := 32) hx hb dX4_base_25 (by decide)  (fun h25 => ?_) (fun h25 => ?_)
      ·
        refine lv_aload_n hx hb dX4_base_32 rfl (lv_at hl 0 rfl) ?_
        refine lv_iload_n hx hb dX4_base_33 rfl (lv_at hl 1 rfl) ?_
        refine lv_iload_n hx hb dX4_base_34 rfl (lv_at hl 2 rfl) ?_
        refine ro_V (rest := []) (As := [.int (zi (z)), .int (zi (y))]) ⟨hx, hb, hml, hown, hts⟩ (c_X4_baseOf l g ad σ (0) hW (z) (y) (by omega) (by omega)) (cwV 2 hts gX4_base_X4_baseOf rfl rfl rfl (by decide +kernel) ⟨Nat.le_of_ble_eq_true rfl, Nat.le_of_ble_eq_true rfl⟩) (z_recv hK (hP 0 _ rfl) rfl) hP hK rfl hl.1 rfl (Nat.le_of_ble_eq_true rfl) dX4_base_35 ⟨Nat.zero_le _, Nat.zero_le _⟩ ?_
        exact z_wiret hx hb hr hlk dX4_base_38 (rfl) hP hS
      · exfalso; omega
end
section
set_option maxHeartbeats 4000000 in
set_option maxRecDepth 100000 in
theorem c_X4_conflicts_1 (l : Launch) (g : gG) (ad : Nat → Nat) (σ : SG) (th : Int) (hW : WF σ) (hd : Dst ad) (sz : Nat) (z y : Int) (hz : zr z) (hy : zr y) (hbad : ¬ (IsV σ z ∧ IsV σ y)) : MI l yX4_conflicts wsX4_conflicts ({ frames := 2, cells := 0, slots := 0, locals := 43 }) g ad [.int (zi (z)), .int (zi (y))] sz σ th (σ) (1) (0) := by
  refine ZM.ofW (cc := cX4_conflicts) (maxL := 7) (ret := (some .int)) (by decide) rfl (Nat.le_of_ble_eq_true rfl) ?_
  intro p e s m below meth c ls hx hb hr hml hown hts hlk hP hK hl _
  obtain ⟨rfl, hP, -⟩ := hP
  have hS : va_S (va_A (MWs g ad σ th) s.heap.size) s.heap s.heap [] := va_S.rf
  have hown : s.vm.findClass RX4 = some m.cls := hown
  have hl : lv_has ls 7 [(0, .ref (ad 0)), (1, .int (zi (z))), (2, .int (zi (y)))] := hl
  have hn := hW.n
  refine lv_aload_n hx hb dX4_conflicts_0 rfl (lv_at hl 0 rfl) ?_
  refine lv_iload_n hx hb dX4_conflicts_1 rfl (lv_at hl 1 rfl) ?_
  refine ro_V (rest := []) (As := [.int (zi (z))]) ⟨hx, hb, hml, hown, hts⟩ (c_X4_isVersion l g ad σ (th) hW (z) (by omega)) (cwV 1 hts gX4_conflicts_X4_isVersion rfl rfl rfl (by decide +kernel) ⟨Nat.le_of_ble_eq_true rfl, Nat.le_of_ble_eq_true rfl⟩) (z_recv hK (hP 0 _ rfl) rfl) hP hK rfl hl.1 rfl (Nat.le_of_ble_eq_true rfl) dX4_conflicts_2 ⟨Nat.zero_le _, Nat.zero_le _⟩ ?_
  refine z_ifp_eq (P := IsV σ (z)) (tgt := 20) hx hb dX4_conflicts_5 (by decide)  (fun h5 => ?_) (fun h5 => ?_)
  ·
    refine z_iconst hx hb dX4_conflicts_20 ?_
    refine lv_istore_n (lv' := [(3, .int (zi (0))), (0, .ref (ad 0)), (1, .int (zi (z))), (2, .int (zi (y)))]) hx hb dX4_conflicts_21 rfl hl (by decide) rfl (fun ls hl => ?_)
    refine lv_aload_n hx hb dX4_conflicts_22 rfl (lv_at hl 1 rfl) ?_
    refine lv_iload_n hx hb dX4_conflicts_23 rfl (lv_at hl 0 rfl) ?_
    refine z_if_ne (tgt := 31) hx hb dX4_conflicts_24 (by decide) (by omega) (fun h24 => ?_) (fun h24 => ?_)
    · exfalso; omega
    ·
      refine z_iconst hx hb dX4_conflicts_27 ?_
      refine lv_goto (tgt := 46) hx hb dX4_conflicts_28 (by decide) ?_
      refine wi_V (rest := []) (As := [.int (zi (1))]) ⟨hx, hb, hml, hown, hts⟩ (c_X4_fails l g ad σ (th) hW hd _ (1) (by omega)) (cwV 1 hts gX4_conflicts_X4_fails rfl rfl rfl (by decide +kernel) ⟨Nat.le_of_ble_eq_true rfl, Nat.le_of_ble_eq_true rfl⟩) (z_recv hK (hP 0 _ rfl) rfl) hP trivial hK rfl hl.1 rfl (Nat.le_of_ble_eq_true rfl) dX4_conflicts_46 ⟨Nat.zero_le _, Nat.zero_le _⟩ hS (MW_fr hS.1) (fun H locs hP _ _ hS => ?_)
      refine z_ifp_eq (P := 0 < (1)) (tgt := 54) hx hb dX4_conflicts_49 (by decide)  (fun h49 => ?_) (fun h49 => ?_)
      · exfalso; omega
      ·
        refine z_iconst hx hb dX4_conflicts_52 ?_
        exact z_wiret hx hb hr hlk dX4_conflicts_53 (by omega) hP hS
  ·
    refine lv_aload_n hx hb dX4_conflicts_8 rfl (lv_at hl 0 rfl) ?_
    refine lv_iload_n hx hb dX4_conflicts_9 rfl (lv_at hl 2 rfl) ?_
    refine ro_V (rest := []) (As := [.int (zi (y))]) ⟨hx, hb, hml, hown, hts⟩ (c_X4_isVersion l g ad σ (th) hW (y) (by omega)) (cwV 1 hts gX4_conflicts_X4_isVersion rfl rfl rfl (by decide +kernel) ⟨Nat.le_of_ble_eq_true rfl, Nat.le_of_ble_eq_true rfl⟩) (z_recv hK (hP 0 _ rfl) rfl) hP hK rfl hl.1 rfl (Nat.le_of_ble_eq_true rfl) dX4_conflicts_10 ⟨Nat.zero_le _, Nat.zero_le _⟩ ?_
    refine z_ifp_eq (P := IsV σ (y)) (tgt := 20) hx hb dX4_conflicts_13 (by decide)  (fun h13 => ?_) (fun h13 => ?_)
    ·
      refine z_iconst hx hb dX4_conflicts_20 ?_
      refine lv_istore_n (lv' := [(3, .int (zi (0))), (0, .ref (ad 0)), (1, .int (zi (z))), (2, .int (zi (y)))]) hx hb dX4_conflicts_21 rfl hl (by decide) rfl (fun ls hl => ?_)
      refine lv_aload_n hx hb dX4_conflicts_22 rfl (lv_at hl 1 rfl) ?_
      refine lv_iload_n hx hb dX4_conflicts_23 rfl (lv_at hl 0 rfl) ?_
      refine z_if_ne (tgt := 31) hx hb dX4_conflicts_24 (by decide) (by omega) (fun h24 => ?_) (fun h24 => ?_)
      · exfalso; omega
      ·
        refine z_iconst hx hb dX4_conflicts_27 ?_
        refine lv_goto (tgt := 46) hx hb dX4_conflicts_28 (by decide) ?_
        refine wi_V (rest := []) (As := [.int (zi (1))]) ⟨hx, hb, hml, hown, hts⟩ (c_X4_fails l g ad σ (th) hW hd _ (1) (by omega)) (cwV 1 hts gX4_conflicts_X4_fails rfl rfl rfl (by decide +kernel) ⟨Nat.le_of_ble_eq_true rfl, Nat.le_of_ble_eq_true rfl⟩) (z_recv hK (hP 0 _ rfl) rfl) hP trivial hK rfl hl.1 rfl (Nat.le_of_ble_eq_true rfl) dX4_conflicts_46 ⟨Nat.zero_le _, Nat.zero_le _⟩ hS (MW_fr hS.1) (fun H locs hP _ _ hS => ?_)
        refine z_ifp_eq (P := 0 < (1)) (tgt := 54) hx hb dX4_conflicts_49 (by decide)  (fun h49 => ?_) (fun h49 => ?_)
        · exfalso; omega
        ·
          refine z_iconst hx hb dX4_conflicts_52 ?_
          exact z_wiret hx hb hr hlk dX4_conflicts_53 (by omega) hP hS
    · exfalso; omega

set_option maxHeartbeats 4000000 in
set_option maxRecDepth 100000 in
theorem c_X4_conflicts_2 (l : Launch) (g : gG) (ad : Nat → Nat) (σ : SG) (th : Int) (hW : WF σ) (hd : Dst ad) (sz : Nat) (z y : Int) (hz : zr z) (hy : zr y) (hg : IsV σ z) (hg2 : IsV σ y) (hbad : bs (σ 2) z y (σ 0 0).toNat = -1) : MI l yX4_conflicts wsX4_conflicts ({ frames := 2, cells := 0, slots := 0, locals := 48 }) g ad [.int (zi (z)), .int (zi (y))] sz σ th (σ) (2) (0) := by
  refine ZM.ofW (cc := cX4_conflicts) (maxL := 7) (ret := (some .int)) (by decide) rfl (Nat.le_of_ble_eq_true rfl) ?_
  intro p e s m below meth c ls hx hb hr hml hown hts hlk hP hK hl _
  obtain ⟨rfl, hP, -⟩ := hP
  have hS : va_S (va_A (MWs g ad σ th) s.heap.size) s.heap s.heap [] := va_S.rf
  have hown : s.vm.findClass RX4 = some m.cls := hown
  have hl : lv_has ls 7 [(0, .ref (ad 0)), (1, .int (zi (z))), (2, .int (zi (y)))] := hl
  have hn := hW.n
  have hbsr := bs_r (σ 2) z y (σ 0 0).toNat
  refine lv_aload_n hx hb dX4_conflicts_0 rfl (lv_at hl 0 rfl) ?_
  refine lv_iload_n hx hb dX4_conflicts_1 rfl (lv_at hl 1 rfl) ?_
  refine ro_V (rest := []) (As := [.int (zi (z))]) ⟨hx, hb, hml, hown, hts⟩ (c_X4_isVersion l g ad σ (th) hW (z) (by omega)) (cwV 1 hts gX4_conflicts_X4_isVersion rfl rfl rfl (by decide +kernel) ⟨Nat.le_of_ble_eq_true rfl, Nat.le_of_ble_eq_true rfl⟩) (z_recv hK (hP 0 _ rfl) rfl) hP hK rfl hl.1 rfl (Nat.le_of_ble_eq_true rfl) dX4_conflicts_2 ⟨Nat.zero_le _, Nat.zero_le _⟩ ?_
  refine z_ifp_eq (P := IsV σ (z)) (tgt := 20) hx hb dX4_conflicts_5 (by decide)  (fun h5 => ?_) (fun h5 => ?_)
  · exfalso; omega
  ·
    refine lv_aload_n hx hb dX4_conflicts_8 rfl (lv_at hl 0 rfl) ?_
    refine lv_iload_n hx hb dX4_conflicts_9 rfl (lv_at hl 2 rfl) ?_
    refine ro_V (rest := []) (As := [.int (zi (y))]) ⟨hx, hb, hml, hown, hts⟩ (c_X4_isVersion l g ad σ (th) hW (y) (by omega)) (cwV 1 hts gX4_conflicts_X4_isVersion rfl rfl rfl (by decide +kernel) ⟨Nat.le_of_ble_eq_true rfl, Nat.le_of_ble_eq_true rfl⟩) (z_recv hK (hP 0 _ rfl) rfl) hP hK rfl hl.1 rfl (Nat.le_of_ble_eq_true rfl) dX4_conflicts_10 ⟨Nat.zero_le _, Nat.zero_le _⟩ ?_
    refine z_ifp_eq (P := IsV σ (y)) (tgt := 20) hx hb dX4_conflicts_13 (by decide)  (fun h13 => ?_) (fun h13 => ?_)
    · exfalso; omega
    ·
      refine z_iconst hx hb dX4_conflicts_16 ?_
      refine lv_goto (tgt := 21) hx hb dX4_conflicts_17 (by decide) ?_
      refine lv_istore_n (lv' := [(3, .int (zi (1))), (0, .ref (ad 0)), (1, .int (zi (z))), (2, .int (zi (y)))]) hx hb dX4_conflicts_21 rfl hl (by decide) rfl (fun ls hl => ?_)
      refine lv_aload_n hx hb dX4_conflicts_22 rfl (lv_at hl 1 rfl) ?_
      refine lv_iload_n hx hb dX4_conflicts_23 rfl (lv_at hl 0 rfl) ?_
      refine z_if_ne (tgt := 31) hx hb dX4_conflicts_24 (by decide) (by omega) (fun h24 => ?_) (fun h24 => ?_)
      ·
        refine lv_aload_n hx hb dX4_conflicts_31 rfl (lv_at hl 1 rfl) ?_
        refine lv_iload_n hx hb dX4_conflicts_32 rfl (lv_at hl 2 rfl) ?_
        refine lv_iload_n hx hb dX4_conflicts_33 rfl (lv_at hl 3 rfl) ?_
        refine ro_V (rest := [.ref (ad 0)]) (As := [.int (zi (z)), .int (zi (y))]) ⟨hx, hb, hml, hown, hts⟩ (c_X4_baseOf l g ad σ (th) hW (z) (y) (by omega) (by omega)) (cwV 2 hts gX4_conflicts_X4_baseOf rfl rfl rfl (by decide +kernel) ⟨Nat.le_of_ble_eq_true rfl, Nat.le_of_ble_eq_true rfl⟩) (z_recv hK (hP 0 _ rfl) rfl) hP hK rfl hl.1 rfl (Nat.le_of_ble_eq_true rfl) dX4_conflicts_34 ⟨Nat.zero_le _, Nat.zero_le _⟩ ?_
        refine z_iconst hx hb dX4_conflicts_37 ?_
        refine z_icmp_ne (tgt := 45) hx hb dX4_conflicts_38 (by decide) (by omega) (by omega) (fun h38 => ?_) (fun h38 => ?_)
        · exfalso; omega
        ·
          refine z_iconst hx hb dX4_conflicts_41 ?_
          refine lv_goto (tgt := 46) hx hb dX4_conflicts_42 (by decide) ?_
          refine wi_V (rest := []) (As := [.int (zi (2))]) ⟨hx, hb, hml, hown, hts⟩ (c_X4_fails l g ad σ (th) hW hd _ (2) (by omega)) (cwV 1 hts gX4_conflicts_X4_fails rfl rfl rfl (by decide +kernel) ⟨Nat.le_of_ble_eq_true rfl, Nat.le_of_ble_eq_true rfl⟩) (z_recv hK (hP 0 _ rfl) rfl) hP trivial hK rfl hl.1 rfl (Nat.le_of_ble_eq_true rfl) dX4_conflicts_46 ⟨Nat.zero_le _, Nat.zero_le _⟩ hS (MW_fr hS.1) (fun H locs hP _ _ hS => ?_)
          refine z_ifp_eq (P := 0 < (2)) (tgt := 54) hx hb dX4_conflicts_49 (by decide)  (fun h49 => ?_) (fun h49 => ?_)
          · exfalso; omega
          ·
            refine z_iconst hx hb dX4_conflicts_52 ?_
            exact z_wiret hx hb hr hlk dX4_conflicts_53 (by omega) hP hS
      · exfalso; omega

set_option maxHeartbeats 4000000 in
set_option maxRecDepth 100000 in
theorem c_X4_conflicts_0 (l : Launch) (g : gG) (ad : Nat → Nat) (σ : SG) (th : Int) (hW : WF σ) (hd : Dst ad) (sz : Nat) (i : Nat) (hi : (i : Int) < σ 0 0) (zi1 : Int) (hzi : zi1 = (i : Int)) (j : Nat) (hj : (j : Int) < σ 0 0) (zj : Int) (hzj : zj = (j : Int)) (bn : Nat) (hbn : bs (σ 2) zi1 zj (σ 0 0).toNat = (bn : Int))  : MI l yX4_conflicts wsX4_conflicts ({ frames := 2, cells := 0, slots := 0, locals := 48 }) g ad [.int (zi (zi1)), .int (zi (zj))] sz σ th (σ) (0) ((sset (cfB σ i j bn) (σ 1 i).toNat).toInt) := by
  refine ZM.ofW (cc := cX4_conflicts) (maxL := 7) (ret := (some .int)) (by decide) rfl (Nat.le_of_ble_eq_true rfl) ?_
  intro p e s m below meth c ls hx hb hr hml hown hts hlk hP hK hl _
  obtain ⟨rfl, hP, -⟩ := hP
  have hS : va_S (va_A (MWs g ad σ th) s.heap.size) s.heap s.heap [] := va_S.rf
  have hown : s.vm.findClass RX4 = some m.cls := hown
  have hl : lv_has ls 7 [(0, .ref (ad 0)), (1, .int (zi (zi1))), (2, .int (zi (zj)))] := hl
  have hiX4 : ∀ w ∈ u_ws RX4 TX4 14, w ∈ wsX4_conflicts := by decide +kernel
  have hn := hW.n
  have hbsr := bs_r (σ 2) zi1 zj (σ 0 0).toNat
  have hbi := hW.bars hi
  refine lv_aload_n hx hb dX4_conflicts_0 rfl (lv_at hl 0 rfl) ?_
  refine lv_iload_n hx hb dX4_conflicts_1 rfl (lv_at hl 1 rfl) ?_
  refine ro_V (rest := []) (As := [.int (zi (zi1))]) ⟨hx, hb, hml, hown, hts⟩ (c_X4_isVersion l g ad σ (th) hW (zi1) (by omega)) (cwV 1 hts gX4_conflicts_X4_isVersion rfl rfl rfl (by decide +kernel) ⟨Nat.le_of_ble_eq_true rfl, Nat.le_of_ble_eq_true rfl⟩) (z_recv hK (hP 0 _ rfl) rfl) hP hK rfl hl.1 rfl (Nat.le_of_ble_eq_true rfl) dX4_conflicts_2 ⟨Nat.zero_le _, Nat.zero_le _⟩ ?_
  refine z_ifp_eq (P := IsV σ (zi1)) (tgt := 20) hx hb dX4_conflicts_5 (by decide)  (fun h5 => ?_) (fun h5 => ?_)
  · exfalso; omega
  ·
    refine lv_aload_n hx hb dX4_conflicts_8 rfl (lv_at hl 0 rfl) ?_
    refine lv_iload_n hx hb dX4_conflicts_9 rfl (lv_at hl 2 rfl) ?_
    refine ro_V (rest := []) (As := [.int (zi (zj))]) ⟨hx, hb, hml, hown, hts⟩ (c_X4_isVersion l g ad σ (th) hW (zj) (by omega)) (cwV 1 hts gX4_conflicts_X4_isVersion rfl rfl rfl (by decide +kernel) ⟨Nat.le_of_ble_eq_true rfl, Nat.le_of_ble_eq_true rfl⟩) (z_recv hK (hP 0 _ rfl) rfl) hP hK rfl hl.1 rfl (Nat.le_of_ble_eq_true rfl) dX4_conflicts_10 ⟨Nat.zero_le _, Nat.zero_le _⟩ ?_
    refine z_ifp_eq (P := IsV σ (zj)) (tgt := 20) hx hb dX4_conflicts_13 (by decide)  (fun h13 => ?_) (fun h13 => ?_)
    · exfalso; omega
    ·
      refine z_iconst hx hb dX4_conflicts_16 ?_
      refine lv_goto (tgt := 21) hx hb dX4_conflicts_17 (by decide) ?_
      refine lv_istore_n (lv' := [(3, .int (zi (1))), (0, .ref (ad 0)), (1, .int (zi (zi1))), (2, .int (zi (zj)))]) hx hb dX4_conflicts_21 rfl hl (by decide) rfl (fun ls hl => ?_)
      refine lv_aload_n hx hb dX4_conflicts_22 rfl (lv_at hl 1 rfl) ?_
      refine lv_iload_n hx hb dX4_conflicts_23 rfl (lv_at hl 0 rfl) ?_
      refine z_if_ne (tgt := 31) hx hb dX4_conflicts_24 (by decide) (by omega) (fun h24 => ?_) (fun h24 => ?_)
      ·
        refine lv_aload_n hx hb dX4_conflicts_31 rfl (lv_at hl 1 rfl) ?_
        refine lv_iload_n hx hb dX4_conflicts_32 rfl (lv_at hl 2 rfl) ?_
        refine lv_iload_n hx hb dX4_conflicts_33 rfl (lv_at hl 3 rfl) ?_
        refine ro_V (rest := [.ref (ad 0)]) (As := [.int (zi (zi1)), .int (zi (zj))]) ⟨hx, hb, hml, hown, hts⟩ (c_X4_baseOf l g ad σ (th) hW (zi1) (zj) (by omega) (by omega)) (cwV 2 hts gX4_conflicts_X4_baseOf rfl rfl rfl (by decide +kernel) ⟨Nat.le_of_ble_eq_true rfl, Nat.le_of_ble_eq_true rfl⟩) (z_recv hK (hP 0 _ rfl) rfl) hP hK rfl hl.1 rfl (Nat.le_of_ble_eq_true rfl) dX4_conflicts_34 ⟨Nat.zero_le _, Nat.zero_le _⟩ ?_
        refine z_iconst hx hb dX4_conflicts_37 ?_
        refine z_icmp_ne (tgt := 45) hx hb dX4_conflicts_38 (by decide) (by omega) (by omega) (fun h38 => ?_) (fun h38 => ?_)
        ·
          refine z_iconst hx hb dX4_conflicts_45 ?_
          refine wi_V (rest := []) (As := [.int (zi (0))]) ⟨hx, hb, hml, hown, hts⟩ (c_X4_fails l g ad σ (th) hW hd _ (0) (by omega)) (cwV 1 hts gX4_conflicts_X4_fails rfl rfl rfl (by decide +kernel) ⟨Nat.le_of_ble_eq_true rfl, Nat.le_of_ble_eq_true rfl⟩) (z_recv hK (hP 0 _ rfl) rfl) hP trivial hK rfl hl.1 rfl (Nat.le_of_ble_eq_true rfl) dX4_conflicts_46 ⟨Nat.zero_le _, Nat.zero_le _⟩ hS (MW_fr hS.1) (fun H locs hP _ _ hS => ?_)
          refine z_ifp_eq (P := 0 < (0)) (tgt := 54) hx hb dX4_conflicts_49 (by decide)  (fun h49 => ?_) (fun h49 => ?_)
          ·
            refine lv_aload_n hx hb dX4_conflicts_54 rfl (lv_at hl 1 rfl) ?_
            refine lv_iload_n hx hb dX4_conflicts_55 rfl (lv_at hl 2 rfl) ?_
            refine lv_iload_n hx hb dX4_conflicts_56 rfl (lv_at hl 3 rfl) ?_
            refine ro_V (rest := []) (As := [.int (zi (zi1)), .int (zi (zj))]) ⟨hx, hb, hml, hown, hts⟩ (c_X4_baseOf l g ad σ (0) hW (zi1) (zj) (by omega) (by omega)) (cwV 2 hts gX4_conflicts_X4_baseOf rfl rfl rfl (by decide +kernel) ⟨Nat.le_of_ble_eq_true rfl, Nat.le_of_ble_eq_true rfl⟩) (z_recv hK (hP 0 _ rfl) rfl) hP hK rfl hl.1 rfl (Nat.le_of_ble_eq_true rfl) dX4_conflicts_57 ⟨Nat.zero_le _, Nat.zero_le _⟩ ?_
            refine z_top (b := (bn : Int)) (hbn) ?_
            refine lv_istore (lv' := [(4, .int (zi ((bn : Int)))), (3, .int (zi (1))), (0, .ref (ad 0)), (1, .int (zi (zi1))), (2, .int (zi (zj)))]) hx hb dX4_conflicts_60 hl (by decide) rfl (fun ls hl => ?_)
            refine z_iconst hx hb dX4_conflicts_62 ?_
            refine z_xtop (y := sset (cfB σ i j bn) 0) (rfl) ?_
            refine lv_istore (lv' := [(5, .int (sset (cfB σ i j bn) 0)), (4, .int (zi ((bn : Int)))), (3, .int (zi (1))), (0, .ref (ad 0)), (1, .int (zi (zi1))), (2, .int (zi (zj)))]) hx hb dX4_conflicts_63 hl (by decide) rfl (fun ls hl => ?_)
            refine z_iconst hx hb dX4_conflicts_65 ?_
            refine z_top (b := ((0 : Nat) : Int)) (rfl) ?_
            refine lv_istore (lv' := [(6, .int (zi (((0 : Nat) : Int)))), (5, .int (sset (cfB σ i j bn) 0)), (4, .int (zi ((bn : Int)))), (3, .int (zi (1))), (0, .ref (ad 0)), (1, .int (zi (zi1))), (2, .int (zi (zj)))]) hx hb dX4_conflicts_66 hl (by decide) rfl (fun ls hl => ?_)
            have loop68 : ∀ (d b : Nat), (b : Int) ≤ σ 1 i → (σ 1 i).toNat - b = d → ∀ (H : Heap) (locs : List Loc), va_P g.1 vwCl (MWs g ad σ (0)) H → va_S (va_A (MWs g ad σ th) s.heap.size) s.heap H locs → ∀ ls : Array Slot, lv_has ls 7 [(6, .int (zi ((b : Int)))), (5, .int (sset (cfB σ i j bn) b)), (4, .int (zi ((bn : Int)))), (3, .int (zi (1))), (0, .ref (ad 0)), (1, .int (zi (zi1))), (2, .int (zi (zj)))] → W p l e ({ frames := 2, cells := 0, slots := 0, locals := 48 }) s m ([.ref (ad 0), .int (zi (zi1)), .int (zi (zj))] : List Value).toArray below meth c H locs 0 0 (MQ below (va_Qi (fun z9 (_ : Unit) => z9 = zi ((sset (cfB σ i j bn) (σ 1 i).toNat).toInt)) (fun _ t9 => va_P g.1 vwCl (MWs g ad (σ) (0)) t9.heap) (va_A (MWs g ad σ th) s.heap.size)) ([.ref (ad 0), .int (zi (zi1)), .int (zi (zj))] : List Value).toArray s 0 0 (va_A (MWs g ad σ th) s.heap.size)) (F0 m 68 ls []) := by
              intro d
              induction d with
              | zero =>
                intro b hb7 hd2 H locs hP hS ls hl
                have eb : b = (σ 1 i).toNat := by omega
                refine lv_iload hx hb dX4_conflicts_68 (lv_at hl 0 rfl) ?_
                refine lv_aload_n hx hb dX4_conflicts_70 rfl (lv_at hl 4 rfl) ?_
                refine z_get (C := RX4) (T := TX4) (N := 14) hx hb hts hiX4 hown hK (hP 0 _ rfl) rfl 1 (by decide) (hts (.fieldLink RX4 7 "HarmoniumDeskModel" "bars" "[I") (by decide +kernel)) rfl rfl dX4_conflicts_71 ?_
                refine lv_iload_n hx hb dX4_conflicts_74 rfl (lv_at hl 5 rfl) ?_
                refine z_iald hx hb hK (hP 1 _ rfl) (i) (by omega) (by omega) (by decide) dX4_conflicts_75 ?_
                refine z_icmp_ge (tgt := 133) hx hb dX4_conflicts_76 (by decide) (by omega) (by omega) (fun h76 => ?_) (fun h76 => ?_)
                ·
                  refine lv_iload hx hb dX4_conflicts_133 (lv_at hl 1 rfl) ?_
                  refine z_xtop (y := zi ((sset (cfB σ i j bn) (σ 1 i).toNat).toInt)) (by rw [eb]; exact zi_of _) ?_
                  exact z_wiret hx hb hr hlk dX4_conflicts_135 (rfl) hP hS
                · exfalso; omega
              | succ d ih =>
                intro b hb7 hd2 H locs hP hS ls hl
                refine lv_iload hx hb dX4_conflicts_68 (lv_at hl 0 rfl) ?_
                refine lv_aload_n hx hb dX4_conflicts_70 rfl (lv_at hl 4 rfl) ?_
                refine z_get (C := RX4) (T := TX4) (N := 14) hx hb hts hiX4 hown hK (hP 0 _ rfl) rfl 1 (by decide) (hts (.fieldLink RX4 7 "HarmoniumDeskModel" "bars" "[I") (by decide +kernel)) rfl rfl dX4_conflicts_71 ?_
                refine lv_iload_n hx hb dX4_conflicts_74 rfl (lv_at hl 5 rfl) ?_
                refine z_iald hx hb hK (hP 1 _ rfl) (i) (by omega) (by omega) (by decide) dX4_conflicts_75 ?_
                refine z_icmp_ge (tgt := 133) hx hb dX4_conflicts_76 (by decide) (by omega) (by omega) (fun h76 => ?_) (fun h76 => ?_)
                · exfalso; omega
                ·
                  refine lv_iload hx hb dX4_conflicts_79 (lv_at hl 1 rfl) ?_
                  refine lv_aload_n hx hb dX4_conflicts_81 rfl (lv_at hl 4 rfl) ?_
                  refine lv_iload_n hx hb dX4_conflicts_82 rfl (lv_at hl 5 rfl) ?_
                  refine lv_iload_n hx hb dX4_conflicts_83 rfl (lv_at hl 6 rfl) ?_
                  refine lv_iload hx hb dX4_conflicts_84 (lv_at hl 0 rfl) ?_
                  refine ro_V (rest := [.int (sset (cfB σ i j bn) b)]) (As := [.int (zi (zi1)), .int (zi (zj)), .int (zi ((b : Int)))]) ⟨hx, hb, hml, hown, hts⟩ (c_X4_areAlike l g ad σ (0) hW i hi (zi1) (by omega) j hj (zj) (by omega) b (by omega) ((b : Int)) (by omega)) (cwV 3 hts gX4_conflicts_X4_areAlike rfl rfl rfl (by decide +kernel) ⟨Nat.le_of_ble_eq_true rfl, Nat.le_of_ble_eq_true rfl⟩) (z_recv hK (hP 0 _ rfl) rfl) hP hK rfl hl.1 rfl (Nat.le_of_ble_eq_true rfl) dX4_conflicts_86 ⟨Nat.zero_le _, Nat.zero_le _⟩ ?_
                  refine z_ifp_ne (P := Al σ i j b) (tgt := 123) hx hb dX4_conflicts_89 (by decide)  (fun h89 => ?_) (fun h89 => ?_)
                  ·
                    refine z_iconst hx hb dX4_conflicts_123 ?_
                    refine lv_ior hx hb dX4_conflicts_124 ?_
                    refine z_xtop (y := sset (cfB σ i j bn) (b + 1)) (sset_f (cfB σ i j bn) b (fun hh => by have hh := of_decide_eq_true hh; first | exact hh.1 (by assumption) | exact hh.2.1 (by assumption) | exact hh.2.2 (by assumption))) ?_
                    refine lv_istore (lv' := [(5, .int (sset (cfB σ i j bn) (b + 1))), (6, .int (zi ((b : Int)))), (4, .int (zi ((bn : Int)))), (3, .int (zi (1))), (0, .ref (ad 0)), (1, .int (zi (zi1))), (2, .int (zi (zj)))]) hx hb dX4_conflicts_125 hl (by decide) rfl (fun ls hl => ?_)
                    refine z_iinc (b := ((b + 1 : Nat) : Int)) (lv' := [(6, .int (zi (((b + 1 : Nat) : Int)))), (5, .int (sset (cfB σ i j bn) (b + 1))), (4, .int (zi ((bn : Int)))), (3, .int (zi (1))), (0, .ref (ad 0)), (1, .int (zi (zi1))), (2, .int (zi (zj)))]) hx hb dX4_conflicts_127 hl (k := 1) rfl (by omega) (by decide) rfl (fun ls hl => ?_)
                    refine lv_goto (tgt := 68) hx hb dX4_conflicts_130 (by decide) ?_
                    exact ih (b + 1) (by omega) (by omega) H locs hP hS ls (lv_sub hl [0, 1, 2, 3, 4, 5, 6] rfl)
                  ·
                    refine lv_aload_n hx hb dX4_conflicts_92 rfl (lv_at hl 4 rfl) ?_
                    refine lv_iload_n hx hb dX4_conflicts_93 rfl (lv_at hl 5 rfl) ?_
                    refine lv_iload hx hb dX4_conflicts_94 (lv_at hl 2 rfl) ?_
                    refine lv_iload hx hb dX4_conflicts_96 (lv_at hl 0 rfl) ?_
                    refine ro_V (rest := [.int (sset (cfB σ i j bn) b)]) (As := [.int (zi (zi1)), .int (zi ((bn : Int))), .int (zi ((b : Int)))]) ⟨hx, hb, hml, hown, hts⟩ (c_X4_areAlike l g ad σ (0) hW i hi (zi1) (by omega) bn (by omega) ((bn : Int)) (by omega) b (by omega) ((b : Int)) (by omega)) (cwV 3 hts gX4_conflicts_X4_areAlike rfl rfl rfl (by decide +kernel) ⟨Nat.le_of_ble_eq_true rfl, Nat.le_of_ble_eq_true rfl⟩) (z_recv hK (hP 0 _ rfl) rfl) hP hK rfl hl.1 rfl (Nat.le_of_ble_eq_true rfl) dX4_conflicts_98 ⟨Nat.zero_le _, Nat.zero_le _⟩ ?_
                    refine z_ifp_ne (P := Al σ i bn b) (tgt := 123) hx hb dX4_conflicts_101 (by decide)  (fun h101 => ?_) (fun h101 => ?_)
                    ·
                      refine z_iconst hx hb dX4_conflicts_123 ?_
                      refine lv_ior hx hb dX4_conflicts_124 ?_
                      refine z_xtop (y := sset (cfB σ i j bn) (b + 1)) (sset_f (cfB σ i j bn) b (fun hh => by have hh := of_decide_eq_true hh; first | exact hh.1 (by assumption) | exact hh.2.1 (by assumption) | exact hh.2.2 (by assumption))) ?_
                      refine lv_istore (lv' := [(5, .int (sset (cfB σ i j bn) (b + 1))), (6, .int (zi ((b : Int)))), (4, .int (zi ((bn : Int)))), (3, .int (zi (1))), (0, .ref (ad 0)), (1, .int (zi (zi1))), (2, .int (zi (zj)))]) hx hb dX4_conflicts_125 hl (by decide) rfl (fun ls hl => ?_)
                      refine z_iinc (b := ((b + 1 : Nat) : Int)) (lv' := [(6, .int (zi (((b + 1 : Nat) : Int)))), (5, .int (sset (cfB σ i j bn) (b + 1))), (4, .int (zi ((bn : Int)))), (3, .int (zi (1))), (0, .ref (ad 0)), (1, .int (zi (zi1))), (2, .int (zi (zj)))]) hx hb dX4_conflicts_127 hl (k := 1) rfl (by omega) (by decide) rfl (fun ls hl => ?_)
                      refine lv_goto (tgt := 68) hx hb dX4_conflicts_130 (by decide) ?_
                      exact ih (b + 1) (by omega) (by omega) H locs hP hS ls (lv_sub hl [0, 1, 2, 3, 4, 5, 6] rfl)
                    ·
                      refine lv_aload_n hx hb dX4_conflicts_104 rfl (lv_at hl 4 rfl) ?_
                      refine lv_iload_n hx hb dX4_conflicts_105 rfl (lv_at hl 6 rfl) ?_
                      refine lv_iload hx hb dX4_conflicts_106 (lv_at hl 2 rfl) ?_
                      refine lv_iload hx hb dX4_conflicts_108 (lv_at hl 0 rfl) ?_
                      refine ro_V (rest := [.int (sset (cfB σ i j bn) b)]) (As := [.int (zi (zj)), .int (zi ((bn : Int))), .int (zi ((b : Int)))]) ⟨hx, hb, hml, hown, hts⟩ (c_X4_areAlike l g ad σ (0) hW j hj (zj) (by omega) bn (by omega) ((bn : Int)) (by omega) b (by omega) ((b : Int)) (by omega)) (cwV 3 hts gX4_conflicts_X4_areAlike rfl rfl rfl (by decide +kernel) ⟨Nat.le_of_ble_eq_true rfl, Nat.le_of_ble_eq_true rfl⟩) (z_recv hK (hP 0 _ rfl) rfl) hP hK rfl hl.1 rfl (Nat.le_of_ble_eq_true rfl) dX4_conflicts_110 ⟨Nat.zero_le _, Nat.zero_le _⟩ ?_
                      refine z_ifp_ne (P := Al σ j bn b) (tgt := 123) hx hb dX4_conflicts_113 (by decide)  (fun h113 => ?_) (fun h113 => ?_)
                      ·
                        refine z_iconst hx hb dX4_conflicts_123 ?_
                        refine lv_ior hx hb dX4_conflicts_124 ?_
                        refine z_xtop (y := sset (cfB σ i j bn) (b + 1)) (sset_f (cfB σ i j bn) b (fun hh => by have hh := of_decide_eq_true hh; first | exact hh.1 (by assumption) | exact hh.2.1 (by assumption) | exact hh.2.2 (by assumption))) ?_
                        refine lv_istore (lv' := [(5, .int (sset (cfB σ i j bn) (b + 1))), (6, .int (zi ((b : Int)))), (4, .int (zi ((bn : Int)))), (3, .int (zi (1))), (0, .ref (ad 0)), (1, .int (zi (zi1))), (2, .int (zi (zj)))]) hx hb dX4_conflicts_125 hl (by decide) rfl (fun ls hl => ?_)
                        refine z_iinc (b := ((b + 1 : Nat) : Int)) (lv' := [(6, .int (zi (((b + 1 : Nat) : Int)))), (5, .int (sset (cfB σ i j bn) (b + 1))), (4, .int (zi ((bn : Int)))), (3, .int (zi (1))), (0, .ref (ad 0)), (1, .int (zi (zi1))), (2, .int (zi (zj)))]) hx hb dX4_conflicts_127 hl (k := 1) rfl (by omega) (by decide) rfl (fun ls hl => ?_)
                        refine lv_goto (tgt := 68) hx hb dX4_conflicts_130 (by decide) ?_
                        exact ih (b + 1) (by omega) (by omega) H locs hP hS ls (lv_sub hl [0, 1, 2, 3, 4, 5, 6] rfl)
                      ·
                        refine z_iconst hx hb dX4_conflicts_116 ?_
                        refine lv_iload hx hb dX4_conflicts_117 (lv_at hl 0 rfl) ?_
                        refine lv_ishl hx hb dX4_conflicts_119 ?_
                        refine lv_goto (tgt := 124) hx hb dX4_conflicts_120 (by decide) ?_
                        refine lv_ior hx hb dX4_conflicts_124 ?_
                        refine z_xtop (y := sset (cfB σ i j bn) (b + 1)) (sset_t (cfB σ i j bn) b (decide_eq_true ⟨by assumption, by assumption, by assumption⟩)) ?_
                        refine lv_istore (lv' := [(5, .int (sset (cfB σ i j bn) (b + 1))), (6, .int (zi ((b : Int)))), (4, .int (zi ((bn : Int)))), (3, .int (zi (1))), (0, .ref (ad 0)), (1, .int (zi (zi1))), (2, .int (zi (zj)))]) hx hb dX4_conflicts_125 hl (by decide) rfl (fun ls hl => ?_)
                        refine z_iinc (b := ((b + 1 : Nat) : Int)) (lv' := [(6, .int (zi (((b + 1 : Nat) : Int)))), (5, .int (sset (cfB σ i j bn) (b + 1))), (4, .int (zi ((bn : Int)))), (3, .int (zi (1))), (0, .ref (ad 0)), (1, .int (zi (zi1))), (2, .int (zi (zj)))]) hx hb dX4_conflicts_127 hl (k := 1) rfl (by omega) (by decide) rfl (fun ls hl => ?_)
                        refine lv_goto (tgt := 68) hx hb dX4_conflicts_130 (by decide) ?_
                        exact ih (b + 1) (by omega) (by omega) H locs hP hS ls (lv_sub hl [0, 1, 2, 3, 4, 5, 6] rfl)
            exact loop68 _ 0 (by omega) rfl _ _ hP hS ls (lv_sub hl [0, 1, 2, 3, 4, 5, 6] rfl)
          · exfalso; omega
        · exfalso; omega
      · exfalso; omega
end
section
set_option maxHeartbeats 4000000 in
set_option maxRecDepth 100000 in
theorem c_X4_setWeight_1 (l : Launch) (g : gG) (ad : Nat → Nat) (σ : SG) (th : Int) (hW : WF σ) (hd : Dst ad) (sz : Nat) (r t : Int) (hr9 : zr r) (ht : zr t) (hbad : ¬ (0 ≤ r ∧ r ≤ 5)) : MI l yX4_setWeight wsX4_setWeight ({ frames := 1, cells := 0, slots := 0, locals := 22 }) g ad [.int (zi (r)), .int (zi (t))] sz σ th (σ) (1) (0) := by
  refine ZM.ofW (cc := cX4_setWeight) (maxL := 5) (ret := (some .int)) (by decide) rfl (Nat.le_of_ble_eq_true rfl) ?_
  intro p e s m below meth c ls hx hb hr hml hown hts hlk hP hK hl _
  obtain ⟨rfl, hP, -⟩ := hP
  have hS : va_S (va_A (MWs g ad σ th) s.heap.size) s.heap s.heap [] := va_S.rf
  have hown : s.vm.findClass RX4 = some m.cls := hown
  have hl : lv_has ls 5 [(0, .ref (ad 0)), (1, .int (zi (r))), (2, .int (zi (t)))] := hl
  have hn := hW.n
  refine lv_iload_n hx hb dX4_setWeight_0 rfl (lv_at hl 1 rfl) ?_
  refine z_iconst hx hb dX4_setWeight_1 ?_
  refine z_iconst hx hb dX4_setWeight_2 ?_
  refine ro_S (rest := []) (As := [.int (zi (r)), .int (zi (0)), .int (zi (5))]) ⟨hx, hb, hml, hown, hts⟩ (c_X4_isIn l g (r) (0) (5) (by omega) (by omega) (by omega)) (cwS 3 hts gX4_setWeight_X4_isIn rfl rfl rfl (by decide +kernel) ⟨Nat.le_of_ble_eq_true rfl, Nat.le_of_ble_eq_true rfl⟩) trivial hK rfl hl.1 rfl (Nat.le_of_ble_eq_true rfl) dX4_setWeight_3 ⟨Nat.zero_le _, Nat.zero_le _⟩ ?_
  refine lv_istore_n (lv' := [(3, .int (zi (pz ((0) ≤ (r) ∧ (r) ≤ (5))))), (0, .ref (ad 0)), (1, .int (zi (r))), (2, .int (zi (t)))]) hx hb dX4_setWeight_6 rfl hl (by decide) rfl (fun ls hl => ?_)
  refine lv_aload_n hx hb dX4_setWeight_7 rfl (lv_at hl 1 rfl) ?_
  refine lv_iload_n hx hb dX4_setWeight_8 rfl (lv_at hl 0 rfl) ?_
  refine z_ifp_ne (P := (0) ≤ (r) ∧ (r) ≤ (5)) (tgt := 16) hx hb dX4_setWeight_9 (by decide)  (fun h9 => ?_) (fun h9 => ?_)
  · exfalso; omega
  ·
    refine z_iconst hx hb dX4_setWeight_12 ?_
    refine lv_goto (tgt := 31) hx hb dX4_setWeight_13 (by decide) ?_
    refine wi_V (rest := []) (As := [.int (zi (1))]) ⟨hx, hb, hml, hown, hts⟩ (c_X4_fails l g ad σ (th) hW hd _ (1) (by omega)) (cwV 1 hts gX4_setWeight_X4_fails rfl rfl rfl (by decide +kernel) ⟨Nat.le_of_ble_eq_true rfl, Nat.le_of_ble_eq_true rfl⟩) (z_recv hK (hP 0 _ rfl) rfl) hP trivial hK rfl hl.1 rfl (Nat.le_of_ble_eq_true rfl) dX4_setWeight_31 ⟨Nat.zero_le _, Nat.zero_le _⟩ hS (MW_fr hS.1) (fun H locs hP _ _ hS => ?_)
    refine z_ifp_eq (P := 0 < (1)) (tgt := 39) hx hb dX4_setWeight_34 (by decide)  (fun h34 => ?_) (fun h34 => ?_)
    · exfalso; omega
    ·
      refine z_iconst hx hb dX4_setWeight_37 ?_
      exact z_wiret hx hb hr hlk dX4_setWeight_38 (by omega) hP hS

set_option maxHeartbeats 4000000 in
set_option maxRecDepth 100000 in
theorem c_X4_setWeight_2 (l : Launch) (g : gG) (ad : Nat → Nat) (σ : SG) (th : Int) (hW : WF σ) (hd : Dst ad) (sz : Nat) (r t : Int) (hr9 : zr r) (ht : zr t) (hg : 0 ≤ r ∧ r ≤ 5) (hbad : ¬ (0 ≤ t ∧ t ≤ 50)) : MI l yX4_setWeight wsX4_setWeight ({ frames := 1, cells := 0, slots := 0, locals := 22 }) g ad [.int (zi (r)), .int (zi (t))] sz σ th (σ) (2) (0) := by
  refine ZM.ofW (cc := cX4_setWeight) (maxL := 5) (ret := (some .int)) (by decide) rfl (Nat.le_of_ble_eq_true rfl) ?_
  intro p e s m below meth c ls hx hb hr hml hown hts hlk hP hK hl _
  obtain ⟨rfl, hP, -⟩ := hP
  have hS : va_S (va_A (MWs g ad σ th) s.heap.size) s.heap s.heap [] := va_S.rf
  have hown : s.vm.findClass RX4 = some m.cls := hown
  have hl : lv_has ls 5 [(0, .ref (ad 0)), (1, .int (zi (r))), (2, .int (zi (t)))] := hl
  have hn := hW.n
  refine lv_iload_n hx hb dX4_setWeight_0 rfl (lv_at hl 1 rfl) ?_
  refine z_iconst hx hb dX4_setWeight_1 ?_
  refine z_iconst hx hb dX4_setWeight_2 ?_
  refine ro_S (rest := []) (As := [.int (zi (r)), .int (zi (0)), .int (zi (5))]) ⟨hx, hb, hml, hown, hts⟩ (c_X4_isIn l g (r) (0) (5) (by omega) (by omega) (by omega)) (cwS 3 hts gX4_setWeight_X4_isIn rfl rfl rfl (by decide +kernel) ⟨Nat.le_of_ble_eq_true rfl, Nat.le_of_ble_eq_true rfl⟩) trivial hK rfl hl.1 rfl (Nat.le_of_ble_eq_true rfl) dX4_setWeight_3 ⟨Nat.zero_le _, Nat.zero_le _⟩ ?_
  refine lv_istore_n (lv' := [(3, .int (zi (pz ((0) ≤ (r) ∧ (r) ≤ (5))))), (0, .ref (ad 0)), (1, .int (zi (r))), (2, .int (zi (t)))]) hx hb dX4_setWeight_6 rfl hl (by decide) rfl (fun ls hl => ?_)
  refine lv_aload_n hx hb dX4_setWeight_7 rfl (lv_at hl 1 rfl) ?_
  refine lv_iload_n hx hb dX4_setWeight_8 rfl (lv_at hl 0 rfl) ?_
  refine z_ifp_ne (P := (0) ≤ (r) ∧ (r) ≤ (5)) (tgt := 16) hx hb dX4_setWeight_9 (by decide)  (fun h9 => ?_) (fun h9 => ?_)
  ·
    refine lv_iload_n hx hb dX4_setWeight_16 rfl (lv_at hl 3 rfl) ?_
    refine z_iconst hx hb dX4_setWeight_17 ?_
    refine z_bipush hx hb dX4_setWeight_18 (by decide) ?_
    refine ro_S (rest := [.ref (ad 0)]) (As := [.int (zi (t)), .int (zi (0)), .int (zi (50))]) ⟨hx, hb, hml, hown, hts⟩ (c_X4_isIn l g (t) (0) (50) (by omega) (by omega) (by omega)) (cwS 3 hts gX4_setWeight_X4_isIn rfl rfl rfl (by decide +kernel) ⟨Nat.le_of_ble_eq_true rfl, Nat.le_of_ble_eq_true rfl⟩) trivial hK rfl hl.1 rfl (Nat.le_of_ble_eq_true rfl) dX4_setWeight_20 ⟨Nat.zero_le _, Nat.zero_le _⟩ ?_
    refine z_ifp_eq (P := (0) ≤ (t) ∧ (t) ≤ (50)) (tgt := 30) hx hb dX4_setWeight_23 (by decide)  (fun h23 => ?_) (fun h23 => ?_)
    ·
      refine z_iconst hx hb dX4_setWeight_30 ?_
      refine wi_V (rest := []) (As := [.int (zi (2))]) ⟨hx, hb, hml, hown, hts⟩ (c_X4_fails l g ad σ (th) hW hd _ (2) (by omega)) (cwV 1 hts gX4_setWeight_X4_fails rfl rfl rfl (by decide +kernel) ⟨Nat.le_of_ble_eq_true rfl, Nat.le_of_ble_eq_true rfl⟩) (z_recv hK (hP 0 _ rfl) rfl) hP trivial hK rfl hl.1 rfl (Nat.le_of_ble_eq_true rfl) dX4_setWeight_31 ⟨Nat.zero_le _, Nat.zero_le _⟩ hS (MW_fr hS.1) (fun H locs hP _ _ hS => ?_)
      refine z_ifp_eq (P := 0 < (2)) (tgt := 39) hx hb dX4_setWeight_34 (by decide)  (fun h34 => ?_) (fun h34 => ?_)
      · exfalso; omega
      ·
        refine z_iconst hx hb dX4_setWeight_37 ?_
        exact z_wiret hx hb hr hlk dX4_setWeight_38 (by omega) hP hS
    · exfalso; omega
  · exfalso; omega

set_option maxHeartbeats 4000000 in
set_option maxRecDepth 100000 in
theorem c_X4_setWeight_0 (l : Launch) (g : gG) (ad : Nat → Nat) (σ : SG) (th : Int) (hW : WF σ) (hd : Dst ad) (sz : Nat) (r : Nat) (hr6 : r < 6) (z : Int) (hz : z = (r : Int)) (t : Int) (hg2 : 0 ≤ t ∧ t ≤ 50) : MI l yX4_setWeight wsX4_setWeight ({ frames := 1, cells := 0, slots := 0, locals := 22 }) g ad [.int (zi (z)), .int (zi (t))] sz σ th (sup σ 6 r t) (0) (σ 6 r) := by
  refine ZM.ofW (cc := cX4_setWeight) (maxL := 5) (ret := (some .int)) (by decide) rfl (Nat.le_of_ble_eq_true rfl) ?_
  intro p e s m below meth c ls hx hb hr hml hown hts hlk hP hK hl _
  obtain ⟨rfl, hP, -⟩ := hP
  have hS : va_S (va_A (MWs g ad σ th) s.heap.size) s.heap s.heap [] := va_S.rf
  have hown : s.vm.findClass RX4 = some m.cls := hown
  have hl : lv_has ls 5 [(0, .ref (ad 0)), (1, .int (zi (z))), (2, .int (zi (t)))] := hl
  have hiX4 : ∀ w ∈ u_ws RX4 TX4 14, w ∈ wsX4_setWeight := by decide +kernel
  have hn := hW.n
  refine lv_iload_n hx hb dX4_setWeight_0 rfl (lv_at hl 1 rfl) ?_
  refine z_iconst hx hb dX4_setWeight_1 ?_
  refine z_iconst hx hb dX4_setWeight_2 ?_
  refine ro_S (rest := []) (As := [.int (zi (z)), .int (zi (0)), .int (zi (5))]) ⟨hx, hb, hml, hown, hts⟩ (c_X4_isIn l g (z) (0) (5) (by omega) (by omega) (by omega)) (cwS 3 hts gX4_setWeight_X4_isIn rfl rfl rfl (by decide +kernel) ⟨Nat.le_of_ble_eq_true rfl, Nat.le_of_ble_eq_true rfl⟩) trivial hK rfl hl.1 rfl (Nat.le_of_ble_eq_true rfl) dX4_setWeight_3 ⟨Nat.zero_le _, Nat.zero_le _⟩ ?_
  refine lv_istore_n (lv' := [(3, .int (zi (pz ((0) ≤ (z) ∧ (z) ≤ (5))))), (0, .ref (ad 0)), (1, .int (zi (z))), (2, .int (zi (t)))]) hx hb dX4_setWeight_6 rfl hl (by decide) rfl (fun ls hl => ?_)
  refine lv_aload_n hx hb dX4_setWeight_7 rfl (lv_at hl 1 rfl) ?_
  refine lv_iload_n hx hb dX4_setWeight_8 rfl (lv_at hl 0 rfl) ?_
  refine z_ifp_ne (P := (0) ≤ (z) ∧ (z) ≤ (5)) (tgt := 16) hx hb dX4_setWeight_9 (by decide)  (fun h9 => ?_) (fun h9 => ?_)
  ·
    refine lv_iload_n hx hb dX4_setWeight_16 rfl (lv_at hl 3 rfl) ?_
    refine z_iconst hx hb dX4_setWeight_17 ?_
    refine z_bipush hx hb dX4_setWeight_18 (by decide) ?_
    refine ro_S (rest := [.ref (ad 0)]) (As := [.int (zi (t)), .int (zi (0)), .int (zi (50))]) ⟨hx, hb, hml, hown, hts⟩ (c_X4_isIn l g (t) (0) (50) (by omega) (by omega) (by omega)) (cwS 3 hts gX4_setWeight_X4_isIn rfl rfl rfl (by decide +kernel) ⟨Nat.le_of_ble_eq_true rfl, Nat.le_of_ble_eq_true rfl⟩) trivial hK rfl hl.1 rfl (Nat.le_of_ble_eq_true rfl) dX4_setWeight_20 ⟨Nat.zero_le _, Nat.zero_le _⟩ ?_
    refine z_ifp_eq (P := (0) ≤ (t) ∧ (t) ≤ (50)) (tgt := 30) hx hb dX4_setWeight_23 (by decide)  (fun h23 => ?_) (fun h23 => ?_)
    · exfalso; omega
    ·
      refine z_iconst hx hb dX4_setWeight_26 ?_
      refine lv_goto (tgt := 31) hx hb dX4_setWeight_27 (by decide) ?_
      refine wi_V (rest := []) (As := [.int (zi (0))]) ⟨hx, hb, hml, hown, hts⟩ (c_X4_fails l g ad σ (th) hW hd _ (0) (by omega)) (cwV 1 hts gX4_setWeight_X4_fails rfl rfl rfl (by decide +kernel) ⟨Nat.le_of_ble_eq_true rfl, Nat.le_of_ble_eq_true rfl⟩) (z_recv hK (hP 0 _ rfl) rfl) hP trivial hK rfl hl.1 rfl (Nat.le_of_ble_eq_true rfl) dX4_setWeight_31 ⟨Nat.zero_le _, Nat.zero_le _⟩ hS (MW_fr hS.1) (fun H locs hP _ _ hS => ?_)
      refine z_ifp_eq (P := 0 < (0)) (tgt := 39) hx hb dX4_setWeight_34 (by decide)  (fun h34 => ?_) (fun h34 => ?_)
      ·
        refine lv_aload_n hx hb dX4_setWeight_39 rfl (lv_at hl 1 rfl) ?_
        refine z_get (C := RX4) (T := TX4) (N := 14) hx hb hts hiX4 hown hK (hP 0 _ rfl) rfl 6 (by decide) (hts (.fieldLink RX4 26 "HarmoniumDeskModel" "weight" "[I") (by decide +kernel)) rfl rfl dX4_setWeight_40 ?_
        refine lv_iload_n hx hb dX4_setWeight_43 rfl (lv_at hl 2 rfl) ?_
        refine z_iald hx hb hK (hP 6 _ rfl) (r) (by omega) (by omega) (by decide) dX4_setWeight_44 ?_
        refine lv_istore (lv' := [(4, .int (zi (σ 6 (r)))), (3, .int (zi (pz ((0) ≤ (z) ∧ (z) ≤ (5))))), (0, .ref (ad 0)), (1, .int (zi (z))), (2, .int (zi (t)))]) hx hb dX4_setWeight_45 hl (by decide) rfl (fun ls hl => ?_)
        refine lv_aload_n hx hb dX4_setWeight_47 rfl (lv_at hl 2 rfl) ?_
        refine z_get (C := RX4) (T := TX4) (N := 14) hx hb hts hiX4 hown hK (hP 0 _ rfl) rfl 6 (by decide) (hts (.fieldLink RX4 26 "HarmoniumDeskModel" "weight" "[I") (by decide +kernel)) rfl rfl dX4_setWeight_48 ?_
        refine lv_iload_n hx hb dX4_setWeight_51 rfl (lv_at hl 3 rfl) ?_
        refine lv_iload_n hx hb dX4_setWeight_52 rfl (lv_at hl 4 rfl) ?_
        refine z_mast (x := t) hx hb hd hK hP hS 6 6 6 rfl (r) (msa6 _ _ _ _ _ _) (by omega) (by omega) (by decide) dX4_setWeight_53 (fun H locs hP hS => ?_)
        refine lv_iload hx hb dX4_setWeight_54 (lv_at hl 0 rfl) ?_
        exact z_wiret hx hb hr hlk dX4_setWeight_56 (rfl) hP hS
      · exfalso; omega
  · exfalso; omega

set_option maxHeartbeats 4000000 in
set_option maxRecDepth 100000 in
theorem c_X4_setPass_1 (l : Launch) (g : gG) (ad : Nat → Nat) (σ : SG) (th : Int) (hW : WF σ) (hd : Dst ad) (sz : Nat) (t : Int) (ht : zr t) (hbad : ¬ (0 ≤ t ∧ t ≤ 100)) : MI l yX4_setPass wsX4_setPass ({ frames := 1, cells := 0, slots := 0, locals := 22 }) g ad [.int (zi (t))] sz σ th (σ) (1) (0) := by
  refine ZM.ofW (cc := cX4_setPass) (maxL := 3) (ret := (some .int)) (by decide) rfl (Nat.le_of_ble_eq_true rfl) ?_
  intro p e s m below meth c ls hx hb hr hml hown hts hlk hP hK hl _
  obtain ⟨rfl, hP, -⟩ := hP
  have hS : va_S (va_A (MWs g ad σ th) s.heap.size) s.heap s.heap [] := va_S.rf
  have hown : s.vm.findClass RX4 = some m.cls := hown
  have hl : lv_has ls 3 [(0, .ref (ad 0)), (1, .int (zi (t)))] := hl
  have hn := hW.n
  refine lv_aload_n hx hb dX4_setPass_0 rfl (lv_at hl 0 rfl) ?_
  refine lv_iload_n hx hb dX4_setPass_1 rfl (lv_at hl 1 rfl) ?_
  refine z_iconst hx hb dX4_setPass_2 ?_
  refine z_bipush hx hb dX4_setPass_3 (by decide) ?_
  refine ro_S (rest := [.ref (ad 0)]) (As := [.int (zi (t)), .int (zi (0)), .int (zi (100))]) ⟨hx, hb, hml, hown, hts⟩ (c_X4_isIn l g (t) (0) (100) (by omega) (by omega) (by omega)) (cwS 3 hts gX4_setPass_X4_isIn rfl rfl rfl (by decide +kernel) ⟨Nat.le_of_ble_eq_true rfl, Nat.le_of_ble_eq_true rfl⟩) trivial hK rfl hl.1 rfl (Nat.le_of_ble_eq_true rfl) dX4_setPass_5 ⟨Nat.zero_le _, Nat.zero_le _⟩ ?_
  refine z_ifp_eq (P := (0) ≤ (t) ∧ (t) ≤ (100)) (tgt := 15) hx hb dX4_setPass_8 (by decide)  (fun h8 => ?_) (fun h8 => ?_)
  ·
    refine z_iconst hx hb dX4_setPass_15 ?_
    refine wi_V (rest := []) (As := [.int (zi (1))]) ⟨hx, hb, hml, hown, hts⟩ (c_X4_fails l g ad σ (th) hW hd _ (1) (by omega)) (cwV 1 hts gX4_setPass_X4_fails rfl rfl rfl (by decide +kernel) ⟨Nat.le_of_ble_eq_true rfl, Nat.le_of_ble_eq_true rfl⟩) (z_recv hK (hP 0 _ rfl) rfl) hP trivial hK rfl hl.1 rfl (Nat.le_of_ble_eq_true rfl) dX4_setPass_16 ⟨Nat.zero_le _, Nat.zero_le _⟩ hS (MW_fr hS.1) (fun H locs hP _ _ hS => ?_)
    refine z_ifp_eq (P := 0 < (1)) (tgt := 24) hx hb dX4_setPass_19 (by decide)  (fun h19 => ?_) (fun h19 => ?_)
    · exfalso; omega
    ·
      refine z_iconst hx hb dX4_setPass_22 ?_
      exact z_wiret hx hb hr hlk dX4_setPass_23 (by omega) hP hS
  · exfalso; omega

set_option maxHeartbeats 4000000 in
set_option maxRecDepth 100000 in
theorem c_X4_setPass_0 (l : Launch) (g : gG) (ad : Nat → Nat) (σ : SG) (th : Int) (hW : WF σ) (hd : Dst ad) (sz : Nat) (t : Int) (hg : 0 ≤ t ∧ t ≤ 100) : MI l yX4_setPass wsX4_setPass ({ frames := 1, cells := 0, slots := 0, locals := 22 }) g ad [.int (zi (t))] sz σ th (sup σ 7 0 t) (0) (σ 7 0) := by
  refine ZM.ofW (cc := cX4_setPass) (maxL := 3) (ret := (some .int)) (by decide) rfl (Nat.le_of_ble_eq_true rfl) ?_
  intro p e s m below meth c ls hx hb hr hml hown hts hlk hP hK hl _
  obtain ⟨rfl, hP, -⟩ := hP
  have hS : va_S (va_A (MWs g ad σ th) s.heap.size) s.heap s.heap [] := va_S.rf
  have hown : s.vm.findClass RX4 = some m.cls := hown
  have hl : lv_has ls 3 [(0, .ref (ad 0)), (1, .int (zi (t)))] := hl
  have hiX4 : ∀ w ∈ u_ws RX4 TX4 14, w ∈ wsX4_setPass := by decide +kernel
  have hn := hW.n
  refine lv_aload_n hx hb dX4_setPass_0 rfl (lv_at hl 0 rfl) ?_
  refine lv_iload_n hx hb dX4_setPass_1 rfl (lv_at hl 1 rfl) ?_
  refine z_iconst hx hb dX4_setPass_2 ?_
  refine z_bipush hx hb dX4_setPass_3 (by decide) ?_
  refine ro_S (rest := [.ref (ad 0)]) (As := [.int (zi (t)), .int (zi (0)), .int (zi (100))]) ⟨hx, hb, hml, hown, hts⟩ (c_X4_isIn l g (t) (0) (100) (by omega) (by omega) (by omega)) (cwS 3 hts gX4_setPass_X4_isIn rfl rfl rfl (by decide +kernel) ⟨Nat.le_of_ble_eq_true rfl, Nat.le_of_ble_eq_true rfl⟩) trivial hK rfl hl.1 rfl (Nat.le_of_ble_eq_true rfl) dX4_setPass_5 ⟨Nat.zero_le _, Nat.zero_le _⟩ ?_
  refine z_ifp_eq (P := (0) ≤ (t) ∧ (t) ≤ (100)) (tgt := 15) hx hb dX4_setPass_8 (by decide)  (fun h8 => ?_) (fun h8 => ?_)
  · exfalso; omega
  ·
    refine z_iconst hx hb dX4_setPass_11 ?_
    refine lv_goto (tgt := 16) hx hb dX4_setPass_12 (by decide) ?_
    refine wi_V (rest := []) (As := [.int (zi (0))]) ⟨hx, hb, hml, hown, hts⟩ (c_X4_fails l g ad σ (th) hW hd _ (0) (by omega)) (cwV 1 hts gX4_setPass_X4_fails rfl rfl rfl (by decide +kernel) ⟨Nat.le_of_ble_eq_true rfl, Nat.le_of_ble_eq_true rfl⟩) (z_recv hK (hP 0 _ rfl) rfl) hP trivial hK rfl hl.1 rfl (Nat.le_of_ble_eq_true rfl) dX4_setPass_16 ⟨Nat.zero_le _, Nat.zero_le _⟩ hS (MW_fr hS.1) (fun H locs hP _ _ hS => ?_)
    refine z_ifp_eq (P := 0 < (0)) (tgt := 24) hx hb dX4_setPass_19 (by decide)  (fun h19 => ?_) (fun h19 => ?_)
    ·
      refine lv_aload_n hx hb dX4_setPass_24 rfl (lv_at hl 0 rfl) ?_
      refine z_get (C := RX4) (T := TX4) (N := 14) hx hb hts hiX4 hown hK (hP 0 _ rfl) rfl 7 (by decide) (hts (.fieldLink RX4 29 "HarmoniumDeskModel" "pass" "I") (by decide +kernel)) rfl rfl dX4_setPass_25 ?_
      refine lv_istore_n (lv' := [(2, .int (zi (σ 7 0))), (0, .ref (ad 0)), (1, .int (zi (t)))]) hx hb dX4_setPass_28 rfl hl (by decide) rfl (fun ls hl => ?_)
      refine lv_aload_n hx hb dX4_setPass_29 rfl (lv_at hl 1 rfl) ?_
      refine lv_iload_n hx hb dX4_setPass_30 rfl (lv_at hl 2 rfl) ?_
      refine z_mput hx hb hd hts hiX4 hown hK hP hS 7 (by decide) (hts (.fieldLink RX4 29 "HarmoniumDeskModel" "pass" "I") (by decide +kernel)) rfl rfl rfl (ms7 _ _ _ _ _) dX4_setPass_31 (fun H locs hP hS => ?_)
      refine lv_iload_n hx hb dX4_setPass_34 rfl (lv_at hl 0 rfl) ?_
      exact z_wiret hx hb hr hlk dX4_setPass_35 (rfl) hP hS
    · exfalso; omega

set_option maxHeartbeats 4000000 in
set_option maxRecDepth 100000 in
theorem c_X4_faults_1 (l : Launch) (g : gG) (ad : Nat → Nat) (σ : SG) (th : Int) (hW : WF σ) (hd : Dst ad) (sz : Nat) (z b r : Int) (hz : zr z) (hb9 : zr b) (hr9 : zr r) (hbad : ¬ (IsN σ z 0 b ∧ 0 ≤ r ∧ r ≤ 5)) : MI l yX4_faults wsX4_faults ({ frames := 3, cells := 0, slots := 0, locals := 66 }) g ad [.int (zi (z)), .int (zi (b)), .int (zi (r))] sz σ th (σ) (1) (0) := by
  refine ZM.ofW (cc := cX4_faults) (maxL := 5) (ret := (some .int)) (by decide) rfl (Nat.le_of_ble_eq_true rfl) ?_
  intro p e s m below meth c ls hx hb hr hml hown hts hlk hP hK hl _
  obtain ⟨rfl, hP, -⟩ := hP
  have hS : va_S (va_A (MWs g ad σ th) s.heap.size) s.heap s.heap [] := va_S.rf
  have hown : s.vm.findClass RX4 = some m.cls := hown
  have hl : lv_has ls 5 [(0, .ref (ad 0)), (1, .int (zi (z))), (2, .int (zi (b))), (3, .int (zi (r)))] := hl
  have hn := hW.n
  refine lv_aload_n hx hb dX4_faults_0 rfl (lv_at hl 0 rfl) ?_
  refine lv_iload_n hx hb dX4_faults_1 rfl (lv_at hl 1 rfl) ?_
  refine z_iconst hx hb dX4_faults_2 ?_
  refine lv_iload_n hx hb dX4_faults_3 rfl (lv_at hl 2 rfl) ?_
  refine ro_V (rest := []) (As := [.int (zi (z)), .int (zi (0)), .int (zi (b))]) ⟨hx, hb, hml, hown, hts⟩ (c_X4_isNote l g ad σ (th) hW (z) (0) (b) (by omega) (by omega) (by omega)) (cwV 3 hts gX4_faults_X4_isNote rfl rfl rfl (by decide +kernel) ⟨Nat.le_of_ble_eq_true rfl, Nat.le_of_ble_eq_true rfl⟩) (z_recv hK (hP 0 _ rfl) rfl) hP hK rfl hl.1 rfl (Nat.le_of_ble_eq_true rfl) dX4_faults_4 ⟨Nat.zero_le _, Nat.zero_le _⟩ ?_
  refine z_ifp_eq (P := IsN σ (z) (0) (b)) (tgt := 23) hx hb dX4_faults_7 (by decide)  (fun h7 => ?_) (fun h7 => ?_)
  ·
    refine z_iconst hx hb dX4_faults_23 ?_
    refine lv_istore (lv' := [(4, .int (zi (0))), (0, .ref (ad 0)), (1, .int (zi (z))), (2, .int (zi (b))), (3, .int (zi (r)))]) hx hb dX4_faults_24 hl (by decide) rfl (fun ls hl => ?_)
    refine lv_aload_n hx hb dX4_faults_26 rfl (lv_at hl 1 rfl) ?_
    refine lv_iload hx hb dX4_faults_27 (lv_at hl 0 rfl) ?_
    refine z_if_eq (tgt := 36) hx hb dX4_faults_29 (by decide) (by omega) (fun h29 => ?_) (fun h29 => ?_)
    ·
      refine z_iconst hx hb dX4_faults_36 ?_
      refine wi_V (rest := []) (As := [.int (zi (1))]) ⟨hx, hb, hml, hown, hts⟩ (c_X4_fails l g ad σ (th) hW hd _ (1) (by omega)) (cwV 1 hts gX4_faults_X4_fails rfl rfl rfl (by decide +kernel) ⟨Nat.le_of_ble_eq_true rfl, Nat.le_of_ble_eq_true rfl⟩) (z_recv hK (hP 0 _ rfl) rfl) hP trivial hK rfl hl.1 rfl (Nat.le_of_ble_eq_true rfl) dX4_faults_37 ⟨Nat.zero_le _, Nat.zero_le _⟩ hS (MW_fr hS.1) (fun H locs hP _ _ hS => ?_)
      refine z_ifp_eq (P := 0 < (1)) (tgt := 47) hx hb dX4_faults_40 (by decide)  (fun h40 => ?_) (fun h40 => ?_)
      · exfalso; omega
      ·
        refine z_iconst hx hb dX4_faults_43 ?_
        refine lv_goto (tgt := 54) hx hb dX4_faults_44 (by decide) ?_
        exact z_wiret hx hb hr hlk dX4_faults_54 (by omega) hP hS
    · exfalso; omega
  ·
    refine lv_iload_n hx hb dX4_faults_10 rfl (lv_at hl 3 rfl) ?_
    refine z_iconst hx hb dX4_faults_11 ?_
    refine z_iconst hx hb dX4_faults_12 ?_
    refine ro_S (rest := []) (As := [.int (zi (r)), .int (zi (0)), .int (zi (5))]) ⟨hx, hb, hml, hown, hts⟩ (c_X4_isIn l g (r) (0) (5) (by omega) (by omega) (by omega)) (cwS 3 hts gX4_faults_X4_isIn rfl rfl rfl (by decide +kernel) ⟨Nat.le_of_ble_eq_true rfl, Nat.le_of_ble_eq_true rfl⟩) trivial hK rfl hl.1 rfl (Nat.le_of_ble_eq_true rfl) dX4_faults_13 ⟨Nat.zero_le _, Nat.zero_le _⟩ ?_
    refine z_ifp_eq (P := (0) ≤ (r) ∧ (r) ≤ (5)) (tgt := 23) hx hb dX4_faults_16 (by decide)  (fun h16 => ?_) (fun h16 => ?_)
    ·
      refine z_iconst hx hb dX4_faults_23 ?_
      refine lv_istore (lv' := [(4, .int (zi (0))), (0, .ref (ad 0)), (1, .int (zi (z))), (2, .int (zi (b))), (3, .int (zi (r)))]) hx hb dX4_faults_24 hl (by decide) rfl (fun ls hl => ?_)
      refine lv_aload_n hx hb dX4_faults_26 rfl (lv_at hl 1 rfl) ?_
      refine lv_iload hx hb dX4_faults_27 (lv_at hl 0 rfl) ?_
      refine z_if_eq (tgt := 36) hx hb dX4_faults_29 (by decide) (by omega) (fun h29 => ?_) (fun h29 => ?_)
      ·
        refine z_iconst hx hb dX4_faults_36 ?_
        refine wi_V (rest := []) (As := [.int (zi (1))]) ⟨hx, hb, hml, hown, hts⟩ (c_X4_fails l g ad σ (th) hW hd _ (1) (by omega)) (cwV 1 hts gX4_faults_X4_fails rfl rfl rfl (by decide +kernel) ⟨Nat.le_of_ble_eq_true rfl, Nat.le_of_ble_eq_true rfl⟩) (z_recv hK (hP 0 _ rfl) rfl) hP trivial hK rfl hl.1 rfl (Nat.le_of_ble_eq_true rfl) dX4_faults_37 ⟨Nat.zero_le _, Nat.zero_le _⟩ hS (MW_fr hS.1) (fun H locs hP _ _ hS => ?_)
        refine z_ifp_eq (P := 0 < (1)) (tgt := 47) hx hb dX4_faults_40 (by decide)  (fun h40 => ?_) (fun h40 => ?_)
        · exfalso; omega
        ·
          refine z_iconst hx hb dX4_faults_43 ?_
          refine lv_goto (tgt := 54) hx hb dX4_faults_44 (by decide) ?_
          exact z_wiret hx hb hr hlk dX4_faults_54 (by omega) hP hS
      · exfalso; omega
    · exfalso; omega

set_option maxHeartbeats 4000000 in
set_option maxRecDepth 100000 in
theorem c_X4_faults_0 (l : Launch) (g : gG) (ad : Nat → Nat) (σ : SG) (th : Int) (hW : WF σ) (hd : Dst ad) (sz : Nat) (k : Nat) (hk : (k : Int) < σ 0 0) (zk : Int) (hzk : zk = (k : Int)) (b : Nat) (hbb : (b : Int) < σ 1 k) (zb : Int) (hzb : zb = (b : Int)) (r : Nat) (hr6 : r < 6) (zr1 : Int) (hzr : zr1 = (r : Int)) : MI l yX4_faults wsX4_faults ({ frames := 3, cells := 0, slots := 0, locals := 70 }) g ad [.int (zi (zk)), .int (zi (zb)), .int (zi (zr1))] sz σ th (σ) (0) (ft r (σ 1 k).toNat (NU σ k) (NL σ k) b) := by
  refine ZM.ofW (cc := cX4_faults) (maxL := 5) (ret := (some .int)) (by decide) rfl (Nat.le_of_ble_eq_true rfl) ?_
  intro p e s m below meth c ls hx hb hr hml hown hts hlk hP hK hl _
  obtain ⟨rfl, hP, -⟩ := hP
  have hS : va_S (va_A (MWs g ad σ th) s.heap.size) s.heap s.heap [] := va_S.rf
  have hown : s.vm.findClass RX4 = some m.cls := hown
  have hl : lv_has ls 5 [(0, .ref (ad 0)), (1, .int (zi (zk))), (2, .int (zi (zb))), (3, .int (zi (zr1)))] := hl
  have hn := hW.n
  have hbk := hW.bars hk
  have ek : zk.toNat = k := by omega
  have hbz : (b : Int) < σ 1 zk.toNat := by rw [ek]; exact hbb
  refine lv_aload_n hx hb dX4_faults_0 rfl (lv_at hl 0 rfl) ?_
  refine lv_iload_n hx hb dX4_faults_1 rfl (lv_at hl 1 rfl) ?_
  refine z_iconst hx hb dX4_faults_2 ?_
  refine lv_iload_n hx hb dX4_faults_3 rfl (lv_at hl 2 rfl) ?_
  refine ro_V (rest := []) (As := [.int (zi (zk)), .int (zi (0)), .int (zi (zb))]) ⟨hx, hb, hml, hown, hts⟩ (c_X4_isNote l g ad σ (th) hW (zk) (0) (zb) (by omega) (by omega) (by omega)) (cwV 3 hts gX4_faults_X4_isNote rfl rfl rfl (by decide +kernel) ⟨Nat.le_of_ble_eq_true rfl, Nat.le_of_ble_eq_true rfl⟩) (z_recv hK (hP 0 _ rfl) rfl) hP hK rfl hl.1 rfl (Nat.le_of_ble_eq_true rfl) dX4_faults_4 ⟨Nat.zero_le _, Nat.zero_le _⟩ ?_
  refine z_ifp_eq (P := IsN σ (zk) (0) (zb)) (tgt := 23) hx hb dX4_faults_7 (by decide)  (fun h7 => ?_) (fun h7 => ?_)
  · exfalso; omega
  ·
    refine lv_iload_n hx hb dX4_faults_10 rfl (lv_at hl 3 rfl) ?_
    refine z_iconst hx hb dX4_faults_11 ?_
    refine z_iconst hx hb dX4_faults_12 ?_
    refine ro_S (rest := []) (As := [.int (zi (zr1)), .int (zi (0)), .int (zi (5))]) ⟨hx, hb, hml, hown, hts⟩ (c_X4_isIn l g (zr1) (0) (5) (by omega) (by omega) (by omega)) (cwS 3 hts gX4_faults_X4_isIn rfl rfl rfl (by decide +kernel) ⟨Nat.le_of_ble_eq_true rfl, Nat.le_of_ble_eq_true rfl⟩) trivial hK rfl hl.1 rfl (Nat.le_of_ble_eq_true rfl) dX4_faults_13 ⟨Nat.zero_le _, Nat.zero_le _⟩ ?_
    refine z_ifp_eq (P := (0) ≤ (zr1) ∧ (zr1) ≤ (5)) (tgt := 23) hx hb dX4_faults_16 (by decide)  (fun h16 => ?_) (fun h16 => ?_)
    · exfalso; omega
    ·
      refine z_iconst hx hb dX4_faults_19 ?_
      refine lv_goto (tgt := 24) hx hb dX4_faults_20 (by decide) ?_
      refine lv_istore (lv' := [(4, .int (zi (1))), (0, .ref (ad 0)), (1, .int (zi (zk))), (2, .int (zi (zb))), (3, .int (zi (zr1)))]) hx hb dX4_faults_24 hl (by decide) rfl (fun ls hl => ?_)
      refine lv_aload_n hx hb dX4_faults_26 rfl (lv_at hl 1 rfl) ?_
      refine lv_iload hx hb dX4_faults_27 (lv_at hl 0 rfl) ?_
      refine z_if_eq (tgt := 36) hx hb dX4_faults_29 (by decide) (by omega) (fun h29 => ?_) (fun h29 => ?_)
      · exfalso; omega
      ·
        refine z_iconst hx hb dX4_faults_32 ?_
        refine lv_goto (tgt := 37) hx hb dX4_faults_33 (by decide) ?_
        refine wi_V (rest := []) (As := [.int (zi (0))]) ⟨hx, hb, hml, hown, hts⟩ (c_X4_fails l g ad σ (th) hW hd _ (0) (by omega)) (cwV 1 hts gX4_faults_X4_fails rfl rfl rfl (by decide +kernel) ⟨Nat.le_of_ble_eq_true rfl, Nat.le_of_ble_eq_true rfl⟩) (z_recv hK (hP 0 _ rfl) rfl) hP trivial hK rfl hl.1 rfl (Nat.le_of_ble_eq_true rfl) dX4_faults_37 ⟨Nat.zero_le _, Nat.zero_le _⟩ hS (MW_fr hS.1) (fun H locs hP _ _ hS => ?_)
        refine z_ifp_eq (P := 0 < (0)) (tgt := 47) hx hb dX4_faults_40 (by decide)  (fun h40 => ?_) (fun h40 => ?_)
        ·
          refine lv_aload_n hx hb dX4_faults_47 rfl (lv_at hl 1 rfl) ?_
          refine lv_iload_n hx hb dX4_faults_48 rfl (lv_at hl 2 rfl) ?_
          refine lv_iload_n hx hb dX4_faults_49 rfl (lv_at hl 3 rfl) ?_
          refine lv_iload_n hx hb dX4_faults_50 rfl (lv_at hl 4 rfl) ?_
          refine ro_V (rest := []) (As := [.int (zi (zk)), .int (zi (zb)), .int (zi (zr1))]) ⟨hx, hb, hml, hown, hts⟩ (c_X4_faultsAt l g ad σ (0) hW k hk (zk) (by omega) b hbb (zb) (by omega) r hr6 (zr1) (by omega)) (cwV 3 hts gX4_faults_X4_faultsAt rfl rfl rfl (by decide +kernel) ⟨Nat.le_of_ble_eq_true rfl, Nat.le_of_ble_eq_true rfl⟩) (z_recv hK (hP 0 _ rfl) rfl) hP hK rfl hl.1 rfl (Nat.le_of_ble_eq_true rfl) dX4_faults_51 ⟨Nat.zero_le _, Nat.zero_le _⟩ ?_
          exact z_wiret hx hb hr hlk dX4_faults_54 (rfl) hP hS
        · exfalso; omega

set_option maxHeartbeats 4000000 in
set_option maxRecDepth 100000 in
theorem c_X4_mark_1 (l : Launch) (g : gG) (ad : Nat → Nat) (σ : SG) (th : Int) (hW : WF σ) (hd : Dst ad) (sz : Nat) (z : Int) (hz : zr z) (hbad : ¬ IsV σ z) : MI l yX4_mark wsX4_mark ({ frames := 2, cells := 0, slots := 0, locals := 43 }) g ad [.int (zi (z))] sz σ th (σ) (1) (0) := by
  refine ZM.ofW (cc := cX4_mark) (maxL := 2) (ret := (some .int)) (by decide) rfl (Nat.le_of_ble_eq_true rfl) ?_
  intro p e s m below meth c ls hx hb hr hml hown hts hlk hP hK hl _
  obtain ⟨rfl, hP, -⟩ := hP
  have hS : va_S (va_A (MWs g ad σ th) s.heap.size) s.heap s.heap [] := va_S.rf
  have hown : s.vm.findClass RX4 = some m.cls := hown
  have hl : lv_has ls 2 [(0, .ref (ad 0)), (1, .int (zi (z)))] := hl
  have hn := hW.n
  refine lv_aload_n hx hb dX4_mark_0 rfl (lv_at hl 0 rfl) ?_
  refine lv_aload_n hx hb dX4_mark_1 rfl (lv_at hl 0 rfl) ?_
  refine lv_iload_n hx hb dX4_mark_2 rfl (lv_at hl 1 rfl) ?_
  refine ro_V (rest := [.ref (ad 0)]) (As := [.int (zi (z))]) ⟨hx, hb, hml, hown, hts⟩ (c_X4_isVersion l g ad σ (th) hW (z) (by omega)) (cwV 1 hts gX4_mark_X4_isVersion rfl rfl rfl (by decide +kernel) ⟨Nat.le_of_ble_eq_true rfl, Nat.le_of_ble_eq_true rfl⟩) (z_recv hK (hP 0 _ rfl) rfl) hP hK rfl hl.1 rfl (Nat.le_of_ble_eq_true rfl) dX4_mark_3 ⟨Nat.zero_le _, Nat.zero_le _⟩ ?_
  refine z_ifp_eq (P := IsV σ (z)) (tgt := 13) hx hb dX4_mark_6 (by decide)  (fun h6 => ?_) (fun h6 => ?_)
  ·
    refine z_iconst hx hb dX4_mark_13 ?_
    refine wi_V (rest := []) (As := [.int (zi (1))]) ⟨hx, hb, hml, hown, hts⟩ (c_X4_fails l g ad σ (th) hW hd _ (1) (by omega)) (cwV 1 hts gX4_mark_X4_fails rfl rfl rfl (by decide +kernel) ⟨Nat.le_of_ble_eq_true rfl, Nat.le_of_ble_eq_true rfl⟩) (z_recv hK (hP 0 _ rfl) rfl) hP trivial hK rfl hl.1 rfl (Nat.le_of_ble_eq_true rfl) dX4_mark_14 ⟨Nat.zero_le _, Nat.zero_le _⟩ hS (MW_fr hS.1) (fun H locs hP _ _ hS => ?_)
    refine z_ifp_eq (P := 0 < (1)) (tgt := 24) hx hb dX4_mark_17 (by decide)  (fun h17 => ?_) (fun h17 => ?_)
    · exfalso; omega
    ·
      refine z_iconst hx hb dX4_mark_20 ?_
      refine lv_goto (tgt := 29) hx hb dX4_mark_21 (by decide) ?_
      exact z_wiret hx hb hr hlk dX4_mark_29 (by omega) hP hS
  · exfalso; omega

set_option maxHeartbeats 4000000 in
set_option maxRecDepth 100000 in
theorem c_X4_mark_0 (l : Launch) (g : gG) (ad : Nat → Nat) (σ : SG) (th : Int) (hW : WF σ) (hd : Dst ad) (sz : Nat) (k : Nat) (hk : (k : Int) < σ 0 0) (zk : Int) (hzk : zk = (k : Int))  : MI l yX4_mark wsX4_mark ({ frames := 5, cells := 0, slots := 0, locals := 114 }) g ad [.int (zi (zk))] sz σ th (σ) (0) (MK σ k) := by
  refine ZM.ofW (cc := cX4_mark) (maxL := 2) (ret := (some .int)) (by decide) rfl (Nat.le_of_ble_eq_true rfl) ?_
  intro p e s m below meth c ls hx hb hr hml hown hts hlk hP hK hl _
  obtain ⟨rfl, hP, -⟩ := hP
  have hS : va_S (va_A (MWs g ad σ th) s.heap.size) s.heap s.heap [] := va_S.rf
  have hown : s.vm.findClass RX4 = some m.cls := hown
  have hl : lv_has ls 2 [(0, .ref (ad 0)), (1, .int (zi (zk)))] := hl
  have hn := hW.n
  refine lv_aload_n hx hb dX4_mark_0 rfl (lv_at hl 0 rfl) ?_
  refine lv_aload_n hx hb dX4_mark_1 rfl (lv_at hl 0 rfl) ?_
  refine lv_iload_n hx hb dX4_mark_2 rfl (lv_at hl 1 rfl) ?_
  refine ro_V (rest := [.ref (ad 0)]) (As := [.int (zi (zk))]) ⟨hx, hb, hml, hown, hts⟩ (c_X4_isVersion l g ad σ (th) hW (zk) (by omega)) (cwV 1 hts gX4_mark_X4_isVersion rfl rfl rfl (by decide +kernel) ⟨Nat.le_of_ble_eq_true rfl, Nat.le_of_ble_eq_true rfl⟩) (z_recv hK (hP 0 _ rfl) rfl) hP hK rfl hl.1 rfl (Nat.le_of_ble_eq_true rfl) dX4_mark_3 ⟨Nat.zero_le _, Nat.zero_le _⟩ ?_
  refine z_ifp_eq (P := IsV σ (zk)) (tgt := 13) hx hb dX4_mark_6 (by decide)  (fun h6 => ?_) (fun h6 => ?_)
  · exfalso; omega
  ·
    refine z_iconst hx hb dX4_mark_9 ?_
    refine lv_goto (tgt := 14) hx hb dX4_mark_10 (by decide) ?_
    refine wi_V (rest := []) (As := [.int (zi (0))]) ⟨hx, hb, hml, hown, hts⟩ (c_X4_fails l g ad σ (th) hW hd _ (0) (by omega)) (cwV 1 hts gX4_mark_X4_fails rfl rfl rfl (by decide +kernel) ⟨Nat.le_of_ble_eq_true rfl, Nat.le_of_ble_eq_true rfl⟩) (z_recv hK (hP 0 _ rfl) rfl) hP trivial hK rfl hl.1 rfl (Nat.le_of_ble_eq_true rfl) dX4_mark_14 ⟨Nat.zero_le _, Nat.zero_le _⟩ hS (MW_fr hS.1) (fun H locs hP _ _ hS => ?_)
    refine z_ifp_eq (P := 0 < (0)) (tgt := 24) hx hb dX4_mark_17 (by decide)  (fun h17 => ?_) (fun h17 => ?_)
    ·
      refine lv_aload_n hx hb dX4_mark_24 rfl (lv_at hl 0 rfl) ?_
      refine lv_iload_n hx hb dX4_mark_25 rfl (lv_at hl 1 rfl) ?_
      refine ro_V (rest := []) (As := [.int (zi (zk))]) ⟨hx, hb, hml, hown, hts⟩ (c_X4_markOf l g ad σ (0) hW k hk (zk) (by omega)) (cwV 1 hts gX4_mark_X4_markOf rfl rfl rfl (by decide +kernel) ⟨Nat.le_of_ble_eq_true rfl, Nat.le_of_ble_eq_true rfl⟩) (z_recv hK (hP 0 _ rfl) rfl) hP hK rfl hl.1 rfl (Nat.le_of_ble_eq_true rfl) dX4_mark_26 ⟨Nat.zero_le _, Nat.zero_le _⟩ ?_
      exact z_wiret hx hb hr hlk dX4_mark_29 (rfl) hP hS
    · exfalso; omega

set_option maxHeartbeats 4000000 in
set_option maxRecDepth 100000 in
theorem c_X4_handIn_1 (l : Launch) (g : gG) (ad : Nat → Nat) (σ : SG) (th : Int) (hW : WF σ) (hd : Dst ad) (sz : Nat) (z : Int) (hz : zr z) (hbad : ¬ IsV σ z) : MI l yX4_handIn wsX4_handIn ({ frames := 2, cells := 0, slots := 0, locals := 43 }) g ad [.int (zi (z))] sz σ th (σ) (1) (0) := by
  refine ZM.ofW (cc := cX4_handIn) (maxL := 2) (ret := (some .boolean)) (by decide) rfl (Nat.le_of_ble_eq_true rfl) ?_
  intro p e s m below meth c ls hx hb hr hml hown hts hlk hP hK hl _
  obtain ⟨rfl, hP, -⟩ := hP
  have hS : va_S (va_A (MWs g ad σ th) s.heap.size) s.heap s.heap [] := va_S.rf
  have hown : s.vm.findClass RX4 = some m.cls := hown
  have hl : lv_has ls 2 [(0, .ref (ad 0)), (1, .int (zi (z)))] := hl
  have hn := hW.n
  refine lv_aload_n hx hb dX4_handIn_0 rfl (lv_at hl 0 rfl) ?_
  refine lv_aload_n hx hb dX4_handIn_1 rfl (lv_at hl 0 rfl) ?_
  refine lv_iload_n hx hb dX4_handIn_2 rfl (lv_at hl 1 rfl) ?_
  refine ro_V (rest := [.ref (ad 0)]) (As := [.int (zi (z))]) ⟨hx, hb, hml, hown, hts⟩ (c_X4_isVersion l g ad σ (th) hW (z) (by omega)) (cwV 1 hts gX4_handIn_X4_isVersion rfl rfl rfl (by decide +kernel) ⟨Nat.le_of_ble_eq_true rfl, Nat.le_of_ble_eq_true rfl⟩) (z_recv hK (hP 0 _ rfl) rfl) hP hK rfl hl.1 rfl (Nat.le_of_ble_eq_true rfl) dX4_handIn_3 ⟨Nat.zero_le _, Nat.zero_le _⟩ ?_
  refine z_ifp_eq (P := IsV σ (z)) (tgt := 13) hx hb dX4_handIn_6 (by decide)  (fun h6 => ?_) (fun h6 => ?_)
  ·
    refine z_iconst hx hb dX4_handIn_13 ?_
    refine wi_V (rest := []) (As := [.int (zi (1))]) ⟨hx, hb, hml, hown, hts⟩ (c_X4_fails l g ad σ (th) hW hd _ (1) (by omega)) (cwV 1 hts gX4_handIn_X4_fails rfl rfl rfl (by decide +kernel) ⟨Nat.le_of_ble_eq_true rfl, Nat.le_of_ble_eq_true rfl⟩) (z_recv hK (hP 0 _ rfl) rfl) hP trivial hK rfl hl.1 rfl (Nat.le_of_ble_eq_true rfl) dX4_handIn_14 ⟨Nat.zero_le _, Nat.zero_le _⟩ hS (MW_fr hS.1) (fun H locs hP _ _ hS => ?_)
    refine z_ifp_eq (P := 0 < (1)) (tgt := 22) hx hb dX4_handIn_17 (by decide)  (fun h17 => ?_) (fun h17 => ?_)
    · exfalso; omega
    ·
      refine z_iconst hx hb dX4_handIn_20 ?_
      exact z_wzret hx hb hr hlk dX4_handIn_21 (by omega) (by omega) hP hS
  · exfalso; omega

set_option maxHeartbeats 4000000 in
set_option maxRecDepth 100000 in
theorem c_X4_handIn_0 (l : Launch) (g : gG) (ad : Nat → Nat) (σ : SG) (th : Int) (hW : WF σ) (hd : Dst ad) (sz : Nat) (k : Nat) (hk : (k : Int) < σ 0 0) (zk : Int) (hzk : zk = (k : Int))  : MI l yX4_handIn wsX4_handIn ({ frames := 5, cells := 0, slots := 0, locals := 114 }) g ad [.int (zi (zk))] sz σ th (sup σ 4 k (pz (σ 7 0 ≤ MK σ k))) (0) (pz (σ 7 0 ≤ MK σ k)) := by
  refine ZM.ofW (cc := cX4_handIn) (maxL := 2) (ret := (some .boolean)) (by decide) rfl (Nat.le_of_ble_eq_true rfl) ?_
  intro p e s m below meth c ls hx hb hr hml hown hts hlk hP hK hl _
  obtain ⟨rfl, hP, -⟩ := hP
  have hS : va_S (va_A (MWs g ad σ th) s.heap.size) s.heap s.heap [] := va_S.rf
  have hown : s.vm.findClass RX4 = some m.cls := hown
  have hl : lv_has ls 2 [(0, .ref (ad 0)), (1, .int (zi (zk)))] := hl
  have hiX4 : ∀ w ∈ u_ws RX4 TX4 14, w ∈ wsX4_handIn := by decide +kernel
  have hn := hW.n
  have hmk := MK_r hW hk
  have hps := hW.pass
  refine lv_aload_n hx hb dX4_handIn_0 rfl (lv_at hl 0 rfl) ?_
  refine lv_aload_n hx hb dX4_handIn_1 rfl (lv_at hl 0 rfl) ?_
  refine lv_iload_n hx hb dX4_handIn_2 rfl (lv_at hl 1 rfl) ?_
  refine ro_V (rest := [.ref (ad 0)]) (As := [.int (zi (zk))]) ⟨hx, hb, hml, hown, hts⟩ (c_X4_isVersion l g ad σ (th) hW (zk) (by omega)) (cwV 1 hts gX4_handIn_X4_isVersion rfl rfl rfl (by decide +kernel) ⟨Nat.le_of_ble_eq_true rfl, Nat.le_of_ble_eq_true rfl⟩) (z_recv hK (hP 0 _ rfl) rfl) hP hK rfl hl.1 rfl (Nat.le_of_ble_eq_true rfl) dX4_handIn_3 ⟨Nat.zero_le _, Nat.zero_le _⟩ ?_
  refine z_ifp_eq (P := IsV σ (zk)) (tgt := 13) hx hb dX4_handIn_6 (by decide)  (fun h6 => ?_) (fun h6 => ?_)
  · exfalso; omega
  ·
    refine z_iconst hx hb dX4_handIn_9 ?_
    refine lv_goto (tgt := 14) hx hb dX4_handIn_10 (by decide) ?_
    refine wi_V (rest := []) (As := [.int (zi (0))]) ⟨hx, hb, hml, hown, hts⟩ (c_X4_fails l g ad σ (th) hW hd _ (0) (by omega)) (cwV 1 hts gX4_handIn_X4_fails rfl rfl rfl (by decide +kernel) ⟨Nat.le_of_ble_eq_true rfl, Nat.le_of_ble_eq_true rfl⟩) (z_recv hK (hP 0 _ rfl) rfl) hP trivial hK rfl hl.1 rfl (Nat.le_of_ble_eq_true rfl) dX4_handIn_14 ⟨Nat.zero_le _, Nat.zero_le _⟩ hS (MW_fr hS.1) (fun H locs hP _ _ hS => ?_)
    refine z_ifp_eq (P := 0 < (0)) (tgt := 22) hx hb dX4_handIn_17 (by decide)  (fun h17 => ?_) (fun h17 => ?_)
    ·
      refine lv_aload_n hx hb dX4_handIn_22 rfl (lv_at hl 0 rfl) ?_
      refine z_get (C := RX4) (T := TX4) (N := 14) hx hb hts hiX4 hown hK (hP 0 _ rfl) rfl 4 (by decide) (hts (.fieldLink RX4 20 "HarmoniumDeskModel" "hasPassed" "[Z") (by decide +kernel)) rfl rfl dX4_handIn_23 ?_
      refine lv_iload_n hx hb dX4_handIn_26 rfl (lv_at hl 1 rfl) ?_
      refine lv_aload_n hx hb dX4_handIn_27 rfl (lv_at hl 0 rfl) ?_
      refine lv_iload_n hx hb dX4_handIn_28 rfl (lv_at hl 1 rfl) ?_
      refine ro_V (rest := [.int (zi (zk)), .ref (ad 4)]) (As := [.int (zi (zk))]) ⟨hx, hb, hml, hown, hts⟩ (c_X4_markOf l g ad σ (0) hW k hk (zk) (by omega)) (cwV 1 hts gX4_handIn_X4_markOf rfl rfl rfl (by decide +kernel) ⟨Nat.le_of_ble_eq_true rfl, Nat.le_of_ble_eq_true rfl⟩) (z_recv hK (hP 0 _ rfl) rfl) hP hK rfl hl.1 rfl (Nat.le_of_ble_eq_true rfl) dX4_handIn_29 ⟨Nat.zero_le _, Nat.zero_le _⟩ ?_
      refine lv_aload_n hx hb dX4_handIn_32 rfl (lv_at hl 0 rfl) ?_
      refine z_get (C := RX4) (T := TX4) (N := 14) hx hb hts hiX4 hown hK (hP 0 _ rfl) rfl 7 (by decide) (hts (.fieldLink RX4 29 "HarmoniumDeskModel" "pass" "I") (by decide +kernel)) rfl rfl dX4_handIn_33 ?_
      refine z_icmp_lt (tgt := 43) hx hb dX4_handIn_36 (by decide) (by omega) (by omega) (fun h36 => ?_) (fun h36 => ?_)
      ·
        refine z_iconst hx hb dX4_handIn_43 ?_
        refine z_top (b := pz (σ 7 0 ≤ MK σ k)) ((pz_f (by omega)).symm) ?_
        refine z_mzast (x := pz (σ 7 0 ≤ MK σ k)) hx hb hd hK hP hS 4 4 30 rfl (k) (msa4 _ _ _ _ _ _) (by omega) (by omega) (by decide) (by have := pz_b (σ 7 0 ≤ MK σ k); omega) dX4_handIn_44 (fun H locs hP hS => ?_)
        refine lv_aload_n hx hb dX4_handIn_45 rfl (lv_at hl 0 rfl) ?_
        refine z_get (C := RX4) (T := TX4) (N := 14) hx hb hts hiX4 hown hK (hP 0 _ rfl) rfl 4 (by decide) (hts (.fieldLink RX4 20 "HarmoniumDeskModel" "hasPassed" "[Z") (by decide +kernel)) rfl rfl dX4_handIn_46 ?_
        refine lv_iload_n hx hb dX4_handIn_49 rfl (lv_at hl 1 rfl) ?_
        refine z_zald hx hb hK (hP 4 _ rfl) (k) (by omega) (by omega) (by decide) dX4_handIn_50 ?_
        refine z_top (b := pz (σ 7 0 ≤ MK σ k)) (by rw [sup_eq]; exact if_pos rfl) ?_
        exact z_wzret hx hb hr hlk dX4_handIn_51 ((by have := pz_b (σ 7 0 ≤ MK σ k); omega)) (rfl) hP hS
      ·
        refine z_iconst hx hb dX4_handIn_39 ?_
        refine z_top (b := pz (σ 7 0 ≤ MK σ k)) ((pz_t (by omega)).symm) ?_
        refine lv_goto (tgt := 44) hx hb dX4_handIn_40 (by decide) ?_
        refine z_mzast (x := pz (σ 7 0 ≤ MK σ k)) hx hb hd hK hP hS 4 4 30 rfl (k) (msa4 _ _ _ _ _ _) (by omega) (by omega) (by decide) (by have := pz_b (σ 7 0 ≤ MK σ k); omega) dX4_handIn_44 (fun H locs hP hS => ?_)
        refine lv_aload_n hx hb dX4_handIn_45 rfl (lv_at hl 0 rfl) ?_
        refine z_get (C := RX4) (T := TX4) (N := 14) hx hb hts hiX4 hown hK (hP 0 _ rfl) rfl 4 (by decide) (hts (.fieldLink RX4 20 "HarmoniumDeskModel" "hasPassed" "[Z") (by decide +kernel)) rfl rfl dX4_handIn_46 ?_
        refine lv_iload_n hx hb dX4_handIn_49 rfl (lv_at hl 1 rfl) ?_
        refine z_zald hx hb hK (hP 4 _ rfl) (k) (by omega) (by omega) (by decide) dX4_handIn_50 ?_
        refine z_top (b := pz (σ 7 0 ≤ MK σ k)) (by rw [sup_eq]; exact if_pos rfl) ?_
        exact z_wzret hx hb hr hlk dX4_handIn_51 ((by have := pz_b (σ 7 0 ≤ MK σ k); omega)) (rfl) hP hS
    · exfalso; omega
end
section
set_option maxHeartbeats 4000000 in
set_option maxRecDepth 100000 in
theorem c_X4_fallen (l : Launch) (g : gG) (ad : Nat → Nat) (σ : SG) (th : Int) (hW : WF σ) (hd : Dst ad) (sz : Nat)  : MI l yX4_fallen wsX4_fallen ({ frames := 5, cells := 0, slots := 0, locals := 114 }) g ad [] sz σ th (σ) (0) ((sset (faB σ) (σ 0 0).toNat).toInt) := by
  refine ZM.ofW (cc := cX4_fallen) (maxL := 3) (ret := (some .int)) (by decide) rfl (Nat.le_of_ble_eq_true rfl) ?_
  intro p e s m below meth c ls hx hb hr hml hown hts hlk hP hK hl _
  obtain ⟨rfl, hP, -⟩ := hP
  have hS : va_S (va_A (MWs g ad σ th) s.heap.size) s.heap s.heap [] := va_S.rf
  have hown : s.vm.findClass RX4 = some m.cls := hown
  have hl : lv_has ls 3 [(0, .ref (ad 0))] := hl
  have hiX4 : ∀ w ∈ u_ws RX4 TX4 14, w ∈ wsX4_fallen := by decide +kernel
  have hn := hW.n
  refine lv_aload_n hx hb dX4_fallen_0 rfl (lv_at hl 0 rfl) ?_
  refine z_iconst hx hb dX4_fallen_1 ?_
  refine z_mput hx hb hd hts hiX4 hown hK hP hS 13 (by decide) (hts (.fieldLink RX4 45 "HarmoniumDeskModel" "thrown" "I") (by decide +kernel)) rfl rfl rfl (ms13 _ _ _ _ _) dX4_fallen_2 (fun H locs hP hS => ?_)
  refine z_iconst hx hb dX4_fallen_5 ?_
  refine z_xtop (y := sset (faB σ) 0) (rfl) ?_
  refine lv_istore_n (lv' := [(1, .int (sset (faB σ) 0)), (0, .ref (ad 0))]) hx hb dX4_fallen_6 rfl hl (by decide) rfl (fun ls hl => ?_)
  refine z_iconst hx hb dX4_fallen_7 ?_
  refine z_top (b := ((0 : Nat) : Int)) (rfl) ?_
  refine lv_istore_n (lv' := [(2, .int (zi (((0 : Nat) : Int)))), (1, .int (sset (faB σ) 0)), (0, .ref (ad 0))]) hx hb dX4_fallen_8 rfl hl (by decide) rfl (fun ls hl => ?_)
  have loop9 : ∀ (d k : Nat), (k : Int) ≤ σ 0 0 → (σ 0 0).toNat - k = d → ∀ (H : Heap) (locs : List Loc), va_P g.1 vwCl (MWs g ad σ (0)) H → va_S (va_A (MWs g ad σ th) s.heap.size) s.heap H locs → ∀ ls : Array Slot, lv_has ls 3 [(2, .int (zi ((k : Int)))), (1, .int (sset (faB σ) k)), (0, .ref (ad 0))] → W p l e ({ frames := 5, cells := 0, slots := 0, locals := 114 }) s m ([.ref (ad 0)] : List Value).toArray below meth c H locs 0 0 (MQ below (va_Qi (fun z9 (_ : Unit) => z9 = zi ((sset (faB σ) (σ 0 0).toNat).toInt)) (fun _ t9 => va_P g.1 vwCl (MWs g ad (σ) (0)) t9.heap) (va_A (MWs g ad σ th) s.heap.size)) ([.ref (ad 0)] : List Value).toArray s 0 0 (va_A (MWs g ad σ th) s.heap.size)) (F0 m 9 ls []) := by
    intro d
    induction d with
    | zero =>
      intro k hk9 hd2 H locs hP hS ls hl
      have eb : k = (σ 0 0).toNat := by omega
      refine lv_iload_n hx hb dX4_fallen_9 rfl (lv_at hl 0 rfl) ?_
      refine lv_aload_n hx hb dX4_fallen_10 rfl (lv_at hl 2 rfl) ?_
      refine z_get (C := RX4) (T := TX4) (N := 14) hx hb hts hiX4 hown hK (hP 0 _ rfl) rfl 0 (by decide) (hts (.fieldLink RX4 48 "HarmoniumDeskModel" "versions" "I") (by decide +kernel)) rfl rfl dX4_fallen_11 ?_
      refine z_icmp_ge (tgt := 54) hx hb dX4_fallen_14 (by decide) (by omega) (by omega) (fun h14 => ?_) (fun h14 => ?_)
      ·
        refine lv_iload_n hx hb dX4_fallen_54 rfl (lv_at hl 1 rfl) ?_
        refine z_xtop (y := zi ((sset (faB σ) (σ 0 0).toNat).toInt)) (by rw [eb]; exact zi_of _) ?_
        exact z_wiret hx hb hr hlk dX4_fallen_55 (rfl) hP hS
      · exfalso; omega
    | succ d ih =>
      intro k hk9 hd2 H locs hP hS ls hl
      have hfl := hW.flag k
      have hps := hW.pass
      refine lv_iload_n hx hb dX4_fallen_9 rfl (lv_at hl 0 rfl) ?_
      refine lv_aload_n hx hb dX4_fallen_10 rfl (lv_at hl 2 rfl) ?_
      refine z_get (C := RX4) (T := TX4) (N := 14) hx hb hts hiX4 hown hK (hP 0 _ rfl) rfl 0 (by decide) (hts (.fieldLink RX4 48 "HarmoniumDeskModel" "versions" "I") (by decide +kernel)) rfl rfl dX4_fallen_11 ?_
      refine z_icmp_ge (tgt := 54) hx hb dX4_fallen_14 (by decide) (by omega) (by omega) (fun h14 => ?_) (fun h14 => ?_)
      · exfalso; omega
      ·
        refine lv_iload_n hx hb dX4_fallen_17 rfl (lv_at hl 1 rfl) ?_
        refine lv_aload_n hx hb dX4_fallen_18 rfl (lv_at hl 2 rfl) ?_
        refine z_get (C := RX4) (T := TX4) (N := 14) hx hb hts hiX4 hown hK (hP 0 _ rfl) rfl 4 (by decide) (hts (.fieldLink RX4 20 "HarmoniumDeskModel" "hasPassed" "[Z") (by decide +kernel)) rfl rfl dX4_fallen_19 ?_
        refine lv_iload_n hx hb dX4_fallen_22 rfl (lv_at hl 0 rfl) ?_
        refine z_zald hx hb hK (hP 4 _ rfl) (k) (by omega) (by omega) (by decide) dX4_fallen_23 ?_
        refine z_if_eq (tgt := 45) hx hb dX4_fallen_24 (by decide) (by omega) (fun h24 => ?_) (fun h24 => ?_)
        ·
          refine z_iconst hx hb dX4_fallen_45 ?_
          refine lv_ior hx hb dX4_fallen_46 ?_
          refine z_xtop (y := sset (faB σ) (k + 1)) (sset_f (faB σ) k (fun hh => by have hh := of_decide_eq_true hh; omega)) ?_
          refine lv_istore_n (lv' := [(1, .int (sset (faB σ) (k + 1))), (2, .int (zi ((k : Int)))), (0, .ref (ad 0))]) hx hb dX4_fallen_47 rfl hl (by decide) rfl (fun ls hl => ?_)
          refine z_iinc (b := ((k + 1 : Nat) : Int)) (lv' := [(2, .int (zi (((k + 1 : Nat) : Int)))), (1, .int (sset (faB σ) (k + 1))), (0, .ref (ad 0))]) hx hb dX4_fallen_48 hl (k := 1) rfl (by omega) (by decide) rfl (fun ls hl => ?_)
          refine lv_goto (tgt := 9) hx hb dX4_fallen_51 (by decide) ?_
          exact ih (k + 1) (by omega) (by omega) H locs hP hS ls (lv_sub hl [0, 1, 2] rfl)
        ·
          refine lv_aload_n hx hb dX4_fallen_27 rfl (lv_at hl 2 rfl) ?_
          refine lv_iload_n hx hb dX4_fallen_28 rfl (lv_at hl 0 rfl) ?_
          refine ro_V (rest := [.int (sset (faB σ) k)]) (As := [.int (zi ((k : Int)))]) ⟨hx, hb, hml, hown, hts⟩ (c_X4_markOf l g ad σ (0) hW k (by omega) ((k : Int)) (by omega)) (cwV 1 hts gX4_fallen_X4_markOf rfl rfl rfl (by decide +kernel) ⟨Nat.le_of_ble_eq_true rfl, Nat.le_of_ble_eq_true rfl⟩) (z_recv hK (hP 0 _ rfl) rfl) hP hK rfl hl.1 rfl (Nat.le_of_ble_eq_true rfl) dX4_fallen_29 ⟨Nat.zero_le _, Nat.zero_le _⟩ ?_
          have hmk := MK_r hW (k := k) (by omega)
          refine lv_aload_n hx hb dX4_fallen_32 rfl (lv_at hl 2 rfl) ?_
          refine z_get (C := RX4) (T := TX4) (N := 14) hx hb hts hiX4 hown hK (hP 0 _ rfl) rfl 7 (by decide) (hts (.fieldLink RX4 29 "HarmoniumDeskModel" "pass" "I") (by decide +kernel)) rfl rfl dX4_fallen_33 ?_
          refine z_icmp_ge (tgt := 45) hx hb dX4_fallen_36 (by decide) (by omega) (by omega) (fun h36 => ?_) (fun h36 => ?_)
          ·
            refine z_iconst hx hb dX4_fallen_45 ?_
            refine lv_ior hx hb dX4_fallen_46 ?_
            refine z_xtop (y := sset (faB σ) (k + 1)) (sset_f (faB σ) k (fun hh => by have hh := of_decide_eq_true hh; omega)) ?_
            refine lv_istore_n (lv' := [(1, .int (sset (faB σ) (k + 1))), (2, .int (zi ((k : Int)))), (0, .ref (ad 0))]) hx hb dX4_fallen_47 rfl hl (by decide) rfl (fun ls hl => ?_)
            refine z_iinc (b := ((k + 1 : Nat) : Int)) (lv' := [(2, .int (zi (((k + 1 : Nat) : Int)))), (1, .int (sset (faB σ) (k + 1))), (0, .ref (ad 0))]) hx hb dX4_fallen_48 hl (k := 1) rfl (by omega) (by decide) rfl (fun ls hl => ?_)
            refine lv_goto (tgt := 9) hx hb dX4_fallen_51 (by decide) ?_
            exact ih (k + 1) (by omega) (by omega) H locs hP hS ls (lv_sub hl [0, 1, 2] rfl)
          ·
            refine z_iconst hx hb dX4_fallen_39 ?_
            refine lv_iload_n hx hb dX4_fallen_40 rfl (lv_at hl 0 rfl) ?_
            refine lv_ishl hx hb dX4_fallen_41 ?_
            refine lv_goto (tgt := 46) hx hb dX4_fallen_42 (by decide) ?_
            refine lv_ior hx hb dX4_fallen_46 ?_
            refine z_xtop (y := sset (faB σ) (k + 1)) (sset_t (faB σ) k (decide_eq_true ⟨by omega, by omega⟩)) ?_
            refine lv_istore_n (lv' := [(1, .int (sset (faB σ) (k + 1))), (2, .int (zi ((k : Int)))), (0, .ref (ad 0))]) hx hb dX4_fallen_47 rfl hl (by decide) rfl (fun ls hl => ?_)
            refine z_iinc (b := ((k + 1 : Nat) : Int)) (lv' := [(2, .int (zi (((k + 1 : Nat) : Int)))), (1, .int (sset (faB σ) (k + 1))), (0, .ref (ad 0))]) hx hb dX4_fallen_48 hl (k := 1) rfl (by omega) (by decide) rfl (fun ls hl => ?_)
            refine lv_goto (tgt := 9) hx hb dX4_fallen_51 (by decide) ?_
            exact ih (k + 1) (by omega) (by omega) H locs hP hS ls (lv_sub hl [0, 1, 2] rfl)
  exact loop9 _ 0 (by omega) rfl _ _ hP hS ls (lv_sub hl [0, 1, 2] rfl)

set_option maxHeartbeats 4000000 in
set_option maxRecDepth 100000 in
theorem c_X4_best_1 (l : Launch) (g : gG) (ad : Nat → Nat) (σ : SG) (th : Int) (hW : WF σ) (hd : Dst ad) (sz : Nat) (z v b : Int) (hz : zr z) (hv : zr v) (hb9 : zr b) (hbad : ¬ IsN σ z v b) : MI l yX4_best wsX4_best ({ frames := 3, cells := 0, slots := 0, locals := 66 }) g ad [.int (zi (z)), .int (zi (v)), .int (zi (b))] sz σ th (σ) (1) (0) := by
  refine ZM.ofW (cc := cX4_best) (maxL := 10) (ret := (some .int)) (by decide) rfl (Nat.le_of_ble_eq_true rfl) ?_
  intro p e s m below meth c ls hx hb hr hml hown hts hlk hP hK hl _
  obtain ⟨rfl, hP, -⟩ := hP
  have hS : va_S (va_A (MWs g ad σ th) s.heap.size) s.heap s.heap [] := va_S.rf
  have hown : s.vm.findClass RX4 = some m.cls := hown
  have hl : lv_has ls 10 [(0, .ref (ad 0)), (1, .int (zi (z))), (2, .int (zi (v))), (3, .int (zi (b)))] := hl
  have hn := hW.n
  refine lv_aload_n hx hb dX4_best_0 rfl (lv_at hl 0 rfl) ?_
  refine lv_aload_n hx hb dX4_best_1 rfl (lv_at hl 0 rfl) ?_
  refine lv_iload_n hx hb dX4_best_2 rfl (lv_at hl 1 rfl) ?_
  refine lv_iload_n hx hb dX4_best_3 rfl (lv_at hl 2 rfl) ?_
  refine lv_iload_n hx hb dX4_best_4 rfl (lv_at hl 3 rfl) ?_
  refine ro_V (rest := [.ref (ad 0)]) (As := [.int (zi (z)), .int (zi (v)), .int (zi (b))]) ⟨hx, hb, hml, hown, hts⟩ (c_X4_isNote l g ad σ (th) hW (z) (v) (b) (by omega) (by omega) (by omega)) (cwV 3 hts gX4_best_X4_isNote rfl rfl rfl (by decide +kernel) ⟨Nat.le_of_ble_eq_true rfl, Nat.le_of_ble_eq_true rfl⟩) (z_recv hK (hP 0 _ rfl) rfl) hP hK rfl hl.1 rfl (Nat.le_of_ble_eq_true rfl) dX4_best_5 ⟨Nat.zero_le _, Nat.zero_le _⟩ ?_
  refine z_ifp_eq (P := IsN σ (z) (v) (b)) (tgt := 15) hx hb dX4_best_8 (by decide)  (fun h8 => ?_) (fun h8 => ?_)
  ·
    refine z_iconst hx hb dX4_best_15 ?_
    refine wi_V (rest := []) (As := [.int (zi (1))]) ⟨hx, hb, hml, hown, hts⟩ (c_X4_fails l g ad σ (th) hW hd _ (1) (by omega)) (cwV 1 hts gX4_best_X4_fails rfl rfl rfl (by decide +kernel) ⟨Nat.le_of_ble_eq_true rfl, Nat.le_of_ble_eq_true rfl⟩) (z_recv hK (hP 0 _ rfl) rfl) hP trivial hK rfl hl.1 rfl (Nat.le_of_ble_eq_true rfl) dX4_best_16 ⟨Nat.zero_le _, Nat.zero_le _⟩ hS (MW_fr hS.1) (fun H locs hP _ _ hS => ?_)
    refine z_ifp_eq (P := 0 < (1)) (tgt := 24) hx hb dX4_best_19 (by decide)  (fun h19 => ?_) (fun h19 => ?_)
    · exfalso; omega
    ·
      refine z_iconst hx hb dX4_best_22 ?_
      exact z_wiret hx hb hr hlk dX4_best_23 (by omega) hP hS
  · exfalso; omega

set_option maxHeartbeats 4000000 in
set_option maxRecDepth 100000 in
theorem c_X4_print_1 (l : Launch) (g : gG) (ad : Nat → Nat) (σ : SG) (th : Int) (hW : WF σ) (hd : Dst ad) (sz : Nat) (z v : Int) (hz : zr z) (hv : zr v) (hbad : ¬ IsN σ z v 0) : MI l yX4_print wsX4_print ({ frames := 3, cells := 0, slots := 0, locals := 66 }) g ad [.int (zi (z)), .int (zi (v))] sz σ th (σ) (1) (0) := by
  refine ZM.ofW (cc := cX4_print) (maxL := 5) (ret := (some .int)) (by decide) rfl (Nat.le_of_ble_eq_true rfl) ?_
  intro p e s m below meth c ls hx hb hr hml hown hts hlk hP hK hl _
  obtain ⟨rfl, hP, -⟩ := hP
  have hS : va_S (va_A (MWs g ad σ th) s.heap.size) s.heap s.heap [] := va_S.rf
  have hown : s.vm.findClass RX4 = some m.cls := hown
  have hl : lv_has ls 5 [(0, .ref (ad 0)), (1, .int (zi (z))), (2, .int (zi (v)))] := hl
  have hn := hW.n
  refine lv_aload_n hx hb dX4_print_0 rfl (lv_at hl 0 rfl) ?_
  refine lv_iload_n hx hb dX4_print_1 rfl (lv_at hl 1 rfl) ?_
  refine lv_iload_n hx hb dX4_print_2 rfl (lv_at hl 2 rfl) ?_
  refine z_iconst hx hb dX4_print_3 ?_
  refine ro_V (rest := []) (As := [.int (zi (z)), .int (zi (v)), .int (zi (0))]) ⟨hx, hb, hml, hown, hts⟩ (c_X4_isNote l g ad σ (th) hW (z) (v) (0) (by omega) (by omega) (by omega)) (cwV 3 hts gX4_print_X4_isNote rfl rfl rfl (by decide +kernel) ⟨Nat.le_of_ble_eq_true rfl, Nat.le_of_ble_eq_true rfl⟩) (z_recv hK (hP 0 _ rfl) rfl) hP hK rfl hl.1 rfl (Nat.le_of_ble_eq_true rfl) dX4_print_4 ⟨Nat.zero_le _, Nat.zero_le _⟩ ?_
  refine lv_istore_n (lv' := [(3, .int (zi (pz (IsN σ (z) (v) (0))))), (0, .ref (ad 0)), (1, .int (zi (z))), (2, .int (zi (v)))]) hx hb dX4_print_7 rfl hl (by decide) rfl (fun ls hl => ?_)
  refine lv_aload_n hx hb dX4_print_8 rfl (lv_at hl 1 rfl) ?_
  refine lv_iload_n hx hb dX4_print_9 rfl (lv_at hl 0 rfl) ?_
  refine z_ifp_ne (P := IsN σ (z) (v) (0)) (tgt := 17) hx hb dX4_print_10 (by decide)  (fun h10 => ?_) (fun h10 => ?_)
  · exfalso; omega
  ·
    refine z_iconst hx hb dX4_print_13 ?_
    refine lv_goto (tgt := 31) hx hb dX4_print_14 (by decide) ?_
    refine wi_V (rest := []) (As := [.int (zi (1))]) ⟨hx, hb, hml, hown, hts⟩ (c_X4_fails l g ad σ (th) hW hd _ (1) (by omega)) (cwV 1 hts gX4_print_X4_fails rfl rfl rfl (by decide +kernel) ⟨Nat.le_of_ble_eq_true rfl, Nat.le_of_ble_eq_true rfl⟩) (z_recv hK (hP 0 _ rfl) rfl) hP trivial hK rfl hl.1 rfl (Nat.le_of_ble_eq_true rfl) dX4_print_31 ⟨Nat.zero_le _, Nat.zero_le _⟩ hS (MW_fr hS.1) (fun H locs hP _ _ hS => ?_)
    refine z_ifp_eq (P := 0 < (1)) (tgt := 39) hx hb dX4_print_34 (by decide)  (fun h34 => ?_) (fun h34 => ?_)
    · exfalso; omega
    ·
      refine z_iconst hx hb dX4_print_37 ?_
      exact z_wiret hx hb hr hlk dX4_print_38 (by omega) hP hS

set_option maxHeartbeats 4000000 in
set_option maxRecDepth 100000 in
theorem c_X4_print_2 (l : Launch) (g : gG) (ad : Nat → Nat) (σ : SG) (th : Int) (hW : WF σ) (hd : Dst ad) (sz : Nat) (z v : Int) (hz : zr z) (hv : zr v) (hg : IsN σ z v 0) (hfull : σ 8 0 = 20) : MI l yX4_print wsX4_print ({ frames := 3, cells := 0, slots := 0, locals := 66 }) g ad [.int (zi (z)), .int (zi (v))] sz σ th (σ) (2) (0) := by
  refine ZM.ofW (cc := cX4_print) (maxL := 5) (ret := (some .int)) (by decide) rfl (Nat.le_of_ble_eq_true rfl) ?_
  intro p e s m below meth c ls hx hb hr hml hown hts hlk hP hK hl _
  obtain ⟨rfl, hP, -⟩ := hP
  have hS : va_S (va_A (MWs g ad σ th) s.heap.size) s.heap s.heap [] := va_S.rf
  have hown : s.vm.findClass RX4 = some m.cls := hown
  have hl : lv_has ls 5 [(0, .ref (ad 0)), (1, .int (zi (z))), (2, .int (zi (v)))] := hl
  have hiX4 : ∀ w ∈ u_ws RX4 TX4 14, w ∈ wsX4_print := by decide +kernel
  have hn := hW.n
  have hcn := hW.cn
  refine lv_aload_n hx hb dX4_print_0 rfl (lv_at hl 0 rfl) ?_
  refine lv_iload_n hx hb dX4_print_1 rfl (lv_at hl 1 rfl) ?_
  refine lv_iload_n hx hb dX4_print_2 rfl (lv_at hl 2 rfl) ?_
  refine z_iconst hx hb dX4_print_3 ?_
  refine ro_V (rest := []) (As := [.int (zi (z)), .int (zi (v)), .int (zi (0))]) ⟨hx, hb, hml, hown, hts⟩ (c_X4_isNote l g ad σ (th) hW (z) (v) (0) (by omega) (by omega) (by omega)) (cwV 3 hts gX4_print_X4_isNote rfl rfl rfl (by decide +kernel) ⟨Nat.le_of_ble_eq_true rfl, Nat.le_of_ble_eq_true rfl⟩) (z_recv hK (hP 0 _ rfl) rfl) hP hK rfl hl.1 rfl (Nat.le_of_ble_eq_true rfl) dX4_print_4 ⟨Nat.zero_le _, Nat.zero_le _⟩ ?_
  refine lv_istore_n (lv' := [(3, .int (zi (pz (IsN σ (z) (v) (0))))), (0, .ref (ad 0)), (1, .int (zi (z))), (2, .int (zi (v)))]) hx hb dX4_print_7 rfl hl (by decide) rfl (fun ls hl => ?_)
  refine lv_aload_n hx hb dX4_print_8 rfl (lv_at hl 1 rfl) ?_
  refine lv_iload_n hx hb dX4_print_9 rfl (lv_at hl 0 rfl) ?_
  refine z_ifp_ne (P := IsN σ (z) (v) (0)) (tgt := 17) hx hb dX4_print_10 (by decide)  (fun h10 => ?_) (fun h10 => ?_)
  ·
    refine lv_aload_n hx hb dX4_print_17 rfl (lv_at hl 1 rfl) ?_
    refine z_get (C := RX4) (T := TX4) (N := 14) hx hb hts hiX4 hown hK (hP 0 _ rfl) rfl 8 (by decide) (hts (.fieldLink RX4 105 "HarmoniumDeskModel" "copies" "I") (by decide +kernel)) rfl rfl dX4_print_18 ?_
    refine z_bipush hx hb dX4_print_21 (by decide) ?_
    refine z_icmp_ne (tgt := 30) hx hb dX4_print_23 (by decide) (by omega) (by omega) (fun h23 => ?_) (fun h23 => ?_)
    · exfalso; omega
    ·
      refine z_iconst hx hb dX4_print_26 ?_
      refine lv_goto (tgt := 31) hx hb dX4_print_27 (by decide) ?_
      refine wi_V (rest := []) (As := [.int (zi (2))]) ⟨hx, hb, hml, hown, hts⟩ (c_X4_fails l g ad σ (th) hW hd _ (2) (by omega)) (cwV 1 hts gX4_print_X4_fails rfl rfl rfl (by decide +kernel) ⟨Nat.le_of_ble_eq_true rfl, Nat.le_of_ble_eq_true rfl⟩) (z_recv hK (hP 0 _ rfl) rfl) hP trivial hK rfl hl.1 rfl (Nat.le_of_ble_eq_true rfl) dX4_print_31 ⟨Nat.zero_le _, Nat.zero_le _⟩ hS (MW_fr hS.1) (fun H locs hP _ _ hS => ?_)
      refine z_ifp_eq (P := 0 < (2)) (tgt := 39) hx hb dX4_print_34 (by decide)  (fun h34 => ?_) (fun h34 => ?_)
      · exfalso; omega
      ·
        refine z_iconst hx hb dX4_print_37 ?_
        exact z_wiret hx hb hr hlk dX4_print_38 (by omega) hP hS
  · exfalso; omega

set_option maxHeartbeats 4000000 in
set_option maxRecDepth 100000 in
theorem c_X4_slips_1 (l : Launch) (g : gG) (ad : Nat → Nat) (σ : SG) (th : Int) (hW : WF σ) (hd : Dst ad) (sz : Nat) (c9 : Int) (hc9 : zr c9) (hbad : ¬ IsC σ c9) : MI l yX4_slips wsX4_slips ({ frames := 2, cells := 0, slots := 0, locals := 43 }) g ad [.int (zi (c9))] sz σ th (σ) (1) (0) := by
  refine ZM.ofW (cc := cX4_slips) (maxL := 2) (ret := (some .int)) (by decide) rfl (Nat.le_of_ble_eq_true rfl) ?_
  intro p e s m below meth c ls hx hb hr hml hown hts hlk hP hK hl _
  obtain ⟨rfl, hP, -⟩ := hP
  have hS : va_S (va_A (MWs g ad σ th) s.heap.size) s.heap s.heap [] := va_S.rf
  have hown : s.vm.findClass RX4 = some m.cls := hown
  have hl : lv_has ls 2 [(0, .ref (ad 0)), (1, .int (zi (c9)))] := hl
  have hn := hW.n
  have hcn := hW.cn
  refine lv_aload_n hx hb dX4_slips_0 rfl (lv_at hl 0 rfl) ?_
  refine lv_aload_n hx hb dX4_slips_1 rfl (lv_at hl 0 rfl) ?_
  refine lv_iload_n hx hb dX4_slips_2 rfl (lv_at hl 1 rfl) ?_
  refine ro_V (rest := [.ref (ad 0)]) (As := [.int (zi (c9))]) ⟨hx, hb, hml, hown, hts⟩ (c_X4_isCopy l g ad σ (th) hW (c9) (by omega)) (cwV 1 hts gX4_slips_X4_isCopy rfl rfl rfl (by decide +kernel) ⟨Nat.le_of_ble_eq_true rfl, Nat.le_of_ble_eq_true rfl⟩) (z_recv hK (hP 0 _ rfl) rfl) hP hK rfl hl.1 rfl (Nat.le_of_ble_eq_true rfl) dX4_slips_3 ⟨Nat.zero_le _, Nat.zero_le _⟩ ?_
  refine z_ifp_eq (P := IsC σ (c9)) (tgt := 13) hx hb dX4_slips_6 (by decide)  (fun h6 => ?_) (fun h6 => ?_)
  ·
    refine z_iconst hx hb dX4_slips_13 ?_
    refine wi_V (rest := []) (As := [.int (zi (1))]) ⟨hx, hb, hml, hown, hts⟩ (c_X4_fails l g ad σ (th) hW hd _ (1) (by omega)) (cwV 1 hts gX4_slips_X4_fails rfl rfl rfl (by decide +kernel) ⟨Nat.le_of_ble_eq_true rfl, Nat.le_of_ble_eq_true rfl⟩) (z_recv hK (hP 0 _ rfl) rfl) hP trivial hK rfl hl.1 rfl (Nat.le_of_ble_eq_true rfl) dX4_slips_14 ⟨Nat.zero_le _, Nat.zero_le _⟩ hS (MW_fr hS.1) (fun H locs hP _ _ hS => ?_)
    refine z_ifp_eq (P := 0 < (1)) (tgt := 24) hx hb dX4_slips_17 (by decide)  (fun h17 => ?_) (fun h17 => ?_)
    · exfalso; omega
    ·
      refine z_iconst hx hb dX4_slips_20 ?_
      refine lv_goto (tgt := 30) hx hb dX4_slips_21 (by decide) ?_
      exact z_wiret hx hb hr hlk dX4_slips_30 (by omega) hP hS
  · exfalso; omega

set_option maxHeartbeats 4000000 in
set_option maxRecDepth 100000 in
theorem c_X4_slips_0 (l : Launch) (g : gG) (ad : Nat → Nat) (σ : SG) (th : Int) (hW : WF σ) (hd : Dst ad) (sz : Nat) (c1 : Nat) (hc : (c1 : Int) < σ 8 0) (zc : Int) (hzc : zc = (c1 : Int)) : MI l yX4_slips wsX4_slips ({ frames := 2, cells := 0, slots := 0, locals := 43 }) g ad [.int (zi (zc))] sz σ th (σ) (0) (σ 12 c1) := by
  refine ZM.ofW (cc := cX4_slips) (maxL := 2) (ret := (some .int)) (by decide) rfl (Nat.le_of_ble_eq_true rfl) ?_
  intro p e s m below meth c ls hx hb hr hml hown hts hlk hP hK hl _
  obtain ⟨rfl, hP, -⟩ := hP
  have hS : va_S (va_A (MWs g ad σ th) s.heap.size) s.heap s.heap [] := va_S.rf
  have hown : s.vm.findClass RX4 = some m.cls := hown
  have hl : lv_has ls 2 [(0, .ref (ad 0)), (1, .int (zi (zc)))] := hl
  have hiX4 : ∀ w ∈ u_ws RX4 TX4 14, w ∈ wsX4_slips := by decide +kernel
  have hn := hW.n
  have hcn := hW.cn
  refine lv_aload_n hx hb dX4_slips_0 rfl (lv_at hl 0 rfl) ?_
  refine lv_aload_n hx hb dX4_slips_1 rfl (lv_at hl 0 rfl) ?_
  refine lv_iload_n hx hb dX4_slips_2 rfl (lv_at hl 1 rfl) ?_
  refine ro_V (rest := [.ref (ad 0)]) (As := [.int (zi (zc))]) ⟨hx, hb, hml, hown, hts⟩ (c_X4_isCopy l g ad σ (th) hW (zc) (by omega)) (cwV 1 hts gX4_slips_X4_isCopy rfl rfl rfl (by decide +kernel) ⟨Nat.le_of_ble_eq_true rfl, Nat.le_of_ble_eq_true rfl⟩) (z_recv hK (hP 0 _ rfl) rfl) hP hK rfl hl.1 rfl (Nat.le_of_ble_eq_true rfl) dX4_slips_3 ⟨Nat.zero_le _, Nat.zero_le _⟩ ?_
  refine z_ifp_eq (P := IsC σ (zc)) (tgt := 13) hx hb dX4_slips_6 (by decide)  (fun h6 => ?_) (fun h6 => ?_)
  · exfalso; omega
  ·
    refine z_iconst hx hb dX4_slips_9 ?_
    refine lv_goto (tgt := 14) hx hb dX4_slips_10 (by decide) ?_
    refine wi_V (rest := []) (As := [.int (zi (0))]) ⟨hx, hb, hml, hown, hts⟩ (c_X4_fails l g ad σ (th) hW hd _ (0) (by omega)) (cwV 1 hts gX4_slips_X4_fails rfl rfl rfl (by decide +kernel) ⟨Nat.le_of_ble_eq_true rfl, Nat.le_of_ble_eq_true rfl⟩) (z_recv hK (hP 0 _ rfl) rfl) hP trivial hK rfl hl.1 rfl (Nat.le_of_ble_eq_true rfl) dX4_slips_14 ⟨Nat.zero_le _, Nat.zero_le _⟩ hS (MW_fr hS.1) (fun H locs hP _ _ hS => ?_)
    refine z_ifp_eq (P := 0 < (0)) (tgt := 24) hx hb dX4_slips_17 (by decide)  (fun h17 => ?_) (fun h17 => ?_)
    ·
      refine lv_aload_n hx hb dX4_slips_24 rfl (lv_at hl 0 rfl) ?_
      refine z_get (C := RX4) (T := TX4) (N := 14) hx hb hts hiX4 hown hK (hP 0 _ rfl) rfl 12 (by decide) (hts (.fieldLink RX4 42 "HarmoniumDeskModel" "slips" "[I") (by decide +kernel)) rfl rfl dX4_slips_25 ?_
      refine lv_iload_n hx hb dX4_slips_28 rfl (lv_at hl 1 rfl) ?_
      refine z_iald hx hb hK (hP 10 _ rfl) (c1) (by omega) (by omega) (by decide) dX4_slips_29 ?_
      exact z_wiret hx hb hr hlk dX4_slips_30 (rfl) hP hS
    · exfalso; omega
end
