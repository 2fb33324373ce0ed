section
-- ===== PART A: goes FIRST, ahead of the names: the tables' words, and 'selects' of the private methods out of them =====
/-- a private method of a class that the tables say can be made, by its rows of tables_1 -/
def lw_okq (q : MethodName × Nat) : Prop := (q.1.cls ≠ "java/lang/invoke/MethodHandle" ∧ q.1.cls ≠ "java/lang/invoke/VarHandle") ∧ Cond.instantiable q.1.cls q.2 ∈ tables_1 ∧ Cond.privateMethod q.1 ∈ tables_1 ∧ Cond.instanceMethod q.1 ∈ tables_1
theorem lw_p0 : lw_okq (⟨"HarmoniumDesk", "markOf", "(LHarmoniumDesk$Score;)I"⟩, 7) := ⟨⟨by decide +kernel, by decide +kernel⟩, List.mem_of_getElem? (i := 15) (by decide +kernel), List.mem_of_getElem? (i := 72) (by decide +kernel), List.mem_of_getElem? (i := 73) (by decide +kernel)⟩
theorem lw_p1 : lw_okq (⟨"HarmoniumDesk", "weightedFaults", "(LHarmoniumDesk$Score;II)I"⟩, 7) := ⟨⟨by decide +kernel, by decide +kernel⟩, List.mem_of_getElem? (i := 15) (by decide +kernel), List.mem_of_getElem? (i := 76) (by decide +kernel), List.mem_of_getElem? (i := 77) (by decide +kernel)⟩
theorem lw_p2 : lw_okq (⟨"HarmoniumDesk$Score", "isDiscord", "(I)Z"⟩, 3) := ⟨⟨by decide +kernel, by decide +kernel⟩, List.mem_of_getElem? (i := 27) (by decide +kernel), List.mem_of_getElem? (i := 84) (by decide +kernel), List.mem_of_getElem? (i := 85) (by decide +kernel)⟩
theorem lw_p3 : lw_okq (⟨"HarmoniumDesk$Score", "interval", "(I)I"⟩, 3) := ⟨⟨by decide +kernel, by decide +kernel⟩, List.mem_of_getElem? (i := 27) (by decide +kernel), List.mem_of_getElem? (i := 88) (by decide +kernel), List.mem_of_getElem? (i := 89) (by decide +kernel)⟩
theorem lw_p4 : lw_okq (⟨"HarmoniumDesk$Score", "isParallel", "(I)Z"⟩, 3) := ⟨⟨by decide +kernel, by decide +kernel⟩, List.mem_of_getElem? (i := 27) (by decide +kernel), List.mem_of_getElem? (i := 99) (by decide +kernel), List.mem_of_getElem? (i := 100) (by decide +kernel)⟩
theorem lw_p5 : lw_okq (⟨"HarmoniumDesk$Score", "stepTo", "(II)I"⟩, 3) := ⟨⟨by decide +kernel, by decide +kernel⟩, List.mem_of_getElem? (i := 27) (by decide +kernel), List.mem_of_getElem? (i := 103) (by decide +kernel), List.mem_of_getElem? (i := 104) (by decide +kernel)⟩
theorem lw_p6 : lw_okq (⟨"HarmoniumDesk$Score", "leapsTo", "(I)I"⟩, 3) := ⟨⟨by decide +kernel, by decide +kernel⟩, List.mem_of_getElem? (i := 27) (by decide +kernel), List.mem_of_getElem? (i := 110) (by decide +kernel), List.mem_of_getElem? (i := 111) (by decide +kernel)⟩
theorem lw_p7 : lw_okq (⟨"HarmoniumDesk$Score", "badEndsAt", "(I)I"⟩, 3) := ⟨⟨by decide +kernel, by decide +kernel⟩, List.mem_of_getElem? (i := 27) (by decide +kernel), List.mem_of_getElem? (i := 114) (by decide +kernel), List.mem_of_getElem? (i := 115) (by decide +kernel)⟩
theorem lw_p8 : lw_okq (⟨"HarmoniumDesk$Score", "isStanding", "(I)Z"⟩, 3) := ⟨⟨by decide +kernel, by decide +kernel⟩, List.mem_of_getElem? (i := 27) (by decide +kernel), List.mem_of_getElem? (i := 118) (by decide +kernel), List.mem_of_getElem? (i := 119) (by decide +kernel)⟩
theorem lw_p9 : lw_okq (⟨"java/lang/Throwable", "fillInStackTrace", "(I)Ljava/lang/Throwable;"⟩, 6) := ⟨⟨by decide +kernel, by decide +kernel⟩, List.mem_of_getElem? (i := 172) (by decide +kernel), List.mem_of_getElem? (i := 170) (by decide +kernel), List.mem_of_getElem? (i := 171) (by decide +kernel)⟩
theorem lw_p10 : lw_okq (⟨"HarmoniumDesk", "addVersion", "(LHarmoniumDesk$Version;)LHarmoniumDesk$Version;"⟩, 7) := ⟨⟨by decide +kernel, by decide +kernel⟩, List.mem_of_getElem? (i := 15) (by decide +kernel), List.mem_of_getElem? (i := 202) (by decide +kernel), List.mem_of_getElem? (i := 203) (by decide +kernel)⟩
theorem lw_p11 : lw_okq (⟨"HarmoniumDesk", "findVersion", "(I)LHarmoniumDesk$Version;"⟩, 7) := ⟨⟨by decide +kernel, by decide +kernel⟩, List.mem_of_getElem? (i := 15) (by decide +kernel), List.mem_of_getElem? (i := 266) (by decide +kernel), List.mem_of_getElem? (i := 267) (by decide +kernel)⟩
theorem lw_p12 : lw_okq (⟨"HarmoniumDesk", "bestTone", "(II)I"⟩, 7) := ⟨⟨by decide +kernel, by decide +kernel⟩, List.mem_of_getElem? (i := 15) (by decide +kernel), List.mem_of_getElem? (i := 405) (by decide +kernel), List.mem_of_getElem? (i := 406) (by decide +kernel)⟩
theorem lw_p13 : lw_okq (⟨"HarmoniumDesk", "addCopy", "(ILHarmoniumDesk$Score;)I"⟩, 7) := ⟨⟨by decide +kernel, by decide +kernel⟩, List.mem_of_getElem? (i := 15) (by decide +kernel), List.mem_of_getElem? (i := 430) (by decide +kernel), List.mem_of_getElem? (i := 431) (by decide +kernel)⟩
theorem lw_p14 : lw_okq (⟨"HarmoniumDesk", "findCopy", "(I)LHarmoniumDesk$Copy;"⟩, 7) := ⟨⟨by decide +kernel, by decide +kernel⟩, List.mem_of_getElem? (i := 15) (by decide +kernel), List.mem_of_getElem? (i := 467) (by decide +kernel), List.mem_of_getElem? (i := 468) (by decide +kernel)⟩
theorem lw_p15 : lw_okq (⟨"HarmoniumDeskModel", "fails", "(I)Z"⟩, 14) := ⟨⟨by decide +kernel, by decide +kernel⟩, List.mem_of_getElem? (i := 501) (by decide +kernel), List.mem_of_getElem? (i := 562) (by decide +kernel), List.mem_of_getElem? (i := 563) (by decide +kernel)⟩
def lw_privs_1 : List (MethodName × Nat) := [(⟨"HarmoniumDesk", "markOf", "(LHarmoniumDesk$Score;)I"⟩, 7), (⟨"HarmoniumDesk", "weightedFaults", "(LHarmoniumDesk$Score;II)I"⟩, 7), (⟨"HarmoniumDesk$Score", "isDiscord", "(I)Z"⟩, 3), (⟨"HarmoniumDesk$Score", "interval", "(I)I"⟩, 3), (⟨"HarmoniumDesk$Score", "isParallel", "(I)Z"⟩, 3), (⟨"HarmoniumDesk$Score", "stepTo", "(II)I"⟩, 3), (⟨"HarmoniumDesk$Score", "leapsTo", "(I)I"⟩, 3), (⟨"HarmoniumDesk$Score", "badEndsAt", "(I)I"⟩, 3), (⟨"HarmoniumDesk$Score", "isStanding", "(I)Z"⟩, 3), (⟨"java/lang/Throwable", "fillInStackTrace", "(I)Ljava/lang/Throwable;"⟩, 6), (⟨"HarmoniumDesk", "addVersion", "(LHarmoniumDesk$Version;)LHarmoniumDesk$Version;"⟩, 7), (⟨"HarmoniumDesk", "findVersion", "(I)LHarmoniumDesk$Version;"⟩, 7), (⟨"HarmoniumDesk", "bestTone", "(II)I"⟩, 7), (⟨"HarmoniumDesk", "addCopy", "(ILHarmoniumDesk$Score;)I"⟩, 7), (⟨"HarmoniumDesk", "findCopy", "(I)LHarmoniumDesk$Copy;"⟩, 7), (⟨"HarmoniumDeskModel", "fails", "(I)Z"⟩, 14)]
theorem lw_r1 : ∀ q ∈ lw_privs_1, lw_okq q := List.forall_mem_cons.mpr ⟨lw_p0, List.forall_mem_cons.mpr ⟨lw_p1, List.forall_mem_cons.mpr ⟨lw_p2, List.forall_mem_cons.mpr ⟨lw_p3, List.forall_mem_cons.mpr ⟨lw_p4, List.forall_mem_cons.mpr ⟨lw_p5, List.forall_mem_cons.mpr ⟨lw_p6, List.forall_mem_cons.mpr ⟨lw_p7, List.forall_mem_cons.mpr ⟨lw_p8, List.forall_mem_cons.mpr ⟨lw_p9, List.forall_mem_cons.mpr ⟨lw_p10, List.forall_mem_cons.mpr ⟨lw_p11, List.forall_mem_cons.mpr ⟨lw_p12, List.forall_mem_cons.mpr ⟨lw_p13, List.forall_mem_cons.mpr ⟨lw_p14, List.forall_mem_cons.mpr ⟨lw_p15, fun _ h => absurd h List.not_mem_nil⟩⟩⟩⟩⟩⟩⟩⟩⟩⟩⟩⟩⟩⟩⟩⟩
theorem lw_p16 : lw_okq (⟨"HarmoniumDeskModel", "isVersion", "(I)Z"⟩, 14) := ⟨⟨by decide +kernel, by decide +kernel⟩, List.mem_of_getElem? (i := 501) (by decide +kernel), List.mem_of_getElem? (i := 573) (by decide +kernel), List.mem_of_getElem? (i := 574) (by decide +kernel)⟩
theorem lw_p17 : lw_okq (⟨"HarmoniumDeskModel", "makes", "(I)I"⟩, 14) := ⟨⟨by decide +kernel, by decide +kernel⟩, List.mem_of_getElem? (i := 501) (by decide +kernel), List.mem_of_getElem? (i := 577) (by decide +kernel), List.mem_of_getElem? (i := 578) (by decide +kernel)⟩
theorem lw_p18 : lw_okq (⟨"HarmoniumDeskModel", "isNote", "(III)Z"⟩, 14) := ⟨⟨by decide +kernel, by decide +kernel⟩, List.mem_of_getElem? (i := 501) (by decide +kernel), List.mem_of_getElem? (i := 585) (by decide +kernel), List.mem_of_getElem? (i := 586) (by decide +kernel)⟩
theorem lw_p19 : lw_okq (⟨"HarmoniumDeskModel", "baseOf", "(II)I"⟩, 14) := ⟨⟨by decide +kernel, by decide +kernel⟩, List.mem_of_getElem? (i := 501) (by decide +kernel), List.mem_of_getElem? (i := 597) (by decide +kernel), List.mem_of_getElem? (i := 598) (by decide +kernel)⟩
theorem lw_p20 : lw_okq (⟨"HarmoniumDeskModel", "isAncestor", "(II)Z"⟩, 14) := ⟨⟨by decide +kernel, by decide +kernel⟩, List.mem_of_getElem? (i := 501) (by decide +kernel), List.mem_of_getElem? (i := 601) (by decide +kernel), List.mem_of_getElem? (i := 602) (by decide +kernel)⟩
theorem lw_p21 : lw_okq (⟨"HarmoniumDeskModel", "areAlike", "(III)Z"⟩, 14) := ⟨⟨by decide +kernel, by decide +kernel⟩, List.mem_of_getElem? (i := 501) (by decide +kernel), List.mem_of_getElem? (i := 609) (by decide +kernel), List.mem_of_getElem? (i := 610) (by decide +kernel)⟩
theorem lw_p22 : lw_okq (⟨"HarmoniumDeskModel", "faultsAt", "(III)I"⟩, 14) := ⟨⟨by decide +kernel, by decide +kernel⟩, List.mem_of_getElem? (i := 501) (by decide +kernel), List.mem_of_getElem? (i := 629) (by decide +kernel), List.mem_of_getElem? (i := 630) (by decide +kernel)⟩
theorem lw_p23 : lw_okq (⟨"HarmoniumDeskModel", "interval", "(II)I"⟩, 14) := ⟨⟨by decide +kernel, by decide +kernel⟩, List.mem_of_getElem? (i := 501) (by decide +kernel), List.mem_of_getElem? (i := 633) (by decide +kernel), List.mem_of_getElem? (i := 634) (by decide +kernel)⟩
theorem lw_p24 : lw_okq (⟨"HarmoniumDeskModel", "stays", "(III)Z"⟩, 14) := ⟨⟨by decide +kernel, by decide +kernel⟩, List.mem_of_getElem? (i := 501) (by decide +kernel), List.mem_of_getElem? (i := 640) (by decide +kernel), List.mem_of_getElem? (i := 641) (by decide +kernel)⟩
theorem lw_p25 : lw_okq (⟨"HarmoniumDeskModel", "leap", "(III)I"⟩, 14) := ⟨⟨by decide +kernel, by decide +kernel⟩, List.mem_of_getElem? (i := 501) (by decide +kernel), List.mem_of_getElem? (i := 644) (by decide +kernel), List.mem_of_getElem? (i := 645) (by decide +kernel)⟩
theorem lw_p26 : lw_okq (⟨"HarmoniumDeskModel", "markOf", "(I)I"⟩, 14) := ⟨⟨by decide +kernel, by decide +kernel⟩, List.mem_of_getElem? (i := 501) (by decide +kernel), List.mem_of_getElem? (i := 652) (by decide +kernel), List.mem_of_getElem? (i := 653) (by decide +kernel)⟩
theorem lw_p27 : lw_okq (⟨"HarmoniumDeskModel", "costs", "(I)I"⟩, 14) := ⟨⟨by decide +kernel, by decide +kernel⟩, List.mem_of_getElem? (i := 501) (by decide +kernel), List.mem_of_getElem? (i := 656) (by decide +kernel), List.mem_of_getElem? (i := 657) (by decide +kernel)⟩
theorem lw_p28 : lw_okq (⟨"HarmoniumDeskModel", "misses", "(II)I"⟩, 14) := ⟨⟨by decide +kernel, by decide +kernel⟩, List.mem_of_getElem? (i := 501) (by decide +kernel), List.mem_of_getElem? (i := 684) (by decide +kernel), List.mem_of_getElem? (i := 685) (by decide +kernel)⟩
theorem lw_p29 : lw_okq (⟨"HarmoniumDeskModel", "isCopy", "(I)Z"⟩, 14) := ⟨⟨by decide +kernel, by decide +kernel⟩, List.mem_of_getElem? (i := 501) (by decide +kernel), List.mem_of_getElem? (i := 688) (by decide +kernel), List.mem_of_getElem? (i := 689) (by decide +kernel)⟩
theorem lw_p30 : lw_okq (⟨"HarmoniumDeskModel", "differs", "(II)I"⟩, 14) := ⟨⟨by decide +kernel, by decide +kernel⟩, List.mem_of_getElem? (i := 501) (by decide +kernel), List.mem_of_getElem? (i := 692) (by decide +kernel), List.mem_of_getElem? (i := 693) (by decide +kernel)⟩
def lw_privs_2 : List (MethodName × Nat) := [(⟨"HarmoniumDeskModel", "isVersion", "(I)Z"⟩, 14), (⟨"HarmoniumDeskModel", "makes", "(I)I"⟩, 14), (⟨"HarmoniumDeskModel", "isNote", "(III)Z"⟩, 14), (⟨"HarmoniumDeskModel", "baseOf", "(II)I"⟩, 14), (⟨"HarmoniumDeskModel", "isAncestor", "(II)Z"⟩, 14), (⟨"HarmoniumDeskModel", "areAlike", "(III)Z"⟩, 14), (⟨"HarmoniumDeskModel", "faultsAt", "(III)I"⟩, 14), (⟨"HarmoniumDeskModel", "interval", "(II)I"⟩, 14), (⟨"HarmoniumDeskModel", "stays", "(III)Z"⟩, 14), (⟨"HarmoniumDeskModel", "leap", "(III)I"⟩, 14), (⟨"HarmoniumDeskModel", "markOf", "(I)I"⟩, 14), (⟨"HarmoniumDeskModel", "costs", "(I)I"⟩, 14), (⟨"HarmoniumDeskModel", "misses", "(II)I"⟩, 14), (⟨"HarmoniumDeskModel", "isCopy", "(I)Z"⟩, 14), (⟨"HarmoniumDeskModel", "differs", "(II)I"⟩, 14)]
theorem lw_r2 : ∀ q ∈ lw_privs_2, lw_okq q := List.forall_mem_cons.mpr ⟨lw_p16, List.forall_mem_cons.mpr ⟨lw_p17, List.forall_mem_cons.mpr ⟨lw_p18, List.forall_mem_cons.mpr ⟨lw_p19, List.forall_mem_cons.mpr ⟨lw_p20, List.forall_mem_cons.mpr ⟨lw_p21, List.forall_mem_cons.mpr ⟨lw_p22, List.forall_mem_cons.mpr ⟨lw_p23, List.forall_mem_cons.mpr ⟨lw_p24, List.forall_mem_cons.mpr ⟨lw_p25, List.forall_mem_cons.mpr ⟨lw_p26, List.forall_mem_cons.mpr ⟨lw_p27, List.forall_mem_cons.mpr ⟨lw_p28, List.forall_mem_cons.mpr ⟨lw_p29, List.forall_mem_cons.mpr ⟨lw_p30, fun _ h => absurd h List.not_mem_nil⟩⟩⟩⟩⟩⟩⟩⟩⟩⟩⟩⟩⟩⟩⟩
def lw_privs : List (MethodName × Nat) := lw_privs_1 ++ (lw_privs_2)
def lw_tbl : List Cond := k2_sels lw_privs ++ tables_1
theorem lw_privs_ok : ∀ q ∈ lw_privs, lw_okq q := by
  show ∀ q ∈ lw_privs_1 ++ (lw_privs_2), lw_okq q
  exact List.forall_mem_append.mpr ⟨lw_r1, lw_r2⟩
/-- the streams that the claim lets the run draw from -/
abbrev lw_cs : List Choice := [Jvm.Choice.named "NaN.bits"]
theorem lw_bits : nanBits ∈ lw_cs := by first | decide | exact List.mem_cons_self | simp [lw_cs, nanBits]
-- ===== end of PART A; then your names; then what follows =====
end
section
/-! ===== BEGIN words of one list among another's, by their places ===== -/
theorem goodIn_r {big : List Cond} (ws : List Cond) (ps : List Nat) (hp : ws = ps.filterMap (fun i => big[i]?)) (h : ws.all goodWord = true) : GoodIn big ws := by
  intro w hw
  have h1 := List.all_eq_true.mp h w hw
  rw [hp] at hw
  obtain ⟨i, -, hi⟩ := List.mem_filterMap.mp hw
  have hm : w ∈ big := by first | exact List.mem_of_getElem? hi | exact List.getElem?_mem hi
  exact ⟨hm, good_of_word h1⟩
theorem goodIn_app {big a b : List Cond} (ha : GoodIn big a) (hb : GoodIn big b) : GoodIn big (a ++ b) := fun w h => (List.mem_append.mp h).elim (ha w) (hb w)
theorem goodIn_ca {big a b : List Cond} {c : Cond} (ha : GoodIn big (c :: a)) (hb : GoodIn big b) : GoodIn big (c :: (a ++ b)) := fun w h => (List.mem_cons.mp h).elim (fun e => ha w (List.mem_cons.mpr (Or.inl e))) (fun h => (List.mem_append.mp h).elim (fun h => ha w (List.mem_cons.mpr (Or.inr h))) (hb w))
theorem goodIn_sub {big ws : List Cond} (hm : ∀ w ∈ ws, w ∈ big) (h : ws.all goodWord = true) : GoodIn big ws := fun w hw => ⟨hm w hw, good_of_word (List.all_eq_true.mp h w hw)⟩
/-! ===== END ===== -/

/-! ===== BEGIN exceptions that leave a method, and their catching by the caller (launches without stack traces) ===== -/
section VXA
/-! The laws vx_back, vx_callV, vx_callS, vx_callSW, vx_throw0, vx_throwS follow proofs of the library, with one case more: JvmDerived/Free/Laws.lean (Back.of_free), Shelf42/LK1.lean (callV, callS), Shelf/KitTraced.lean (throwNew0V, throwNewS). -/
/-- where a method has thrown q: the class by its name, the cell, what was written, the world -/
def vx_T (XC : String → State → State → Prop) (st : State) (q : Addr) (t : State) (mc ms : Nat) (free : Addr → Prop) : Prop :=
  ∃ (E : String) (ce : Cell) (L : List Loc), XC E st t ∧ t.heap[q]? = some ce ∧ ce.vm = .none ∧ st.vm.findClass E = some ce.cls ∧ st.WarmedH t.vm ∧ st.sameButNew ({ t with vm := st.vm } : State) L mc ms ∧ ∀ z ∈ L, free z.base
def vx_Q (Qc : Array Value → State → Outcome → State → Prop) (XC : String → State → State → Prop) (mc ms : Nat) (free : Addr → Prop) : Array Value → State → Outcome → State → Prop := fun a st o t =>
  (Qc a st o t ∧ ∃ L, FrameEnd st o t L mc ms ∧ ∀ q ∈ L, free q.base) ∨ ∃ q, o = .threw q ∧ vx_T XC st q t mc ms free
/-- a callee that returns or throws -/
def vx_Met (l : Launch) (y : MethodName) (ws : List Cond) (rm : Room) (Pc : Array Value → State → Prop) (Qc : Array Value → State → Outcome → State → Prop) (XC : String → State → State → Prop) (mc ms : Nat) (free : Addr → Prop) : Prop :=
  MetFree l y (headSpec ws rm) Pc (fun _ _ _ _ _ => True) (vx_Q Qc XC mc ms free)
def vx_Post (XC : String → State → State → Prop) (mc ms : Nat) (free : Addr → Prop) : Pt → Array Value → Addr → Pt → Prop := fun A a q B =>
  ∃ (g : JFrame) (mk : MethodId) (t : State) (L : List Loc) (E : String) (ce : Cell), B.U.heap = t.heap ∧ B.U.vm = t.vm ∧ XC E (A.U.calling g mk a) t ∧ t.heap[q]? = some ce ∧ ce.vm = .none ∧ A.U.vm.findClass E = some ce.cls ∧ B.locs = A.locs ++ L ∧ (∀ z ∈ L, free z.base) ∧ B.cells = A.cells + mc ∧ B.slots = A.slots + ms
def vx_Back (l : Launch) (R : Room) (p : Program) (e : Env) (below : List Frame) (s : State) (sargs : Array Value) (y : MethodName) (len W9 : Nat)
    (Pre : Pt → Array Value → Prop) (Post : Pt → Array Value → Option Value → Pt → Prop) (PostX : Pt → Array Value → Addr → Pt → Prop) : Prop :=
  ∀ (m : MethodId) (meth : Method) (c : Code) (A : Pt) (g : JFrame) (ig : Instr) (mk : MethodId) (a : Array Value),
    Stand p l e R s m sargs below meth c A.U A.locs A.cells A.slots → g.method = m → g.locals.size = c.maxLocals → decode c.code g.pc = .ok (ig, len) →
    2 * g.monitorRoom + (g.stack.map fun v => v.category).sum ≤ W9 → A.U.methodNamed? y = some mk → Pre A a →
    (∃ (v : Option Value) (B : Pt), Stand p l e R s m sargs below meth c B.U B.locs B.cells B.slots ∧ Post A a v B ∧
      Steps p.tables e below (doInvoke e (A.U.setTop g) [] mk a).1 (B.U.setTop { g with pc := g.pc + len, stack := v.toList ++ g.stack })) ∨
    (∃ (q : Addr) (B : Pt), Stand p l e R s m sargs below meth c B.U B.locs B.cells B.slots ∧ PostX A a q B ∧
      Steps p.tables e below (doInvoke e (A.U.setTop g) [] mk a).1 ((B.U.setTop g).pushFrame (.throwing q)))
section Payer
variable {l : Launch} {R : Room} {p : Program} {e : Env} {below : List Frame} {s : State} {sargs : Array Value} {y : MethodName} {len W9 : Nat}
theorem vx_back {ws : List Cond} {rm : Room} {Pc : Array Value → State → Prop} {Qc : Array Value → State → Outcome → State → Prop} {XC : String → State → State → Prop} {mc ms : Nat} {free : Addr → Prop} {bytes : ByteArray} {maxL : Nat} {ret : Option FieldType}
    (hM : vx_Met l y ws rm Pc Qc XC mc ms free) (hblind : FrameBlind Pc) (hrc : rm.cells = mc) (hrs : rm.slots = ms)
    (hframes : rm.frames + 1 ≤ R.frames) (hlocals : W9 + (maxL + 11) + rm.locals ≤ R.locals)
    (hws : ∀ w ∈ ws, ∀ a' U, s.WarmedH U.vm → w.before a' U = true) (hcode : Cond.code y bytes maxL ret ∈ ws) (hinit : ∀ a' U, s.WarmedH U.vm → (Cond.initialized y.cls).before a' U = true) :
    vx_Back l R p e below s sargs y len W9 (PreOf R mc ms Pc) (PostOf Qc mc ms free) (vx_Post XC mc ms free) := by
  intro m meth c A g ig mk a X hg hsize hdg hW hn hp
  have h1 : (headSpec ws rm).pre.before a A.U = true := atoms_intro fun w hw => hws w hw _ _ X.warmed
  have h2 : (Cond.code y bytes maxL ret).before a A.U = true := hws _ hcode _ _ X.warmed
  have h3 : (Cond.initialized y.cls).before a A.U = true := hinit _ _ X.warmed
  have h4 : A.cells + (headSpec ws rm).room.cells ≤ R.cells := by rw [show (headSpec ws rm).room.cells = mc from hrc]; exact hp.1
  have h5 : A.slots + (headSpec ws rm).room.slots ≤ R.slots := by rw [show (headSpec ws rm).room.slots = ms from hrs]; exact hp.2.1
  have hPc : Pc a (A.U.calling g mk a) := hblind _ _ _ _ hp.2.2
  obtain ⟨U, Ls, c0, s0⟩ := A
  dsimp only [Pt.U, Pt.locs, Pt.cells, Pt.slots] at h1 h2 h3 h4 h5 X hn hPc ⊢
  obtain ⟨methY, cY, hmY, hcY, -, hlY, -, -, -, -⟩ := Cond.code_spec hn h2
  obtain ⟨kY, hkY, -⟩ := className_of_methodNamed hn
  have hinitY : kY.init = .initialized := Cond.initialized_spec (findClass_of_methodNamed hn) hkY h3
  have h : At U g.method c below := by rw [hg]; exact X.here
  have hlocals9 : W9 + (maxL + 11) + (headSpec ws rm).room.locals ≤ R.locals := hlocals
  have happ : (headSpec ws rm).appliesLoose y e.platform (U.calling g mk a) = true :=
    Spec.appliesLoose_calling (g := g) h hdg hn hkY hinitY
      (X.room_calling (g := g) (R' := (headSpec ws rm).room) hsize hmY hcY hframes (by rw [hlY]; omega) h4 h5) h1
  obtain ⟨mid, hmid⟩ := h.above
  have hfr : (U.setTop g).frames = (.java g :: mid) ++ below := by rw [State.frames_setTop' g h.top, hmid]; rfl
  obtain ⟨o, s₂, hsteps, -, hend, hq⟩ := Steps.callFree hM p X.admits X.cas X.clock (acts := []) hfr happ hPc trivial
  have hq' : vx_Q Qc XC mc ms free a (U.calling g mk a) o s₂ := hq
  rw [State.frames_setTop' g h.top] at hend
  obtain ⟨g₀, hg0⟩ := Option.isSome_iff_exists.mp h.top
  obtain ⟨r, hr⟩ := State.topJava?_eq_some.mp hg0
  have hr' : (({ U with heap := s₂.heap, slotsUsed := s₂.slotsUsed } : State).setVm s₂.vm).frames = .java g₀ :: r := hr
  rcases hq' with ⟨hqc, L, hfe, hL⟩ | ⟨q, rfl, E, ce, L, hx, hce, hcv, hcl, hW₂, hsm, hL⟩
  · obtain ⟨⟨v, rfl⟩, hW₂, e2, q2, q3, q4, q5, q6⟩ := id hfe
    have e3 : s₂ = ({ (U.calling g mk a).setFrames s₂.frames with heap := s₂.heap, slotsUsed := s₂.slotsUsed } : State).setVm s₂.vm := by
      have : s₂ = ({ s₂ with vm := (U.calling g mk a).vm } : State).setVm s₂.vm := rfl
      rw [e2] at this
      exact this
    obtain ⟨c₂, i₂, len₂, hc₂, hd₂, hf₂⟩ := hend
    have hW' : U.WarmedH s₂.vm := hW₂
    have hcc : c₂ = c := by
      have h1 : s₂.code? g.method = U.code? g.method := by
        rw [State.code?_eq, State.code?_eq, hW'.alike.method?]
      exact Option.some.inj (hc₂.symm.trans (h1.trans h.code))
    subst hcc
    have hlen : len₂ = len := by rw [hdg] at hd₂; cases hd₂; rfl
    subst hlen
    have hs₂ : s₂ = (({ U with heap := s₂.heap, slotsUsed := s₂.slotsUsed } : State).setVm s₂.vm).setTop { g with pc := g.pc + len₂, stack := v.toList ++ g.stack } := by
      refine e3.trans ?_
      rw [hf₂, State.calling_eq h.top, State.setFrames_setFrames, State.setTop_of_frames _ hr', hr]
      rfl
    have hsame : U.sameButNew ({ U with heap := s₂.heap, slotsUsed := s₂.slotsUsed } : State) L mc ms := by
      refine ⟨?_, q2, q3, q4, q5, q6⟩
      obtain ⟨t, ht, -⟩ := State.frames_cons hr
      show ({ U with heap := s₂.heap, slotsUsed := s₂.slotsUsed } : State) = { U.setFrames U.frames with heap := s₂.heap, slotsUsed := s₂.slotsUsed }
      rw [State.setFrames_self ht]
    subst hg
    refine Or.inl ⟨v, ⟨(({ U with heap := s₂.heap, slotsUsed := s₂.slotsUsed } : State).setVm s₂.vm), Ls ++ L, c0 + mc, s0 + ms⟩,
      ⟨X.admits, X.cas, X.clock, X.frames, X.room, X.hears, X.method, X.code, (X.here.setHeapUsed s₂.heap s₂.slotsUsed).setVm hW'.alike, X.tail, State.WarmedH.trans X.warmed hW', X.limits, X.bytes, X.same.trans (hsame.setVm s.vm)⟩,
      ⟨g, mk, s₂, L, rfl, rfl, hqc, rfl, hL, rfl, rfl⟩, ?_⟩
    show Steps p.tables e below _ ((({ U with heap := s₂.heap, slotsUsed := s₂.slotsUsed } : State).setVm s₂.vm).setTop { g with pc := g.pc + len₂, stack := v.toList ++ g.stack })
    rw [← hs₂]
    exact hsteps
  · obtain ⟨e2, q2, q3, q4, q5, q6⟩ := id hsm
    have e3 : s₂ = ({ (U.calling g mk a).setFrames s₂.frames with heap := s₂.heap, slotsUsed := s₂.slotsUsed } : State).setVm s₂.vm := by
      have : s₂ = ({ s₂ with vm := (U.calling g mk a).vm } : State).setVm s₂.vm := rfl
      rw [e2] at this
      exact this
    have hf₂ : s₂.frames = .throwing q :: .java g :: U.frames.tail := hend
    have hW' : U.WarmedH s₂.vm := hW₂
    have hs₂ : s₂ = ((({ U with heap := s₂.heap, slotsUsed := s₂.slotsUsed } : State).setVm s₂.vm).setTop g).pushFrame (.throwing q) := by
      refine e3.trans ?_
      rw [hf₂, State.calling_eq h.top, State.setFrames_setFrames, State.pushFrame, State.frames_setTop _ hr', State.setTop_of_frames _ hr', State.setFrames_setFrames, hr]
      rfl
    have hsame : U.sameButNew ({ U with heap := s₂.heap, slotsUsed := s₂.slotsUsed } : State) L mc ms := by
      refine ⟨?_, q2, q3, q4, q5, q6⟩
      obtain ⟨t, ht, -⟩ := State.frames_cons hr
      show ({ U with heap := s₂.heap, slotsUsed := s₂.slotsUsed } : State) = { U.setFrames U.frames with heap := s₂.heap, slotsUsed := s₂.slotsUsed }
      rw [State.setFrames_self ht]
    subst hg
    refine Or.inr ⟨q, ⟨(({ U with heap := s₂.heap, slotsUsed := s₂.slotsUsed } : State).setVm s₂.vm), Ls ++ L, c0 + mc, s0 + ms⟩,
      ⟨X.admits, X.cas, X.clock, X.frames, X.room, X.hears, X.method, X.code, (X.here.setHeapUsed s₂.heap s₂.slotsUsed).setVm hW'.alike, X.tail, State.WarmedH.trans X.warmed hW', X.limits, X.bytes, X.same.trans (hsame.setVm s.vm)⟩,
      ⟨g, mk, s₂, L, E, ce, rfl, rfl, hx, hce, hcv, hcl, rfl, hL, rfl, rfl⟩, ?_⟩
    show Steps p.tables e below _ (((({ U with heap := s₂.heap, slotsUsed := s₂.slotsUsed } : State).setVm s₂.vm).setTop g).pushFrame (.throwing q))
    rw [← hs₂]
    exact hsteps
end Payer
section Calls
variable {p : Program} {l : Launch} {e : Env} {R : Room} {s : State} {m : MethodId} {args : Array Value} {below : List Frame} {meth : Method} {c : Code} {T : State} {locs : List Loc} {cells slots : Nat}
theorem vx_callV (X : Stand p l e R s m args below meth c T locs cells slots) (hexec : p.tables.exec = Jvm.exec) {own C : String} {index : Nat} {y : MethodName} {bytes : ByteArray} {maxL : Nat} {ret : Option FieldType}
    (hown : s.vm.findClass own = some m.cls) (hlink : (Cond.methodLink own index y).before args s = true) (hinst : (Cond.instanceMethod y).before args s = true) (hsel : (Cond.selects C y y).before args s = true)
    (hcode : (Cond.code y bytes maxL ret).before args s = true) (hy : y.cls ≠ "java/lang/invoke/MethodHandle" ∧ y.cls ≠ "java/lang/invoke/VarHandle")
    {W9 : Nat} {Pre : Pt → Array Value → Prop} {Post : Pt → Array Value → Option Value → Pt → Prop} {PostX : Pt → Array Value → Addr → Pt → Prop} (hK : vx_Back l R p e below s args y 3 W9 Pre Post PostX)
    {b : Addr} {cellB : Cell} (hcell : T.heap[b]? = some cellB) (hobj : cellB.vm.isStatics = false) (hcls : s.vm.findClass C = some cellB.cls)
    {g : JFrame} (hg : g.method = m) (hsize : g.locals.size = c.maxLocals) {argsL rest : List Value} (hlen : ∀ sig, parseMethodDescriptor y.desc = some sig → argsL.length = sig.parameters.length)
    (hstack : g.stack = argsL.reverse ++ .ref b :: rest) (hW : 2 * g.monitorRoom + (rest.map fun v => v.category).sum ≤ W9) (hdg : decode c.code g.pc = .ok (.invokevirtual index, 3))
    (hpre : ∀ vm₁, s.WarmedH vm₁ → Pre ⟨T.setVm vm₁, locs, cells, slots⟩ (Value.ref b :: argsL).toArray) :
    (∃ (v : Option Value) (vm₁ : Vm) (B : Pt), s.WarmedH vm₁ ∧ Stand p l e R s m args below meth c B.U B.locs B.cells B.slots ∧ Post ⟨T.setVm vm₁, locs, cells, slots⟩ (Value.ref b :: argsL).toArray v B ∧
      ∀ target, Steps p.tables e below (B.U.setTop { g with pc := g.pc + 3, stack := v.toList ++ rest }) target → Steps p.tables e below (T.setTop g) target) ∨
    (∃ (q : Addr) (vm₁ : Vm) (B : Pt), s.WarmedH vm₁ ∧ Stand p l e R s m args below meth c B.U B.locs B.cells B.slots ∧ PostX ⟨T.setVm vm₁, locs, cells, slots⟩ (Value.ref b :: argsL).toArray q B ∧
      Steps p.tables e below (T.setTop g) ((B.U.setTop { g with stack := rest }).pushFrame (.throwing q))) := by
  obtain ⟨mk, methM, hnamed, hmethM, hstM, habM⟩ := Cond.instanceMethod_spec hinst
  obtain ⟨methM', cM, hmethM', -, -, -, -, -, -, hsigM⟩ := Cond.code_spec hnamed hcode
  cases hmethM.symm.trans hmethM'
  obtain ⟨c2, r2, m2, q1, q2, q3, q4, kP, hkP, hkPi⟩ := Cond.selects_spec hsel
  cases hcls.symm.trans q1
  cases (State.methodFound?_of_named hnamed hy).symm.trans q2
  cases hnamed.symm.trans q3
  have hselP : selectMethod e.platform s.vm cellB.cls mk = .method mk := by rw [Launch.admits_selectMethod X.admits]; exact q4
  obtain ⟨vm₁, X₁, hstep₁⟩ := X.invokevirtual hexec hown hlink hnamed hmethM hstM hkP hkPi hy (a := b) (cell := cellB) hcell
    (fun z h => by rw [h] at hobj; cases hobj) hselP hmethM habM hkP hkPi (g := g) hg (argsL := argsL) (rest := rest) (hlen _ hsigM) hstack hdg
  rcases hK m meth c ⟨T.setVm vm₁, locs, cells, slots⟩ { g with stack := rest } (.invokevirtual index) mk (Value.ref b :: argsL).toArray X₁ hg hsize hdg hW (X₁.named hnamed) (hpre vm₁ X₁.warmed) with ⟨v, B, X', hpost, hsteps⟩ | ⟨q, B, X', hpost, hsteps⟩
  · exact Or.inl ⟨v, vm₁, B, X₁.warmed, X', hpost, fun target h => hstep₁ _ fun acts => by rw [doInvoke_state]; exact hsteps.trans h⟩
  · exact Or.inr ⟨q, vm₁, B, X₁.warmed, X', hpost, hstep₁ _ fun acts => by rw [doInvoke_state]; exact hsteps⟩
theorem vx_callS (X : Stand p l e R s m args below meth c T locs cells slots) (hexec : p.tables.exec = Jvm.exec) {own : String} {index : Nat} {y : MethodName} {bytes : ByteArray} {maxL : Nat} {ret : Option FieldType}
    (hown : s.vm.findClass own = some m.cls) (hlink : (Cond.methodLink own index y).before args s = true) (hstat : (Cond.static y).before args s = true) (hinit : (Cond.initialized y.cls).before args s = true)
    (hcode : (Cond.code y bytes maxL ret).before args s = true) (hy : y.cls ≠ "java/lang/invoke/MethodHandle" ∧ y.cls ≠ "java/lang/invoke/VarHandle")
    {W9 : Nat} {Pre : Pt → Array Value → Prop} {Post : Pt → Array Value → Option Value → Pt → Prop} {PostX : Pt → Array Value → Addr → Pt → Prop} (hK : vx_Back l R p e below s args y 3 W9 Pre Post PostX)
    {g : JFrame} (hg : g.method = m) (hsize : g.locals.size = c.maxLocals) {argsL rest : List Value} (hlen : ∀ sig, parseMethodDescriptor y.desc = some sig → argsL.length = sig.parameters.length)
    (hstack : g.stack = argsL.reverse ++ rest) (hW : 2 * g.monitorRoom + (rest.map fun v => v.category).sum ≤ W9) (hdg : decode c.code g.pc = .ok (.invokestatic index, 3))
    (hpre : ∀ vm₁, s.WarmedH vm₁ → Pre ⟨T.setVm vm₁, locs, cells, slots⟩ argsL.toArray) :
    (∃ (v : Option Value) (vm₁ : Vm) (B : Pt), s.WarmedH vm₁ ∧ Stand p l e R s m args below meth c B.U B.locs B.cells B.slots ∧ Post ⟨T.setVm vm₁, locs, cells, slots⟩ argsL.toArray v B ∧
      ∀ target, Steps p.tables e below (B.U.setTop { g with pc := g.pc + 3, stack := v.toList ++ rest }) target → Steps p.tables e below (T.setTop g) target) ∨
    (∃ (q : Addr) (vm₁ : Vm) (B : Pt), s.WarmedH vm₁ ∧ Stand p l e R s m args below meth c B.U B.locs B.cells B.slots ∧ PostX ⟨T.setVm vm₁, locs, cells, slots⟩ argsL.toArray q B ∧
      Steps p.tables e below (T.setTop g) ((B.U.setTop { g with stack := rest }).pushFrame (.throwing q))) := by
  obtain ⟨mk, hnamed⟩ := Cond.code_named hcode
  obtain ⟨methM, cM, hmethM, -, -, -, -, -, -, hsigM⟩ := Cond.code_spec hnamed hcode
  have hstatic : methM.isStatic = true := Cond.static_spec hnamed hmethM hstat
  obtain ⟨kP, hkP, -⟩ := className_of_methodNamed hnamed
  have hinitP : kP.init = .initialized := Cond.initialized_spec (findClass_of_methodNamed hnamed) hkP hinit
  obtain ⟨vm₁, X₁, hstep₁⟩ := X.invokestatic hexec hown hlink hnamed hmethM hstatic hkP hinitP hy (g := g) hg (argsL := argsL) (rest := rest) (hlen _ hsigM) hstack hdg
  rcases hK m meth c ⟨T.setVm vm₁, locs, cells, slots⟩ { g with stack := rest } (.invokestatic index) mk argsL.toArray X₁ hg hsize hdg hW (X₁.named hnamed) (hpre vm₁ X₁.warmed) with ⟨v, B, X', hpost, hsteps⟩ | ⟨q, B, X', hpost, hsteps⟩
  · exact Or.inl ⟨v, vm₁, B, X₁.warmed, X', hpost, fun target h => hstep₁ _ fun acts => by rw [doInvoke_state]; exact hsteps.trans h⟩
  · exact Or.inr ⟨q, vm₁, B, X₁.warmed, X', hpost, hstep₁ _ fun acts => by rw [doInvoke_state]; exact hsteps⟩
end Calls
theorem vx_cls {s : State} {T : State} {vm₁ : Vm} {E : String} {k : ClassId} (hW : s.WarmedH vm₁) (h : (T.setVm vm₁).vm.findClass E = some k) : s.vm.findClass E = some k := by
  have h1 : vm₁.findClass E = some k := h
  rw [hW.alike.findClass] at h1
  exact h1
/-- the method's frame g, with q thrown over it -/
def vx_W (p : Program) (l : Launch) (e : Env) (R : Room) (s : State) (m : MethodId) (args : Array Value) (below : List Frame) (meth : Method) (c : Code) (H : Heap) (locs : List Loc) (cells slots : Nat) (Q : State → Prop) (g : JFrame) (q : Addr) : Prop :=
  ∀ T : State, T.heap = H → Stand p l e R s m args below meth c T locs cells slots → ∃ t, Steps p.tables e below ((T.setTop g).pushFrame (.throwing q)) t ∧ Q t
def vx_Run (p : Program) (l : Launch) (e : Env) (R : Room) (s : State) (m : MethodId) (args : Array Value) (below : List Frame) (meth : Method) (c : Code) (H : Heap) (locs : List Loc) (cells slots mc ms : Nat) (g : JFrame) (rest : List Value) (Qa : State → Outcome → State → Prop) (XC : String → State → State → Prop) (free : Addr → Prop) : Prop :=
  ∀ T : State, T.heap = H → Stand p l e R s m args below meth c T locs cells slots →
    (∃ (v : Option Value) (st₀ t T' : State) (L : List Loc), st₀.heap = H ∧ Stand p l e R s m args below meth c T' (locs ++ L) (cells + mc) (slots + ms) ∧ (∀ q ∈ L, free q.base) ∧ T'.heap = t.heap ∧ T'.vm = t.vm ∧ Qa st₀ (.returned v) t ∧
      Goes p e below T g T' { g with pc := g.pc + 3, stack := v.toList ++ rest }) ∨
    (∃ (q : Addr) (st₀ t T' : State) (L : List Loc) (E : String) (ce : Cell), st₀.heap = H ∧ Stand p l e R s m args below meth c T' (locs ++ L) (cells + mc) (slots + ms) ∧ (∀ z ∈ L, free z.base) ∧ T'.heap = t.heap ∧ T'.vm = t.vm ∧ XC E st₀ t ∧ t.heap[q]? = some ce ∧ ce.vm = .none ∧ s.vm.findClass E = some ce.cls ∧
      Steps p.tables e below (T.setTop g) ((T'.setTop { g with stack := rest }).pushFrame (.throwing q)))
def vx_X {S : Type} (px : S → Prop) (B : String → S → State → Prop) (A : Nat → Prop) : String → State → State → Prop := fun E st t => ∃ u : S, px u ∧ B E u t ∧ va_F A st t
section Runs
variable {p : Program} {l : Launch} {e : Env} {R : Room} {s : State} {m : MethodId} {args : Array Value} {below : List Frame} {meth : Method} {c : Code} {H : Heap} {locs : List Loc} {cells slots : Nat}
variable {y : MethodName} {bytes cc : ByteArray} {maxL nL mc ms n index : Nat} {ret : Option FieldType} {ws : List Cond} {rm : Room} {Pc : Array Value → State → Prop} {Qc : Array Value → State → Outcome → State → Prop} {XC : String → State → State → Prop} {free : Addr → Prop} {Ts : List Cond} {own C : String} {b : Addr} {As rest : List Value} {g : JFrame}
theorem vx_callBack (cb : CallB R s args own index y bytes maxL ret ws rm mc ms n) (hM : vx_Met l y ws rm Pc Qc XC mc ms free) (hbl : FrameBlind Pc) : vx_Back l R p e below s args y 3 8 (PreOf R mc ms Pc) (PostOf Qc mc ms free) (vx_Post XC mc ms free) := by
  obtain ⟨hrc, hrs, hfr, hlo, hws, hcw, -, hini, -⟩ := cb
  exact vx_back (bytes := bytes) (maxL := maxL) (ret := ret) hM hbl hrc hrs hfr hlo hws hcw (fun a' U hW => word_at hW (Or.inl (by first | rfl | simp [Cond.onTables, Cond.keeps, Cond.steady])) hini)
theorem vx_runV (S : CallFix p m c cc nL s args Ts own) (hM : vx_Met l y ws rm Pc Qc XC mc ms free) (cw : CallW R s args own C index y bytes maxL ret ws rm mc ms n) (hp : PreV s H C b Pc As)
    (hg : g.method = m) (hn : As.length = n) (hsize : g.locals.size = nL) (hstack : g.stack = As.reverse ++ .ref b :: rest) (hW : 2 * g.monitorRoom + (rest.map fun v => v.category).sum ≤ 8) (hdg : decode cc g.pc = .ok (.invokevirtual index, 3)) (hf : cells + mc ≤ R.cells ∧ slots + ms ≤ R.slots) :
    vx_Run p l e R s m args below meth c H locs cells slots mc ms g rest (Qc (Value.ref b :: As).toArray) XC free := by
  have hK : vx_Back l R p e below s args y 3 8 (PreOf R mc ms Pc) (PostOf Qc mc ms free) (vx_Post XC mc ms free) := vx_callBack cw.1 hM hp.1
  obtain ⟨⟨-, -, -, -, -, -, hcode, -, hy, hlen, hl⟩, hin, hse⟩ := cw
  obtain ⟨hx, hb, hml, ho, -⟩ := S
  obtain ⟨-, ⟨cellB, hcB, hoB, hclB⟩, hPc⟩ := hp
  intro T hT X
  rcases vx_callV X hx (C := C) (bytes := bytes) (maxL := maxL) (ret := ret) ho hl hin hse hcode hy hK (by rw [hT]; exact hcB) hoB hclB hg (hsize.trans hml.symm) (argsL := As) (rest := rest) (fun sig h => hn.trans (hlen sig h)) hstack hW (by rw [hb]; exact hdg)
    (fun vm₁ hW₁ => ⟨hf.1, hf.2, hPc (T.setVm vm₁) hT hW₁⟩) with ⟨v, vm₁, ⟨U', l2, c2, s2⟩, hW₁, X', ⟨g', mk, t, L, e1, e2, hq, h1, hL, h2, h3⟩, st⟩ | ⟨q, vm₁, ⟨U', l2, c2, s2⟩, hW₁, X', ⟨g', mk, t, L, E, ce, e1, e2, hq, hce, hcv, hcl, h1, hL, h2, h3⟩, st⟩
  · dsimp only [Pt.U, Pt.locs, Pt.cells, Pt.slots] at X' e1 e2 h1 h2 h3 st
    subst h1; subst h2; subst h3
    exact Or.inl ⟨v, (T.setVm vm₁).calling g' mk (Value.ref b :: As).toArray, t, U', L, hT, X', hL, e1, e2, hq, st⟩
  · dsimp only [Pt.U, Pt.locs, Pt.cells, Pt.slots] at X' e1 e2 h1 h2 h3 st hcl
    subst h1; subst h2; subst h3
    exact Or.inr ⟨q, (T.setVm vm₁).calling g' mk (Value.ref b :: As).toArray, t, U', L, E, ce, hT, X', hL, e1, e2, hq, hce, hcv, vx_cls hW₁ hcl, st⟩
theorem vx_runS (S : CallFix p m c cc nL s args Ts own) (hM : vx_Met l y ws rm Pc Qc XC mc ms free) (cw : CallB R s args own index y bytes maxL ret ws rm mc ms n ∧ (Cond.static y).before args s = true) (hp : PreS s H Pc As)
    (hg : g.method = m) (hn : As.length = n) (hsize : g.locals.size = nL) (hstack : g.stack = As.reverse ++ rest) (hW : 2 * g.monitorRoom + (rest.map fun v => v.category).sum ≤ 8) (hdg : decode cc g.pc = .ok (.invokestatic index, 3)) (hf : cells + mc ≤ R.cells ∧ slots + ms ≤ R.slots) :
    vx_Run p l e R s m args below meth c H locs cells slots mc ms g rest (Qc As.toArray) XC free := by
  have hK : vx_Back l R p e below s args y 3 8 (PreOf R mc ms Pc) (PostOf Qc mc ms free) (vx_Post XC mc ms free) := vx_callBack cw.1 hM hp.1
  obtain ⟨⟨-, -, -, -, -, -, hcode, hini, hy, hlen, hl⟩, hstt⟩ := cw
  obtain ⟨hx, hb, hml, ho, -⟩ := S
  intro T hT X
  rcases vx_callS X hx (bytes := bytes) (maxL := maxL) (ret := ret) ho hl hstt hini hcode hy hK hg (hsize.trans hml.symm) (argsL := As) (rest := rest) (fun sig h => hn.trans (hlen sig h)) hstack hW (by rw [hb]; exact hdg)
    (fun vm₁ hW₁ => ⟨hf.1, hf.2, hp.2 (T.setVm vm₁) hT hW₁⟩) with ⟨v, vm₁, ⟨U', l2, c2, s2⟩, hW₁, X', ⟨g', mk, t, L, e1, e2, hq, h1, hL, h2, h3⟩, st⟩ | ⟨q, vm₁, ⟨U', l2, c2, s2⟩, hW₁, X', ⟨g', mk, t, L, E, ce, e1, e2, hq, hce, hcv, hcl, h1, hL, h2, h3⟩, st⟩
  · dsimp only [Pt.U, Pt.locs, Pt.cells, Pt.slots] at X' e1 e2 h1 h2 h3 st
    subst h1; subst h2; subst h3
    exact Or.inl ⟨v, (T.setVm vm₁).calling g' mk As.toArray, t, U', L, hT, X', hL, e1, e2, hq, st⟩
  · dsimp only [Pt.U, Pt.locs, Pt.cells, Pt.slots] at X' e1 e2 h1 h2 h3 st hcl
    subst h1; subst h2; subst h3
    exact Or.inr ⟨q, (T.setVm vm₁).calling g' mk As.toArray, t, U', L, E, ce, hT, X', hL, e1, e2, hq, hce, hcv, vx_cls hW₁ hcl, st⟩
end Runs
section Rows
variable {p : Program} {l : Launch} {e : Env} {R : Room} {s : State} {m : MethodId} {args : Array Value} {below : List Frame} {meth : Method} {c : Code} {H : Heap} {locs : List Loc} {cells slots : Nat} {Q : State → Prop}
variable {mc ms : Nat} {free : Addr → Prop} {A0 A1 : Nat → Prop} {H0 : Heap} {a : Array Value} {pc : Nat} {ls : Array Slot} {st0 rest : List Value}
theorem vx_keep {st₀ t T' : State} {L : List Loc} (h0 : st₀.heap = H) (e1 : T'.heap = t.heap) (hS : va_S A0 H0 H locs) (hA : ∀ q, q < H.size → A1 q → A0 q) (hf : ∀ q, free q → A0 q) (hL : ∀ q ∈ L, free q.base) (hF : va_F A1 st₀ t) :
    H.size ≤ T'.heap.size ∧ (∀ q : Nat, q < H.size → ¬ A1 q → T'.heap[q]? = H[q]?) ∧ va_S A0 H0 T'.heap (locs ++ L) := by
  obtain ⟨hz, hk⟩ := hF
  rw [h0] at hz hk
  exact ⟨by rw [e1]; exact hz, fun q h1 h2 => by rw [e1]; exact hk q h1 h2,
    ⟨Nat.le_trans hS.1 (by rw [e1]; exact hz), fun q h1 h2 => by rw [e1, hk q (Nat.lt_of_lt_of_le h1 hS.1) (fun z => h2 (hA q (Nat.lt_of_lt_of_le h1 hS.1) z))]; exact hS.2.1 q h1 h2, fun q hq => by
      rcases List.mem_append.mp hq with h | h
      · exact hS.2.2 q h
      · exact hf _ (hL q h)⟩⟩
theorem vx_calli {S SX : Type} {post : Int32 → S → Prop} {px : SX → Prop} {B : S → State → Prop} {BX : String → SX → State → Prop} {AX : Nat → Prop} (hr : vx_Run p l e R s m args below meth c H locs cells slots mc ms (F0 m pc ls st0) rest (va_Qi post B A1 a) (vx_X px BX AX) free) (hS : va_S A0 H0 H locs) (hA : ∀ q, q < H.size → A1 q → A0 q) (hf : ∀ q, free q → A0 q) (hAX : ∀ q, q < H.size → AX q → A0 q)
    (kx : ∀ (E : String) (ce : Cell) (q9 : Addr) (u : SX) (t : State) (H1 : Heap) (locs1 : List Loc), t.heap = H1 → s.vm.Alike t.vm → px u → BX E u t → H.size ≤ H1.size → (∀ q : Nat, q < H.size → ¬ AX q → H1[q]? = H[q]?) → va_S A0 H0 H1 locs1 → H1[q9]? = some ce → ce.vm = .none → s.vm.findClass E = some ce.cls → vx_W p l e R s m args below meth c H1 locs1 (cells + mc) (slots + ms) Q (F0 m pc ls rest) q9)
    (kk : ∀ (r : Int32) (u : S) (t : State) (H1 : Heap) (locs1 : List Loc), t.heap = H1 → s.vm.Alike t.vm → post r u → B u t → H.size ≤ H1.size → (∀ q : Nat, q < H.size → ¬ A1 q → H1[q]? = H[q]?) → va_S A0 H0 H1 locs1 → W p l e R s m args below meth c H1 locs1 (cells + mc) (slots + ms) Q (F0 m (pc + 3) ls (.int r :: rest))) : W p l e R s m args below meth c H locs cells slots Q (F0 m pc ls st0) := by
  intro T hT X
  rcases hr T hT X with ⟨v, st₀, t, T', L, h0, X', hL, e1, e2, ⟨⟨r, u, hv, hp, hb⟩, hF⟩, st⟩ | ⟨q, st₀, t, T', L, E, ce, h0, X', hL, e1, e2, ⟨u, hp, hb, hF⟩, hce, hcv, hcl, st⟩
  · cases hv
    obtain ⟨k1, k2, k3⟩ := vx_keep h0 e1 hS hA hf hL hF
    obtain ⟨t2, a1, b1⟩ := kk r u t T'.heap (locs ++ L) e1.symm (by rw [← e2]; exact X'.warmed.alike) hp hb k1 k2 k3 T' rfl X'
    exact ⟨t2, st t2 a1, b1⟩
  · obtain ⟨k1, k2, k3⟩ := vx_keep h0 e1 hS hAX hf hL hF
    obtain ⟨t2, a1, b1⟩ := kx E ce q u t T'.heap (locs ++ L) e1.symm (by rw [← e2]; exact X'.warmed.alike) hp hb k1 k2 k3 (by rw [e1]; exact hce) hcv hcl T' rfl X'
    exact ⟨t2, st.trans a1, b1⟩
theorem vx_calll {S SX : Type} {post : Int64 → S → Prop} {px : SX → Prop} {B : S → State → Prop} {BX : String → SX → State → Prop} {AX : Nat → Prop} (hr : vx_Run p l e R s m args below meth c H locs cells slots mc ms (F0 m pc ls st0) rest (va_Ql post B A1 a) (vx_X px BX AX) free) (hS : va_S A0 H0 H locs) (hA : ∀ q, q < H.size → A1 q → A0 q) (hf : ∀ q, free q → A0 q) (hAX : ∀ q, q < H.size → AX q → A0 q)
    (kx : ∀ (E : String) (ce : Cell) (q9 : Addr) (u : SX) (t : State) (H1 : Heap) (locs1 : List Loc), t.heap = H1 → s.vm.Alike t.vm → px u → BX E u t → H.size ≤ H1.size → (∀ q : Nat, q < H.size → ¬ AX q → H1[q]? = H[q]?) → va_S A0 H0 H1 locs1 → H1[q9]? = some ce → ce.vm = .none → s.vm.findClass E = some ce.cls → vx_W p l e R s m args below meth c H1 locs1 (cells + mc) (slots + ms) Q (F0 m pc ls rest) q9)
    (kk : ∀ (r : Int64) (u : S) (t : State) (H1 : Heap) (locs1 : List Loc), t.heap = H1 → s.vm.Alike t.vm → post r u → B u t → H.size ≤ H1.size → (∀ q : Nat, q < H.size → ¬ A1 q → H1[q]? = H[q]?) → va_S A0 H0 H1 locs1 → W p l e R s m args below meth c H1 locs1 (cells + mc) (slots + ms) Q (F0 m (pc + 3) ls (.long r :: rest))) : W p l e R s m args below meth c H locs cells slots Q (F0 m pc ls st0) := by
  intro T hT X
  rcases hr T hT X with ⟨v, st₀, t, T', L, h0, X', hL, e1, e2, ⟨⟨r, u, hv, hp, hb⟩, hF⟩, st⟩ | ⟨q, st₀, t, T', L, E, ce, h0, X', hL, e1, e2, ⟨u, hp, hb, hF⟩, hce, hcv, hcl, st⟩
  · cases hv
    obtain ⟨k1, k2, k3⟩ := vx_keep h0 e1 hS hA hf hL hF
    obtain ⟨t2, a1, b1⟩ := kk r u t T'.heap (locs ++ L) e1.symm (by rw [← e2]; exact X'.warmed.alike) hp hb k1 k2 k3 T' rfl X'
    exact ⟨t2, st t2 a1, b1⟩
  · obtain ⟨k1, k2, k3⟩ := vx_keep h0 e1 hS hAX hf hL hF
    obtain ⟨t2, a1, b1⟩ := kx E ce q u t T'.heap (locs ++ L) e1.symm (by rw [← e2]; exact X'.warmed.alike) hp hb k1 k2 k3 (by rw [e1]; exact hce) hcv hcl T' rfl X'
    exact ⟨t2, st.trans a1, b1⟩
theorem vx_callf {S SX : Type} {post : UInt32 → S → Prop} {px : SX → Prop} {B : S → State → Prop} {BX : String → SX → State → Prop} {AX : Nat → Prop} (hr : vx_Run p l e R s m args below meth c H locs cells slots mc ms (F0 m pc ls st0) rest (va_Qf post B A1 a) (vx_X px BX AX) free) (hS : va_S A0 H0 H locs) (hA : ∀ q, q < H.size → A1 q → A0 q) (hf : ∀ q, free q → A0 q) (hAX : ∀ q, q < H.size → AX q → A0 q)
    (kx : ∀ (E : String) (ce : Cell) (q9 : Addr) (u : SX) (t : State) (H1 : Heap) (locs1 : List Loc), t.heap = H1 → s.vm.Alike t.vm → px u → BX E u t → H.size ≤ H1.size → (∀ q : Nat, q < H.size → ¬ AX q → H1[q]? = H[q]?) → va_S A0 H0 H1 locs1 → H1[q9]? = some ce → ce.vm = .none → s.vm.findClass E = some ce.cls → vx_W p l e R s m args below meth c H1 locs1 (cells + mc) (slots + ms) Q (F0 m pc ls rest) q9)
    (kk : ∀ (r : UInt32) (u : S) (t : State) (H1 : Heap) (locs1 : List Loc), t.heap = H1 → s.vm.Alike t.vm → post r u → B u t → H.size ≤ H1.size → (∀ q : Nat, q < H.size → ¬ A1 q → H1[q]? = H[q]?) → va_S A0 H0 H1 locs1 → W p l e R s m args below meth c H1 locs1 (cells + mc) (slots + ms) Q (F0 m (pc + 3) ls (.float r :: rest))) : W p l e R s m args below meth c H locs cells slots Q (F0 m pc ls st0) := by
  intro T hT X
  rcases hr T hT X with ⟨v, st₀, t, T', L, h0, X', hL, e1, e2, ⟨⟨r, u, hv, hp, hb⟩, hF⟩, st⟩ | ⟨q, st₀, t, T', L, E, ce, h0, X', hL, e1, e2, ⟨u, hp, hb, hF⟩, hce, hcv, hcl, st⟩
  · cases hv
    obtain ⟨k1, k2, k3⟩ := vx_keep h0 e1 hS hA hf hL hF
    obtain ⟨t2, a1, b1⟩ := kk r u t T'.heap (locs ++ L) e1.symm (by rw [← e2]; exact X'.warmed.alike) hp hb k1 k2 k3 T' rfl X'
    exact ⟨t2, st t2 a1, b1⟩
  · obtain ⟨k1, k2, k3⟩ := vx_keep h0 e1 hS hAX hf hL hF
    obtain ⟨t2, a1, b1⟩ := kx E ce q u t T'.heap (locs ++ L) e1.symm (by rw [← e2]; exact X'.warmed.alike) hp hb k1 k2 k3 (by rw [e1]; exact hce) hcv hcl T' rfl X'
    exact ⟨t2, st.trans a1, b1⟩
theorem vx_calld {S SX : Type} {post : UInt64 → S → Prop} {px : SX → Prop} {B : S → State → Prop} {BX : String → SX → State → Prop} {AX : Nat → Prop} (hr : vx_Run p l e R s m args below meth c H locs cells slots mc ms (F0 m pc ls st0) rest (va_Qd post B A1 a) (vx_X px BX AX) free) (hS : va_S A0 H0 H locs) (hA : ∀ q, q < H.size → A1 q → A0 q) (hf : ∀ q, free q → A0 q) (hAX : ∀ q, q < H.size → AX q → A0 q)
    (kx : ∀ (E : String) (ce : Cell) (q9 : Addr) (u : SX) (t : State) (H1 : Heap) (locs1 : List Loc), t.heap = H1 → s.vm.Alike t.vm → px u → BX E u t → H.size ≤ H1.size → (∀ q : Nat, q < H.size → ¬ AX q → H1[q]? = H[q]?) → va_S A0 H0 H1 locs1 → H1[q9]? = some ce → ce.vm = .none → s.vm.findClass E = some ce.cls → vx_W p l e R s m args below meth c H1 locs1 (cells + mc) (slots + ms) Q (F0 m pc ls rest) q9)
    (kk : ∀ (r : UInt64) (u : S) (t : State) (H1 : Heap) (locs1 : List Loc), t.heap = H1 → s.vm.Alike t.vm → post r u → B u t → H.size ≤ H1.size → (∀ q : Nat, q < H.size → ¬ A1 q → H1[q]? = H[q]?) → va_S A0 H0 H1 locs1 → W p l e R s m args below meth c H1 locs1 (cells + mc) (slots + ms) Q (F0 m (pc + 3) ls (.double r :: rest))) : W p l e R s m args below meth c H locs cells slots Q (F0 m pc ls st0) := by
  intro T hT X
  rcases hr T hT X with ⟨v, st₀, t, T', L, h0, X', hL, e1, e2, ⟨⟨r, u, hv, hp, hb⟩, hF⟩, st⟩ | ⟨q, st₀, t, T', L, E, ce, h0, X', hL, e1, e2, ⟨u, hp, hb, hF⟩, hce, hcv, hcl, st⟩
  · cases hv
    obtain ⟨k1, k2, k3⟩ := vx_keep h0 e1 hS hA hf hL hF
    obtain ⟨t2, a1, b1⟩ := kk r u t T'.heap (locs ++ L) e1.symm (by rw [← e2]; exact X'.warmed.alike) hp hb k1 k2 k3 T' rfl X'
    exact ⟨t2, st t2 a1, b1⟩
  · obtain ⟨k1, k2, k3⟩ := vx_keep h0 e1 hS hAX hf hL hF
    obtain ⟨t2, a1, b1⟩ := kx E ce q u t T'.heap (locs ++ L) e1.symm (by rw [← e2]; exact X'.warmed.alike) hp hb k1 k2 k3 (by rw [e1]; exact hce) hcv hcl T' rfl X'
    exact ⟨t2, st.trans a1, b1⟩
theorem vx_callv {S SX : Type} {post : S → Prop} {px : SX → Prop} {B : S → State → Prop} {BX : String → SX → State → Prop} {AX : Nat → Prop} (hr : vx_Run p l e R s m args below meth c H locs cells slots mc ms (F0 m pc ls st0) rest (va_Qv post B A1 a) (vx_X px BX AX) free) (hS : va_S A0 H0 H locs) (hA : ∀ q, q < H.size → A1 q → A0 q) (hf : ∀ q, free q → A0 q) (hAX : ∀ q, q < H.size → AX q → A0 q)
    (kx : ∀ (E : String) (ce : Cell) (q9 : Addr) (u : SX) (t : State) (H1 : Heap) (locs1 : List Loc), t.heap = H1 → s.vm.Alike t.vm → px u → BX E u t → H.size ≤ H1.size → (∀ q : Nat, q < H.size → ¬ AX q → H1[q]? = H[q]?) → va_S A0 H0 H1 locs1 → H1[q9]? = some ce → ce.vm = .none → s.vm.findClass E = some ce.cls → vx_W p l e R s m args below meth c H1 locs1 (cells + mc) (slots + ms) Q (F0 m pc ls rest) q9)
    (kk : ∀ (u : S) (t : State) (H1 : Heap) (locs1 : List Loc), t.heap = H1 → s.vm.Alike t.vm → post u → B u t → H.size ≤ H1.size → (∀ q : Nat, q < H.size → ¬ A1 q → H1[q]? = H[q]?) → va_S A0 H0 H1 locs1 → W p l e R s m args below meth c H1 locs1 (cells + mc) (slots + ms) Q (F0 m (pc + 3) ls (rest))) : W p l e R s m args below meth c H locs cells slots Q (F0 m pc ls st0) := by
  intro T hT X
  rcases hr T hT X with ⟨v, st₀, t, T', L, h0, X', hL, e1, e2, ⟨⟨u, hv, hp, hb⟩, hF⟩, st⟩ | ⟨q, st₀, t, T', L, E, ce, h0, X', hL, e1, e2, ⟨u, hp, hb, hF⟩, hce, hcv, hcl, st⟩
  · cases hv
    obtain ⟨k1, k2, k3⟩ := vx_keep h0 e1 hS hA hf hL hF
    obtain ⟨t2, a1, b1⟩ := kk u t T'.heap (locs ++ L) e1.symm (by rw [← e2]; exact X'.warmed.alike) hp hb k1 k2 k3 T' rfl X'
    exact ⟨t2, st t2 a1, b1⟩
  · obtain ⟨k1, k2, k3⟩ := vx_keep h0 e1 hS hAX hf hL hF
    obtain ⟨t2, a1, b1⟩ := kx E ce q u t T'.heap (locs ++ L) e1.symm (by rw [← e2]; exact X'.warmed.alike) hp hb k1 k2 k3 (by rw [e1]; exact hce) hcv hcl T' rfl X'
    exact ⟨t2, st.trans a1, b1⟩
/-- caught by the row x of this method's table; the rows ahead don't take it -/
theorem vx_catch {own name : String} {E : String} {ce : Cell} {q : Addr} (hown : s.vm.findClass own = some m.cls) (pre : List ExceptionTableEntry) (x : ExceptionTableEntry) (suf : List ExceptionTableEntry) (hsplit : c.exceptionTable.toList = pre ++ x :: suf)
    (hpass : ∀ z ∈ pre, covers z pc = false ∨ (z.catchType ≠ 0 ∧ ∃ nm : String, (Cond.classLink own z.catchType nm).before args s = true ∧ va_Nc E nm s)) (hx : covers x pc = true) (h0 : x.catchType ≠ 0)
    (hlink : (Cond.classLink own x.catchType name).before args s = true) (hcast : (Cond.castable E name).before args s = true) (hcell : H[q]? = some ce) (hv : ce.vm = .none) (hcl : s.vm.findClass E = some ce.cls)
    (kk : W p l e R s m args below meth c H locs cells slots Q (F0 m x.handlerPc ls [.ref q])) : vx_W p l e R s m args below meth c H locs cells slots Q (F0 m pc ls rest) q := by
  intro T hT X
  have hpl : e.platform.magicAccessors = ({} : Platform).magicAccessors := by rw [X.admits.platform]
  obtain ⟨c3, c4, hc3, hc4, hasg⟩ := Cond.castable_spec hcast
  cases Option.some.inj (hc3.symm.trans hcl)
  obtain ⟨c5, hc5, hcl5⟩ := Cond.classLink_spec hown hlink e.platform hpl
  cases Option.some.inj (hc4.symm.trans hc5)
  obtain ⟨vm', X', st⟩ := X.thenCaughtThrough q (g := F0 m pc ls rest) rfl (Steps.refl _) (by rw [hT]; exact hcell) (by rw [hv]; rfl) (by obtain ⟨k9, h9, -⟩ := Vm.findClass_spec hcl; exact ⟨k9, h9⟩) pre x suf hsplit
    (fun z hz => by
      rcases hpass z hz with h | ⟨hz0, nm, hl1, hn1⟩
      · exact Or.inl h
      · obtain ⟨c6, hc6, hcl6⟩ := Cond.classLink_spec hown hl1 e.platform hpl
        obtain ⟨a8, b8, h1, h2, h3⟩ := hn1
        cases Option.some.inj (h1.symm.trans hcl)
        cases Option.some.inj (h2.symm.trans hc6)
        exact Or.inr ⟨hz0, _, hcl6, h3⟩) hx (Or.inr ⟨h0, c4, hcl5, hasg⟩)
  obtain ⟨t, a1, b1⟩ := kk (T.setVm vm') hT X'
  exact ⟨t, st.trans a1, b1⟩
end Rows
section Ends
variable {p : Program} {l : Launch} {e : Env} {R : Room} {s : State} {m : MethodId} {args : Array Value} {below : List Frame} {meth : Method} {c : Code} {H : Heap} {locs : List Loc} {cells slots : Nat} {Q : State → Prop}
variable {mc ms : Nat} {free : Addr → Prop} {A0 A1 : Nat → Prop} {H0 : Heap} {a : Array Value} {ls : Array Slot} {st0 rest : List Value}
variable {Qc : Array Value → State → Outcome → State → Prop} {XC : String → State → State → Prop}
/-- what a body that may throw owes at its end -/
def vx_MQ (below : List Frame) (Qc : Array Value → State → Outcome → State → Prop) (XC : String → State → State → Prop) (a : Array Value) (s : State) (mc ms : Nat) (free : Addr → Prop) : State → Prop := fun t =>
  ∃ o, t.status = .running ∧ Ended t below o ∧ vx_Q Qc XC mc ms free a s o t
theorem vx_ret {g : JFrame} {mc ms : Nat} (k : W p l e R s m args below meth c H locs cells slots (MQ below Qc args s mc ms free) g) : W p l e R s m args below meth c H locs cells slots (vx_MQ below Qc XC args s mc ms free) g := by
  intro T hT X
  obtain ⟨t, a1, o, b1, b2, b3, b4⟩ := k T hT X
  exact ⟨t, a1, o, b1, b2, Or.inl ⟨b3, b4⟩⟩
/-- not caught here: it goes on to the caller -/
theorem vx_widen {g : JFrame} {q : Addr} {k n : Nat} (h1 : cells ≤ k) (h2 : slots ≤ n) (kk : vx_W p l e R s m args below meth c H locs k n Q g q) : vx_W p l e R s m args below meth c H locs cells slots Q g q := fun T hT X => kk T hT (stand_widen X h1 h2)
theorem vx_out {pc : Nat} {E : String} {ce : Cell} {q : Addr} {mc ms : Nat} (hout : ∀ x ∈ c.exceptionTable.toList, covers x pc = false) (hlocks : meth.locks = false) (hcell : H[q]? = some ce) (hv : ce.vm = .none) (hcl : s.vm.findClass E = some ce.cls)
    (hx : ∀ t : State, t.heap = H → s.vm.Alike t.vm → XC E s t) (hf : ∀ z ∈ locs, free z.base) (hc : cells ≤ mc) (hs : slots ≤ ms) :
    vx_W p l e R s m args below meth c H locs cells slots (vx_MQ below Qc XC args s mc ms free) (F0 m pc ls rest) q := by
  intro T hT X
  obtain ⟨st1, hrun, hend, hW, hsm⟩ := X.leaveThrown q (g := F0 m pc ls rest) rfl rfl rfl hout hlocks
  have hcell9 : (T.setFrames (.throwing q :: below)).heap[q]? = some ce := by
    show T.heap[q]? = some ce
    rw [hT]; exact hcell
  exact ⟨_, st1, .threw q, hrun, hend, Or.inr ⟨q, rfl, E, ce, locs, hx _ hT hW.alike, hcell9, hv, hcl, hW, hsm.mono hc hs, hf⟩⟩
theorem vx_frame {U : State} {k n : Nat} (h : s.sameButNew ({ U with vm := s.vm } : State) locs k n) : s.heap.size ≤ U.heap.size ∧ ∀ q : Nat, q < s.heap.size → (∀ z ∈ locs, z.base ≠ q) → U.heap[q]? = s.heap[q]? := by
  obtain ⟨-, h2, -, -, -, h6⟩ := h
  refine ⟨h2, fun q hq hz => ?_⟩
  obtain ⟨c9, e1, e2, e3, e4⟩ := h6 q _ (Array.getElem?_eq_getElem hq)
  have hs : c9.slots = (s.heap[q]).slots := Array.ext_getElem? fun i => e4 i fun hm => hz _ hm rfl
  have h9 : c9 = s.heap[q] := by
    rw [hs] at e2
    exact e2
  have e5 : U.heap[q]? = some c9 := e1
  rw [e5, h9, Array.getElem?_eq_getElem hq]
/-- the words of a throw but the four that speak of the heap -/
def vx_no (w : Cond) : Bool := decide (w ≠ .isRef (.static Bundle.tN "UNASSIGNED_STACK" Bundle.steD)) && decide (w ≠ .isRef (.static Bundle.tN "SUPPRESSED_SENTINEL" Bundle.listD)) && decide (w ≠ .laysStatic Bundle.tN "UNASSIGNED_STACK" Bundle.steD) && decide (w ≠ .laysStatic Bundle.tN "SUPPRESSED_SENTINEL" Bundle.listD)
def vx_at0 (own : String) (ic : Nat) (X : String) (names : List String) : List Cond := (Bundle.ownAtoms0 own ic X names).filter vx_no
def vx_atS (own : String) (ic : Nat) (X : String) (names : List String) : List Cond := (Bundle.ownAtoms own ic X names).filter vx_no
/-- a word that the tables alone decide, or a good one -/
def vx_ot (w : Cond) : Bool := w.onTables || goodWord w
theorem vx_ot_at {args a' : Array Value} {s U : State} {w : Cond} (hW : s.WarmedH U.vm) (hvm : s.vm = U.vm) (hg : vx_ot w = true) (h : w.before args s = true) : w.before a' U = true := by
  simp only [vx_ot, Bool.or_eq_true] at hg
  rcases hg with hg | hg
  · exact va_tabs hg hvm h
  · exact word_at hW (good_of_word hg) h
/-- a list's words: the good ones out of the method's own list, the others by premises of their own -/
theorem vx_hat {args : Array Value} {s : State} {L B : List Cond} (h1 : ∀ w ∈ L.filter goodWord, w.before args s = true) (h2 : ∀ w ∈ L.filter (fun w => !goodWord w), w ∈ B) (h3 : ∀ w ∈ B, w.before args s = true) : ∀ w ∈ L, w.before args s = true := by
  intro w hw
  by_cases g : goodWord w = true
  · exact h1 w (List.mem_filter.mpr ⟨hw, g⟩)
  · refine h3 w (h2 w (List.mem_filter.mpr ⟨hw, ?_⟩))
    show (!goodWord w) = true
    cases hgw : goodWord w
    · rfl
    · exact absurd hgw g
theorem vx_c {args : Array Value} {s : State} {w : Cond} {B : List Cond} (h : w.before args s = true) (t : ∀ w ∈ B, w.before args s = true) : ∀ w' ∈ w :: B, w'.before args s = true := fun w' h' => (List.mem_cons.mp h').elim (fun e => by rw [e]; exact h) (t w')
theorem vx_n {args : Array Value} {s : State} : ∀ w ∈ ([] : List Cond), w.before args s = true := fun _ h => nomatch h
theorem vx_own {args : Array Value} {s : State} {L : List Cond} (h1 : ∀ w ∈ L.filter vx_no, w.before args s = true)
    (hU : (Cond.isRef (.static Bundle.tN "UNASSIGNED_STACK" Bundle.steD)).before args s = true) (hN : (Cond.isRef (.static Bundle.tN "SUPPRESSED_SENTINEL" Bundle.listD)).before args s = true)
    (lU : (Cond.laysStatic Bundle.tN "UNASSIGNED_STACK" Bundle.steD).before args s = true) (lN : (Cond.laysStatic Bundle.tN "SUPPRESSED_SENTINEL" Bundle.listD).before args s = true) : ∀ w ∈ L, w.before args s = true := by
  intro w hw
  by_cases e1 : w = .isRef (.static Bundle.tN "UNASSIGNED_STACK" Bundle.steD)
  · rw [e1]; exact hU
  · by_cases e2 : w = .isRef (.static Bundle.tN "SUPPRESSED_SENTINEL" Bundle.listD)
    · rw [e2]; exact hN
    · by_cases e3 : w = .laysStatic Bundle.tN "UNASSIGNED_STACK" Bundle.steD
      · rw [e3]; exact lU
      · by_cases e4 : w = .laysStatic Bundle.tN "SUPPRESSED_SENTINEL" Bundle.listD
        · rw [e4]; exact lN
        · exact h1 w (List.mem_filter.mpr ⟨hw, by unfold vx_no; rw [decide_eq_true e1, decide_eq_true e2, decide_eq_true e3, decide_eq_true e4]; rfl⟩)
/-- where a static field lies, its class's statics cell in H -/
def vx_L (C n d : String) (A : Nat → Prop) (U : State) (H : Heap) : Prop := ∃ (c : ClassId) (k : Class) (i : Nat) (f : Field) (a : Nat) (cell : Cell), U.vm.findClass C = some c ∧ U.fieldFound? C n d = some (c, k, i, f) ∧ f.isStatic = true ∧ k.statics = some a ∧ H[a]? = some cell ∧ cell.vm.isStatics = true ∧ cell.cls = c ∧ f.slot < cell.slots.size ∧ k.staticTypes[f.slot]? = some f.type ∧ ¬ A a
theorem vx_L.moved {C n d : String} {A : Nat → Prop} {u U : State} {H : Heap} (hvm : u.vm.Alike U.vm) (h : vx_L C n d A u H) : vx_L C n d A U H := by
  obtain ⟨c, k, i, f, a, cell, h1, h2, h3, h4, h5, h6, h7, h8, h9, h10⟩ := h
  obtain ⟨k', hi', he⟩ := State.fieldFound?_setVm hvm h2
  exact ⟨c, k', i, f, a, cell, by rw [hvm.findClass]; exact h1, hi', h3, by rw [he]; exact h4, h5, h6, h7, h8, by rw [he]; exact h9, h10⟩
theorem vx_L.kept {C n d : String} {A : Nat → Prop} {U : State} {H H1 : Heap} (h : vx_L C n d A U H) (hq : ∀ a : Nat, a < H.size → ¬ A a → H1[a]? = H[a]?) : vx_L C n d A U H1 := by
  obtain ⟨c, k, i, f, a, cell, h1, h2, h3, h4, h5, h6, h7, h8, h9, h10⟩ := h
  exact ⟨c, k, i, f, a, cell, h1, h2, h3, h4, by rw [hq a (Array.getElem?_eq_some_iff.mp h5).1 h10]; exact h5, h6, h7, h8, h9, h10⟩
theorem vx_L.narrow {C n d : String} {A B : Nat → Prop} {U : State} {H : Heap} (h : vx_L C n d A U H) (hAB : ∀ q, B q → A q) : vx_L C n d B U H := by
  obtain ⟨c, k, i, f, a, cell, h1, h2, h3, h4, h5, h6, h7, h8, h9, h10⟩ := h
  exact ⟨c, k, i, f, a, cell, h1, h2, h3, h4, h5, h6, h7, h8, h9, fun z => h10 (hAB _ z)⟩
theorem vx_L.word {C n d : String} {A : Nat → Prop} {s : State} {args : Array Value} (h : vx_L C n d A s s.heap) : (Cond.laysStatic C n d).before args s = true := by
  obtain ⟨c, k, i, f, a, cell, h1, h2, h3, h4, h5, h6, h7, h8, h9, -⟩ := h
  show (Cond.laysStatic C n d).holds args s none s [] = true
  exact Cond.laysStatic_of h1 h2 h3 h4 h5 h6 h7 h8 h9
/-- .. and what it holds: null or some reference -/
def vx_Zq (C n d : String) (A : Nat → Prop) (U : State) (H : Heap) : Prop := va_Zq C n d A U H ∧ vx_L C n d A U H
theorem vx_Zq.moved {C n d : String} {A : Nat → Prop} {u U : State} {H : Heap} (hvm : u.vm.Alike U.vm) (h : vx_Zq C n d A u H) : vx_Zq C n d A U H := ⟨va_Zq.moved hvm h.1, vx_L.moved hvm h.2⟩
theorem vx_Zq.kept {C n d : String} {A : Nat → Prop} {U : State} {H H1 : Heap} (h : vx_Zq C n d A U H) (hq : ∀ a : Nat, a < H.size → ¬ A a → H1[a]? = H[a]?) : vx_Zq C n d A U H1 := ⟨va_Zq.kept h.1 hq, vx_L.kept h.2 hq⟩
theorem vx_Zq.narrow {C n d : String} {A B : Nat → Prop} {U : State} {H : Heap} (h : vx_Zq C n d A U H) (hAB : ∀ q, B q → A q) : vx_Zq C n d B U H := ⟨va_Zq.narrow h.1 hAB, vx_L.narrow h.2 hAB⟩
theorem vx_Zqof {args : Array Value} {s : State} {C n d : String} {A : Nat → Prop} (hl : (Cond.laysStatic C n d).before args s = true) (hini : (Cond.initialized C).before args s = true) (h : (Cond.isRef (.static C n d)).before args s = true) (hA : ∀ a : Nat, a < s.heap.size → ¬ A a) : vx_Zq C n d A s s.heap := by
  refine ⟨va_Zqof hl hini h hA, ?_⟩
  obtain ⟨c, k, i, f, a, cell, h1, h2, h3, h4, h5, h6, h7, h8, h9⟩ := Cond.laysStatic_spec hl
  exact ⟨c, k, i, f, a, cell, h1, h2, h3, h4, h5, h6, h7, h8, h9, hA a (Array.getElem?_eq_some_iff.mp h5).1⟩
theorem vx_isRef {C n d : String} {v : Value} {A : Nat → Prop} {s : State} {args : Array Value} (h : va_Z C n d v A s s.heap) (hv : v.isRef = true) : (Cond.isRef (.static C n d)).before args s = true := by
  obtain ⟨cf, kf, fi, f, a, cell, h1, h2, h3, h4, h5, h6, h7, -⟩ := h
  have he : (Term.static C n d).eval args s none [] s = some v := by
    simp [Term.eval, State.fieldNamed?, h1, h2, h4, h5, h6, h7]
  simp only [Cond.before, Cond.holds, Cond.value, he]
  cases v <;> simp_all [Value.isRef]
theorem vx_isRefq {C n d : String} {A : Nat → Prop} {s : State} {args : Array Value} (h : va_Zq C n d A s s.heap) : (Cond.isRef (.static C n d)).before args s = true := by
  rcases h with h | ⟨t, h⟩
  · exact vx_isRef h rfl
  · exact vx_isRef h rfl
/-- the same frame, seen from here: as if the method were called anew in this heap -/
theorem vx_rebase {T : State} (X : Stand p l e R s m args below meth c T locs cells slots) {R' : Room} (hf : R'.frames ≤ R.frames) (hl : R'.locals ≤ R.locals) (hc : cells + R'.cells ≤ R.cells) (hs : slots + R'.slots ≤ R.slots) :
    Stand p l e R' ((T.setVm s.vm).setFrames (.invoking m args :: below)) m args below meth c T [] 0 0 := by
  have htop : (T.setVm s.vm).topJava?.isSome := X.here.top
  have hF : ((T.setVm s.vm).setFrames (.invoking m args :: below)).frames = .invoking m args :: below := State.frames_setFrames _ (State.cur_lt_of_top htop)
  obtain ⟨g₀, hg0⟩ := Option.isSome_iff_exists.mp htop
  obtain ⟨r, hr⟩ := State.topJava?_eq_some.mp hg0
  have hl9 : e.platform.stackLimits (T.setVm s.vm).me = e.platform.stackLimits s.me := X.limits
  have hb9 : (T.setVm s.vm).me.stackBytes = s.me.stackBytes := X.bytes
  refine ⟨X.admits, X.cas, X.clock, hF, ?_, X.hears, X.method, X.code, X.here, X.tail, X.warmed, ?_, ?_, ?_⟩
  · have h := X.room
    have hU : ((T.setVm s.vm).setFrames (.invoking m args :: below)).localsInUse = s.localsInUse := by
      rw [State.localsInUse_invoking hF (meth := meth) (c := c) X.method X.code, State.localsInUse_invoking X.frames X.method X.code]
    simp only [State.hasRoom, Bool.and_eq_true, decide_eq_true_eq] at h ⊢
    obtain ⟨⟨⟨⟨h1, h2, h3, h4, h5, h6⟩, h7⟩, h8⟩, h9⟩ := h
    rw [X.frames, List.length_cons] at h2 h3
    have q1 := X.heapSize
    have q2 := X.used
    simp only [hF, hU, List.length_cons, State.stackLimits_setFrames, State.stackBytes_setFrames, hl9, hb9]
    refine ⟨⟨⟨⟨by omega, by omega, by omega, by omega, by omega, h6⟩, ?_⟩, ?_⟩, X.book⟩
    · show T.heap.size + R'.cells ≤ e.platform.maxCells
      omega
    · show T.slotsUsed + R'.slots ≤ e.platform.maxSlots
      omega
  · rw [State.stackLimits_setFrames]; rfl
  · rw [State.stackBytes_setFrames]; rfl
  · refine ⟨?_, Nat.le_refl _, Nat.le_refl _, ?_, ?_, fun a c9 h9 => ⟨c9, h9, rfl, rfl, fun _ _ => rfl⟩⟩
    · obtain ⟨t, ht, -⟩ := State.frames_cons hr
      show T.setVm s.vm = { ((T.setVm s.vm).setFrames (.invoking m args :: below)).setFrames (T.setVm s.vm).frames with heap := T.heap, slotsUsed := T.slotsUsed }
      rw [State.setFrames_setFrames, State.setFrames_self ht]
      rfl
    · show T.slotsUsed = T.slotsUsed + ((T.heap.toList.drop T.heap.size).map (·.slots.size)).sum
      rw [List.drop_eq_nil_of_le (Nat.le_of_eq Array.length_toList)]
      rfl
    · show ((T.heap.toList.drop T.heap.size).map (·.slots.size)).sum ≤ 0
      rw [List.drop_eq_nil_of_le (Nat.le_of_eq Array.length_toList)]
      exact Nat.le_refl _
/-- 'throw new E()': new; dup; invokespecial; athrow -/
theorem vx_throw0 {cc : ByteArray} {pc : Nat} (hexec : p.tables.exec = Jvm.exec) (hb : c.code = cc) (hl : l.stackTraces = false) {own cls : String} {names : List String} {ik ic mc ms : Nat} {A : Nat → Prop}
    (hown : s.vm.findClass own = some m.cls) (hcls : Bundle.fit cls = true) (hnames : ∀ n ∈ names, Bundle.fit n = true)
    (hk : (Cond.classLink own ik cls).before args s = true) (hini : (Cond.initialized cls).before args s = true) (hat : ∀ w ∈ vx_at0 own ic cls names, w.before args s = true)
    (hgood : ∀ w ∈ Cond.classLink own ik cls :: Cond.initialized cls :: vx_at0 own ic cls names, vx_ot w = true)
    (hU : vx_Zq Bundle.tN "UNASSIGNED_STACK" Bundle.steD A s s.heap) (hN : vx_Zq Bundle.tN "SUPPRESSED_SENTINEL" Bundle.listD A s s.heap) (hS : va_S A s.heap H locs) (hsize : ls.size = c.maxLocals)
    (d0 : decode cc pc = .ok (.new ik, 3)) (d3 : decode cc (pc + 3) = .ok (.dup, 1)) (d4 : decode cc (pc + 4) = .ok (.invokespecial ic, 3)) (d7 : decode cc (pc + 7) = .ok (.athrow, 1))
    (hout : ∀ x ∈ c.exceptionTable.toList, covers x (pc + 7) = false)
    (hRframes : names.length + 3 < R.frames) (hRlocals : (rest.map fun v => v.category).sum + (13 * (names.length + 1) + 42) ≤ R.locals) (hRcells : cells + 1 ≤ R.cells) (hRslots : slots + 6 ≤ R.slots) (hlocks : meth.locks = false)
    (hx : ∀ t : State, s.vm.Alike t.vm → H.size ≤ t.heap.size → (∀ q : Nat, q < H.size → t.heap[q]? = H[q]?) → XC cls s t)
    (hf : ∀ z ∈ locs, free z.base) (hc : cells + 1 ≤ mc) (hs : slots + 6 ≤ ms) :
    W p l e R s m args below meth c H locs cells slots (vx_MQ below Qc XC args s mc ms free) (F0 m pc ls rest) := by
  intro T hT X
  have htr : e.platform.stackTraces = false := (show e.platform.stackTraces = l.stackTraces by rw [X.admits.platform]).trans hl
  have Y := vx_rebase X (R' := { frames := R.frames, locals := R.locals, cells := 1, slots := 6 }) (Nat.le_refl _) (Nat.le_refl _) hRcells hRslots
  obtain ⟨s', hA⟩ : ∃ z, z = (T.setVm s.vm).setFrames (.invoking m args :: below) := ⟨_, rfl⟩
  rw [← hA] at Y
  have hvm : s'.vm = s.vm := by rw [hA]; rfl
  have hhp : s'.heap = H := by rw [hA]; exact hT
  have hW0 : s.WarmedH s'.vm := by rw [hvm]; exact State.WarmedH.refl s
  have hat' : ∀ w ∈ vx_at0 own ic cls names, w.before args s' = true := fun w hw => vx_ot_at hW0 hvm.symm (hgood w (List.mem_cons_of_mem _ (List.mem_cons_of_mem _ hw))) (hat w hw)
  have hk' : (Cond.classLink own ik cls).before args s' = true := vx_ot_at hW0 hvm.symm (hgood _ List.mem_cons_self) hk
  have hini' : (Cond.initialized cls).before args s' = true := vx_ot_at hW0 hvm.symm (hgood _ (List.mem_cons_of_mem _ List.mem_cons_self)) hini
  have hU' : vx_Zq Bundle.tN "UNASSIGNED_STACK" Bundle.steD A s' s'.heap := by rw [hhp]; exact vx_Zq.moved hW0.alike (hU.kept hS.2.1)
  have hN' : vx_Zq Bundle.tN "SUPPRESSED_SENTINEL" Bundle.listD A s' s'.heap := by rw [hhp]; exact vx_Zq.moved hW0.alike (hN.kept hS.2.1)
  have h : ∀ w ∈ Bundle.ownAtoms0 own ic cls names, w.before args s' = true := vx_own hat' (vx_isRefq hU'.1) (vx_isRefq hN'.1) hU'.2.word hN'.2.word
  have hown' : s'.vm.findClass own = some m.cls := by rw [hvm]; exact hown
  have hins : (Cond.instantiable cls 6).before args s' = true := h _ (by simp [Bundle.ownAtoms0])
  obtain ⟨vm₁, cX, kX, hfX, hkX, -, -, X₁, st1⟩ := Y.newCold hexec (own := own) (C := cls) (index := ik) (n := 6) hown' hk' hins hini'
    (g := F0 m pc ls rest) rfl (by rw [hb]; exact d0) (Nat.le_refl _) (Nat.le_refl _)
  generalize hT1 : (T.setVm vm₁).pushCell { cls := cX, slots := kX.instanceTypes.map defaultValue, vm := .none } = T1 at X₁ st1
  have hcat : (Value.ref T.heap.size).category = 1 := rfl
  have hcellA : T1.heap[T.heap.size]? = some (freshCell cX kX) := by rw [← hT1]; exact State.heap_pushCell_size _ _
  have d3' : decode c.code (pc + 3) = .ok (.dup, 1) := by rw [hb]; exact d3
  obtain ⟨U, hsteps, hrun, hend, hW, hsame, ce, hce, hO⟩ := X₁.ctorThrow0 hexec htr (own := own) (cls := cls) (names := names) (ic := ic) hown' hcls hnames h (fun x hx => nomatch hx) hfX hkX hcellA (by rw [hhp, hT]; exact Nat.le_refl _)
    (g := { method := m, pc := pc + 4, locals := ls, stack := .ref T.heap.size :: .ref T.heap.size :: rest, locked := none }) rfl hsize rfl rfl (rest := rest) rfl
    (by rw [hb]; exact d4) (by rw [hb]; exact d7) hout hRframes (by simp only [List.map_cons, List.sum_cons, hcat]; omega) hlocks
  obtain ⟨f1, f2⟩ := vx_frame hsame
  rw [hhp] at f1 f2
  have hWs : s.WarmedH U.vm := State.WarmedH.trans hW0 hW
  have hcl : s.vm.findClass cls = some ce.cls := by
    have h9 := hO.cls
    rw [hvm] at h9
    exact h9
  have hall : s.sameButNew ({ U with vm := s.vm } : State) locs mc ms := by
    subst hA
    obtain ⟨e1, e2⟩ := hsame
    rw [State.setFrames_setFrames] at e1
    have h2 : (T.setVm s.vm).sameButNew ({ U with vm := s.vm } : State) [] (0 + 1) (0 + 6) := ⟨e1, e2⟩
    have h3 := X.same.trans h2
    rw [List.append_nil] at h3
    exact h3.mono hc hs
  refine ⟨U, ?_, .threw T.heap.size, hrun, hend, Or.inr ⟨T.heap.size, rfl, cls, ce, locs, hx U hWs.alike f1 (fun q hq => f2 q hq (fun z hz => nomatch hz)), hce, hO.vm, hcl, hWs, hall, hf⟩⟩
  refine st1 _ ?_
  show Steps p.tables e below (T1.setTop { method := m, pc := pc + 3, locals := ls, stack := .ref T.heap.size :: rest, locked := none }) _
  jvm_step X₁.here [X₁.here.top, hexec, d3', Value.category]
  exact hsteps
/-- 'throw new E("text")': new; dup; ldc; invokespecial; athrow -/
theorem vx_throwS {cc : ByteArray} {pc : Nat} (hexec : p.tables.exec = Jvm.exec) (hb : c.code = cc) (hl : l.stackTraces = false) {own cls text : String} {names : List String} {ik is ic mc ms sa : Nat} {A : Nat → Prop}
    (hown : s.vm.findClass own = some m.cls) (hcls : Bundle.fit cls = true) (hnames : ∀ n ∈ names, Bundle.fit n = true)
    (hk : (Cond.classLink own ik cls).before args s = true) (hini : (Cond.initialized cls).before args s = true) (hstr : vk_R own is text sa s) (hat : ∀ w ∈ vx_atS own ic cls names, w.before args s = true)
    (hgood : ∀ w ∈ Cond.classLink own ik cls :: Cond.initialized cls :: vx_atS own ic cls names, vx_ot w = true)
    (hU : vx_Zq Bundle.tN "UNASSIGNED_STACK" Bundle.steD A s s.heap) (hN : vx_Zq Bundle.tN "SUPPRESSED_SENTINEL" Bundle.listD A s s.heap) (hS : va_S A s.heap H locs) (hsize : ls.size = c.maxLocals)
    (d0 : decode cc pc = .ok (.new ik, 3)) (d3 : decode cc (pc + 3) = .ok (.dup, 1)) (d4 : decode cc (pc + 4) = .ok (.ldc is, 2)) (d6 : decode cc (pc + 6) = .ok (.invokespecial ic, 3)) (d9 : decode cc (pc + 9) = .ok (.athrow, 1))
    (hout : ∀ x ∈ c.exceptionTable.toList, covers x (pc + 9) = false)
    (hRframes : names.length + 3 < R.frames) (hRlocals : (rest.map fun v => v.category).sum + (13 * (names.length + 1) + 43) ≤ R.locals) (hRcells : cells + 1 ≤ R.cells) (hRslots : slots + 6 ≤ R.slots) (hlocks : meth.locks = false)
    (hx : ∀ t : State, s.vm.Alike t.vm → H.size ≤ t.heap.size → (∀ q : Nat, q < H.size → t.heap[q]? = H[q]?) → XC cls s t)
    (hf : ∀ z ∈ locs, free z.base) (hc : cells + 1 ≤ mc) (hs : slots + 6 ≤ ms) :
    W p l e R s m args below meth c H locs cells slots (vx_MQ below Qc XC args s mc ms free) (F0 m pc ls rest) := by
  intro T hT X
  have htr : e.platform.stackTraces = false := (show e.platform.stackTraces = l.stackTraces by rw [X.admits.platform]).trans hl
  have Y := vx_rebase X (R' := { frames := R.frames, locals := R.locals, cells := 1, slots := 6 }) (Nat.le_refl _) (Nat.le_refl _) hRcells hRslots
  obtain ⟨s', hA⟩ : ∃ z, z = (T.setVm s.vm).setFrames (.invoking m args :: below) := ⟨_, rfl⟩
  rw [← hA] at Y
  have hvm : s'.vm = s.vm := by rw [hA]; rfl
  have hhp : s'.heap = H := by rw [hA]; exact hT
  have hW0 : s.WarmedH s'.vm := by rw [hvm]; exact State.WarmedH.refl s
  have hat' : ∀ w ∈ vx_atS own ic cls names, w.before args s' = true := fun w hw => vx_ot_at hW0 hvm.symm (hgood w (List.mem_cons_of_mem _ (List.mem_cons_of_mem _ hw))) (hat w hw)
  have hk' : (Cond.classLink own ik cls).before args s' = true := vx_ot_at hW0 hvm.symm (hgood _ List.mem_cons_self) hk
  have hini' : (Cond.initialized cls).before args s' = true := vx_ot_at hW0 hvm.symm (hgood _ (List.mem_cons_of_mem _ List.mem_cons_self)) hini
  have hU' : vx_Zq Bundle.tN "UNASSIGNED_STACK" Bundle.steD A s' s'.heap := by rw [hhp]; exact vx_Zq.moved hW0.alike (hU.kept hS.2.1)
  have hN' : vx_Zq Bundle.tN "SUPPRESSED_SENTINEL" Bundle.listD A s' s'.heap := by rw [hhp]; exact vx_Zq.moved hW0.alike (hN.kept hS.2.1)
  have h : ∀ w ∈ Bundle.ownAtoms own ic cls names, w.before args s' = true := vx_own hat' (vx_isRefq hU'.1) (vx_isRefq hN'.1) hU'.2.word hN'.2.word
  have hown' : s'.vm.findClass own = some m.cls := by rw [hvm]; exact hown
  have hins : (Cond.instantiable cls 6).before args s' = true := h _ (by simp [Bundle.ownAtoms])
  obtain ⟨vm₁, cX, kX, hfX, hkX, -, -, X₁, st1⟩ := Y.newCold hexec (own := own) (C := cls) (index := ik) (n := 6) hown' hk' hins hini'
    (g := F0 m pc ls rest) rfl (by rw [hb]; exact d0) (Nat.le_refl _) (Nat.le_refl _)
  generalize hT1 : (T.setVm vm₁).pushCell { cls := cX, slots := kX.instanceTypes.map defaultValue, vm := .none } = T1 at X₁ st1
  have hcat : (Value.ref T.heap.size).category = 1 := rfl
  have hcellA : T1.heap[T.heap.size]? = some (freshCell cX kX) := by rw [← hT1]; exact State.heap_pushCell_size _ _
  have d3' : decode c.code (pc + 3) = .ok (.dup, 1) := by rw [hb]; exact d3
  have d4' : decode c.code (pc + 4) = .ok (.ldc is, 2) := by rw [hb]; exact d4
  have hstr' : vk_R own is text sa s' := vk_R.warm hW0 hstr
  obtain ⟨U, hsteps, hrun, hend, hW, hsame, ce, hce, hO⟩ := X₁.ctorThrowS hexec htr (own := own) (cls := cls) (names := names) (ic := ic) hown' hcls hnames h (fun x hx => nomatch hx) hfX hkX hcellA (by rw [hhp, hT]; exact Nat.le_refl _) (msg := .ref sa) rfl
    (g := { method := m, pc := pc + 6, locals := ls, stack := .ref sa :: .ref T.heap.size :: .ref T.heap.size :: rest, locked := none }) rfl hsize rfl rfl (rest := rest) rfl
    (by rw [hb]; exact d6) (by rw [hb]; exact d9) hout hRframes (by simp only [List.map_cons, List.sum_cons, hcat]; omega) hlocks
  obtain ⟨f1, f2⟩ := vx_frame hsame
  rw [hhp] at f1 f2
  have hWs : s.WarmedH U.vm := State.WarmedH.trans hW0 hW
  have hcl : s.vm.findClass cls = some ce.cls := by
    have h9 := hO.cls
    rw [hvm] at h9
    exact h9
  have hall : s.sameButNew ({ U with vm := s.vm } : State) locs mc ms := by
    subst hA
    obtain ⟨e1, e2⟩ := hsame
    rw [State.setFrames_setFrames] at e1
    have h2 : (T.setVm s.vm).sameButNew ({ U with vm := s.vm } : State) [] (0 + 1) (0 + 6) := ⟨e1, e2⟩
    have h3 := X.same.trans h2
    rw [List.append_nil] at h3
    exact h3.mono hc hs
  refine ⟨U, ?_, .threw T.heap.size, hrun, hend, Or.inr ⟨T.heap.size, rfl, cls, ce, locs, hx U hWs.alike f1 (fun q hq => f2 q hq (fun z hz => nomatch hz)), hce, hO.vm, hcl, hWs, hall, hf⟩⟩
  refine st1 _ ?_
  show Steps p.tables e below (T1.setTop { method := m, pc := pc + 3, locals := ls, stack := .ref T.heap.size :: rest, locked := none }) _
  jvm_step X₁.here [X₁.here.top, hexec, d3', Value.category]
  exact X₁.ldcString hexec (own := own) (text := text) (index := is) (a := sa) hown' hstr'.1 hstr'.2
    (g := { method := m, pc := pc + 4, locals := ls, stack := .ref T.heap.size :: .ref T.heap.size :: rest, locked := none }) rfl d4' _ hsteps
/-- 'throw new E("text")', the text by a wide index -/
theorem vx_throwSW {cc : ByteArray} {pc : Nat} (hexec : p.tables.exec = Jvm.exec) (hb : c.code = cc) (hl : l.stackTraces = false) {own cls text : String} {names : List String} {ik is ic mc ms sa : Nat} {A : Nat → Prop}
    (hown : s.vm.findClass own = some m.cls) (hcls : Bundle.fit cls = true) (hnames : ∀ n ∈ names, Bundle.fit n = true)
    (hk : (Cond.classLink own ik cls).before args s = true) (hini : (Cond.initialized cls).before args s = true) (hstr : vk_R own is text sa s) (hat : ∀ w ∈ vx_atS own ic cls names, w.before args s = true)
    (hgood : ∀ w ∈ Cond.classLink own ik cls :: Cond.initialized cls :: vx_atS own ic cls names, vx_ot w = true)
    (hU : vx_Zq Bundle.tN "UNASSIGNED_STACK" Bundle.steD A s s.heap) (hN : vx_Zq Bundle.tN "SUPPRESSED_SENTINEL" Bundle.listD A s s.heap) (hS : va_S A s.heap H locs) (hsize : ls.size = c.maxLocals)
    (d0 : decode cc pc = .ok (.new ik, 3)) (d3 : decode cc (pc + 3) = .ok (.dup, 1)) (d4 : decode cc (pc + 4) = .ok (.ldc_w is, 3)) (d7 : decode cc (pc + 7) = .ok (.invokespecial ic, 3)) (d10 : decode cc (pc + 10) = .ok (.athrow, 1))
    (hout : ∀ x ∈ c.exceptionTable.toList, covers x (pc + 10) = false)
    (hRframes : names.length + 3 < R.frames) (hRlocals : (rest.map fun v => v.category).sum + (13 * (names.length + 1) + 43) ≤ R.locals) (hRcells : cells + 1 ≤ R.cells) (hRslots : slots + 6 ≤ R.slots) (hlocks : meth.locks = false)
    (hx : ∀ t : State, s.vm.Alike t.vm → H.size ≤ t.heap.size → (∀ q : Nat, q < H.size → t.heap[q]? = H[q]?) → XC cls s t)
    (hf : ∀ z ∈ locs, free z.base) (hc : cells + 1 ≤ mc) (hs : slots + 6 ≤ ms) :
    W p l e R s m args below meth c H locs cells slots (vx_MQ below Qc XC args s mc ms free) (F0 m pc ls rest) := by
  intro T hT X
  have htr : e.platform.stackTraces = false := (show e.platform.stackTraces = l.stackTraces by rw [X.admits.platform]).trans hl
  have Y := vx_rebase X (R' := { frames := R.frames, locals := R.locals, cells := 1, slots := 6 }) (Nat.le_refl _) (Nat.le_refl _) hRcells hRslots
  obtain ⟨s', hA⟩ : ∃ z, z = (T.setVm s.vm).setFrames (.invoking m args :: below) := ⟨_, rfl⟩
  rw [← hA] at Y
  have hvm : s'.vm = s.vm := by rw [hA]; rfl
  have hhp : s'.heap = H := by rw [hA]; exact hT
  have hW0 : s.WarmedH s'.vm := by rw [hvm]; exact State.WarmedH.refl s
  have hat' : ∀ w ∈ vx_atS own ic cls names, w.before args s' = true := fun w hw => vx_ot_at hW0 hvm.symm (hgood w (List.mem_cons_of_mem _ (List.mem_cons_of_mem _ hw))) (hat w hw)
  have hk' : (Cond.classLink own ik cls).before args s' = true := vx_ot_at hW0 hvm.symm (hgood _ List.mem_cons_self) hk
  have hini' : (Cond.initialized cls).before args s' = true := vx_ot_at hW0 hvm.symm (hgood _ (List.mem_cons_of_mem _ List.mem_cons_self)) hini
  have hU' : vx_Zq Bundle.tN "UNASSIGNED_STACK" Bundle.steD A s' s'.heap := by rw [hhp]; exact vx_Zq.moved hW0.alike (hU.kept hS.2.1)
  have hN' : vx_Zq Bundle.tN "SUPPRESSED_SENTINEL" Bundle.listD A s' s'.heap := by rw [hhp]; exact vx_Zq.moved hW0.alike (hN.kept hS.2.1)
  have h : ∀ w ∈ Bundle.ownAtoms own ic cls names, w.before args s' = true := vx_own hat' (vx_isRefq hU'.1) (vx_isRefq hN'.1) hU'.2.word hN'.2.word
  have hown' : s'.vm.findClass own = some m.cls := by rw [hvm]; exact hown
  have hins : (Cond.instantiable cls 6).before args s' = true := h _ (by simp [Bundle.ownAtoms])
  obtain ⟨vm₁, cX, kX, hfX, hkX, -, -, X₁, st1⟩ := Y.newCold hexec (own := own) (C := cls) (index := ik) (n := 6) hown' hk' hins hini'
    (g := F0 m pc ls rest) rfl (by rw [hb]; exact d0) (Nat.le_refl _) (Nat.le_refl _)
  generalize hT1 : (T.setVm vm₁).pushCell { cls := cX, slots := kX.instanceTypes.map defaultValue, vm := .none } = T1 at X₁ st1
  have hcat : (Value.ref T.heap.size).category = 1 := rfl
  have hcellA : T1.heap[T.heap.size]? = some (freshCell cX kX) := by rw [← hT1]; exact State.heap_pushCell_size _ _
  have d3' : decode c.code (pc + 3) = .ok (.dup, 1) := by rw [hb]; exact d3
  have d4' : decode c.code (pc + 4) = .ok (.ldc_w is, 3) := by rw [hb]; exact d4
  have hstr' : vk_R own is text sa s' := vk_R.warm hW0 hstr
  obtain ⟨U, hsteps, hrun, hend, hW, hsame, ce, hce, hO⟩ := X₁.ctorThrowS hexec htr (own := own) (cls := cls) (names := names) (ic := ic) hown' hcls hnames h (fun x hx => nomatch hx) hfX hkX hcellA (by rw [hhp, hT]; exact Nat.le_refl _) (msg := .ref sa) rfl
    (g := { method := m, pc := pc + 7, locals := ls, stack := .ref sa :: .ref T.heap.size :: .ref T.heap.size :: rest, locked := none }) rfl hsize rfl rfl (rest := rest) rfl
    (by rw [hb]; exact d7) (by rw [hb]; exact d10) hout hRframes (by simp only [List.map_cons, List.sum_cons, hcat]; omega) hlocks
  obtain ⟨f1, f2⟩ := vx_frame hsame
  rw [hhp] at f1 f2
  have hWs : s.WarmedH U.vm := State.WarmedH.trans hW0 hW
  have hcl : s.vm.findClass cls = some ce.cls := by
    have h9 := hO.cls
    rw [hvm] at h9
    exact h9
  have hall : s.sameButNew ({ U with vm := s.vm } : State) locs mc ms := by
    subst hA
    obtain ⟨e1, e2⟩ := hsame
    rw [State.setFrames_setFrames] at e1
    have h2 : (T.setVm s.vm).sameButNew ({ U with vm := s.vm } : State) [] (0 + 1) (0 + 6) := ⟨e1, e2⟩
    have h3 := X.same.trans h2
    rw [List.append_nil] at h3
    exact h3.mono hc hs
  refine ⟨U, ?_, .threw T.heap.size, hrun, hend, Or.inr ⟨T.heap.size, rfl, cls, ce, locs, hx U hWs.alike f1 (fun q hq => f2 q hq (fun z hz => nomatch hz)), hce, hO.vm, hcl, hWs, hall, hf⟩⟩
  refine st1 _ ?_
  show Steps p.tables e below (T1.setTop { method := m, pc := pc + 3, locals := ls, stack := .ref T.heap.size :: rest, locked := none }) _
  jvm_step X₁.here [X₁.here.top, hexec, d3', Value.category]
  exact X₁.ldcStringW hexec (own := own) (text := text) (index := is) (a := sa) hown' hstr'.1 hstr'.2
    (g := { method := m, pc := pc + 4, locals := ls, stack := .ref T.heap.size :: .ref T.heap.size :: rest, locked := none }) rfl d4' _ hsteps
end Ends
section Bodies
variable {l : Launch}
theorem vx_ofW {y : MethodName} {ws ws' : List Cond} {rm : Room} {Pc : Array Value → State → Prop} {Qc : Array Value → State → Outcome → State → Prop} {XC : String → State → State → Prop} {mc ms : Nat} {free : Addr → Prop} {cc : ByteArray} {maxL : Nat} {ret : Option FieldType}
    (hy : plainName y.cls = true) (hw : ws = Cond.code y cc maxL ret :: ws')
    (body : ∀ p e s m args below meth c s₁, BodyLoose p l y (headSpec ws rm) cc maxL ret e s m args below meth c s₁ → c.maxLocals = maxL → (∀ x ∈ c.exceptionTable.toList, False) → Pc args s →
      W p l e (headSpec ws rm).room s m args below meth c s.heap [] 0 0 (vx_MQ below Qc XC args s mc ms free) (entryFrame m args maxL)) : vx_Met l y ws rm Pc Qc XC mc ms free := by
  refine MetFree.of_bodyS (code := cc) (maxLocals := maxL) (ret := ret) hy ?_ ?_
  · intro args s m h hn
    obtain ⟨meth, c, h1, h2, h3, h4, h5, h6, -, -⟩ := Cond.code_spec hn (atoms_spec (ws := ws) h _ (by rw [hw]; exact List.mem_cons_self))
    exact ⟨meth, c, h1, h2, h3, h4, h5, h6⟩
  · intro p e s m args below meth c s₁ B hml hP _
    have hh0 : s₁.heap = s.heap := by rw [B.state]; rfl
    have ht : ∀ x ∈ c.exceptionTable.toList, False := by
      obtain ⟨meth9, c9, h1, h2, -, -, -, -, h7, -⟩ := Cond.code_spec B.named (atoms_spec (ws := ws) B.pre _ (by rw [hw]; exact List.mem_cons_self))
      cases Option.some.inj (h1.symm.trans B.method)
      cases Option.some.inj (h2.symm.trans (Stand.of_body B).code)
      intro x hx
      rw [Array.isEmpty_iff.mp h7] at hx
      cases hx
    obtain ⟨t, a1, o, b1, b2, b3⟩ := body p e s m args below meth c s₁ B hml ht hP s₁ hh0 (Stand.of_body B)
    exact ⟨t, o, a1, b1, b2, b3⟩
/-- the table of a body with handlers -/
theorem vx_table {p : Program} {x y : MethodName} {S : Spec} {cc bytes : ByteArray} {maxL maxL' : Nat} {ret ret' : Option FieldType} {e : Env} {s s₁ : State} {m : MethodId} {args : Array Value} {below : List Frame} {meth : Method} {c : Code} {hh : List (Nat × Nat × Nat × Nat)}
    (B : BodyLoose p l y S cc maxL ret e s m args below meth c s₁) (h : (Cond.codeWith y bytes maxL' ret' hh).before args s = true) : c.exceptionTable.toList = tableOf hh := by
  obtain ⟨m9, meth9, c9, hn9, h1, h2, -, -, h6, -⟩ := Cond.codeWith_spec h
  cases Option.some.inj (hn9.symm.trans B.named)
  cases Option.some.inj (h1.symm.trans B.method)
  cases Option.some.inj (h2.symm.trans (Stand.of_body B).code)
  rw [← h6, table_eq]
end Bodies
end VXA
/-! ===== END ===== -/
/-! ===== BEGIN a static call of a method with an exception table ===== -/
section VXS
variable {p : Program} {l : Launch} {e : Env} {R : Room} {s : State} {m : MethodId} {args : Array Value} {below : List Frame} {meth : Method} {c : Code} {T : State} {H : Heap} {locs : List Loc} {cells slots : Nat}
abbrev vx_CSW (R : Room) (s : State) (args : Array Value) (own : String) (index : Nat) (y : MethodName) (bytes : ByteArray) (maxL : Nat) (ret : Option FieldType) (hh : List (Nat × Nat × Nat × Nat)) (ws : List Cond) (rm : Room) (mc ms n : Nat) : Prop :=
  (rm.cells = mc ∧ rm.slots = ms ∧ rm.frames + 1 ≤ R.frames ∧ 8 + (maxL + 11) + rm.locals ≤ R.locals ∧ (∀ w ∈ ws, ∀ (a' : Array Value) (U : State), s.WarmedH U.vm → w.before a' U = true) ∧ Cond.codeWith y bytes maxL ret hh ∈ ws) ∧
  (Cond.codeWith y bytes maxL ret hh).before args s = true ∧ (Cond.initialized y.cls).before args s = true ∧ (y.cls ≠ "java/lang/invoke/MethodHandle" ∧ y.cls ≠ "java/lang/invoke/VarHandle") ∧
  (∀ sig, parseMethodDescriptor y.desc = some sig → n = sig.parameters.length) ∧ (Cond.methodLink own index y).before args s = true ∧ (Cond.static y).before args s = true
theorem vx_cwSW {own : String} {index maxL mc ms : Nat} {y : MethodName} {bytes : ByteArray} {ret : Option FieldType} {hh : List (Nat × Nat × Nat × Nat)} {Ts ws ws' : List Cond} {rm : Room} (n : Nat) (ht : ∀ w ∈ Ts, w.before args s = true) (hT : GoodIn Ts (va_wsS own index y ws)) (hw : ws = Cond.codeWith y bytes maxL ret hh :: ws') (hrc : rm.cells = mc) (hrs : rm.slots = ms)
    (hd : y.cls ≠ "java/lang/invoke/MethodHandle" ∧ y.cls ≠ "java/lang/invoke/VarHandle" ∧ (parseMethodDescriptor y.desc).map (fun d => d.parameters.length) = some n) (hR : rm.frames + 1 ≤ R.frames ∧ 8 + (maxL + 11) + rm.locals ≤ R.locals) :
    vx_CSW R s args own index y bytes maxL ret hh ws rm mc ms n := by
  have ok : ∀ w ∈ va_wsS own index y ws, w.before args s = true := fun w h => ht w (hT w h).1
  have hG : GoodIn Ts ws := fun w h => hT w (by unfold va_wsS; exact List.mem_append_right _ h)
  have hc : Cond.codeWith y bytes maxL ret hh ∈ ws := by rw [hw]; exact List.mem_cons_self
  refine ⟨⟨hrc, hrs, hR.1, hR.2, pay_in ht hG, hc⟩, ht _ (hG _ hc).1, ok _ (by simp [va_wsS]), ⟨hd.1, hd.2.1⟩, fun sig h => ?_, ok _ (by simp [va_wsS]), ok _ (by simp [va_wsS])⟩
  have h2 := hd.2.2
  rw [h] at h2
  exact (Option.some.inj h2).symm
theorem vx_callSW (X : Stand p l e R s m args below meth c T locs cells slots) (hexec : p.tables.exec = Jvm.exec) {own : String} {index : Nat} {y : MethodName} {bytes : ByteArray} {maxL : Nat} {ret : Option FieldType} {hh : List (Nat × Nat × Nat × Nat)}
    (hown : s.vm.findClass own = some m.cls) (hlink : (Cond.methodLink own index y).before args s = true) (hstat : (Cond.static y).before args s = true) (hinit : (Cond.initialized y.cls).before args s = true)
    (hcode : (Cond.codeWith y bytes maxL ret hh).before args s = true) (hy : y.cls ≠ "java/lang/invoke/MethodHandle" ∧ y.cls ≠ "java/lang/invoke/VarHandle")
    {W9 : Nat} {Pre : Pt → Array Value → Prop} {Post : Pt → Array Value → Option Value → Pt → Prop} (hK : Back l R p e below s args y 3 W9 Pre Post)
    {g : JFrame} (hg : g.method = m) (hsize : g.locals.size = c.maxLocals) {argsL rest : List Value} (hlen : ∀ sig, parseMethodDescriptor y.desc = some sig → argsL.length = sig.parameters.length)
    (hstack : g.stack = argsL.reverse ++ rest) (hW : 2 * g.monitorRoom + (rest.map fun v => v.category).sum ≤ W9) (hdg : decode c.code g.pc = .ok (.invokestatic index, 3))
    (hpre : ∀ vm₁, s.WarmedH vm₁ → Pre ⟨T.setVm vm₁, locs, cells, slots⟩ argsL.toArray) :
    ∃ (v : Option Value) (vm₁ : Vm) (B : Pt), s.WarmedH vm₁ ∧ Stand p l e R s m args below meth c B.U B.locs B.cells B.slots ∧ Post ⟨T.setVm vm₁, locs, cells, slots⟩ argsL.toArray v B ∧
      ∀ target, Steps p.tables e below (B.U.setTop { g with pc := g.pc + 3, stack := v.toList ++ rest }) target → Steps p.tables e below (T.setTop g) target := by
  obtain ⟨mk, methM, cM, hnamed, hmethM, -, -, -, -, -, -, hsigM⟩ := Cond.codeWith_spec hcode
  have hstatic : methM.isStatic = true := Cond.static_spec hnamed hmethM hstat
  obtain ⟨kP, hkP, -⟩ := className_of_methodNamed hnamed
  have hinitP : kP.init = .initialized := Cond.initialized_spec (findClass_of_methodNamed hnamed) hkP hinit
  obtain ⟨vm₁, X₁, hstep₁⟩ := X.invokestatic hexec hown hlink hnamed hmethM hstatic hkP hinitP hy (g := g) hg (argsL := argsL) (rest := rest) (hlen _ hsigM) hstack hdg
  obtain ⟨v, B, X', hpost, hsteps⟩ := hK m meth c ⟨T.setVm vm₁, locs, cells, slots⟩ { g with stack := rest } (.invokestatic index) mk argsL.toArray X₁ hg hsize hdg hW (X₁.named hnamed) (hpre vm₁ X₁.warmed)
  exact ⟨v, vm₁, B, X₁.warmed, X', hpost, fun target h => hstep₁ _ fun acts => by rw [doInvoke_state]; exact hsteps.trans h⟩
theorem vx_runSW {y : MethodName} {bytes cc : ByteArray} {maxL nL mc ms n index : Nat} {ret : Option FieldType} {hh : List (Nat × Nat × Nat × Nat)} {ws : List Cond} {rm : Room} {Pc : Array Value → State → Prop} {Qc : Array Value → State → Outcome → State → Prop} {free : Addr → Prop} {Ts : List Cond} {own : String} {As rest : List Value} {g : JFrame}
    (S : CallFix p m c cc nL s args Ts own) (hM : Met l y ws rm Pc Qc mc ms free) (cw : vx_CSW R s args own index y bytes maxL ret hh ws rm mc ms n) (hp : PreS s H Pc As)
    (hg : g.method = m) (hn : As.length = n) (hsize : g.locals.size = nL) (hstack : g.stack = As.reverse ++ rest) (hW : 2 * g.monitorRoom + (rest.map fun v => v.category).sum ≤ 8) (hdg : decode cc g.pc = .ok (.invokestatic index, 3)) (hf : cells + mc ≤ R.cells ∧ slots + ms ≤ R.slots) :
    va_Run p l e R s m args below meth c H locs cells slots mc ms g rest (Qc As.toArray) (free) := by
  obtain ⟨⟨hrc, hrs, hfr, hlo, hws, hcw⟩, hcode, hini, hy, hlen, hl, hstt⟩ := cw
  have hK : Back l R p e below s args y 3 8 (PreOf R mc ms Pc) (PostOf Qc mc ms free) := va_backW (hh := hh) (bytes := bytes) (maxL := maxL) (ret := ret) hM hp.1 hrc hrs hfr hlo hws hcw (fun a' U hW => word_at hW (Or.inl (by first | rfl | simp [Cond.onTables, Cond.keeps, Cond.steady])) hini)
  obtain ⟨hx, hb, hml, ho, -⟩ := S
  intro T hT X
  obtain ⟨v, vm₁, ⟨U', l2, c2, s2⟩, hW₁, X', ⟨g', mk, t, L, e1, e2, hq, h1, hL, h2, h3⟩, st⟩ := vx_callSW X hx (hh := hh) (bytes := bytes) (maxL := maxL) (ret := ret) ho hl hstt hini hcode hy hK hg (hsize.trans hml.symm) (argsL := As) (rest := rest) (fun sig h => hn.trans (hlen sig h)) hstack hW (by rw [hb]; exact hdg)
    (fun vm₁ hW₁ => ⟨hf.1, hf.2, hp.2 (T.setVm vm₁) hT hW₁⟩)
  dsimp only [Pt.U, Pt.locs, Pt.cells, Pt.slots] at X' e1 e2 h1 h2 h3 st
  subst h1; subst h2; subst h3
  exact ⟨v, (T.setVm vm₁).calling g' mk As.toArray, t, U', L, hT, X', hL, e1, e2, hq, st⟩
/-- not caught here, past rows that name other classes: it goes on to the caller -/
theorem vx_outP {p : Program} {l : Launch} {e : Env} {R : Room} {s : State} {m : MethodId} {args : Array Value} {below : List Frame} {meth : Method} {c : Code} {H : Heap} {locs : List Loc} {cells slots : Nat} {free : Addr → Prop} {ls : Array Slot} {rest : List Value} {Qc : Array Value → State → Outcome → State → Prop} {XC : String → State → State → Prop}
    {pc : Nat} {own E : String} {ce : Cell} {q : Addr} {mc ms : Nat} (hown : s.vm.findClass own = some m.cls) (hlocks : meth.locks = false)
    (hpass : ∀ z ∈ c.exceptionTable.toList, covers z pc = false ∨ (z.catchType ≠ 0 ∧ ∃ nm : String, (Cond.classLink own z.catchType nm).before args s = true ∧ va_Nc E nm s)) (hcell : H[q]? = some ce) (hv : ce.vm = .none) (hcl : s.vm.findClass E = some ce.cls)
    (hx : ∀ t : State, t.heap = H → s.vm.Alike t.vm → XC E s t) (hf : ∀ z ∈ locs, free z.base) (hc : cells ≤ mc) (hs : slots ≤ ms) :
    vx_W p l e R s m args below meth c H locs cells slots (vx_MQ below Qc XC args s mc ms free) (F0 m pc ls rest) q := by
  intro T hT X
  have hpl : e.platform.magicAccessors = ({} : Platform).magicAccessors := by rw [X.admits.platform]
  obtain ⟨vm', hW', X', st⟩ := X.outThrough hlocks q (g := F0 m pc ls rest) rfl rfl rfl (cell := ce) (by rw [hT]; exact hcell) (by rw [hv]; rfl)
    (by obtain ⟨k9, h9, -⟩ := Vm.findClass_spec hcl; exact ⟨k9, h9⟩) (fun z hz => by
      rcases hpass z hz with h | ⟨hz0, nm, hl1, hn1⟩
      · exact Or.inl h
      · obtain ⟨c6, hc6, hcl6⟩ := Cond.classLink_spec hown hl1 e.platform hpl
        obtain ⟨a8, b8, h1, h2, h3⟩ := hn1
        cases Option.some.inj (h1.symm.trans hcl)
        cases Option.some.inj (h2.symm.trans hc6)
        exact Or.inr ⟨hz0, _, hcl6, h3⟩)
  obtain ⟨g₀, hfr⟩ := X'.frames_eq
  have hcell9 : ((T.setVm vm').setFrames (.throwing q :: below)).heap[q]? = some ce := by
    show T.heap[q]? = some ce
    rw [hT]; exact hcell
  have hend : Ended ((T.setVm vm').setFrames (.throwing q :: below)) below (.threw q) := State.frames_setFrames _ (State.cur_lt_of_frames hfr)
  refine ⟨(T.setVm vm').setFrames (.throwing q :: below), ?_, .threw q, X'.here.running, hend, Or.inr ⟨q, rfl, E, ce, locs, hx _ hT (X'.ends _).1.alike, hcell9, hv, hcl, (X'.ends _).1, (X'.ends _).2.mono hc hs, hf⟩⟩
  rw [X.pushThrowing_eq]
  exact st
/-- a thing of a world lies in the heap -/
theorem vx_lt {D : va_G} {cl : List vw_C} {ws : va_W} {H1 : Heap} (h : va_P D cl ws H1) {k : Nat} {q : Nat × va_E} (hk : ws[k]? = some q) : q.1 < H1.size := (h k q hk).lt
end VXS
/-! ===== END ===== -/
/-! ===== BEGIN methods with a table of their own: called by a name, returning or throwing ===== -/
section VXH
/-! vx_backW, vx_callVX, vx_callSX, vx_callVW, vx_runVW, vx_runVX, vx_runSX, vx_ofWH follow the same proofs as their sisters above (Free/Laws.lean, Shelf42/LK1.lean); vx_outP calls Shelf42/NT130.lean (outThrough). -/
section
variable {l : Launch} {R : Room} {p : Program} {e : Env} {below : List Frame} {s : State} {sargs : Array Value} {y : MethodName} {len W9 : Nat}
theorem vx_backW {ws : List Cond} {rm : Room} {Pc : Array Value → State → Prop} {Qc : Array Value → State → Outcome → State → Prop} {XC : String → State → State → Prop} {mc ms : Nat} {free : Addr → Prop} {bytes : ByteArray} {maxL : Nat} {ret : Option FieldType} {hh : List (Nat × Nat × Nat × Nat)}
    (hM : vx_Met l y ws rm Pc Qc XC mc ms free) (hblind : FrameBlind Pc) (hrc : rm.cells = mc) (hrs : rm.slots = ms)
    (hframes : rm.frames + 1 ≤ R.frames) (hlocals : W9 + (maxL + 11) + rm.locals ≤ R.locals)
    (hws : ∀ w ∈ ws, ∀ a' U, s.WarmedH U.vm → w.before a' U = true) (hcode : Cond.codeWith y bytes maxL ret hh ∈ ws) (hinit : ∀ a' U, s.WarmedH U.vm → (Cond.initialized y.cls).before a' U = true) :
    vx_Back l R p e below s sargs y len W9 (PreOf R mc ms Pc) (PostOf Qc mc ms free) (vx_Post XC mc ms free) := by
  intro m meth c A g ig mk a X hg hsize hdg hW hn hp
  have h1 : (headSpec ws rm).pre.before a A.U = true := atoms_intro fun w hw => hws w hw _ _ X.warmed
  have h2 : (Cond.codeWith y bytes maxL ret hh).before a A.U = true := hws _ hcode _ _ X.warmed
  have h3 : (Cond.initialized y.cls).before a A.U = true := hinit _ _ X.warmed
  have h4 : A.cells + (headSpec ws rm).room.cells ≤ R.cells := by rw [show (headSpec ws rm).room.cells = mc from hrc]; exact hp.1
  have h5 : A.slots + (headSpec ws rm).room.slots ≤ R.slots := by rw [show (headSpec ws rm).room.slots = ms from hrs]; exact hp.2.1
  have hPc : Pc a (A.U.calling g mk a) := hblind _ _ _ _ hp.2.2
  obtain ⟨U, Ls, c0, s0⟩ := A
  dsimp only [Pt.U, Pt.locs, Pt.cells, Pt.slots] at h1 h2 h3 h4 h5 X hn hPc ⊢
  obtain ⟨m9, methY, cY, hn9, hmY, hcY, -, hlY, -⟩ := Cond.codeWith_spec h2
  cases Option.some.inj (hn9.symm.trans hn)
  obtain ⟨kY, hkY, -⟩ := className_of_methodNamed hn
  have hinitY : kY.init = .initialized := Cond.initialized_spec (findClass_of_methodNamed hn) hkY h3
  have h : At U g.method c below := by rw [hg]; exact X.here
  have hlocals9 : W9 + (maxL + 11) + (headSpec ws rm).room.locals ≤ R.locals := hlocals
  have happ : (headSpec ws rm).appliesLoose y e.platform (U.calling g mk a) = true :=
    Spec.appliesLoose_calling (g := g) h hdg hn hkY hinitY
      (X.room_calling (g := g) (R' := (headSpec ws rm).room) hsize hmY hcY hframes (by rw [hlY]; omega) h4 h5) h1
  obtain ⟨mid, hmid⟩ := h.above
  have hfr : (U.setTop g).frames = (.java g :: mid) ++ below := by rw [State.frames_setTop' g h.top, hmid]; rfl
  obtain ⟨o, s₂, hsteps, -, hend, hq⟩ := Steps.callFree hM p X.admits X.cas X.clock (acts := []) hfr happ hPc trivial
  have hq' : vx_Q Qc XC mc ms free a (U.calling g mk a) o s₂ := hq
  rw [State.frames_setTop' g h.top] at hend
  obtain ⟨g₀, hg0⟩ := Option.isSome_iff_exists.mp h.top
  obtain ⟨r, hr⟩ := State.topJava?_eq_some.mp hg0
  have hr' : (({ U with heap := s₂.heap, slotsUsed := s₂.slotsUsed } : State).setVm s₂.vm).frames = .java g₀ :: r := hr
  rcases hq' with ⟨hqc, L, hfe, hL⟩ | ⟨q, rfl, E, ce, L, hx, hce, hcv, hcl, hW₂, hsm, hL⟩
  · obtain ⟨⟨v, rfl⟩, hW₂, e2, q2, q3, q4, q5, q6⟩ := id hfe
    have e3 : s₂ = ({ (U.calling g mk a).setFrames s₂.frames with heap := s₂.heap, slotsUsed := s₂.slotsUsed } : State).setVm s₂.vm := by
      have : s₂ = ({ s₂ with vm := (U.calling g mk a).vm } : State).setVm s₂.vm := rfl
      rw [e2] at this
      exact this
    obtain ⟨c₂, i₂, len₂, hc₂, hd₂, hf₂⟩ := hend
    have hW' : U.WarmedH s₂.vm := hW₂
    have hcc : c₂ = c := by
      have h1 : s₂.code? g.method = U.code? g.method := by
        rw [State.code?_eq, State.code?_eq, hW'.alike.method?]
      exact Option.some.inj (hc₂.symm.trans (h1.trans h.code))
    subst hcc
    have hlen : len₂ = len := by rw [hdg] at hd₂; cases hd₂; rfl
    subst hlen
    have hs₂ : s₂ = (({ U with heap := s₂.heap, slotsUsed := s₂.slotsUsed } : State).setVm s₂.vm).setTop { g with pc := g.pc + len₂, stack := v.toList ++ g.stack } := by
      refine e3.trans ?_
      rw [hf₂, State.calling_eq h.top, State.setFrames_setFrames, State.setTop_of_frames _ hr', hr]
      rfl
    have hsame : U.sameButNew ({ U with heap := s₂.heap, slotsUsed := s₂.slotsUsed } : State) L mc ms := by
      refine ⟨?_, q2, q3, q4, q5, q6⟩
      obtain ⟨t, ht, -⟩ := State.frames_cons hr
      show ({ U with heap := s₂.heap, slotsUsed := s₂.slotsUsed } : State) = { U.setFrames U.frames with heap := s₂.heap, slotsUsed := s₂.slotsUsed }
      rw [State.setFrames_self ht]
    subst hg
    refine Or.inl ⟨v, ⟨(({ U with heap := s₂.heap, slotsUsed := s₂.slotsUsed } : State).setVm s₂.vm), Ls ++ L, c0 + mc, s0 + ms⟩,
      ⟨X.admits, X.cas, X.clock, X.frames, X.room, X.hears, X.method, X.code, (X.here.setHeapUsed s₂.heap s₂.slotsUsed).setVm hW'.alike, X.tail, State.WarmedH.trans X.warmed hW', X.limits, X.bytes, X.same.trans (hsame.setVm s.vm)⟩,
      ⟨g, mk, s₂, L, rfl, rfl, hqc, rfl, hL, rfl, rfl⟩, ?_⟩
    show Steps p.tables e below _ ((({ U with heap := s₂.heap, slotsUsed := s₂.slotsUsed } : State).setVm s₂.vm).setTop { g with pc := g.pc + len₂, stack := v.toList ++ g.stack })
    rw [← hs₂]
    exact hsteps
  · obtain ⟨e2, q2, q3, q4, q5, q6⟩ := id hsm
    have e3 : s₂ = ({ (U.calling g mk a).setFrames s₂.frames with heap := s₂.heap, slotsUsed := s₂.slotsUsed } : State).setVm s₂.vm := by
      have : s₂ = ({ s₂ with vm := (U.calling g mk a).vm } : State).setVm s₂.vm := rfl
      rw [e2] at this
      exact this
    have hf₂ : s₂.frames = .throwing q :: .java g :: U.frames.tail := hend
    have hW' : U.WarmedH s₂.vm := hW₂
    have hs₂ : s₂ = ((({ U with heap := s₂.heap, slotsUsed := s₂.slotsUsed } : State).setVm s₂.vm).setTop g).pushFrame (.throwing q) := by
      refine e3.trans ?_
      rw [hf₂, State.calling_eq h.top, State.setFrames_setFrames, State.pushFrame, State.frames_setTop _ hr', State.setTop_of_frames _ hr', State.setFrames_setFrames, hr]
      rfl
    have hsame : U.sameButNew ({ U with heap := s₂.heap, slotsUsed := s₂.slotsUsed } : State) L mc ms := by
      refine ⟨?_, q2, q3, q4, q5, q6⟩
      obtain ⟨t, ht, -⟩ := State.frames_cons hr
      show ({ U with heap := s₂.heap, slotsUsed := s₂.slotsUsed } : State) = { U.setFrames U.frames with heap := s₂.heap, slotsUsed := s₂.slotsUsed }
      rw [State.setFrames_self ht]
    subst hg
    refine Or.inr ⟨q, ⟨(({ U with heap := s₂.heap, slotsUsed := s₂.slotsUsed } : State).setVm s₂.vm), Ls ++ L, c0 + mc, s0 + ms⟩,
      ⟨X.admits, X.cas, X.clock, X.frames, X.room, X.hears, X.method, X.code, (X.here.setHeapUsed s₂.heap s₂.slotsUsed).setVm hW'.alike, X.tail, State.WarmedH.trans X.warmed hW', X.limits, X.bytes, X.same.trans (hsame.setVm s.vm)⟩,
      ⟨g, mk, s₂, L, E, ce, rfl, rfl, hx, hce, hcv, hcl, rfl, hL, rfl, rfl⟩, ?_⟩
    show Steps p.tables e below _ (((({ U with heap := s₂.heap, slotsUsed := s₂.slotsUsed } : State).setVm s₂.vm).setTop g).pushFrame (.throwing q))
    rw [← hs₂]
    exact hsteps
end
variable {p : Program} {l : Launch} {e : Env} {R : Room} {s : State} {m : MethodId} {args : Array Value} {below : List Frame} {meth : Method} {c : Code} {T : State} {H : Heap} {locs : List Loc} {cells slots : Nat}
theorem vx_callVX (X : Stand p l e R s m args below meth c T locs cells slots) (hexec : p.tables.exec = Jvm.exec) {own C : String} {index : Nat} {y : MethodName} {bytes : ByteArray} {maxL : Nat} {ret : Option FieldType} {hh : List (Nat × Nat × Nat × Nat)}
    (hown : s.vm.findClass own = some m.cls) (hlink : (Cond.methodLink own index y).before args s = true) (hinst : (Cond.instanceMethod y).before args s = true) (hsel : (Cond.selects C y y).before args s = true)
    (hcode : (Cond.codeWith y bytes maxL ret hh).before args s = true) (hy : y.cls ≠ "java/lang/invoke/MethodHandle" ∧ y.cls ≠ "java/lang/invoke/VarHandle")
    {W9 : Nat} {Pre : Pt → Array Value → Prop} {Post : Pt → Array Value → Option Value → Pt → Prop} {PostX : Pt → Array Value → Addr → Pt → Prop} (hK : vx_Back l R p e below s args y 3 W9 Pre Post PostX)
    {b : Addr} {cellB : Cell} (hcell : T.heap[b]? = some cellB) (hobj : cellB.vm.isStatics = false) (hcls : s.vm.findClass C = some cellB.cls)
    {g : JFrame} (hg : g.method = m) (hsize : g.locals.size = c.maxLocals) {argsL rest : List Value} (hlen : ∀ sig, parseMethodDescriptor y.desc = some sig → argsL.length = sig.parameters.length)
    (hstack : g.stack = argsL.reverse ++ .ref b :: rest) (hW : 2 * g.monitorRoom + (rest.map fun v => v.category).sum ≤ W9) (hdg : decode c.code g.pc = .ok (.invokevirtual index, 3))
    (hpre : ∀ vm₁, s.WarmedH vm₁ → Pre ⟨T.setVm vm₁, locs, cells, slots⟩ (Value.ref b :: argsL).toArray) :
    (∃ (v : Option Value) (vm₁ : Vm) (B : Pt), s.WarmedH vm₁ ∧ Stand p l e R s m args below meth c B.U B.locs B.cells B.slots ∧ Post ⟨T.setVm vm₁, locs, cells, slots⟩ (Value.ref b :: argsL).toArray v B ∧
      ∀ target, Steps p.tables e below (B.U.setTop { g with pc := g.pc + 3, stack := v.toList ++ rest }) target → Steps p.tables e below (T.setTop g) target) ∨
    (∃ (q : Addr) (vm₁ : Vm) (B : Pt), s.WarmedH vm₁ ∧ Stand p l e R s m args below meth c B.U B.locs B.cells B.slots ∧ PostX ⟨T.setVm vm₁, locs, cells, slots⟩ (Value.ref b :: argsL).toArray q B ∧
      Steps p.tables e below (T.setTop g) ((B.U.setTop { g with stack := rest }).pushFrame (.throwing q))) := by
  obtain ⟨mk, methM, hnamed, hmethM, hstM, habM⟩ := Cond.instanceMethod_spec hinst
  obtain ⟨m8, methM', cM, hn8, hmethM', -, -, -, -, -, -, hsigM⟩ := Cond.codeWith_spec hcode
  cases Option.some.inj (hn8.symm.trans hnamed)
  cases hmethM.symm.trans hmethM'
  obtain ⟨c2, r2, m2, q1, q2, q3, q4, kP, hkP, hkPi⟩ := Cond.selects_spec hsel
  cases hcls.symm.trans q1
  cases (State.methodFound?_of_named hnamed hy).symm.trans q2
  cases hnamed.symm.trans q3
  have hselP : selectMethod e.platform s.vm cellB.cls mk = .method mk := by rw [Launch.admits_selectMethod X.admits]; exact q4
  obtain ⟨vm₁, X₁, hstep₁⟩ := X.invokevirtual hexec hown hlink hnamed hmethM hstM hkP hkPi hy (a := b) (cell := cellB) hcell
    (fun z h => by rw [h] at hobj; cases hobj) hselP hmethM habM hkP hkPi (g := g) hg (argsL := argsL) (rest := rest) (hlen _ hsigM) hstack hdg
  rcases hK m meth c ⟨T.setVm vm₁, locs, cells, slots⟩ { g with stack := rest } (.invokevirtual index) mk (Value.ref b :: argsL).toArray X₁ hg hsize hdg hW (X₁.named hnamed) (hpre vm₁ X₁.warmed) with ⟨v, B, X', hpost, hsteps⟩ | ⟨q, B, X', hpost, hsteps⟩
  · exact Or.inl ⟨v, vm₁, B, X₁.warmed, X', hpost, fun target h => hstep₁ _ fun acts => by rw [doInvoke_state]; exact hsteps.trans h⟩
  · exact Or.inr ⟨q, vm₁, B, X₁.warmed, X', hpost, hstep₁ _ fun acts => by rw [doInvoke_state]; exact hsteps⟩
theorem vx_callSX (X : Stand p l e R s m args below meth c T locs cells slots) (hexec : p.tables.exec = Jvm.exec) {own : String} {index : Nat} {y : MethodName} {bytes : ByteArray} {maxL : Nat} {ret : Option FieldType} {hh : List (Nat × Nat × Nat × Nat)}
    (hown : s.vm.findClass own = some m.cls) (hlink : (Cond.methodLink own index y).before args s = true) (hstat : (Cond.static y).before args s = true) (hinit : (Cond.initialized y.cls).before args s = true)
    (hcode : (Cond.codeWith y bytes maxL ret hh).before args s = true) (hy : y.cls ≠ "java/lang/invoke/MethodHandle" ∧ y.cls ≠ "java/lang/invoke/VarHandle")
    {W9 : Nat} {Pre : Pt → Array Value → Prop} {Post : Pt → Array Value → Option Value → Pt → Prop} {PostX : Pt → Array Value → Addr → Pt → Prop} (hK : vx_Back l R p e below s args y 3 W9 Pre Post PostX)
    {g : JFrame} (hg : g.method = m) (hsize : g.locals.size = c.maxLocals) {argsL rest : List Value} (hlen : ∀ sig, parseMethodDescriptor y.desc = some sig → argsL.length = sig.parameters.length)
    (hstack : g.stack = argsL.reverse ++ rest) (hW : 2 * g.monitorRoom + (rest.map fun v => v.category).sum ≤ W9) (hdg : decode c.code g.pc = .ok (.invokestatic index, 3))
    (hpre : ∀ vm₁, s.WarmedH vm₁ → Pre ⟨T.setVm vm₁, locs, cells, slots⟩ argsL.toArray) :
    (∃ (v : Option Value) (vm₁ : Vm) (B : Pt), s.WarmedH vm₁ ∧ Stand p l e R s m args below meth c B.U B.locs B.cells B.slots ∧ Post ⟨T.setVm vm₁, locs, cells, slots⟩ argsL.toArray v B ∧
      ∀ target, Steps p.tables e below (B.U.setTop { g with pc := g.pc + 3, stack := v.toList ++ rest }) target → Steps p.tables e below (T.setTop g) target) ∨
    (∃ (q : Addr) (vm₁ : Vm) (B : Pt), s.WarmedH vm₁ ∧ Stand p l e R s m args below meth c B.U B.locs B.cells B.slots ∧ PostX ⟨T.setVm vm₁, locs, cells, slots⟩ argsL.toArray q B ∧
      Steps p.tables e below (T.setTop g) ((B.U.setTop { g with stack := rest }).pushFrame (.throwing q))) := by
  obtain ⟨mk, methM, cM, hnamed, hmethM, -, -, -, -, -, -, hsigM⟩ := Cond.codeWith_spec hcode
  have hstatic : methM.isStatic = true := Cond.static_spec hnamed hmethM hstat
  obtain ⟨kP, hkP, -⟩ := className_of_methodNamed hnamed
  have hinitP : kP.init = .initialized := Cond.initialized_spec (findClass_of_methodNamed hnamed) hkP hinit
  obtain ⟨vm₁, X₁, hstep₁⟩ := X.invokestatic hexec hown hlink hnamed hmethM hstatic hkP hinitP hy (g := g) hg (argsL := argsL) (rest := rest) (hlen _ hsigM) hstack hdg
  rcases hK m meth c ⟨T.setVm vm₁, locs, cells, slots⟩ { g with stack := rest } (.invokestatic index) mk argsL.toArray X₁ hg hsize hdg hW (X₁.named hnamed) (hpre vm₁ X₁.warmed) with ⟨v, B, X', hpost, hsteps⟩ | ⟨q, B, X', hpost, hsteps⟩
  · exact Or.inl ⟨v, vm₁, B, X₁.warmed, X', hpost, fun target h => hstep₁ _ fun acts => by rw [doInvoke_state]; exact hsteps.trans h⟩
  · exact Or.inr ⟨q, vm₁, B, X₁.warmed, X', hpost, hstep₁ _ fun acts => by rw [doInvoke_state]; exact hsteps⟩
theorem vx_callVW (X : Stand p l e R s m args below meth c T locs cells slots) (hexec : p.tables.exec = Jvm.exec) {own C : String} {index : Nat} {y : MethodName} {bytes : ByteArray} {maxL : Nat} {ret : Option FieldType} {hh : List (Nat × Nat × Nat × Nat)}
    (hown : s.vm.findClass own = some m.cls) (hlink : (Cond.methodLink own index y).before args s = true) (hinst : (Cond.instanceMethod y).before args s = true) (hsel : (Cond.selects C y y).before args s = true)
    (hcode : (Cond.codeWith y bytes maxL ret hh).before args s = true) (hy : y.cls ≠ "java/lang/invoke/MethodHandle" ∧ y.cls ≠ "java/lang/invoke/VarHandle")
    {W9 : Nat} {Pre : Pt → Array Value → Prop} {Post : Pt → Array Value → Option Value → Pt → Prop} (hK : Back l R p e below s args y 3 W9 Pre Post)
    {b : Addr} {cellB : Cell} (hcell : T.heap[b]? = some cellB) (hobj : cellB.vm.isStatics = false) (hcls : s.vm.findClass C = some cellB.cls)
    {g : JFrame} (hg : g.method = m) (hsize : g.locals.size = c.maxLocals) {argsL rest : List Value} (hlen : ∀ sig, parseMethodDescriptor y.desc = some sig → argsL.length = sig.parameters.length)
    (hstack : g.stack = argsL.reverse ++ .ref b :: rest) (hW : 2 * g.monitorRoom + (rest.map fun v => v.category).sum ≤ W9) (hdg : decode c.code g.pc = .ok (.invokevirtual index, 3))
    (hpre : ∀ vm₁, s.WarmedH vm₁ → Pre ⟨T.setVm vm₁, locs, cells, slots⟩ (Value.ref b :: argsL).toArray) :
    ∃ (v : Option Value) (vm₁ : Vm) (B : Pt), s.WarmedH vm₁ ∧ Stand p l e R s m args below meth c B.U B.locs B.cells B.slots ∧ Post ⟨T.setVm vm₁, locs, cells, slots⟩ (Value.ref b :: argsL).toArray v B ∧
      ∀ target, Steps p.tables e below (B.U.setTop { g with pc := g.pc + 3, stack := v.toList ++ rest }) target → Steps p.tables e below (T.setTop g) target := by
  obtain ⟨mk, methM, hnamed, hmethM, hstM, habM⟩ := Cond.instanceMethod_spec hinst
  obtain ⟨m8, methM', cM, hn8, hmethM', -, -, -, -, -, -, hsigM⟩ := Cond.codeWith_spec hcode
  cases Option.some.inj (hn8.symm.trans hnamed)
  cases hmethM.symm.trans hmethM'
  obtain ⟨c2, r2, m2, q1, q2, q3, q4, kP, hkP, hkPi⟩ := Cond.selects_spec hsel
  cases hcls.symm.trans q1
  cases (State.methodFound?_of_named hnamed hy).symm.trans q2
  cases hnamed.symm.trans q3
  have hselP : selectMethod e.platform s.vm cellB.cls mk = .method mk := by rw [Launch.admits_selectMethod X.admits]; exact q4
  obtain ⟨vm₁, X₁, hstep₁⟩ := X.invokevirtual hexec hown hlink hnamed hmethM hstM hkP hkPi hy (a := b) (cell := cellB) hcell
    (fun z h => by rw [h] at hobj; cases hobj) hselP hmethM habM hkP hkPi (g := g) hg (argsL := argsL) (rest := rest) (hlen _ hsigM) hstack hdg
  obtain ⟨v, B, X', hpost, hsteps⟩ := hK m meth c ⟨T.setVm vm₁, locs, cells, slots⟩ { g with stack := rest } (.invokevirtual index) mk (Value.ref b :: argsL).toArray X₁ hg hsize hdg hW (X₁.named hnamed) (hpre vm₁ X₁.warmed)
  exact ⟨v, vm₁, B, X₁.warmed, X', hpost, fun target h => hstep₁ _ fun acts => by rw [doInvoke_state]; exact hsteps.trans h⟩
abbrev vx_CVW (R : Room) (s : State) (args : Array Value) (own C : String) (index : Nat) (y : MethodName) (bytes : ByteArray) (maxL : Nat) (ret : Option FieldType) (hh : List (Nat × Nat × Nat × Nat)) (ws : List Cond) (rm : Room) (mc ms n : Nat) : Prop :=
  (rm.cells = mc ∧ rm.slots = ms ∧ rm.frames + 1 ≤ R.frames ∧ 8 + (maxL + 11) + rm.locals ≤ R.locals ∧ (∀ w ∈ ws, ∀ (a' : Array Value) (U : State), s.WarmedH U.vm → w.before a' U = true) ∧ Cond.codeWith y bytes maxL ret hh ∈ ws) ∧
  (Cond.codeWith y bytes maxL ret hh).before args s = true ∧ (Cond.initialized y.cls).before args s = true ∧ (y.cls ≠ "java/lang/invoke/MethodHandle" ∧ y.cls ≠ "java/lang/invoke/VarHandle") ∧
  (∀ sig, parseMethodDescriptor y.desc = some sig → n = sig.parameters.length) ∧ (Cond.methodLink own index y).before args s = true ∧ (Cond.instanceMethod y).before args s = true ∧ (Cond.selects C y y).before args s = true
theorem vx_cwVW {own C : String} {index maxL mc ms : Nat} {y : MethodName} {bytes : ByteArray} {ret : Option FieldType} {hh : List (Nat × Nat × Nat × Nat)} {Ts ws ws' : List Cond} {rm : Room} (n : Nat) (ht : ∀ w ∈ Ts, w.before args s = true) (hT : GoodIn Ts (wsV own index C y ws)) (hw : ws = Cond.codeWith y bytes maxL ret hh :: ws') (hrc : rm.cells = mc) (hrs : rm.slots = ms)
    (hd : y.cls = C ∧ y.cls ≠ "java/lang/invoke/MethodHandle" ∧ y.cls ≠ "java/lang/invoke/VarHandle" ∧ (parseMethodDescriptor y.desc).map (fun d => d.parameters.length) = some n) (hR : rm.frames + 1 ≤ R.frames ∧ 8 + (maxL + 11) + rm.locals ≤ R.locals) :
    vx_CVW R s args own C index y bytes maxL ret hh ws rm mc ms n := by
  obtain ⟨hC, hd⟩ := hd
  subst hC
  have ok : ∀ w ∈ wsV own index y.cls y ws, w.before args s = true := fun w h => ht w (hT w h).1
  have hG : GoodIn Ts ws := fun w h => hT w (by unfold wsV; exact List.mem_append_right _ h)
  have hc : Cond.codeWith y bytes maxL ret hh ∈ ws := by rw [hw]; exact List.mem_cons_self
  refine ⟨⟨hrc, hrs, hR.1, hR.2, pay_in ht hG, hc⟩, ht _ (hG _ hc).1, ok _ (by simp [wsV]), ⟨hd.1, hd.2.1⟩, fun sig h => ?_, ok _ (by simp [wsV]), ok _ (by simp [wsV]), ok _ (by simp [wsV])⟩
  have h2 := hd.2.2
  rw [h] at h2
  exact (Option.some.inj h2).symm
theorem vx_runVW {y : MethodName} {bytes cc : ByteArray} {maxL nL mc ms n index : Nat} {ret : Option FieldType} {hh : List (Nat × Nat × Nat × Nat)} {ws : List Cond} {rm : Room} {Pc : Array Value → State → Prop} {Qc : Array Value → State → Outcome → State → Prop} {free : Addr → Prop} {Ts : List Cond} {own C : String} {b : Addr} {As rest : List Value} {g : JFrame}
    (S : CallFix p m c cc nL s args Ts own) (hM : Met l y ws rm Pc Qc mc ms free) (cw : vx_CVW R s args own C index y bytes maxL ret hh ws rm mc ms n) (hp : PreV s H C b Pc As)
    (hg : g.method = m) (hn : As.length = n) (hsize : g.locals.size = nL) (hstack : g.stack = As.reverse ++ .ref b :: rest) (hW : 2 * g.monitorRoom + (rest.map fun v => v.category).sum ≤ 8) (hdg : decode cc g.pc = .ok (.invokevirtual index, 3)) (hf : cells + mc ≤ R.cells ∧ slots + ms ≤ R.slots) :
    va_Run p l e R s m args below meth c H locs cells slots mc ms g rest (Qc (Value.ref b :: As).toArray) free := by
  obtain ⟨⟨hrc, hrs, hfr, hlo, hws, hcw⟩, hcode, hini, hy, hlen, hl, hin, hse⟩ := cw
  have hK : Back l R p e below s args y 3 8 (PreOf R mc ms Pc) (PostOf Qc mc ms free) := va_backW (hh := hh) (bytes := bytes) (maxL := maxL) (ret := ret) hM hp.1 hrc hrs hfr hlo hws hcw (fun a' U hW => word_at hW (Or.inl (by first | rfl | simp [Cond.onTables, Cond.keeps, Cond.steady])) hini)
  obtain ⟨hx, hb, hml, ho, -⟩ := S
  obtain ⟨-, ⟨cellB, hcB, hoB, hclB⟩, hPc⟩ := hp
  intro T hT X
  obtain ⟨v, vm₁, ⟨U', l2, c2, s2⟩, hW₁, X', ⟨g', mk, t, L, e1, e2, hq, h1, hL, h2, h3⟩, st⟩ := vx_callVW X hx (C := C) (hh := hh) (bytes := bytes) (maxL := maxL) (ret := ret) ho hl hin hse hcode hy hK (by rw [hT]; exact hcB) hoB hclB hg (hsize.trans hml.symm) (argsL := As) (rest := rest) (fun sig h => hn.trans (hlen sig h)) hstack hW (by rw [hb]; exact hdg)
    (fun vm₁ hW₁ => ⟨hf.1, hf.2, hPc (T.setVm vm₁) hT hW₁⟩)
  dsimp only [Pt.U, Pt.locs, Pt.cells, Pt.slots] at X' e1 e2 h1 h2 h3 st
  subst h1; subst h2; subst h3
  exact ⟨v, (T.setVm vm₁).calling g' mk (Value.ref b :: As).toArray, t, U', L, hT, X', hL, e1, e2, hq, st⟩
section
variable {y : MethodName} {bytes cc : ByteArray} {maxL nL mc ms n index : Nat} {ret : Option FieldType} {ws : List Cond} {rm : Room} {Pc : Array Value → State → Prop} {Qc : Array Value → State → Outcome → State → Prop} {XC : String → State → State → Prop} {free : Addr → Prop} {Ts : List Cond} {own C : String} {b : Addr} {As rest : List Value} {g : JFrame}
theorem vx_runVX {hh : List (Nat × Nat × Nat × Nat)} (S : CallFix p m c cc nL s args Ts own) (hM : vx_Met l y ws rm Pc Qc XC mc ms free) (cw : vx_CVW R s args own C index y bytes maxL ret hh ws rm mc ms n) (hp : PreV s H C b Pc As)
    (hg : g.method = m) (hn : As.length = n) (hsize : g.locals.size = nL) (hstack : g.stack = As.reverse ++ .ref b :: rest) (hW : 2 * g.monitorRoom + (rest.map fun v => v.category).sum ≤ 8) (hdg : decode cc g.pc = .ok (.invokevirtual index, 3)) (hf : cells + mc ≤ R.cells ∧ slots + ms ≤ R.slots) :
    vx_Run p l e R s m args below meth c H locs cells slots mc ms g rest (Qc (Value.ref b :: As).toArray) XC free := by
  obtain ⟨⟨hrc, hrs, hfr, hlo, hws, hcw⟩, hcode, hini, hy, hlen, hl, hin, hse⟩ := cw
  have hK : vx_Back l R p e below s args y 3 8 (PreOf R mc ms Pc) (PostOf Qc mc ms free) (vx_Post XC mc ms free) := vx_backW (hh := hh) (bytes := bytes) (maxL := maxL) (ret := ret) hM hp.1 hrc hrs hfr hlo hws hcw (fun a' U hW => word_at hW (Or.inl (by first | rfl | simp [Cond.onTables, Cond.keeps, Cond.steady])) hini)
  obtain ⟨hx, hb, hml, ho, -⟩ := S
  obtain ⟨-, ⟨cellB, hcB, hoB, hclB⟩, hPc⟩ := hp
  intro T hT X
  rcases vx_callVX X hx (C := C) (hh := hh) (bytes := bytes) (maxL := maxL) (ret := ret) ho hl hin hse hcode hy hK (by rw [hT]; exact hcB) hoB hclB hg (hsize.trans hml.symm) (argsL := As) (rest := rest) (fun sig h => hn.trans (hlen sig h)) hstack hW (by rw [hb]; exact hdg)
    (fun vm₁ hW₁ => ⟨hf.1, hf.2, hPc (T.setVm vm₁) hT hW₁⟩) with ⟨v, vm₁, ⟨U', l2, c2, s2⟩, hW₁, X', ⟨g', mk, t, L, e1, e2, hq, h1, hL, h2, h3⟩, st⟩ | ⟨q, vm₁, ⟨U', l2, c2, s2⟩, hW₁, X', ⟨g', mk, t, L, E, ce, e1, e2, hq, hce, hcv, hcl, h1, hL, h2, h3⟩, st⟩
  · dsimp only [Pt.U, Pt.locs, Pt.cells, Pt.slots] at X' e1 e2 h1 h2 h3 st
    subst h1; subst h2; subst h3
    exact Or.inl ⟨v, (T.setVm vm₁).calling g' mk (Value.ref b :: As).toArray, t, U', L, hT, X', hL, e1, e2, hq, st⟩
  · dsimp only [Pt.U, Pt.locs, Pt.cells, Pt.slots] at X' e1 e2 h1 h2 h3 st hcl
    subst h1; subst h2; subst h3
    exact Or.inr ⟨q, (T.setVm vm₁).calling g' mk (Value.ref b :: As).toArray, t, U', L, E, ce, hT, X', hL, e1, e2, hq, hce, hcv, vx_cls hW₁ hcl, st⟩
theorem vx_runSX {hh : List (Nat × Nat × Nat × Nat)} (S : CallFix p m c cc nL s args Ts own) (hM : vx_Met l y ws rm Pc Qc XC mc ms free) (cw : vx_CSW R s args own index y bytes maxL ret hh ws rm mc ms n) (hp : PreS s H Pc As)
    (hg : g.method = m) (hn : As.length = n) (hsize : g.locals.size = nL) (hstack : g.stack = As.reverse ++ rest) (hW : 2 * g.monitorRoom + (rest.map fun v => v.category).sum ≤ 8) (hdg : decode cc g.pc = .ok (.invokestatic index, 3)) (hf : cells + mc ≤ R.cells ∧ slots + ms ≤ R.slots) :
    vx_Run p l e R s m args below meth c H locs cells slots mc ms g rest (Qc As.toArray) XC free := by
  obtain ⟨⟨hrc, hrs, hfr, hlo, hws, hcw⟩, hcode, hini, hy, hlen, hl, hstt⟩ := cw
  have hK : vx_Back l R p e below s args y 3 8 (PreOf R mc ms Pc) (PostOf Qc mc ms free) (vx_Post XC mc ms free) := vx_backW (hh := hh) (bytes := bytes) (maxL := maxL) (ret := ret) hM hp.1 hrc hrs hfr hlo hws hcw (fun a' U hW => word_at hW (Or.inl (by first | rfl | simp [Cond.onTables, Cond.keeps, Cond.steady])) hini)
  obtain ⟨hx, hb, hml, ho, -⟩ := S
  intro T hT X
  rcases vx_callSX X hx (hh := hh) (bytes := bytes) (maxL := maxL) (ret := ret) ho hl hstt hini hcode hy hK hg (hsize.trans hml.symm) (argsL := As) (rest := rest) (fun sig h => hn.trans (hlen sig h)) hstack hW (by rw [hb]; exact hdg)
    (fun vm₁ hW₁ => ⟨hf.1, hf.2, hp.2 (T.setVm vm₁) hT hW₁⟩) with ⟨v, vm₁, ⟨U', l2, c2, s2⟩, hW₁, X', ⟨g', mk, t, L, e1, e2, hq, h1, hL, h2, h3⟩, st⟩ | ⟨q, vm₁, ⟨U', l2, c2, s2⟩, hW₁, X', ⟨g', mk, t, L, E, ce, e1, e2, hq, hce, hcv, hcl, h1, hL, h2, h3⟩, st⟩
  · dsimp only [Pt.U, Pt.locs, Pt.cells, Pt.slots] at X' e1 e2 h1 h2 h3 st
    subst h1; subst h2; subst h3
    exact Or.inl ⟨v, (T.setVm vm₁).calling g' mk As.toArray, t, U', L, hT, X', hL, e1, e2, hq, st⟩
  · dsimp only [Pt.U, Pt.locs, Pt.cells, Pt.slots] at X' e1 e2 h1 h2 h3 st hcl
    subst h1; subst h2; subst h3
    exact Or.inr ⟨q, (T.setVm vm₁).calling g' mk As.toArray, t, U', L, E, ce, hT, X', hL, e1, e2, hq, hce, hcv, vx_cls hW₁ hcl, st⟩
end
end VXH
theorem vx_ofWH {l : Launch} {y : MethodName} {ws ws' : List Cond} {rm : Room} {Pc : Array Value → State → Prop} {Qc : Array Value → State → Outcome → State → Prop} {XC : String → State → State → Prop} {mc ms : Nat} {free : Addr → Prop} {cc : ByteArray} {maxL : Nat} {ret : Option FieldType} {hh : List (Nat × Nat × Nat × Nat)}
    (hy : plainName y.cls = true) (hw : ws = Cond.codeWith y cc maxL ret hh :: ws')
    (body : ∀ p e s m args below meth c s₁, BodyLoose p l y (headSpec ws rm) cc maxL ret e s m args below meth c s₁ → c.maxLocals = maxL → Pc args s →
      W p l e (headSpec ws rm).room s m args below meth c s.heap [] 0 0 (vx_MQ below Qc XC args s mc ms free) (entryFrame m args maxL)) : vx_Met l y ws rm Pc Qc XC mc ms free := by
  refine MetFree.of_bodyS (code := cc) (maxLocals := maxL) (ret := ret) hy ?_ ?_
  · intro args s m h hn
    obtain ⟨m9, meth, c, hn9, h1, h2, h3, h4, -, h5, h6, -⟩ := Cond.codeWith_spec (atoms_spec (ws := ws) h _ (by rw [hw]; exact List.mem_cons_self))
    cases hn.symm.trans hn9
    exact ⟨meth, c, h1, h2, h3, h4, h5, h6⟩
  · intro p e s m args below meth c s₁ B hml hP _
    have hh0 : s₁.heap = s.heap := by rw [B.state]; rfl
    obtain ⟨t, a1, o, b1, b2, b3⟩ := body p e s m args below meth c s₁ B hml hP s₁ hh0 (Stand.of_body B)
    exact ⟨t, o, a1, b1, b2, b3⟩
/-! ===== END ===== -/

/-! ===== BEGIN printed: names, fields, word lists, decode rows ===== -/
end
section
def RX0 : String := "HarmoniumDesk$Copy"
def TX0 : u_T := fun k => match k with
  | 0 => ("HarmoniumDesk$Copy", "voice", "I", true)
  | 1 => ("HarmoniumDesk$Copy", "bars", "I", true)
  | 2 => ("HarmoniumDesk$Copy", "tones", "[I", true)
  | _ => ("HarmoniumDesk$Copy", "slipCount", "I", false)
def tyX0 : Nat → FieldType := fun k => match k with
  | 0 => .int
  | 1 => .int
  | 2 => .array .int
  | _ => .int
abbrev wsX00 : List Cond := u_ws RX0 TX0 4
theorem nmX0 : ∀ a, a < 4 → ∀ b, b < 4 → a ≠ b → (TX0 a).2.1 ≠ (TX0 b).2.1 := by decide +kernel
theorem tyX0_ok : ∀ k, k < 4 → parseFieldDescriptor (TX0 k).2.2.1 = some (tyX0 k) := by decide +kernel
abbrev cX0_init : ByteArray := prog_2_method_1_code
def yX0_init : MethodName := ⟨RX0, "<init>", "(ILHarmoniumDesk$Score;)V"⟩
abbrev cX0_takeVoice : ByteArray := prog_2_method_2_code
def yX0_takeVoice : MethodName := ⟨RX0, "takeVoice", "(LHarmoniumDesk$Score;)V"⟩
abbrev cX0_differingBars : ByteArray := prog_2_method_3_code
def yX0_differingBars : MethodName := ⟨RX0, "differingBars", "(LHarmoniumDesk$Score;)I"⟩
def RX1 : String := "HarmoniumDesk$Score"
def TX1 : u_T := fun k => match k with
  | 0 => ("HarmoniumDesk$Score", "bars", "I", false)
  | 1 => ("HarmoniumDesk$Score", "upper", "[I", true)
  | _ => ("HarmoniumDesk$Score", "lower", "[I", true)
def tyX1 : Nat → FieldType := fun k => match k with
  | 0 => .int
  | 1 => .array .int
  | _ => .array .int
abbrev wsX10 : List Cond := u_ws RX1 TX1 3
theorem nmX1 : ∀ a, a < 3 → ∀ b, b < 3 → a ≠ b → (TX1 a).2.1 ≠ (TX1 b).2.1 := by decide +kernel
theorem tyX1_ok : ∀ k, k < 3 → parseFieldDescriptor (TX1 k).2.2.1 = some (tyX1 k) := by decide +kernel
abbrev cX1_init : ByteArray := prog_3_method_1_code
def yX1_init : MethodName := ⟨RX1, "<init>", "()V"⟩
abbrev cX1_tone : ByteArray := prog_3_method_2_code
def yX1_tone : MethodName := ⟨RX1, "tone", "(II)I"⟩
abbrev cX1_setTone : ByteArray := prog_3_method_3_code
def yX1_setTone : MethodName := ⟨RX1, "setTone", "(III)V"⟩
abbrev cX1_fill : ByteArray := prog_3_method_4_code
def yX1_fill : MethodName := ⟨RX1, "fill", "(II)V"⟩
abbrev cX1_takeAll : ByteArray := prog_3_method_5_code
def yX1_takeAll : MethodName := ⟨RX1, "takeAll", "(LHarmoniumDesk$Score;)V"⟩
abbrev cX1_takeBar : ByteArray := prog_3_method_6_code
def yX1_takeBar : MethodName := ⟨RX1, "takeBar", "(LHarmoniumDesk$Score;I)V"⟩
abbrev cX1_sameBar : ByteArray := prog_3_method_7_code
def yX1_sameBar : MethodName := ⟨RX1, "sameBar", "(LHarmoniumDesk$Score;I)Z"⟩
abbrev cX1_wayOf : ByteArray := prog_3_method_8_code
def yX1_wayOf : MethodName := ⟨RX1, "wayOf", "(I)I"⟩
abbrev cX1_faultsOf : ByteArray := prog_3_method_9_code
def yX1_faultsOf : MethodName := ⟨RX1, "faultsOf", "(II)I"⟩
abbrev cX1_interval : ByteArray := prog_3_method_10_code
def yX1_interval : MethodName := ⟨RX1, "interval", "(I)I"⟩
abbrev cX1_isPerfect : ByteArray := prog_3_method_11_code
def yX1_isPerfect : MethodName := ⟨RX1, "isPerfect", "(I)Z"⟩
abbrev cX1_stepTo : ByteArray := prog_3_method_12_code
def yX1_stepTo : MethodName := ⟨RX1, "stepTo", "(II)I"⟩
abbrev cX1_isDiscord : ByteArray := prog_3_method_13_code
def yX1_isDiscord : MethodName := ⟨RX1, "isDiscord", "(I)Z"⟩
abbrev cX1_isParallel : ByteArray := prog_3_method_14_code
def yX1_isParallel : MethodName := ⟨RX1, "isParallel", "(I)Z"⟩
abbrev cX1_leapsTo : ByteArray := prog_3_method_15_code
def yX1_leapsTo : MethodName := ⟨RX1, "leapsTo", "(I)I"⟩
abbrev cX1_badEndsAt : ByteArray := prog_3_method_16_code
def yX1_badEndsAt : MethodName := ⟨RX1, "badEndsAt", "(I)I"⟩
abbrev cX1_isStanding : ByteArray := prog_3_method_17_code
def yX1_isStanding : MethodName := ⟨RX1, "isStanding", "(I)Z"⟩
def RX2 : String := "HarmoniumDesk$Version"
def TX2 : u_T := fun k => match k with
  | 0 => ("HarmoniumDesk$Version", "number", "I", true)
  | 1 => ("HarmoniumDesk$Version", "parent", "LHarmoniumDesk$Version;", true)
  | 2 => ("HarmoniumDesk$Version", "score", "LHarmoniumDesk$Score;", true)
  | 3 => ("HarmoniumDesk$Version", "fixed", "Z", false)
  | _ => ("HarmoniumDesk$Version", "passedWhenHandedIn", "Z", false)
def tyX2 : Nat → FieldType := fun k => match k with
  | 0 => .int
  | 1 => .object "HarmoniumDesk$Version"
  | 2 => .object "HarmoniumDesk$Score"
  | 3 => .boolean
  | _ => .boolean
abbrev wsX20 : List Cond := u_ws RX2 TX2 5
theorem nmX2 : ∀ a, a < 5 → ∀ b, b < 5 → a ≠ b → (TX2 a).2.1 ≠ (TX2 b).2.1 := by decide +kernel
theorem tyX2_ok : ∀ k, k < 5 → parseFieldDescriptor (TX2 k).2.2.1 = some (tyX2 k) := by decide +kernel
abbrev cX2_init : ByteArray := prog_4_method_1_code
def yX2_init : MethodName := ⟨RX2, "<init>", "(ILHarmoniumDesk$Version;)V"⟩
def RX3 : String := "HarmoniumDesk"
def TX3 : u_T := fun k => match k with
  | 0 => ("HarmoniumDesk", "versions", "[LHarmoniumDesk$Version;", true)
  | 1 => ("HarmoniumDesk", "versionCount", "I", false)
  | 2 => ("HarmoniumDesk", "copies", "[LHarmoniumDesk$Copy;", true)
  | 3 => ("HarmoniumDesk", "copyCount", "I", false)
  | 4 => ("HarmoniumDesk", "weights", "[I", true)
  | 5 => ("HarmoniumDesk", "passMark", "I", false)
  | _ => ("HarmoniumDesk", "trial", "LHarmoniumDesk$Score;", true)
def tyX3 : Nat → FieldType := fun k => match k with
  | 0 => .array (.object "HarmoniumDesk$Version")
  | 1 => .int
  | 2 => .array (.object "HarmoniumDesk$Copy")
  | 3 => .int
  | 4 => .array .int
  | 5 => .int
  | _ => .object "HarmoniumDesk$Score"
abbrev wsX30 : List Cond := u_ws RX3 TX3 7
theorem nmX3 : ∀ a, a < 7 → ∀ b, b < 7 → a ≠ b → (TX3 a).2.1 ≠ (TX3 b).2.1 := by decide +kernel
theorem tyX3_ok : ∀ k, k < 7 → parseFieldDescriptor (TX3 k).2.2.1 = some (tyX3 k) := by decide +kernel
abbrev cX3_init : ByteArray := prog_1_method_1_code
def yX3_init : MethodName := ⟨RX3, "<init>", "()V"⟩
abbrev cX3_begin : ByteArray := prog_1_method_2_code
def yX3_begin : MethodName := ⟨RX3, "begin", "(I)I"⟩
abbrev cX3_branch : ByteArray := prog_1_method_3_code
def yX3_branch : MethodName := ⟨RX3, "branch", "(I)I"⟩
abbrev cX3_setNote : ByteArray := prog_1_method_4_code
def yX3_setNote : MethodName := ⟨RX3, "setNote", "(IIII)I"⟩
abbrev cX3_note : ByteArray := prog_1_method_5_code
def yX3_note : MethodName := ⟨RX3, "note", "(III)I"⟩
abbrev cX3_base : ByteArray := prog_1_method_6_code
def yX3_base : MethodName := ⟨RX3, "base", "(II)I"⟩
abbrev cX3_conflicts : ByteArray := prog_1_method_7_code
def yX3_conflicts : MethodName := ⟨RX3, "conflicts", "(II)I"⟩
abbrev cX3_merge : ByteArray := prog_1_method_8_code
def yX3_merge : MethodName := ⟨RX3, "merge", "(II)I"⟩
abbrev cX3_setWeight : ByteArray := prog_1_method_9_code
def yX3_setWeight : MethodName := ⟨RX3, "setWeight", "(II)I"⟩
abbrev cX3_setPass : ByteArray := prog_1_method_10_code
def yX3_setPass : MethodName := ⟨RX3, "setPass", "(I)I"⟩
abbrev cX3_faults : ByteArray := prog_1_method_11_code
def yX3_faults : MethodName := ⟨RX3, "faults", "(III)I"⟩
abbrev cX3_mark : ByteArray := prog_1_method_12_code
def yX3_mark : MethodName := ⟨RX3, "mark", "(I)I"⟩
abbrev cX3_handIn : ByteArray := prog_1_method_13_code
def yX3_handIn : MethodName := ⟨RX3, "handIn", "(I)Z"⟩
abbrev cX3_fallen : ByteArray := prog_1_method_14_code
def yX3_fallen : MethodName := ⟨RX3, "fallen", "()I"⟩
abbrev cX3_best : ByteArray := prog_1_method_15_code
def yX3_best : MethodName := ⟨RX3, "best", "(III)I"⟩
abbrev cX3_movement : ByteArray := prog_1_method_16_code
def yX3_movement : MethodName := ⟨RX3, "movement", "(II)F"⟩
abbrev cX3_print : ByteArray := prog_1_method_17_code
def yX3_print : MethodName := ⟨RX3, "print", "(II)I"⟩
abbrev cX3_errata : ByteArray := prog_1_method_18_code
def yX3_errata : MethodName := ⟨RX3, "errata", "(II)I"⟩
abbrev cX3_slip : ByteArray := prog_1_method_19_code
def yX3_slip : MethodName := ⟨RX3, "slip", "(II)I"⟩
abbrev cX3_slips : ByteArray := prog_1_method_20_code
def yX3_slips : MethodName := ⟨RX3, "slips", "(I)I"⟩
abbrev cX3_findVersion : ByteArray := prog_1_method_21_code
def yX3_findVersion : MethodName := ⟨RX3, "findVersion", "(I)LHarmoniumDesk$Version;"⟩
abbrev cX3_findCopy : ByteArray := prog_1_method_22_code
def yX3_findCopy : MethodName := ⟨RX3, "findCopy", "(I)LHarmoniumDesk$Copy;"⟩
abbrev cX3_checkVoice : ByteArray := prog_1_method_23_code
def yX3_checkVoice : MethodName := ⟨RX3, "checkVoice", "(I)V"⟩
abbrev cX3_checkBar : ByteArray := prog_1_method_24_code
def yX3_checkBar : MethodName := ⟨RX3, "checkBar", "(LHarmoniumDesk$Version;I)V"⟩
abbrev cX3_checkAsManyBars : ByteArray := prog_1_method_25_code
def yX3_checkAsManyBars : MethodName := ⟨RX3, "checkAsManyBars", "(LHarmoniumDesk$Copy;LHarmoniumDesk$Version;)V"⟩
abbrev cX3_addVersion : ByteArray := prog_1_method_26_code
def yX3_addVersion : MethodName := ⟨RX3, "addVersion", "(LHarmoniumDesk$Version;)LHarmoniumDesk$Version;"⟩
abbrev cX3_addCopy : ByteArray := prog_1_method_27_code
def yX3_addCopy : MethodName := ⟨RX3, "addCopy", "(ILHarmoniumDesk$Score;)I"⟩
abbrev cX3_commonAncestor : ByteArray := prog_1_method_28_code
def yX3_commonAncestor : MethodName := ⟨RX3, "commonAncestor", "(LHarmoniumDesk$Version;LHarmoniumDesk$Version;)LHarmoniumDesk$Version;"⟩
abbrev cX3_isAncestor : ByteArray := prog_1_method_29_code
def yX3_isAncestor : MethodName := ⟨RX3, "isAncestor", "(LHarmoniumDesk$Version;LHarmoniumDesk$Version;)Z"⟩
abbrev cX3_conflictingBars : ByteArray := prog_1_method_30_code
def yX3_conflictingBars : MethodName := ⟨RX3, "conflictingBars", "(LHarmoniumDesk$Score;LHarmoniumDesk$Score;LHarmoniumDesk$Score;)I"⟩
abbrev cX3_mergeInto : ByteArray := prog_1_method_31_code
def yX3_mergeInto : MethodName := ⟨RX3, "mergeInto", "(LHarmoniumDesk$Score;LHarmoniumDesk$Score;LHarmoniumDesk$Score;LHarmoniumDesk$Score;)V"⟩
abbrev cX3_markOf : ByteArray := prog_1_method_32_code
def yX3_markOf : MethodName := ⟨RX3, "markOf", "(LHarmoniumDesk$Score;)I"⟩
abbrev cX3_weightedFaults : ByteArray := prog_1_method_33_code
def yX3_weightedFaults : MethodName := ⟨RX3, "weightedFaults", "(LHarmoniumDesk$Score;II)I"⟩
abbrev cX3_bestTone : ByteArray := prog_1_method_34_code
def yX3_bestTone : MethodName := ⟨RX3, "bestTone", "(II)I"⟩
def RX4 : String := "HarmoniumDeskModel"
def TX4 : u_T := fun k => match k with
  | 0 => ("HarmoniumDeskModel", "versions", "I", false)
  | 1 => ("HarmoniumDeskModel", "bars", "[I", true)
  | 2 => ("HarmoniumDeskModel", "parent", "[I", true)
  | 3 => ("HarmoniumDeskModel", "isFixed", "[Z", true)
  | 4 => ("HarmoniumDeskModel", "hasPassed", "[Z", true)
  | 5 => ("HarmoniumDeskModel", "notes", "[I", true)
  | 6 => ("HarmoniumDeskModel", "weight", "[I", true)
  | 7 => ("HarmoniumDeskModel", "pass", "I", false)
  | 8 => ("HarmoniumDeskModel", "copies", "I", false)
  | 9 => ("HarmoniumDeskModel", "longs", "[I", true)
  | 10 => ("HarmoniumDeskModel", "voiceOf", "[I", true)
  | 11 => ("HarmoniumDeskModel", "printed", "[I", true)
  | 12 => ("HarmoniumDeskModel", "slips", "[I", true)
  | _ => ("HarmoniumDeskModel", "thrown", "I", false)
def tyX4 : Nat → FieldType := fun k => match k with
  | 0 => .int
  | 1 => .array .int
  | 2 => .array .int
  | 3 => .array .boolean
  | 4 => .array .boolean
  | 5 => .array .int
  | 6 => .array .int
  | 7 => .int
  | 8 => .int
  | 9 => .array .int
  | 10 => .array .int
  | 11 => .array .int
  | 12 => .array .int
  | _ => .int
abbrev wsX40 : List Cond := u_ws RX4 TX4 14
theorem nmX4 : ∀ a, a < 14 → ∀ b, b < 14 → a ≠ b → (TX4 a).2.1 ≠ (TX4 b).2.1 := by decide +kernel
theorem tyX4_ok : ∀ k, k < 14 → parseFieldDescriptor (TX4 k).2.2.1 = some (tyX4 k) := by decide +kernel
abbrev cX4_init : ByteArray := prog_6_method_1_code
def yX4_init : MethodName := ⟨RX4, "<init>", "()V"⟩
abbrev cX4_thrown : ByteArray := prog_6_method_2_code
def yX4_thrown : MethodName := ⟨RX4, "thrown", "()I"⟩
abbrev cX4_fails : ByteArray := prog_6_method_3_code
def yX4_fails : MethodName := ⟨RX4, "fails", "(I)Z"⟩
abbrev cX4_isIn : ByteArray := prog_6_method_4_code
def yX4_isIn : MethodName := ⟨RX4, "isIn", "(III)Z"⟩
abbrev cX4_isVersion : ByteArray := prog_6_method_5_code
def yX4_isVersion : MethodName := ⟨RX4, "isVersion", "(I)Z"⟩
abbrev cX4_isNote : ByteArray := prog_6_method_6_code
def yX4_isNote : MethodName := ⟨RX4, "isNote", "(III)Z"⟩
abbrev cX4_at : ByteArray := prog_6_method_7_code
def yX4_at : MethodName := ⟨RX4, "at", "(III)I"⟩
abbrev cX4_begin : ByteArray := prog_6_method_8_code
def yX4_begin : MethodName := ⟨RX4, "begin", "(I)I"⟩
abbrev cX4_makes : ByteArray := prog_6_method_9_code
def yX4_makes : MethodName := ⟨RX4, "makes", "(I)I"⟩
abbrev cX4_branch : ByteArray := prog_6_method_10_code
def yX4_branch : MethodName := ⟨RX4, "branch", "(I)I"⟩
abbrev cX4_setNote : ByteArray := prog_6_method_11_code
def yX4_setNote : MethodName := ⟨RX4, "setNote", "(IIII)I"⟩
abbrev cX4_note : ByteArray := prog_6_method_12_code
def yX4_note : MethodName := ⟨RX4, "note", "(III)I"⟩
abbrev cX4_isAncestor : ByteArray := prog_6_method_13_code
def yX4_isAncestor : MethodName := ⟨RX4, "isAncestor", "(II)Z"⟩
abbrev cX4_baseOf : ByteArray := prog_6_method_14_code
def yX4_baseOf : MethodName := ⟨RX4, "baseOf", "(II)I"⟩
abbrev cX4_base : ByteArray := prog_6_method_15_code
def yX4_base : MethodName := ⟨RX4, "base", "(II)I"⟩
abbrev cX4_areAlike : ByteArray := prog_6_method_16_code
def yX4_areAlike : MethodName := ⟨RX4, "areAlike", "(III)Z"⟩
abbrev cX4_conflicts : ByteArray := prog_6_method_17_code
def yX4_conflicts : MethodName := ⟨RX4, "conflicts", "(II)I"⟩
abbrev cX4_merge : ByteArray := prog_6_method_18_code
def yX4_merge : MethodName := ⟨RX4, "merge", "(II)I"⟩
abbrev cX4_setWeight : ByteArray := prog_6_method_19_code
def yX4_setWeight : MethodName := ⟨RX4, "setWeight", "(II)I"⟩
abbrev cX4_setPass : ByteArray := prog_6_method_20_code
def yX4_setPass : MethodName := ⟨RX4, "setPass", "(I)I"⟩
abbrev cX4_away : ByteArray := prog_6_method_21_code
def yX4_away : MethodName := ⟨RX4, "away", "(II)I"⟩
abbrev cX4_interval : ByteArray := prog_6_method_22_code
def yX4_interval : MethodName := ⟨RX4, "interval", "(II)I"⟩
abbrev cX4_stays : ByteArray := prog_6_method_23_code
def yX4_stays : MethodName := ⟨RX4, "stays", "(III)Z"⟩
abbrev cX4_leap : ByteArray := prog_6_method_24_code
def yX4_leap : MethodName := ⟨RX4, "leap", "(III)I"⟩
abbrev cX4_faultsAt : ByteArray := prog_6_method_25_code
def yX4_faultsAt : MethodName := ⟨RX4, "faultsAt", "(III)I"⟩
abbrev cX4_faults : ByteArray := prog_6_method_26_code
def yX4_faults : MethodName := ⟨RX4, "faults", "(III)I"⟩
abbrev cX4_costs : ByteArray := prog_6_method_27_code
def yX4_costs : MethodName := ⟨RX4, "costs", "(I)I"⟩
abbrev cX4_markOf : ByteArray := prog_6_method_28_code
def yX4_markOf : MethodName := ⟨RX4, "markOf", "(I)I"⟩
abbrev cX4_mark : ByteArray := prog_6_method_29_code
def yX4_mark : MethodName := ⟨RX4, "mark", "(I)I"⟩
abbrev cX4_handIn : ByteArray := prog_6_method_30_code
def yX4_handIn : MethodName := ⟨RX4, "handIn", "(I)Z"⟩
abbrev cX4_fallen : ByteArray := prog_6_method_31_code
def yX4_fallen : MethodName := ⟨RX4, "fallen", "()I"⟩
abbrev cX4_best : ByteArray := prog_6_method_32_code
def yX4_best : MethodName := ⟨RX4, "best", "(III)I"⟩
abbrev cX4_movement : ByteArray := prog_6_method_33_code
def yX4_movement : MethodName := ⟨RX4, "movement", "(II)F"⟩
abbrev cX4_isCopy : ByteArray := prog_6_method_34_code
def yX4_isCopy : MethodName := ⟨RX4, "isCopy", "(I)Z"⟩
abbrev cX4_print : ByteArray := prog_6_method_35_code
def yX4_print : MethodName := ⟨RX4, "print", "(II)I"⟩
abbrev cX4_differs : ByteArray := prog_6_method_36_code
def yX4_differs : MethodName := ⟨RX4, "differs", "(II)I"⟩
abbrev cX4_misses : ByteArray := prog_6_method_37_code
def yX4_misses : MethodName := ⟨RX4, "misses", "(II)I"⟩
abbrev cX4_errata : ByteArray := prog_6_method_38_code
def yX4_errata : MethodName := ⟨RX4, "errata", "(II)I"⟩
abbrev cX4_slip : ByteArray := prog_6_method_39_code
def yX4_slip : MethodName := ⟨RX4, "slip", "(II)I"⟩
abbrev cX4_slips : ByteArray := prog_6_method_40_code
def yX4_slips : MethodName := ⟨RX4, "slips", "(I)I"⟩
def RJ6 : String := "java/lang/Integer"
def TJ6 : u_T := fun k => match k with
  | _ => ("", "", "", false)
def tyJ6 : Nat → FieldType := fun k => match k with
  | _ => .int
abbrev wsJ60 : List Cond := u_ws RJ6 TJ6 0
theorem nmJ6 : ∀ a, a < 0 → ∀ b, b < 0 → a ≠ b → (TJ6 a).2.1 ≠ (TJ6 b).2.1 := by decide +kernel
theorem tyJ6_ok : ∀ k, k < 0 → parseFieldDescriptor (TJ6 k).2.2.1 = some (tyJ6 k) := by decide +kernel
abbrev cJ6_bitCount_0f7a4 : ByteArray := prog_11_method_49_code
def yJ6_bitCount_0f7a4 : MethodName := ⟨RJ6, "bitCount", "(I)I"⟩
def RJ9 : String := "java/lang/Math"
def TJ9 : u_T := fun k => match k with
  | _ => ("", "", "", false)
def tyJ9 : Nat → FieldType := fun k => match k with
  | _ => .int
abbrev wsJ90 : List Cond := u_ws RJ9 TJ9 0
theorem nmJ9 : ∀ a, a < 0 → ∀ b, b < 0 → a ≠ b → (TJ9 a).2.1 ≠ (TJ9 b).2.1 := by decide +kernel
theorem tyJ9_ok : ∀ k, k < 0 → parseFieldDescriptor (TJ9 k).2.2.1 = some (tyJ9 k) := by decide +kernel
abbrev cJ9_abs_0f7a4 : ByteArray := prog_12_method_59_code
def yJ9_abs_0f7a4 : MethodName := ⟨RJ9, "abs", "(I)I"⟩
abbrev cJ9_max_7cf53 : ByteArray := prog_12_method_65_code
def yJ9_max_7cf53 : MethodName := ⟨RJ9, "max", "(II)I"⟩
abbrev cJ9_min_7cf53 : ByteArray := prog_12_method_69_code
def yJ9_min_7cf53 : MethodName := ⟨RJ9, "min", "(II)I"⟩
def RJ0 : String := "java/lang/String"
def TJ0 : u_T := fun k => match k with
  | _ => ("", "", "", false)
def tyJ0 : Nat → FieldType := fun k => match k with
  | _ => .int
abbrev wsJ00 : List Cond := u_ws RJ0 TJ0 0
theorem nmJ0 : ∀ a, a < 0 → ∀ b, b < 0 → a ≠ b → (TJ0 a).2.1 ≠ (TJ0 b).2.1 := by decide +kernel
theorem tyJ0_ok : ∀ k, k < 0 → parseFieldDescriptor (TJ0 k).2.2.1 = some (tyJ0 k) := by decide +kernel
def RL : String := "HarmoniumDeskLaw"
abbrev cL_begin : ByteArray := method_3_code
def yL_begin : MethodName := ⟨RL, "begin", "(LHarmoniumDesk;I[J)I"⟩
abbrev cL_branch : ByteArray := method_4_code
def yL_branch : MethodName := ⟨RL, "branch", "(LHarmoniumDesk;I[J)I"⟩
abbrev cL_setNote : ByteArray := method_5_code
def yL_setNote : MethodName := ⟨RL, "setNote", "(LHarmoniumDesk;IIII[J)I"⟩
abbrev cL_note : ByteArray := method_6_code
def yL_note : MethodName := ⟨RL, "note", "(LHarmoniumDesk;III[J)I"⟩
abbrev cL_base : ByteArray := method_7_code
def yL_base : MethodName := ⟨RL, "base", "(LHarmoniumDesk;II[J)I"⟩
abbrev cL_conflicts : ByteArray := method_8_code
def yL_conflicts : MethodName := ⟨RL, "conflicts", "(LHarmoniumDesk;II[J)I"⟩
abbrev cL_merge : ByteArray := method_9_code
def yL_merge : MethodName := ⟨RL, "merge", "(LHarmoniumDesk;II[J)I"⟩
abbrev cL_setWeight : ByteArray := method_10_code
def yL_setWeight : MethodName := ⟨RL, "setWeight", "(LHarmoniumDesk;II[J)I"⟩
abbrev cL_setPass : ByteArray := method_11_code
def yL_setPass : MethodName := ⟨RL, "setPass", "(LHarmoniumDesk;I[J)I"⟩
abbrev cL_faults : ByteArray := method_12_code
def yL_faults : MethodName := ⟨RL, "faults", "(LHarmoniumDesk;III[J)I"⟩
abbrev cL_mark : ByteArray := method_13_code
def yL_mark : MethodName := ⟨RL, "mark", "(LHarmoniumDesk;I[J)I"⟩
abbrev cL_handIn : ByteArray := method_14_code
def yL_handIn : MethodName := ⟨RL, "handIn", "(LHarmoniumDesk;I[J)I"⟩
abbrev cL_best : ByteArray := method_15_code
def yL_best : MethodName := ⟨RL, "best", "(LHarmoniumDesk;III[J)I"⟩
abbrev cL_movement : ByteArray := method_16_code
def yL_movement : MethodName := ⟨RL, "movement", "(LHarmoniumDesk;II[D)I"⟩
abbrev cL_print : ByteArray := method_17_code
def yL_print : MethodName := ⟨RL, "print", "(LHarmoniumDesk;II[J)I"⟩
abbrev cL_errata : ByteArray := method_18_code
def yL_errata : MethodName := ⟨RL, "errata", "(LHarmoniumDesk;II[J)I"⟩
abbrev cL_slip : ByteArray := method_19_code
def yL_slip : MethodName := ⟨RL, "slip", "(LHarmoniumDesk;II[J)I"⟩
abbrev cL_slips : ByteArray := method_20_code
def yL_slips : MethodName := ⟨RL, "slips", "(LHarmoniumDesk;I[J)I"⟩
abbrev cL_law : ByteArray := code
def yL_law : MethodName := ⟨RL, "law", "([I)Z"⟩
def wsX1_tone : List Cond := .code yX1_tone cX1_tone 4 (some .int) :: ([.fieldLink RX1 15 "HarmoniumDesk$Score" "upper" "[I", .fieldLink RX1 19 "HarmoniumDesk$Score" "lower" "[I"] ++ wsX10)
def wsX0_takeVoice : List Cond := .code yX0_takeVoice cX0_takeVoice 3 none :: ([.fieldLink RX0 27 "HarmoniumDesk$Copy" "bars" "I", .fieldLink RX0 9 "HarmoniumDesk$Copy" "tones" "[I", .fieldLink RX0 19 "HarmoniumDesk$Copy" "voice" "I", .methodLink RX0 32 yX1_tone, .instanceMethod yX1_tone, .selects RX1 yX1_tone yX1_tone, .initialized RX1, .code yX1_tone cX1_tone 4 (some .int), .fieldLink RX1 15 "HarmoniumDesk$Score" "upper" "[I", .fieldLink RX1 19 "HarmoniumDesk$Score" "lower" "[I"] ++ wsX00 ++ wsX10)
def wsX0_init : List Cond := .code yX0_init cX0_init 3 none :: ([.methodLink RX0 3 objectInit, .instanceMethod objectInit, .code objectInit ⟨#[0xb1]⟩ 1 none, .arrayClass .int, .fieldLink RX0 9 "HarmoniumDesk$Copy" "tones" "[I", .fieldLink RX0 15 "HarmoniumDesk$Copy" "slipCount" "I", .fieldLink RX0 19 "HarmoniumDesk$Copy" "voice" "I", .fieldLink RX0 27 "HarmoniumDesk$Copy" "bars" "I", .methodLink RX0 28 yX0_takeVoice, .instanceMethod yX0_takeVoice, .selects RX0 yX0_takeVoice yX0_takeVoice, .initialized RX0, .code yX0_takeVoice cX0_takeVoice 3 none, .methodLink RX0 32 yX1_tone, .instanceMethod yX1_tone, .selects RX1 yX1_tone yX1_tone, .initialized RX1, .code yX1_tone cX1_tone 4 (some .int), .fieldLink RX1 15 "HarmoniumDesk$Score" "upper" "[I", .fieldLink RX1 19 "HarmoniumDesk$Score" "lower" "[I"] ++ wsX00 ++ wsX10)
def wsX0_differingBars : List Cond := .code yX0_differingBars cX0_differingBars 4 (some .int) :: ([.fieldLink RX0 27 "HarmoniumDesk$Copy" "bars" "I", .fieldLink RX0 9 "HarmoniumDesk$Copy" "tones" "[I", .fieldLink RX0 19 "HarmoniumDesk$Copy" "voice" "I", .methodLink RX0 32 yX1_tone, .instanceMethod yX1_tone, .selects RX1 yX1_tone yX1_tone, .initialized RX1, .code yX1_tone cX1_tone 4 (some .int), .fieldLink RX1 15 "HarmoniumDesk$Score" "upper" "[I", .fieldLink RX1 19 "HarmoniumDesk$Score" "lower" "[I"] ++ wsX00 ++ wsX10)
def wsX1_init : List Cond := .code yX1_init cX1_init 1 none :: ([.methodLink RX1 3 objectInit, .instanceMethod objectInit, .code objectInit ⟨#[0xb1]⟩ 1 none, .fieldLink RX1 9 "HarmoniumDesk$Score" "bars" "I", .arrayClass .int, .fieldLink RX1 15 "HarmoniumDesk$Score" "upper" "[I", .fieldLink RX1 19 "HarmoniumDesk$Score" "lower" "[I"] ++ wsX10)
def wsX1_setTone : List Cond := .code yX1_setTone cX1_setTone 5 none :: ([.fieldLink RX1 15 "HarmoniumDesk$Score" "upper" "[I", .fieldLink RX1 19 "HarmoniumDesk$Score" "lower" "[I"] ++ wsX10)
def wsX1_fill : List Cond := .code yX1_fill cX1_fill 4 none :: ([.fieldLink RX1 9 "HarmoniumDesk$Score" "bars" "I", .methodLink RX1 22 yX1_setTone, .instanceMethod yX1_setTone, .selects RX1 yX1_setTone yX1_setTone, .initialized RX1, .code yX1_setTone cX1_setTone 5 none, .fieldLink RX1 15 "HarmoniumDesk$Score" "upper" "[I", .fieldLink RX1 19 "HarmoniumDesk$Score" "lower" "[I"] ++ wsX10)
def wsX1_takeBar : List Cond := .code yX1_takeBar cX1_takeBar 3 none :: ([.methodLink RX1 30 yX1_tone, .instanceMethod yX1_tone, .selects RX1 yX1_tone yX1_tone, .initialized RX1, .code yX1_tone cX1_tone 4 (some .int), .fieldLink RX1 15 "HarmoniumDesk$Score" "upper" "[I", .fieldLink RX1 19 "HarmoniumDesk$Score" "lower" "[I", .methodLink RX1 22 yX1_setTone, .instanceMethod yX1_setTone, .selects RX1 yX1_setTone yX1_setTone, .code yX1_setTone cX1_setTone 5 none] ++ wsX10)
def wsX1_takeAll : List Cond := .code yX1_takeAll cX1_takeAll 3 none :: ([.fieldLink RX1 9 "HarmoniumDesk$Score" "bars" "I", .methodLink RX1 26 yX1_takeBar, .instanceMethod yX1_takeBar, .selects RX1 yX1_takeBar yX1_takeBar, .initialized RX1, .code yX1_takeBar cX1_takeBar 3 none, .methodLink RX1 30 yX1_tone, .instanceMethod yX1_tone, .selects RX1 yX1_tone yX1_tone, .code yX1_tone cX1_tone 4 (some .int), .fieldLink RX1 15 "HarmoniumDesk$Score" "upper" "[I", .fieldLink RX1 19 "HarmoniumDesk$Score" "lower" "[I", .methodLink RX1 22 yX1_setTone, .instanceMethod yX1_setTone, .selects RX1 yX1_setTone yX1_setTone, .code yX1_setTone cX1_setTone 5 none] ++ wsX10)
def wsX1_sameBar : List Cond := .code yX1_sameBar cX1_sameBar 3 (some .boolean) :: ([.methodLink RX1 30 yX1_tone, .instanceMethod yX1_tone, .selects RX1 yX1_tone yX1_tone, .initialized RX1, .code yX1_tone cX1_tone 4 (some .int), .fieldLink RX1 15 "HarmoniumDesk$Score" "upper" "[I", .fieldLink RX1 19 "HarmoniumDesk$Score" "lower" "[I"] ++ wsX10)
def wsX1_stepTo : List Cond := .code yX1_stepTo cX1_stepTo 3 (some .int) :: ([.methodLink RX1 54 Lib.Math.abs.name, .static Lib.Math.abs.name, .initialized "java/lang/Math", .code Lib.Math.abs.name Lib.Math.abs.code 1 (some .int), .methodLink RX1 30 yX1_tone, .instanceMethod yX1_tone, .selects RX1 yX1_tone yX1_tone, .initialized RX1, .code yX1_tone cX1_tone 4 (some .int), .fieldLink RX1 15 "HarmoniumDesk$Score" "upper" "[I", .fieldLink RX1 19 "HarmoniumDesk$Score" "lower" "[I"] ++ wsX10)
def wsX1_wayOf : List Cond := .code yX1_wayOf cX1_wayOf 4 (some .int) :: ([.fieldLink RX1 9 "HarmoniumDesk$Score" "bars" "I", .methodLink RX1 34 yX1_stepTo, .instanceMethod yX1_stepTo, .selects RX1 yX1_stepTo yX1_stepTo, .initialized RX1, .code yX1_stepTo cX1_stepTo 3 (some .int), .methodLink RX1 54 Lib.Math.abs.name, .static Lib.Math.abs.name, .initialized "java/lang/Math", .code Lib.Math.abs.name Lib.Math.abs.code 1 (some .int), .methodLink RX1 30 yX1_tone, .instanceMethod yX1_tone, .selects RX1 yX1_tone yX1_tone, .code yX1_tone cX1_tone 4 (some .int), .fieldLink RX1 15 "HarmoniumDesk$Score" "upper" "[I", .fieldLink RX1 19 "HarmoniumDesk$Score" "lower" "[I"] ++ wsX10)
def wsX1_interval : List Cond := .code yX1_interval cX1_interval 2 (some .int) :: ([.methodLink RX1 54 Lib.Math.abs.name, .static Lib.Math.abs.name, .initialized "java/lang/Math", .code Lib.Math.abs.name Lib.Math.abs.code 1 (some .int), .methodLink RX1 30 yX1_tone, .instanceMethod yX1_tone, .selects RX1 yX1_tone yX1_tone, .initialized RX1, .code yX1_tone cX1_tone 4 (some .int), .fieldLink RX1 15 "HarmoniumDesk$Score" "upper" "[I", .fieldLink RX1 19 "HarmoniumDesk$Score" "lower" "[I"] ++ wsX10)
def wsX1_isDiscord : List Cond := .code yX1_isDiscord cX1_isDiscord 2 (some .boolean) :: ([.methodLink RX1 59 yX1_interval, .instanceMethod yX1_interval, .selects RX1 yX1_interval yX1_interval, .initialized RX1, .code yX1_interval cX1_interval 2 (some .int), .methodLink RX1 54 Lib.Math.abs.name, .static Lib.Math.abs.name, .initialized "java/lang/Math", .code Lib.Math.abs.name Lib.Math.abs.code 1 (some .int), .methodLink RX1 30 yX1_tone, .instanceMethod yX1_tone, .selects RX1 yX1_tone yX1_tone, .code yX1_tone cX1_tone 4 (some .int), .fieldLink RX1 15 "HarmoniumDesk$Score" "upper" "[I", .fieldLink RX1 19 "HarmoniumDesk$Score" "lower" "[I"] ++ wsX10)
def wsX1_isPerfect : List Cond := .code yX1_isPerfect cX1_isPerfect 1 (some .boolean) :: ([])
def wsX1_isParallel : List Cond := .code yX1_isParallel cX1_isParallel 2 (some .boolean) :: ([.methodLink RX1 34 yX1_stepTo, .instanceMethod yX1_stepTo, .selects RX1 yX1_stepTo yX1_stepTo, .initialized RX1, .code yX1_stepTo cX1_stepTo 3 (some .int), .methodLink RX1 54 Lib.Math.abs.name, .static Lib.Math.abs.name, .initialized "java/lang/Math", .code Lib.Math.abs.name Lib.Math.abs.code 1 (some .int), .methodLink RX1 30 yX1_tone, .instanceMethod yX1_tone, .selects RX1 yX1_tone yX1_tone, .code yX1_tone cX1_tone 4 (some .int), .fieldLink RX1 15 "HarmoniumDesk$Score" "upper" "[I", .fieldLink RX1 19 "HarmoniumDesk$Score" "lower" "[I", .methodLink RX1 59 yX1_interval, .instanceMethod yX1_interval, .selects RX1 yX1_interval yX1_interval, .code yX1_interval cX1_interval 2 (some .int), .methodLink RX1 62 yX1_isPerfect, .static yX1_isPerfect, .code yX1_isPerfect cX1_isPerfect 1 (some .boolean)] ++ wsX10)
def wsX1_leapsTo : List Cond := .code yX1_leapsTo cX1_leapsTo 4 (some .int) :: ([.methodLink RX1 34 yX1_stepTo, .instanceMethod yX1_stepTo, .selects RX1 yX1_stepTo yX1_stepTo, .initialized RX1, .code yX1_stepTo cX1_stepTo 3 (some .int), .methodLink RX1 54 Lib.Math.abs.name, .static Lib.Math.abs.name, .initialized "java/lang/Math", .code Lib.Math.abs.name Lib.Math.abs.code 1 (some .int), .methodLink RX1 30 yX1_tone, .instanceMethod yX1_tone, .selects RX1 yX1_tone yX1_tone, .code yX1_tone cX1_tone 4 (some .int), .fieldLink RX1 15 "HarmoniumDesk$Score" "upper" "[I", .fieldLink RX1 19 "HarmoniumDesk$Score" "lower" "[I"] ++ wsX10)
def wsX1_badEndsAt : List Cond := .code yX1_badEndsAt cX1_badEndsAt 4 (some .int) :: ([.fieldLink RX1 9 "HarmoniumDesk$Score" "bars" "I", .methodLink RX1 59 yX1_interval, .instanceMethod yX1_interval, .selects RX1 yX1_interval yX1_interval, .initialized RX1, .code yX1_interval cX1_interval 2 (some .int), .methodLink RX1 54 Lib.Math.abs.name, .static Lib.Math.abs.name, .initialized "java/lang/Math", .code Lib.Math.abs.name Lib.Math.abs.code 1 (some .int), .methodLink RX1 30 yX1_tone, .instanceMethod yX1_tone, .selects RX1 yX1_tone yX1_tone, .code yX1_tone cX1_tone 4 (some .int), .fieldLink RX1 15 "HarmoniumDesk$Score" "upper" "[I", .fieldLink RX1 19 "HarmoniumDesk$Score" "lower" "[I", .methodLink RX1 62 yX1_isPerfect, .static yX1_isPerfect, .code yX1_isPerfect cX1_isPerfect 1 (some .boolean)] ++ wsX10)
def wsX1_isStanding : List Cond := .code yX1_isStanding cX1_isStanding 2 (some .boolean) :: ([.methodLink RX1 34 yX1_stepTo, .instanceMethod yX1_stepTo, .selects RX1 yX1_stepTo yX1_stepTo, .initialized RX1, .code yX1_stepTo cX1_stepTo 3 (some .int), .methodLink RX1 54 Lib.Math.abs.name, .static Lib.Math.abs.name, .initialized "java/lang/Math", .code Lib.Math.abs.name Lib.Math.abs.code 1 (some .int), .methodLink RX1 30 yX1_tone, .instanceMethod yX1_tone, .selects RX1 yX1_tone yX1_tone, .code yX1_tone cX1_tone 4 (some .int), .fieldLink RX1 15 "HarmoniumDesk$Score" "upper" "[I", .fieldLink RX1 19 "HarmoniumDesk$Score" "lower" "[I"] ++ wsX10)
def wsX1_faultsOf_r1 : List Cond := [Cond.methodLink RX1 37 yX1_isDiscord, Cond.instanceMethod yX1_isDiscord, Cond.selects RX1 yX1_isDiscord yX1_isDiscord, Cond.initialized RX1, Cond.code yX1_isDiscord cX1_isDiscord 2 (some .boolean), Cond.methodLink RX1 59 yX1_interval, Cond.instanceMethod yX1_interval, Cond.selects RX1 yX1_interval yX1_interval, Cond.code yX1_interval cX1_interval 2 (some .int), Cond.methodLink RX1 54 Lib.Math.abs.name, Cond.static Lib.Math.abs.name, Cond.initialized "java/lang/Math", Cond.code Lib.Math.abs.name Lib.Math.abs.code 1 (some .int), Cond.methodLink RX1 30 yX1_tone, Cond.instanceMethod yX1_tone, Cond.selects RX1 yX1_tone yX1_tone, Cond.code yX1_tone cX1_tone 4 (some .int), Cond.fieldLink RX1 15 "HarmoniumDesk$Score" "upper" "[I", Cond.fieldLink RX1 19 "HarmoniumDesk$Score" "lower" "[I", Cond.methodLink RX1 41 yX1_isParallel, Cond.instanceMethod yX1_isParallel, Cond.selects RX1 yX1_isParallel yX1_isParallel, Cond.code yX1_isParallel cX1_isParallel 2 (some .boolean), Cond.methodLink RX1 34 yX1_stepTo]
def wsX1_faultsOf_r2 : List Cond := [Cond.instanceMethod yX1_stepTo, Cond.selects RX1 yX1_stepTo yX1_stepTo, Cond.code yX1_stepTo cX1_stepTo 3 (some .int), Cond.methodLink RX1 62 yX1_isPerfect, Cond.static yX1_isPerfect, Cond.code yX1_isPerfect cX1_isPerfect 1 (some .boolean), Cond.methodLink RX1 44 yX1_leapsTo, Cond.instanceMethod yX1_leapsTo, Cond.selects RX1 yX1_leapsTo yX1_leapsTo, Cond.code yX1_leapsTo cX1_leapsTo 4 (some .int), Cond.methodLink RX1 48 yX1_badEndsAt, Cond.instanceMethod yX1_badEndsAt, Cond.selects RX1 yX1_badEndsAt yX1_badEndsAt, Cond.code yX1_badEndsAt cX1_badEndsAt 4 (some .int), Cond.fieldLink RX1 9 "HarmoniumDesk$Score" "bars" "I", Cond.methodLink RX1 51 yX1_isStanding, Cond.instanceMethod yX1_isStanding, Cond.selects RX1 yX1_isStanding yX1_isStanding, Cond.code yX1_isStanding cX1_isStanding 2 (some .boolean)]
def wsX1_faultsOf : List Cond := .code yX1_faultsOf cX1_faultsOf 3 (some .int) :: ((wsX1_faultsOf_r1 ++ wsX1_faultsOf_r2) ++ wsX10)
def wsX2_init : List Cond := .code yX2_init cX2_init 3 none :: ([.methodLink RX2 1 objectInit, .instanceMethod objectInit, .code objectInit ⟨#[0xb1]⟩ 1 none, .classLink RX2 7 RX1, .instantiable RX1 3, .initialized RX1, .fieldLink RX2 10 "HarmoniumDesk$Version" "score" "LHarmoniumDesk$Score;", .fieldLink RX2 16 "HarmoniumDesk$Version" "fixed" "Z", .fieldLink RX2 20 "HarmoniumDesk$Version" "passedWhenHandedIn" "Z", .fieldLink RX2 23 "HarmoniumDesk$Version" "number" "I", .fieldLink RX2 27 "HarmoniumDesk$Version" "parent" "LHarmoniumDesk$Version;", .instanceMethod yX1_init, .code yX1_init cX1_init 1 none, .methodLink RX1 3 objectInit, .fieldLink RX1 9 "HarmoniumDesk$Score" "bars" "I", .arrayClass .int, .fieldLink RX1 15 "HarmoniumDesk$Score" "upper" "[I", .fieldLink RX1 19 "HarmoniumDesk$Score" "lower" "[I"] ++ wsX10 ++ wsX20)
def wsX3_init : List Cond := .code yX3_init cX3_init 2 none :: ([.methodLink RX3 1 objectInit, .instanceMethod objectInit, .code objectInit ⟨#[0xb1]⟩ 1 none, .classLink RX3 9 RX2, .fieldLink RX3 11 "HarmoniumDesk" "versions" "[LHarmoniumDesk$Version;", .fieldLink RX3 15 "HarmoniumDesk" "versionCount" "I", .classLink RX3 19 RX0, .fieldLink RX3 21 "HarmoniumDesk" "copies" "[LHarmoniumDesk$Copy;", .fieldLink RX3 25 "HarmoniumDesk" "copyCount" "I", .arrayClass .int, .fieldLink RX3 28 "HarmoniumDesk" "weights" "[I", .fieldLink RX3 32 "HarmoniumDesk" "passMark" "I", .classLink RX3 35 RX1, .instantiable RX1 3, .initialized RX1, .fieldLink RX3 38 "HarmoniumDesk" "trial" "LHarmoniumDesk$Score;", .instanceMethod yX1_init, .code yX1_init cX1_init 1 none, .methodLink RX1 3 objectInit, .fieldLink RX1 9 "HarmoniumDesk$Score" "bars" "I", .fieldLink RX1 15 "HarmoniumDesk$Score" "upper" "[I", .fieldLink RX1 19 "HarmoniumDesk$Score" "lower" "[I"] ++ wsX30 ++ wsX10)
def wsX3_addVersion_r1 : List Cond := [Cond.classLink RX3 85 "java/lang/IllegalStateException", Cond.initialized "java/lang/IllegalStateException", Cond.fieldLink RX3 15 "HarmoniumDesk" "versionCount" "I", Cond.fieldLink RX3 11 "HarmoniumDesk" "versions" "[LHarmoniumDesk$Version;", Cond.classLink RX3 9 RX2, Cond.instantiable RX2 5, Cond.initialized RX2, Cond.methodLink RX3 182 yX2_init, Cond.instanceMethod yX2_init, Cond.code yX2_init cX2_init 3 none, Cond.methodLink RX2 1 objectInit, Cond.instanceMethod objectInit, Cond.code objectInit ⟨#[0xb1]⟩ 1 none, Cond.classLink RX2 7 RX1, Cond.instantiable RX1 3, Cond.initialized RX1, Cond.fieldLink RX2 10 "HarmoniumDesk$Version" "score" "LHarmoniumDesk$Score;", Cond.fieldLink RX2 16 "HarmoniumDesk$Version" "fixed" "Z", Cond.fieldLink RX2 20 "HarmoniumDesk$Version" "passedWhenHandedIn" "Z", Cond.fieldLink RX2 23 "HarmoniumDesk$Version" "number" "I", Cond.fieldLink RX2 27 "HarmoniumDesk$Version" "parent" "LHarmoniumDesk$Version;", Cond.instanceMethod yX1_init, Cond.code yX1_init cX1_init 1 none, Cond.methodLink RX1 3 objectInit]
def wsX3_addVersion_r2 : List Cond := [Cond.fieldLink RX1 9 "HarmoniumDesk$Score" "bars" "I", Cond.arrayClass .int, Cond.fieldLink RX1 15 "HarmoniumDesk$Score" "upper" "[I", Cond.fieldLink RX1 19 "HarmoniumDesk$Score" "lower" "[I"]
def wsX3_addVersion : List Cond := .code yX3_addVersion cX3_addVersion 3 (some (.object "HarmoniumDesk$Version")) :: ((wsX3_addVersion_r1 ++ wsX3_addVersion_r2) ++ wsX30 ++ wsX20 ++ wsX10 ++ (vx_atS RX3 89 "java/lang/IllegalStateException" ["java/lang/RuntimeException", "java/lang/Exception"]).filter goodWord)
def wsX3_begin_r1 : List Cond := [Cond.classLink RX3 42 "java/lang/IllegalArgumentException", Cond.initialized "java/lang/IllegalArgumentException", Cond.methodLink RX3 49 yX3_addVersion, Cond.instanceMethod yX3_addVersion, Cond.selects RX3 yX3_addVersion yX3_addVersion, Cond.initialized RX3, Cond.code yX3_addVersion cX3_addVersion 3 (some (.object "HarmoniumDesk$Version")), Cond.classLink RX3 85 "java/lang/IllegalStateException", Cond.initialized "java/lang/IllegalStateException", Cond.fieldLink RX3 15 "HarmoniumDesk" "versionCount" "I", Cond.fieldLink RX3 11 "HarmoniumDesk" "versions" "[LHarmoniumDesk$Version;", Cond.classLink RX3 9 RX2, Cond.instantiable RX2 5, Cond.initialized RX2, Cond.methodLink RX3 182 yX2_init, Cond.instanceMethod yX2_init, Cond.code yX2_init cX2_init 3 none, Cond.methodLink RX2 1 objectInit, Cond.instanceMethod objectInit, Cond.code objectInit ⟨#[0xb1]⟩ 1 none, Cond.classLink RX2 7 RX1, Cond.instantiable RX1 3, Cond.initialized RX1, Cond.fieldLink RX2 10 "HarmoniumDesk$Version" "score" "LHarmoniumDesk$Score;"]
def wsX3_begin_r2 : List Cond := [Cond.fieldLink RX2 16 "HarmoniumDesk$Version" "fixed" "Z", Cond.fieldLink RX2 20 "HarmoniumDesk$Version" "passedWhenHandedIn" "Z", Cond.fieldLink RX2 23 "HarmoniumDesk$Version" "number" "I", Cond.fieldLink RX2 27 "HarmoniumDesk$Version" "parent" "LHarmoniumDesk$Version;", Cond.instanceMethod yX1_init, Cond.code yX1_init cX1_init 1 none, Cond.methodLink RX1 3 objectInit, Cond.fieldLink RX1 9 "HarmoniumDesk$Score" "bars" "I", Cond.arrayClass .int, Cond.fieldLink RX1 15 "HarmoniumDesk$Score" "upper" "[I", Cond.fieldLink RX1 19 "HarmoniumDesk$Score" "lower" "[I", Cond.methodLink RX3 56 yX1_fill, Cond.instanceMethod yX1_fill, Cond.selects RX1 yX1_fill yX1_fill, Cond.code yX1_fill cX1_fill 4 none, Cond.methodLink RX1 22 yX1_setTone, Cond.instanceMethod yX1_setTone, Cond.selects RX1 yX1_setTone yX1_setTone, Cond.code yX1_setTone cX1_setTone 5 none]
def wsX3_begin : List Cond := .code yX3_begin cX3_begin 3 (some .int) :: ((wsX3_begin_r1 ++ wsX3_begin_r2) ++ wsX20 ++ wsX30 ++ wsX10 ++ (vx_atS RX3 46 "java/lang/IllegalArgumentException" ["java/lang/RuntimeException", "java/lang/Exception"]).filter goodWord ++ (vx_atS RX3 89 "java/lang/IllegalStateException" ["java/lang/RuntimeException", "java/lang/Exception"]).filter goodWord)
def wsX3_findVersion : List Cond := .code yX3_findVersion cX3_findVersion 3 (some (.object "HarmoniumDesk$Version")) :: ([.classLink RX3 114 "java/lang/IndexOutOfBoundsException", .initialized "java/lang/IndexOutOfBoundsException", .fieldLink RX3 11 "HarmoniumDesk" "versions" "[LHarmoniumDesk$Version;"] ++ wsX30 ++ (vx_atS RX3 118 "java/lang/IndexOutOfBoundsException" ["java/lang/RuntimeException", "java/lang/Exception"]).filter goodWord)
def wsX3_branch_r1 : List Cond := [Cond.methodLink RX3 63 yX3_findVersion, Cond.instanceMethod yX3_findVersion, Cond.selects RX3 yX3_findVersion yX3_findVersion, Cond.initialized RX3, Cond.code yX3_findVersion cX3_findVersion 3 (some (.object "HarmoniumDesk$Version")), Cond.classLink RX3 114 "java/lang/IndexOutOfBoundsException", Cond.initialized "java/lang/IndexOutOfBoundsException", Cond.fieldLink RX3 11 "HarmoniumDesk" "versions" "[LHarmoniumDesk$Version;", Cond.methodLink RX3 49 yX3_addVersion, Cond.instanceMethod yX3_addVersion, Cond.selects RX3 yX3_addVersion yX3_addVersion, Cond.code yX3_addVersion cX3_addVersion 3 (some (.object "HarmoniumDesk$Version")), Cond.classLink RX3 85 "java/lang/IllegalStateException", Cond.initialized "java/lang/IllegalStateException", Cond.fieldLink RX3 15 "HarmoniumDesk" "versionCount" "I", Cond.classLink RX3 9 RX2, Cond.instantiable RX2 5, Cond.initialized RX2, Cond.methodLink RX3 182 yX2_init, Cond.instanceMethod yX2_init, Cond.code yX2_init cX2_init 3 none, Cond.methodLink RX2 1 objectInit, Cond.instanceMethod objectInit, Cond.code objectInit ⟨#[0xb1]⟩ 1 none]
def wsX3_branch_r2 : List Cond := [Cond.classLink RX2 7 RX1, Cond.instantiable RX1 3, Cond.initialized RX1, Cond.fieldLink RX2 10 "HarmoniumDesk$Version" "score" "LHarmoniumDesk$Score;", Cond.fieldLink RX2 16 "HarmoniumDesk$Version" "fixed" "Z", Cond.fieldLink RX2 20 "HarmoniumDesk$Version" "passedWhenHandedIn" "Z", Cond.fieldLink RX2 23 "HarmoniumDesk$Version" "number" "I", Cond.fieldLink RX2 27 "HarmoniumDesk$Version" "parent" "LHarmoniumDesk$Version;", Cond.instanceMethod yX1_init, Cond.code yX1_init cX1_init 1 none, Cond.methodLink RX1 3 objectInit, Cond.fieldLink RX1 9 "HarmoniumDesk$Score" "bars" "I", Cond.arrayClass .int, Cond.fieldLink RX1 15 "HarmoniumDesk$Score" "upper" "[I", Cond.fieldLink RX1 19 "HarmoniumDesk$Score" "lower" "[I", Cond.methodLink RX3 67 yX1_takeAll, Cond.instanceMethod yX1_takeAll, Cond.selects RX1 yX1_takeAll yX1_takeAll, Cond.code yX1_takeAll cX1_takeAll 3 none, Cond.methodLink RX1 26 yX1_takeBar, Cond.instanceMethod yX1_takeBar, Cond.selects RX1 yX1_takeBar yX1_takeBar, Cond.code yX1_takeBar cX1_takeBar 3 none, Cond.methodLink RX1 30 yX1_tone]
def wsX3_branch_r3 : List Cond := [Cond.instanceMethod yX1_tone, Cond.selects RX1 yX1_tone yX1_tone, Cond.code yX1_tone cX1_tone 4 (some .int), Cond.methodLink RX1 22 yX1_setTone, Cond.instanceMethod yX1_setTone, Cond.selects RX1 yX1_setTone yX1_setTone, Cond.code yX1_setTone cX1_setTone 5 none]
def wsX3_branch : List Cond := .code yX3_branch cX3_branch 4 (some .int) :: ((wsX3_branch_r1 ++ (wsX3_branch_r2 ++ wsX3_branch_r3)) ++ wsX20 ++ wsX30 ++ wsX10 ++ (vx_atS RX3 118 "java/lang/IndexOutOfBoundsException" ["java/lang/RuntimeException", "java/lang/Exception"]).filter goodWord ++ (vx_atS RX3 89 "java/lang/IllegalStateException" ["java/lang/RuntimeException", "java/lang/Exception"]).filter goodWord)
def wsX3_checkVoice : List Cond := .code yX3_checkVoice cX3_checkVoice 1 none :: ([.classLink RX3 114 "java/lang/IndexOutOfBoundsException", .initialized "java/lang/IndexOutOfBoundsException"] ++ (vx_atS RX3 118 "java/lang/IndexOutOfBoundsException" ["java/lang/RuntimeException", "java/lang/Exception"]).filter goodWord)
def wsX3_checkBar : List Cond := .code yX3_checkBar cX3_checkBar 2 none :: ([.classLink RX3 114 "java/lang/IndexOutOfBoundsException", .initialized "java/lang/IndexOutOfBoundsException"] ++ wsX20 ++ wsX10 ++ (vx_atS RX3 118 "java/lang/IndexOutOfBoundsException" ["java/lang/RuntimeException", "java/lang/Exception"]).filter goodWord)
def wsX3_setNote_r1 : List Cond := [Cond.classLink RX3 42 "java/lang/IllegalArgumentException", Cond.initialized "java/lang/IllegalArgumentException", Cond.classLink RX3 85 "java/lang/IllegalStateException", Cond.initialized "java/lang/IllegalStateException", Cond.methodLink RX3 63 yX3_findVersion, Cond.instanceMethod yX3_findVersion, Cond.selects RX3 yX3_findVersion yX3_findVersion, Cond.initialized RX3, Cond.code yX3_findVersion cX3_findVersion 3 (some (.object "HarmoniumDesk$Version")), Cond.classLink RX3 114 "java/lang/IndexOutOfBoundsException", Cond.initialized "java/lang/IndexOutOfBoundsException", Cond.fieldLink RX3 11 "HarmoniumDesk" "versions" "[LHarmoniumDesk$Version;", Cond.methodLink RX3 75 yX3_checkVoice, Cond.static yX3_checkVoice, Cond.code yX3_checkVoice cX3_checkVoice 1 none, Cond.methodLink RX3 79 yX3_checkBar, Cond.static yX3_checkBar, Cond.code yX3_checkBar cX3_checkBar 2 none, Cond.methodLink RX3 90 yX1_tone, Cond.instanceMethod yX1_tone, Cond.selects RX1 yX1_tone yX1_tone, Cond.initialized RX1, Cond.code yX1_tone cX1_tone 4 (some .int), Cond.fieldLink RX1 15 "HarmoniumDesk$Score" "upper" "[I"]
def wsX3_setNote_r2 : List Cond := [Cond.fieldLink RX1 19 "HarmoniumDesk$Score" "lower" "[I", Cond.methodLink RX3 94 yX1_setTone, Cond.instanceMethod yX1_setTone, Cond.selects RX1 yX1_setTone yX1_setTone, Cond.code yX1_setTone cX1_setTone 5 none]
def wsX3_setNote : List Cond := .code yX3_setNote cX3_setNote 7 (some .int) :: ((wsX3_setNote_r1 ++ wsX3_setNote_r2) ++ wsX20 ++ wsX30 ++ wsX10 ++ (vx_atS RX3 46 "java/lang/IllegalArgumentException" ["java/lang/RuntimeException", "java/lang/Exception"]).filter goodWord ++ (vx_atS RX3 89 "java/lang/IllegalStateException" ["java/lang/RuntimeException", "java/lang/Exception"]).filter goodWord ++ (vx_atS RX3 118 "java/lang/IndexOutOfBoundsException" ["java/lang/RuntimeException", "java/lang/Exception"]).filter goodWord)
def wsX3_note : List Cond := .code yX3_note cX3_note 5 (some .int) :: ([.methodLink RX3 63 yX3_findVersion, .instanceMethod yX3_findVersion, .selects RX3 yX3_findVersion yX3_findVersion, .initialized RX3, .code yX3_findVersion cX3_findVersion 3 (some (.object "HarmoniumDesk$Version")), .classLink RX3 114 "java/lang/IndexOutOfBoundsException", .initialized "java/lang/IndexOutOfBoundsException", .fieldLink RX3 11 "HarmoniumDesk" "versions" "[LHarmoniumDesk$Version;", .methodLink RX3 75 yX3_checkVoice, .static yX3_checkVoice, .code yX3_checkVoice cX3_checkVoice 1 none, .methodLink RX3 79 yX3_checkBar, .static yX3_checkBar, .code yX3_checkBar cX3_checkBar 2 none, .methodLink RX3 90 yX1_tone, .instanceMethod yX1_tone, .selects RX1 yX1_tone yX1_tone, .initialized RX1, .code yX1_tone cX1_tone 4 (some .int), .fieldLink RX1 15 "HarmoniumDesk$Score" "upper" "[I", .fieldLink RX1 19 "HarmoniumDesk$Score" "lower" "[I"] ++ wsX20 ++ wsX30 ++ wsX10 ++ (vx_atS RX3 118 "java/lang/IndexOutOfBoundsException" ["java/lang/RuntimeException", "java/lang/Exception"]).filter goodWord)
def wsX3_isAncestor : List Cond := .code yX3_isAncestor cX3_isAncestor 3 (some .boolean) :: ([] ++ wsX20)
def wsX3_commonAncestor : List Cond := .code yX3_commonAncestor cX3_commonAncestor 3 (some (.object "HarmoniumDesk$Version")) :: ([.methodLink RX3 190 yX3_isAncestor, .static yX3_isAncestor, .initialized RX3, .code yX3_isAncestor cX3_isAncestor 3 (some .boolean)] ++ wsX20)
def wsX3_base : List Cond := .code yX3_base cX3_base 4 (some .int) :: ([.methodLink RX3 63 yX3_findVersion, .instanceMethod yX3_findVersion, .selects RX3 yX3_findVersion yX3_findVersion, .initialized RX3, .code yX3_findVersion cX3_findVersion 3 (some (.object "HarmoniumDesk$Version")), .classLink RX3 114 "java/lang/IndexOutOfBoundsException", .initialized "java/lang/IndexOutOfBoundsException", .fieldLink RX3 11 "HarmoniumDesk" "versions" "[LHarmoniumDesk$Version;", .methodLink RX3 98 yX3_commonAncestor, .static yX3_commonAncestor, .code yX3_commonAncestor cX3_commonAncestor 3 (some (.object "HarmoniumDesk$Version")), .methodLink RX3 190 yX3_isAncestor, .static yX3_isAncestor, .code yX3_isAncestor cX3_isAncestor 3 (some .boolean)] ++ wsX20 ++ wsX30 ++ (vx_atS RX3 118 "java/lang/IndexOutOfBoundsException" ["java/lang/RuntimeException", "java/lang/Exception"]).filter goodWord)
def wsX3_conflictingBars : List Cond := .code yX3_conflictingBars cX3_conflictingBars 5 (some .int) :: ([.methodLink RX3 198 yX1_sameBar, .instanceMethod yX1_sameBar, .selects RX1 yX1_sameBar yX1_sameBar, .initialized RX1, .code yX1_sameBar cX1_sameBar 3 (some .boolean), .methodLink RX1 30 yX1_tone, .instanceMethod yX1_tone, .selects RX1 yX1_tone yX1_tone, .code yX1_tone cX1_tone 4 (some .int), .fieldLink RX1 15 "HarmoniumDesk$Score" "upper" "[I", .fieldLink RX1 19 "HarmoniumDesk$Score" "lower" "[I"] ++ wsX10)
def wsX3_conflicts_r1 : List Cond := [Cond.classLink RX3 85 "java/lang/IllegalStateException", Cond.initialized "java/lang/IllegalStateException", Cond.methodLink RX3 63 yX3_findVersion, Cond.instanceMethod yX3_findVersion, Cond.selects RX3 yX3_findVersion yX3_findVersion, Cond.initialized RX3, Cond.code yX3_findVersion cX3_findVersion 3 (some (.object "HarmoniumDesk$Version")), Cond.classLink RX3 114 "java/lang/IndexOutOfBoundsException", Cond.initialized "java/lang/IndexOutOfBoundsException", Cond.fieldLink RX3 11 "HarmoniumDesk" "versions" "[LHarmoniumDesk$Version;", Cond.methodLink RX3 98 yX3_commonAncestor, Cond.static yX3_commonAncestor, Cond.code yX3_commonAncestor cX3_commonAncestor 3 (some (.object "HarmoniumDesk$Version")), Cond.methodLink RX3 190 yX3_isAncestor, Cond.static yX3_isAncestor, Cond.code yX3_isAncestor cX3_isAncestor 3 (some .boolean), Cond.methodLink RX3 104 yX3_conflictingBars, Cond.static yX3_conflictingBars, Cond.code yX3_conflictingBars cX3_conflictingBars 5 (some .int), Cond.methodLink RX3 198 yX1_sameBar, Cond.instanceMethod yX1_sameBar, Cond.selects RX1 yX1_sameBar yX1_sameBar, Cond.initialized RX1, Cond.code yX1_sameBar cX1_sameBar 3 (some .boolean)]
def wsX3_conflicts_r2 : List Cond := [Cond.methodLink RX1 30 yX1_tone, Cond.instanceMethod yX1_tone, Cond.selects RX1 yX1_tone yX1_tone, Cond.code yX1_tone cX1_tone 4 (some .int), Cond.fieldLink RX1 15 "HarmoniumDesk$Score" "upper" "[I", Cond.fieldLink RX1 19 "HarmoniumDesk$Score" "lower" "[I"]
def wsX3_conflicts : List Cond := .code yX3_conflicts cX3_conflicts 6 (some .int) :: ((wsX3_conflicts_r1 ++ wsX3_conflicts_r2) ++ wsX20 ++ wsX30 ++ wsX10 ++ (vx_atS RX3 89 "java/lang/IllegalStateException" ["java/lang/RuntimeException", "java/lang/Exception"]).filter goodWord ++ (vx_atS RX3 118 "java/lang/IndexOutOfBoundsException" ["java/lang/RuntimeException", "java/lang/Exception"]).filter goodWord)
def wsX3_mergeInto_r1 : List Cond := [Cond.methodLink RX3 67 yX1_takeAll, Cond.instanceMethod yX1_takeAll, Cond.selects RX1 yX1_takeAll yX1_takeAll, Cond.initialized RX1, Cond.code yX1_takeAll cX1_takeAll 3 none, Cond.fieldLink RX1 9 "HarmoniumDesk$Score" "bars" "I", Cond.methodLink RX1 26 yX1_takeBar, Cond.instanceMethod yX1_takeBar, Cond.selects RX1 yX1_takeBar yX1_takeBar, Cond.code yX1_takeBar cX1_takeBar 3 none, Cond.methodLink RX1 30 yX1_tone, Cond.instanceMethod yX1_tone, Cond.selects RX1 yX1_tone yX1_tone, Cond.code yX1_tone cX1_tone 4 (some .int), Cond.fieldLink RX1 15 "HarmoniumDesk$Score" "upper" "[I", Cond.fieldLink RX1 19 "HarmoniumDesk$Score" "lower" "[I", Cond.methodLink RX1 22 yX1_setTone, Cond.instanceMethod yX1_setTone, Cond.selects RX1 yX1_setTone yX1_setTone, Cond.code yX1_setTone cX1_setTone 5 none, Cond.methodLink RX3 198 yX1_sameBar, Cond.instanceMethod yX1_sameBar, Cond.selects RX1 yX1_sameBar yX1_sameBar, Cond.code yX1_sameBar cX1_sameBar 3 (some .boolean)]
def wsX3_mergeInto_r2 : List Cond := [Cond.methodLink RX3 202 yX1_takeBar]
def wsX3_mergeInto : List Cond := .code yX3_mergeInto cX3_mergeInto 5 none :: ((wsX3_mergeInto_r1 ++ wsX3_mergeInto_r2) ++ wsX10)
def wsX3_merge_r1 : List Cond := [Cond.classLink RX3 42 "java/lang/IllegalArgumentException", Cond.initialized "java/lang/IllegalArgumentException", Cond.classLink RX3 85 "java/lang/IllegalStateException", Cond.initialized "java/lang/IllegalStateException", Cond.methodLink RX3 63 yX3_findVersion, Cond.instanceMethod yX3_findVersion, Cond.selects RX3 yX3_findVersion yX3_findVersion, Cond.initialized RX3, Cond.code yX3_findVersion cX3_findVersion 3 (some (.object "HarmoniumDesk$Version")), Cond.classLink RX3 114 "java/lang/IndexOutOfBoundsException", Cond.initialized "java/lang/IndexOutOfBoundsException", Cond.fieldLink RX3 11 "HarmoniumDesk" "versions" "[LHarmoniumDesk$Version;", Cond.methodLink RX3 98 yX3_commonAncestor, Cond.static yX3_commonAncestor, Cond.code yX3_commonAncestor cX3_commonAncestor 3 (some (.object "HarmoniumDesk$Version")), Cond.methodLink RX3 190 yX3_isAncestor, Cond.static yX3_isAncestor, Cond.code yX3_isAncestor cX3_isAncestor 3 (some .boolean), Cond.methodLink RX3 49 yX3_addVersion, Cond.instanceMethod yX3_addVersion, Cond.selects RX3 yX3_addVersion yX3_addVersion, Cond.code yX3_addVersion cX3_addVersion 3 (some (.object "HarmoniumDesk$Version")), Cond.fieldLink RX3 15 "HarmoniumDesk" "versionCount" "I", Cond.classLink RX3 9 RX2]
def wsX3_merge_r2 : List Cond := [Cond.instantiable RX2 5, Cond.initialized RX2, Cond.methodLink RX3 182 yX2_init, Cond.instanceMethod yX2_init, Cond.code yX2_init cX2_init 3 none, Cond.methodLink RX2 1 objectInit, Cond.instanceMethod objectInit, Cond.code objectInit ⟨#[0xb1]⟩ 1 none, Cond.classLink RX2 7 RX1, Cond.instantiable RX1 3, Cond.initialized RX1, Cond.fieldLink RX2 10 "HarmoniumDesk$Version" "score" "LHarmoniumDesk$Score;", Cond.fieldLink RX2 16 "HarmoniumDesk$Version" "fixed" "Z", Cond.fieldLink RX2 20 "HarmoniumDesk$Version" "passedWhenHandedIn" "Z", Cond.fieldLink RX2 23 "HarmoniumDesk$Version" "number" "I", Cond.fieldLink RX2 27 "HarmoniumDesk$Version" "parent" "LHarmoniumDesk$Version;", Cond.instanceMethod yX1_init, Cond.code yX1_init cX1_init 1 none, Cond.methodLink RX1 3 objectInit, Cond.fieldLink RX1 9 "HarmoniumDesk$Score" "bars" "I", Cond.arrayClass .int, Cond.fieldLink RX1 15 "HarmoniumDesk$Score" "upper" "[I", Cond.fieldLink RX1 19 "HarmoniumDesk$Score" "lower" "[I", Cond.methodLink RX3 110 yX3_mergeInto]
def wsX3_merge_r3 : List Cond := [Cond.static yX3_mergeInto, Cond.code yX3_mergeInto cX3_mergeInto 5 none, Cond.methodLink RX3 67 yX1_takeAll, Cond.instanceMethod yX1_takeAll, Cond.selects RX1 yX1_takeAll yX1_takeAll, Cond.code yX1_takeAll cX1_takeAll 3 none, Cond.methodLink RX1 26 yX1_takeBar, Cond.instanceMethod yX1_takeBar, Cond.selects RX1 yX1_takeBar yX1_takeBar, Cond.code yX1_takeBar cX1_takeBar 3 none, Cond.methodLink RX1 30 yX1_tone, Cond.instanceMethod yX1_tone, Cond.selects RX1 yX1_tone yX1_tone, Cond.code yX1_tone cX1_tone 4 (some .int), Cond.methodLink RX1 22 yX1_setTone, Cond.instanceMethod yX1_setTone, Cond.selects RX1 yX1_setTone yX1_setTone, Cond.code yX1_setTone cX1_setTone 5 none, Cond.methodLink RX3 198 yX1_sameBar, Cond.instanceMethod yX1_sameBar, Cond.selects RX1 yX1_sameBar yX1_sameBar, Cond.code yX1_sameBar cX1_sameBar 3 (some .boolean), Cond.methodLink RX3 202 yX1_takeBar]
def wsX3_merge : List Cond := .code yX3_merge cX3_merge 7 (some .int) :: ((wsX3_merge_r1 ++ (wsX3_merge_r2 ++ wsX3_merge_r3)) ++ wsX20 ++ wsX30 ++ wsX10 ++ (vx_atS RX3 46 "java/lang/IllegalArgumentException" ["java/lang/RuntimeException", "java/lang/Exception"]).filter goodWord ++ (vx_atS RX3 89 "java/lang/IllegalStateException" ["java/lang/RuntimeException", "java/lang/Exception"]).filter goodWord ++ (vx_atS RX3 118 "java/lang/IndexOutOfBoundsException" ["java/lang/RuntimeException", "java/lang/Exception"]).filter goodWord)
def wsX3_setWeight : List Cond := .code yX3_setWeight cX3_setWeight 4 (some .int) :: ([.classLink RX3 114 "java/lang/IndexOutOfBoundsException", .initialized "java/lang/IndexOutOfBoundsException", .classLink RX3 42 "java/lang/IllegalArgumentException", .initialized "java/lang/IllegalArgumentException", .fieldLink RX3 28 "HarmoniumDesk" "weights" "[I"] ++ wsX30 ++ (vx_atS RX3 118 "java/lang/IndexOutOfBoundsException" ["java/lang/RuntimeException", "java/lang/Exception"]).filter goodWord ++ (vx_atS RX3 46 "java/lang/IllegalArgumentException" ["java/lang/RuntimeException", "java/lang/Exception"]).filter goodWord)
def wsX3_setPass : List Cond := .code yX3_setPass cX3_setPass 3 (some .int) :: ([.classLink RX3 42 "java/lang/IllegalArgumentException", .initialized "java/lang/IllegalArgumentException", .fieldLink RX3 32 "HarmoniumDesk" "passMark" "I"] ++ wsX30 ++ (vx_atS RX3 46 "java/lang/IllegalArgumentException" ["java/lang/RuntimeException", "java/lang/Exception"]).filter goodWord)
def wsX3_faults_r1 : List Cond := [Cond.classLink RX3 114 "java/lang/IndexOutOfBoundsException", Cond.initialized "java/lang/IndexOutOfBoundsException", Cond.methodLink RX3 63 yX3_findVersion, Cond.instanceMethod yX3_findVersion, Cond.selects RX3 yX3_findVersion yX3_findVersion, Cond.initialized RX3, Cond.code yX3_findVersion cX3_findVersion 3 (some (.object "HarmoniumDesk$Version")), Cond.fieldLink RX3 11 "HarmoniumDesk" "versions" "[LHarmoniumDesk$Version;", Cond.methodLink RX3 79 yX3_checkBar, Cond.static yX3_checkBar, Cond.code yX3_checkBar cX3_checkBar 2 none, Cond.methodLink RX3 123 yX1_faultsOf, Cond.instanceMethod yX1_faultsOf, Cond.selects RX1 yX1_faultsOf yX1_faultsOf, Cond.initialized RX1, Cond.code yX1_faultsOf cX1_faultsOf 3 (some .int), Cond.methodLink RX1 37 yX1_isDiscord, Cond.instanceMethod yX1_isDiscord, Cond.selects RX1 yX1_isDiscord yX1_isDiscord, Cond.code yX1_isDiscord cX1_isDiscord 2 (some .boolean), Cond.methodLink RX1 59 yX1_interval, Cond.instanceMethod yX1_interval, Cond.selects RX1 yX1_interval yX1_interval, Cond.code yX1_interval cX1_interval 2 (some .int)]
def wsX3_faults_r2 : List Cond := [Cond.methodLink RX1 54 Lib.Math.abs.name, Cond.static Lib.Math.abs.name, Cond.initialized "java/lang/Math", Cond.code Lib.Math.abs.name Lib.Math.abs.code 1 (some .int), Cond.methodLink RX1 30 yX1_tone, Cond.instanceMethod yX1_tone, Cond.selects RX1 yX1_tone yX1_tone, Cond.code yX1_tone cX1_tone 4 (some .int), Cond.fieldLink RX1 15 "HarmoniumDesk$Score" "upper" "[I", Cond.fieldLink RX1 19 "HarmoniumDesk$Score" "lower" "[I", Cond.methodLink RX1 41 yX1_isParallel, Cond.instanceMethod yX1_isParallel, Cond.selects RX1 yX1_isParallel yX1_isParallel, Cond.code yX1_isParallel cX1_isParallel 2 (some .boolean), Cond.methodLink RX1 34 yX1_stepTo, Cond.instanceMethod yX1_stepTo, Cond.selects RX1 yX1_stepTo yX1_stepTo, Cond.code yX1_stepTo cX1_stepTo 3 (some .int), Cond.methodLink RX1 62 yX1_isPerfect, Cond.static yX1_isPerfect, Cond.code yX1_isPerfect cX1_isPerfect 1 (some .boolean), Cond.methodLink RX1 44 yX1_leapsTo, Cond.instanceMethod yX1_leapsTo, Cond.selects RX1 yX1_leapsTo yX1_leapsTo]
def wsX3_faults_r3 : List Cond := [Cond.code yX1_leapsTo cX1_leapsTo 4 (some .int), Cond.methodLink RX1 48 yX1_badEndsAt, Cond.instanceMethod yX1_badEndsAt, Cond.selects RX1 yX1_badEndsAt yX1_badEndsAt, Cond.code yX1_badEndsAt cX1_badEndsAt 4 (some .int), Cond.fieldLink RX1 9 "HarmoniumDesk$Score" "bars" "I", Cond.methodLink RX1 51 yX1_isStanding, Cond.instanceMethod yX1_isStanding, Cond.selects RX1 yX1_isStanding yX1_isStanding, Cond.code yX1_isStanding cX1_isStanding 2 (some .boolean)]
def wsX3_faults : List Cond := .code yX3_faults cX3_faults 5 (some .int) :: ((wsX3_faults_r1 ++ (wsX3_faults_r2 ++ wsX3_faults_r3)) ++ wsX20 ++ wsX30 ++ wsX10 ++ (vx_atS RX3 118 "java/lang/IndexOutOfBoundsException" ["java/lang/RuntimeException", "java/lang/Exception"]).filter goodWord)
def wsX3_weightedFaults_r1 : List Cond := [Cond.fieldLink RX3 28 "HarmoniumDesk" "weights" "[I", Cond.methodLink RX3 123 yX1_faultsOf, Cond.instanceMethod yX1_faultsOf, Cond.selects RX1 yX1_faultsOf yX1_faultsOf, Cond.initialized RX1, Cond.code yX1_faultsOf cX1_faultsOf 3 (some .int), Cond.methodLink RX1 37 yX1_isDiscord, Cond.instanceMethod yX1_isDiscord, Cond.selects RX1 yX1_isDiscord yX1_isDiscord, Cond.code yX1_isDiscord cX1_isDiscord 2 (some .boolean), Cond.methodLink RX1 59 yX1_interval, Cond.instanceMethod yX1_interval, Cond.selects RX1 yX1_interval yX1_interval, Cond.code yX1_interval cX1_interval 2 (some .int), Cond.methodLink RX1 54 Lib.Math.abs.name, Cond.static Lib.Math.abs.name, Cond.initialized "java/lang/Math", Cond.code Lib.Math.abs.name Lib.Math.abs.code 1 (some .int), Cond.methodLink RX1 30 yX1_tone, Cond.instanceMethod yX1_tone, Cond.selects RX1 yX1_tone yX1_tone, Cond.code yX1_tone cX1_tone 4 (some .int), Cond.fieldLink RX1 15 "HarmoniumDesk$Score" "upper" "[I", Cond.fieldLink RX1 19 "HarmoniumDesk$Score" "lower" "[I"]
def wsX3_weightedFaults_r2 : List Cond := [Cond.methodLink RX1 41 yX1_isParallel, Cond.instanceMethod yX1_isParallel, Cond.selects RX1 yX1_isParallel yX1_isParallel, Cond.code yX1_isParallel cX1_isParallel 2 (some .boolean), Cond.methodLink RX1 34 yX1_stepTo, Cond.instanceMethod yX1_stepTo, Cond.selects RX1 yX1_stepTo yX1_stepTo, Cond.code yX1_stepTo cX1_stepTo 3 (some .int), Cond.methodLink RX1 62 yX1_isPerfect, Cond.static yX1_isPerfect, Cond.code yX1_isPerfect cX1_isPerfect 1 (some .boolean), Cond.methodLink RX1 44 yX1_leapsTo, Cond.instanceMethod yX1_leapsTo, Cond.selects RX1 yX1_leapsTo yX1_leapsTo, Cond.code yX1_leapsTo cX1_leapsTo 4 (some .int), Cond.methodLink RX1 48 yX1_badEndsAt, Cond.instanceMethod yX1_badEndsAt, Cond.selects RX1 yX1_badEndsAt yX1_badEndsAt, Cond.code yX1_badEndsAt cX1_badEndsAt 4 (some .int), Cond.fieldLink RX1 9 "HarmoniumDesk$Score" "bars" "I", Cond.methodLink RX1 51 yX1_isStanding, Cond.instanceMethod yX1_isStanding, Cond.selects RX1 yX1_isStanding yX1_isStanding, Cond.code yX1_isStanding cX1_isStanding 2 (some .boolean)]
def wsX3_weightedFaults : List Cond := .code yX3_weightedFaults cX3_weightedFaults 7 (some .int) :: ((wsX3_weightedFaults_r1 ++ wsX3_weightedFaults_r2) ++ wsX30 ++ wsX10)
def wsX3_markOf_r1 : List Cond := [Cond.methodLink RX3 210 Lib.Math.max.name, Cond.static Lib.Math.max.name, Cond.initialized "java/lang/Math", Cond.code Lib.Math.max.name Lib.Math.max.code 2 (some .int), Cond.methodLink RX3 206 yX3_weightedFaults, Cond.instanceMethod yX3_weightedFaults, Cond.selects RX3 yX3_weightedFaults yX3_weightedFaults, Cond.initialized RX3, Cond.code yX3_weightedFaults cX3_weightedFaults 7 (some .int), Cond.fieldLink RX3 28 "HarmoniumDesk" "weights" "[I", Cond.methodLink RX3 123 yX1_faultsOf, Cond.instanceMethod yX1_faultsOf, Cond.selects RX1 yX1_faultsOf yX1_faultsOf, Cond.initialized RX1, Cond.code yX1_faultsOf cX1_faultsOf 3 (some .int), Cond.methodLink RX1 37 yX1_isDiscord, Cond.instanceMethod yX1_isDiscord, Cond.selects RX1 yX1_isDiscord yX1_isDiscord, Cond.code yX1_isDiscord cX1_isDiscord 2 (some .boolean), Cond.methodLink RX1 59 yX1_interval, Cond.instanceMethod yX1_interval, Cond.selects RX1 yX1_interval yX1_interval, Cond.code yX1_interval cX1_interval 2 (some .int), Cond.methodLink RX1 54 Lib.Math.abs.name]
def wsX3_markOf_r2 : List Cond := [Cond.static Lib.Math.abs.name, Cond.code Lib.Math.abs.name Lib.Math.abs.code 1 (some .int), Cond.methodLink RX1 30 yX1_tone, Cond.instanceMethod yX1_tone, Cond.selects RX1 yX1_tone yX1_tone, Cond.code yX1_tone cX1_tone 4 (some .int), Cond.fieldLink RX1 15 "HarmoniumDesk$Score" "upper" "[I", Cond.fieldLink RX1 19 "HarmoniumDesk$Score" "lower" "[I", Cond.methodLink RX1 41 yX1_isParallel, Cond.instanceMethod yX1_isParallel, Cond.selects RX1 yX1_isParallel yX1_isParallel, Cond.code yX1_isParallel cX1_isParallel 2 (some .boolean), Cond.methodLink RX1 34 yX1_stepTo, Cond.instanceMethod yX1_stepTo, Cond.selects RX1 yX1_stepTo yX1_stepTo, Cond.code yX1_stepTo cX1_stepTo 3 (some .int), Cond.methodLink RX1 62 yX1_isPerfect, Cond.static yX1_isPerfect, Cond.code yX1_isPerfect cX1_isPerfect 1 (some .boolean), Cond.methodLink RX1 44 yX1_leapsTo, Cond.instanceMethod yX1_leapsTo, Cond.selects RX1 yX1_leapsTo yX1_leapsTo, Cond.code yX1_leapsTo cX1_leapsTo 4 (some .int), Cond.methodLink RX1 48 yX1_badEndsAt]
def wsX3_markOf_r3 : List Cond := [Cond.instanceMethod yX1_badEndsAt, Cond.selects RX1 yX1_badEndsAt yX1_badEndsAt, Cond.code yX1_badEndsAt cX1_badEndsAt 4 (some .int), Cond.fieldLink RX1 9 "HarmoniumDesk$Score" "bars" "I", Cond.methodLink RX1 51 yX1_isStanding, Cond.instanceMethod yX1_isStanding, Cond.selects RX1 yX1_isStanding yX1_isStanding, Cond.code yX1_isStanding cX1_isStanding 2 (some .boolean)]
def wsX3_markOf : List Cond := .code yX3_markOf cX3_markOf 2 (some .int) :: ((wsX3_markOf_r1 ++ (wsX3_markOf_r2 ++ wsX3_markOf_r3)) ++ wsX10 ++ wsX30)
def wsX3_mark_r1 : List Cond := [Cond.methodLink RX3 63 yX3_findVersion, Cond.instanceMethod yX3_findVersion, Cond.selects RX3 yX3_findVersion yX3_findVersion, Cond.initialized RX3, Cond.code yX3_findVersion cX3_findVersion 3 (some (.object "HarmoniumDesk$Version")), Cond.classLink RX3 114 "java/lang/IndexOutOfBoundsException", Cond.initialized "java/lang/IndexOutOfBoundsException", Cond.fieldLink RX3 11 "HarmoniumDesk" "versions" "[LHarmoniumDesk$Version;", Cond.methodLink RX3 126 yX3_markOf, Cond.instanceMethod yX3_markOf, Cond.selects RX3 yX3_markOf yX3_markOf, Cond.code yX3_markOf cX3_markOf 2 (some .int), Cond.methodLink RX3 210 Lib.Math.max.name, Cond.static Lib.Math.max.name, Cond.initialized "java/lang/Math", Cond.code Lib.Math.max.name Lib.Math.max.code 2 (some .int), Cond.methodLink RX3 206 yX3_weightedFaults, Cond.instanceMethod yX3_weightedFaults, Cond.selects RX3 yX3_weightedFaults yX3_weightedFaults, Cond.code yX3_weightedFaults cX3_weightedFaults 7 (some .int), Cond.fieldLink RX3 28 "HarmoniumDesk" "weights" "[I", Cond.methodLink RX3 123 yX1_faultsOf, Cond.instanceMethod yX1_faultsOf, Cond.selects RX1 yX1_faultsOf yX1_faultsOf]
def wsX3_mark_r2 : List Cond := [Cond.initialized RX1, Cond.code yX1_faultsOf cX1_faultsOf 3 (some .int), Cond.methodLink RX1 37 yX1_isDiscord, Cond.instanceMethod yX1_isDiscord, Cond.selects RX1 yX1_isDiscord yX1_isDiscord, Cond.code yX1_isDiscord cX1_isDiscord 2 (some .boolean), Cond.methodLink RX1 59 yX1_interval, Cond.instanceMethod yX1_interval, Cond.selects RX1 yX1_interval yX1_interval, Cond.code yX1_interval cX1_interval 2 (some .int), Cond.methodLink RX1 54 Lib.Math.abs.name, Cond.static Lib.Math.abs.name, Cond.code Lib.Math.abs.name Lib.Math.abs.code 1 (some .int), Cond.methodLink RX1 30 yX1_tone, Cond.instanceMethod yX1_tone, Cond.selects RX1 yX1_tone yX1_tone, Cond.code yX1_tone cX1_tone 4 (some .int), Cond.fieldLink RX1 15 "HarmoniumDesk$Score" "upper" "[I", Cond.fieldLink RX1 19 "HarmoniumDesk$Score" "lower" "[I", Cond.methodLink RX1 41 yX1_isParallel, Cond.instanceMethod yX1_isParallel, Cond.selects RX1 yX1_isParallel yX1_isParallel, Cond.code yX1_isParallel cX1_isParallel 2 (some .boolean), Cond.methodLink RX1 34 yX1_stepTo]
def wsX3_mark_r3 : List Cond := [Cond.instanceMethod yX1_stepTo, Cond.selects RX1 yX1_stepTo yX1_stepTo, Cond.code yX1_stepTo cX1_stepTo 3 (some .int), Cond.methodLink RX1 62 yX1_isPerfect, Cond.static yX1_isPerfect, Cond.code yX1_isPerfect cX1_isPerfect 1 (some .boolean), Cond.methodLink RX1 44 yX1_leapsTo, Cond.instanceMethod yX1_leapsTo, Cond.selects RX1 yX1_leapsTo yX1_leapsTo, Cond.code yX1_leapsTo cX1_leapsTo 4 (some .int), Cond.methodLink RX1 48 yX1_badEndsAt, Cond.instanceMethod yX1_badEndsAt, Cond.selects RX1 yX1_badEndsAt yX1_badEndsAt, Cond.code yX1_badEndsAt cX1_badEndsAt 4 (some .int), Cond.fieldLink RX1 9 "HarmoniumDesk$Score" "bars" "I", Cond.methodLink RX1 51 yX1_isStanding, Cond.instanceMethod yX1_isStanding, Cond.selects RX1 yX1_isStanding yX1_isStanding, Cond.code yX1_isStanding cX1_isStanding 2 (some .boolean)]
def wsX3_mark : List Cond := .code yX3_mark cX3_mark 2 (some .int) :: ((wsX3_mark_r1 ++ (wsX3_mark_r2 ++ wsX3_mark_r3)) ++ wsX20 ++ wsX30 ++ wsX10 ++ (vx_atS RX3 118 "java/lang/IndexOutOfBoundsException" ["java/lang/RuntimeException", "java/lang/Exception"]).filter goodWord)
def wsX3_handIn_r1 : List Cond := [Cond.fieldLink RX3 32 "HarmoniumDesk" "passMark" "I", Cond.methodLink RX3 63 yX3_findVersion, Cond.instanceMethod yX3_findVersion, Cond.selects RX3 yX3_findVersion yX3_findVersion, Cond.initialized RX3, Cond.code yX3_findVersion cX3_findVersion 3 (some (.object "HarmoniumDesk$Version")), Cond.classLink RX3 114 "java/lang/IndexOutOfBoundsException", Cond.initialized "java/lang/IndexOutOfBoundsException", Cond.fieldLink RX3 11 "HarmoniumDesk" "versions" "[LHarmoniumDesk$Version;", Cond.methodLink RX3 126 yX3_markOf, Cond.instanceMethod yX3_markOf, Cond.selects RX3 yX3_markOf yX3_markOf, Cond.code yX3_markOf cX3_markOf 2 (some .int), Cond.methodLink RX3 210 Lib.Math.max.name, Cond.static Lib.Math.max.name, Cond.initialized "java/lang/Math", Cond.code Lib.Math.max.name Lib.Math.max.code 2 (some .int), Cond.methodLink RX3 206 yX3_weightedFaults, Cond.instanceMethod yX3_weightedFaults, Cond.selects RX3 yX3_weightedFaults yX3_weightedFaults, Cond.code yX3_weightedFaults cX3_weightedFaults 7 (some .int), Cond.fieldLink RX3 28 "HarmoniumDesk" "weights" "[I", Cond.methodLink RX3 123 yX1_faultsOf, Cond.instanceMethod yX1_faultsOf]
def wsX3_handIn_r2 : List Cond := [Cond.selects RX1 yX1_faultsOf yX1_faultsOf, Cond.initialized RX1, Cond.code yX1_faultsOf cX1_faultsOf 3 (some .int), Cond.methodLink RX1 37 yX1_isDiscord, Cond.instanceMethod yX1_isDiscord, Cond.selects RX1 yX1_isDiscord yX1_isDiscord, Cond.code yX1_isDiscord cX1_isDiscord 2 (some .boolean), Cond.methodLink RX1 59 yX1_interval, Cond.instanceMethod yX1_interval, Cond.selects RX1 yX1_interval yX1_interval, Cond.code yX1_interval cX1_interval 2 (some .int), Cond.methodLink RX1 54 Lib.Math.abs.name, Cond.static Lib.Math.abs.name, Cond.code Lib.Math.abs.name Lib.Math.abs.code 1 (some .int), Cond.methodLink RX1 30 yX1_tone, Cond.instanceMethod yX1_tone, Cond.selects RX1 yX1_tone yX1_tone, Cond.code yX1_tone cX1_tone 4 (some .int), Cond.fieldLink RX1 15 "HarmoniumDesk$Score" "upper" "[I", Cond.fieldLink RX1 19 "HarmoniumDesk$Score" "lower" "[I", Cond.methodLink RX1 41 yX1_isParallel, Cond.instanceMethod yX1_isParallel, Cond.selects RX1 yX1_isParallel yX1_isParallel, Cond.code yX1_isParallel cX1_isParallel 2 (some .boolean)]
def wsX3_handIn_r3 : List Cond := [Cond.methodLink RX1 34 yX1_stepTo, Cond.instanceMethod yX1_stepTo, Cond.selects RX1 yX1_stepTo yX1_stepTo, Cond.code yX1_stepTo cX1_stepTo 3 (some .int), Cond.methodLink RX1 62 yX1_isPerfect, Cond.static yX1_isPerfect, Cond.code yX1_isPerfect cX1_isPerfect 1 (some .boolean), Cond.methodLink RX1 44 yX1_leapsTo, Cond.instanceMethod yX1_leapsTo, Cond.selects RX1 yX1_leapsTo yX1_leapsTo, Cond.code yX1_leapsTo cX1_leapsTo 4 (some .int), Cond.methodLink RX1 48 yX1_badEndsAt, Cond.instanceMethod yX1_badEndsAt, Cond.selects RX1 yX1_badEndsAt yX1_badEndsAt, Cond.code yX1_badEndsAt cX1_badEndsAt 4 (some .int), Cond.fieldLink RX1 9 "HarmoniumDesk$Score" "bars" "I", Cond.methodLink RX1 51 yX1_isStanding, Cond.instanceMethod yX1_isStanding, Cond.selects RX1 yX1_isStanding yX1_isStanding, Cond.code yX1_isStanding cX1_isStanding 2 (some .boolean)]
def wsX3_handIn : List Cond := .code yX3_handIn cX3_handIn 3 (some .boolean) :: ((wsX3_handIn_r1 ++ (wsX3_handIn_r2 ++ wsX3_handIn_r3)) ++ wsX20 ++ wsX30 ++ wsX10 ++ (vx_atS RX3 118 "java/lang/IndexOutOfBoundsException" ["java/lang/RuntimeException", "java/lang/Exception"]).filter goodWord)
def wsX3_fallen_r1 : List Cond := [Cond.fieldLink RX3 11 "HarmoniumDesk" "versions" "[LHarmoniumDesk$Version;", Cond.fieldLink RX3 32 "HarmoniumDesk" "passMark" "I", Cond.methodLink RX3 126 yX3_markOf, Cond.instanceMethod yX3_markOf, Cond.selects RX3 yX3_markOf yX3_markOf, Cond.initialized RX3, Cond.code yX3_markOf cX3_markOf 2 (some .int), Cond.methodLink RX3 210 Lib.Math.max.name, Cond.static Lib.Math.max.name, Cond.initialized "java/lang/Math", Cond.code Lib.Math.max.name Lib.Math.max.code 2 (some .int), Cond.methodLink RX3 206 yX3_weightedFaults, Cond.instanceMethod yX3_weightedFaults, Cond.selects RX3 yX3_weightedFaults yX3_weightedFaults, Cond.code yX3_weightedFaults cX3_weightedFaults 7 (some .int), Cond.fieldLink RX3 28 "HarmoniumDesk" "weights" "[I", Cond.methodLink RX3 123 yX1_faultsOf, Cond.instanceMethod yX1_faultsOf, Cond.selects RX1 yX1_faultsOf yX1_faultsOf, Cond.initialized RX1, Cond.code yX1_faultsOf cX1_faultsOf 3 (some .int), Cond.methodLink RX1 37 yX1_isDiscord, Cond.instanceMethod yX1_isDiscord, Cond.selects RX1 yX1_isDiscord yX1_isDiscord]
def wsX3_fallen_r2 : List Cond := [Cond.code yX1_isDiscord cX1_isDiscord 2 (some .boolean), Cond.methodLink RX1 59 yX1_interval, Cond.instanceMethod yX1_interval, Cond.selects RX1 yX1_interval yX1_interval, Cond.code yX1_interval cX1_interval 2 (some .int), Cond.methodLink RX1 54 Lib.Math.abs.name, Cond.static Lib.Math.abs.name, Cond.code Lib.Math.abs.name Lib.Math.abs.code 1 (some .int), Cond.methodLink RX1 30 yX1_tone, Cond.instanceMethod yX1_tone, Cond.selects RX1 yX1_tone yX1_tone, Cond.code yX1_tone cX1_tone 4 (some .int), Cond.fieldLink RX1 15 "HarmoniumDesk$Score" "upper" "[I", Cond.fieldLink RX1 19 "HarmoniumDesk$Score" "lower" "[I", Cond.methodLink RX1 41 yX1_isParallel, Cond.instanceMethod yX1_isParallel, Cond.selects RX1 yX1_isParallel yX1_isParallel, Cond.code yX1_isParallel cX1_isParallel 2 (some .boolean), Cond.methodLink RX1 34 yX1_stepTo, Cond.instanceMethod yX1_stepTo, Cond.selects RX1 yX1_stepTo yX1_stepTo, Cond.code yX1_stepTo cX1_stepTo 3 (some .int), Cond.methodLink RX1 62 yX1_isPerfect, Cond.static yX1_isPerfect]
def wsX3_fallen_r3 : List Cond := [Cond.code yX1_isPerfect cX1_isPerfect 1 (some .boolean), Cond.methodLink RX1 44 yX1_leapsTo, Cond.instanceMethod yX1_leapsTo, Cond.selects RX1 yX1_leapsTo yX1_leapsTo, Cond.code yX1_leapsTo cX1_leapsTo 4 (some .int), Cond.methodLink RX1 48 yX1_badEndsAt, Cond.instanceMethod yX1_badEndsAt, Cond.selects RX1 yX1_badEndsAt yX1_badEndsAt, Cond.code yX1_badEndsAt cX1_badEndsAt 4 (some .int), Cond.fieldLink RX1 9 "HarmoniumDesk$Score" "bars" "I", Cond.methodLink RX1 51 yX1_isStanding, Cond.instanceMethod yX1_isStanding, Cond.selects RX1 yX1_isStanding yX1_isStanding, Cond.code yX1_isStanding cX1_isStanding 2 (some .boolean)]
def wsX3_fallen : List Cond := .code yX3_fallen cX3_fallen 4 (some .int) :: ((wsX3_fallen_r1 ++ (wsX3_fallen_r2 ++ wsX3_fallen_r3)) ++ wsX30 ++ wsX20 ++ wsX10)
def wsX3_bestTone_r1 : List Cond := [Cond.fieldLink RX3 38 "HarmoniumDesk" "trial" "LHarmoniumDesk$Score;", Cond.methodLink RX3 215 Lib.Math.min.name, Cond.static Lib.Math.min.name, Cond.initialized "java/lang/Math", Cond.code Lib.Math.min.name Lib.Math.min.code 2 (some .int), Cond.methodLink RX3 94 yX1_setTone, Cond.instanceMethod yX1_setTone, Cond.selects RX1 yX1_setTone yX1_setTone, Cond.initialized RX1, Cond.code yX1_setTone cX1_setTone 5 none, Cond.fieldLink RX1 15 "HarmoniumDesk$Score" "upper" "[I", Cond.fieldLink RX1 19 "HarmoniumDesk$Score" "lower" "[I", Cond.methodLink RX3 206 yX3_weightedFaults, Cond.instanceMethod yX3_weightedFaults, Cond.selects RX3 yX3_weightedFaults yX3_weightedFaults, Cond.initialized RX3, Cond.code yX3_weightedFaults cX3_weightedFaults 7 (some .int), Cond.fieldLink RX3 28 "HarmoniumDesk" "weights" "[I", Cond.methodLink RX3 123 yX1_faultsOf, Cond.instanceMethod yX1_faultsOf, Cond.selects RX1 yX1_faultsOf yX1_faultsOf, Cond.code yX1_faultsOf cX1_faultsOf 3 (some .int), Cond.methodLink RX1 37 yX1_isDiscord, Cond.instanceMethod yX1_isDiscord]
def wsX3_bestTone_r2 : List Cond := [Cond.selects RX1 yX1_isDiscord yX1_isDiscord, Cond.code yX1_isDiscord cX1_isDiscord 2 (some .boolean), Cond.methodLink RX1 59 yX1_interval, Cond.instanceMethod yX1_interval, Cond.selects RX1 yX1_interval yX1_interval, Cond.code yX1_interval cX1_interval 2 (some .int), Cond.methodLink RX1 54 Lib.Math.abs.name, Cond.static Lib.Math.abs.name, Cond.code Lib.Math.abs.name Lib.Math.abs.code 1 (some .int), Cond.methodLink RX1 30 yX1_tone, Cond.instanceMethod yX1_tone, Cond.selects RX1 yX1_tone yX1_tone, Cond.code yX1_tone cX1_tone 4 (some .int), Cond.methodLink RX1 41 yX1_isParallel, Cond.instanceMethod yX1_isParallel, Cond.selects RX1 yX1_isParallel yX1_isParallel, Cond.code yX1_isParallel cX1_isParallel 2 (some .boolean), Cond.methodLink RX1 34 yX1_stepTo, Cond.instanceMethod yX1_stepTo, Cond.selects RX1 yX1_stepTo yX1_stepTo, Cond.code yX1_stepTo cX1_stepTo 3 (some .int), Cond.methodLink RX1 62 yX1_isPerfect, Cond.static yX1_isPerfect, Cond.code yX1_isPerfect cX1_isPerfect 1 (some .boolean)]
def wsX3_bestTone_r3 : List Cond := [Cond.methodLink RX1 44 yX1_leapsTo, Cond.instanceMethod yX1_leapsTo, Cond.selects RX1 yX1_leapsTo yX1_leapsTo, Cond.code yX1_leapsTo cX1_leapsTo 4 (some .int), Cond.methodLink RX1 48 yX1_badEndsAt, Cond.instanceMethod yX1_badEndsAt, Cond.selects RX1 yX1_badEndsAt yX1_badEndsAt, Cond.code yX1_badEndsAt cX1_badEndsAt 4 (some .int), Cond.fieldLink RX1 9 "HarmoniumDesk$Score" "bars" "I", Cond.methodLink RX1 51 yX1_isStanding, Cond.instanceMethod yX1_isStanding, Cond.selects RX1 yX1_isStanding yX1_isStanding, Cond.code yX1_isStanding cX1_isStanding 2 (some .boolean)]
def wsX3_bestTone : List Cond := .code yX3_bestTone cX3_bestTone 8 (some .int) :: ((wsX3_bestTone_r1 ++ (wsX3_bestTone_r2 ++ wsX3_bestTone_r3)) ++ wsX30 ++ wsX10)
def wsX3_best_r1 : List Cond := [Cond.fieldLink RX3 38 "HarmoniumDesk" "trial" "LHarmoniumDesk$Score;", Cond.methodLink RX3 63 yX3_findVersion, Cond.instanceMethod yX3_findVersion, Cond.selects RX3 yX3_findVersion yX3_findVersion, Cond.initialized RX3, Cond.code yX3_findVersion cX3_findVersion 3 (some (.object "HarmoniumDesk$Version")), Cond.classLink RX3 114 "java/lang/IndexOutOfBoundsException", Cond.initialized "java/lang/IndexOutOfBoundsException", Cond.fieldLink RX3 11 "HarmoniumDesk" "versions" "[LHarmoniumDesk$Version;", Cond.methodLink RX3 75 yX3_checkVoice, Cond.static yX3_checkVoice, Cond.code yX3_checkVoice cX3_checkVoice 1 none, Cond.methodLink RX3 79 yX3_checkBar, Cond.static yX3_checkBar, Cond.code yX3_checkBar cX3_checkBar 2 none, Cond.methodLink RX3 67 yX1_takeAll, Cond.instanceMethod yX1_takeAll, Cond.selects RX1 yX1_takeAll yX1_takeAll, Cond.initialized RX1, Cond.code yX1_takeAll cX1_takeAll 3 none, Cond.fieldLink RX1 9 "HarmoniumDesk$Score" "bars" "I", Cond.methodLink RX1 26 yX1_takeBar, Cond.instanceMethod yX1_takeBar, Cond.selects RX1 yX1_takeBar yX1_takeBar]
def wsX3_best_r2 : List Cond := [Cond.code yX1_takeBar cX1_takeBar 3 none, Cond.methodLink RX1 30 yX1_tone, Cond.instanceMethod yX1_tone, Cond.selects RX1 yX1_tone yX1_tone, Cond.code yX1_tone cX1_tone 4 (some .int), Cond.fieldLink RX1 15 "HarmoniumDesk$Score" "upper" "[I", Cond.fieldLink RX1 19 "HarmoniumDesk$Score" "lower" "[I", Cond.methodLink RX1 22 yX1_setTone, Cond.instanceMethod yX1_setTone, Cond.selects RX1 yX1_setTone yX1_setTone, Cond.code yX1_setTone cX1_setTone 5 none, Cond.methodLink RX3 133 yX3_bestTone, Cond.instanceMethod yX3_bestTone, Cond.selects RX3 yX3_bestTone yX3_bestTone, Cond.code yX3_bestTone cX3_bestTone 8 (some .int), Cond.methodLink RX3 215 Lib.Math.min.name, Cond.static Lib.Math.min.name, Cond.initialized "java/lang/Math", Cond.code Lib.Math.min.name Lib.Math.min.code 2 (some .int), Cond.methodLink RX3 94 yX1_setTone, Cond.methodLink RX3 206 yX3_weightedFaults, Cond.instanceMethod yX3_weightedFaults, Cond.selects RX3 yX3_weightedFaults yX3_weightedFaults, Cond.code yX3_weightedFaults cX3_weightedFaults 7 (some .int)]
def wsX3_best_r3 : List Cond := [Cond.fieldLink RX3 28 "HarmoniumDesk" "weights" "[I", Cond.methodLink RX3 123 yX1_faultsOf, Cond.instanceMethod yX1_faultsOf, Cond.selects RX1 yX1_faultsOf yX1_faultsOf, Cond.code yX1_faultsOf cX1_faultsOf 3 (some .int), Cond.methodLink RX1 37 yX1_isDiscord, Cond.instanceMethod yX1_isDiscord, Cond.selects RX1 yX1_isDiscord yX1_isDiscord, Cond.code yX1_isDiscord cX1_isDiscord 2 (some .boolean), Cond.methodLink RX1 59 yX1_interval, Cond.instanceMethod yX1_interval, Cond.selects RX1 yX1_interval yX1_interval, Cond.code yX1_interval cX1_interval 2 (some .int), Cond.methodLink RX1 54 Lib.Math.abs.name, Cond.static Lib.Math.abs.name, Cond.code Lib.Math.abs.name Lib.Math.abs.code 1 (some .int), Cond.methodLink RX1 41 yX1_isParallel, Cond.instanceMethod yX1_isParallel, Cond.selects RX1 yX1_isParallel yX1_isParallel, Cond.code yX1_isParallel cX1_isParallel 2 (some .boolean), Cond.methodLink RX1 34 yX1_stepTo, Cond.instanceMethod yX1_stepTo, Cond.selects RX1 yX1_stepTo yX1_stepTo, Cond.code yX1_stepTo cX1_stepTo 3 (some .int)]
def wsX3_best_r4 : List Cond := [Cond.methodLink RX1 62 yX1_isPerfect, Cond.static yX1_isPerfect, Cond.code yX1_isPerfect cX1_isPerfect 1 (some .boolean), Cond.methodLink RX1 44 yX1_leapsTo, Cond.instanceMethod yX1_leapsTo, Cond.selects RX1 yX1_leapsTo yX1_leapsTo, Cond.code yX1_leapsTo cX1_leapsTo 4 (some .int), Cond.methodLink RX1 48 yX1_badEndsAt, Cond.instanceMethod yX1_badEndsAt, Cond.selects RX1 yX1_badEndsAt yX1_badEndsAt, Cond.code yX1_badEndsAt cX1_badEndsAt 4 (some .int), Cond.methodLink RX1 51 yX1_isStanding, Cond.instanceMethod yX1_isStanding, Cond.selects RX1 yX1_isStanding yX1_isStanding, Cond.code yX1_isStanding cX1_isStanding 2 (some .boolean)]
def wsX3_best : List Cond := .code yX3_best cX3_best 5 (some .int) :: ((wsX3_best_r1 ++ (wsX3_best_r2 ++ (wsX3_best_r3 ++ wsX3_best_r4))) ++ wsX30 ++ wsX20 ++ wsX10 ++ (vx_atS RX3 118 "java/lang/IndexOutOfBoundsException" ["java/lang/RuntimeException", "java/lang/Exception"]).filter goodWord)
def wsX3_movement_r1 : List Cond := [Cond.methodLink RX3 63 yX3_findVersion, Cond.instanceMethod yX3_findVersion, Cond.selects RX3 yX3_findVersion yX3_findVersion, Cond.initialized RX3, Cond.code yX3_findVersion cX3_findVersion 3 (some (.object "HarmoniumDesk$Version")), Cond.classLink RX3 114 "java/lang/IndexOutOfBoundsException", Cond.initialized "java/lang/IndexOutOfBoundsException", Cond.fieldLink RX3 11 "HarmoniumDesk" "versions" "[LHarmoniumDesk$Version;", Cond.methodLink RX3 75 yX3_checkVoice, Cond.static yX3_checkVoice, Cond.code yX3_checkVoice cX3_checkVoice 1 none, Cond.methodLink RX3 139 yX1_wayOf, Cond.instanceMethod yX1_wayOf, Cond.selects RX1 yX1_wayOf yX1_wayOf, Cond.initialized RX1, Cond.code yX1_wayOf cX1_wayOf 4 (some .int), Cond.fieldLink RX1 9 "HarmoniumDesk$Score" "bars" "I", Cond.methodLink RX1 34 yX1_stepTo, Cond.instanceMethod yX1_stepTo, Cond.selects RX1 yX1_stepTo yX1_stepTo, Cond.code yX1_stepTo cX1_stepTo 3 (some .int), Cond.methodLink RX1 54 Lib.Math.abs.name, Cond.static Lib.Math.abs.name, Cond.initialized "java/lang/Math"]
def wsX3_movement_r2 : List Cond := [Cond.code Lib.Math.abs.name Lib.Math.abs.code 1 (some .int), Cond.methodLink RX1 30 yX1_tone, Cond.instanceMethod yX1_tone, Cond.selects RX1 yX1_tone yX1_tone, Cond.code yX1_tone cX1_tone 4 (some .int), Cond.fieldLink RX1 15 "HarmoniumDesk$Score" "upper" "[I", Cond.fieldLink RX1 19 "HarmoniumDesk$Score" "lower" "[I"]
def wsX3_movement : List Cond := .code yX3_movement cX3_movement 5 (some .float) :: ((wsX3_movement_r1 ++ wsX3_movement_r2) ++ wsX20 ++ wsX10 ++ wsX30 ++ (vx_atS RX3 118 "java/lang/IndexOutOfBoundsException" ["java/lang/RuntimeException", "java/lang/Exception"]).filter goodWord)
def wsX3_addCopy_r1 : List Cond := [Cond.classLink RX3 85 "java/lang/IllegalStateException", Cond.initialized "java/lang/IllegalStateException", Cond.fieldLink RX3 25 "HarmoniumDesk" "copyCount" "I", Cond.fieldLink RX3 21 "HarmoniumDesk" "copies" "[LHarmoniumDesk$Copy;", Cond.classLink RX3 19 RX0, Cond.instantiable RX0 4, Cond.initialized RX0, Cond.methodLink RX3 187 yX0_init, Cond.instanceMethod yX0_init, Cond.code yX0_init cX0_init 3 none, Cond.methodLink RX0 3 objectInit, Cond.instanceMethod objectInit, Cond.code objectInit ⟨#[0xb1]⟩ 1 none, Cond.arrayClass .int, Cond.fieldLink RX0 9 "HarmoniumDesk$Copy" "tones" "[I", Cond.fieldLink RX0 15 "HarmoniumDesk$Copy" "slipCount" "I", Cond.fieldLink RX0 19 "HarmoniumDesk$Copy" "voice" "I", Cond.fieldLink RX0 27 "HarmoniumDesk$Copy" "bars" "I", Cond.methodLink RX0 28 yX0_takeVoice, Cond.instanceMethod yX0_takeVoice, Cond.selects RX0 yX0_takeVoice yX0_takeVoice, Cond.code yX0_takeVoice cX0_takeVoice 3 none, Cond.methodLink RX0 32 yX1_tone, Cond.instanceMethod yX1_tone]
def wsX3_addCopy_r2 : List Cond := [Cond.selects RX1 yX1_tone yX1_tone, Cond.initialized RX1, Cond.code yX1_tone cX1_tone 4 (some .int), Cond.fieldLink RX1 15 "HarmoniumDesk$Score" "upper" "[I", Cond.fieldLink RX1 19 "HarmoniumDesk$Score" "lower" "[I"]
def wsX3_addCopy : List Cond := .code yX3_addCopy cX3_addCopy 4 (some .int) :: ((wsX3_addCopy_r1 ++ wsX3_addCopy_r2) ++ wsX30 ++ wsX00 ++ wsX10 ++ (vx_atS RX3 89 "java/lang/IllegalStateException" ["java/lang/RuntimeException", "java/lang/Exception"]).filter goodWord)
def wsX3_print_r1 : List Cond := [Cond.methodLink RX3 63 yX3_findVersion, Cond.instanceMethod yX3_findVersion, Cond.selects RX3 yX3_findVersion yX3_findVersion, Cond.initialized RX3, Cond.code yX3_findVersion cX3_findVersion 3 (some (.object "HarmoniumDesk$Version")), Cond.classLink RX3 114 "java/lang/IndexOutOfBoundsException", Cond.initialized "java/lang/IndexOutOfBoundsException", Cond.fieldLink RX3 11 "HarmoniumDesk" "versions" "[LHarmoniumDesk$Version;", Cond.methodLink RX3 75 yX3_checkVoice, Cond.static yX3_checkVoice, Cond.code yX3_checkVoice cX3_checkVoice 1 none, Cond.methodLink RX3 143 yX3_addCopy, Cond.instanceMethod yX3_addCopy, Cond.selects RX3 yX3_addCopy yX3_addCopy, Cond.code yX3_addCopy cX3_addCopy 4 (some .int), Cond.classLink RX3 85 "java/lang/IllegalStateException", Cond.initialized "java/lang/IllegalStateException", Cond.fieldLink RX3 25 "HarmoniumDesk" "copyCount" "I", Cond.fieldLink RX3 21 "HarmoniumDesk" "copies" "[LHarmoniumDesk$Copy;", Cond.classLink RX3 19 RX0, Cond.instantiable RX0 4, Cond.initialized RX0, Cond.methodLink RX3 187 yX0_init, Cond.instanceMethod yX0_init]
def wsX3_print_r2 : List Cond := [Cond.code yX0_init cX0_init 3 none, Cond.methodLink RX0 3 objectInit, Cond.instanceMethod objectInit, Cond.code objectInit ⟨#[0xb1]⟩ 1 none, Cond.arrayClass .int, Cond.fieldLink RX0 9 "HarmoniumDesk$Copy" "tones" "[I", Cond.fieldLink RX0 15 "HarmoniumDesk$Copy" "slipCount" "I", Cond.fieldLink RX0 19 "HarmoniumDesk$Copy" "voice" "I", Cond.fieldLink RX0 27 "HarmoniumDesk$Copy" "bars" "I", Cond.methodLink RX0 28 yX0_takeVoice, Cond.instanceMethod yX0_takeVoice, Cond.selects RX0 yX0_takeVoice yX0_takeVoice, Cond.code yX0_takeVoice cX0_takeVoice 3 none, Cond.methodLink RX0 32 yX1_tone, Cond.instanceMethod yX1_tone, Cond.selects RX1 yX1_tone yX1_tone, Cond.initialized RX1, Cond.code yX1_tone cX1_tone 4 (some .int), Cond.fieldLink RX1 15 "HarmoniumDesk$Score" "upper" "[I", Cond.fieldLink RX1 19 "HarmoniumDesk$Score" "lower" "[I"]
def wsX3_print : List Cond := .code yX3_print cX3_print 5 (some .int) :: ((wsX3_print_r1 ++ wsX3_print_r2) ++ wsX20 ++ wsX30 ++ wsX00 ++ wsX10 ++ (vx_atS RX3 118 "java/lang/IndexOutOfBoundsException" ["java/lang/RuntimeException", "java/lang/Exception"]).filter goodWord ++ (vx_atS RX3 89 "java/lang/IllegalStateException" ["java/lang/RuntimeException", "java/lang/Exception"]).filter goodWord)
def wsX3_findCopy : List Cond := .code yX3_findCopy cX3_findCopy 3 (some (.object "HarmoniumDesk$Copy")) :: ([.classLink RX3 114 "java/lang/IndexOutOfBoundsException", .initialized "java/lang/IndexOutOfBoundsException", .fieldLink RX3 21 "HarmoniumDesk" "copies" "[LHarmoniumDesk$Copy;"] ++ wsX30 ++ (vx_atS RX3 118 "java/lang/IndexOutOfBoundsException" ["java/lang/RuntimeException", "java/lang/Exception"]).filter goodWord)
def wsX3_checkAsManyBars : List Cond := .code yX3_checkAsManyBars cX3_checkAsManyBars 2 none :: ([.classLink RX3 85 "java/lang/IllegalStateException", .initialized "java/lang/IllegalStateException"] ++ wsX00 ++ wsX20 ++ wsX10 ++ (vx_atS RX3 89 "java/lang/IllegalStateException" ["java/lang/RuntimeException", "java/lang/Exception"]).filter goodWord)
def wsX3_errata_r1 : List Cond := [Cond.methodLink RX3 147 yX3_findCopy, Cond.instanceMethod yX3_findCopy, Cond.selects RX3 yX3_findCopy yX3_findCopy, Cond.initialized RX3, Cond.code yX3_findCopy cX3_findCopy 3 (some (.object "HarmoniumDesk$Copy")), Cond.classLink RX3 114 "java/lang/IndexOutOfBoundsException", Cond.initialized "java/lang/IndexOutOfBoundsException", Cond.fieldLink RX3 21 "HarmoniumDesk" "copies" "[LHarmoniumDesk$Copy;", Cond.methodLink RX3 63 yX3_findVersion, Cond.instanceMethod yX3_findVersion, Cond.selects RX3 yX3_findVersion yX3_findVersion, Cond.code yX3_findVersion cX3_findVersion 3 (some (.object "HarmoniumDesk$Version")), Cond.fieldLink RX3 11 "HarmoniumDesk" "versions" "[LHarmoniumDesk$Version;", Cond.methodLink RX3 151 yX3_checkAsManyBars, Cond.static yX3_checkAsManyBars, Cond.code yX3_checkAsManyBars cX3_checkAsManyBars 2 none, Cond.classLink RX3 85 "java/lang/IllegalStateException", Cond.initialized "java/lang/IllegalStateException", Cond.methodLink RX3 155 yX0_differingBars, Cond.instanceMethod yX0_differingBars, Cond.selects RX0 yX0_differingBars yX0_differingBars, Cond.initialized RX0, Cond.code yX0_differingBars cX0_differingBars 4 (some .int), Cond.fieldLink RX0 27 "HarmoniumDesk$Copy" "bars" "I"]
def wsX3_errata_r2 : List Cond := [Cond.fieldLink RX0 9 "HarmoniumDesk$Copy" "tones" "[I", Cond.fieldLink RX0 19 "HarmoniumDesk$Copy" "voice" "I", Cond.methodLink RX0 32 yX1_tone, Cond.instanceMethod yX1_tone, Cond.selects RX1 yX1_tone yX1_tone, Cond.initialized RX1, Cond.code yX1_tone cX1_tone 4 (some .int), Cond.fieldLink RX1 15 "HarmoniumDesk$Score" "upper" "[I", Cond.fieldLink RX1 19 "HarmoniumDesk$Score" "lower" "[I"]
def wsX3_errata : List Cond := .code yX3_errata cX3_errata 5 (some .int) :: ((wsX3_errata_r1 ++ wsX3_errata_r2) ++ wsX20 ++ wsX30 ++ wsX00 ++ wsX10 ++ (vx_atS RX3 118 "java/lang/IndexOutOfBoundsException" ["java/lang/RuntimeException", "java/lang/Exception"]).filter goodWord ++ (vx_atS RX3 89 "java/lang/IllegalStateException" ["java/lang/RuntimeException", "java/lang/Exception"]).filter goodWord)
def wsJ6_bitCount_0f7a4 : List Cond := .code yJ6_bitCount_0f7a4 cJ6_bitCount_0f7a4 1 (some .int) :: ([.constant RJ6 265 (1431655765), .constant RJ6 266 (858993459), .constant RJ6 267 (252645135)])
def wsX3_slip_r1 : List Cond := [Cond.methodLink RX3 147 yX3_findCopy, Cond.instanceMethod yX3_findCopy, Cond.selects RX3 yX3_findCopy yX3_findCopy, Cond.initialized RX3, Cond.code yX3_findCopy cX3_findCopy 3 (some (.object "HarmoniumDesk$Copy")), Cond.classLink RX3 114 "java/lang/IndexOutOfBoundsException", Cond.initialized "java/lang/IndexOutOfBoundsException", Cond.fieldLink RX3 21 "HarmoniumDesk" "copies" "[LHarmoniumDesk$Copy;", Cond.methodLink RX3 63 yX3_findVersion, Cond.instanceMethod yX3_findVersion, Cond.selects RX3 yX3_findVersion yX3_findVersion, Cond.code yX3_findVersion cX3_findVersion 3 (some (.object "HarmoniumDesk$Version")), Cond.fieldLink RX3 11 "HarmoniumDesk" "versions" "[LHarmoniumDesk$Version;", Cond.methodLink RX3 151 yX3_checkAsManyBars, Cond.static yX3_checkAsManyBars, Cond.code yX3_checkAsManyBars cX3_checkAsManyBars 2 none, Cond.classLink RX3 85 "java/lang/IllegalStateException", Cond.initialized "java/lang/IllegalStateException", Cond.methodLink RX3 155 yX0_differingBars, Cond.instanceMethod yX0_differingBars, Cond.selects RX0 yX0_differingBars yX0_differingBars, Cond.initialized RX0, Cond.code yX0_differingBars cX0_differingBars 4 (some .int), Cond.fieldLink RX0 27 "HarmoniumDesk$Copy" "bars" "I"]
def wsX3_slip_r2 : List Cond := [Cond.fieldLink RX0 9 "HarmoniumDesk$Copy" "tones" "[I", Cond.fieldLink RX0 19 "HarmoniumDesk$Copy" "voice" "I", Cond.methodLink RX0 32 yX1_tone, Cond.instanceMethod yX1_tone, Cond.selects RX1 yX1_tone yX1_tone, Cond.initialized RX1, Cond.code yX1_tone cX1_tone 4 (some .int), Cond.fieldLink RX1 15 "HarmoniumDesk$Score" "upper" "[I", Cond.fieldLink RX1 19 "HarmoniumDesk$Score" "lower" "[I", Cond.methodLink RX3 158 yJ6_bitCount_0f7a4, Cond.static yJ6_bitCount_0f7a4, Cond.initialized RJ6, Cond.code yJ6_bitCount_0f7a4 cJ6_bitCount_0f7a4 1 (some .int), Cond.constant RJ6 265 (1431655765), Cond.constant RJ6 266 (858993459), Cond.constant RJ6 267 (252645135), Cond.methodLink RX3 163 yX0_takeVoice, Cond.instanceMethod yX0_takeVoice, Cond.selects RX0 yX0_takeVoice yX0_takeVoice, Cond.code yX0_takeVoice cX0_takeVoice 3 none]
def wsX3_slip : List Cond := .code yX3_slip cX3_slip 6 (some .int) :: ((wsX3_slip_r1 ++ wsX3_slip_r2) ++ wsX20 ++ wsX00 ++ wsX30 ++ wsX10 ++ (vx_atS RX3 118 "java/lang/IndexOutOfBoundsException" ["java/lang/RuntimeException", "java/lang/Exception"]).filter goodWord ++ (vx_atS RX3 89 "java/lang/IllegalStateException" ["java/lang/RuntimeException", "java/lang/Exception"]).filter goodWord)
def wsX3_slips : List Cond := .code yX3_slips cX3_slips 2 (some .int) :: ([.methodLink RX3 147 yX3_findCopy, .instanceMethod yX3_findCopy, .selects RX3 yX3_findCopy yX3_findCopy, .initialized RX3, .code yX3_findCopy cX3_findCopy 3 (some (.object "HarmoniumDesk$Copy")), .classLink RX3 114 "java/lang/IndexOutOfBoundsException", .initialized "java/lang/IndexOutOfBoundsException", .fieldLink RX3 21 "HarmoniumDesk" "copies" "[LHarmoniumDesk$Copy;"] ++ wsX00 ++ wsX30 ++ (vx_atS RX3 118 "java/lang/IndexOutOfBoundsException" ["java/lang/RuntimeException", "java/lang/Exception"]).filter goodWord)
def wsX4_init : List Cond := .code yX4_init cX4_init 2 none :: ([.methodLink RX4 1 objectInit, .instanceMethod objectInit, .code objectInit ⟨#[0xb1]⟩ 1 none, .arrayClass .int, .fieldLink RX4 7 "HarmoniumDeskModel" "bars" "[I", .fieldLink RX4 13 "HarmoniumDeskModel" "parent" "[I", .arrayClass .boolean, .fieldLink RX4 16 "HarmoniumDeskModel" "isFixed" "[Z", .fieldLink RX4 20 "HarmoniumDeskModel" "hasPassed" "[Z", .fieldLink RX4 23 "HarmoniumDeskModel" "notes" "[I", .fieldLink RX4 26 "HarmoniumDeskModel" "weight" "[I", .fieldLink RX4 29 "HarmoniumDeskModel" "pass" "I", .fieldLink RX4 33 "HarmoniumDeskModel" "longs" "[I", .fieldLink RX4 36 "HarmoniumDeskModel" "voiceOf" "[I", .fieldLink RX4 39 "HarmoniumDeskModel" "printed" "[I", .fieldLink RX4 42 "HarmoniumDeskModel" "slips" "[I"] ++ wsX40)
def wsX4_thrown : List Cond := .code yX4_thrown cX4_thrown 1 (some .int) :: ([.fieldLink RX4 45 "HarmoniumDeskModel" "thrown" "I"] ++ wsX40)
def wsX4_fails : List Cond := .code yX4_fails cX4_fails 2 (some .boolean) :: ([.fieldLink RX4 45 "HarmoniumDeskModel" "thrown" "I"] ++ wsX40)
def wsX4_isIn : List Cond := .code yX4_isIn cX4_isIn 3 (some .boolean) :: ([])
def wsX4_isVersion : List Cond := .code yX4_isVersion cX4_isVersion 2 (some .boolean) :: ([.fieldLink RX4 48 "HarmoniumDeskModel" "versions" "I", .methodLink RX4 51 yX4_isIn, .static yX4_isIn, .initialized RX4, .code yX4_isIn cX4_isIn 3 (some .boolean)] ++ wsX40)
def wsX4_isNote : List Cond := .code yX4_isNote cX4_isNote 4 (some .boolean) :: ([.fieldLink RX4 7 "HarmoniumDeskModel" "bars" "[I", .methodLink RX4 55 yX4_isVersion, .instanceMethod yX4_isVersion, .selects RX4 yX4_isVersion yX4_isVersion, .initialized RX4, .code yX4_isVersion cX4_isVersion 2 (some .boolean), .fieldLink RX4 48 "HarmoniumDeskModel" "versions" "I", .methodLink RX4 51 yX4_isIn, .static yX4_isIn, .code yX4_isIn cX4_isIn 3 (some .boolean)] ++ wsX40)
def wsX4_at : List Cond := .code yX4_at cX4_at 3 (some .int) :: ([])
def wsX4_begin : List Cond := .code yX4_begin cX4_begin 3 (some .int) :: ([.fieldLink RX4 48 "HarmoniumDeskModel" "versions" "I", .fieldLink RX4 7 "HarmoniumDeskModel" "bars" "[I", .fieldLink RX4 13 "HarmoniumDeskModel" "parent" "[I", .fieldLink RX4 23 "HarmoniumDeskModel" "notes" "[I", .methodLink RX4 51 yX4_isIn, .static yX4_isIn, .initialized RX4, .code yX4_isIn cX4_isIn 3 (some .boolean), .methodLink RX4 59 yX4_fails, .instanceMethod yX4_fails, .selects RX4 yX4_fails yX4_fails, .code yX4_fails cX4_fails 2 (some .boolean), .fieldLink RX4 45 "HarmoniumDeskModel" "thrown" "I", .methodLink RX4 62 yX4_at, .static yX4_at, .code yX4_at cX4_at 3 (some .int)] ++ wsX40)
def wsX4_makes : List Cond := .code yX4_makes cX4_makes 3 (some .int) :: ([.fieldLink RX4 7 "HarmoniumDeskModel" "bars" "[I", .fieldLink RX4 48 "HarmoniumDeskModel" "versions" "I", .fieldLink RX4 13 "HarmoniumDeskModel" "parent" "[I", .fieldLink RX4 23 "HarmoniumDeskModel" "notes" "[I", .fieldLink RX4 16 "HarmoniumDeskModel" "isFixed" "[Z", .methodLink RX4 62 yX4_at, .static yX4_at, .initialized RX4, .code yX4_at cX4_at 3 (some .int)] ++ wsX40)
def wsX4_branch_r1 : List Cond := [Cond.fieldLink RX4 48 "HarmoniumDeskModel" "versions" "I", Cond.methodLink RX4 55 yX4_isVersion, Cond.instanceMethod yX4_isVersion, Cond.selects RX4 yX4_isVersion yX4_isVersion, Cond.initialized RX4, Cond.code yX4_isVersion cX4_isVersion 2 (some .boolean), Cond.methodLink RX4 51 yX4_isIn, Cond.static yX4_isIn, Cond.code yX4_isIn cX4_isIn 3 (some .boolean), Cond.methodLink RX4 59 yX4_fails, Cond.instanceMethod yX4_fails, Cond.selects RX4 yX4_fails yX4_fails, Cond.code yX4_fails cX4_fails 2 (some .boolean), Cond.fieldLink RX4 45 "HarmoniumDeskModel" "thrown" "I", Cond.methodLink RX4 66 yX4_makes, Cond.instanceMethod yX4_makes, Cond.selects RX4 yX4_makes yX4_makes, Cond.code yX4_makes cX4_makes 3 (some .int), Cond.fieldLink RX4 7 "HarmoniumDeskModel" "bars" "[I", Cond.fieldLink RX4 13 "HarmoniumDeskModel" "parent" "[I", Cond.fieldLink RX4 23 "HarmoniumDeskModel" "notes" "[I", Cond.fieldLink RX4 16 "HarmoniumDeskModel" "isFixed" "[Z", Cond.methodLink RX4 62 yX4_at, Cond.static yX4_at]
def wsX4_branch_r2 : List Cond := [Cond.code yX4_at cX4_at 3 (some .int)]
def wsX4_branch : List Cond := .code yX4_branch cX4_branch 2 (some .int) :: ((wsX4_branch_r1 ++ wsX4_branch_r2) ++ wsX40)
def wsX4_setNote : List Cond := .code yX4_setNote cX4_setNote 7 (some .int) :: ([.fieldLink RX4 16 "HarmoniumDeskModel" "isFixed" "[Z", .fieldLink RX4 23 "HarmoniumDeskModel" "notes" "[I", .methodLink RX4 70 yX4_isNote, .instanceMethod yX4_isNote, .selects RX4 yX4_isNote yX4_isNote, .initialized RX4, .code yX4_isNote cX4_isNote 4 (some .boolean), .fieldLink RX4 7 "HarmoniumDeskModel" "bars" "[I", .methodLink RX4 55 yX4_isVersion, .instanceMethod yX4_isVersion, .selects RX4 yX4_isVersion yX4_isVersion, .code yX4_isVersion cX4_isVersion 2 (some .boolean), .fieldLink RX4 48 "HarmoniumDeskModel" "versions" "I", .methodLink RX4 51 yX4_isIn, .static yX4_isIn, .code yX4_isIn cX4_isIn 3 (some .boolean), .methodLink RX4 59 yX4_fails, .instanceMethod yX4_fails, .selects RX4 yX4_fails yX4_fails, .code yX4_fails cX4_fails 2 (some .boolean), .fieldLink RX4 45 "HarmoniumDeskModel" "thrown" "I", .methodLink RX4 62 yX4_at, .static yX4_at, .code yX4_at cX4_at 3 (some .int)] ++ wsX40)
def wsX4_note : List Cond := .code yX4_note cX4_note 4 (some .int) :: ([.fieldLink RX4 23 "HarmoniumDeskModel" "notes" "[I", .methodLink RX4 70 yX4_isNote, .instanceMethod yX4_isNote, .selects RX4 yX4_isNote yX4_isNote, .initialized RX4, .code yX4_isNote cX4_isNote 4 (some .boolean), .fieldLink RX4 7 "HarmoniumDeskModel" "bars" "[I", .methodLink RX4 55 yX4_isVersion, .instanceMethod yX4_isVersion, .selects RX4 yX4_isVersion yX4_isVersion, .code yX4_isVersion cX4_isVersion 2 (some .boolean), .fieldLink RX4 48 "HarmoniumDeskModel" "versions" "I", .methodLink RX4 51 yX4_isIn, .static yX4_isIn, .code yX4_isIn cX4_isIn 3 (some .boolean), .methodLink RX4 59 yX4_fails, .instanceMethod yX4_fails, .selects RX4 yX4_fails yX4_fails, .code yX4_fails cX4_fails 2 (some .boolean), .fieldLink RX4 45 "HarmoniumDeskModel" "thrown" "I", .methodLink RX4 62 yX4_at, .static yX4_at, .code yX4_at cX4_at 3 (some .int)] ++ wsX40)
def wsX4_isAncestor : List Cond := .code yX4_isAncestor cX4_isAncestor 5 (some .boolean) :: ([.fieldLink RX4 13 "HarmoniumDeskModel" "parent" "[I"] ++ wsX40)
def wsX4_baseOf : List Cond := .code yX4_baseOf cX4_baseOf 5 (some .int) :: ([.fieldLink RX4 48 "HarmoniumDeskModel" "versions" "I", .methodLink RX4 73 yX4_isAncestor, .instanceMethod yX4_isAncestor, .selects RX4 yX4_isAncestor yX4_isAncestor, .initialized RX4, .code yX4_isAncestor cX4_isAncestor 5 (some .boolean), .fieldLink RX4 13 "HarmoniumDeskModel" "parent" "[I"] ++ wsX40)
def wsX4_base : List Cond := .code yX4_base cX4_base 3 (some .int) :: ([.methodLink RX4 55 yX4_isVersion, .instanceMethod yX4_isVersion, .selects RX4 yX4_isVersion yX4_isVersion, .initialized RX4, .code yX4_isVersion cX4_isVersion 2 (some .boolean), .fieldLink RX4 48 "HarmoniumDeskModel" "versions" "I", .methodLink RX4 51 yX4_isIn, .static yX4_isIn, .code yX4_isIn cX4_isIn 3 (some .boolean), .methodLink RX4 59 yX4_fails, .instanceMethod yX4_fails, .selects RX4 yX4_fails yX4_fails, .code yX4_fails cX4_fails 2 (some .boolean), .fieldLink RX4 45 "HarmoniumDeskModel" "thrown" "I", .methodLink RX4 77 yX4_baseOf, .instanceMethod yX4_baseOf, .selects RX4 yX4_baseOf yX4_baseOf, .code yX4_baseOf cX4_baseOf 5 (some .int), .methodLink RX4 73 yX4_isAncestor, .instanceMethod yX4_isAncestor, .selects RX4 yX4_isAncestor yX4_isAncestor, .code yX4_isAncestor cX4_isAncestor 5 (some .boolean), .fieldLink RX4 13 "HarmoniumDeskModel" "parent" "[I"] ++ wsX40)
def wsX4_areAlike : List Cond := .code yX4_areAlike cX4_areAlike 4 (some .boolean) :: ([.fieldLink RX4 23 "HarmoniumDeskModel" "notes" "[I", .methodLink RX4 62 yX4_at, .static yX4_at, .initialized RX4, .code yX4_at cX4_at 3 (some .int)] ++ wsX40)
def wsX4_conflicts_r1 : List Cond := [Cond.fieldLink RX4 7 "HarmoniumDeskModel" "bars" "[I", Cond.methodLink RX4 55 yX4_isVersion, Cond.instanceMethod yX4_isVersion, Cond.selects RX4 yX4_isVersion yX4_isVersion, Cond.initialized RX4, Cond.code yX4_isVersion cX4_isVersion 2 (some .boolean), Cond.fieldLink RX4 48 "HarmoniumDeskModel" "versions" "I", Cond.methodLink RX4 51 yX4_isIn, Cond.static yX4_isIn, Cond.code yX4_isIn cX4_isIn 3 (some .boolean), Cond.methodLink RX4 77 yX4_baseOf, Cond.instanceMethod yX4_baseOf, Cond.selects RX4 yX4_baseOf yX4_baseOf, Cond.code yX4_baseOf cX4_baseOf 5 (some .int), Cond.methodLink RX4 73 yX4_isAncestor, Cond.instanceMethod yX4_isAncestor, Cond.selects RX4 yX4_isAncestor yX4_isAncestor, Cond.code yX4_isAncestor cX4_isAncestor 5 (some .boolean), Cond.fieldLink RX4 13 "HarmoniumDeskModel" "parent" "[I", Cond.methodLink RX4 59 yX4_fails, Cond.instanceMethod yX4_fails, Cond.selects RX4 yX4_fails yX4_fails, Cond.code yX4_fails cX4_fails 2 (some .boolean), Cond.fieldLink RX4 45 "HarmoniumDeskModel" "thrown" "I"]
def wsX4_conflicts_r2 : List Cond := [Cond.methodLink RX4 81 yX4_areAlike, Cond.instanceMethod yX4_areAlike, Cond.selects RX4 yX4_areAlike yX4_areAlike, Cond.code yX4_areAlike cX4_areAlike 4 (some .boolean), Cond.fieldLink RX4 23 "HarmoniumDeskModel" "notes" "[I", Cond.methodLink RX4 62 yX4_at, Cond.static yX4_at, Cond.code yX4_at cX4_at 3 (some .int)]
def wsX4_conflicts : List Cond := .code yX4_conflicts cX4_conflicts 7 (some .int) :: ((wsX4_conflicts_r1 ++ wsX4_conflicts_r2) ++ wsX40)
def wsX4_merge_r1 : List Cond := [Cond.fieldLink RX4 48 "HarmoniumDeskModel" "versions" "I", Cond.fieldLink RX4 16 "HarmoniumDeskModel" "isFixed" "[Z", Cond.fieldLink RX4 7 "HarmoniumDeskModel" "bars" "[I", Cond.fieldLink RX4 23 "HarmoniumDeskModel" "notes" "[I", Cond.methodLink RX4 55 yX4_isVersion, Cond.instanceMethod yX4_isVersion, Cond.selects RX4 yX4_isVersion yX4_isVersion, Cond.initialized RX4, Cond.code yX4_isVersion cX4_isVersion 2 (some .boolean), Cond.methodLink RX4 51 yX4_isIn, Cond.static yX4_isIn, Cond.code yX4_isIn cX4_isIn 3 (some .boolean), Cond.methodLink RX4 77 yX4_baseOf, Cond.instanceMethod yX4_baseOf, Cond.selects RX4 yX4_baseOf yX4_baseOf, Cond.code yX4_baseOf cX4_baseOf 5 (some .int), Cond.methodLink RX4 73 yX4_isAncestor, Cond.instanceMethod yX4_isAncestor, Cond.selects RX4 yX4_isAncestor yX4_isAncestor, Cond.code yX4_isAncestor cX4_isAncestor 5 (some .boolean), Cond.fieldLink RX4 13 "HarmoniumDeskModel" "parent" "[I", Cond.methodLink RX4 59 yX4_fails, Cond.instanceMethod yX4_fails, Cond.selects RX4 yX4_fails yX4_fails]
def wsX4_merge_r2 : List Cond := [Cond.code yX4_fails cX4_fails 2 (some .boolean), Cond.fieldLink RX4 45 "HarmoniumDeskModel" "thrown" "I", Cond.methodLink RX4 66 yX4_makes, Cond.instanceMethod yX4_makes, Cond.selects RX4 yX4_makes yX4_makes, Cond.code yX4_makes cX4_makes 3 (some .int), Cond.methodLink RX4 62 yX4_at, Cond.static yX4_at, Cond.code yX4_at cX4_at 3 (some .int), Cond.methodLink RX4 81 yX4_areAlike, Cond.instanceMethod yX4_areAlike, Cond.selects RX4 yX4_areAlike yX4_areAlike, Cond.code yX4_areAlike cX4_areAlike 4 (some .boolean)]
def wsX4_merge : List Cond := .code yX4_merge cX4_merge 7 (some .int) :: ((wsX4_merge_r1 ++ wsX4_merge_r2) ++ wsX40)
def wsX4_setWeight : List Cond := .code yX4_setWeight cX4_setWeight 5 (some .int) :: ([.fieldLink RX4 26 "HarmoniumDeskModel" "weight" "[I", .methodLink RX4 51 yX4_isIn, .static yX4_isIn, .initialized RX4, .code yX4_isIn cX4_isIn 3 (some .boolean), .methodLink RX4 59 yX4_fails, .instanceMethod yX4_fails, .selects RX4 yX4_fails yX4_fails, .code yX4_fails cX4_fails 2 (some .boolean), .fieldLink RX4 45 "HarmoniumDeskModel" "thrown" "I"] ++ wsX40)
def wsX4_setPass : List Cond := .code yX4_setPass cX4_setPass 3 (some .int) :: ([.fieldLink RX4 29 "HarmoniumDeskModel" "pass" "I", .methodLink RX4 51 yX4_isIn, .static yX4_isIn, .initialized RX4, .code yX4_isIn cX4_isIn 3 (some .boolean), .methodLink RX4 59 yX4_fails, .instanceMethod yX4_fails, .selects RX4 yX4_fails yX4_fails, .code yX4_fails cX4_fails 2 (some .boolean), .fieldLink RX4 45 "HarmoniumDeskModel" "thrown" "I"] ++ wsX40)
def wsX4_away : List Cond := .code yX4_away cX4_away 2 (some .int) :: ([])
def wsX4_interval : List Cond := .code yX4_interval cX4_interval 3 (some .int) :: ([.fieldLink RX4 23 "HarmoniumDeskModel" "notes" "[I", .methodLink RX4 62 yX4_at, .static yX4_at, .initialized RX4, .code yX4_at cX4_at 3 (some .int), .methodLink RX4 84 yX4_away, .static yX4_away, .code yX4_away cX4_away 2 (some .int)] ++ wsX40)
def wsX4_stays : List Cond := .code yX4_stays cX4_stays 4 (some .boolean) :: ([.fieldLink RX4 23 "HarmoniumDeskModel" "notes" "[I", .methodLink RX4 62 yX4_at, .static yX4_at, .initialized RX4, .code yX4_at cX4_at 3 (some .int)] ++ wsX40)
def wsX4_leap : List Cond := .code yX4_leap cX4_leap 4 (some .int) :: ([.fieldLink RX4 23 "HarmoniumDeskModel" "notes" "[I", .methodLink RX4 62 yX4_at, .static yX4_at, .initialized RX4, .code yX4_at cX4_at 3 (some .int), .methodLink RX4 84 yX4_away, .static yX4_away, .code yX4_away cX4_away 2 (some .int)] ++ wsX40)
def wsX4_faultsAt : List Cond := .code yX4_faultsAt cX4_faultsAt 6 (some .int) :: ([.fieldLink RX4 23 "HarmoniumDeskModel" "notes" "[I", .fieldLink RX4 7 "HarmoniumDeskModel" "bars" "[I", .methodLink RX4 87 yX4_interval, .instanceMethod yX4_interval, .selects RX4 yX4_interval yX4_interval, .initialized RX4, .code yX4_interval cX4_interval 3 (some .int), .methodLink RX4 62 yX4_at, .static yX4_at, .code yX4_at cX4_at 3 (some .int), .methodLink RX4 84 yX4_away, .static yX4_away, .code yX4_away cX4_away 2 (some .int), .methodLink RX4 90 yX4_stays, .instanceMethod yX4_stays, .selects RX4 yX4_stays yX4_stays, .code yX4_stays cX4_stays 4 (some .boolean), .methodLink RX4 93 yX4_leap, .instanceMethod yX4_leap, .selects RX4 yX4_leap yX4_leap, .code yX4_leap cX4_leap 4 (some .int)] ++ wsX40)
def wsX4_faults_r1 : List Cond := [Cond.methodLink RX4 70 yX4_isNote, Cond.instanceMethod yX4_isNote, Cond.selects RX4 yX4_isNote yX4_isNote, Cond.initialized RX4, Cond.code yX4_isNote cX4_isNote 4 (some .boolean), Cond.fieldLink RX4 7 "HarmoniumDeskModel" "bars" "[I", Cond.methodLink RX4 55 yX4_isVersion, Cond.instanceMethod yX4_isVersion, Cond.selects RX4 yX4_isVersion yX4_isVersion, Cond.code yX4_isVersion cX4_isVersion 2 (some .boolean), Cond.fieldLink RX4 48 "HarmoniumDeskModel" "versions" "I", Cond.methodLink RX4 51 yX4_isIn, Cond.static yX4_isIn, Cond.code yX4_isIn cX4_isIn 3 (some .boolean), Cond.methodLink RX4 59 yX4_fails, Cond.instanceMethod yX4_fails, Cond.selects RX4 yX4_fails yX4_fails, Cond.code yX4_fails cX4_fails 2 (some .boolean), Cond.fieldLink RX4 45 "HarmoniumDeskModel" "thrown" "I", Cond.methodLink RX4 96 yX4_faultsAt, Cond.instanceMethod yX4_faultsAt, Cond.selects RX4 yX4_faultsAt yX4_faultsAt, Cond.code yX4_faultsAt cX4_faultsAt 6 (some .int), Cond.fieldLink RX4 23 "HarmoniumDeskModel" "notes" "[I"]
def wsX4_faults_r2 : List Cond := [Cond.methodLink RX4 87 yX4_interval, Cond.instanceMethod yX4_interval, Cond.selects RX4 yX4_interval yX4_interval, Cond.code yX4_interval cX4_interval 3 (some .int), Cond.methodLink RX4 62 yX4_at, Cond.static yX4_at, Cond.code yX4_at cX4_at 3 (some .int), Cond.methodLink RX4 84 yX4_away, Cond.static yX4_away, Cond.code yX4_away cX4_away 2 (some .int), Cond.methodLink RX4 90 yX4_stays, Cond.instanceMethod yX4_stays, Cond.selects RX4 yX4_stays yX4_stays, Cond.code yX4_stays cX4_stays 4 (some .boolean), Cond.methodLink RX4 93 yX4_leap, Cond.instanceMethod yX4_leap, Cond.selects RX4 yX4_leap yX4_leap, Cond.code yX4_leap cX4_leap 4 (some .int)]
def wsX4_faults : List Cond := .code yX4_faults cX4_faults 5 (some .int) :: ((wsX4_faults_r1 ++ wsX4_faults_r2) ++ wsX40)
def wsX4_costs_r1 : List Cond := [Cond.fieldLink RX4 7 "HarmoniumDeskModel" "bars" "[I", Cond.fieldLink RX4 26 "HarmoniumDeskModel" "weight" "[I", Cond.methodLink RX4 96 yX4_faultsAt, Cond.instanceMethod yX4_faultsAt, Cond.selects RX4 yX4_faultsAt yX4_faultsAt, Cond.initialized RX4, Cond.code yX4_faultsAt cX4_faultsAt 6 (some .int), Cond.fieldLink RX4 23 "HarmoniumDeskModel" "notes" "[I", Cond.methodLink RX4 87 yX4_interval, Cond.instanceMethod yX4_interval, Cond.selects RX4 yX4_interval yX4_interval, Cond.code yX4_interval cX4_interval 3 (some .int), Cond.methodLink RX4 62 yX4_at, Cond.static yX4_at, Cond.code yX4_at cX4_at 3 (some .int), Cond.methodLink RX4 84 yX4_away, Cond.static yX4_away, Cond.code yX4_away cX4_away 2 (some .int), Cond.methodLink RX4 90 yX4_stays, Cond.instanceMethod yX4_stays, Cond.selects RX4 yX4_stays yX4_stays, Cond.code yX4_stays cX4_stays 4 (some .boolean), Cond.methodLink RX4 93 yX4_leap, Cond.instanceMethod yX4_leap]
def wsX4_costs_r2 : List Cond := [Cond.selects RX4 yX4_leap yX4_leap, Cond.code yX4_leap cX4_leap 4 (some .int)]
def wsX4_costs : List Cond := .code yX4_costs cX4_costs 4 (some .int) :: ((wsX4_costs_r1 ++ wsX4_costs_r2) ++ wsX40)
def wsX4_markOf_r1 : List Cond := [Cond.methodLink RX4 99 yX4_costs, Cond.instanceMethod yX4_costs, Cond.selects RX4 yX4_costs yX4_costs, Cond.initialized RX4, Cond.code yX4_costs cX4_costs 4 (some .int), Cond.fieldLink RX4 7 "HarmoniumDeskModel" "bars" "[I", Cond.fieldLink RX4 26 "HarmoniumDeskModel" "weight" "[I", Cond.methodLink RX4 96 yX4_faultsAt, Cond.instanceMethod yX4_faultsAt, Cond.selects RX4 yX4_faultsAt yX4_faultsAt, Cond.code yX4_faultsAt cX4_faultsAt 6 (some .int), Cond.fieldLink RX4 23 "HarmoniumDeskModel" "notes" "[I", Cond.methodLink RX4 87 yX4_interval, Cond.instanceMethod yX4_interval, Cond.selects RX4 yX4_interval yX4_interval, Cond.code yX4_interval cX4_interval 3 (some .int), Cond.methodLink RX4 62 yX4_at, Cond.static yX4_at, Cond.code yX4_at cX4_at 3 (some .int), Cond.methodLink RX4 84 yX4_away, Cond.static yX4_away, Cond.code yX4_away cX4_away 2 (some .int), Cond.methodLink RX4 90 yX4_stays, Cond.instanceMethod yX4_stays]
def wsX4_markOf_r2 : List Cond := [Cond.selects RX4 yX4_stays yX4_stays, Cond.code yX4_stays cX4_stays 4 (some .boolean), Cond.methodLink RX4 93 yX4_leap, Cond.instanceMethod yX4_leap, Cond.selects RX4 yX4_leap yX4_leap, Cond.code yX4_leap cX4_leap 4 (some .int)]
def wsX4_markOf : List Cond := .code yX4_markOf cX4_markOf 2 (some .int) :: ((wsX4_markOf_r1 ++ wsX4_markOf_r2) ++ wsX40)
def wsX4_mark_r1 : List Cond := [Cond.methodLink RX4 55 yX4_isVersion, Cond.instanceMethod yX4_isVersion, Cond.selects RX4 yX4_isVersion yX4_isVersion, Cond.initialized RX4, Cond.code yX4_isVersion cX4_isVersion 2 (some .boolean), Cond.fieldLink RX4 48 "HarmoniumDeskModel" "versions" "I", Cond.methodLink RX4 51 yX4_isIn, Cond.static yX4_isIn, Cond.code yX4_isIn cX4_isIn 3 (some .boolean), Cond.methodLink RX4 59 yX4_fails, Cond.instanceMethod yX4_fails, Cond.selects RX4 yX4_fails yX4_fails, Cond.code yX4_fails cX4_fails 2 (some .boolean), Cond.fieldLink RX4 45 "HarmoniumDeskModel" "thrown" "I", Cond.methodLink RX4 102 yX4_markOf, Cond.instanceMethod yX4_markOf, Cond.selects RX4 yX4_markOf yX4_markOf, Cond.code yX4_markOf cX4_markOf 2 (some .int), Cond.methodLink RX4 99 yX4_costs, Cond.instanceMethod yX4_costs, Cond.selects RX4 yX4_costs yX4_costs, Cond.code yX4_costs cX4_costs 4 (some .int), Cond.fieldLink RX4 7 "HarmoniumDeskModel" "bars" "[I", Cond.fieldLink RX4 26 "HarmoniumDeskModel" "weight" "[I"]
def wsX4_mark_r2 : List Cond := [Cond.methodLink RX4 96 yX4_faultsAt, Cond.instanceMethod yX4_faultsAt, Cond.selects RX4 yX4_faultsAt yX4_faultsAt, Cond.code yX4_faultsAt cX4_faultsAt 6 (some .int), Cond.fieldLink RX4 23 "HarmoniumDeskModel" "notes" "[I", Cond.methodLink RX4 87 yX4_interval, Cond.instanceMethod yX4_interval, Cond.selects RX4 yX4_interval yX4_interval, Cond.code yX4_interval cX4_interval 3 (some .int), Cond.methodLink RX4 62 yX4_at, Cond.static yX4_at, Cond.code yX4_at cX4_at 3 (some .int), Cond.methodLink RX4 84 yX4_away, Cond.static yX4_away, Cond.code yX4_away cX4_away 2 (some .int), Cond.methodLink RX4 90 yX4_stays, Cond.instanceMethod yX4_stays, Cond.selects RX4 yX4_stays yX4_stays, Cond.code yX4_stays cX4_stays 4 (some .boolean), Cond.methodLink RX4 93 yX4_leap, Cond.instanceMethod yX4_leap, Cond.selects RX4 yX4_leap yX4_leap, Cond.code yX4_leap cX4_leap 4 (some .int)]
def wsX4_mark : List Cond := .code yX4_mark cX4_mark 2 (some .int) :: ((wsX4_mark_r1 ++ wsX4_mark_r2) ++ wsX40)
def wsX4_handIn_r1 : List Cond := [Cond.fieldLink RX4 20 "HarmoniumDeskModel" "hasPassed" "[Z", Cond.fieldLink RX4 29 "HarmoniumDeskModel" "pass" "I", Cond.methodLink RX4 55 yX4_isVersion, Cond.instanceMethod yX4_isVersion, Cond.selects RX4 yX4_isVersion yX4_isVersion, Cond.initialized RX4, Cond.code yX4_isVersion cX4_isVersion 2 (some .boolean), Cond.fieldLink RX4 48 "HarmoniumDeskModel" "versions" "I", Cond.methodLink RX4 51 yX4_isIn, Cond.static yX4_isIn, Cond.code yX4_isIn cX4_isIn 3 (some .boolean), Cond.methodLink RX4 59 yX4_fails, Cond.instanceMethod yX4_fails, Cond.selects RX4 yX4_fails yX4_fails, Cond.code yX4_fails cX4_fails 2 (some .boolean), Cond.fieldLink RX4 45 "HarmoniumDeskModel" "thrown" "I", Cond.methodLink RX4 102 yX4_markOf, Cond.instanceMethod yX4_markOf, Cond.selects RX4 yX4_markOf yX4_markOf, Cond.code yX4_markOf cX4_markOf 2 (some .int), Cond.methodLink RX4 99 yX4_costs, Cond.instanceMethod yX4_costs, Cond.selects RX4 yX4_costs yX4_costs, Cond.code yX4_costs cX4_costs 4 (some .int)]
def wsX4_handIn_r2 : List Cond := [Cond.fieldLink RX4 7 "HarmoniumDeskModel" "bars" "[I", Cond.fieldLink RX4 26 "HarmoniumDeskModel" "weight" "[I", Cond.methodLink RX4 96 yX4_faultsAt, Cond.instanceMethod yX4_faultsAt, Cond.selects RX4 yX4_faultsAt yX4_faultsAt, Cond.code yX4_faultsAt cX4_faultsAt 6 (some .int), Cond.fieldLink RX4 23 "HarmoniumDeskModel" "notes" "[I", Cond.methodLink RX4 87 yX4_interval, Cond.instanceMethod yX4_interval, Cond.selects RX4 yX4_interval yX4_interval, Cond.code yX4_interval cX4_interval 3 (some .int), Cond.methodLink RX4 62 yX4_at, Cond.static yX4_at, Cond.code yX4_at cX4_at 3 (some .int), Cond.methodLink RX4 84 yX4_away, Cond.static yX4_away, Cond.code yX4_away cX4_away 2 (some .int), Cond.methodLink RX4 90 yX4_stays, Cond.instanceMethod yX4_stays, Cond.selects RX4 yX4_stays yX4_stays, Cond.code yX4_stays cX4_stays 4 (some .boolean), Cond.methodLink RX4 93 yX4_leap, Cond.instanceMethod yX4_leap, Cond.selects RX4 yX4_leap yX4_leap]
def wsX4_handIn_r3 : List Cond := [Cond.code yX4_leap cX4_leap 4 (some .int)]
def wsX4_handIn : List Cond := .code yX4_handIn cX4_handIn 2 (some .boolean) :: ((wsX4_handIn_r1 ++ (wsX4_handIn_r2 ++ wsX4_handIn_r3)) ++ wsX40)
def wsX4_fallen_r1 : List Cond := [Cond.fieldLink RX4 45 "HarmoniumDeskModel" "thrown" "I", Cond.fieldLink RX4 48 "HarmoniumDeskModel" "versions" "I", Cond.fieldLink RX4 20 "HarmoniumDeskModel" "hasPassed" "[Z", Cond.fieldLink RX4 29 "HarmoniumDeskModel" "pass" "I", Cond.methodLink RX4 102 yX4_markOf, Cond.instanceMethod yX4_markOf, Cond.selects RX4 yX4_markOf yX4_markOf, Cond.initialized RX4, Cond.code yX4_markOf cX4_markOf 2 (some .int), Cond.methodLink RX4 99 yX4_costs, Cond.instanceMethod yX4_costs, Cond.selects RX4 yX4_costs yX4_costs, Cond.code yX4_costs cX4_costs 4 (some .int), Cond.fieldLink RX4 7 "HarmoniumDeskModel" "bars" "[I", Cond.fieldLink RX4 26 "HarmoniumDeskModel" "weight" "[I", Cond.methodLink RX4 96 yX4_faultsAt, Cond.instanceMethod yX4_faultsAt, Cond.selects RX4 yX4_faultsAt yX4_faultsAt, Cond.code yX4_faultsAt cX4_faultsAt 6 (some .int), Cond.fieldLink RX4 23 "HarmoniumDeskModel" "notes" "[I", Cond.methodLink RX4 87 yX4_interval, Cond.instanceMethod yX4_interval, Cond.selects RX4 yX4_interval yX4_interval, Cond.code yX4_interval cX4_interval 3 (some .int)]
def wsX4_fallen_r2 : List Cond := [Cond.methodLink RX4 62 yX4_at, Cond.static yX4_at, Cond.code yX4_at cX4_at 3 (some .int), Cond.methodLink RX4 84 yX4_away, Cond.static yX4_away, Cond.code yX4_away cX4_away 2 (some .int), Cond.methodLink RX4 90 yX4_stays, Cond.instanceMethod yX4_stays, Cond.selects RX4 yX4_stays yX4_stays, Cond.code yX4_stays cX4_stays 4 (some .boolean), Cond.methodLink RX4 93 yX4_leap, Cond.instanceMethod yX4_leap, Cond.selects RX4 yX4_leap yX4_leap, Cond.code yX4_leap cX4_leap 4 (some .int)]
def wsX4_fallen : List Cond := .code yX4_fallen cX4_fallen 3 (some .int) :: ((wsX4_fallen_r1 ++ wsX4_fallen_r2) ++ wsX40)
def wsX4_best_r1 : List Cond := [Cond.fieldLink RX4 23 "HarmoniumDeskModel" "notes" "[I", Cond.methodLink RX4 70 yX4_isNote, Cond.instanceMethod yX4_isNote, Cond.selects RX4 yX4_isNote yX4_isNote, Cond.initialized RX4, Cond.code yX4_isNote cX4_isNote 4 (some .boolean), Cond.fieldLink RX4 7 "HarmoniumDeskModel" "bars" "[I", Cond.methodLink RX4 55 yX4_isVersion, Cond.instanceMethod yX4_isVersion, Cond.selects RX4 yX4_isVersion yX4_isVersion, Cond.code yX4_isVersion cX4_isVersion 2 (some .boolean), Cond.fieldLink RX4 48 "HarmoniumDeskModel" "versions" "I", Cond.methodLink RX4 51 yX4_isIn, Cond.static yX4_isIn, Cond.code yX4_isIn cX4_isIn 3 (some .boolean), Cond.methodLink RX4 59 yX4_fails, Cond.instanceMethod yX4_fails, Cond.selects RX4 yX4_fails yX4_fails, Cond.code yX4_fails cX4_fails 2 (some .boolean), Cond.fieldLink RX4 45 "HarmoniumDeskModel" "thrown" "I", Cond.methodLink RX4 62 yX4_at, Cond.static yX4_at, Cond.code yX4_at cX4_at 3 (some .int), Cond.methodLink RX4 99 yX4_costs]
def wsX4_best_r2 : List Cond := [Cond.instanceMethod yX4_costs, Cond.selects RX4 yX4_costs yX4_costs, Cond.code yX4_costs cX4_costs 4 (some .int), Cond.fieldLink RX4 26 "HarmoniumDeskModel" "weight" "[I", Cond.methodLink RX4 96 yX4_faultsAt, Cond.instanceMethod yX4_faultsAt, Cond.selects RX4 yX4_faultsAt yX4_faultsAt, Cond.code yX4_faultsAt cX4_faultsAt 6 (some .int), Cond.methodLink RX4 87 yX4_interval, Cond.instanceMethod yX4_interval, Cond.selects RX4 yX4_interval yX4_interval, Cond.code yX4_interval cX4_interval 3 (some .int), Cond.methodLink RX4 84 yX4_away, Cond.static yX4_away, Cond.code yX4_away cX4_away 2 (some .int), Cond.methodLink RX4 90 yX4_stays, Cond.instanceMethod yX4_stays, Cond.selects RX4 yX4_stays yX4_stays, Cond.code yX4_stays cX4_stays 4 (some .boolean), Cond.methodLink RX4 93 yX4_leap, Cond.instanceMethod yX4_leap, Cond.selects RX4 yX4_leap yX4_leap, Cond.code yX4_leap cX4_leap 4 (some .int)]
def wsX4_best : List Cond := .code yX4_best cX4_best 10 (some .int) :: ((wsX4_best_r1 ++ wsX4_best_r2) ++ wsX40)
def wsX4_movement_r1 : List Cond := [Cond.fieldLink RX4 7 "HarmoniumDeskModel" "bars" "[I", Cond.fieldLink RX4 23 "HarmoniumDeskModel" "notes" "[I", Cond.methodLink RX4 70 yX4_isNote, Cond.instanceMethod yX4_isNote, Cond.selects RX4 yX4_isNote yX4_isNote, Cond.initialized RX4, Cond.code yX4_isNote cX4_isNote 4 (some .boolean), Cond.methodLink RX4 55 yX4_isVersion, Cond.instanceMethod yX4_isVersion, Cond.selects RX4 yX4_isVersion yX4_isVersion, Cond.code yX4_isVersion cX4_isVersion 2 (some .boolean), Cond.fieldLink RX4 48 "HarmoniumDeskModel" "versions" "I", Cond.methodLink RX4 51 yX4_isIn, Cond.static yX4_isIn, Cond.code yX4_isIn cX4_isIn 3 (some .boolean), Cond.methodLink RX4 59 yX4_fails, Cond.instanceMethod yX4_fails, Cond.selects RX4 yX4_fails yX4_fails, Cond.code yX4_fails cX4_fails 2 (some .boolean), Cond.fieldLink RX4 45 "HarmoniumDeskModel" "thrown" "I", Cond.methodLink RX4 62 yX4_at, Cond.static yX4_at, Cond.code yX4_at cX4_at 3 (some .int), Cond.methodLink RX4 84 yX4_away]
def wsX4_movement_r2 : List Cond := [Cond.static yX4_away, Cond.code yX4_away cX4_away 2 (some .int)]
def wsX4_movement : List Cond := .code yX4_movement cX4_movement 5 (some .float) :: ((wsX4_movement_r1 ++ wsX4_movement_r2) ++ wsX40)
def wsX4_isCopy : List Cond := .code yX4_isCopy cX4_isCopy 2 (some .boolean) :: ([.fieldLink RX4 105 "HarmoniumDeskModel" "copies" "I", .methodLink RX4 51 yX4_isIn, .static yX4_isIn, .initialized RX4, .code yX4_isIn cX4_isIn 3 (some .boolean)] ++ wsX40)
def wsX4_print_r1 : List Cond := [Cond.fieldLink RX4 105 "HarmoniumDeskModel" "copies" "I", Cond.fieldLink RX4 16 "HarmoniumDeskModel" "isFixed" "[Z", Cond.fieldLink RX4 33 "HarmoniumDeskModel" "longs" "[I", Cond.fieldLink RX4 7 "HarmoniumDeskModel" "bars" "[I", Cond.fieldLink RX4 36 "HarmoniumDeskModel" "voiceOf" "[I", Cond.fieldLink RX4 39 "HarmoniumDeskModel" "printed" "[I", Cond.fieldLink RX4 23 "HarmoniumDeskModel" "notes" "[I", Cond.methodLink RX4 70 yX4_isNote, Cond.instanceMethod yX4_isNote, Cond.selects RX4 yX4_isNote yX4_isNote, Cond.initialized RX4, Cond.code yX4_isNote cX4_isNote 4 (some .boolean), Cond.methodLink RX4 55 yX4_isVersion, Cond.instanceMethod yX4_isVersion, Cond.selects RX4 yX4_isVersion yX4_isVersion, Cond.code yX4_isVersion cX4_isVersion 2 (some .boolean), Cond.fieldLink RX4 48 "HarmoniumDeskModel" "versions" "I", Cond.methodLink RX4 51 yX4_isIn, Cond.static yX4_isIn, Cond.code yX4_isIn cX4_isIn 3 (some .boolean), Cond.methodLink RX4 59 yX4_fails, Cond.instanceMethod yX4_fails, Cond.selects RX4 yX4_fails yX4_fails, Cond.code yX4_fails cX4_fails 2 (some .boolean)]
def wsX4_print_r2 : List Cond := [Cond.fieldLink RX4 45 "HarmoniumDeskModel" "thrown" "I", Cond.methodLink RX4 62 yX4_at, Cond.static yX4_at, Cond.code yX4_at cX4_at 3 (some .int)]
def wsX4_print : List Cond := .code yX4_print cX4_print 5 (some .int) :: ((wsX4_print_r1 ++ wsX4_print_r2) ++ wsX40)
def wsX4_differs : List Cond := .code yX4_differs cX4_differs 5 (some .int) :: ([.fieldLink RX4 7 "HarmoniumDeskModel" "bars" "[I", .fieldLink RX4 39 "HarmoniumDeskModel" "printed" "[I", .fieldLink RX4 23 "HarmoniumDeskModel" "notes" "[I", .fieldLink RX4 36 "HarmoniumDeskModel" "voiceOf" "[I", .methodLink RX4 62 yX4_at, .static yX4_at, .initialized RX4, .code yX4_at cX4_at 3 (some .int)] ++ wsX40)
def wsX4_misses : List Cond := .code yX4_misses cX4_misses 3 (some .int) :: ([.fieldLink RX4 7 "HarmoniumDeskModel" "bars" "[I", .fieldLink RX4 33 "HarmoniumDeskModel" "longs" "[I", .methodLink RX4 108 yX4_isCopy, .instanceMethod yX4_isCopy, .selects RX4 yX4_isCopy yX4_isCopy, .initialized RX4, .code yX4_isCopy cX4_isCopy 2 (some .boolean), .fieldLink RX4 105 "HarmoniumDeskModel" "copies" "I", .methodLink RX4 51 yX4_isIn, .static yX4_isIn, .code yX4_isIn cX4_isIn 3 (some .boolean), .methodLink RX4 55 yX4_isVersion, .instanceMethod yX4_isVersion, .selects RX4 yX4_isVersion yX4_isVersion, .code yX4_isVersion cX4_isVersion 2 (some .boolean), .fieldLink RX4 48 "HarmoniumDeskModel" "versions" "I"] ++ wsX40)
def wsX4_errata_r1 : List Cond := [Cond.methodLink RX4 111 yX4_misses, Cond.instanceMethod yX4_misses, Cond.selects RX4 yX4_misses yX4_misses, Cond.initialized RX4, Cond.code yX4_misses cX4_misses 3 (some .int), Cond.fieldLink RX4 7 "HarmoniumDeskModel" "bars" "[I", Cond.fieldLink RX4 33 "HarmoniumDeskModel" "longs" "[I", Cond.methodLink RX4 108 yX4_isCopy, Cond.instanceMethod yX4_isCopy, Cond.selects RX4 yX4_isCopy yX4_isCopy, Cond.code yX4_isCopy cX4_isCopy 2 (some .boolean), Cond.fieldLink RX4 105 "HarmoniumDeskModel" "copies" "I", Cond.methodLink RX4 51 yX4_isIn, Cond.static yX4_isIn, Cond.code yX4_isIn cX4_isIn 3 (some .boolean), Cond.methodLink RX4 55 yX4_isVersion, Cond.instanceMethod yX4_isVersion, Cond.selects RX4 yX4_isVersion yX4_isVersion, Cond.code yX4_isVersion cX4_isVersion 2 (some .boolean), Cond.fieldLink RX4 48 "HarmoniumDeskModel" "versions" "I", Cond.methodLink RX4 59 yX4_fails, Cond.instanceMethod yX4_fails, Cond.selects RX4 yX4_fails yX4_fails, Cond.code yX4_fails cX4_fails 2 (some .boolean)]
def wsX4_errata_r2 : List Cond := [Cond.fieldLink RX4 45 "HarmoniumDeskModel" "thrown" "I", Cond.methodLink RX4 114 yX4_differs, Cond.instanceMethod yX4_differs, Cond.selects RX4 yX4_differs yX4_differs, Cond.code yX4_differs cX4_differs 5 (some .int), Cond.fieldLink RX4 39 "HarmoniumDeskModel" "printed" "[I", Cond.fieldLink RX4 23 "HarmoniumDeskModel" "notes" "[I", Cond.fieldLink RX4 36 "HarmoniumDeskModel" "voiceOf" "[I", Cond.methodLink RX4 62 yX4_at, Cond.static yX4_at, Cond.code yX4_at cX4_at 3 (some .int)]
def wsX4_errata : List Cond := .code yX4_errata cX4_errata 3 (some .int) :: ((wsX4_errata_r1 ++ wsX4_errata_r2) ++ wsX40)
def wsX4_slip_r1 : List Cond := [Cond.fieldLink RX4 7 "HarmoniumDeskModel" "bars" "[I", Cond.fieldLink RX4 39 "HarmoniumDeskModel" "printed" "[I", Cond.fieldLink RX4 23 "HarmoniumDeskModel" "notes" "[I", Cond.fieldLink RX4 36 "HarmoniumDeskModel" "voiceOf" "[I", Cond.fieldLink RX4 42 "HarmoniumDeskModel" "slips" "[I", Cond.methodLink RX4 111 yX4_misses, Cond.instanceMethod yX4_misses, Cond.selects RX4 yX4_misses yX4_misses, Cond.initialized RX4, Cond.code yX4_misses cX4_misses 3 (some .int), Cond.fieldLink RX4 33 "HarmoniumDeskModel" "longs" "[I", Cond.methodLink RX4 108 yX4_isCopy, Cond.instanceMethod yX4_isCopy, Cond.selects RX4 yX4_isCopy yX4_isCopy, Cond.code yX4_isCopy cX4_isCopy 2 (some .boolean), Cond.fieldLink RX4 105 "HarmoniumDeskModel" "copies" "I", Cond.methodLink RX4 51 yX4_isIn, Cond.static yX4_isIn, Cond.code yX4_isIn cX4_isIn 3 (some .boolean), Cond.methodLink RX4 55 yX4_isVersion, Cond.instanceMethod yX4_isVersion, Cond.selects RX4 yX4_isVersion yX4_isVersion, Cond.code yX4_isVersion cX4_isVersion 2 (some .boolean), Cond.fieldLink RX4 48 "HarmoniumDeskModel" "versions" "I"]
def wsX4_slip_r2 : List Cond := [Cond.methodLink RX4 59 yX4_fails, Cond.instanceMethod yX4_fails, Cond.selects RX4 yX4_fails yX4_fails, Cond.code yX4_fails cX4_fails 2 (some .boolean), Cond.fieldLink RX4 45 "HarmoniumDeskModel" "thrown" "I", Cond.methodLink RX4 114 yX4_differs, Cond.instanceMethod yX4_differs, Cond.selects RX4 yX4_differs yX4_differs, Cond.code yX4_differs cX4_differs 5 (some .int), Cond.methodLink RX4 62 yX4_at, Cond.static yX4_at, Cond.code yX4_at cX4_at 3 (some .int)]
def wsX4_slip : List Cond := .code yX4_slip cX4_slip 6 (some .int) :: ((wsX4_slip_r1 ++ wsX4_slip_r2) ++ wsX40)
def wsX4_slips : List Cond := .code yX4_slips cX4_slips 2 (some .int) :: ([.fieldLink RX4 42 "HarmoniumDeskModel" "slips" "[I", .methodLink RX4 108 yX4_isCopy, .instanceMethod yX4_isCopy, .selects RX4 yX4_isCopy yX4_isCopy, .initialized RX4, .code yX4_isCopy cX4_isCopy 2 (some .boolean), .fieldLink RX4 105 "HarmoniumDeskModel" "copies" "I", .methodLink RX4 51 yX4_isIn, .static yX4_isIn, .code yX4_isIn cX4_isIn 3 (some .boolean), .methodLink RX4 59 yX4_fails, .instanceMethod yX4_fails, .selects RX4 yX4_fails yX4_fails, .code yX4_fails cX4_fails 2 (some .boolean), .fieldLink RX4 45 "HarmoniumDeskModel" "thrown" "I"] ++ wsX40)
def wsJ9_abs_0f7a4 : List Cond := .code yJ9_abs_0f7a4 cJ9_abs_0f7a4 1 (some .int) :: ([])
def wsJ9_max_7cf53 : List Cond := .code yJ9_max_7cf53 cJ9_max_7cf53 2 (some .int) :: ([])
def wsJ9_min_7cf53 : List Cond := .code yJ9_min_7cf53 cJ9_min_7cf53 2 (some .int) :: ([])
def wsL_begin_r1 : List Cond := [Cond.classLink RL 13 "java/lang/IllegalArgumentException", Cond.classLink RL 15 "java/lang/IllegalStateException", Cond.methodLink RL 7 yX3_begin, Cond.instanceMethod yX3_begin, Cond.selects RX3 yX3_begin yX3_begin, Cond.initialized RX3, Cond.code yX3_begin cX3_begin 3 (some .int), Cond.classLink RX3 42 "java/lang/IllegalArgumentException", Cond.initialized "java/lang/IllegalArgumentException", Cond.methodLink RX3 49 yX3_addVersion, Cond.instanceMethod yX3_addVersion, Cond.selects RX3 yX3_addVersion yX3_addVersion, Cond.code yX3_addVersion cX3_addVersion 3 (some (.object "HarmoniumDesk$Version")), Cond.classLink RX3 85 "java/lang/IllegalStateException", Cond.initialized "java/lang/IllegalStateException", Cond.fieldLink RX3 15 "HarmoniumDesk" "versionCount" "I", Cond.fieldLink RX3 11 "HarmoniumDesk" "versions" "[LHarmoniumDesk$Version;", Cond.classLink RX3 9 RX2, Cond.instantiable RX2 5, Cond.initialized RX2, Cond.methodLink RX3 182 yX2_init, Cond.instanceMethod yX2_init, Cond.code yX2_init cX2_init 3 none, Cond.methodLink RX2 1 objectInit]
def wsL_begin_r2 : List Cond := [Cond.instanceMethod objectInit, Cond.code objectInit ⟨#[0xb1]⟩ 1 none, Cond.classLink RX2 7 RX1, Cond.instantiable RX1 3, Cond.initialized RX1, Cond.fieldLink RX2 10 "HarmoniumDesk$Version" "score" "LHarmoniumDesk$Score;", Cond.fieldLink RX2 16 "HarmoniumDesk$Version" "fixed" "Z", Cond.fieldLink RX2 20 "HarmoniumDesk$Version" "passedWhenHandedIn" "Z", Cond.fieldLink RX2 23 "HarmoniumDesk$Version" "number" "I", Cond.fieldLink RX2 27 "HarmoniumDesk$Version" "parent" "LHarmoniumDesk$Version;", Cond.instanceMethod yX1_init, Cond.code yX1_init cX1_init 1 none, Cond.methodLink RX1 3 objectInit, Cond.fieldLink RX1 9 "HarmoniumDesk$Score" "bars" "I", Cond.arrayClass .int, Cond.fieldLink RX1 15 "HarmoniumDesk$Score" "upper" "[I", Cond.fieldLink RX1 19 "HarmoniumDesk$Score" "lower" "[I", Cond.methodLink RX3 56 yX1_fill, Cond.instanceMethod yX1_fill, Cond.selects RX1 yX1_fill yX1_fill, Cond.code yX1_fill cX1_fill 4 none, Cond.methodLink RX1 22 yX1_setTone, Cond.instanceMethod yX1_setTone, Cond.selects RX1 yX1_setTone yX1_setTone]
def wsL_begin_r3 : List Cond := [Cond.code yX1_setTone cX1_setTone 5 none]
def wsL_begin : List Cond := .codeWith yL_begin cL_begin 4 (some .int) [(0, 9, 12, 13), (0, 9, 15, 15)] :: ((wsL_begin_r1 ++ (wsL_begin_r2 ++ wsL_begin_r3)) ++ wsX20 ++ wsX30 ++ wsX10 ++ (vx_atS RX3 46 "java/lang/IllegalArgumentException" ["java/lang/RuntimeException", "java/lang/Exception"]).filter goodWord ++ (vx_atS RX3 89 "java/lang/IllegalStateException" ["java/lang/RuntimeException", "java/lang/Exception"]).filter goodWord)
def wsL_branch_r1 : List Cond := [Cond.classLink RL 20 "java/lang/IndexOutOfBoundsException", Cond.classLink RL 15 "java/lang/IllegalStateException", Cond.methodLink RL 17 yX3_branch, Cond.instanceMethod yX3_branch, Cond.selects RX3 yX3_branch yX3_branch, Cond.initialized RX3, Cond.code yX3_branch cX3_branch 4 (some .int), Cond.methodLink RX3 63 yX3_findVersion, Cond.instanceMethod yX3_findVersion, Cond.selects RX3 yX3_findVersion yX3_findVersion, Cond.code yX3_findVersion cX3_findVersion 3 (some (.object "HarmoniumDesk$Version")), Cond.classLink RX3 114 "java/lang/IndexOutOfBoundsException", Cond.initialized "java/lang/IndexOutOfBoundsException", Cond.fieldLink RX3 11 "HarmoniumDesk" "versions" "[LHarmoniumDesk$Version;", Cond.methodLink RX3 49 yX3_addVersion, Cond.instanceMethod yX3_addVersion, Cond.selects RX3 yX3_addVersion yX3_addVersion, Cond.code yX3_addVersion cX3_addVersion 3 (some (.object "HarmoniumDesk$Version")), Cond.classLink RX3 85 "java/lang/IllegalStateException", Cond.initialized "java/lang/IllegalStateException", Cond.fieldLink RX3 15 "HarmoniumDesk" "versionCount" "I", Cond.classLink RX3 9 RX2, Cond.instantiable RX2 5, Cond.initialized RX2]
def wsL_branch_r2 : List Cond := [Cond.methodLink RX3 182 yX2_init, Cond.instanceMethod yX2_init, Cond.code yX2_init cX2_init 3 none, Cond.methodLink RX2 1 objectInit, Cond.instanceMethod objectInit, Cond.code objectInit ⟨#[0xb1]⟩ 1 none, Cond.classLink RX2 7 RX1, Cond.instantiable RX1 3, Cond.initialized RX1, Cond.fieldLink RX2 10 "HarmoniumDesk$Version" "score" "LHarmoniumDesk$Score;", Cond.fieldLink RX2 16 "HarmoniumDesk$Version" "fixed" "Z", Cond.fieldLink RX2 20 "HarmoniumDesk$Version" "passedWhenHandedIn" "Z", Cond.fieldLink RX2 23 "HarmoniumDesk$Version" "number" "I", Cond.fieldLink RX2 27 "HarmoniumDesk$Version" "parent" "LHarmoniumDesk$Version;", Cond.instanceMethod yX1_init, Cond.code yX1_init cX1_init 1 none, Cond.methodLink RX1 3 objectInit, Cond.fieldLink RX1 9 "HarmoniumDesk$Score" "bars" "I", Cond.arrayClass .int, Cond.fieldLink RX1 15 "HarmoniumDesk$Score" "upper" "[I", Cond.fieldLink RX1 19 "HarmoniumDesk$Score" "lower" "[I", Cond.methodLink RX3 67 yX1_takeAll, Cond.instanceMethod yX1_takeAll, Cond.selects RX1 yX1_takeAll yX1_takeAll]
def wsL_branch_r3 : List Cond := [Cond.code yX1_takeAll cX1_takeAll 3 none, Cond.methodLink RX1 26 yX1_takeBar, Cond.instanceMethod yX1_takeBar, Cond.selects RX1 yX1_takeBar yX1_takeBar, Cond.code yX1_takeBar cX1_takeBar 3 none, Cond.methodLink RX1 30 yX1_tone, Cond.instanceMethod yX1_tone, Cond.selects RX1 yX1_tone yX1_tone, Cond.code yX1_tone cX1_tone 4 (some .int), Cond.methodLink RX1 22 yX1_setTone, Cond.instanceMethod yX1_setTone, Cond.selects RX1 yX1_setTone yX1_setTone, Cond.code yX1_setTone cX1_setTone 5 none]
def wsL_branch : List Cond := .codeWith yL_branch cL_branch 4 (some .int) [(0, 9, 12, 20), (0, 9, 15, 15)] :: ((wsL_branch_r1 ++ (wsL_branch_r2 ++ wsL_branch_r3)) ++ wsX20 ++ wsX30 ++ wsX10 ++ (vx_atS RX3 118 "java/lang/IndexOutOfBoundsException" ["java/lang/RuntimeException", "java/lang/Exception"]).filter goodWord ++ (vx_atS RX3 89 "java/lang/IllegalStateException" ["java/lang/RuntimeException", "java/lang/Exception"]).filter goodWord)
def wsL_setNote_r1 : List Cond := [Cond.classLink RL 20 "java/lang/IndexOutOfBoundsException", Cond.classLink RL 13 "java/lang/IllegalArgumentException", Cond.classLink RL 15 "java/lang/IllegalStateException", Cond.methodLink RL 22 yX3_setNote, Cond.instanceMethod yX3_setNote, Cond.selects RX3 yX3_setNote yX3_setNote, Cond.initialized RX3, Cond.code yX3_setNote cX3_setNote 7 (some .int), Cond.classLink RX3 42 "java/lang/IllegalArgumentException", Cond.initialized "java/lang/IllegalArgumentException", Cond.classLink RX3 85 "java/lang/IllegalStateException", Cond.initialized "java/lang/IllegalStateException", Cond.methodLink RX3 63 yX3_findVersion, Cond.instanceMethod yX3_findVersion, Cond.selects RX3 yX3_findVersion yX3_findVersion, Cond.code yX3_findVersion cX3_findVersion 3 (some (.object "HarmoniumDesk$Version")), Cond.classLink RX3 114 "java/lang/IndexOutOfBoundsException", Cond.initialized "java/lang/IndexOutOfBoundsException", Cond.fieldLink RX3 11 "HarmoniumDesk" "versions" "[LHarmoniumDesk$Version;", Cond.methodLink RX3 75 yX3_checkVoice, Cond.static yX3_checkVoice, Cond.code yX3_checkVoice cX3_checkVoice 1 none, Cond.methodLink RX3 79 yX3_checkBar, Cond.static yX3_checkBar]
def wsL_setNote_r2 : List Cond := [Cond.code yX3_checkBar cX3_checkBar 2 none, Cond.methodLink RX3 90 yX1_tone, Cond.instanceMethod yX1_tone, Cond.selects RX1 yX1_tone yX1_tone, Cond.initialized RX1, Cond.code yX1_tone cX1_tone 4 (some .int), Cond.fieldLink RX1 15 "HarmoniumDesk$Score" "upper" "[I", Cond.fieldLink RX1 19 "HarmoniumDesk$Score" "lower" "[I", Cond.methodLink RX3 94 yX1_setTone, Cond.instanceMethod yX1_setTone, Cond.selects RX1 yX1_setTone yX1_setTone, Cond.code yX1_setTone cX1_setTone 5 none]
def wsL_setNote : List Cond := .codeWith yL_setNote cL_setNote 7 (some .int) [(0, 14, 17, 20), (0, 14, 21, 13), (0, 14, 25, 15)] :: ((wsL_setNote_r1 ++ wsL_setNote_r2) ++ wsX20 ++ wsX30 ++ wsX10 ++ (vx_atS RX3 46 "java/lang/IllegalArgumentException" ["java/lang/RuntimeException", "java/lang/Exception"]).filter goodWord ++ (vx_atS RX3 89 "java/lang/IllegalStateException" ["java/lang/RuntimeException", "java/lang/Exception"]).filter goodWord ++ (vx_atS RX3 118 "java/lang/IndexOutOfBoundsException" ["java/lang/RuntimeException", "java/lang/Exception"]).filter goodWord)
def wsL_note_r1 : List Cond := [Cond.classLink RL 20 "java/lang/IndexOutOfBoundsException", Cond.methodLink RL 26 yX3_note, Cond.instanceMethod yX3_note, Cond.selects RX3 yX3_note yX3_note, Cond.initialized RX3, Cond.code yX3_note cX3_note 5 (some .int), Cond.methodLink RX3 63 yX3_findVersion, Cond.instanceMethod yX3_findVersion, Cond.selects RX3 yX3_findVersion yX3_findVersion, Cond.code yX3_findVersion cX3_findVersion 3 (some (.object "HarmoniumDesk$Version")), Cond.classLink RX3 114 "java/lang/IndexOutOfBoundsException", Cond.initialized "java/lang/IndexOutOfBoundsException", Cond.fieldLink RX3 11 "HarmoniumDesk" "versions" "[LHarmoniumDesk$Version;", Cond.methodLink RX3 75 yX3_checkVoice, Cond.static yX3_checkVoice, Cond.code yX3_checkVoice cX3_checkVoice 1 none, Cond.methodLink RX3 79 yX3_checkBar, Cond.static yX3_checkBar, Cond.code yX3_checkBar cX3_checkBar 2 none, Cond.methodLink RX3 90 yX1_tone, Cond.instanceMethod yX1_tone, Cond.selects RX1 yX1_tone yX1_tone, Cond.initialized RX1, Cond.code yX1_tone cX1_tone 4 (some .int)]
def wsL_note_r2 : List Cond := [Cond.fieldLink RX1 15 "HarmoniumDesk$Score" "upper" "[I", Cond.fieldLink RX1 19 "HarmoniumDesk$Score" "lower" "[I"]
def wsL_note : List Cond := .codeWith yL_note cL_note 6 (some .int) [(0, 12, 15, 20)] :: ((wsL_note_r1 ++ wsL_note_r2) ++ wsX20 ++ wsX30 ++ wsX10 ++ (vx_atS RX3 118 "java/lang/IndexOutOfBoundsException" ["java/lang/RuntimeException", "java/lang/Exception"]).filter goodWord)
def wsL_base : List Cond := .codeWith yL_base cL_base 5 (some .int) [(0, 10, 13, 20)] :: ([.classLink RL 20 "java/lang/IndexOutOfBoundsException", .methodLink RL 30 yX3_base, .instanceMethod yX3_base, .selects RX3 yX3_base yX3_base, .initialized RX3, .code yX3_base cX3_base 4 (some .int), .methodLink RX3 63 yX3_findVersion, .instanceMethod yX3_findVersion, .selects RX3 yX3_findVersion yX3_findVersion, .code yX3_findVersion cX3_findVersion 3 (some (.object "HarmoniumDesk$Version")), .classLink RX3 114 "java/lang/IndexOutOfBoundsException", .initialized "java/lang/IndexOutOfBoundsException", .fieldLink RX3 11 "HarmoniumDesk" "versions" "[LHarmoniumDesk$Version;", .methodLink RX3 98 yX3_commonAncestor, .static yX3_commonAncestor, .code yX3_commonAncestor cX3_commonAncestor 3 (some (.object "HarmoniumDesk$Version")), .methodLink RX3 190 yX3_isAncestor, .static yX3_isAncestor, .code yX3_isAncestor cX3_isAncestor 3 (some .boolean)] ++ wsX20 ++ wsX30 ++ (vx_atS RX3 118 "java/lang/IndexOutOfBoundsException" ["java/lang/RuntimeException", "java/lang/Exception"]).filter goodWord)
def wsL_conflicts_r1 : List Cond := [Cond.classLink RL 20 "java/lang/IndexOutOfBoundsException", Cond.classLink RL 15 "java/lang/IllegalStateException", Cond.methodLink RL 34 yX3_conflicts, Cond.instanceMethod yX3_conflicts, Cond.selects RX3 yX3_conflicts yX3_conflicts, Cond.initialized RX3, Cond.code yX3_conflicts cX3_conflicts 6 (some .int), Cond.classLink RX3 85 "java/lang/IllegalStateException", Cond.initialized "java/lang/IllegalStateException", Cond.methodLink RX3 63 yX3_findVersion, Cond.instanceMethod yX3_findVersion, Cond.selects RX3 yX3_findVersion yX3_findVersion, Cond.code yX3_findVersion cX3_findVersion 3 (some (.object "HarmoniumDesk$Version")), Cond.classLink RX3 114 "java/lang/IndexOutOfBoundsException", Cond.initialized "java/lang/IndexOutOfBoundsException", Cond.fieldLink RX3 11 "HarmoniumDesk" "versions" "[LHarmoniumDesk$Version;", Cond.methodLink RX3 98 yX3_commonAncestor, Cond.static yX3_commonAncestor, Cond.code yX3_commonAncestor cX3_commonAncestor 3 (some (.object "HarmoniumDesk$Version")), Cond.methodLink RX3 190 yX3_isAncestor, Cond.static yX3_isAncestor, Cond.code yX3_isAncestor cX3_isAncestor 3 (some .boolean), Cond.methodLink RX3 104 yX3_conflictingBars, Cond.static yX3_conflictingBars]
def wsL_conflicts_r2 : List Cond := [Cond.code yX3_conflictingBars cX3_conflictingBars 5 (some .int), Cond.methodLink RX3 198 yX1_sameBar, Cond.instanceMethod yX1_sameBar, Cond.selects RX1 yX1_sameBar yX1_sameBar, Cond.initialized RX1, Cond.code yX1_sameBar cX1_sameBar 3 (some .boolean), Cond.methodLink RX1 30 yX1_tone, Cond.instanceMethod yX1_tone, Cond.selects RX1 yX1_tone yX1_tone, Cond.code yX1_tone cX1_tone 4 (some .int), Cond.fieldLink RX1 15 "HarmoniumDesk$Score" "upper" "[I", Cond.fieldLink RX1 19 "HarmoniumDesk$Score" "lower" "[I"]
def wsL_conflicts : List Cond := .codeWith yL_conflicts cL_conflicts 5 (some .int) [(0, 10, 13, 20), (0, 10, 17, 15)] :: ((wsL_conflicts_r1 ++ wsL_conflicts_r2) ++ wsX20 ++ wsX30 ++ wsX10 ++ (vx_atS RX3 89 "java/lang/IllegalStateException" ["java/lang/RuntimeException", "java/lang/Exception"]).filter goodWord ++ (vx_atS RX3 118 "java/lang/IndexOutOfBoundsException" ["java/lang/RuntimeException", "java/lang/Exception"]).filter goodWord)
def wsL_merge_r1 : List Cond := [Cond.classLink RL 20 "java/lang/IndexOutOfBoundsException", Cond.classLink RL 13 "java/lang/IllegalArgumentException", Cond.classLink RL 15 "java/lang/IllegalStateException", Cond.methodLink RL 37 yX3_merge, Cond.instanceMethod yX3_merge, Cond.selects RX3 yX3_merge yX3_merge, Cond.initialized RX3, Cond.code yX3_merge cX3_merge 7 (some .int), Cond.classLink RX3 42 "java/lang/IllegalArgumentException", Cond.initialized "java/lang/IllegalArgumentException", Cond.classLink RX3 85 "java/lang/IllegalStateException", Cond.initialized "java/lang/IllegalStateException", Cond.methodLink RX3 63 yX3_findVersion, Cond.instanceMethod yX3_findVersion, Cond.selects RX3 yX3_findVersion yX3_findVersion, Cond.code yX3_findVersion cX3_findVersion 3 (some (.object "HarmoniumDesk$Version")), Cond.classLink RX3 114 "java/lang/IndexOutOfBoundsException", Cond.initialized "java/lang/IndexOutOfBoundsException", Cond.fieldLink RX3 11 "HarmoniumDesk" "versions" "[LHarmoniumDesk$Version;", Cond.methodLink RX3 98 yX3_commonAncestor, Cond.static yX3_commonAncestor, Cond.code yX3_commonAncestor cX3_commonAncestor 3 (some (.object "HarmoniumDesk$Version")), Cond.methodLink RX3 190 yX3_isAncestor, Cond.static yX3_isAncestor]
def wsL_merge_r2 : List Cond := [Cond.code yX3_isAncestor cX3_isAncestor 3 (some .boolean), Cond.methodLink RX3 49 yX3_addVersion, Cond.instanceMethod yX3_addVersion, Cond.selects RX3 yX3_addVersion yX3_addVersion, Cond.code yX3_addVersion cX3_addVersion 3 (some (.object "HarmoniumDesk$Version")), Cond.fieldLink RX3 15 "HarmoniumDesk" "versionCount" "I", Cond.classLink RX3 9 RX2, Cond.instantiable RX2 5, Cond.initialized RX2, Cond.methodLink RX3 182 yX2_init, Cond.instanceMethod yX2_init, Cond.code yX2_init cX2_init 3 none, Cond.methodLink RX2 1 objectInit, Cond.instanceMethod objectInit, Cond.code objectInit ⟨#[0xb1]⟩ 1 none, Cond.classLink RX2 7 RX1, Cond.instantiable RX1 3, Cond.initialized RX1, Cond.fieldLink RX2 10 "HarmoniumDesk$Version" "score" "LHarmoniumDesk$Score;", Cond.fieldLink RX2 16 "HarmoniumDesk$Version" "fixed" "Z", Cond.fieldLink RX2 20 "HarmoniumDesk$Version" "passedWhenHandedIn" "Z", Cond.fieldLink RX2 23 "HarmoniumDesk$Version" "number" "I", Cond.fieldLink RX2 27 "HarmoniumDesk$Version" "parent" "LHarmoniumDesk$Version;", Cond.instanceMethod yX1_init]
def wsL_merge_r3 : List Cond := [Cond.code yX1_init cX1_init 1 none, Cond.methodLink RX1 3 objectInit, Cond.fieldLink RX1 9 "HarmoniumDesk$Score" "bars" "I", Cond.arrayClass .int, Cond.fieldLink RX1 15 "HarmoniumDesk$Score" "upper" "[I", Cond.fieldLink RX1 19 "HarmoniumDesk$Score" "lower" "[I", Cond.methodLink RX3 110 yX3_mergeInto, Cond.static yX3_mergeInto, Cond.code yX3_mergeInto cX3_mergeInto 5 none, Cond.methodLink RX3 67 yX1_takeAll, Cond.instanceMethod yX1_takeAll, Cond.selects RX1 yX1_takeAll yX1_takeAll, Cond.code yX1_takeAll cX1_takeAll 3 none, Cond.methodLink RX1 26 yX1_takeBar, Cond.instanceMethod yX1_takeBar, Cond.selects RX1 yX1_takeBar yX1_takeBar, Cond.code yX1_takeBar cX1_takeBar 3 none, Cond.methodLink RX1 30 yX1_tone, Cond.instanceMethod yX1_tone, Cond.selects RX1 yX1_tone yX1_tone, Cond.code yX1_tone cX1_tone 4 (some .int), Cond.methodLink RX1 22 yX1_setTone, Cond.instanceMethod yX1_setTone, Cond.selects RX1 yX1_setTone yX1_setTone]
def wsL_merge_r4 : List Cond := [Cond.code yX1_setTone cX1_setTone 5 none, Cond.methodLink RX3 198 yX1_sameBar, Cond.instanceMethod yX1_sameBar, Cond.selects RX1 yX1_sameBar yX1_sameBar, Cond.code yX1_sameBar cX1_sameBar 3 (some .boolean), Cond.methodLink RX3 202 yX1_takeBar]
def wsL_merge : List Cond := .codeWith yL_merge cL_merge 5 (some .int) [(0, 10, 13, 20), (0, 10, 17, 13), (0, 10, 21, 15)] :: ((wsL_merge_r1 ++ (wsL_merge_r2 ++ (wsL_merge_r3 ++ wsL_merge_r4))) ++ wsX20 ++ wsX30 ++ wsX10 ++ (vx_atS RX3 46 "java/lang/IllegalArgumentException" ["java/lang/RuntimeException", "java/lang/Exception"]).filter goodWord ++ (vx_atS RX3 89 "java/lang/IllegalStateException" ["java/lang/RuntimeException", "java/lang/Exception"]).filter goodWord ++ (vx_atS RX3 118 "java/lang/IndexOutOfBoundsException" ["java/lang/RuntimeException", "java/lang/Exception"]).filter goodWord)
def wsL_setWeight : List Cond := .codeWith yL_setWeight cL_setWeight 5 (some .int) [(0, 10, 13, 20), (0, 10, 17, 13)] :: ([.classLink RL 20 "java/lang/IndexOutOfBoundsException", .classLink RL 13 "java/lang/IllegalArgumentException", .methodLink RL 40 yX3_setWeight, .instanceMethod yX3_setWeight, .selects RX3 yX3_setWeight yX3_setWeight, .initialized RX3, .code yX3_setWeight cX3_setWeight 4 (some .int), .classLink RX3 114 "java/lang/IndexOutOfBoundsException", .initialized "java/lang/IndexOutOfBoundsException", .classLink RX3 42 "java/lang/IllegalArgumentException", .initialized "java/lang/IllegalArgumentException", .fieldLink RX3 28 "HarmoniumDesk" "weights" "[I"] ++ wsX30 ++ (vx_atS RX3 118 "java/lang/IndexOutOfBoundsException" ["java/lang/RuntimeException", "java/lang/Exception"]).filter goodWord ++ (vx_atS RX3 46 "java/lang/IllegalArgumentException" ["java/lang/RuntimeException", "java/lang/Exception"]).filter goodWord)
def wsL_setPass : List Cond := .codeWith yL_setPass cL_setPass 4 (some .int) [(0, 9, 12, 13)] :: ([.classLink RL 13 "java/lang/IllegalArgumentException", .methodLink RL 43 yX3_setPass, .instanceMethod yX3_setPass, .selects RX3 yX3_setPass yX3_setPass, .initialized RX3, .code yX3_setPass cX3_setPass 3 (some .int), .classLink RX3 42 "java/lang/IllegalArgumentException", .initialized "java/lang/IllegalArgumentException", .fieldLink RX3 32 "HarmoniumDesk" "passMark" "I"] ++ wsX30 ++ (vx_atS RX3 46 "java/lang/IllegalArgumentException" ["java/lang/RuntimeException", "java/lang/Exception"]).filter goodWord)
def wsL_faults_r1 : List Cond := [Cond.classLink RL 20 "java/lang/IndexOutOfBoundsException", Cond.methodLink RL 46 yX3_faults, Cond.instanceMethod yX3_faults, Cond.selects RX3 yX3_faults yX3_faults, Cond.initialized RX3, Cond.code yX3_faults cX3_faults 5 (some .int), Cond.classLink RX3 114 "java/lang/IndexOutOfBoundsException", Cond.initialized "java/lang/IndexOutOfBoundsException", Cond.methodLink RX3 63 yX3_findVersion, Cond.instanceMethod yX3_findVersion, Cond.selects RX3 yX3_findVersion yX3_findVersion, Cond.code yX3_findVersion cX3_findVersion 3 (some (.object "HarmoniumDesk$Version")), Cond.fieldLink RX3 11 "HarmoniumDesk" "versions" "[LHarmoniumDesk$Version;", Cond.methodLink RX3 79 yX3_checkBar, Cond.static yX3_checkBar, Cond.code yX3_checkBar cX3_checkBar 2 none, Cond.methodLink RX3 123 yX1_faultsOf, Cond.instanceMethod yX1_faultsOf, Cond.selects RX1 yX1_faultsOf yX1_faultsOf, Cond.initialized RX1, Cond.code yX1_faultsOf cX1_faultsOf 3 (some .int), Cond.methodLink RX1 37 yX1_isDiscord, Cond.instanceMethod yX1_isDiscord, Cond.selects RX1 yX1_isDiscord yX1_isDiscord]
def wsL_faults_r2 : List Cond := [Cond.code yX1_isDiscord cX1_isDiscord 2 (some .boolean), Cond.methodLink RX1 59 yX1_interval, Cond.instanceMethod yX1_interval, Cond.selects RX1 yX1_interval yX1_interval, Cond.code yX1_interval cX1_interval 2 (some .int), Cond.methodLink RX1 54 Lib.Math.abs.name, Cond.static Lib.Math.abs.name, Cond.initialized "java/lang/Math", Cond.code Lib.Math.abs.name Lib.Math.abs.code 1 (some .int), Cond.methodLink RX1 30 yX1_tone, Cond.instanceMethod yX1_tone, Cond.selects RX1 yX1_tone yX1_tone, Cond.code yX1_tone cX1_tone 4 (some .int), Cond.fieldLink RX1 15 "HarmoniumDesk$Score" "upper" "[I", Cond.fieldLink RX1 19 "HarmoniumDesk$Score" "lower" "[I", Cond.methodLink RX1 41 yX1_isParallel, Cond.instanceMethod yX1_isParallel, Cond.selects RX1 yX1_isParallel yX1_isParallel, Cond.code yX1_isParallel cX1_isParallel 2 (some .boolean), Cond.methodLink RX1 34 yX1_stepTo, Cond.instanceMethod yX1_stepTo, Cond.selects RX1 yX1_stepTo yX1_stepTo, Cond.code yX1_stepTo cX1_stepTo 3 (some .int), Cond.methodLink RX1 62 yX1_isPerfect]
def wsL_faults_r3 : List Cond := [Cond.static yX1_isPerfect, Cond.code yX1_isPerfect cX1_isPerfect 1 (some .boolean), Cond.methodLink RX1 44 yX1_leapsTo, Cond.instanceMethod yX1_leapsTo, Cond.selects RX1 yX1_leapsTo yX1_leapsTo, Cond.code yX1_leapsTo cX1_leapsTo 4 (some .int), Cond.methodLink RX1 48 yX1_badEndsAt, Cond.instanceMethod yX1_badEndsAt, Cond.selects RX1 yX1_badEndsAt yX1_badEndsAt, Cond.code yX1_badEndsAt cX1_badEndsAt 4 (some .int), Cond.fieldLink RX1 9 "HarmoniumDesk$Score" "bars" "I", Cond.methodLink RX1 51 yX1_isStanding, Cond.instanceMethod yX1_isStanding, Cond.selects RX1 yX1_isStanding yX1_isStanding, Cond.code yX1_isStanding cX1_isStanding 2 (some .boolean)]
def wsL_faults : List Cond := .codeWith yL_faults cL_faults 6 (some .int) [(0, 12, 15, 20)] :: ((wsL_faults_r1 ++ (wsL_faults_r2 ++ wsL_faults_r3)) ++ wsX20 ++ wsX30 ++ wsX10 ++ (vx_atS RX3 118 "java/lang/IndexOutOfBoundsException" ["java/lang/RuntimeException", "java/lang/Exception"]).filter goodWord)
def wsL_mark_r1 : List Cond := [Cond.classLink RL 20 "java/lang/IndexOutOfBoundsException", Cond.methodLink RL 49 yX3_mark, Cond.instanceMethod yX3_mark, Cond.selects RX3 yX3_mark yX3_mark, Cond.initialized RX3, Cond.code yX3_mark cX3_mark 2 (some .int), Cond.methodLink RX3 63 yX3_findVersion, Cond.instanceMethod yX3_findVersion, Cond.selects RX3 yX3_findVersion yX3_findVersion, Cond.code yX3_findVersion cX3_findVersion 3 (some (.object "HarmoniumDesk$Version")), Cond.classLink RX3 114 "java/lang/IndexOutOfBoundsException", Cond.initialized "java/lang/IndexOutOfBoundsException", Cond.fieldLink RX3 11 "HarmoniumDesk" "versions" "[LHarmoniumDesk$Version;", Cond.methodLink RX3 126 yX3_markOf, Cond.instanceMethod yX3_markOf, Cond.selects RX3 yX3_markOf yX3_markOf, Cond.code yX3_markOf cX3_markOf 2 (some .int), Cond.methodLink RX3 210 Lib.Math.max.name, Cond.static Lib.Math.max.name, Cond.initialized "java/lang/Math", Cond.code Lib.Math.max.name Lib.Math.max.code 2 (some .int), Cond.methodLink RX3 206 yX3_weightedFaults, Cond.instanceMethod yX3_weightedFaults, Cond.selects RX3 yX3_weightedFaults yX3_weightedFaults]
def wsL_mark_r2 : List Cond := [Cond.code yX3_weightedFaults cX3_weightedFaults 7 (some .int), Cond.fieldLink RX3 28 "HarmoniumDesk" "weights" "[I", Cond.methodLink RX3 123 yX1_faultsOf, Cond.instanceMethod yX1_faultsOf, Cond.selects RX1 yX1_faultsOf yX1_faultsOf, Cond.initialized RX1, Cond.code yX1_faultsOf cX1_faultsOf 3 (some .int), Cond.methodLink RX1 37 yX1_isDiscord, Cond.instanceMethod yX1_isDiscord, Cond.selects RX1 yX1_isDiscord yX1_isDiscord, Cond.code yX1_isDiscord cX1_isDiscord 2 (some .boolean), Cond.methodLink RX1 59 yX1_interval, Cond.instanceMethod yX1_interval, Cond.selects RX1 yX1_interval yX1_interval, Cond.code yX1_interval cX1_interval 2 (some .int), Cond.methodLink RX1 54 Lib.Math.abs.name, Cond.static Lib.Math.abs.name, Cond.code Lib.Math.abs.name Lib.Math.abs.code 1 (some .int), Cond.methodLink RX1 30 yX1_tone, Cond.instanceMethod yX1_tone, Cond.selects RX1 yX1_tone yX1_tone, Cond.code yX1_tone cX1_tone 4 (some .int), Cond.fieldLink RX1 15 "HarmoniumDesk$Score" "upper" "[I", Cond.fieldLink RX1 19 "HarmoniumDesk$Score" "lower" "[I"]
def wsL_mark_r3 : List Cond := [Cond.methodLink RX1 41 yX1_isParallel, Cond.instanceMethod yX1_isParallel, Cond.selects RX1 yX1_isParallel yX1_isParallel, Cond.code yX1_isParallel cX1_isParallel 2 (some .boolean), Cond.methodLink RX1 34 yX1_stepTo, Cond.instanceMethod yX1_stepTo, Cond.selects RX1 yX1_stepTo yX1_stepTo, Cond.code yX1_stepTo cX1_stepTo 3 (some .int), Cond.methodLink RX1 62 yX1_isPerfect, Cond.static yX1_isPerfect, Cond.code yX1_isPerfect cX1_isPerfect 1 (some .boolean), Cond.methodLink RX1 44 yX1_leapsTo, Cond.instanceMethod yX1_leapsTo, Cond.selects RX1 yX1_leapsTo yX1_leapsTo, Cond.code yX1_leapsTo cX1_leapsTo 4 (some .int), Cond.methodLink RX1 48 yX1_badEndsAt, Cond.instanceMethod yX1_badEndsAt, Cond.selects RX1 yX1_badEndsAt yX1_badEndsAt, Cond.code yX1_badEndsAt cX1_badEndsAt 4 (some .int), Cond.fieldLink RX1 9 "HarmoniumDesk$Score" "bars" "I", Cond.methodLink RX1 51 yX1_isStanding, Cond.instanceMethod yX1_isStanding, Cond.selects RX1 yX1_isStanding yX1_isStanding, Cond.code yX1_isStanding cX1_isStanding 2 (some .boolean)]
def wsL_mark : List Cond := .codeWith yL_mark cL_mark 4 (some .int) [(0, 9, 12, 20)] :: ((wsL_mark_r1 ++ (wsL_mark_r2 ++ wsL_mark_r3)) ++ wsX20 ++ wsX30 ++ wsX10 ++ (vx_atS RX3 118 "java/lang/IndexOutOfBoundsException" ["java/lang/RuntimeException", "java/lang/Exception"]).filter goodWord)
def wsL_handIn_r1 : List Cond := [Cond.classLink RL 20 "java/lang/IndexOutOfBoundsException", Cond.methodLink RL 52 yX3_handIn, Cond.instanceMethod yX3_handIn, Cond.selects RX3 yX3_handIn yX3_handIn, Cond.initialized RX3, Cond.code yX3_handIn cX3_handIn 3 (some .boolean), Cond.fieldLink RX3 32 "HarmoniumDesk" "passMark" "I", Cond.methodLink RX3 63 yX3_findVersion, Cond.instanceMethod yX3_findVersion, Cond.selects RX3 yX3_findVersion yX3_findVersion, Cond.code yX3_findVersion cX3_findVersion 3 (some (.object "HarmoniumDesk$Version")), Cond.classLink RX3 114 "java/lang/IndexOutOfBoundsException", Cond.initialized "java/lang/IndexOutOfBoundsException", Cond.fieldLink RX3 11 "HarmoniumDesk" "versions" "[LHarmoniumDesk$Version;", Cond.methodLink RX3 126 yX3_markOf, Cond.instanceMethod yX3_markOf, Cond.selects RX3 yX3_markOf yX3_markOf, Cond.code yX3_markOf cX3_markOf 2 (some .int), Cond.methodLink RX3 210 Lib.Math.max.name, Cond.static Lib.Math.max.name, Cond.initialized "java/lang/Math", Cond.code Lib.Math.max.name Lib.Math.max.code 2 (some .int), Cond.methodLink RX3 206 yX3_weightedFaults, Cond.instanceMethod yX3_weightedFaults]
def wsL_handIn_r2 : List Cond := [Cond.selects RX3 yX3_weightedFaults yX3_weightedFaults, Cond.code yX3_weightedFaults cX3_weightedFaults 7 (some .int), Cond.fieldLink RX3 28 "HarmoniumDesk" "weights" "[I", Cond.methodLink RX3 123 yX1_faultsOf, Cond.instanceMethod yX1_faultsOf, Cond.selects RX1 yX1_faultsOf yX1_faultsOf, Cond.initialized RX1, Cond.code yX1_faultsOf cX1_faultsOf 3 (some .int), Cond.methodLink RX1 37 yX1_isDiscord, Cond.instanceMethod yX1_isDiscord, Cond.selects RX1 yX1_isDiscord yX1_isDiscord, Cond.code yX1_isDiscord cX1_isDiscord 2 (some .boolean), Cond.methodLink RX1 59 yX1_interval, Cond.instanceMethod yX1_interval, Cond.selects RX1 yX1_interval yX1_interval, Cond.code yX1_interval cX1_interval 2 (some .int), Cond.methodLink RX1 54 Lib.Math.abs.name, Cond.static Lib.Math.abs.name, Cond.code Lib.Math.abs.name Lib.Math.abs.code 1 (some .int), Cond.methodLink RX1 30 yX1_tone, Cond.instanceMethod yX1_tone, Cond.selects RX1 yX1_tone yX1_tone, Cond.code yX1_tone cX1_tone 4 (some .int), Cond.fieldLink RX1 15 "HarmoniumDesk$Score" "upper" "[I"]
def wsL_handIn_r3 : List Cond := [Cond.fieldLink RX1 19 "HarmoniumDesk$Score" "lower" "[I", Cond.methodLink RX1 41 yX1_isParallel, Cond.instanceMethod yX1_isParallel, Cond.selects RX1 yX1_isParallel yX1_isParallel, Cond.code yX1_isParallel cX1_isParallel 2 (some .boolean), Cond.methodLink RX1 34 yX1_stepTo, Cond.instanceMethod yX1_stepTo, Cond.selects RX1 yX1_stepTo yX1_stepTo, Cond.code yX1_stepTo cX1_stepTo 3 (some .int), Cond.methodLink RX1 62 yX1_isPerfect, Cond.static yX1_isPerfect, Cond.code yX1_isPerfect cX1_isPerfect 1 (some .boolean), Cond.methodLink RX1 44 yX1_leapsTo, Cond.instanceMethod yX1_leapsTo, Cond.selects RX1 yX1_leapsTo yX1_leapsTo, Cond.code yX1_leapsTo cX1_leapsTo 4 (some .int), Cond.methodLink RX1 48 yX1_badEndsAt, Cond.instanceMethod yX1_badEndsAt, Cond.selects RX1 yX1_badEndsAt yX1_badEndsAt, Cond.code yX1_badEndsAt cX1_badEndsAt 4 (some .int), Cond.fieldLink RX1 9 "HarmoniumDesk$Score" "bars" "I", Cond.methodLink RX1 51 yX1_isStanding, Cond.instanceMethod yX1_isStanding, Cond.selects RX1 yX1_isStanding yX1_isStanding]
def wsL_handIn_r4 : List Cond := [Cond.code yX1_isStanding cX1_isStanding 2 (some .boolean)]
def wsL_handIn : List Cond := .codeWith yL_handIn cL_handIn 4 (some .int) [(0, 16, 19, 20)] :: ((wsL_handIn_r1 ++ (wsL_handIn_r2 ++ (wsL_handIn_r3 ++ wsL_handIn_r4))) ++ wsX20 ++ wsX30 ++ wsX10 ++ (vx_atS RX3 118 "java/lang/IndexOutOfBoundsException" ["java/lang/RuntimeException", "java/lang/Exception"]).filter goodWord)
def wsL_best_r1 : List Cond := [Cond.classLink RL 20 "java/lang/IndexOutOfBoundsException", Cond.methodLink RL 56 yX3_best, Cond.instanceMethod yX3_best, Cond.selects RX3 yX3_best yX3_best, Cond.initialized RX3, Cond.code yX3_best cX3_best 5 (some .int), Cond.fieldLink RX3 38 "HarmoniumDesk" "trial" "LHarmoniumDesk$Score;", Cond.methodLink RX3 63 yX3_findVersion, Cond.instanceMethod yX3_findVersion, Cond.selects RX3 yX3_findVersion yX3_findVersion, Cond.code yX3_findVersion cX3_findVersion 3 (some (.object "HarmoniumDesk$Version")), Cond.classLink RX3 114 "java/lang/IndexOutOfBoundsException", Cond.initialized "java/lang/IndexOutOfBoundsException", Cond.fieldLink RX3 11 "HarmoniumDesk" "versions" "[LHarmoniumDesk$Version;", Cond.methodLink RX3 75 yX3_checkVoice, Cond.static yX3_checkVoice, Cond.code yX3_checkVoice cX3_checkVoice 1 none, Cond.methodLink RX3 79 yX3_checkBar, Cond.static yX3_checkBar, Cond.code yX3_checkBar cX3_checkBar 2 none, Cond.methodLink RX3 67 yX1_takeAll, Cond.instanceMethod yX1_takeAll, Cond.selects RX1 yX1_takeAll yX1_takeAll, Cond.initialized RX1]
def wsL_best_r2 : List Cond := [Cond.code yX1_takeAll cX1_takeAll 3 none, Cond.fieldLink RX1 9 "HarmoniumDesk$Score" "bars" "I", Cond.methodLink RX1 26 yX1_takeBar, Cond.instanceMethod yX1_takeBar, Cond.selects RX1 yX1_takeBar yX1_takeBar, Cond.code yX1_takeBar cX1_takeBar 3 none, Cond.methodLink RX1 30 yX1_tone, Cond.instanceMethod yX1_tone, Cond.selects RX1 yX1_tone yX1_tone, Cond.code yX1_tone cX1_tone 4 (some .int), Cond.fieldLink RX1 15 "HarmoniumDesk$Score" "upper" "[I", Cond.fieldLink RX1 19 "HarmoniumDesk$Score" "lower" "[I", Cond.methodLink RX1 22 yX1_setTone, Cond.instanceMethod yX1_setTone, Cond.selects RX1 yX1_setTone yX1_setTone, Cond.code yX1_setTone cX1_setTone 5 none, Cond.methodLink RX3 133 yX3_bestTone, Cond.instanceMethod yX3_bestTone, Cond.selects RX3 yX3_bestTone yX3_bestTone, Cond.code yX3_bestTone cX3_bestTone 8 (some .int), Cond.methodLink RX3 215 Lib.Math.min.name, Cond.static Lib.Math.min.name, Cond.initialized "java/lang/Math", Cond.code Lib.Math.min.name Lib.Math.min.code 2 (some .int)]
def wsL_best_r3 : List Cond := [Cond.methodLink RX3 94 yX1_setTone, Cond.methodLink RX3 206 yX3_weightedFaults, Cond.instanceMethod yX3_weightedFaults, Cond.selects RX3 yX3_weightedFaults yX3_weightedFaults, Cond.code yX3_weightedFaults cX3_weightedFaults 7 (some .int), Cond.fieldLink RX3 28 "HarmoniumDesk" "weights" "[I", Cond.methodLink RX3 123 yX1_faultsOf, Cond.instanceMethod yX1_faultsOf, Cond.selects RX1 yX1_faultsOf yX1_faultsOf, Cond.code yX1_faultsOf cX1_faultsOf 3 (some .int), Cond.methodLink RX1 37 yX1_isDiscord, Cond.instanceMethod yX1_isDiscord, Cond.selects RX1 yX1_isDiscord yX1_isDiscord, Cond.code yX1_isDiscord cX1_isDiscord 2 (some .boolean), Cond.methodLink RX1 59 yX1_interval, Cond.instanceMethod yX1_interval, Cond.selects RX1 yX1_interval yX1_interval, Cond.code yX1_interval cX1_interval 2 (some .int), Cond.methodLink RX1 54 Lib.Math.abs.name, Cond.static Lib.Math.abs.name, Cond.code Lib.Math.abs.name Lib.Math.abs.code 1 (some .int), Cond.methodLink RX1 41 yX1_isParallel, Cond.instanceMethod yX1_isParallel, Cond.selects RX1 yX1_isParallel yX1_isParallel]
def wsL_best_r4 : List Cond := [Cond.code yX1_isParallel cX1_isParallel 2 (some .boolean), Cond.methodLink RX1 34 yX1_stepTo, Cond.instanceMethod yX1_stepTo, Cond.selects RX1 yX1_stepTo yX1_stepTo, Cond.code yX1_stepTo cX1_stepTo 3 (some .int), Cond.methodLink RX1 62 yX1_isPerfect, Cond.static yX1_isPerfect, Cond.code yX1_isPerfect cX1_isPerfect 1 (some .boolean), Cond.methodLink RX1 44 yX1_leapsTo, Cond.instanceMethod yX1_leapsTo, Cond.selects RX1 yX1_leapsTo yX1_leapsTo, Cond.code yX1_leapsTo cX1_leapsTo 4 (some .int), Cond.methodLink RX1 48 yX1_badEndsAt, Cond.instanceMethod yX1_badEndsAt, Cond.selects RX1 yX1_badEndsAt yX1_badEndsAt, Cond.code yX1_badEndsAt cX1_badEndsAt 4 (some .int), Cond.methodLink RX1 51 yX1_isStanding, Cond.instanceMethod yX1_isStanding, Cond.selects RX1 yX1_isStanding yX1_isStanding, Cond.code yX1_isStanding cX1_isStanding 2 (some .boolean)]
def wsL_best : List Cond := .codeWith yL_best cL_best 6 (some .int) [(0, 12, 15, 20)] :: ((wsL_best_r1 ++ (wsL_best_r2 ++ (wsL_best_r3 ++ wsL_best_r4))) ++ wsX30 ++ wsX20 ++ wsX10 ++ (vx_atS RX3 118 "java/lang/IndexOutOfBoundsException" ["java/lang/RuntimeException", "java/lang/Exception"]).filter goodWord)
def wsL_movement_r1 : List Cond := [Cond.classLink RL 20 "java/lang/IndexOutOfBoundsException", Cond.methodLink RL 59 yX3_movement, Cond.instanceMethod yX3_movement, Cond.selects RX3 yX3_movement yX3_movement, Cond.initialized RX3, Cond.code yX3_movement cX3_movement 5 (some .float), Cond.methodLink RX3 63 yX3_findVersion, Cond.instanceMethod yX3_findVersion, Cond.selects RX3 yX3_findVersion yX3_findVersion, Cond.code yX3_findVersion cX3_findVersion 3 (some (.object "HarmoniumDesk$Version")), Cond.classLink RX3 114 "java/lang/IndexOutOfBoundsException", Cond.initialized "java/lang/IndexOutOfBoundsException", Cond.fieldLink RX3 11 "HarmoniumDesk" "versions" "[LHarmoniumDesk$Version;", Cond.methodLink RX3 75 yX3_checkVoice, Cond.static yX3_checkVoice, Cond.code yX3_checkVoice cX3_checkVoice 1 none, Cond.methodLink RX3 139 yX1_wayOf, Cond.instanceMethod yX1_wayOf, Cond.selects RX1 yX1_wayOf yX1_wayOf, Cond.initialized RX1, Cond.code yX1_wayOf cX1_wayOf 4 (some .int), Cond.fieldLink RX1 9 "HarmoniumDesk$Score" "bars" "I", Cond.methodLink RX1 34 yX1_stepTo, Cond.instanceMethod yX1_stepTo]
def wsL_movement_r2 : List Cond := [Cond.selects RX1 yX1_stepTo yX1_stepTo, Cond.code yX1_stepTo cX1_stepTo 3 (some .int), Cond.methodLink RX1 54 Lib.Math.abs.name, Cond.static Lib.Math.abs.name, Cond.initialized "java/lang/Math", Cond.code Lib.Math.abs.name Lib.Math.abs.code 1 (some .int), Cond.methodLink RX1 30 yX1_tone, Cond.instanceMethod yX1_tone, Cond.selects RX1 yX1_tone yX1_tone, Cond.code yX1_tone cX1_tone 4 (some .int), Cond.fieldLink RX1 15 "HarmoniumDesk$Score" "upper" "[I", Cond.fieldLink RX1 19 "HarmoniumDesk$Score" "lower" "[I"]
def wsL_movement : List Cond := .codeWith yL_movement cL_movement 5 (some .int) [(0, 10, 13, 20)] :: ((wsL_movement_r1 ++ wsL_movement_r2) ++ wsX20 ++ wsX10 ++ wsX30 ++ (vx_atS RX3 118 "java/lang/IndexOutOfBoundsException" ["java/lang/RuntimeException", "java/lang/Exception"]).filter goodWord)
def wsL_print_r1 : List Cond := [Cond.classLink RL 20 "java/lang/IndexOutOfBoundsException", Cond.classLink RL 15 "java/lang/IllegalStateException", Cond.methodLink RL 63 yX3_print, Cond.instanceMethod yX3_print, Cond.selects RX3 yX3_print yX3_print, Cond.initialized RX3, Cond.code yX3_print cX3_print 5 (some .int), Cond.methodLink RX3 63 yX3_findVersion, Cond.instanceMethod yX3_findVersion, Cond.selects RX3 yX3_findVersion yX3_findVersion, Cond.code yX3_findVersion cX3_findVersion 3 (some (.object "HarmoniumDesk$Version")), Cond.classLink RX3 114 "java/lang/IndexOutOfBoundsException", Cond.initialized "java/lang/IndexOutOfBoundsException", Cond.fieldLink RX3 11 "HarmoniumDesk" "versions" "[LHarmoniumDesk$Version;", Cond.methodLink RX3 75 yX3_checkVoice, Cond.static yX3_checkVoice, Cond.code yX3_checkVoice cX3_checkVoice 1 none, Cond.methodLink RX3 143 yX3_addCopy, Cond.instanceMethod yX3_addCopy, Cond.selects RX3 yX3_addCopy yX3_addCopy, Cond.code yX3_addCopy cX3_addCopy 4 (some .int), Cond.classLink RX3 85 "java/lang/IllegalStateException", Cond.initialized "java/lang/IllegalStateException", Cond.fieldLink RX3 25 "HarmoniumDesk" "copyCount" "I"]
def wsL_print_r2 : List Cond := [Cond.fieldLink RX3 21 "HarmoniumDesk" "copies" "[LHarmoniumDesk$Copy;", Cond.classLink RX3 19 RX0, Cond.instantiable RX0 4, Cond.initialized RX0, Cond.methodLink RX3 187 yX0_init, Cond.instanceMethod yX0_init, Cond.code yX0_init cX0_init 3 none, Cond.methodLink RX0 3 objectInit, Cond.instanceMethod objectInit, Cond.code objectInit ⟨#[0xb1]⟩ 1 none, Cond.arrayClass .int, Cond.fieldLink RX0 9 "HarmoniumDesk$Copy" "tones" "[I", Cond.fieldLink RX0 15 "HarmoniumDesk$Copy" "slipCount" "I", Cond.fieldLink RX0 19 "HarmoniumDesk$Copy" "voice" "I", Cond.fieldLink RX0 27 "HarmoniumDesk$Copy" "bars" "I", Cond.methodLink RX0 28 yX0_takeVoice, Cond.instanceMethod yX0_takeVoice, Cond.selects RX0 yX0_takeVoice yX0_takeVoice, Cond.code yX0_takeVoice cX0_takeVoice 3 none, Cond.methodLink RX0 32 yX1_tone, Cond.instanceMethod yX1_tone, Cond.selects RX1 yX1_tone yX1_tone, Cond.initialized RX1, Cond.code yX1_tone cX1_tone 4 (some .int)]
def wsL_print_r3 : List Cond := [Cond.fieldLink RX1 15 "HarmoniumDesk$Score" "upper" "[I", Cond.fieldLink RX1 19 "HarmoniumDesk$Score" "lower" "[I"]
def wsL_print : List Cond := .codeWith yL_print cL_print 5 (some .int) [(0, 10, 13, 20), (0, 10, 17, 15)] :: ((wsL_print_r1 ++ (wsL_print_r2 ++ wsL_print_r3)) ++ wsX20 ++ wsX30 ++ wsX00 ++ wsX10 ++ (vx_atS RX3 118 "java/lang/IndexOutOfBoundsException" ["java/lang/RuntimeException", "java/lang/Exception"]).filter goodWord ++ (vx_atS RX3 89 "java/lang/IllegalStateException" ["java/lang/RuntimeException", "java/lang/Exception"]).filter goodWord)
def wsL_errata_r1 : List Cond := [Cond.classLink RL 20 "java/lang/IndexOutOfBoundsException", Cond.classLink RL 15 "java/lang/IllegalStateException", Cond.methodLink RL 66 yX3_errata, Cond.instanceMethod yX3_errata, Cond.selects RX3 yX3_errata yX3_errata, Cond.initialized RX3, Cond.code yX3_errata cX3_errata 5 (some .int), Cond.methodLink RX3 147 yX3_findCopy, Cond.instanceMethod yX3_findCopy, Cond.selects RX3 yX3_findCopy yX3_findCopy, Cond.code yX3_findCopy cX3_findCopy 3 (some (.object "HarmoniumDesk$Copy")), Cond.classLink RX3 114 "java/lang/IndexOutOfBoundsException", Cond.initialized "java/lang/IndexOutOfBoundsException", Cond.fieldLink RX3 21 "HarmoniumDesk" "copies" "[LHarmoniumDesk$Copy;", Cond.methodLink RX3 63 yX3_findVersion, Cond.instanceMethod yX3_findVersion, Cond.selects RX3 yX3_findVersion yX3_findVersion, Cond.code yX3_findVersion cX3_findVersion 3 (some (.object "HarmoniumDesk$Version")), Cond.fieldLink RX3 11 "HarmoniumDesk" "versions" "[LHarmoniumDesk$Version;", Cond.methodLink RX3 151 yX3_checkAsManyBars, Cond.static yX3_checkAsManyBars, Cond.code yX3_checkAsManyBars cX3_checkAsManyBars 2 none, Cond.classLink RX3 85 "java/lang/IllegalStateException", Cond.initialized "java/lang/IllegalStateException"]
def wsL_errata_r2 : List Cond := [Cond.methodLink RX3 155 yX0_differingBars, Cond.instanceMethod yX0_differingBars, Cond.selects RX0 yX0_differingBars yX0_differingBars, Cond.initialized RX0, Cond.code yX0_differingBars cX0_differingBars 4 (some .int), Cond.fieldLink RX0 27 "HarmoniumDesk$Copy" "bars" "I", Cond.fieldLink RX0 9 "HarmoniumDesk$Copy" "tones" "[I", Cond.fieldLink RX0 19 "HarmoniumDesk$Copy" "voice" "I", Cond.methodLink RX0 32 yX1_tone, Cond.instanceMethod yX1_tone, Cond.selects RX1 yX1_tone yX1_tone, Cond.initialized RX1, Cond.code yX1_tone cX1_tone 4 (some .int), Cond.fieldLink RX1 15 "HarmoniumDesk$Score" "upper" "[I", Cond.fieldLink RX1 19 "HarmoniumDesk$Score" "lower" "[I"]
def wsL_errata : List Cond := .codeWith yL_errata cL_errata 5 (some .int) [(0, 10, 13, 20), (0, 10, 17, 15)] :: ((wsL_errata_r1 ++ wsL_errata_r2) ++ wsX20 ++ wsX30 ++ wsX00 ++ wsX10 ++ (vx_atS RX3 118 "java/lang/IndexOutOfBoundsException" ["java/lang/RuntimeException", "java/lang/Exception"]).filter goodWord ++ (vx_atS RX3 89 "java/lang/IllegalStateException" ["java/lang/RuntimeException", "java/lang/Exception"]).filter goodWord)
def wsL_slip_r1 : List Cond := [Cond.classLink RL 20 "java/lang/IndexOutOfBoundsException", Cond.classLink RL 15 "java/lang/IllegalStateException", Cond.methodLink RL 69 yX3_slip, Cond.instanceMethod yX3_slip, Cond.selects RX3 yX3_slip yX3_slip, Cond.initialized RX3, Cond.code yX3_slip cX3_slip 6 (some .int), Cond.methodLink RX3 147 yX3_findCopy, Cond.instanceMethod yX3_findCopy, Cond.selects RX3 yX3_findCopy yX3_findCopy, Cond.code yX3_findCopy cX3_findCopy 3 (some (.object "HarmoniumDesk$Copy")), Cond.classLink RX3 114 "java/lang/IndexOutOfBoundsException", Cond.initialized "java/lang/IndexOutOfBoundsException", Cond.fieldLink RX3 21 "HarmoniumDesk" "copies" "[LHarmoniumDesk$Copy;", Cond.methodLink RX3 63 yX3_findVersion, Cond.instanceMethod yX3_findVersion, Cond.selects RX3 yX3_findVersion yX3_findVersion, Cond.code yX3_findVersion cX3_findVersion 3 (some (.object "HarmoniumDesk$Version")), Cond.fieldLink RX3 11 "HarmoniumDesk" "versions" "[LHarmoniumDesk$Version;", Cond.methodLink RX3 151 yX3_checkAsManyBars, Cond.static yX3_checkAsManyBars, Cond.code yX3_checkAsManyBars cX3_checkAsManyBars 2 none, Cond.classLink RX3 85 "java/lang/IllegalStateException", Cond.initialized "java/lang/IllegalStateException"]
def wsL_slip_r2 : List Cond := [Cond.methodLink RX3 155 yX0_differingBars, Cond.instanceMethod yX0_differingBars, Cond.selects RX0 yX0_differingBars yX0_differingBars, Cond.initialized RX0, Cond.code yX0_differingBars cX0_differingBars 4 (some .int), Cond.fieldLink RX0 27 "HarmoniumDesk$Copy" "bars" "I", Cond.fieldLink RX0 9 "HarmoniumDesk$Copy" "tones" "[I", Cond.fieldLink RX0 19 "HarmoniumDesk$Copy" "voice" "I", Cond.methodLink RX0 32 yX1_tone, Cond.instanceMethod yX1_tone, Cond.selects RX1 yX1_tone yX1_tone, Cond.initialized RX1, Cond.code yX1_tone cX1_tone 4 (some .int), Cond.fieldLink RX1 15 "HarmoniumDesk$Score" "upper" "[I", Cond.fieldLink RX1 19 "HarmoniumDesk$Score" "lower" "[I", Cond.methodLink RX3 158 yJ6_bitCount_0f7a4, Cond.static yJ6_bitCount_0f7a4, Cond.initialized RJ6, Cond.code yJ6_bitCount_0f7a4 cJ6_bitCount_0f7a4 1 (some .int), Cond.constant RJ6 265 (1431655765), Cond.constant RJ6 266 (858993459), Cond.constant RJ6 267 (252645135), Cond.methodLink RX3 163 yX0_takeVoice, Cond.instanceMethod yX0_takeVoice]
def wsL_slip_r3 : List Cond := [Cond.selects RX0 yX0_takeVoice yX0_takeVoice, Cond.code yX0_takeVoice cX0_takeVoice 3 none]
def wsL_slip : List Cond := .codeWith yL_slip cL_slip 5 (some .int) [(0, 10, 13, 20), (0, 10, 17, 15)] :: ((wsL_slip_r1 ++ (wsL_slip_r2 ++ wsL_slip_r3)) ++ wsX20 ++ wsX00 ++ wsX30 ++ wsX10 ++ (vx_atS RX3 118 "java/lang/IndexOutOfBoundsException" ["java/lang/RuntimeException", "java/lang/Exception"]).filter goodWord ++ (vx_atS RX3 89 "java/lang/IllegalStateException" ["java/lang/RuntimeException", "java/lang/Exception"]).filter goodWord)
def wsL_slips : List Cond := .codeWith yL_slips cL_slips 4 (some .int) [(0, 9, 12, 20)] :: ([.classLink RL 20 "java/lang/IndexOutOfBoundsException", .methodLink RL 72 yX3_slips, .instanceMethod yX3_slips, .selects RX3 yX3_slips yX3_slips, .initialized RX3, .code yX3_slips cX3_slips 2 (some .int), .methodLink RX3 147 yX3_findCopy, .instanceMethod yX3_findCopy, .selects RX3 yX3_findCopy yX3_findCopy, .code yX3_findCopy cX3_findCopy 3 (some (.object "HarmoniumDesk$Copy")), .classLink RX3 114 "java/lang/IndexOutOfBoundsException", .initialized "java/lang/IndexOutOfBoundsException", .fieldLink RX3 21 "HarmoniumDesk" "copies" "[LHarmoniumDesk$Copy;"] ++ wsX00 ++ wsX30 ++ (vx_atS RX3 118 "java/lang/IndexOutOfBoundsException" ["java/lang/RuntimeException", "java/lang/Exception"]).filter goodWord)
def wsL_law0_r1 : List Cond := [Cond.classLink RL 8 RX3, Cond.instantiable RX3 7, Cond.initialized RX3, Cond.classLink RL 76 RX4, Cond.instantiable RX4 14, Cond.initialized RX4, Cond.arrayClass .long, Cond.arrayClass .double, Cond.methodLink RL 75 yX3_init, Cond.instanceMethod yX3_init, Cond.code yX3_init cX3_init 2 none, Cond.methodLink RX3 1 objectInit, Cond.instanceMethod objectInit, Cond.code objectInit ⟨#[0xb1]⟩ 1 none, Cond.classLink RX3 9 RX2, Cond.fieldLink RX3 11 "HarmoniumDesk" "versions" "[LHarmoniumDesk$Version;", Cond.fieldLink RX3 15 "HarmoniumDesk" "versionCount" "I", Cond.classLink RX3 19 RX0, Cond.fieldLink RX3 21 "HarmoniumDesk" "copies" "[LHarmoniumDesk$Copy;", Cond.fieldLink RX3 25 "HarmoniumDesk" "copyCount" "I", Cond.arrayClass .int, Cond.fieldLink RX3 28 "HarmoniumDesk" "weights" "[I", Cond.fieldLink RX3 32 "HarmoniumDesk" "passMark" "I", Cond.classLink RX3 35 RX1]
def wsL_law0_r2 : List Cond := [Cond.instantiable RX1 3, Cond.initialized RX1, Cond.fieldLink RX3 38 "HarmoniumDesk" "trial" "LHarmoniumDesk$Score;", Cond.instanceMethod yX1_init, Cond.code yX1_init cX1_init 1 none, Cond.methodLink RX1 3 objectInit, Cond.fieldLink RX1 9 "HarmoniumDesk$Score" "bars" "I", Cond.fieldLink RX1 15 "HarmoniumDesk$Score" "upper" "[I", Cond.fieldLink RX1 19 "HarmoniumDesk$Score" "lower" "[I", Cond.methodLink RL 78 yX4_init, Cond.instanceMethod yX4_init, Cond.code yX4_init cX4_init 2 none, Cond.methodLink RX4 1 objectInit, Cond.fieldLink RX4 7 "HarmoniumDeskModel" "bars" "[I", Cond.fieldLink RX4 13 "HarmoniumDeskModel" "parent" "[I", Cond.arrayClass .boolean, Cond.fieldLink RX4 16 "HarmoniumDeskModel" "isFixed" "[Z", Cond.fieldLink RX4 20 "HarmoniumDeskModel" "hasPassed" "[Z", Cond.fieldLink RX4 23 "HarmoniumDeskModel" "notes" "[I", Cond.fieldLink RX4 26 "HarmoniumDeskModel" "weight" "[I", Cond.fieldLink RX4 29 "HarmoniumDeskModel" "pass" "I", Cond.fieldLink RX4 33 "HarmoniumDeskModel" "longs" "[I", Cond.fieldLink RX4 36 "HarmoniumDeskModel" "voiceOf" "[I", Cond.fieldLink RX4 39 "HarmoniumDeskModel" "printed" "[I"]
def wsL_law0_r3 : List Cond := [Cond.fieldLink RX4 42 "HarmoniumDeskModel" "slips" "[I", Cond.methodLink RL 79 yL_begin, Cond.static yL_begin, Cond.initialized RL, Cond.codeWith yL_begin cL_begin 4 (some .int) [(0, 9, 12, 13), (0, 9, 15, 15)], Cond.classLink RL 13 "java/lang/IllegalArgumentException", Cond.classLink RL 15 "java/lang/IllegalStateException", Cond.methodLink RL 7 yX3_begin, Cond.instanceMethod yX3_begin, Cond.selects RX3 yX3_begin yX3_begin, Cond.code yX3_begin cX3_begin 3 (some .int), Cond.classLink RX3 42 "java/lang/IllegalArgumentException", Cond.initialized "java/lang/IllegalArgumentException", Cond.methodLink RX3 49 yX3_addVersion, Cond.instanceMethod yX3_addVersion, Cond.selects RX3 yX3_addVersion yX3_addVersion, Cond.code yX3_addVersion cX3_addVersion 3 (some (.object "HarmoniumDesk$Version")), Cond.classLink RX3 85 "java/lang/IllegalStateException", Cond.initialized "java/lang/IllegalStateException", Cond.instantiable RX2 5, Cond.initialized RX2, Cond.methodLink RX3 182 yX2_init, Cond.instanceMethod yX2_init, Cond.code yX2_init cX2_init 3 none]
def wsL_law0_r4 : List Cond := [Cond.methodLink RX2 1 objectInit, Cond.classLink RX2 7 RX1, Cond.fieldLink RX2 10 "HarmoniumDesk$Version" "score" "LHarmoniumDesk$Score;", Cond.fieldLink RX2 16 "HarmoniumDesk$Version" "fixed" "Z", Cond.fieldLink RX2 20 "HarmoniumDesk$Version" "passedWhenHandedIn" "Z", Cond.fieldLink RX2 23 "HarmoniumDesk$Version" "number" "I", Cond.fieldLink RX2 27 "HarmoniumDesk$Version" "parent" "LHarmoniumDesk$Version;", Cond.methodLink RX3 56 yX1_fill, Cond.instanceMethod yX1_fill, Cond.selects RX1 yX1_fill yX1_fill, Cond.code yX1_fill cX1_fill 4 none, Cond.methodLink RX1 22 yX1_setTone, Cond.instanceMethod yX1_setTone, Cond.selects RX1 yX1_setTone yX1_setTone, Cond.code yX1_setTone cX1_setTone 5 none, Cond.methodLink RL 84 yX4_begin, Cond.instanceMethod yX4_begin, Cond.selects RX4 yX4_begin yX4_begin, Cond.code yX4_begin cX4_begin 3 (some .int), Cond.fieldLink RX4 48 "HarmoniumDeskModel" "versions" "I", Cond.methodLink RX4 51 yX4_isIn, Cond.static yX4_isIn, Cond.code yX4_isIn cX4_isIn 3 (some .boolean), Cond.methodLink RX4 59 yX4_fails]
def wsL_law0_r5 : List Cond := [Cond.instanceMethod yX4_fails, Cond.selects RX4 yX4_fails yX4_fails, Cond.code yX4_fails cX4_fails 2 (some .boolean), Cond.fieldLink RX4 45 "HarmoniumDeskModel" "thrown" "I", Cond.methodLink RX4 62 yX4_at, Cond.static yX4_at, Cond.code yX4_at cX4_at 3 (some .int), Cond.methodLink RL 85 yX4_thrown, Cond.instanceMethod yX4_thrown, Cond.selects RX4 yX4_thrown yX4_thrown, Cond.code yX4_thrown cX4_thrown 1 (some .int), Cond.methodLink RL 89 yL_branch, Cond.static yL_branch, Cond.codeWith yL_branch cL_branch 4 (some .int) [(0, 9, 12, 20), (0, 9, 15, 15)], Cond.classLink RL 20 "java/lang/IndexOutOfBoundsException", Cond.methodLink RL 17 yX3_branch, Cond.instanceMethod yX3_branch, Cond.selects RX3 yX3_branch yX3_branch, Cond.code yX3_branch cX3_branch 4 (some .int), Cond.methodLink RX3 63 yX3_findVersion, Cond.instanceMethod yX3_findVersion, Cond.selects RX3 yX3_findVersion yX3_findVersion, Cond.code yX3_findVersion cX3_findVersion 3 (some (.object "HarmoniumDesk$Version")), Cond.classLink RX3 114 "java/lang/IndexOutOfBoundsException"]
def wsL_law0_r6 : List Cond := [Cond.initialized "java/lang/IndexOutOfBoundsException", Cond.methodLink RX3 67 yX1_takeAll, Cond.instanceMethod yX1_takeAll, Cond.selects RX1 yX1_takeAll yX1_takeAll, Cond.code yX1_takeAll cX1_takeAll 3 none, Cond.methodLink RX1 26 yX1_takeBar, Cond.instanceMethod yX1_takeBar, Cond.selects RX1 yX1_takeBar yX1_takeBar, Cond.code yX1_takeBar cX1_takeBar 3 none, Cond.methodLink RX1 30 yX1_tone, Cond.instanceMethod yX1_tone, Cond.selects RX1 yX1_tone yX1_tone, Cond.code yX1_tone cX1_tone 4 (some .int), Cond.methodLink RL 91 yX4_branch, Cond.instanceMethod yX4_branch, Cond.selects RX4 yX4_branch yX4_branch, Cond.code yX4_branch cX4_branch 2 (some .int), Cond.methodLink RX4 55 yX4_isVersion, Cond.instanceMethod yX4_isVersion, Cond.selects RX4 yX4_isVersion yX4_isVersion, Cond.code yX4_isVersion cX4_isVersion 2 (some .boolean), Cond.methodLink RX4 66 yX4_makes, Cond.instanceMethod yX4_makes, Cond.selects RX4 yX4_makes yX4_makes]
def wsL_law0_r7 : List Cond := [Cond.code yX4_makes cX4_makes 3 (some .int), Cond.methodLink RL 92 yL_setNote, Cond.static yL_setNote, Cond.codeWith yL_setNote cL_setNote 7 (some .int) [(0, 14, 17, 20), (0, 14, 21, 13), (0, 14, 25, 15)], Cond.methodLink RL 22 yX3_setNote, Cond.instanceMethod yX3_setNote, Cond.selects RX3 yX3_setNote yX3_setNote, Cond.code yX3_setNote cX3_setNote 7 (some .int), Cond.methodLink RX3 75 yX3_checkVoice, Cond.static yX3_checkVoice, Cond.code yX3_checkVoice cX3_checkVoice 1 none, Cond.methodLink RX3 79 yX3_checkBar, Cond.static yX3_checkBar, Cond.code yX3_checkBar cX3_checkBar 2 none, Cond.methodLink RX3 90 yX1_tone, Cond.methodLink RX3 94 yX1_setTone, Cond.methodLink RL 95 yX4_setNote, Cond.instanceMethod yX4_setNote, Cond.selects RX4 yX4_setNote yX4_setNote, Cond.code yX4_setNote cX4_setNote 7 (some .int), Cond.methodLink RX4 70 yX4_isNote, Cond.instanceMethod yX4_isNote, Cond.selects RX4 yX4_isNote yX4_isNote, Cond.code yX4_isNote cX4_isNote 4 (some .boolean)]
def wsL_law0_r8 : List Cond := [Cond.methodLink RL 96 yL_note, Cond.static yL_note, Cond.codeWith yL_note cL_note 6 (some .int) [(0, 12, 15, 20)], Cond.methodLink RL 26 yX3_note, Cond.instanceMethod yX3_note, Cond.selects RX3 yX3_note yX3_note, Cond.code yX3_note cX3_note 5 (some .int), Cond.methodLink RL 99 yX4_note, Cond.instanceMethod yX4_note, Cond.selects RX4 yX4_note yX4_note, Cond.code yX4_note cX4_note 4 (some .int), Cond.methodLink RL 100 yL_base, Cond.static yL_base, Cond.codeWith yL_base cL_base 5 (some .int) [(0, 10, 13, 20)], Cond.methodLink RL 30 yX3_base, Cond.instanceMethod yX3_base, Cond.selects RX3 yX3_base yX3_base, Cond.code yX3_base cX3_base 4 (some .int), Cond.methodLink RX3 98 yX3_commonAncestor, Cond.static yX3_commonAncestor, Cond.code yX3_commonAncestor cX3_commonAncestor 3 (some (.object "HarmoniumDesk$Version")), Cond.methodLink RX3 190 yX3_isAncestor, Cond.static yX3_isAncestor, Cond.code yX3_isAncestor cX3_isAncestor 3 (some .boolean)]
def wsL_law0_r9 : List Cond := [Cond.methodLink RL 103 yX4_base, Cond.instanceMethod yX4_base, Cond.selects RX4 yX4_base yX4_base, Cond.code yX4_base cX4_base 3 (some .int), Cond.methodLink RX4 77 yX4_baseOf, Cond.instanceMethod yX4_baseOf, Cond.selects RX4 yX4_baseOf yX4_baseOf, Cond.code yX4_baseOf cX4_baseOf 5 (some .int), Cond.methodLink RX4 73 yX4_isAncestor, Cond.instanceMethod yX4_isAncestor, Cond.selects RX4 yX4_isAncestor yX4_isAncestor, Cond.code yX4_isAncestor cX4_isAncestor 5 (some .boolean), Cond.methodLink RL 104 yL_conflicts, Cond.static yL_conflicts, Cond.codeWith yL_conflicts cL_conflicts 5 (some .int) [(0, 10, 13, 20), (0, 10, 17, 15)], Cond.methodLink RL 34 yX3_conflicts, Cond.instanceMethod yX3_conflicts, Cond.selects RX3 yX3_conflicts yX3_conflicts, Cond.code yX3_conflicts cX3_conflicts 6 (some .int), Cond.methodLink RX3 104 yX3_conflictingBars, Cond.static yX3_conflictingBars, Cond.code yX3_conflictingBars cX3_conflictingBars 5 (some .int), Cond.methodLink RX3 198 yX1_sameBar, Cond.instanceMethod yX1_sameBar]
def wsL_law0_r10 : List Cond := [Cond.selects RX1 yX1_sameBar yX1_sameBar, Cond.code yX1_sameBar cX1_sameBar 3 (some .boolean), Cond.methodLink RL 106 yX4_conflicts, Cond.instanceMethod yX4_conflicts, Cond.selects RX4 yX4_conflicts yX4_conflicts, Cond.code yX4_conflicts cX4_conflicts 7 (some .int), Cond.methodLink RX4 81 yX4_areAlike, Cond.instanceMethod yX4_areAlike, Cond.selects RX4 yX4_areAlike yX4_areAlike, Cond.code yX4_areAlike cX4_areAlike 4 (some .boolean), Cond.methodLink RL 107 yL_merge, Cond.static yL_merge, Cond.codeWith yL_merge cL_merge 5 (some .int) [(0, 10, 13, 20), (0, 10, 17, 13), (0, 10, 21, 15)], Cond.methodLink RL 37 yX3_merge, Cond.instanceMethod yX3_merge, Cond.selects RX3 yX3_merge yX3_merge, Cond.code yX3_merge cX3_merge 7 (some .int), Cond.methodLink RX3 110 yX3_mergeInto, Cond.static yX3_mergeInto, Cond.code yX3_mergeInto cX3_mergeInto 5 none, Cond.methodLink RX3 202 yX1_takeBar, Cond.methodLink RL 109 yX4_merge, Cond.instanceMethod yX4_merge, Cond.selects RX4 yX4_merge yX4_merge]
def wsL_law0_r11 : List Cond := [Cond.code yX4_merge cX4_merge 7 (some .int), Cond.methodLink RL 110 yL_setWeight, Cond.static yL_setWeight, Cond.codeWith yL_setWeight cL_setWeight 5 (some .int) [(0, 10, 13, 20), (0, 10, 17, 13)], Cond.methodLink RL 40 yX3_setWeight, Cond.instanceMethod yX3_setWeight, Cond.selects RX3 yX3_setWeight yX3_setWeight, Cond.code yX3_setWeight cX3_setWeight 4 (some .int), Cond.methodLink RL 112 yX4_setWeight, Cond.instanceMethod yX4_setWeight, Cond.selects RX4 yX4_setWeight yX4_setWeight, Cond.code yX4_setWeight cX4_setWeight 5 (some .int), Cond.methodLink RL 113 yL_setPass, Cond.static yL_setPass, Cond.codeWith yL_setPass cL_setPass 4 (some .int) [(0, 9, 12, 13)], Cond.methodLink RL 43 yX3_setPass, Cond.instanceMethod yX3_setPass, Cond.selects RX3 yX3_setPass yX3_setPass, Cond.code yX3_setPass cX3_setPass 3 (some .int), Cond.methodLink RL 115 yX4_setPass, Cond.instanceMethod yX4_setPass, Cond.selects RX4 yX4_setPass yX4_setPass, Cond.code yX4_setPass cX4_setPass 3 (some .int), Cond.methodLink RL 116 yL_faults]
def wsL_law0_r12 : List Cond := [Cond.static yL_faults, Cond.codeWith yL_faults cL_faults 6 (some .int) [(0, 12, 15, 20)], Cond.methodLink RL 46 yX3_faults, Cond.instanceMethod yX3_faults, Cond.selects RX3 yX3_faults yX3_faults, Cond.code yX3_faults cX3_faults 5 (some .int), Cond.methodLink RX3 123 yX1_faultsOf, Cond.instanceMethod yX1_faultsOf, Cond.selects RX1 yX1_faultsOf yX1_faultsOf, Cond.code yX1_faultsOf cX1_faultsOf 3 (some .int), Cond.methodLink RX1 37 yX1_isDiscord, Cond.instanceMethod yX1_isDiscord, Cond.selects RX1 yX1_isDiscord yX1_isDiscord, Cond.code yX1_isDiscord cX1_isDiscord 2 (some .boolean), Cond.methodLink RX1 59 yX1_interval, Cond.instanceMethod yX1_interval, Cond.selects RX1 yX1_interval yX1_interval, Cond.code yX1_interval cX1_interval 2 (some .int), Cond.methodLink RX1 54 Lib.Math.abs.name, Cond.static Lib.Math.abs.name, Cond.initialized "java/lang/Math", Cond.code Lib.Math.abs.name Lib.Math.abs.code 1 (some .int), Cond.methodLink RX1 41 yX1_isParallel, Cond.instanceMethod yX1_isParallel]
def wsL_law0_r13 : List Cond := [Cond.selects RX1 yX1_isParallel yX1_isParallel, Cond.code yX1_isParallel cX1_isParallel 2 (some .boolean), Cond.methodLink RX1 34 yX1_stepTo, Cond.instanceMethod yX1_stepTo, Cond.selects RX1 yX1_stepTo yX1_stepTo, Cond.code yX1_stepTo cX1_stepTo 3 (some .int), Cond.methodLink RX1 62 yX1_isPerfect, Cond.static yX1_isPerfect, Cond.code yX1_isPerfect cX1_isPerfect 1 (some .boolean), Cond.methodLink RX1 44 yX1_leapsTo, Cond.instanceMethod yX1_leapsTo, Cond.selects RX1 yX1_leapsTo yX1_leapsTo, Cond.code yX1_leapsTo cX1_leapsTo 4 (some .int), Cond.methodLink RX1 48 yX1_badEndsAt, Cond.instanceMethod yX1_badEndsAt, Cond.selects RX1 yX1_badEndsAt yX1_badEndsAt, Cond.code yX1_badEndsAt cX1_badEndsAt 4 (some .int), Cond.methodLink RX1 51 yX1_isStanding, Cond.instanceMethod yX1_isStanding, Cond.selects RX1 yX1_isStanding yX1_isStanding, Cond.code yX1_isStanding cX1_isStanding 2 (some .boolean), Cond.methodLink RL 118 yX4_faults, Cond.instanceMethod yX4_faults, Cond.selects RX4 yX4_faults yX4_faults]
def wsL_law0_r14 : List Cond := [Cond.code yX4_faults cX4_faults 5 (some .int), Cond.methodLink RX4 96 yX4_faultsAt, Cond.instanceMethod yX4_faultsAt, Cond.selects RX4 yX4_faultsAt yX4_faultsAt, Cond.code yX4_faultsAt cX4_faultsAt 6 (some .int), Cond.methodLink RX4 87 yX4_interval, Cond.instanceMethod yX4_interval, Cond.selects RX4 yX4_interval yX4_interval, Cond.code yX4_interval cX4_interval 3 (some .int), Cond.methodLink RX4 84 yX4_away, Cond.static yX4_away, Cond.code yX4_away cX4_away 2 (some .int), Cond.methodLink RX4 90 yX4_stays, Cond.instanceMethod yX4_stays, Cond.selects RX4 yX4_stays yX4_stays, Cond.code yX4_stays cX4_stays 4 (some .boolean), Cond.methodLink RX4 93 yX4_leap, Cond.instanceMethod yX4_leap, Cond.selects RX4 yX4_leap yX4_leap, Cond.code yX4_leap cX4_leap 4 (some .int), Cond.methodLink RL 119 yL_mark, Cond.static yL_mark, Cond.codeWith yL_mark cL_mark 4 (some .int) [(0, 9, 12, 20)], Cond.methodLink RL 49 yX3_mark]
def wsL_law0_r15 : List Cond := [Cond.instanceMethod yX3_mark, Cond.selects RX3 yX3_mark yX3_mark, Cond.code yX3_mark cX3_mark 2 (some .int), Cond.methodLink RX3 126 yX3_markOf, Cond.instanceMethod yX3_markOf, Cond.selects RX3 yX3_markOf yX3_markOf, Cond.code yX3_markOf cX3_markOf 2 (some .int), Cond.methodLink RX3 210 Lib.Math.max.name, Cond.static Lib.Math.max.name, Cond.code Lib.Math.max.name Lib.Math.max.code 2 (some .int), Cond.methodLink RX3 206 yX3_weightedFaults, Cond.instanceMethod yX3_weightedFaults, Cond.selects RX3 yX3_weightedFaults yX3_weightedFaults, Cond.code yX3_weightedFaults cX3_weightedFaults 7 (some .int), Cond.methodLink RL 121 yX4_mark, Cond.instanceMethod yX4_mark, Cond.selects RX4 yX4_mark yX4_mark, Cond.code yX4_mark cX4_mark 2 (some .int), Cond.methodLink RX4 102 yX4_markOf, Cond.instanceMethod yX4_markOf, Cond.selects RX4 yX4_markOf yX4_markOf, Cond.code yX4_markOf cX4_markOf 2 (some .int), Cond.methodLink RX4 99 yX4_costs, Cond.instanceMethod yX4_costs]
def wsL_law0_r16 : List Cond := [Cond.selects RX4 yX4_costs yX4_costs, Cond.code yX4_costs cX4_costs 4 (some .int), Cond.methodLink RL 122 yL_handIn, Cond.static yL_handIn, Cond.codeWith yL_handIn cL_handIn 4 (some .int) [(0, 16, 19, 20)], Cond.methodLink RL 52 yX3_handIn, Cond.instanceMethod yX3_handIn, Cond.selects RX3 yX3_handIn yX3_handIn, Cond.code yX3_handIn cX3_handIn 3 (some .boolean), Cond.methodLink RL 124 yX4_handIn, Cond.instanceMethod yX4_handIn, Cond.selects RX4 yX4_handIn yX4_handIn, Cond.code yX4_handIn cX4_handIn 2 (some .boolean), Cond.methodLink RL 125 yX3_fallen, Cond.instanceMethod yX3_fallen, Cond.selects RX3 yX3_fallen yX3_fallen, Cond.code yX3_fallen cX3_fallen 4 (some .int), Cond.methodLink RL 128 yX4_fallen, Cond.instanceMethod yX4_fallen, Cond.selects RX4 yX4_fallen yX4_fallen, Cond.code yX4_fallen cX4_fallen 3 (some .int), Cond.methodLink RL 129 yL_best, Cond.static yL_best, Cond.codeWith yL_best cL_best 6 (some .int) [(0, 12, 15, 20)]]
def wsL_law0_r17 : List Cond := [Cond.methodLink RL 56 yX3_best, Cond.instanceMethod yX3_best, Cond.selects RX3 yX3_best yX3_best, Cond.code yX3_best cX3_best 5 (some .int), Cond.methodLink RX3 133 yX3_bestTone, Cond.instanceMethod yX3_bestTone, Cond.selects RX3 yX3_bestTone yX3_bestTone, Cond.code yX3_bestTone cX3_bestTone 8 (some .int), Cond.methodLink RX3 215 Lib.Math.min.name, Cond.static Lib.Math.min.name, Cond.code Lib.Math.min.name Lib.Math.min.code 2 (some .int), Cond.methodLink RL 131 yX4_best, Cond.instanceMethod yX4_best, Cond.selects RX4 yX4_best yX4_best, Cond.code yX4_best cX4_best 10 (some .int), Cond.methodLink RL 132 yL_movement, Cond.static yL_movement, Cond.codeWith yL_movement cL_movement 5 (some .int) [(0, 10, 13, 20)], Cond.methodLink RL 59 yX3_movement, Cond.instanceMethod yX3_movement, Cond.selects RX3 yX3_movement yX3_movement, Cond.code yX3_movement cX3_movement 5 (some .float), Cond.methodLink RX3 139 yX1_wayOf, Cond.instanceMethod yX1_wayOf]
def wsL_law0_r18 : List Cond := [Cond.selects RX1 yX1_wayOf yX1_wayOf, Cond.code yX1_wayOf cX1_wayOf 4 (some .int), Cond.methodLink RL 135 yX4_movement, Cond.instanceMethod yX4_movement, Cond.selects RX4 yX4_movement yX4_movement, Cond.code yX4_movement cX4_movement 5 (some .float), Cond.methodLink RL 136 yL_print, Cond.static yL_print, Cond.codeWith yL_print cL_print 5 (some .int) [(0, 10, 13, 20), (0, 10, 17, 15)], Cond.methodLink RL 63 yX3_print, Cond.instanceMethod yX3_print, Cond.selects RX3 yX3_print yX3_print, Cond.code yX3_print cX3_print 5 (some .int), Cond.methodLink RX3 143 yX3_addCopy, Cond.instanceMethod yX3_addCopy, Cond.selects RX3 yX3_addCopy yX3_addCopy, Cond.code yX3_addCopy cX3_addCopy 4 (some .int), Cond.instantiable RX0 4, Cond.initialized RX0, Cond.methodLink RX3 187 yX0_init, Cond.instanceMethod yX0_init, Cond.code yX0_init cX0_init 3 none, Cond.methodLink RX0 3 objectInit, Cond.fieldLink RX0 9 "HarmoniumDesk$Copy" "tones" "[I"]
def wsL_law0_r19 : List Cond := [Cond.fieldLink RX0 15 "HarmoniumDesk$Copy" "slipCount" "I", Cond.fieldLink RX0 19 "HarmoniumDesk$Copy" "voice" "I", Cond.fieldLink RX0 27 "HarmoniumDesk$Copy" "bars" "I", Cond.methodLink RX0 28 yX0_takeVoice, Cond.instanceMethod yX0_takeVoice, Cond.selects RX0 yX0_takeVoice yX0_takeVoice, Cond.code yX0_takeVoice cX0_takeVoice 3 none, Cond.methodLink RX0 32 yX1_tone, Cond.methodLink RL 138 yX4_print, Cond.instanceMethod yX4_print, Cond.selects RX4 yX4_print yX4_print, Cond.code yX4_print cX4_print 5 (some .int), Cond.fieldLink RX4 105 "HarmoniumDeskModel" "copies" "I", Cond.methodLink RL 139 yL_errata, Cond.static yL_errata, Cond.codeWith yL_errata cL_errata 5 (some .int) [(0, 10, 13, 20), (0, 10, 17, 15)], Cond.methodLink RL 66 yX3_errata, Cond.instanceMethod yX3_errata, Cond.selects RX3 yX3_errata yX3_errata, Cond.code yX3_errata cX3_errata 5 (some .int), Cond.methodLink RX3 147 yX3_findCopy, Cond.instanceMethod yX3_findCopy, Cond.selects RX3 yX3_findCopy yX3_findCopy, Cond.code yX3_findCopy cX3_findCopy 3 (some (.object "HarmoniumDesk$Copy"))]
def wsL_law0_r20 : List Cond := [Cond.methodLink RX3 151 yX3_checkAsManyBars, Cond.static yX3_checkAsManyBars, Cond.code yX3_checkAsManyBars cX3_checkAsManyBars 2 none, Cond.methodLink RX3 155 yX0_differingBars, Cond.instanceMethod yX0_differingBars, Cond.selects RX0 yX0_differingBars yX0_differingBars, Cond.code yX0_differingBars cX0_differingBars 4 (some .int), Cond.methodLink RL 141 yX4_errata, Cond.instanceMethod yX4_errata, Cond.selects RX4 yX4_errata yX4_errata, Cond.code yX4_errata cX4_errata 3 (some .int), Cond.methodLink RX4 111 yX4_misses, Cond.instanceMethod yX4_misses, Cond.selects RX4 yX4_misses yX4_misses, Cond.code yX4_misses cX4_misses 3 (some .int), Cond.methodLink RX4 108 yX4_isCopy, Cond.instanceMethod yX4_isCopy, Cond.selects RX4 yX4_isCopy yX4_isCopy, Cond.code yX4_isCopy cX4_isCopy 2 (some .boolean), Cond.methodLink RX4 114 yX4_differs, Cond.instanceMethod yX4_differs, Cond.selects RX4 yX4_differs yX4_differs, Cond.code yX4_differs cX4_differs 5 (some .int), Cond.methodLink RL 142 yL_slip]
def wsL_law0_r21 : List Cond := [Cond.static yL_slip, Cond.codeWith yL_slip cL_slip 5 (some .int) [(0, 10, 13, 20), (0, 10, 17, 15)], Cond.methodLink RL 69 yX3_slip, Cond.instanceMethod yX3_slip, Cond.selects RX3 yX3_slip yX3_slip, Cond.code yX3_slip cX3_slip 6 (some .int), Cond.methodLink RX3 158 yJ6_bitCount_0f7a4, Cond.static yJ6_bitCount_0f7a4, Cond.initialized RJ6, Cond.code yJ6_bitCount_0f7a4 cJ6_bitCount_0f7a4 1 (some .int), Cond.constant RJ6 265 (1431655765), Cond.constant RJ6 266 (858993459), Cond.constant RJ6 267 (252645135), Cond.methodLink RX3 163 yX0_takeVoice, Cond.methodLink RL 144 yX4_slip, Cond.instanceMethod yX4_slip, Cond.selects RX4 yX4_slip yX4_slip, Cond.code yX4_slip cX4_slip 6 (some .int), Cond.methodLink RL 145 yL_slips, Cond.static yL_slips, Cond.codeWith yL_slips cL_slips 4 (some .int) [(0, 9, 12, 20)], Cond.methodLink RL 72 yX3_slips, Cond.instanceMethod yX3_slips, Cond.selects RX3 yX3_slips yX3_slips]
def wsL_law0_r22 : List Cond := [Cond.code yX3_slips cX3_slips 2 (some .int), Cond.methodLink RL 147 yX4_slips, Cond.instanceMethod yX4_slips, Cond.selects RX4 yX4_slips yX4_slips, Cond.code yX4_slips cX4_slips 2 (some .int)]
def wsL_law0 : List Cond := (wsL_law0_r1 ++ (wsL_law0_r2 ++ (wsL_law0_r3 ++ (wsL_law0_r4 ++ (wsL_law0_r5 ++ (wsL_law0_r6 ++ (wsL_law0_r7 ++ (wsL_law0_r8 ++ (wsL_law0_r9 ++ (wsL_law0_r10 ++ (wsL_law0_r11 ++ (wsL_law0_r12 ++ (wsL_law0_r13 ++ (wsL_law0_r14 ++ (wsL_law0_r15 ++ (wsL_law0_r16 ++ (wsL_law0_r17 ++ (wsL_law0_r18 ++ (wsL_law0_r19 ++ (wsL_law0_r20 ++ (wsL_law0_r21 ++ wsL_law0_r22))))))))))))))))))))) ++ wsX30 ++ wsX40 ++ wsX10 ++ wsX20 ++ wsX00 ++ ([] : List Cond)
def wsL_law : List Cond := wsL_law0 ++ (vx_atS RX3 46 "java/lang/IllegalArgumentException" ["java/lang/RuntimeException", "java/lang/Exception"]).filter goodWord ++ (vx_atS RX3 89 "java/lang/IllegalStateException" ["java/lang/RuntimeException", "java/lang/Exception"]).filter goodWord ++ (vx_atS RX3 118 "java/lang/IndexOutOfBoundsException" ["java/lang/RuntimeException", "java/lang/Exception"]).filter goodWord
set_option maxRecDepth 20000 in
abbrev vwCl : List vw_C := [(RX0, TX0, 4), (RX1, TX1, 3), (RX2, TX2, 5), (RX3, TX3, 7), (RX4, TX4, 14)]
/-! ===== END printed: names (the pool behind it left out: it needs a word that is refused) ===== -/
end
section
/-! ===== numbers: every int is zi of a whole number ===== -/
def zi (z : Int) : Int32 := Int32.ofInt z
abbrev zr (z : Int) : Prop := -2147483648 ≤ z ∧ z ≤ 2147483647
theorem zi_add (a b : Int) : zi a + zi b = zi (a + b) := (Int32.ofInt_add a b).symm
theorem zi_sub (a b : Int) : zi a - zi b = zi (a - b) := (Int32.ofInt_sub a b).symm
theorem zi_mul (a b : Int) : zi a * zi b = zi (a * b) := (Int32.ofInt_mul a b).symm
theorem zi_of (x : Int32) : x = zi x.toInt := (Int32.ofInt_toInt x).symm
theorem zi_rg (x : Int32) : zr x.toInt := ⟨by have := x.le_toInt; omega, by have := x.toInt_lt; omega⟩
theorem zi_toInt {z : Int} (h : zr z) : (zi z).toInt = z := Int32.toInt_ofInt_of_le (by omega) (by omega)
theorem zi_lt {a b : Int} (ha : zr a) (hb : zr b) : zi a < zi b ↔ a < b := by rw [Int32.lt_iff_toInt_lt, zi_toInt ha, zi_toInt hb]
theorem zi_le {a b : Int} (ha : zr a) (hb : zr b) : zi a ≤ zi b ↔ a ≤ b := by rw [Int32.le_iff_toInt_le, zi_toInt ha, zi_toInt hb]
theorem zi_eq {a b : Int} (ha : zr a) (hb : zr b) : zi a = zi b ↔ a = b := by rw [← Int32.toInt_inj, zi_toInt ha, zi_toInt hb]
theorem zi_0 : (0 : Int32) = zi 0 := rfl
theorem zi_1 : (1 : Int32) = zi 1 := rfl
theorem zr_0 : zr 0 := ⟨by decide, by decide⟩
theorem zi_ofNat (n : Nat) : Int32.ofNat n = zi n := Int32.ofInt_eq_ofNat.symm
theorem zi_ix {i : Nat} (h : i < 2147483648) : (zi (i : Int)).toNatClampNeg = i := by
  rw [← zi_ofNat]; exact Int32.toNatClampNeg_ofNat_of_lt (by omega)
theorem zi_in {i n : Nat} (h : i < n) (hn : n < 2147483648) : vp_in (zi (i : Int)) n := by
  rw [vp_in_iff, zi_toInt ⟨by omega, by omega⟩]; omega
theorem zi_ne0 {b : Int} (h : zr b) (h0 : b ≠ 0) : ¬ zi b = 0 := fun e => h0 ((zi_eq h zr_0).mp e)
theorem zi_div {a b : Int} (ha : zr a) (h0 : 0 ≤ a) (hb : 0 < b) (hr : zr b) : zi a / zi b = zi (a / b) := by
  have hq : zr (a / b) := by
    have h1 : 0 ≤ a / b := Int.ediv_nonneg h0 (by omega)
    have h2 : a / b ≤ a := Int.ediv_le_self b h0
    omega
  rw [← Int32.toInt_inj, zi_toInt hq, Int32.toInt_div_of_ne_right, zi_toInt ha, zi_toInt hr, Int.tdiv_eq_ediv_of_nonneg h0]
  intro e
  have := congrArg Int32.toInt e
  rw [zi_toInt hr] at this
  have h1 : (-1 : Int32).toInt = -1 := by decide
  omega
theorem zi_rem {a b : Int} (ha : zr a) (h0 : 0 ≤ a) (hb : 0 < b) (hr : zr b) : zi a - zi a / zi b * zi b = zi (a % b) := by
  rw [zi_div ha h0 hb hr, zi_mul, zi_sub, Int.emod_def, Int.mul_comm (a / b) b]
abbrev pz (P : Prop) [Decidable P] : Int := if P then 1 else 0
theorem pz_r (P : Prop) [Decidable P] : zr (pz P) := by unfold pz; split <;> decide
theorem pz_0 (P : Prop) [Decidable P] : pz P = 0 ↔ ¬ P := by unfold pz; split <;> simp_all
theorem pz_n0 (P : Prop) [Decidable P] : ¬ pz P = 0 ↔ P := by unfold pz; split <;> simp_all
theorem pz_t {P : Prop} [Decidable P] (h : P) : pz P = 1 := if_pos h
theorem pz_f {P : Prop} [Decidable P] (h : ¬ P) : pz P = 0 := if_neg h
theorem pz_c {P Q : Prop} [Decidable P] [Decidable Q] (h : P ↔ Q) : pz P = pz Q := by unfold pz; by_cases hq : Q <;> simp [h, hq]
theorem zi_bool (P : Prop) [Decidable P] : narrow .boolean (.int (zi (pz P))) = .int (zi (pz P)) := by unfold pz; split <;> rfl
theorem zi_nar (P : Prop) [Decidable P] : vp_nar .boolean (zi (pz P)) = zi (pz P) := by unfold pz; split <;> rfl
/-! ===== the tables' part of every contract ===== -/
abbrev gG : Type := va_G × ClassId × ClassId × ClassId × ClassId
def nwL : List Cond := [.fieldLinkNest RX3 130 RX2 "passedWhenHandedIn" "Z" RX3, .fieldLinkNest RX3 136 RX1 "bars" "I" RX3, .fieldLinkNest RX3 166 RX0 "slipCount" "I" RX3, .fieldLinkNest RX3 177 RX0 "bars" "I" RX3, .fieldLinkNest RX3 194 RX2 "parent" "LHarmoniumDesk$Version;" RX3, .fieldLinkNest RX3 53 RX2 "score" "LHarmoniumDesk$Score;" RX3, .fieldLinkNest RX3 60 RX2 "number" "I" RX3, .fieldLinkNest RX3 71 RX2 "fixed" "Z" RX3, .fieldLinkNest RX0 22 RX1 "bars" "I" RX3, .methodLinkNest RX3 37 yX1_init RX3, .methodLinkNest RX2 9 yX1_init RX3]
def nwS (U : State) : Prop := ∀ w ∈ nwL, va_Nw w U
theorem nwS.same {u U : State} (h : u.vm = U.vm) (hZ : nwS u) : nwS U := by
  intro w hw
  have ht : w.onTables = true := by
    revert w
    decide
  exact va_Nw.same ht h (hZ w hw)
theorem nwS.warm {s U : State} (hW : s.WarmedH U.vm) (hZ : nwS s) : nwS U := by
  have h : ∀ w ∈ nwL, va_Nw w s → va_Nw w U := by
    simp only [nwL, List.forall_mem_cons]
    refine ⟨va_Nw.warmF hW, va_Nw.warmF hW, va_Nw.warmF hW, va_Nw.warmF hW, va_Nw.warmF hW, va_Nw.warmF hW, va_Nw.warmF hW, va_Nw.warmF hW, va_Nw.warmF hW, va_Nw.warmM hW, va_Nw.warmM hW, ?_⟩
    intro w hw
    cases hw
  exact fun w hw => h w hw (hZ w hw)
def KK (g : gG) (U : State) : Prop := va_K g.1 vwCl [(g.2.1, .int), (g.2.2.1, .boolean), (g.2.2.2.1, .object RX2), (g.2.2.2.2, .object RX0)] U ∧ nwS U
theorem KK.warm {g : gG} {s U : State} (hW : s.WarmedH U.vm) (h : KK g s) : KK g U := ⟨va_K.moved hW.alike h.1, nwS.warm hW h.2⟩
theorem KK.same {g : gG} {u U : State} (hv : u.vm = U.vm) (h : KK g u) : KK g U := ⟨va_K.moved (by rw [hv]; exact Vm.Alike.refl U.vm) h.1, nwS.same hv h.2⟩
theorem KK.calling {g : gG} {U : State} {f : JFrame} {mk : MethodId} {a : Array Value} (h : KK g U) : KK g (U.calling f mk a) := KK.same (u := U) rfl h
/-- a picture of the heap, and the tables -/
abbrev zPc (g : gG) (av : List Value) (P : Heap → Prop) : Array Value → State → Prop := va_Pc av (fun U => P U.heap ∧ KK g U)
theorem zPc.blind (g : gG) (av : List Value) (P : Heap → Prop) : FrameBlind (zPc g av P) := fun _ _ _ _ h => ⟨h.1, h.2.1, KK.calling h.2.2⟩
/-- a method that reads alone, and answers an int -/
abbrev RO (l : Launch) (y : MethodName) (ws : List Cond) (rm : Room) (g : gG) (av : List Value) (P : Heap → Prop) (v : Int) : Prop :=
  Met l y ws rm (zPc g av P) (vp_Si (fun r => r = zi v)) 0 0 (fun _ => False)
theorem RO.ofW {l : Launch} {y : MethodName} {ws ws' : List Cond} {rm : Room} {g : gG} {av : List Value} {P : Heap → Prop} {v : Int} {cc : ByteArray} {maxL : Nat} {ret : Option FieldType} (hy : plainName y.cls = true) (hw : ws = Cond.code y cc maxL ret :: ws') (hn : (lg_sl av).length ≤ maxL)
    (body : ∀ (p : Program) (e : Env) (s : State) (m : MethodId) (below : List Frame) (meth : Method) (c : Code) (ls : Array Slot), p.tables.exec = Jvm.exec → c.code = cc → meth.sig.returnType = ret → c.maxLocals = maxL → s.vm.findClass y.cls = some m.cls → (∀ w ∈ ws, w.before av.toArray s = true) → meth.locks = false → P s.heap → KK g s → lv_has ls maxL (lv_args 0 av) →
      W p l e rm s m av.toArray below meth c s.heap [] 0 0 (MQ below (vp_Si (fun r => r = zi v)) av.toArray s 0 0 (fun _ => False)) (F0 m 0 ls [])) : RO l y ws rm g av P v := by
  refine Met.ofW hy hw ?_
  intro p e s m args below meth c s₁ B hml hv
  obtain ⟨rfl, hP, hK⟩ := hv
  have hl := lv_entry av (n := maxL) hn
  rw [lg_entry_eq]
  exact body p e s m below meth c _ B.exec B.bytes B.returns hml (findClass_of_methodNamed B.named) (atoms_spec (ws := ws) B.pre) B.notSynchronized hP hK hl
section ZR
variable {p : Program} {l : Launch} {e : Env} {R : Room} {s : State} {m : MethodId} {args : Array Value} {below : List Frame} {meth : Method} {c : Code} {H : Heap} {locs : List Loc} {cells slots : Nat} {Q : State → Prop}
variable {cc : ByteArray} {pc : Nat} {ls : Array Slot} {rest : List Value}
theorem z_iconst (hx : p.tables.exec = Jvm.exec) (hb : c.code = cc) {n : Int} (hdg : decode cc pc = .ok (.iconst n, 1)) (k : W p l e R s m args below meth c H locs cells slots Q (F0 m (pc + 1) ls (.int (zi n) :: rest))) : W p l e R s m args below meth c H locs cells slots Q (F0 m pc ls rest) := lv_iconst hx hb hdg rfl k
theorem z_bipush (hx : p.tables.exec = Jvm.exec) (hb : c.code = cc) {n : Int} (hdg : decode cc pc = .ok (.bipush n, 2)) (hv : (Int8.ofInt n).toInt32 = zi n) (k : W p l e R s m args below meth c H locs cells slots Q (F0 m (pc + 2) ls (.int (zi n) :: rest))) : W p l e R s m args below meth c H locs cells slots Q (F0 m pc ls rest) := lv_bipush hx hb hdg hv k
theorem z_sipush (hx : p.tables.exec = Jvm.exec) (hb : c.code = cc) {n : Int} (hdg : decode cc pc = .ok (.sipush n, 3)) (hv : (Int16.ofInt n).toInt32 = zi n) (k : W p l e R s m args below meth c H locs cells slots Q (F0 m (pc + 3) ls (.int (zi n) :: rest))) : W p l e R s m args below meth c H locs cells slots Q (F0 m pc ls rest) := lv_sipush hx hb hdg hv k
theorem z_iadd (hx : p.tables.exec = Jvm.exec) (hb : c.code = cc) {a b : Int} (hdg : decode cc pc = .ok (.iadd, 1)) (k : W p l e R s m args below meth c H locs cells slots Q (F0 m (pc + 1) ls (.int (zi (a + b)) :: rest))) : W p l e R s m args below meth c H locs cells slots Q (F0 m pc ls (.int (zi b) :: .int (zi a) :: rest)) := lv_iadd hx hb hdg (by rw [zi_add]; exact k)
theorem z_isub (hx : p.tables.exec = Jvm.exec) (hb : c.code = cc) {a b : Int} (hdg : decode cc pc = .ok (.isub, 1)) (k : W p l e R s m args below meth c H locs cells slots Q (F0 m (pc + 1) ls (.int (zi (a - b)) :: rest))) : W p l e R s m args below meth c H locs cells slots Q (F0 m pc ls (.int (zi b) :: .int (zi a) :: rest)) := lv_isub hx hb hdg (by rw [zi_sub]; exact k)
theorem z_imul (hx : p.tables.exec = Jvm.exec) (hb : c.code = cc) {a b : Int} (hdg : decode cc pc = .ok (.imul, 1)) (k : W p l e R s m args below meth c H locs cells slots Q (F0 m (pc + 1) ls (.int (zi (a * b)) :: rest))) : W p l e R s m args below meth c H locs cells slots Q (F0 m pc ls (.int (zi b) :: .int (zi a) :: rest)) := lv_imul hx hb hdg (by rw [zi_mul]; exact k)
theorem z_irem (hx : p.tables.exec = Jvm.exec) (hb : c.code = cc) {a b : Int} (ha : zr a) (h0 : 0 ≤ a) (hb0 : 0 < b) (hr : zr b) (hdg : decode cc pc = .ok (.irem, 1)) (k : W p l e R s m args below meth c H locs cells slots Q (F0 m (pc + 1) ls (.int (zi (a % b)) :: rest))) : W p l e R s m args below meth c H locs cells slots Q (F0 m pc ls (.int (zi b) :: .int (zi a) :: rest)) := lv_irem hx hb hdg (zi_ne0 hr (by omega)) (by rw [zi_rem ha h0 hb0 hr]; exact k)
theorem z_idiv (hx : p.tables.exec = Jvm.exec) (hb : c.code = cc) {a b : Int} (ha : zr a) (h0 : 0 ≤ a) (hb0 : 0 < b) (hr : zr b) (hdg : decode cc pc = .ok (.idiv, 1)) (k : W p l e R s m args below meth c H locs cells slots Q (F0 m (pc + 1) ls (.int (zi (a / b)) :: rest))) : W p l e R s m args below meth c H locs cells slots Q (F0 m pc ls (.int (zi b) :: .int (zi a) :: rest)) := lv_idiv hx hb hdg (zi_ne0 hr (by omega)) (by rw [zi_div ha h0 hb0 hr]; exact k)
/-- the top under another name -/
theorem z_top {a b : Int} (h : a = b) (k : W p l e R s m args below meth c H locs cells slots Q (F0 m pc ls (.int (zi b) :: rest))) : W p l e R s m args below meth c H locs cells slots Q (F0 m pc ls (.int (zi a) :: rest)) := by rw [h]; exact k
theorem z_iinc (hx : p.tables.exec = Jvm.exec) (hb : c.code = cc) {i nL k : Nat} {n a b : Int} {lv lv' : List (Nat × Value)} (hdg : decode cc pc = .ok (.iinc i n, 3)) (h : lv_has ls nL lv) (hk : lv[k]? = some (i, .int (zi a))) (hv : a + n = b) (hn : i < nL) (hl : (i, Value.int (zi b)) :: lv.filter (fun q => !(q.1 == i) && !(q.1 + 1 == i && q.2.category == 2)) = lv')
    (kk : ∀ ls' : Array Slot, lv_has ls' nL lv' → W p l e R s m args below meth c H locs cells slots Q (F0 m (pc + 3) ls' rest)) : W p l e R s m args below meth c H locs cells slots Q (F0 m pc ls rest) :=
  lv_iinc hx hb hdg h hk (by rw [← hv]; exact zi_add a n) hn hl kk
theorem z_if_eq (hx : p.tables.exec = Jvm.exec) (hb : c.code = cc) {a : Int} {off : Int} {tgt : Nat} (hdg : decode cc pc = .ok (.ifCond .eq off, 3)) (ht : (pc : Int) + off = (tgt : Int)) (hr : zr a) (kt : a = 0 → W p l e R s m args below meth c H locs cells slots Q (F0 m tgt ls rest)) (kf : ¬ a = 0 → W p l e R s m args below meth c H locs cells slots Q (F0 m (pc + 3) ls rest)) : W p l e R s m args below meth c H locs cells slots Q (F0 m pc ls (.int (zi a) :: rest)) := lv_if_eq hx hb hdg ht (fun h => kt ((zi_eq hr zr_0).mp h)) (fun h => kf (fun z => h ((zi_eq hr zr_0).mpr z)))
theorem z_icmp_eq (hx : p.tables.exec = Jvm.exec) (hb : c.code = cc) {a b : Int} {off : Int} {tgt : Nat} (hdg : decode cc pc = .ok (.if_icmp .eq off, 3)) (ht : (pc : Int) + off = (tgt : Int)) (hr : zr a) (hr2 : zr b) (kt : a = b → W p l e R s m args below meth c H locs cells slots Q (F0 m tgt ls rest)) (kf : ¬ a = b → W p l e R s m args below meth c H locs cells slots Q (F0 m (pc + 3) ls rest)) : W p l e R s m args below meth c H locs cells slots Q (F0 m pc ls (.int (zi b) :: .int (zi a) :: rest)) := lv_icmp_eq hx hb hdg ht (fun h => kt ((zi_eq hr hr2).mp h)) (fun h => kf (fun z => h ((zi_eq hr hr2).mpr z)))
theorem z_if_ne (hx : p.tables.exec = Jvm.exec) (hb : c.code = cc) {a : Int} {off : Int} {tgt : Nat} (hdg : decode cc pc = .ok (.ifCond .ne off, 3)) (ht : (pc : Int) + off = (tgt : Int)) (hr : zr a) (kt : ¬ a = 0 → W p l e R s m args below meth c H locs cells slots Q (F0 m tgt ls rest)) (kf : a = 0 → W p l e R s m args below meth c H locs cells slots Q (F0 m (pc + 3) ls rest)) : W p l e R s m args below meth c H locs cells slots Q (F0 m pc ls (.int (zi a) :: rest)) := lv_if_ne hx hb hdg ht (fun h => kt (fun z => h ((zi_eq hr zr_0).mpr z))) (fun h => kf ((zi_eq hr zr_0).mp h))
theorem z_icmp_ne (hx : p.tables.exec = Jvm.exec) (hb : c.code = cc) {a b : Int} {off : Int} {tgt : Nat} (hdg : decode cc pc = .ok (.if_icmp .ne off, 3)) (ht : (pc : Int) + off = (tgt : Int)) (hr : zr a) (hr2 : zr b) (kt : ¬ a = b → W p l e R s m args below meth c H locs cells slots Q (F0 m tgt ls rest)) (kf : a = b → W p l e R s m args below meth c H locs cells slots Q (F0 m (pc + 3) ls rest)) : W p l e R s m args below meth c H locs cells slots Q (F0 m pc ls (.int (zi b) :: .int (zi a) :: rest)) := lv_icmp_ne hx hb hdg ht (fun h => kt (fun z => h ((zi_eq hr hr2).mpr z))) (fun h => kf ((zi_eq hr hr2).mp h))
theorem z_if_lt (hx : p.tables.exec = Jvm.exec) (hb : c.code = cc) {a : Int} {off : Int} {tgt : Nat} (hdg : decode cc pc = .ok (.ifCond .lt off, 3)) (ht : (pc : Int) + off = (tgt : Int)) (hr : zr a) (kt : a < 0 → W p l e R s m args below meth c H locs cells slots Q (F0 m tgt ls rest)) (kf : 0 ≤ a → W p l e R s m args below meth c H locs cells slots Q (F0 m (pc + 3) ls rest)) : W p l e R s m args below meth c H locs cells slots Q (F0 m pc ls (.int (zi a) :: rest)) := lv_if_lt hx hb hdg ht (fun h => kt ((zi_lt hr zr_0).mp h)) (fun h => kf (Int.not_lt.mp (fun z => h ((zi_lt hr zr_0).mpr z))))
theorem z_icmp_lt (hx : p.tables.exec = Jvm.exec) (hb : c.code = cc) {a b : Int} {off : Int} {tgt : Nat} (hdg : decode cc pc = .ok (.if_icmp .lt off, 3)) (ht : (pc : Int) + off = (tgt : Int)) (hr : zr a) (hr2 : zr b) (kt : a < b → W p l e R s m args below meth c H locs cells slots Q (F0 m tgt ls rest)) (kf : b ≤ a → W p l e R s m args below meth c H locs cells slots Q (F0 m (pc + 3) ls rest)) : W p l e R s m args below meth c H locs cells slots Q (F0 m pc ls (.int (zi b) :: .int (zi a) :: rest)) := lv_icmp_lt hx hb hdg ht (fun h => kt ((zi_lt hr hr2).mp h)) (fun h => kf (Int.not_lt.mp (fun z => h ((zi_lt hr hr2).mpr z))))
theorem z_if_ge (hx : p.tables.exec = Jvm.exec) (hb : c.code = cc) {a : Int} {off : Int} {tgt : Nat} (hdg : decode cc pc = .ok (.ifCond .ge off, 3)) (ht : (pc : Int) + off = (tgt : Int)) (hr : zr a) (kt : 0 ≤ a → W p l e R s m args below meth c H locs cells slots Q (F0 m tgt ls rest)) (kf : a < 0 → W p l e R s m args below meth c H locs cells slots Q (F0 m (pc + 3) ls rest)) : W p l e R s m args below meth c H locs cells slots Q (F0 m pc ls (.int (zi a) :: rest)) := lv_if_ge hx hb hdg ht (fun h => kt ((zi_le zr_0 hr).mp h)) (fun h => kf (Int.not_le.mp (fun z => h ((zi_le zr_0 hr).mpr z))))
theorem z_icmp_ge (hx : p.tables.exec = Jvm.exec) (hb : c.code = cc) {a b : Int} {off : Int} {tgt : Nat} (hdg : decode cc pc = .ok (.if_icmp .ge off, 3)) (ht : (pc : Int) + off = (tgt : Int)) (hr : zr a) (hr2 : zr b) (kt : b ≤ a → W p l e R s m args below meth c H locs cells slots Q (F0 m tgt ls rest)) (kf : a < b → W p l e R s m args below meth c H locs cells slots Q (F0 m (pc + 3) ls rest)) : W p l e R s m args below meth c H locs cells slots Q (F0 m pc ls (.int (zi b) :: .int (zi a) :: rest)) := lv_icmp_ge hx hb hdg ht (fun h => kt ((zi_le hr2 hr).mp h)) (fun h => kf (Int.not_le.mp (fun z => h ((zi_le hr2 hr).mpr z))))
theorem z_if_gt (hx : p.tables.exec = Jvm.exec) (hb : c.code = cc) {a : Int} {off : Int} {tgt : Nat} (hdg : decode cc pc = .ok (.ifCond .gt off, 3)) (ht : (pc : Int) + off = (tgt : Int)) (hr : zr a) (kt : 0 < a → W p l e R s m args below meth c H locs cells slots Q (F0 m tgt ls rest)) (kf : a ≤ 0 → W p l e R s m args below meth c H locs cells slots Q (F0 m (pc + 3) ls rest)) : W p l e R s m args below meth c H locs cells slots Q (F0 m pc ls (.int (zi a) :: rest)) := lv_if_gt hx hb hdg ht (fun h => kt ((zi_lt zr_0 hr).mp h)) (fun h => kf (Int.not_lt.mp (fun z => h ((zi_lt zr_0 hr).mpr z))))
theorem z_icmp_gt (hx : p.tables.exec = Jvm.exec) (hb : c.code = cc) {a b : Int} {off : Int} {tgt : Nat} (hdg : decode cc pc = .ok (.if_icmp .gt off, 3)) (ht : (pc : Int) + off = (tgt : Int)) (hr : zr a) (hr2 : zr b) (kt : b < a → W p l e R s m args below meth c H locs cells slots Q (F0 m tgt ls rest)) (kf : a ≤ b → W p l e R s m args below meth c H locs cells slots Q (F0 m (pc + 3) ls rest)) : W p l e R s m args below meth c H locs cells slots Q (F0 m pc ls (.int (zi b) :: .int (zi a) :: rest)) := lv_icmp_gt hx hb hdg ht (fun h => kt ((zi_lt hr2 hr).mp h)) (fun h => kf (Int.not_lt.mp (fun z => h ((zi_lt hr2 hr).mpr z))))
theorem z_if_le (hx : p.tables.exec = Jvm.exec) (hb : c.code = cc) {a : Int} {off : Int} {tgt : Nat} (hdg : decode cc pc = .ok (.ifCond .le off, 3)) (ht : (pc : Int) + off = (tgt : Int)) (hr : zr a) (kt : a ≤ 0 → W p l e R s m args below meth c H locs cells slots Q (F0 m tgt ls rest)) (kf : 0 < a → W p l e R s m args below meth c H locs cells slots Q (F0 m (pc + 3) ls rest)) : W p l e R s m args below meth c H locs cells slots Q (F0 m pc ls (.int (zi a) :: rest)) := lv_if_le hx hb hdg ht (fun h => kt ((zi_le hr zr_0).mp h)) (fun h => kf (Int.not_le.mp (fun z => h ((zi_le hr zr_0).mpr z))))
theorem z_icmp_le (hx : p.tables.exec = Jvm.exec) (hb : c.code = cc) {a b : Int} {off : Int} {tgt : Nat} (hdg : decode cc pc = .ok (.if_icmp .le off, 3)) (ht : (pc : Int) + off = (tgt : Int)) (hr : zr a) (hr2 : zr b) (kt : a ≤ b → W p l e R s m args below meth c H locs cells slots Q (F0 m tgt ls rest)) (kf : b < a → W p l e R s m args below meth c H locs cells slots Q (F0 m (pc + 3) ls rest)) : W p l e R s m args below meth c H locs cells slots Q (F0 m pc ls (.int (zi b) :: .int (zi a) :: rest)) := lv_icmp_le hx hb hdg ht (fun h => kt ((zi_le hr hr2).mp h)) (fun h => kf (Int.not_le.mp (fun z => h ((zi_le hr hr2).mpr z))))
theorem z_ifp_eq (hx : p.tables.exec = Jvm.exec) (hb : c.code = cc) {P : Prop} [Decidable P] {off : Int} {tgt : Nat} (hdg : decode cc pc = .ok (.ifCond .eq off, 3)) (ht : (pc : Int) + off = (tgt : Int)) (kt : ¬ P → W p l e R s m args below meth c H locs cells slots Q (F0 m tgt ls rest)) (kf : P → W p l e R s m args below meth c H locs cells slots Q (F0 m (pc + 3) ls rest)) : W p l e R s m args below meth c H locs cells slots Q (F0 m pc ls (.int (zi (pz P)) :: rest)) := z_if_eq hx hb hdg ht (pz_r P) (fun h => kt ((pz_0 P).mp h)) (fun h => kf ((pz_n0 P).mp h))
theorem z_ifp_ne (hx : p.tables.exec = Jvm.exec) (hb : c.code = cc) {P : Prop} [Decidable P] {off : Int} {tgt : Nat} (hdg : decode cc pc = .ok (.ifCond .ne off, 3)) (ht : (pc : Int) + off = (tgt : Int)) (kt : P → W p l e R s m args below meth c H locs cells slots Q (F0 m tgt ls rest)) (kf : ¬ P → W p l e R s m args below meth c H locs cells slots Q (F0 m (pc + 3) ls rest)) : W p l e R s m args below meth c H locs cells slots Q (F0 m pc ls (.int (zi (pz P)) :: rest)) := z_if_ne hx hb hdg ht (pz_r P) (fun h => kt ((pz_n0 P).mp h)) (fun h => kf ((pz_0 P).mp h))
theorem z_one {D : va_G} {cl : List vw_C} {q : Nat × va_E} {H : Heap} (h : va_at D cl q H) : va_P D cl [q] H := by
  intro k q' hk
  match k, hk with
  | 0, hk => cases hk; exact h
  | k + 1, hk => simp at hk
theorem z_stay {D : va_G} {cl : List vw_C} {q : Nat × va_E} {A : Nat → Prop} {H0 H : Heap} {locs : List Loc} (h : va_at D cl q H0) (hS : va_S A H0 H locs) (hn : ¬ A q.1) : va_at D cl q H := h.kept (hS.2.1 q.1 h.lt hn)
theorem z_recv {g : gG} {a ci : Nat} {fs : List Value} {q : vw_C} (hK : KK g s) (hat : va_at g.1 vwCl (a, .inr (ci, fs)) H) (hc : vwCl[ci]? = some q) : ∃ cell : Cell, H[a]? = some cell ∧ cell.vm.isStatics = false ∧ s.vm.findClass q.1 = some cell.cls := va_recv hK.1 (z_one hat) hc (q0 := 0) rfl
theorem z_get (hx : p.tables.exec = Jvm.exec) (hb : c.code = cc) {own ref C : String} {T : u_T} {N ci index a : Nat} {Ts : List Cond} {g : gG} (hts : ∀ w ∈ Ts, w.before args s = true) (hin : ∀ w ∈ u_ws C T N, w ∈ Ts) (hown : s.vm.findClass own = some m.cls) (hK : KK g s) {fs : List Value} (hat : va_at g.1 vwCl (a, .inr (ci, fs)) H) (hc : vwCl[ci]? = some (C, T, N)) (k : Nat) (hk : k < N) (hlink : (Cond.fieldLink own index ref (T k).2.1 (T k).2.2.1).before args s = true) (hsame : ref = (T k).1) {v : Value} (hv : fs[k]? = some v) (hdg : decode cc pc = .ok (.getfield index, 3))
    (kk : W p l e R s m args below meth c H locs cells slots Q (F0 m (pc + 3) ls (v :: rest))) : W p l e R s m args below meth c H locs cells slots Q (F0 m pc ls (.ref a :: rest)) :=
  va_get hx hb hts hin hown hK.1 (z_one hat) 0 rfl hc k hk hlink (fun _ h => by rw [hsame]; exact h) hv hdg kk
theorem z_getN (hx : p.tables.exec = Jvm.exec) (hb : c.code = cc) {own ref C host : String} {T : u_T} {N ci index a : Nat} {Ts : List Cond} {g : gG} (hts : ∀ w ∈ Ts, w.before args s = true) (hin : ∀ w ∈ u_ws C T N, w ∈ Ts) (hown : s.vm.findClass own = some m.cls) (hK : KK g s) {fs : List Value} (hat : va_at g.1 vwCl (a, .inr (ci, fs)) H) (hc : vwCl[ci]? = some (C, T, N)) (k : Nat) (hk : k < N) (hlink : (Cond.fieldLinkNest own index ref (T k).2.1 (T k).2.2.1 host) ∈ nwL) (hsame : ref = (T k).1) {v : Value} (hv : fs[k]? = some v) (hdg : decode cc pc = .ok (.getfield index, 3))
    (kk : W p l e R s m args below meth c H locs cells slots Q (F0 m (pc + 3) ls (v :: rest))) : W p l e R s m args below meth c H locs cells slots Q (F0 m pc ls (.ref a :: rest)) :=
  va_getN hx hb hts hin hown hK.1 (z_one hat) 0 rfl hc k hk (va_Nw.use rfl (hK.2 _ hlink)) (fun _ h => by rw [hsame]; exact h) hv hdg kk
theorem z_iald (hx : p.tables.exec = Jvm.exec) (hb : c.code = cc) {g : gG} (hK : KK g s) {a n : Nat} {f : Nat → Int} (hat : va_at g.1 vwCl (a, .inl (g.2.1, n, .inl (fun j => zi (f j)))) H) {z : Int} (i : Nat) (hz : z = (i : Int)) (hi : i < n) (hn : n < 2147483648) (hdg : decode cc pc = .ok (.iaload, 1))
    (kk : W p l e R s m args below meth c H locs cells slots Q (F0 m (pc + 1) ls (.int (zi (f i)) :: rest))) : W p l e R s m args below meth c H locs cells slots Q (F0 m pc ls (.int (zi z) :: .ref a :: rest)) := by
  subst hz
  refine va_iald hx hb hK.1 (z_one hat) 0 0 rfl rfl (zi_in hi hn) hdg ?_
  rw [zi_ix (by omega)]
  exact kk
theorem z_zald (hx : p.tables.exec = Jvm.exec) (hb : c.code = cc) {g : gG} (hK : KK g s) {a n : Nat} {f : Nat → Int} (hat : va_at g.1 vwCl (a, .inl (g.2.2.1, n, .inl (fun j => zi (f j)))) H) {z : Int} (i : Nat) (hz : z = (i : Int)) (hi : i < n) (hn : n < 2147483648) (hdg : decode cc pc = .ok (.baload, 1))
    (kk : W p l e R s m args below meth c H locs cells slots Q (F0 m (pc + 1) ls (.int (zi (f i)) :: rest))) : W p l e R s m args below meth c H locs cells slots Q (F0 m pc ls (.int (zi z) :: .ref a :: rest)) := by
  subst hz
  refine va_zald hx hb hK.1 (z_one hat) 0 1 rfl rfl (zi_in hi hn) hdg ?_
  rw [zi_ix (by omega)]
  exact kk
theorem z_alen (hx : p.tables.exec = Jvm.exec) (hb : c.code = cc) {g : gG} (hK : KK g s) {a : Nat} {cA : ClassId} {x : vp_A} (hat : va_at g.1 vwCl (a, .inl (cA, x)) H) (t0 : Nat) {ty : FieldType} (ht : [(g.2.1, FieldType.int), (g.2.2.1, .boolean), (g.2.2.2.1, .object RX2), (g.2.2.2.2, .object RX0)][t0]? = some (cA, ty)) (hdg : decode cc pc = .ok (.arraylength, 1))
    (kk : W p l e R s m args below meth c H locs cells slots Q (F0 m (pc + 1) ls (.int (zi (x.1 : Int)) :: rest))) : W p l e R s m args below meth c H locs cells slots Q (F0 m pc ls (.ref a :: rest)) :=
  va_alen hx hb hK.1 (z_one hat) 0 t0 rfl ht (zi_ofNat x.1) hdg kk
theorem z_aldq (hx : p.tables.exec = Jvm.exec) (hb : c.code = cc) {g : gG} (hK : KK g s) {a n : Nat} {cA : ClassId} {C : String} {f : Nat → Option Nat} (hat : va_at g.1 vwCl (a, .inl (cA, n, .inr (.inr (.inr (.inr f))))) H) (t0 : Nat) (ht : [(g.2.1, FieldType.int), (g.2.2.1, .boolean), (g.2.2.2.1, .object RX2), (g.2.2.2.2, .object RX0)][t0]? = some (cA, .object C)) {z : Int} (i : Nat) (hz : z = (i : Int)) (hi : i < n) (hn : n < 2147483648) {o : Option Nat} (ho : f i = o) (hdg : decode cc pc = .ok (.aaload, 1))
    (kk : W p l e R s m args below meth c H locs cells slots Q (F0 m (pc + 1) ls (va_rf o :: rest))) : W p l e R s m args below meth c H locs cells slots Q (F0 m pc ls (.int (zi z) :: .ref a :: rest)) := by
  subst hz
  refine va_aldq hx hb hK.1 (z_one hat) 0 t0 rfl ht (zi_in hi hn) hdg ?_
  rw [zi_ix (by omega), ho]
  exact kk
theorem zi_upd (f : Nat → Int) (i : Nat) (h : i < 2147483648) (x : Int) : upd (fun j => zi (f j)) (zi (i : Int)).toNatClampNeg (zi x) = fun j => zi (va_up f i x j) := by
  rw [zi_ix h]
  funext j
  unfold upd va_up
  split <;> rfl
theorem z_iast (hx : p.tables.exec = Jvm.exec) (hb : c.code = cc) {g : gG} {ws : va_W} {A : Nat → Prop} {H0 : Heap} (hK : KK g s) (hP : va_P g.1 vwCl ws H) (hD : va_D A ws) (hS : va_S A H0 H locs) (q0 : Nat) {a n : Nat} {f : Nat → Int} (ha : ws[q0]? = some (a, .inl (g.2.1, n, .inl (fun j => zi (f j))))) {z x : Int} (i : Nat) (hz : z = (i : Int)) (hi : i < n) (hn : n < 2147483648) (hdg : decode cc pc = .ok (.iastore, 1))
    (kk : ∀ (H1 : Heap) (locs1 : List Loc), va_P g.1 vwCl (ws.set q0 (a, .inl (g.2.1, n, .inl (fun j => zi (va_up f i x j))))) H1 → va_D A (ws.set q0 (a, .inl (g.2.1, n, .inl (fun j => zi (va_up f i x j))))) → va_S A H0 H1 locs1 → W p l e R s m args below meth c H1 locs1 cells slots Q (F0 m (pc + 1) ls rest)) : W p l e R s m args below meth c H locs cells slots Q (F0 m pc ls (.int (zi x) :: .int (zi z) :: .ref a :: rest)) := by
  subst hz
  refine va_iast hx hb hK.1 hP hD hS q0 0 ha rfl (zi_in hi hn) hdg (fun H1 l1 h1 h2 h3 => ?_)
  rw [zi_upd f i (by omega) x] at h1 h2
  exact kk H1 l1 h1 h2 h3
theorem z_zast (hx : p.tables.exec = Jvm.exec) (hb : c.code = cc) {g : gG} {ws : va_W} {A : Nat → Prop} {H0 : Heap} (hK : KK g s) (hP : va_P g.1 vwCl ws H) (hD : va_D A ws) (hS : va_S A H0 H locs) (q0 : Nat) {a n : Nat} {f : Nat → Int} (ha : ws[q0]? = some (a, .inl (g.2.2.1, n, .inl (fun j => zi (f j))))) {z x : Int} (i : Nat) (hz : z = (i : Int)) (hi : i < n) (hn : n < 2147483648) (hx01 : x = 0 ∨ x = 1) (hdg : decode cc pc = .ok (.bastore, 1))
    (kk : ∀ (H1 : Heap) (locs1 : List Loc), va_P g.1 vwCl (ws.set q0 (a, .inl (g.2.2.1, n, .inl (fun j => zi (va_up f i x j))))) H1 → va_D A (ws.set q0 (a, .inl (g.2.2.1, n, .inl (fun j => zi (va_up f i x j))))) → va_S A H0 H1 locs1 → W p l e R s m args below meth c H1 locs1 cells slots Q (F0 m (pc + 1) ls rest)) : W p l e R s m args below meth c H locs cells slots Q (F0 m pc ls (.int (zi x) :: .int (zi z) :: .ref a :: rest)) := by
  subst hz
  refine va_zast hx hb hK.1 hP hD hS q0 1 ha rfl (zi_in hi hn) hdg (fun H1 l1 h1 h2 h3 => ?_)
  have hn : vp_nar .boolean (zi x) = zi x := by rcases hx01 with rfl | rfl <;> rfl
  rw [hn, zi_upd f i (by omega) x] at h1 h2
  exact kk H1 l1 h1 h2 h3
theorem z_abs (hx : p.tables.exec = Jvm.exec) (hb : c.code = cc) (hml : c.maxLocals = ls.size) {own : String} {index : Nat} (hown : s.vm.findClass own = some m.cls) (hlink : (Cond.methodLink own index Lib.Math.abs.name).before args s = true) (hstat : (Cond.static Lib.Math.abs.name).before args s = true) (hini : (Cond.initialized "java/lang/Math").before args s = true) (hcode : (Cond.code Lib.Math.abs.name Lib.Math.abs.code 1 (some .int)).before args s = true)
    (hframes : 1 ≤ R.frames) (hlocals : (rest.map fun v => v.category).sum + 13 ≤ R.locals) (hc : cells ≤ R.cells) (hs : slots ≤ R.slots) {a d : Int} (ha : zr a) (h1 : 0 ≤ a → d = a) (h2 : a < 0 → d = -a) (hdg : decode cc pc = .ok (.invokestatic index, 3))
    (kk : W p l e R s m args below meth c H locs cells slots Q (F0 m (pc + 3) ls (.int (zi d) :: rest))) : W p l e R s m args below meth c H locs cells slots Q (F0 m pc ls (.int (zi a) :: rest)) := by
  refine va_mabs hx hb hml hown hlink hstat hini hcode hframes hlocals hc hs hdg ?_
  have e : (if 0 ≤ zi a then zi a else 0 - zi a) = zi d := by
    rw [zi_0]
    by_cases h : 0 ≤ a
    · rw [if_pos ((zi_le zr_0 ha).mpr h), h1 h]
    · rw [if_neg (fun z => h ((zi_le zr_0 ha).mp z)), h2 (by omega), zi_sub]
      congr 1
      omega
  rw [e]
  exact kk
theorem z_max (hx : p.tables.exec = Jvm.exec) (hb : c.code = cc) (hml : c.maxLocals = ls.size) {own : String} {index : Nat} (hown : s.vm.findClass own = some m.cls) (hlink : (Cond.methodLink own index Lib.Math.max.name).before args s = true) (hstat : (Cond.static Lib.Math.max.name).before args s = true) (hini : (Cond.initialized "java/lang/Math").before args s = true) (hcode : (Cond.code Lib.Math.max.name Lib.Math.max.code 2 (some .int)).before args s = true)
    (hframes : 1 ≤ R.frames) (hlocals : (rest.map fun v => v.category).sum + 13 ≤ R.locals) (hc : cells ≤ R.cells) (hs : slots ≤ R.slots) {a b d : Int} (ha : zr a) (hb2 : zr b) (h1 : a < b → d = b) (h2 : b ≤ a → d = a) (hdg : decode cc pc = .ok (.invokestatic index, 3))
    (kk : W p l e R s m args below meth c H locs cells slots Q (F0 m (pc + 3) ls (.int (zi d) :: rest))) : W p l e R s m args below meth c H locs cells slots Q (F0 m pc ls (.int (zi b) :: .int (zi a) :: rest)) := by
  refine va_mmax hx hb hml hown hlink hstat hini hcode hframes hlocals hc hs hdg ?_
  have e : (if zi a < zi b then zi b else zi a) = zi d := by
    by_cases h : a < b
    · rw [if_pos ((zi_lt ha hb2).mpr h), h1 h]
    · rw [if_neg (fun z => h ((zi_lt ha hb2).mp z)), h2 (by omega)]
  rw [e]
  exact kk
theorem z_min (hx : p.tables.exec = Jvm.exec) (hb : c.code = cc) (hml : c.maxLocals = ls.size) {own : String} {index : Nat} (hown : s.vm.findClass own = some m.cls) (hlink : (Cond.methodLink own index Lib.Math.min.name).before args s = true) (hstat : (Cond.static Lib.Math.min.name).before args s = true) (hini : (Cond.initialized "java/lang/Math").before args s = true) (hcode : (Cond.code Lib.Math.min.name Lib.Math.min.code 2 (some .int)).before args s = true)
    (hframes : 1 ≤ R.frames) (hlocals : (rest.map fun v => v.category).sum + 13 ≤ R.locals) (hc : cells ≤ R.cells) (hs : slots ≤ R.slots) {a b d : Int} (ha : zr a) (hb2 : zr b) (h1 : b < a → d = b) (h2 : a ≤ b → d = a) (hdg : decode cc pc = .ok (.invokestatic index, 3))
    (kk : W p l e R s m args below meth c H locs cells slots Q (F0 m (pc + 3) ls (.int (zi d) :: rest))) : W p l e R s m args below meth c H locs cells slots Q (F0 m pc ls (.int (zi b) :: .int (zi a) :: rest)) := by
  refine va_mmin hx hb hml hown hlink hstat hini hcode hframes hlocals hc hs hdg ?_
  have e : (if zi b < zi a then zi b else zi a) = zi d := by
    by_cases h : b < a
    · rw [if_pos ((zi_lt hb2 ha).mpr h), h1 h]
    · rw [if_neg (fun z => h ((zi_lt hb2 ha).mp z)), h2 (by omega)]
  rw [e]
  exact kk
/-! ===== calls of what reads alone ===== -/
theorem ro_V {y : MethodName} {bytes : ByteArray} {maxL nL n index b : Nat} {ret : Option FieldType} {ws : List Cond} {rm : Room} {Ts : List Cond} {own C : String} {As st0 : List Value} {g : gG} {P : Heap → Prop} {v : Int}
    (S : CallFix p m c cc nL s args Ts own) (hM : RO l y ws rm g (.ref b :: As) P v) (cw : CallW R s args own C index y bytes maxL ret ws rm 0 0 n) (hr : ∃ cell : Cell, H[b]? = some cell ∧ cell.vm.isStatics = false ∧ s.vm.findClass C = some cell.cls) (hP : P H) (hK : KK g s)
    (hn : As.length = n) (hsize : ls.size = nL) (hst : st0 = As.reverse ++ .ref b :: rest) (hW : (rest.map fun v => v.category).sum ≤ 8) (hdg : decode cc pc = .ok (.invokevirtual index, 3)) (hf : cells + 0 ≤ R.cells ∧ slots + 0 ≤ R.slots)
    (kk : W p l e R s m args below meth c H locs cells slots Q (F0 m (pc + 3) ls (.int (zi v) :: rest))) : W p l e R s m args below meth c H locs cells slots Q (F0 m pc ls st0) :=
  vp_callSi (va_Run.run (va_runV S hM cw ⟨zPc.blind g _ P, hr, fun U hU hW => ⟨rfl, by rw [hU]; exact hP, hK.warm hW⟩⟩ rfl hn hsize hst (lv_room hW) hdg hf)) (fun r hr => by rw [hr]; exact kk)
theorem ro_S {y : MethodName} {bytes : ByteArray} {maxL nL n index : Nat} {ret : Option FieldType} {ws : List Cond} {rm : Room} {Ts : List Cond} {own : String} {As st0 : List Value} {g : gG} {P : Heap → Prop} {v : Int}
    (S : CallFix p m c cc nL s args Ts own) (hM : RO l y ws rm g As P v) (cw : CallB R s args own index y bytes maxL ret ws rm 0 0 n ∧ (Cond.static y).before args s = true) (hP : P H) (hK : KK g s)
    (hn : As.length = n) (hsize : ls.size = nL) (hst : st0 = As.reverse ++ rest) (hW : (rest.map fun v => v.category).sum ≤ 8) (hdg : decode cc pc = .ok (.invokestatic index, 3)) (hf : cells + 0 ≤ R.cells ∧ slots + 0 ≤ R.slots)
    (kk : W p l e R s m args below meth c H locs cells slots Q (F0 m (pc + 3) ls (.int (zi v) :: rest))) : W p l e R s m args below meth c H locs cells slots Q (F0 m pc ls st0) :=
  vp_callSi (va_Run.run (va_runS S hM cw ⟨zPc.blind g _ P, fun U hU hW => ⟨rfl, by rw [hU]; exact hP, hK.warm hW⟩⟩ rfl hn hsize hst (lv_room hW) hdg hf)) (fun r hr => by rw [hr]; exact kk)
/-! ===== their ends ===== -/
theorem z_iret {a v : Int} (hx : p.tables.exec = Jvm.exec) (hb : c.code = cc) (hr : meth.sig.returnType = some .int) (hlk : meth.locks = false) (hdg : decode cc pc = .ok (.ireturn, 1)) (h : a = v) : W p l e R s m args below meth c s.heap [] 0 0 (MQ below (vp_Si (fun r => r = zi v)) args s 0 0 (fun _ => False)) (F0 m pc ls [.int (zi a)]) :=
  W.iret hx hb hr (fun t ht _ => ⟨_, rfl, by rw [h], ht⟩) (fun q hq => absurd hq List.not_mem_nil) hdg hlk
theorem z_zret {a v : Int} (hx : p.tables.exec = Jvm.exec) (hb : c.code = cc) (hr : meth.sig.returnType = some .boolean) (hlk : meth.locks = false) (hdg : decode cc pc = .ok (.ireturn, 1)) (h01 : a = 0 ∨ a = 1) (h : a = v) : W p l e R s m args below meth c s.heap [] 0 0 (MQ below (vp_Si (fun r => r = zi v)) args s 0 0 (fun _ => False)) (F0 m pc ls [.int (zi a)]) :=
  W.zret hx hb hr (by rcases h01 with rfl | rfl <;> rfl) (fun t ht _ => ⟨_, rfl, by rw [h], ht⟩) (fun q hq => absurd hq List.not_mem_nil) hdg hlk
end ZR
end
