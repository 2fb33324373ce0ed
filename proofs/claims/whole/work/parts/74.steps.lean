/-! ===== each call: the law's helper and the reference agree ===== -/
def SOK (l : Launch) (g : gG) (cL cD : ClassId) (ad : Nat → Nat) (σ : SG) (th : Int) (a : AD) (yL : MethodName) (wL : List Cond) (yX : MethodName) (wX : List Cond) (av : List Value) (B : Int → Prop) : Prop :=
  ∃ (σ' : SG) (k v : Int) (rm : Room), WF σ' ∧ S12 σ' ∧ (0 ≤ k ∧ k ≤ 3) ∧ B v ∧ (∀ o sz : Nat, LH l yL wL g cL cD av o sz σ a σ' k v) ∧ (rm.cells = 0 ∧ rm.slots = 0 ∧ rm.frames ≤ 5 ∧ rm.locals ≤ 114) ∧ ∀ sz : Nat, MI l yX wX rm g ad av sz σ th σ' k v
def SOKf (l : Launch) (g : gG) (cL cD : ClassId) (ad : Nat → Nat) (σ : SG) (th : Int) (a : AD) (yL : MethodName) (wL : List Cond) (yX : MethodName) (wX : List Cond) (av : List Value) : Prop :=
  ∃ (σ' : SG) (k : Int) (v : UInt32) (rm : Room), WF σ' ∧ S12 σ' ∧ (0 ≤ k ∧ k ≤ 3) ∧ flok v = true ∧ (∀ o sz : Nat, LHd l yL wL g cL cD av o sz σ a σ' k v) ∧ (rm.cells = 0 ∧ rm.slots = 0 ∧ rm.frames ≤ 5 ∧ rm.locals ≤ 114) ∧ ∀ sz : Nat, MFl l yX wX rm g ad av sz σ th σ' k v
theorem pz_o (P : Prop) [Decidable P] : pz P = 0 ∨ pz P = 1 := by have := pz_b P; omega
theorem nIsN_b {σ : SG} {k v : Nat} {b : Int} (h : ¬ (0 ≤ b ∧ b < σ 1 k)) : ¬ IsN σ (k : Int) (v : Int) b := fun h1 => h ⟨h1.2.2.1, by have h9 := h1.2.2.2; rw [Int.toNat_natCast] at h9; exact h9⟩
theorem nIsN_0 {σ : SG} {k : Nat} {b : Int} (h : ¬ (0 ≤ b ∧ b < σ 1 k)) : ¬ IsN σ (k : Int) 0 b := fun h1 => h ⟨h1.2.2.1, by have h9 := h1.2.2.2; rw [Int.toNat_natCast] at h9; exact h9⟩
theorem IsN_mk {σ : SG} {k v b : Nat} (h1 : (k : Int) < σ 0 0) (h2 : v ≤ 1) (h3 : (b : Int) < σ 1 k) : IsN σ (k : Int) (v : Int) (b : Int) := ⟨⟨by omega, h1⟩, ⟨by omega, by omega⟩, by omega, by rw [Int.toNat_natCast]; exact h3⟩
set_option maxRecDepth 100000 in
theorem S_begin (l : Launch) (hfl : l.stackTraces = false) (g : gG) (cL cD : ClassId) (ad : Nat → Nat) (hd : Dst ad) (σ : SG) (th : Int) (a : AD) (hW : WF σ) (h12 : S12 σ) (z : Int) (hz : zr z) : SOK l g cL cD ad σ th a yL_begin wsL_begin yX4_begin wsX4_begin [.int (zi z)] (fun _ => True) := by
  have hn := hW.n
  have hcn := hW.cn
  by_cases hg : 1 ≤ z ∧ z ≤ 12
  · by_cases hf : σ 0 0 = 30
    · exact ⟨σ, 2, 0, _, hW, h12, by omega, trivial, fun o sz => H_begin_x2 l g cL cD z o sz σ a 0 _ (by exact ⟨rfl, rfl, by omega, by omega, Nat.le_of_ble_eq_true rfl, Nat.le_of_ble_eq_true rfl⟩) (c_X3_begin_2 l hfl g σ a hW z hg hf), (by exact ⟨rfl, rfl, Nat.le_of_ble_eq_true rfl, Nat.le_of_ble_eq_true rfl⟩), fun sz => c_X4_begin_2 l g ad σ th hW hd sz z hz hg hf⟩
    · obtain ⟨N, hN⟩ : ∃ N : Nat, σ 0 0 = (N : Int) := ⟨(σ 0 0).toNat, by omega⟩
      exact ⟨(opB σ N z), 0, (N : Int), _, hW.opB hN (by omega) hg, h12.same rfl rfl, by omega, trivial, fun o sz => H_begin_0 l g cL cD z o sz σ a (opB σ N z) ((N : Int)) _ 4 32 (by exact ⟨rfl, rfl, by omega, by omega, Nat.le_of_ble_eq_true rfl, Nat.le_of_ble_eq_true rfl⟩) (fun sz => c_X3_begin_0 l g σ a hW z hg N hN (by omega) sz), (by exact ⟨rfl, rfl, Nat.le_of_ble_eq_true rfl, Nat.le_of_ble_eq_true rfl⟩), fun sz => c_X4_begin_0 l g ad σ th hW hd sz z hz hg N hN (by omega)⟩
  · exact ⟨σ, 1, 0, _, hW, h12, by omega, trivial, fun o sz => H_begin_x1 l g cL cD z o sz σ a 0 _ (by exact ⟨rfl, rfl, by omega, by omega, Nat.le_of_ble_eq_true rfl, Nat.le_of_ble_eq_true rfl⟩) (c_X3_begin_1 l hfl g σ a hW z hz hg), (by exact ⟨rfl, rfl, Nat.le_of_ble_eq_true rfl, Nat.le_of_ble_eq_true rfl⟩), fun sz => c_X4_begin_1 l g ad σ th hW hd sz z hz hg⟩
set_option maxRecDepth 100000 in
theorem S_branch (l : Launch) (hfl : l.stackTraces = false) (g : gG) (cL cD : ClassId) (ad : Nat → Nat) (hd : Dst ad) (σ : SG) (th : Int) (a : AD) (hW : WF σ) (h12 : S12 σ) (z : Int) (hz : zr z) : SOK l g cL cD ad σ th a yL_branch wsL_branch yX4_branch wsX4_branch [.int (zi z)] (fun _ => True) := by
  have hn := hW.n
  have hcn := hW.cn
  by_cases hg : 0 ≤ z ∧ z < σ 0 0
  · obtain ⟨k, rfl⟩ : ∃ k : Nat, z = (k : Int) := ⟨z.toNat, by omega⟩
    by_cases hf : σ 0 0 = 30
    · exact ⟨σ, 2, 0, _, hW, h12, by omega, trivial, fun o sz => H_branch_x2 l g cL cD k o sz σ a 0 _ (by exact ⟨rfl, rfl, by omega, by omega, Nat.le_of_ble_eq_true rfl, Nat.le_of_ble_eq_true rfl⟩) (c_X3_branch_2 l hfl g σ a hW k hg.2 k rfl hf), (by exact ⟨rfl, rfl, Nat.le_of_ble_eq_true rfl, Nat.le_of_ble_eq_true rfl⟩), fun sz => c_X4_branch_2 l g ad σ th hW hd sz k hz hg hf⟩
    · obtain ⟨N, hN⟩ : ∃ N : Nat, σ 0 0 = (N : Int) := ⟨(σ 0 0).toNat, by omega⟩
      exact ⟨(opK σ N k), 0, (N : Int), _, hW.opK hN (by omega) (by omega), h12.same rfl rfl, by omega, trivial, fun o sz => H_branch_0 l g cL cD k o sz σ a (opK σ N k) ((N : Int)) _ 4 32 (by exact ⟨rfl, rfl, by omega, by omega, Nat.le_of_ble_eq_true rfl, Nat.le_of_ble_eq_true rfl⟩) (fun sz => c_X3_branch_0 l g σ a hW k hg.2 k rfl N hN (by omega) sz), (by exact ⟨rfl, rfl, Nat.le_of_ble_eq_true rfl, Nat.le_of_ble_eq_true rfl⟩), fun sz => c_X4_branch_0 l g ad σ th hW hd sz k hg.2 k rfl N hN (by omega)⟩
  · exact ⟨σ, 1, 0, _, hW, h12, by omega, trivial, fun o sz => H_branch_x1 l g cL cD z o sz σ a 0 _ (by exact ⟨rfl, rfl, by omega, by omega, Nat.le_of_ble_eq_true rfl, Nat.le_of_ble_eq_true rfl⟩) (c_X3_branch_x1 l hfl g σ a hW z hz hg), (by exact ⟨rfl, rfl, Nat.le_of_ble_eq_true rfl, Nat.le_of_ble_eq_true rfl⟩), fun sz => c_X4_branch_1 l g ad σ th hW hd sz z hz hg⟩
set_option maxRecDepth 100000 in
theorem S_note (l : Launch) (hfl : l.stackTraces = false) (g : gG) (cL cD : ClassId) (ad : Nat → Nat) (hd : Dst ad) (σ : SG) (th : Int) (a : AD) (hW : WF σ) (h12 : S12 σ) (z v b : Int) (hz : zr z) (hv : zr v) (hb : zr b) : SOK l g cL cD ad σ th a yL_note wsL_note yX4_note wsX4_note [.int (zi z), .int (zi v), .int (zi b)] (fun _ => True) := by
  have hn := hW.n
  have hcn := hW.cn
  by_cases hg : 0 ≤ z ∧ z < σ 0 0
  · obtain ⟨k, rfl⟩ : ∃ k : Nat, z = (k : Int) := ⟨z.toNat, by omega⟩
    by_cases hv1 : 0 ≤ v ∧ v ≤ 1
    · obtain ⟨w, rfl⟩ : ∃ w : Nat, v = (w : Int) := ⟨v.toNat, by omega⟩
      by_cases hb1 : 0 ≤ b ∧ b < σ 1 k
      · obtain ⟨c, rfl⟩ : ∃ c : Nat, b = (c : Int) := ⟨b.toNat, by omega⟩
        exact ⟨σ, 0, (NV σ k w c), _, hW, h12, by omega, trivial, fun o sz => H_note_0 l g cL cD k w c o sz σ a σ ((NV σ k w c)) _ 0 0 (by exact ⟨rfl, rfl, by omega, by omega, Nat.le_of_ble_eq_true rfl, Nat.le_of_ble_eq_true rfl⟩) (fun sz => RO.dw (c_X3_note_0 l g σ a hW k hg.2 k rfl w (by omega) w rfl c hb1.2 c rfl) sz), (by exact ⟨rfl, rfl, Nat.le_of_ble_eq_true rfl, Nat.le_of_ble_eq_true rfl⟩), fun sz => c_X4_note_0 l g ad σ th hW hd sz k hg.2 k rfl w (by omega) w rfl c hb1.2 c rfl⟩
      · exact ⟨σ, 1, 0, _, hW, h12, by omega, trivial, fun o sz => H_note_x1 l g cL cD k w b o sz σ a 0 _ (by exact ⟨rfl, rfl, by omega, by omega, Nat.le_of_ble_eq_true rfl, Nat.le_of_ble_eq_true rfl⟩) (c_X3_note_xb l hfl g σ a hW k hg.2 k rfl w (by omega) w rfl b hb hb1), (by exact ⟨rfl, rfl, Nat.le_of_ble_eq_true rfl, Nat.le_of_ble_eq_true rfl⟩), fun sz => c_X4_note_1 l g ad σ th hW hd sz k w b hz hv hb (nIsN_b hb1)⟩
    · exact ⟨σ, 1, 0, _, hW, h12, by omega, trivial, fun o sz => H_note_x1 l g cL cD k v b o sz σ a 0 _ (by exact ⟨rfl, rfl, by omega, by omega, Nat.le_of_ble_eq_true rfl, Nat.le_of_ble_eq_true rfl⟩) (c_X3_note_xv l hfl g σ a hW k hg.2 k rfl v hv hv1 b), (by exact ⟨rfl, rfl, Nat.le_of_ble_eq_true rfl, Nat.le_of_ble_eq_true rfl⟩), fun sz => c_X4_note_1 l g ad σ th hW hd sz k v b hz hv hb (fun h => hv1 h.2.1)⟩
  · exact ⟨σ, 1, 0, _, hW, h12, by omega, trivial, fun o sz => H_note_x1 l g cL cD z v b o sz σ a 0 _ (by exact ⟨rfl, rfl, by omega, by omega, Nat.le_of_ble_eq_true rfl, Nat.le_of_ble_eq_true rfl⟩) (c_X3_note_x1 l hfl g σ a hW z v b hz hg), (by exact ⟨rfl, rfl, Nat.le_of_ble_eq_true rfl, Nat.le_of_ble_eq_true rfl⟩), fun sz => c_X4_note_1 l g ad σ th hW hd sz z v b hz hv hb (fun h => hg h.1)⟩
set_option maxRecDepth 100000 in
theorem S_best (l : Launch) (hfl : l.stackTraces = false) (g : gG) (cL cD : ClassId) (ad : Nat → Nat) (hd : Dst ad) (σ : SG) (th : Int) (a : AD) (hW : WF σ) (h12 : S12 σ) (z v b : Int) (hz : zr z) (hv : zr v) (hb : zr b) : SOK l g cL cD ad σ th a yL_best wsL_best yX4_best wsX4_best [.int (zi z), .int (zi v), .int (zi b)] (fun _ => True) := by
  have hn := hW.n
  have hcn := hW.cn
  by_cases hg : 0 ≤ z ∧ z < σ 0 0
  · obtain ⟨k, rfl⟩ : ∃ k : Nat, z = (k : Int) := ⟨z.toNat, by omega⟩
    by_cases hv1 : 0 ≤ v ∧ v ≤ 1
    · obtain ⟨w, rfl⟩ : ∃ w : Nat, v = (w : Int) := ⟨v.toNat, by omega⟩
      by_cases hb1 : 0 ≤ b ∧ b < σ 1 k
      · obtain ⟨c, rfl⟩ : ∃ c : Nat, b = (c : Int) := ⟨b.toNat, by omega⟩
        exact ⟨σ, 0, ((bst (cst σ k w c) 40 : Nat) : Int), _, hW, h12, by omega, trivial, fun o sz => H_best_0 l g cL cD k w c o sz σ a σ (((bst (cst σ k w c) 40 : Nat) : Int)) _ 0 0 (by exact ⟨rfl, rfl, by omega, by omega, Nat.le_of_ble_eq_true rfl, Nat.le_of_ble_eq_true rfl⟩) (fun sz => c_X3_best_0 l g σ a hW k hg.2 k rfl w (by omega) w rfl c hb1.2 c rfl sz), (by exact ⟨rfl, rfl, Nat.le_of_ble_eq_true rfl, Nat.le_of_ble_eq_true rfl⟩), fun sz => c_X4_best_0 l g ad σ th hW hd sz k hg.2 k rfl w (by omega) w rfl c hb1.2 c rfl⟩
      · exact ⟨σ, 1, 0, _, hW, h12, by omega, trivial, fun o sz => H_best_x1 l g cL cD k w b o sz σ a 0 _ (by exact ⟨rfl, rfl, by omega, by omega, Nat.le_of_ble_eq_true rfl, Nat.le_of_ble_eq_true rfl⟩) (c_X3_best_xb l hfl g σ a hW k hg.2 k rfl w (by omega) w rfl b hb hb1), (by exact ⟨rfl, rfl, Nat.le_of_ble_eq_true rfl, Nat.le_of_ble_eq_true rfl⟩), fun sz => c_X4_best_1 l g ad σ th hW hd sz k w b hz hv hb (nIsN_b hb1)⟩
    · exact ⟨σ, 1, 0, _, hW, h12, by omega, trivial, fun o sz => H_best_x1 l g cL cD k v b o sz σ a 0 _ (by exact ⟨rfl, rfl, by omega, by omega, Nat.le_of_ble_eq_true rfl, Nat.le_of_ble_eq_true rfl⟩) (c_X3_best_xv l hfl g σ a hW k hg.2 k rfl v hv hv1 b), (by exact ⟨rfl, rfl, Nat.le_of_ble_eq_true rfl, Nat.le_of_ble_eq_true rfl⟩), fun sz => c_X4_best_1 l g ad σ th hW hd sz k v b hz hv hb (fun h => hv1 h.2.1)⟩
  · exact ⟨σ, 1, 0, _, hW, h12, by omega, trivial, fun o sz => H_best_x1 l g cL cD z v b o sz σ a 0 _ (by exact ⟨rfl, rfl, by omega, by omega, Nat.le_of_ble_eq_true rfl, Nat.le_of_ble_eq_true rfl⟩) (c_X3_best_x1 l hfl g σ a hW z v b hz hg), (by exact ⟨rfl, rfl, Nat.le_of_ble_eq_true rfl, Nat.le_of_ble_eq_true rfl⟩), fun sz => c_X4_best_1 l g ad σ th hW hd sz z v b hz hv hb (fun h => hg h.1)⟩
set_option maxRecDepth 100000 in
theorem S_setNote (l : Launch) (hfl : l.stackTraces = false) (g : gG) (cL cD : ClassId) (ad : Nat → Nat) (hd : Dst ad) (σ : SG) (th : Int) (a : AD) (hW : WF σ) (h12 : S12 σ) (z v b t : Int) (hz : zr z) (hv : zr v) (hb : zr b) (ht : zr t) : SOK l g cL cD ad σ th a yL_setNote wsL_setNote yX4_setNote wsX4_setNote [.int (zi z), .int (zi v), .int (zi b), .int (zi t)] (fun _ => True) := by
  have hn := hW.n
  have hcn := hW.cn
  by_cases hg : 0 ≤ z ∧ z < σ 0 0
  · obtain ⟨k, rfl⟩ : ∃ k : Nat, z = (k : Int) := ⟨z.toNat, by omega⟩
    by_cases hv1 : 0 ≤ v ∧ v ≤ 1
    · obtain ⟨w, rfl⟩ : ∃ w : Nat, v = (w : Int) := ⟨v.toNat, by omega⟩
      by_cases hb1 : 0 ≤ b ∧ b < σ 1 k
      · obtain ⟨c, rfl⟩ : ∃ c : Nat, b = (c : Int) := ⟨b.toNat, by omega⟩
        by_cases ht1 : 0 ≤ t ∧ t ≤ 40
        · by_cases hf : σ 3 k = 1
          · exact ⟨σ, 3, 0, _, hW, h12, by omega, trivial, fun o sz => H_setNote_x3 l g cL cD k w c t o sz σ a 0 _ (by exact ⟨rfl, rfl, by omega, by omega, Nat.le_of_ble_eq_true rfl, Nat.le_of_ble_eq_true rfl⟩) (c_X3_setNote_3 l hfl g σ a hW k hg.2 k rfl w (by omega) w rfl c hb1.2 c rfl t ht1 hf), (by exact ⟨rfl, rfl, Nat.le_of_ble_eq_true rfl, Nat.le_of_ble_eq_true rfl⟩), fun sz => c_X4_setNote_3 l g ad σ th hW hd sz k w c t hz hv hb ht (IsN_mk hg.2 (by omega) hb1.2) ht1 (by rw [Int.toNat_natCast]; exact hf)⟩
          · have hf0 : σ 3 k = 0 := by have := (hW.flag k).1; omega
            exact ⟨(opN σ k w c t), 0, (NV σ k w c), _, wf_opN hW k w c ht1, h12.same rfl rfl, by omega, trivial, fun o sz => H_setNote_0 l g cL cD k w c t o sz σ a (opN σ k w c t) ((NV σ k w c)) _ 0 0 (by exact ⟨rfl, rfl, by omega, by omega, Nat.le_of_ble_eq_true rfl, Nat.le_of_ble_eq_true rfl⟩) (fun sz => c_X3_setNote_0 l g σ a hW k hg.2 k rfl w (by omega) w rfl c hb1.2 c rfl t ht1 hf0 sz), (by exact ⟨rfl, rfl, Nat.le_of_ble_eq_true rfl, Nat.le_of_ble_eq_true rfl⟩), fun sz => c_X4_setNote_0 l g ad σ th hW hd sz k hg.2 k rfl w (by omega) w rfl c hb1.2 c rfl t ht1 hf0⟩
        · exact ⟨σ, 2, 0, _, hW, h12, by omega, trivial, fun o sz => H_setNote_x2 l g cL cD k w c t o sz σ a 0 _ (by exact ⟨rfl, rfl, by omega, by omega, Nat.le_of_ble_eq_true rfl, Nat.le_of_ble_eq_true rfl⟩) (c_X3_setNote_2 l hfl g σ a hW k hg.2 k rfl w (by omega) w rfl c hb1.2 c rfl t ht ht1), (by exact ⟨rfl, rfl, Nat.le_of_ble_eq_true rfl, Nat.le_of_ble_eq_true rfl⟩), fun sz => c_X4_setNote_2 l g ad σ th hW hd sz k w c t hz hv hb ht (IsN_mk hg.2 (by omega) hb1.2) ht1⟩
      · exact ⟨σ, 1, 0, _, hW, h12, by omega, trivial, fun o sz => H_setNote_x1 l g cL cD k w b t o sz σ a 0 _ (by exact ⟨rfl, rfl, by omega, by omega, Nat.le_of_ble_eq_true rfl, Nat.le_of_ble_eq_true rfl⟩) (c_X3_setNote_xb l hfl g σ a hW k hg.2 k rfl w (by omega) w rfl b hb hb1 t), (by exact ⟨rfl, rfl, Nat.le_of_ble_eq_true rfl, Nat.le_of_ble_eq_true rfl⟩), fun sz => c_X4_setNote_1 l g ad σ th hW hd sz k w b t hz hv hb ht (nIsN_b hb1)⟩
    · exact ⟨σ, 1, 0, _, hW, h12, by omega, trivial, fun o sz => H_setNote_x1 l g cL cD k v b t o sz σ a 0 _ (by exact ⟨rfl, rfl, by omega, by omega, Nat.le_of_ble_eq_true rfl, Nat.le_of_ble_eq_true rfl⟩) (c_X3_setNote_xv l hfl g σ a hW k hg.2 k rfl v hv hv1 b t), (by exact ⟨rfl, rfl, Nat.le_of_ble_eq_true rfl, Nat.le_of_ble_eq_true rfl⟩), fun sz => c_X4_setNote_1 l g ad σ th hW hd sz k v b t hz hv hb ht (fun h => hv1 h.2.1)⟩
  · exact ⟨σ, 1, 0, _, hW, h12, by omega, trivial, fun o sz => H_setNote_x1 l g cL cD z v b t o sz σ a 0 _ (by exact ⟨rfl, rfl, by omega, by omega, Nat.le_of_ble_eq_true rfl, Nat.le_of_ble_eq_true rfl⟩) (c_X3_setNote_x1 l hfl g σ a hW z v b t hz hg), (by exact ⟨rfl, rfl, Nat.le_of_ble_eq_true rfl, Nat.le_of_ble_eq_true rfl⟩), fun sz => c_X4_setNote_1 l g ad σ th hW hd sz z v b t hz hv hb ht (fun h => hg h.1)⟩
set_option maxRecDepth 100000 in
theorem S_faults (l : Launch) (hfl : l.stackTraces = false) (g : gG) (cL cD : ClassId) (ad : Nat → Nat) (hd : Dst ad) (σ : SG) (th : Int) (a : AD) (hW : WF σ) (h12 : S12 σ) (z b r : Int) (hz : zr z) (hb : zr b) (hr : zr r) : SOK l g cL cD ad σ th a yL_faults wsL_faults yX4_faults wsX4_faults [.int (zi z), .int (zi b), .int (zi r)] (fun _ => True) := by
  have hn := hW.n
  have hcn := hW.cn
  by_cases hg : 0 ≤ z ∧ z < σ 0 0
  · obtain ⟨k, rfl⟩ : ∃ k : Nat, z = (k : Int) := ⟨z.toNat, by omega⟩
    by_cases hb1 : 0 ≤ b ∧ b < σ 1 k
    · obtain ⟨c, rfl⟩ : ∃ c : Nat, b = (c : Int) := ⟨b.toNat, by omega⟩
      by_cases hr1 : 0 ≤ r ∧ r ≤ 5
      · obtain ⟨q, rfl⟩ : ∃ q : Nat, r = (q : Int) := ⟨r.toNat, by omega⟩
        exact ⟨σ, 0, (ft q (σ 1 k).toNat (NU σ k) (NL σ k) c), _, hW, h12, by omega, trivial, fun o sz => H_faults_0 l g cL cD k c q o sz σ a σ ((ft q (σ 1 k).toNat (NU σ k) (NL σ k) c)) _ 0 0 (by exact ⟨rfl, rfl, by omega, by omega, Nat.le_of_ble_eq_true rfl, Nat.le_of_ble_eq_true rfl⟩) (fun sz => RO.dw (c_X3_faults_0 l g σ a hW k hg.2 k rfl c hb1.2 c rfl q (by omega) q rfl) sz), (by exact ⟨rfl, rfl, Nat.le_of_ble_eq_true rfl, Nat.le_of_ble_eq_true rfl⟩), fun sz => c_X4_faults_0 l g ad σ th hW hd sz k hg.2 k rfl c hb1.2 c rfl q (by omega) q rfl⟩
      · exact ⟨σ, 1, 0, _, hW, h12, by omega, trivial, fun o sz => H_faults_x1 l g cL cD k c r o sz σ a 0 _ (by exact ⟨rfl, rfl, by omega, by omega, Nat.le_of_ble_eq_true rfl, Nat.le_of_ble_eq_true rfl⟩) (c_X3_faults_xr l hfl g σ a hW k hg.2 k rfl c hb1.2 c rfl r hr hr1), (by exact ⟨rfl, rfl, Nat.le_of_ble_eq_true rfl, Nat.le_of_ble_eq_true rfl⟩), fun sz => c_X4_faults_1 l g ad σ th hW hd sz k c r hz hb hr (fun h => hr1 h.2)⟩
    · exact ⟨σ, 1, 0, _, hW, h12, by omega, trivial, fun o sz => H_faults_x1 l g cL cD k b r o sz σ a 0 _ (by exact ⟨rfl, rfl, by omega, by omega, Nat.le_of_ble_eq_true rfl, Nat.le_of_ble_eq_true rfl⟩) (c_X3_faults_xb l hfl g σ a hW k hg.2 k rfl b hb hb1 r), (by exact ⟨rfl, rfl, Nat.le_of_ble_eq_true rfl, Nat.le_of_ble_eq_true rfl⟩), fun sz => c_X4_faults_1 l g ad σ th hW hd sz k b r hz hb hr (fun h => nIsN_0 hb1 h.1)⟩
  · exact ⟨σ, 1, 0, _, hW, h12, by omega, trivial, fun o sz => H_faults_x1 l g cL cD z b r o sz σ a 0 _ (by exact ⟨rfl, rfl, by omega, by omega, Nat.le_of_ble_eq_true rfl, Nat.le_of_ble_eq_true rfl⟩) (c_X3_faults_x1 l hfl g σ a hW z b r hz hg), (by exact ⟨rfl, rfl, Nat.le_of_ble_eq_true rfl, Nat.le_of_ble_eq_true rfl⟩), fun sz => c_X4_faults_1 l g ad σ th hW hd sz z b r hz hb hr (fun h => hg h.1.1)⟩
set_option maxRecDepth 100000 in
theorem S_mark (l : Launch) (hfl : l.stackTraces = false) (g : gG) (cL cD : ClassId) (ad : Nat → Nat) (hd : Dst ad) (σ : SG) (th : Int) (a : AD) (hW : WF σ) (h12 : S12 σ) (z : Int) (hz : zr z) : SOK l g cL cD ad σ th a yL_mark wsL_mark yX4_mark wsX4_mark [.int (zi z)] (fun _ => True) := by
  have hn := hW.n
  have hcn := hW.cn
  by_cases hg : 0 ≤ z ∧ z < σ 0 0
  · obtain ⟨k, rfl⟩ : ∃ k : Nat, z = (k : Int) := ⟨z.toNat, by omega⟩
    exact ⟨σ, 0, (MK σ k), _, hW, h12, by omega, trivial, fun o sz => H_mark_0 l g cL cD k o sz σ a σ ((MK σ k)) _ 0 0 (by exact ⟨rfl, rfl, by omega, by omega, Nat.le_of_ble_eq_true rfl, Nat.le_of_ble_eq_true rfl⟩) (fun sz => RO.dw (c_X3_mark_0 l g σ a hW k hg.2 k rfl) sz), (by exact ⟨rfl, rfl, Nat.le_of_ble_eq_true rfl, Nat.le_of_ble_eq_true rfl⟩), fun sz => c_X4_mark_0 l g ad σ th hW hd sz k hg.2 k rfl⟩
  · exact ⟨σ, 1, 0, _, hW, h12, by omega, trivial, fun o sz => H_mark_x1 l g cL cD z o sz σ a 0 _ (by exact ⟨rfl, rfl, by omega, by omega, Nat.le_of_ble_eq_true rfl, Nat.le_of_ble_eq_true rfl⟩) (c_X3_mark_x1 l hfl g σ a hW z hz hg), (by exact ⟨rfl, rfl, Nat.le_of_ble_eq_true rfl, Nat.le_of_ble_eq_true rfl⟩), fun sz => c_X4_mark_1 l g ad σ th hW hd sz z hz hg⟩
set_option maxRecDepth 100000 in
theorem S_handIn (l : Launch) (hfl : l.stackTraces = false) (g : gG) (cL cD : ClassId) (ad : Nat → Nat) (hd : Dst ad) (σ : SG) (th : Int) (a : AD) (hW : WF σ) (h12 : S12 σ) (z : Int) (hz : zr z) : SOK l g cL cD ad σ th a yL_handIn wsL_handIn yX4_handIn wsX4_handIn [.int (zi z)] (fun v => v = 0 ∨ v = 1) := by
  have hn := hW.n
  have hcn := hW.cn
  by_cases hg : 0 ≤ z ∧ z < σ 0 0
  · obtain ⟨k, rfl⟩ : ∃ k : Nat, z = (k : Int) := ⟨z.toNat, by omega⟩
    exact ⟨(sup σ 4 k (pz (σ 7 0 ≤ MK σ k))), 0, (pz (σ 7 0 ≤ MK σ k)), _, hW.handIn hg.2 (pz_o _), h12.same rfl rfl, by omega, pz_o _, fun o sz => H_handIn_0 l g cL cD k o sz σ a (sup σ 4 k (pz (σ 7 0 ≤ MK σ k))) ((pz (σ 7 0 ≤ MK σ k))) (pz_o _) _ 0 0 (by exact ⟨rfl, rfl, by omega, by omega, Nat.le_of_ble_eq_true rfl, Nat.le_of_ble_eq_true rfl⟩) (fun sz => c_X3_handIn_0 l g σ a hW k hg.2 k rfl sz), (by exact ⟨rfl, rfl, Nat.le_of_ble_eq_true rfl, Nat.le_of_ble_eq_true rfl⟩), fun sz => c_X4_handIn_0 l g ad σ th hW hd sz k hg.2 k rfl⟩
  · exact ⟨σ, 1, 0, _, hW, h12, by omega, Or.inl rfl, fun o sz => H_handIn_x1 l g cL cD z o sz σ a 0 _ (by exact ⟨rfl, rfl, by omega, by omega, Nat.le_of_ble_eq_true rfl, Nat.le_of_ble_eq_true rfl⟩) (c_X3_handIn_x1 l hfl g σ a hW z hz hg), (by exact ⟨rfl, rfl, Nat.le_of_ble_eq_true rfl, Nat.le_of_ble_eq_true rfl⟩), fun sz => c_X4_handIn_1 l g ad σ th hW hd sz z hz hg⟩
set_option maxRecDepth 100000 in
theorem S_base (l : Launch) (hfl : l.stackTraces = false) (g : gG) (cL cD : ClassId) (ad : Nat → Nat) (hd : Dst ad) (σ : SG) (th : Int) (a : AD) (hW : WF σ) (h12 : S12 σ) (z y : Int) (hz : zr z) (hy : zr y) : SOK l g cL cD ad σ th a yL_base wsL_base yX4_base wsX4_base [.int (zi z), .int (zi y)] (fun _ => True) := by
  have hn := hW.n
  have hcn := hW.cn
  by_cases hg : 0 ≤ z ∧ z < σ 0 0
  · obtain ⟨i, rfl⟩ : ∃ i : Nat, z = (i : Int) := ⟨z.toNat, by omega⟩
    by_cases hg2 : 0 ≤ y ∧ y < σ 0 0
    · obtain ⟨j, rfl⟩ : ∃ j : Nat, y = (j : Int) := ⟨y.toNat, by omega⟩
      have hbr := bs_r (σ 2) i j (σ 0 0).toNat
      by_cases hbn : bs (σ 2) i j (σ 0 0).toNat < 0
      · exact ⟨σ, 0, (bs (σ 2) i j (σ 0 0).toNat), _, hW, h12, by omega, trivial, fun o sz => H_base_0 l g cL cD i j o sz σ a σ ((bs (σ 2) i j (σ 0 0).toNat)) _ 0 0 (by exact ⟨rfl, rfl, by omega, by omega, Nat.le_of_ble_eq_true rfl, Nat.le_of_ble_eq_true rfl⟩) (fun sz => RO.dw (c_X3_base_n l g σ a hW i hg.2 i rfl j hg2.2 j rfl hbn) sz), (by exact ⟨rfl, rfl, Nat.le_of_ble_eq_true rfl, Nat.le_of_ble_eq_true rfl⟩), fun sz => c_X4_base_0 l g ad σ th hW hd sz i j hz hy hg hg2⟩
      · obtain ⟨bn, hbn⟩ : ∃ bn : Nat, bs (σ 2) i j (σ 0 0).toNat = (bn : Int) := ⟨(bs (σ 2) i j (σ 0 0).toNat).toNat, by omega⟩
        exact ⟨σ, 0, (bs (σ 2) i j (σ 0 0).toNat), _, hW, h12, by omega, trivial, fun o sz => H_base_0 l g cL cD i j o sz σ a σ ((bs (σ 2) i j (σ 0 0).toNat)) _ 0 0 (by exact ⟨rfl, rfl, by omega, by omega, Nat.le_of_ble_eq_true rfl, Nat.le_of_ble_eq_true rfl⟩) (fun sz => RO.dw (c_X3_base_s l g σ a hW i hg.2 i rfl j hg2.2 j rfl bn hbn) sz), (by exact ⟨rfl, rfl, Nat.le_of_ble_eq_true rfl, Nat.le_of_ble_eq_true rfl⟩), fun sz => c_X4_base_0 l g ad σ th hW hd sz i j hz hy hg hg2⟩
    · exact ⟨σ, 1, 0, _, hW, h12, by omega, trivial, fun o sz => H_base_x1 l g cL cD i y o sz σ a 0 _ (by exact ⟨rfl, rfl, by omega, by omega, Nat.le_of_ble_eq_true rfl, Nat.le_of_ble_eq_true rfl⟩) (c_X3_base_x2 l hfl g σ a hW i hg.2 i rfl y hy hg2), (by exact ⟨rfl, rfl, Nat.le_of_ble_eq_true rfl, Nat.le_of_ble_eq_true rfl⟩), fun sz => c_X4_base_1 l g ad σ th hW hd sz i y hz hy (fun h => hg2 h.2)⟩
  · exact ⟨σ, 1, 0, _, hW, h12, by omega, trivial, fun o sz => H_base_x1 l g cL cD z y o sz σ a 0 _ (by exact ⟨rfl, rfl, by omega, by omega, Nat.le_of_ble_eq_true rfl, Nat.le_of_ble_eq_true rfl⟩) (c_X3_base_x1 l hfl g σ a hW z y hz hg), (by exact ⟨rfl, rfl, Nat.le_of_ble_eq_true rfl, Nat.le_of_ble_eq_true rfl⟩), fun sz => c_X4_base_1 l g ad σ th hW hd sz z y hz hy (fun h => hg h.1)⟩
set_option maxRecDepth 100000 in
theorem S_conflicts (l : Launch) (hfl : l.stackTraces = false) (g : gG) (cL cD : ClassId) (ad : Nat → Nat) (hd : Dst ad) (σ : SG) (th : Int) (a : AD) (hW : WF σ) (h12 : S12 σ) (z y : Int) (hz : zr z) (hy : zr y) : SOK l g cL cD ad σ th a yL_conflicts wsL_conflicts yX4_conflicts wsX4_conflicts [.int (zi z), .int (zi y)] (fun _ => True) := by
  have hn := hW.n
  have hcn := hW.cn
  by_cases hg : 0 ≤ z ∧ z < σ 0 0
  · obtain ⟨i, rfl⟩ : ∃ i : Nat, z = (i : Int) := ⟨z.toNat, by omega⟩
    by_cases hg2 : 0 ≤ y ∧ y < σ 0 0
    · obtain ⟨j, rfl⟩ : ∃ j : Nat, y = (j : Int) := ⟨y.toNat, by omega⟩
      have hbr := bs_r (σ 2) i j (σ 0 0).toNat
      by_cases hbn : bs (σ 2) i j (σ 0 0).toNat < 0
      · exact ⟨σ, 2, 0, _, hW, h12, by omega, trivial, fun o sz => H_conflicts_x2 l g cL cD i j o sz σ a 0 _ (by exact ⟨rfl, rfl, by omega, by omega, Nat.le_of_ble_eq_true rfl, Nat.le_of_ble_eq_true rfl⟩) (c_X3_conflicts_2 l hfl g σ a hW i hg.2 i rfl j hg2.2 j rfl hbn), (by exact ⟨rfl, rfl, Nat.le_of_ble_eq_true rfl, Nat.le_of_ble_eq_true rfl⟩), fun sz => c_X4_conflicts_2 l g ad σ th hW hd sz i j hz hy hg hg2 (by omega)⟩
      · obtain ⟨bn, hbn⟩ : ∃ bn : Nat, bs (σ 2) i j (σ 0 0).toNat = (bn : Int) := ⟨(bs (σ 2) i j (σ 0 0).toNat).toNat, by omega⟩
        exact ⟨σ, 0, ((sset (cfB σ i j bn) (σ 1 i).toNat).toInt), _, hW, h12, by omega, trivial, fun o sz => H_conflicts_0 l g cL cD i j o sz σ a σ (((sset (cfB σ i j bn) (σ 1 i).toNat).toInt)) _ 0 0 (by exact ⟨rfl, rfl, by omega, by omega, Nat.le_of_ble_eq_true rfl, Nat.le_of_ble_eq_true rfl⟩) (fun sz => RO.dw (c_X3_conflicts_0 l g σ a hW i hg.2 i rfl j hg2.2 j rfl bn hbn) sz), (by exact ⟨rfl, rfl, Nat.le_of_ble_eq_true rfl, Nat.le_of_ble_eq_true rfl⟩), fun sz => c_X4_conflicts_0 l g ad σ th hW hd sz i hg.2 i rfl j hg2.2 j rfl bn hbn⟩
    · exact ⟨σ, 1, 0, _, hW, h12, by omega, trivial, fun o sz => H_conflicts_x1 l g cL cD i y o sz σ a 0 _ (by exact ⟨rfl, rfl, by omega, by omega, Nat.le_of_ble_eq_true rfl, Nat.le_of_ble_eq_true rfl⟩) (c_X3_conflicts_x2 l hfl g σ a hW i hg.2 i rfl y hy hg2), (by exact ⟨rfl, rfl, Nat.le_of_ble_eq_true rfl, Nat.le_of_ble_eq_true rfl⟩), fun sz => c_X4_conflicts_1 l g ad σ th hW hd sz i y hz hy (fun h => hg2 h.2)⟩
  · exact ⟨σ, 1, 0, _, hW, h12, by omega, trivial, fun o sz => H_conflicts_x1 l g cL cD z y o sz σ a 0 _ (by exact ⟨rfl, rfl, by omega, by omega, Nat.le_of_ble_eq_true rfl, Nat.le_of_ble_eq_true rfl⟩) (c_X3_conflicts_x1 l hfl g σ a hW z y hz hg), (by exact ⟨rfl, rfl, Nat.le_of_ble_eq_true rfl, Nat.le_of_ble_eq_true rfl⟩), fun sz => c_X4_conflicts_1 l g ad σ th hW hd sz z y hz hy (fun h => hg h.1)⟩
set_option maxRecDepth 100000 in
theorem S_merge (l : Launch) (hfl : l.stackTraces = false) (g : gG) (cL cD : ClassId) (ad : Nat → Nat) (hd : Dst ad) (σ : SG) (th : Int) (a : AD) (hW : WF σ) (h12 : S12 σ) (z y : Int) (hz : zr z) (hy : zr y) : SOK l g cL cD ad σ th a yL_merge wsL_merge yX4_merge wsX4_merge [.int (zi z), .int (zi y)] (fun _ => True) := by
  have hn := hW.n
  have hcn := hW.cn
  by_cases hg : 0 ≤ z ∧ z < σ 0 0
  · obtain ⟨i, rfl⟩ : ∃ i : Nat, z = (i : Int) := ⟨z.toNat, by omega⟩
    by_cases hg2 : 0 ≤ y ∧ y < σ 0 0
    · obtain ⟨j, rfl⟩ : ∃ j : Nat, y = (j : Int) := ⟨y.toNat, by omega⟩
      have hbr := bs_r (σ 2) i j (σ 0 0).toNat
      by_cases hne : i = j
      · subst hne
        exact ⟨σ, 2, 0, _, hW, h12, by omega, trivial, fun o sz => H_merge_x2 l g cL cD i i o sz σ a 0 _ (by exact ⟨rfl, rfl, by omega, by omega, Nat.le_of_ble_eq_true rfl, Nat.le_of_ble_eq_true rfl⟩) (c_X3_merge_2 l hfl g σ a hW i hg.2 i rfl i rfl), (by exact ⟨rfl, rfl, Nat.le_of_ble_eq_true rfl, Nat.le_of_ble_eq_true rfl⟩), fun sz => c_X4_merge_2 l g ad σ th hW hd sz i i hz hy hg hg2 rfl⟩
      · by_cases hbn : bs (σ 2) i j (σ 0 0).toNat < 0
        · exact ⟨σ, 3, 0, _, hW, h12, by omega, trivial, fun o sz => H_merge_x3 l g cL cD i j o sz σ a 0 _ (by exact ⟨rfl, rfl, by omega, by omega, Nat.le_of_ble_eq_true rfl, Nat.le_of_ble_eq_true rfl⟩) (c_X3_merge_3n l hfl g σ a hW i hg.2 i rfl j hg2.2 j rfl hne hbn), (by exact ⟨rfl, rfl, Nat.le_of_ble_eq_true rfl, Nat.le_of_ble_eq_true rfl⟩), fun sz => c_X4_merge_3 l g ad σ th hW hd sz i j hz hy hg hg2 (by omega) (Or.inl (by omega))⟩
        · obtain ⟨bn, hbn⟩ : ∃ bn : Nat, bs (σ 2) i j (σ 0 0).toNat = (bn : Int) := ⟨(bs (σ 2) i j (σ 0 0).toNat).toNat, by omega⟩
          by_cases hf : σ 0 0 = 30
          · exact ⟨σ, 3, 0, _, hW, h12, by omega, trivial, fun o sz => H_merge_x3 l g cL cD i j o sz σ a 0 _ (by exact ⟨rfl, rfl, by omega, by omega, Nat.le_of_ble_eq_true rfl, Nat.le_of_ble_eq_true rfl⟩) (c_X3_merge_3f l hfl g σ a hW i hg.2 i rfl j hg2.2 j rfl bn hbn hne hf), (by exact ⟨rfl, rfl, Nat.le_of_ble_eq_true rfl, Nat.le_of_ble_eq_true rfl⟩), fun sz => c_X4_merge_3 l g ad σ th hW hd sz i j hz hy hg hg2 (by omega) (Or.inr hf)⟩
          · obtain ⟨N, hN⟩ : ∃ N : Nat, σ 0 0 = (N : Int) := ⟨(σ 0 0).toNat, by omega⟩
            exact ⟨(opM σ N i j bn), 0, (N : Int), _, wf_opM hW hN (by omega) (by omega) (by omega), s12_opM h12, by omega, trivial, fun o sz => H_merge_0 l g cL cD i j o sz σ a (opM σ N i j bn) ((N : Int)) _ 4 32 (by exact ⟨rfl, rfl, by omega, by omega, Nat.le_of_ble_eq_true rfl, Nat.le_of_ble_eq_true rfl⟩) (fun sz => c_X3_merge_0 l g σ a hW i hg.2 i rfl j hg2.2 j rfl hne bn hbn N hN (by omega) sz), (by exact ⟨rfl, rfl, Nat.le_of_ble_eq_true rfl, Nat.le_of_ble_eq_true rfl⟩), fun sz => c_X4_merge_0 l g ad σ th hW hd sz i hg.2 i rfl j hg2.2 j rfl bn hbn hne N hN (by omega)⟩
    · exact ⟨σ, 1, 0, _, hW, h12, by omega, trivial, fun o sz => H_merge_x1 l g cL cD i y o sz σ a 0 _ (by exact ⟨rfl, rfl, by omega, by omega, Nat.le_of_ble_eq_true rfl, Nat.le_of_ble_eq_true rfl⟩) (c_X3_merge_x2 l hfl g σ a hW i hg.2 i rfl y hy hg2), (by exact ⟨rfl, rfl, Nat.le_of_ble_eq_true rfl, Nat.le_of_ble_eq_true rfl⟩), fun sz => c_X4_merge_1 l g ad σ th hW hd sz i y hz hy (fun h => hg2 h.2)⟩
  · exact ⟨σ, 1, 0, _, hW, h12, by omega, trivial, fun o sz => H_merge_x1 l g cL cD z y o sz σ a 0 _ (by exact ⟨rfl, rfl, by omega, by omega, Nat.le_of_ble_eq_true rfl, Nat.le_of_ble_eq_true rfl⟩) (c_X3_merge_x1 l hfl g σ a hW z y hz hg), (by exact ⟨rfl, rfl, Nat.le_of_ble_eq_true rfl, Nat.le_of_ble_eq_true rfl⟩), fun sz => c_X4_merge_1 l g ad σ th hW hd sz z y hz hy (fun h => hg h.1)⟩
set_option maxRecDepth 100000 in
theorem S_setWeight (l : Launch) (hfl : l.stackTraces = false) (g : gG) (cL cD : ClassId) (ad : Nat → Nat) (hd : Dst ad) (σ : SG) (th : Int) (a : AD) (hW : WF σ) (h12 : S12 σ) (r t : Int) (hr : zr r) (ht : zr t) : SOK l g cL cD ad σ th a yL_setWeight wsL_setWeight yX4_setWeight wsX4_setWeight [.int (zi r), .int (zi t)] (fun _ => True) := by
  have hn := hW.n
  have hcn := hW.cn
  by_cases hg : 0 ≤ r ∧ r ≤ 5
  · by_cases hg2 : 0 ≤ t ∧ t ≤ 50
    · obtain ⟨q, rfl⟩ : ∃ q : Nat, r = (q : Int) := ⟨r.toNat, by omega⟩
      exact ⟨(sup σ 6 q t), 0, (σ 6 q), _, hW.setW q hg2, h12.same rfl rfl, by omega, trivial, fun o sz => H_setWeight_0 l g cL cD q t o sz σ a (sup σ 6 q t) ((σ 6 q)) _ 0 0 (by exact ⟨rfl, rfl, by omega, by omega, Nat.le_of_ble_eq_true rfl, Nat.le_of_ble_eq_true rfl⟩) (fun sz => c_X3_setWeight_0 l g σ a hW q (by omega) q rfl t hg2 sz), (by exact ⟨rfl, rfl, Nat.le_of_ble_eq_true rfl, Nat.le_of_ble_eq_true rfl⟩), fun sz => c_X4_setWeight_0 l g ad σ th hW hd sz q (by omega) q rfl t hg2⟩
    · exact ⟨σ, 2, 0, _, hW, h12, by omega, trivial, fun o sz => H_setWeight_x2 l g cL cD r t o sz σ a 0 _ (by exact ⟨rfl, rfl, by omega, by omega, Nat.le_of_ble_eq_true rfl, Nat.le_of_ble_eq_true rfl⟩) (c_X3_setWeight_2 l hfl g σ a hW r t hg ht hg2), (by exact ⟨rfl, rfl, Nat.le_of_ble_eq_true rfl, Nat.le_of_ble_eq_true rfl⟩), fun sz => c_X4_setWeight_2 l g ad σ th hW hd sz r t hr ht hg hg2⟩
  · exact ⟨σ, 1, 0, _, hW, h12, by omega, trivial, fun o sz => H_setWeight_x1 l g cL cD r t o sz σ a 0 _ (by exact ⟨rfl, rfl, by omega, by omega, Nat.le_of_ble_eq_true rfl, Nat.le_of_ble_eq_true rfl⟩) (c_X3_setWeight_1 l hfl g σ a hW r t hr ht hg), (by exact ⟨rfl, rfl, Nat.le_of_ble_eq_true rfl, Nat.le_of_ble_eq_true rfl⟩), fun sz => c_X4_setWeight_1 l g ad σ th hW hd sz r t hr ht hg⟩
set_option maxRecDepth 100000 in
theorem S_setPass (l : Launch) (hfl : l.stackTraces = false) (g : gG) (cL cD : ClassId) (ad : Nat → Nat) (hd : Dst ad) (σ : SG) (th : Int) (a : AD) (hW : WF σ) (h12 : S12 σ) (t : Int) (ht : zr t) : SOK l g cL cD ad σ th a yL_setPass wsL_setPass yX4_setPass wsX4_setPass [.int (zi t)] (fun _ => True) := by
  have hn := hW.n
  have hcn := hW.cn
  by_cases hg : 0 ≤ t ∧ t ≤ 100
  · exact ⟨(sup σ 7 0 t), 0, (σ 7 0), _, hW.setPass hg, h12.same rfl rfl, by omega, trivial, fun o sz => H_setPass_0 l g cL cD t o sz σ a (sup σ 7 0 t) ((σ 7 0)) _ 0 0 (by exact ⟨rfl, rfl, by omega, by omega, Nat.le_of_ble_eq_true rfl, Nat.le_of_ble_eq_true rfl⟩) (fun sz => c_X3_setPass_0 l g σ a hW t hg sz), (by exact ⟨rfl, rfl, Nat.le_of_ble_eq_true rfl, Nat.le_of_ble_eq_true rfl⟩), fun sz => c_X4_setPass_0 l g ad σ th hW hd sz t hg⟩
  · exact ⟨σ, 1, 0, _, hW, h12, by omega, trivial, fun o sz => H_setPass_x1 l g cL cD t o sz σ a 0 _ (by exact ⟨rfl, rfl, by omega, by omega, Nat.le_of_ble_eq_true rfl, Nat.le_of_ble_eq_true rfl⟩) (c_X3_setPass_1 l hfl g σ a t ht hg), (by exact ⟨rfl, rfl, Nat.le_of_ble_eq_true rfl, Nat.le_of_ble_eq_true rfl⟩), fun sz => c_X4_setPass_1 l g ad σ th hW hd sz t ht hg⟩
set_option maxRecDepth 100000 in
theorem S_print (l : Launch) (hfl : l.stackTraces = false) (g : gG) (cL cD : ClassId) (ad : Nat → Nat) (hd : Dst ad) (σ : SG) (th : Int) (a : AD) (hW : WF σ) (h12 : S12 σ) (z v : Int) (hz : zr z) (hv : zr v) : SOK l g cL cD ad σ th a yL_print wsL_print yX4_print wsX4_print [.int (zi z), .int (zi v)] (fun _ => True) := by
  have hn := hW.n
  have hcn := hW.cn
  by_cases hg : 0 ≤ z ∧ z < σ 0 0
  · obtain ⟨k, rfl⟩ : ∃ k : Nat, z = (k : Int) := ⟨z.toNat, by omega⟩
    by_cases hv1 : 0 ≤ v ∧ v ≤ 1
    · obtain ⟨w, rfl⟩ : ∃ w : Nat, v = (w : Int) := ⟨v.toNat, by omega⟩
      by_cases hf : σ 8 0 = 20
      · exact ⟨σ, 2, 0, _, hW, h12, by omega, trivial, fun o sz => H_print_x2 l g cL cD k w o sz σ a 0 _ (by exact ⟨rfl, rfl, by omega, by omega, Nat.le_of_ble_eq_true rfl, Nat.le_of_ble_eq_true rfl⟩) (c_X3_print_2 l hfl g σ a hW k hg.2 k rfl w (by omega) w rfl hf), (by exact ⟨rfl, rfl, Nat.le_of_ble_eq_true rfl, Nat.le_of_ble_eq_true rfl⟩), fun sz => c_X4_print_2 l g ad σ th hW hd sz k w hz hv (IsN_mk (b := 0) hg.2 (by omega) (by have := hW.bars hg.2; show (0 : Int) < σ 1 k; omega)) hf⟩
      · obtain ⟨C, hC⟩ : ∃ C : Nat, σ 8 0 = (C : Int) := ⟨(σ 8 0).toNat, by omega⟩
        exact ⟨(opP σ k w C), 0, (C : Int), _, wf_opP hW hg.2 (by omega) hC (by omega), s12_opP h12 hC, by omega, trivial, fun o sz => H_print_0 l g cL cD k w o sz σ a (opP σ k w C) ((C : Int)) _ 2 16 (by exact ⟨rfl, rfl, by omega, by omega, Nat.le_of_ble_eq_true rfl, Nat.le_of_ble_eq_true rfl⟩) (fun sz => c_X3_print_0 l g σ a hW k hg.2 k rfl w (by omega) w rfl C hC (by omega) (h12 C (by omega)) sz), (by exact ⟨rfl, rfl, Nat.le_of_ble_eq_true rfl, Nat.le_of_ble_eq_true rfl⟩), fun sz => c_X4_print_0 l g ad σ th hW hd sz k hg.2 k rfl w (by omega) w rfl C hC (by omega)⟩
    · exact ⟨σ, 1, 0, _, hW, h12, by omega, trivial, fun o sz => H_print_x1 l g cL cD k v o sz σ a 0 _ (by exact ⟨rfl, rfl, by omega, by omega, Nat.le_of_ble_eq_true rfl, Nat.le_of_ble_eq_true rfl⟩) (c_X3_print_xv l hfl g σ a hW k hg.2 k rfl v hv hv1), (by exact ⟨rfl, rfl, Nat.le_of_ble_eq_true rfl, Nat.le_of_ble_eq_true rfl⟩), fun sz => c_X4_print_1 l g ad σ th hW hd sz k v hz hv (fun h => hv1 h.2.1)⟩
  · exact ⟨σ, 1, 0, _, hW, h12, by omega, trivial, fun o sz => H_print_x1 l g cL cD z v o sz σ a 0 _ (by exact ⟨rfl, rfl, by omega, by omega, Nat.le_of_ble_eq_true rfl, Nat.le_of_ble_eq_true rfl⟩) (c_X3_print_x1 l hfl g σ a hW z v hz hg), (by exact ⟨rfl, rfl, Nat.le_of_ble_eq_true rfl, Nat.le_of_ble_eq_true rfl⟩), fun sz => c_X4_print_1 l g ad σ th hW hd sz z v hz hv (fun h => hg h.1)⟩
set_option maxRecDepth 100000 in
theorem S_errata (l : Launch) (hfl : l.stackTraces = false) (g : gG) (cL cD : ClassId) (ad : Nat → Nat) (hd : Dst ad) (σ : SG) (th : Int) (a : AD) (hW : WF σ) (h12 : S12 σ) (z y : Int) (hz : zr z) (hy : zr y) : SOK l g cL cD ad σ th a yL_errata wsL_errata yX4_errata wsX4_errata [.int (zi z), .int (zi y)] (fun _ => True) := by
  have hn := hW.n
  have hcn := hW.cn
  by_cases hg : 0 ≤ z ∧ z < σ 8 0
  · obtain ⟨c, rfl⟩ : ∃ c : Nat, z = (c : Int) := ⟨z.toNat, by omega⟩
    by_cases hg2 : 0 ≤ y ∧ y < σ 0 0
    · obtain ⟨k, rfl⟩ : ∃ k : Nat, y = (k : Int) := ⟨y.toNat, by omega⟩
      by_cases hln : σ 1 k = σ 9 c
      · exact ⟨σ, 0, ((sset (dfB σ c k) (σ 1 k).toNat).toInt), _, hW, h12, by omega, trivial, fun o sz => H_errata_0 l g cL cD c k o sz σ a σ (((sset (dfB σ c k) (σ 1 k).toNat).toInt)) _ 0 0 (by exact ⟨rfl, rfl, by omega, by omega, Nat.le_of_ble_eq_true rfl, Nat.le_of_ble_eq_true rfl⟩) (fun sz => RO.dw (c_X3_errata_0 l g σ a hW c hg.2 c rfl k hg2.2 k rfl hln) sz), (by exact ⟨rfl, rfl, Nat.le_of_ble_eq_true rfl, Nat.le_of_ble_eq_true rfl⟩), fun sz => c_X4_errata_0 l g ad σ th hW hd sz c hg.2 c rfl k hg2.2 k rfl hln⟩
      · exact ⟨σ, 2, 0, _, hW, h12, by omega, trivial, fun o sz => H_errata_x2 l g cL cD c k o sz σ a 0 _ (by exact ⟨rfl, rfl, by omega, by omega, Nat.le_of_ble_eq_true rfl, Nat.le_of_ble_eq_true rfl⟩) (c_X3_errata_x3 l hfl g σ a hW c hg.2 c rfl k hg2.2 k rfl hln), (by exact ⟨rfl, rfl, Nat.le_of_ble_eq_true rfl, Nat.le_of_ble_eq_true rfl⟩), fun sz => c_X4_errata_2 l g ad σ th hW hd sz c k hz hy ⟨hg, hg2⟩ (by rw [Int.toNat_natCast, Int.toNat_natCast]; exact hln)⟩
    · exact ⟨σ, 1, 0, _, hW, h12, by omega, trivial, fun o sz => H_errata_x1 l g cL cD c y o sz σ a 0 _ (by exact ⟨rfl, rfl, by omega, by omega, Nat.le_of_ble_eq_true rfl, Nat.le_of_ble_eq_true rfl⟩) (c_X3_errata_x2 l hfl g σ a hW c hg.2 c rfl y hy hg2), (by exact ⟨rfl, rfl, Nat.le_of_ble_eq_true rfl, Nat.le_of_ble_eq_true rfl⟩), fun sz => c_X4_errata_1 l g ad σ th hW hd sz c y hz hy (fun h => hg2 h.2)⟩
  · exact ⟨σ, 1, 0, _, hW, h12, by omega, trivial, fun o sz => H_errata_x1 l g cL cD z y o sz σ a 0 _ (by exact ⟨rfl, rfl, by omega, by omega, Nat.le_of_ble_eq_true rfl, Nat.le_of_ble_eq_true rfl⟩) (c_X3_errata_x1 l hfl g σ a hW z y hz hg), (by exact ⟨rfl, rfl, Nat.le_of_ble_eq_true rfl, Nat.le_of_ble_eq_true rfl⟩), fun sz => c_X4_errata_1 l g ad σ th hW hd sz z y hz hy (fun h => hg h.1)⟩
set_option maxRecDepth 100000 in
theorem S_slip (l : Launch) (hfl : l.stackTraces = false) (g : gG) (cL cD : ClassId) (ad : Nat → Nat) (hd : Dst ad) (σ : SG) (th : Int) (a : AD) (hW : WF σ) (h12 : S12 σ) (z y : Int) (hz : zr z) (hy : zr y) : SOK l g cL cD ad σ th a yL_slip wsL_slip yX4_slip wsX4_slip [.int (zi z), .int (zi y)] (fun _ => True) := by
  have hn := hW.n
  have hcn := hW.cn
  by_cases hg : 0 ≤ z ∧ z < σ 8 0
  · obtain ⟨c, rfl⟩ : ∃ c : Nat, z = (c : Int) := ⟨z.toNat, by omega⟩
    by_cases hg2 : 0 ≤ y ∧ y < σ 0 0
    · obtain ⟨k, rfl⟩ : ∃ k : Nat, y = (k : Int) := ⟨y.toNat, by omega⟩
      by_cases hln : σ 1 k = σ 9 c
      · exact ⟨(opS σ c k), 0, (cnt (dfB σ c k) (σ 1 k).toNat), _, wf_opS hW c k, s12_opS h12 hg.2, by omega, trivial, fun o sz => H_slip_0 l g cL cD c k o sz σ a (opS σ c k) ((cnt (dfB σ c k) (σ 1 k).toNat)) _ 0 0 (by exact ⟨rfl, rfl, by omega, by omega, Nat.le_of_ble_eq_true rfl, Nat.le_of_ble_eq_true rfl⟩) (fun sz => c_X3_slip_0 l g σ a hW c hg.2 c rfl k hg2.2 k rfl hln sz), (by exact ⟨rfl, rfl, Nat.le_of_ble_eq_true rfl, Nat.le_of_ble_eq_true rfl⟩), fun sz => c_X4_slip_0 l g ad σ th hW hd sz c hg.2 c rfl k hg2.2 k rfl hln⟩
      · exact ⟨σ, 2, 0, _, hW, h12, by omega, trivial, fun o sz => H_slip_x2 l g cL cD c k o sz σ a 0 _ (by exact ⟨rfl, rfl, by omega, by omega, Nat.le_of_ble_eq_true rfl, Nat.le_of_ble_eq_true rfl⟩) (c_X3_slip_x3 l hfl g σ a hW c hg.2 c rfl k hg2.2 k rfl hln), (by exact ⟨rfl, rfl, Nat.le_of_ble_eq_true rfl, Nat.le_of_ble_eq_true rfl⟩), fun sz => c_X4_slip_2 l g ad σ th hW hd sz c k hz hy ⟨hg, hg2⟩ (by rw [Int.toNat_natCast, Int.toNat_natCast]; exact hln)⟩
    · exact ⟨σ, 1, 0, _, hW, h12, by omega, trivial, fun o sz => H_slip_x1 l g cL cD c y o sz σ a 0 _ (by exact ⟨rfl, rfl, by omega, by omega, Nat.le_of_ble_eq_true rfl, Nat.le_of_ble_eq_true rfl⟩) (c_X3_slip_x2 l hfl g σ a hW c hg.2 c rfl y hy hg2), (by exact ⟨rfl, rfl, Nat.le_of_ble_eq_true rfl, Nat.le_of_ble_eq_true rfl⟩), fun sz => c_X4_slip_1 l g ad σ th hW hd sz c y hz hy (fun h => hg2 h.2)⟩
  · exact ⟨σ, 1, 0, _, hW, h12, by omega, trivial, fun o sz => H_slip_x1 l g cL cD z y o sz σ a 0 _ (by exact ⟨rfl, rfl, by omega, by omega, Nat.le_of_ble_eq_true rfl, Nat.le_of_ble_eq_true rfl⟩) (c_X3_slip_x1 l hfl g σ a hW z y hz hg), (by exact ⟨rfl, rfl, Nat.le_of_ble_eq_true rfl, Nat.le_of_ble_eq_true rfl⟩), fun sz => c_X4_slip_1 l g ad σ th hW hd sz z y hz hy (fun h => hg h.1)⟩
set_option maxRecDepth 100000 in
theorem S_slips (l : Launch) (hfl : l.stackTraces = false) (g : gG) (cL cD : ClassId) (ad : Nat → Nat) (hd : Dst ad) (σ : SG) (th : Int) (a : AD) (hW : WF σ) (h12 : S12 σ) (z : Int) (hz : zr z) : SOK l g cL cD ad σ th a yL_slips wsL_slips yX4_slips wsX4_slips [.int (zi z)] (fun _ => True) := by
  have hn := hW.n
  have hcn := hW.cn
  by_cases hg : 0 ≤ z ∧ z < σ 8 0
  · obtain ⟨c, rfl⟩ : ∃ c : Nat, z = (c : Int) := ⟨z.toNat, by omega⟩
    exact ⟨σ, 0, (σ 12 c), _, hW, h12, by omega, trivial, fun o sz => H_slips_0 l g cL cD c o sz σ a σ ((σ 12 c)) _ 0 0 (by exact ⟨rfl, rfl, by omega, by omega, Nat.le_of_ble_eq_true rfl, Nat.le_of_ble_eq_true rfl⟩) (fun sz => RO.dw (c_X3_slips_0 l g σ a hW c hg.2 c rfl) sz), (by exact ⟨rfl, rfl, Nat.le_of_ble_eq_true rfl, Nat.le_of_ble_eq_true rfl⟩), fun sz => c_X4_slips_0 l g ad σ th hW hd sz c hg.2 c rfl⟩
  · exact ⟨σ, 1, 0, _, hW, h12, by omega, trivial, fun o sz => H_slips_x1 l g cL cD z o sz σ a 0 _ (by exact ⟨rfl, rfl, by omega, by omega, Nat.le_of_ble_eq_true rfl, Nat.le_of_ble_eq_true rfl⟩) (c_X3_slips_x1 l hfl g σ a hW z hz hg), (by exact ⟨rfl, rfl, Nat.le_of_ble_eq_true rfl, Nat.le_of_ble_eq_true rfl⟩), fun sz => c_X4_slips_1 l g ad σ th hW hd sz z hz hg⟩
set_option maxRecDepth 100000 in
theorem S_movement (l : Launch) (hfl : l.stackTraces = false) (g : gG) (cL cD : ClassId) (ad : Nat → Nat) (hd : Dst ad) (σ : SG) (th : Int) (a : AD) (hW : WF σ) (h12 : S12 σ) (z v : Int) (hz : zr z) (hv : zr v) : SOKf l g cL cD ad σ th a yL_movement wsL_movement yX4_movement wsX4_movement [.int (zi z), .int (zi v)] := by
  have hn := hW.n
  have hcn := hW.cn
  by_cases hg : 0 ≤ z ∧ z < σ 0 0
  · obtain ⟨k, rfl⟩ : ∃ k : Nat, z = (k : Int) := ⟨z.toNat, by omega⟩
    by_cases hv1 : 0 ≤ v ∧ v ≤ 1
    · obtain ⟨w, rfl⟩ : ∃ w : Nat, v = (w : Int) := ⟨v.toNat, by omega⟩
      by_cases h1 : σ 1 k = 1
      · exact ⟨σ, 0, MV σ k w, _, hW, h12, by omega, MV_ok hW hg.2 w, fun o sz => H_movement_0 l g cL cD k w o sz σ a (MV σ k w) (MV_ok hW hg.2 w) _ (by exact ⟨rfl, rfl, by omega, by omega, Nat.le_of_ble_eq_true rfl, Nat.le_of_ble_eq_true rfl⟩) (c_X3_movement_1b l g σ a hW k hg.2 k rfl w (by omega) w rfl h1), (by exact ⟨rfl, rfl, Nat.le_of_ble_eq_true rfl, Nat.le_of_ble_eq_true rfl⟩), fun sz => c_X4_movement_0 l g ad σ th hW hd sz k hg.2 k rfl w (by omega) w rfl⟩
      · exact ⟨σ, 0, MV σ k w, _, hW, h12, by omega, MV_ok hW hg.2 w, fun o sz => H_movement_0 l g cL cD k w o sz σ a (MV σ k w) (MV_ok hW hg.2 w) _ (by exact ⟨rfl, rfl, by omega, by omega, Nat.le_of_ble_eq_true rfl, Nat.le_of_ble_eq_true rfl⟩) (c_X3_movement_0 l g σ a hW k hg.2 k rfl w (by omega) w rfl h1), (by exact ⟨rfl, rfl, Nat.le_of_ble_eq_true rfl, Nat.le_of_ble_eq_true rfl⟩), fun sz => c_X4_movement_0 l g ad σ th hW hd sz k hg.2 k rfl w (by omega) w rfl⟩
    · exact ⟨σ, 1, FP.fconst0, _, hW, h12, by omega, by decide +kernel, fun o sz => H_movement_x1 l g cL cD k v o sz σ a FP.fconst0 _ (by exact ⟨rfl, rfl, by omega, by omega, Nat.le_of_ble_eq_true rfl, Nat.le_of_ble_eq_true rfl⟩) (c_X3_movement_xv l hfl g σ a hW k hg.2 k rfl v hv hv1), (by exact ⟨rfl, rfl, Nat.le_of_ble_eq_true rfl, Nat.le_of_ble_eq_true rfl⟩), fun sz => c_X4_movement_1 l g ad σ th hW hd sz k v hz hv (fun h => hv1 h.2.1)⟩
  · exact ⟨σ, 1, FP.fconst0, _, hW, h12, by omega, by decide +kernel, fun o sz => H_movement_x1 l g cL cD z v o sz σ a FP.fconst0 _ (by exact ⟨rfl, rfl, by omega, by omega, Nat.le_of_ble_eq_true rfl, Nat.le_of_ble_eq_true rfl⟩) (c_X3_movement_x1 l hfl g σ a hW z v hz hg), (by exact ⟨rfl, rfl, Nat.le_of_ble_eq_true rfl, Nat.le_of_ble_eq_true rfl⟩), fun sz => c_X4_movement_1 l g ad σ th hW hd sz z v hz hv (fun h => hg h.1)⟩
