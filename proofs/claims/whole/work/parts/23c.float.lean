/-! ===== the floats that a voice's movement can be: none is NaN ===== -/
def flq (a b : Nat) : UInt32 := FP.fdiv (FP.i2f (zi (a : Int))) (FP.i2f (zi (b : Int)))
def flok (x : UInt32) : Bool := decide (x &&& 0x7fffffff ≤ 0x7f800000) && decide (FP.f2d x &&& 0x7fffffffffffffff ≤ 0x7ff0000000000000) && decide (Op.cmpValue (FP.dcmp (FP.f2d x) (FP.f2d x)) CmpOp.l = 0)
theorem flok_all : (List.range 441).all (fun a => (List.range 11).all (fun b => flok (flq a (b + 1)))) = true := by decide +kernel
theorem flok_0 : flok FP.fconst0 = true := by decide +kernel
theorem flok_q {a b : Nat} (ha : a < 441) (hb1 : 1 ≤ b) (hb : b ≤ 11) : flok (flq a b) = true := by
  have h := List.all_eq_true.mp flok_all a (List.mem_range.mpr ha)
  have h2 := List.all_eq_true.mp h (b - 1) (List.mem_range.mpr (by omega))
  rw [show b - 1 + 1 = b by omega] at h2
  exact h2
theorem flok_n {x : UInt32} (h : flok x = true) : vf_n32 x := by
  unfold flok at h
  simp only [Bool.and_eq_true, decide_eq_true_eq] at h
  exact h.1.1
theorem flok_d {x : UInt32} (h : flok x = true) : vf_n64 (FP.f2d x) := by
  unfold flok at h
  simp only [Bool.and_eq_true, decide_eq_true_eq] at h
  exact h.1.2
theorem flok_c {x : UInt32} (h : flok x = true) : Op.cmpValue (FP.dcmp (FP.f2d x) (FP.f2d x)) CmpOp.l = 0 := by
  unfold flok at h
  simp only [Bool.and_eq_true, decide_eq_true_eq] at h
  exact h.2
theorem MV_ok {σ : SG} (hW : WF σ) {k : Nat} (hk : (k : Int) < σ 0 0) (v : Nat) : flok (MV σ k v) = true := by
  unfold MV
  split
  · exact flok_0
  · have h1 := hW.bars hk
    have h2 := wy_r (hW.v k v) (σ 1 k).toNat
    have h3 : wy (NV σ k v) (σ 1 k).toNat ≤ 440 := by
      have hb : (σ 1 k).toNat ≤ 12 := by omega
      rcases Nat.lt_or_ge 1 (σ 1 k).toNat with hc | hc
      · have e := wy_s (NV σ k v) (k := (σ 1 k).toNat - 1) (by omega)
        rw [show (σ 1 k).toNat - 1 + 1 = (σ 1 k).toNat by omega] at e
        have hlt : ∀ n : Nat, 1 ≤ n → wy (NV σ k v) n ≤ 40 * ((n : Int) - 1) := by
          intro n
          induction n with
          | zero => intro h; omega
          | succ n ih =>
            intro _
            by_cases hn : 1 ≤ n
            · rw [wy_s _ hn]
              have a1 := ih hn
              have a2 := dz_r (hW.v k v n) (hW.v k v (n - 1))
              omega
            · have : n = 0 := by omega
              subst this
              simp [wy]
        have := hlt (σ 1 k).toNat (by omega)
        omega
      · omega
    have e := flok_q (a := (wy (NV σ k v) (σ 1 k).toNat).toNat) (b := (σ 1 k).toNat - 1) (by omega) (by omega) (by omega)
    unfold flq at e
    rw [Int.toNat_of_nonneg h2.1, show (((σ 1 k).toNat - 1 : Nat) : Int) = σ 1 k - 1 by omega] at e
    exact e
