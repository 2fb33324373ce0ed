/-! ===== what holds of the state holds after every call ===== -/
theorem wf_opN {σ : SG} (h : WF σ) (k v b : Nat) {x : Int} (hx : 0 ≤ x ∧ x ≤ 40) : WF (opN σ k v b x) := h.setN hx
theorem WF.setW {σ : SG} (h : WF σ) (r : Nat) {x : Int} (hx : 0 ≤ x ∧ x ≤ 50) : WF (sup σ 6 r x) := by
  refine ⟨h.1, h.2.1, h.2.2.1, h.2.2.2.1, h.2.2.2.2.1, fun j => ?_, h.2.2.2.2.2.2⟩
  rw [sup_eq]
  unfold va_up
  split
  · exact hx
  · exact h.wt j
theorem WF.setPass {σ : SG} (h : WF σ) {x : Int} (hx : 0 ≤ x ∧ x ≤ 100) : WF (sup σ 7 0 x) := ⟨h.1, h.2.1, h.2.2.1, h.2.2.2.1, h.2.2.2.2.1, h.2.2.2.2.2.1, hx, h.2.2.2.2.2.2.2⟩
theorem WF.handIn {σ : SG} (h : WF σ) {k : Nat} (hk : (k : Int) < σ 0 0) {x : Int} (hx : x = 0 ∨ x = 1) : WF (sup σ 4 k x) := by
  refine ⟨h.1, h.2.1, h.2.2.1, fun j => ?_, h.2.2.2.2⟩
  have h1 := h.flag j
  rw [sup_eq]
  show (σ 3 j = 0 ∨ σ 3 j = 1) ∧ (va_up (σ 4) k x j = 0 ∨ va_up (σ 4) k x j = 1) ∧ (σ 0 0 ≤ j → σ 3 j = 0 ∧ va_up (σ 4) k x j = 0)
  by_cases e : j = k
  · subst e
    rw [va_up_s]
    exact ⟨h1.1, hx, fun h2 => by omega⟩
  · rw [va_up_o e]
    exact h1
theorem wf_opM {σ : SG} (h : WF σ) {N i j bn : Nat} (hN : σ 0 0 = (N : Int)) (hN1 : N < 30) (hi : i < N) (hj : j < N) : WF (opM σ N i j bn) := by
  have h1 : WF (opK σ N i) := h.opK hN hN1 hi
  have h2 : WF (sup (opK σ N i) 3 j 1) := h1.setF (k := j) (by show (j : Int) < ((N + 1 : Nat) : Int); omega)
  exact h2.mgf h.note N j _ _
theorem wf_opP {σ : SG} (h : WF σ) {k v C : Nat} (hk : (k : Int) < σ 0 0) (hv : v ≤ 1) (hC : σ 8 0 = (C : Int)) (hC1 : C < 20) : WF (opP σ k v C) := by
  have h3 := (h.setF hk).2.2.2.1
  refine ⟨h.1, h.2.1, h.2.2.1, h3, h.2.2.2.2.1, h.2.2.2.2.2.1, h.2.2.2.2.2.2.1, ?_, fun c hc => ?_, fun j => ?_⟩
  · show 0 ≤ ((C + 1 : Nat) : Int) ∧ ((C + 1 : Nat) : Int) ≤ 20
    omega
  · have hc : (c : Int) < ((C + 1 : Nat) : Int) := hc
    show (1 ≤ va_up (σ 9) C (σ 1 k) c ∧ va_up (σ 9) C (σ 1 k) c ≤ 12) ∧ (va_up (σ 10) C (v : Int) c = 0 ∨ va_up (σ 10) C (v : Int) c = 1)
    by_cases e : c = C
    · subst e
      rw [va_up_s, va_up_s]
      exact ⟨h.bars hk, by omega⟩
    · rw [va_up_o e, va_up_o e]
      exact h.cp (by omega)
  · show 0 ≤ sfl (sup (sup (sup σ 3 k 1) 9 C (σ 1 k)) 10 C (v : Int)) 11 (12 * C) (σ 1 k).toNat (fun i => NV σ k v (i - 12 * C)) 11 j ∧ sfl (sup (sup (sup σ 3 k 1) 9 C (σ 1 k)) 10 C (v : Int)) 11 (12 * C) (σ 1 k).toNat (fun i => NV σ k v (i - 12 * C)) 11 j ≤ 40
    by_cases e : 12 * C ≤ j ∧ j < 12 * C + (σ 1 k).toNat
    · rw [sfl_in _ _ _ _ _ e]; exact h.note _
    · rw [sfl_out _ _ _ _ _ (by omega)]; exact h.pr j
theorem wf_opS {σ : SG} (h : WF σ) (c k : Nat) : WF (opS σ c k) := by
  refine ⟨h.1, h.2.1, h.2.2.1, h.2.2.2.1, h.2.2.2.2.1, h.2.2.2.2.2.1, h.2.2.2.2.2.2.1, h.2.2.2.2.2.2.2.1, h.2.2.2.2.2.2.2.2.1, fun j => ?_⟩
  show 0 ≤ sfl σ 11 (12 * c) (σ 1 k).toNat (fun i => NV σ k (σ 10 c).toNat (i - 12 * c)) 11 j ∧ sfl σ 11 (12 * c) (σ 1 k).toNat (fun i => NV σ k (σ 10 c).toNat (i - 12 * c)) 11 j ≤ 40
  by_cases e : 12 * c ≤ j ∧ j < 12 * c + (σ 1 k).toNat
  · rw [sfl_in _ _ _ _ _ e]; exact h.note _
  · rw [sfl_out _ _ _ _ _ (by omega)]; exact h.pr j
theorem WF.start : WF sg0 := by
  refine ⟨by decide, fun k hk => ?_, fun k hk => ?_, fun k => ⟨Or.inl rfl, Or.inl rfl, fun _ => ⟨rfl, rfl⟩⟩, fun _ => ⟨Int.le_refl 0, show (0 : Int) ≤ 40 by decide⟩, fun r => ?_, by decide, by decide, fun c hc => ?_, fun _ => ⟨Int.le_refl 0, show (0 : Int) ≤ 40 by decide⟩⟩
  · have hk : (k : Int) < 0 := hk
    omega
  · have hk : (k : Int) < 0 := hk
    omega
  · show 0 ≤ mx 6 (fun _ => 5) (fun _ => 0) r ∧ mx 6 (fun _ => 5) (fun _ => 0) r ≤ 50
    by_cases e : r < 6
    · rw [mx_in _ _ e]; decide
    · rw [show mx 6 (fun _ => 5) (fun _ => 0) r = 0 from if_neg e]; decide
  · have hc : (c : Int) < 0 := hc
    omega
/-- a copy that isn't there has no slips -/
def S12 (σ : SG) : Prop := ∀ c : Nat, σ 8 0 ≤ c → σ 12 c = 0
theorem S12.start : S12 sg0 := fun _ _ => rfl
theorem S12.same {σ σ' : SG} (h : S12 σ) (e8 : σ' 8 = σ 8) (e12 : σ' 12 = σ 12) : S12 σ' := fun c hc => by rw [e12]; exact h c (by rw [← e8]; exact hc)
theorem s12_opM {σ : SG} (h : S12 σ) {N i j bn : Nat} : S12 (opM σ N i j bn) := h.same (by rw [opM_ne (by decide)]; rfl) (by rw [opM_ne (by decide)]; rfl)
theorem s12_opP {σ : SG} (h : S12 σ) {k v C : Nat} (hC : σ 8 0 = (C : Int)) : S12 (opP σ k v C) := fun c hc => by
  have hc : ((C + 1 : Nat) : Int) ≤ c := hc
  exact h c (by omega)
theorem s12_opS {σ : SG} (h : S12 σ) {c k : Nat} (hc : (c : Int) < σ 8 0) : S12 (opS σ c k) := fun x hx => by
  have hx : σ 8 0 ≤ x := hx
  show va_up (σ 12) c _ x = 0
  rw [va_up_o (by omega)]
  exact h x hx
