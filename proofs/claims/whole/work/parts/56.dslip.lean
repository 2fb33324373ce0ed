/-! ===== the class's state after slip ===== -/
theorem DI.slip {g : gG} {σ : SG} {a : AD} {H0 H : Heap} {locs : List Loc} {c k nb : Nat} {w t : Nat → Int} (hI : DI g σ a H0) (hc : (c : Int) < σ 8 0) (hb12 : ∀ c : Nat, (c : Int) < σ 8 0 → σ 9 c ≤ 12) (hS : va_S (va_A [copO σ a c, rowO g a c t] H0.size) H0 H locs) (hln : σ 1 k = σ 9 c) (hnb : σ 9 c = (nb : Int))
    (hcv : va_at g.1 vwCl (a 12 c, .inr (0, [.int (zi (σ 10 c)), .int (zi (σ 9 c)), .ref (a 13 c), .int (zi (σ 12 c + cnt (dfB σ c k) (σ 1 k).toNat))])) H)
    (hrow : va_at g.1 vwCl (a 13 c, .inl (g.2.1, 12, .inl (fun j9 => zi (mx nb w t j9)))) H) (hw : Nt w) (ht : Nt t) (hwn : ∀ b : Nat, (b : Int) < σ 9 c → w b = NV σ k (σ 10 c).toNat b) :
    DI g (opS σ c k) a H := by
  have e12 : opS σ c k 12 = va_up (σ 12) c (σ 12 c + cnt (dfB σ c k) (σ 1 k).toNat) := rfl
  have e11 : opS σ c k 11 = sfl σ 11 (12 * c) (σ 1 k).toNat (fun i => NV σ k (σ 10 c).toNat (i - 12 * c)) 11 := rfl
  have hkk : ∀ {i j : Nat}, dOk σ i j → ¬ ((12 ≤ i ∧ i ≤ 13) ∧ j = c) → H[a i j]? = H0[a i j]? := fun {i j} hv h1 => hI.keep hS hv (fun hm => by
    have hm : a i j ∈ [a 12 c, a 13 c] := hm
    simp only [List.mem_cons, List.not_mem_nil, or_false] at hm
    rcases hm with h | h
    · exact dNe hI.inj hv (dOk_c (i := 12) (by omega) hc) (fun hh => h1 ⟨by omega, hh.2⟩) h
    · exact dNe hI.inj hv (dOk_c (i := 13) (by omega) hc) (fun hh => h1 ⟨by omega, hh.2⟩) h)
  refine ⟨hI.ob.kept (hkk (dOk_0 σ (by omega)) (by omega)), hI.vs.kept (hkk (dOk_0 σ (by omega)) (by omega)), hI.cs.kept (hkk (dOk_0 σ (by omega)) (by omega)), hI.wt.kept (hkk (dOk_0 σ (by omega)) (by omega)), hI.tr.mv (fun _ _ _ => rfl) (fun i h1 h2 => hkk (dOk_0 σ (by omega)) (by omega)), fun j h => ?_, fun j h => ?_, dInj_same rfl rfl hI.inj⟩
  · exact (hI.vk h).mv (fun _ _ _ => rfl) (fun i h1 h2 => hkk (dOk_v (by omega) h) (by omega)) rfl rfl rfl rfl (fun _ _ => ⟨rfl, rfl⟩)
  · by_cases e : j = c
    · subst e
      refine ⟨?_, mx nb w t, hrow, hw.mx ht _, fun b hb => ?_⟩
      · show va_at g.1 vwCl (a 12 j, .inr (0, [.int (zi (σ 10 j)), .int (zi (σ 9 j)), .ref (a 13 j), .int (zi (opS σ j k 12 j))])) H
        rw [e12, va_up_s]
        exact hcv
      · have hb : (b : Int) < σ 9 j := hb
        rw [e11, sfl_in _ _ _ _ _ (by omega), mx_in _ _ (by omega), hwn b hb]
        congr 1
        omega
    · have h' : (j : Int) < σ 8 0 := h
      have b1 := hb12 c hc
      have b2 := hb12 j h'
      refine (hI.ck h').mv (fun _ _ _ => rfl) (fun i h1 h2 => hkk (dOk_c (by omega) h') (by omega)) rfl rfl (by rw [e12, va_up_o e]) (fun b hb => ?_)
      rw [e11, sfl_out _ _ _ _ _ (by omega)]
