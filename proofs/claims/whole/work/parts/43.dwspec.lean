/-! ===== the class's state from one call to the next ===== -/
def DE (σ : SG) (a : AD) (σ' : SG) (a' : AD) (sz : Nat) : Prop := a' 1 0 = a 1 0 ∧ ∀ q, Ow σ' a' q → dA σ a sz q
theorem dOk_same {σ σ' : SG} (h0 : σ' 0 0 = σ 0 0) (h8 : σ' 8 0 = σ 8 0) (i j : Nat) : dOk σ' i j ↔ dOk σ i j := by unfold dOk; rw [h0, h8]
theorem DE_same {σ σ' : SG} {a : AD} {sz : Nat} (h0 : σ' 0 0 = σ 0 0) (h8 : σ' 8 0 = σ 8 0) : DE σ a σ' a sz := ⟨rfl, fun q ⟨i, j, h, e⟩ => Or.inl ⟨i, j, (dOk_same h0 h8 i j).mp h, e⟩⟩
theorem dInj_same {σ σ' : SG} {a : AD} (h0 : σ' 0 0 = σ 0 0) (h8 : σ' 8 0 = σ 8 0) (h : dInj σ a) : dInj σ' a := fun i j i' j' h1 h2 e => h i j i' j' ((dOk_same h0 h8 i j).mp h1) ((dOk_same h0 h8 i' j').mp h2) e
theorem dNe {σ : SG} {a : AD} (h : dInj σ a) {i j i' j' : Nat} (h1 : dOk σ i j) (h2 : dOk σ i' j') (hne : ¬ (i = i' ∧ j = j')) : a i j ≠ a i' j' := fun e => hne (h i j i' j' h1 h2 e)
theorem DI.keep {g : gG} {σ : SG} {a : AD} {H0 H : Heap} {w0 : va_W} {locs : List Loc} (hI : DI g σ a H0) (hS : va_S (va_A w0 H0.size) H0 H locs) {i j : Nat} (hv : dOk σ i j) (hn : a i j ∉ w0.map Prod.fst) : H[a i j]? = H0[a i j]? := hS.2.1 _ (hI.lt hv) (z_nA (hI.lt hv) hn)
theorem dA_of {σ : SG} {a : AD} {w0 : va_W} {sz : Nat} (h : ∀ q, q ∈ w0.map Prod.fst → Ow σ a q) : ∀ q, va_A w0 sz q → dA σ a sz q := fun q hq => (z_inA hq).elim (fun h1 => Or.inl (h q h1)) Or.inr
def DSk (g : gG) (σ : SG) (a : AD) (H : Heap) (k : Nat) : Prop := ∃ u lo : Nat → Int, ScP g (a 9 k) (a 10 k) (a 11 k) (σ 1 k) u lo H ∧ Nt u ∧ Nt lo ∧ ∀ b : Nat, (b : Int) < σ 1 k → u b = NU σ k b ∧ lo b = NL σ k b
theorem DVk.mk {g : gG} {σ : SG} {a : AD} {H : Heap} {k : Nat} (h1 : va_at g.1 vwCl (verO σ a k) H) (h2 : DSk g σ a H k) : DVk g σ a H k := ⟨h1, h2⟩
theorem DVk.sc {g : gG} {σ : SG} {a : AD} {H : Heap} {k : Nat} (h : DVk g σ a H k) : DSk g σ a H k := h.2
theorem DSk.mv {g : gG} {σ σ' : SG} {a a' : AD} {H0 H : Heap} {k : Nat} (h : DSk g σ a H0 k) (ea : ∀ i, 9 ≤ i → i ≤ 11 → a' i k = a i k) (hk : ∀ i, 9 ≤ i → i ≤ 11 → H[a i k]? = H0[a i k]?) (e1 : σ' 1 k = σ 1 k) (en : ∀ b : Nat, (b : Int) < σ 1 k → NU σ' k b = NU σ k b ∧ NL σ' k b = NL σ k b) : DSk g σ' a' H k := by
  obtain ⟨u, lo, h1, h2, h3, h4⟩ := h
  refine ⟨u, lo, ?_, h2, h3, fun b hb => ?_⟩
  · rw [ea 9 (by omega) (by omega), ea 10 (by omega) (by omega), ea 11 (by omega) (by omega), e1]
    exact h1.kept (hk 9 (by omega) (by omega)) (hk 10 (by omega) (by omega)) (hk 11 (by omega) (by omega))
  · rw [e1] at hb
    rw [(en b hb).1, (en b hb).2]
    exact h4 b hb
theorem DVk.mv {g : gG} {σ σ' : SG} {a a' : AD} {H0 H : Heap} {k : Nat} (h : DVk g σ a H0 k) (ea : ∀ i, 8 ≤ i → i ≤ 11 → a' i k = a i k) (hk : ∀ i, 8 ≤ i → i ≤ 11 → H[a i k]? = H0[a i k]?) (ep : paV σ' a' k = paV σ a k) (e1 : σ' 1 k = σ 1 k) (e3 : σ' 3 k = σ 3 k) (e4 : σ' 4 k = σ 4 k) (en : ∀ b : Nat, (b : Int) < σ 1 k → NU σ' k b = NU σ k b ∧ NL σ' k b = NL σ k b) : DVk g σ' a' H k := by
  refine ⟨?_, h.sc.mv (fun i h1 h2 => ea i (by omega) h2) (fun i h1 h2 => hk i (by omega) h2) e1 en⟩
  have h1 := h.1.kept (hk 8 (by omega) (by omega))
  unfold verO
  rw [ea 8 (by omega) (by omega), ea 9 (by omega) (by omega), ep, e3, e4]
  exact h1
theorem DCk.mv {g : gG} {σ σ' : SG} {a a' : AD} {H0 H : Heap} {k : Nat} (h : DCk g σ a H0 k) (ea : ∀ i, 12 ≤ i → i ≤ 13 → a' i k = a i k) (hk : ∀ i, 12 ≤ i → i ≤ 13 → H[a i k]? = H0[a i k]?) (e9 : σ' 9 k = σ 9 k) (e10 : σ' 10 k = σ 10 k) (e12 : σ' 12 k = σ 12 k) (en : ∀ b : Nat, (b : Int) < σ 9 k → σ' 11 (12 * k + b) = σ 11 (12 * k + b)) : DCk g σ' a' H k := by
  obtain ⟨h1, t, h2, h3, h4⟩ := h
  refine ⟨?_, t, ?_, h3, fun b hb => ?_⟩
  · unfold copO
    rw [ea 12 (by omega) (by omega), ea 13 (by omega) (by omega), e9, e10, e12]
    exact h1.kept (hk 12 (by omega) (by omega))
  · unfold rowO
    rw [ea 13 (by omega) (by omega)]
    exact h2.kept (hk 13 (by omega) (by omega))
  · rw [e9] at hb
    rw [en b hb]
    exact h4 b hb
theorem DTr.mv {g : gG} {a a' : AD} {H0 H : Heap} (h : DTr g a H0) (ea : ∀ i, 5 ≤ i → i ≤ 7 → a' i 0 = a i 0) (hk : ∀ i, 5 ≤ i → i ≤ 7 → H[a i 0]? = H0[a i 0]?) : DTr g a' H := by
  obtain ⟨n, u, lo, h1, h2, h3⟩ := h
  refine ⟨n, u, lo, ?_, h2, h3⟩
  rw [ea 5 (by omega) (by omega), ea 6 (by omega) (by omega), ea 7 (by omega) (by omega)]
  exact h1.kept (hk 5 (by omega) (by omega)) (hk 6 (by omega) (by omega)) (hk 7 (by omega) (by omega))
abbrev DW (l : Launch) (y : MethodName) (ws : List Cond) (rm : Room) (g : gG) (av : List Value) (sz : Nat) (σ : SG) (a : AD) (σ' : SG) (v : Int) (mc ms : Nat) : Prop :=
  Met l y ws rm (zPc g (.ref (a 1 0) :: av) (fun H => H.size = sz ∧ DI g σ a H)) (va_Qi (fun r (_ : AD) => r = zi v) (fun a' t => DI g σ' a' t.heap ∧ DE σ a σ' a' sz) (dA σ a sz)) mc ms (dA σ a sz)
section ZDW
variable {p : Program} {l : Launch} {e : Env} {R : Room} {s : State} {m : MethodId} {args : Array Value} {below : List Frame} {meth : Method} {c : Code} {H : Heap} {locs : List Loc} {cells slots : Nat} {Q : State → Prop}
variable {cc : ByteArray} {pc : Nat} {ls : Array Slot} {rest : List Value}
theorem z_dwret {v x : Int} {g : gG} {w0 : va_W} {σ σ' : SG} {a : AD} (a' : AD) (hx : p.tables.exec = Jvm.exec) (hb : c.code = cc) (hr : meth.sig.returnType = some .int) (hlk : meth.locks = false) (hdg : decode cc pc = .ok (.ireturn, 1)) (h : x = v) (hI : DI g σ' a' H) (hE : DE σ a σ' a' s.heap.size) (hA : ∀ q, va_A w0 s.heap.size q → dA σ a s.heap.size q) (hS : va_S (va_A w0 s.heap.size) s.heap H locs) : W p l e R s m args below meth c H locs cells slots (MQ below (va_Qi (fun r (_ : AD) => r = zi v) (fun a' t => DI g σ' a' t.heap ∧ DE σ a σ' a' s.heap.size) (dA σ a s.heap.size)) args s cells slots (dA σ a s.heap.size)) (F0 m pc ls [.int (zi x)]) :=
  W.iret hx hb hr (fun t ht _ => ⟨⟨_, a', rfl, by rw [h], by show DI g σ' a' t.heap; rw [ht]; exact hI, hE⟩, (hS.F ht).mono hA⟩) (fun q hq => hA _ (hS.2.2 q hq)) hdg hlk
theorem z_dwzret {v x : Int} {g : gG} {w0 : va_W} {σ σ' : SG} {a : AD} (a' : AD) (hx : p.tables.exec = Jvm.exec) (hb : c.code = cc) (hr : meth.sig.returnType = some .boolean) (hlk : meth.locks = false) (hdg : decode cc pc = .ok (.ireturn, 1)) (h01 : x = 0 ∨ x = 1) (h : x = v) (hI : DI g σ' a' H) (hE : DE σ a σ' a' s.heap.size) (hA : ∀ q, va_A w0 s.heap.size q → dA σ a s.heap.size q) (hS : va_S (va_A w0 s.heap.size) s.heap H locs) : W p l e R s m args below meth c H locs cells slots (MQ below (va_Qi (fun r (_ : AD) => r = zi v) (fun a' t => DI g σ' a' t.heap ∧ DE σ a σ' a' s.heap.size) (dA σ a s.heap.size)) args s cells slots (dA σ a s.heap.size)) (F0 m pc ls [.int (zi x)]) :=
  W.zret hx hb hr (by rcases h01 with rfl | rfl <;> rfl) (fun t ht _ => ⟨⟨_, a', rfl, by rw [h], by show DI g σ' a' t.heap; rw [ht]; exact hI, hE⟩, (hS.F ht).mono hA⟩) (fun q hq => hA _ (hS.2.2 q hq)) hdg hlk
theorem z_astq (hx : p.tables.exec = Jvm.exec) (hb : c.code = cc) {g : gG} {ws : va_W} {A : Nat → Prop} {H0 : Heap} (hK : KK g s) (hP : va_P g.1 vwCl ws H) (hD : va_D A ws) (hS : va_S A H0 H locs) (q0 t0 qk ci : Nat) {b n v : Nat} {cA : ClassId} {r : vw_C} {vs : List Value} {f : Nat → Option Nat} (ha : ws[q0]? = some (b, .inl (cA, n, .inr (.inr (.inr (.inr f)))))) (ht : [(g.2.1, FieldType.int), (g.2.2.1, .boolean), (g.2.2.2.1, .object RX2), (g.2.2.2.2, .object RX0)][t0]? = some (cA, .object r.1)) (hv : ws[qk]? = some (v, .inr (ci, vs))) (hc : vwCl[ci]? = some r) {z : Int} (i : Nat) (hz : z = (i : Int)) (hi : i < n) (hn : n < 2147483648) (hdg : decode cc pc = .ok (.aastore, 1))
    (kk : ∀ (H1 : Heap) (locs1 : List Loc), va_P g.1 vwCl (ws.set q0 (b, .inl (cA, n, .inr (.inr (.inr (.inr (va_up f i (some v)))))))) H1 → va_D A (ws.set q0 (b, .inl (cA, n, .inr (.inr (.inr (.inr (va_up f i (some v)))))))) → va_S A H0 H1 locs1 → W p l e R s m args below meth c H1 locs1 cells slots Q (F0 m (pc + 1) ls rest)) : W p l e R s m args below meth c H locs cells slots Q (F0 m pc ls (.ref v :: .int (zi z) :: .ref b :: rest)) := by
  subst hz
  refine va_astq hx hb hK.1 hP hD hS q0 t0 qk ci ha ht hv hc (zi_in hi hn) hdg (fun H1 l1 h1 h2 h3 => ?_)
  rw [zi_ix (by omega)] at h1 h2
  exact kk H1 l1 h1 h2 h3
end ZDW
/-! the states after the calls that write few cells -/
theorem DI.setPass {g : gG} {σ : SG} {a : AD} {H0 H : Heap} {locs : List Loc} {t : Int} (hI : DI g σ a H0) (hS : va_S (va_A [deskO σ a] H0.size) H0 H locs) (hP : va_at g.1 vwCl (deskO (sup σ 7 0 t) a) H) : DI g (sup σ 7 0 t) a H := by
  have hk : ∀ {i j : Nat}, dOk σ i j → ¬ (i = 1 ∧ j = 0) → H[a i j]? = H0[a i j]? := fun hv hn => hI.keep hS hv (fun hm => dNe hI.inj hv (dOk_0 σ (i := 1) (by omega)) hn (List.mem_singleton.mp hm))
  refine ⟨hP, hI.vs.kept (hk (dOk_0 σ (by omega)) (by omega)), hI.cs.kept (hk (dOk_0 σ (by omega)) (by omega)), hI.wt.kept (hk (dOk_0 σ (by omega)) (by omega)), hI.tr.mv (fun _ _ _ => rfl) (fun i h1 h2 => hk (dOk_0 σ (by omega)) (by omega)), fun k h => ?_, fun k h => ?_, dInj_same rfl rfl hI.inj⟩
  · exact (hI.vk h).mv (fun _ _ _ => rfl) (fun i h1 h2 => hk (dOk_v (by omega) h) (by omega)) rfl rfl rfl rfl (fun _ _ => ⟨rfl, rfl⟩)
  · exact (hI.ck h).mv (fun _ _ _ => rfl) (fun i h1 h2 => hk (dOk_c (by omega) h) (by omega)) rfl rfl rfl (fun _ _ => rfl)
theorem DI.setWeight {g : gG} {σ : SG} {a : AD} {H0 H : Heap} {locs : List Loc} {r : Nat} {t : Int} (hI : DI g σ a H0) (hS : va_S (va_A [wtO g σ a] H0.size) H0 H locs) (hP : va_at g.1 vwCl (wtO g (sup σ 6 r t) a) H) : DI g (sup σ 6 r t) a H := by
  have hk : ∀ {i j : Nat}, dOk σ i j → ¬ (i = 4 ∧ j = 0) → H[a i j]? = H0[a i j]? := fun hv hn => hI.keep hS hv (fun hm => dNe hI.inj hv (dOk_0 σ (i := 4) (by omega)) hn (List.mem_singleton.mp hm))
  refine ⟨hI.ob.kept (hk (dOk_0 σ (by omega)) (by omega)), hI.vs.kept (hk (dOk_0 σ (by omega)) (by omega)), hI.cs.kept (hk (dOk_0 σ (by omega)) (by omega)), hP, hI.tr.mv (fun _ _ _ => rfl) (fun i h1 h2 => hk (dOk_0 σ (by omega)) (by omega)), fun k h => ?_, fun k h => ?_, dInj_same rfl rfl hI.inj⟩
  · exact (hI.vk h).mv (fun _ _ _ => rfl) (fun i h1 h2 => hk (dOk_v (by omega) h) (by omega)) rfl rfl rfl rfl (fun _ _ => ⟨rfl, rfl⟩)
  · exact (hI.ck h).mv (fun _ _ _ => rfl) (fun i h1 h2 => hk (dOk_c (by omega) h) (by omega)) rfl rfl rfl (fun _ _ => rfl)
theorem DI.handIn {g : gG} {σ : SG} {a : AD} {H0 H : Heap} {locs : List Loc} {i0 : Nat} (h0 : (i0 : Int) < σ 0 0) {x : Int} (hI : DI g σ a H0) (hS : va_S (va_A [verO σ a i0] H0.size) H0 H locs) (hP : va_at g.1 vwCl (verO (sup σ 4 i0 x) a i0) H) : DI g (sup σ 4 i0 x) a H := by
  have hk : ∀ {i j : Nat}, dOk σ i j → ¬ (i = 8 ∧ j = i0) → H[a i j]? = H0[a i j]? := fun hv hn => hI.keep hS hv (fun hm => dNe hI.inj hv (dOk_v (i := 8) (by omega) h0) hn (List.mem_singleton.mp hm))
  refine ⟨hI.ob.kept (hk (dOk_0 σ (by omega)) (by omega)), hI.vs.kept (hk (dOk_0 σ (by omega)) (by omega)), hI.cs.kept (hk (dOk_0 σ (by omega)) (by omega)), hI.wt.kept (hk (dOk_0 σ (by omega)) (by omega)), hI.tr.mv (fun _ _ _ => rfl) (fun i h1 h2 => hk (dOk_0 σ (by omega)) (by omega)), fun k h => ?_, fun k h => ?_, dInj_same rfl rfl hI.inj⟩
  · by_cases e : k = i0
    · subst e
      exact .mk hP ((hI.vk h).sc.mv (fun _ _ _ => rfl) (fun i h1 h2 => hk (dOk_v (by omega) h) (by omega)) rfl (fun _ _ => ⟨rfl, rfl⟩))
    · exact (hI.vk h).mv (fun _ _ _ => rfl) (fun i h1 h2 => hk (dOk_v (by omega) h) (by omega)) rfl rfl rfl (by rw [sup_eq]; exact if_neg e) (fun _ _ => ⟨rfl, rfl⟩)
  · exact (hI.ck h).mv (fun _ _ _ => rfl) (fun i h1 h2 => hk (dOk_c (by omega) h) (by omega)) rfl rfl rfl (fun _ _ => rfl)
theorem DI.best {g : gG} {σ : SG} {a : AD} {H0 H : Heap} {locs : List Loc} {n n' : Int} {u lo u' lo' : Nat → Int} (hI : DI g σ a H0) (hS : va_S (va_A (ScW g (a 5 0) (a 6 0) (a 7 0) n u lo) H0.size) H0 H locs) (hP : ScP g (a 5 0) (a 6 0) (a 7 0) n' u' lo' H) (hu : Nt u') (hlo : Nt lo') : DI g σ a H := by
  have hk : ∀ {i j : Nat}, dOk σ i j → ¬ (5 ≤ i ∧ i ≤ 7) → H[a i j]? = H0[a i j]? := fun {i j} hv hn => hI.keep hS hv (fun hm => by
    have hm : a i j ∈ [a 5 0, a 6 0, a 7 0] := hm
    simp only [List.mem_cons, List.not_mem_nil, or_false] at hm
    rcases hm with hm | hm | hm
    · exact dNe hI.inj hv (dOk_0 σ (i := 5) (by omega)) (by omega) hm
    · exact dNe hI.inj hv (dOk_0 σ (i := 6) (by omega)) (by omega) hm
    · exact dNe hI.inj hv (dOk_0 σ (i := 7) (by omega)) (by omega) hm)
  refine ⟨hI.ob.kept (hk (dOk_0 σ (by omega)) (by omega)), hI.vs.kept (hk (dOk_0 σ (by omega)) (by omega)), hI.cs.kept (hk (dOk_0 σ (by omega)) (by omega)), hI.wt.kept (hk (dOk_0 σ (by omega)) (by omega)), ⟨n', u', lo', hP, hu, hlo⟩, fun k h => ?_, fun k h => ?_, hI.inj⟩
  · exact (hI.vk h).mv (fun _ _ _ => rfl) (fun i h1 h2 => hk (dOk_v (by omega) h) (by omega)) rfl rfl rfl rfl (fun _ _ => ⟨rfl, rfl⟩)
  · exact (hI.ck h).mv (fun _ _ _ => rfl) (fun i h1 h2 => hk (dOk_c (by omega) h) (by omega)) rfl rfl rfl (fun _ _ => rfl)
theorem NV_opN {σ : SG} {k v b : Nat} {x : Int} (hv : v ≤ 1) (hb : b < 12) (k' v' b' : Nat) (hv' : v' ≤ 1) (hb' : b' < 12) : NV (opN σ k v b x) k' v' b' = if k' = k ∧ v' = v ∧ b' = b then x else NV σ k' v' b' := by
  show sup σ 5 (24 * k + 12 * v + b) x 5 (24 * k' + 12 * v' + b') = _
  rw [sup_eq]
  unfold va_up
  by_cases h : k' = k ∧ v' = v ∧ b' = b
  · rw [if_pos h, if_pos (by omega)]
  · rw [if_neg h, if_neg (by omega)]
    rfl
theorem DI.setNote {g : gG} {σ : SG} {a : AD} {H0 H : Heap} {locs : List Loc} {i0 v b0 : Nat} (h0 : (i0 : Int) < σ 0 0) (hv : v ≤ 1) (hb0 : b0 < 12) (hb12 : σ 1 i0 ≤ 12) (hbs : ∀ k : Nat, (k : Int) < σ 0 0 → σ 1 k ≤ 12) {x : Int} (hx : 0 ≤ x ∧ x ≤ 40) {u lo : Nat → Int} (hI : DI g σ a H0) (hS : va_S (va_A (ScW g (a 9 i0) (a 10 i0) (a 11 i0) (σ 1 i0) u lo) H0.size) H0 H locs) {u' lo' : Nat → Int} (hP : ScP g (a 9 i0) (a 10 i0) (a 11 i0) (σ 1 i0) u' lo' H) (hu : Nt u') (hlo : Nt lo') (hc : ∀ b : Nat, (b : Int) < σ 1 i0 → u' b = NU (opN σ i0 v b0 x) i0 b ∧ lo' b = NL (opN σ i0 v b0 x) i0 b) : DI g (opN σ i0 v b0 x) a H := by
  have hk : ∀ {i j : Nat}, dOk σ i j → ¬ ((9 ≤ i ∧ i ≤ 11) ∧ j = i0) → H[a i j]? = H0[a i j]? := fun {i j} hv hn => hI.keep hS hv (fun hm => by
    have hm : a i j ∈ [a 9 i0, a 10 i0, a 11 i0] := hm
    simp only [List.mem_cons, List.not_mem_nil, or_false] at hm
    rcases hm with hm | hm | hm
    · exact dNe hI.inj hv (dOk_v (i := 9) (by omega) h0) (by omega) hm
    · exact dNe hI.inj hv (dOk_v (i := 10) (by omega) h0) (by omega) hm
    · exact dNe hI.inj hv (dOk_v (i := 11) (by omega) h0) (by omega) hm)
  refine ⟨hI.ob.kept (hk (dOk_0 σ (by omega)) (by omega)), hI.vs.kept (hk (dOk_0 σ (by omega)) (by omega)), hI.cs.kept (hk (dOk_0 σ (by omega)) (by omega)), hI.wt.kept (hk (dOk_0 σ (by omega)) (by omega)), hI.tr.mv (fun _ _ _ => rfl) (fun i h1 h2 => hk (dOk_0 σ (by omega)) (by omega)), fun k h => ?_, fun k h => ?_, dInj_same rfl rfl hI.inj⟩
  · by_cases e : k = i0
    · subst e
      exact .mk ((hI.vk h).1.kept (hk (dOk_v (by omega) h) (by omega))) ⟨u', lo', hP, hu, hlo, hc⟩
    · refine (hI.vk h).mv (fun _ _ _ => rfl) (fun i h1 h2 => hk (dOk_v (by omega) h) (by omega)) rfl rfl rfl rfl (fun b hb => ?_)
      have := hbs k h
      rw [← NV_0, ← NV_0, ← NV_1, ← NV_1, NV_opN hv hb0 k 0 b (by omega) (by omega), NV_opN hv hb0 k 1 b (by omega) (by omega), if_neg (by omega), if_neg (by omega)]
      exact ⟨rfl, rfl⟩
  · exact (hI.ck h).mv (fun _ _ _ => rfl) (fun i h1 h2 => hk (dOk_c (by omega) h) (by omega)) rfl rfl rfl (fun _ _ => rfl)
