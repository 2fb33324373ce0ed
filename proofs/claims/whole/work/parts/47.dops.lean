/-! ===== the class's state after begin, branch, merge ===== -/
theorem zi_fitb (P : Prop) [Decidable P] : fits .boolean (.int (zi (pz P))) = true := by unfold pz; split <;> rfl
theorem DI.handIn' {g : gG} {σ : SG} {a : AD} {H0 H : Heap} {locs : List Loc} {i0 : Nat} (h0 : (i0 : Int) < σ 0 0) {x : Int} (hI : DI g σ a H0) (hS : va_S (va_A [verO σ a i0] H0.size) H0 H locs) (hP : va_at g.1 vwCl (a 8 i0, .inr (2, [.int (zi (i0 : Int)), va_rf (paV σ a i0), .ref (a 9 i0), .int (zi (σ 3 i0)), .int (zi x)])) H) : DI g (sup σ 4 i0 x) a H :=
  DI.handIn h0 hI hS (by unfold verO; rw [show sup σ 4 i0 x 4 i0 = x from by rw [sup_eq]; exact if_pos rfl]; exact hP)
/-- a cell of a world that isn't one of the old ones is new -/
theorem z_new {w0 ws : va_W} {sz i x : Nat} {e : va_E} (hD : va_D (va_A w0 sz) ws) (h : ws[i]? = some (x, e)) (hne : x ∉ w0.map Prod.fst) : sz ≤ x := (z_inA (hD.2 i _ h)).elim (fun h1 => absurd h1 hne) id
theorem z_ap {A : Nat → Prop} {ws : va_W} (hD : va_D A ws) {i j x y : Nat} {e e' : va_E} (hi : ws[i]? = some (x, e)) (hj : ws[j]? = some (y, e')) (hne : i ≠ j) : x ≠ y := fun h => hne (hD.1 i j _ _ hi hj h)
theorem opB_NU {σ : SG} {N : Nat} {b : Int} {x : Nat} (hx : x < 12) : NU (opB σ N b) N x = 20 ∧ NL (opB σ N b) N x = 20 := by
  constructor
  · show sfl (sup (sup σ 1 N b) 2 N (-1)) 5 (24 * N) 24 (fun _ => 20) 5 (24 * N + x) = 20
    rw [sfl_in _ _ _ _ _ (by omega)]
  · show sfl (sup (sup σ 1 N b) 2 N (-1)) 5 (24 * N) 24 (fun _ => 20) 5 (24 * N + 12 + x) = 20
    rw [sfl_in _ _ _ _ _ (by omega)]
theorem va_up_o {f : Nat → Int} {k j : Nat} {x : Int} (h : j ≠ k) : va_up f k x j = f j := if_neg h
theorem va_up_s {f : Nat → Int} {k : Nat} {x : Int} : va_up f k x k = x := if_pos rfl
theorem DI.begin {g : gG} {σ : SG} {a : AD} {H0 H : Heap} {locs : List Loc} {N nb q s u l : Nat} {b : Int} {uu ll : Nat → Int} (hI : DI g σ a H0) (hW : WF σ) (hN : σ 0 0 = (N : Int)) (hb : b = (nb : Int)) (hnb : nb ≤ 12) (hS : va_S (va_A [deskO σ a, vsO g σ a] H0.size) H0 H locs)
    (hnq : H0.size ≤ q ∧ H0.size ≤ s ∧ H0.size ≤ u ∧ H0.size ≤ l) (hnd : [q, s, u, l].Nodup)
    (hob : va_at g.1 vwCl (a 1 0, .inr (3, [.ref (a 2 0), .int (zi ((N + 1 : Nat) : Int)), .ref (a 3 0), .int (zi (σ 8 0)), .ref (a 4 0), .int (zi (σ 7 0)), .ref (a 5 0)])) H)
    (hvs : va_at g.1 vwCl (a 2 0, .inl (g.2.2.2.1, 30, .inr (.inr (.inr (.inr (va_up (vsF σ a) N (some q))))))) H)
    (hnv : va_at g.1 vwCl (q, .inr (2, [.int (zi (N : Int)), .null, .ref s, .int (zi 0), .int (zi 0)])) H)
    (hsc : ScP g s u l b uu ll H) (huu : uu = mx nb (fun _ => 20) (fun _ => 0)) (hll : ll = mx nb (fun _ => 20) (fun _ => 0)) :
    DI g (opB σ N b) (adV a N q s u l) H ∧ DE σ a (opB σ N b) (adV a N q s u l) H0.size := by
  have hfl := hW.flag N
  refine DI.addV (Fs := []) (po := none) hI hN hS (fun x hx => ?_) (fun k hk => by cases hk) rfl (fun k hk => va_up_o (by omega)) (fun k hk => va_up_o (by omega)) (fun k _ _ => rfl) (fun k _ => rfl) (fun j hj => ?_) rfl rfl rfl rfl rfl rfl rfl (hfl.2.2 (by omega)).1 (hfl.2.2 (by omega)).2 (fun k hk => hW.pd k (by omega)) (fun k hk => (hW.bars (by omega)).2) hnq hnd hob hvs (fun k hk => by cases hk) hnv ?_ ?_ (uu := uu) (ll := ll) ?_ ?_ ?_ (fun x hx => ?_)
  · have hx : x ∈ [a 1 0, a 2 0] := hx
    simp only [List.mem_cons, List.not_mem_nil, or_false] at hx
    rcases hx with h | h
    · exact Or.inl h
    · exact Or.inr (Or.inl h)
  · show sfl (sup (sup σ 1 N b) 2 N (-1)) 5 (24 * N) 24 (fun _ => 20) 5 j = σ 5 j
    rw [sfl_out _ _ _ _ _ (by omega)]
    rfl
  · rw [if_pos]
    show va_up (σ 2) N (-1) N < 0
    rw [va_up_s]
    decide
  · show va_up (σ 2) N (-1) N < N
    rw [va_up_s]
    omega
  · show ScP g s u l (va_up (σ 1) N b N) uu ll H
    rw [va_up_s]
    exact hsc
  · rw [huu]; exact (Nt.c (by decide)).mx (Nt.c (by decide)) nb
  · rw [hll]; exact (Nt.c (by decide)).mx (Nt.c (by decide)) nb
  · have hx : (x : Int) < va_up (σ 1) N b N := hx
    rw [va_up_s] at hx
    have e := opB_NU (σ := σ) (N := N) (b := b) (x := x) (by omega)
    rw [e.1, e.2, huu, hll, mx_in _ _ (by omega)]
    exact ⟨rfl, rfl⟩
theorem opK_NU {σ : SG} {N k x : Nat} (hx : x < 12) : NU (opK σ N k) N x = NU σ k x ∧ NL (opK σ N k) N x = NL σ k x := by
  constructor
  · show sfl (sup (sup σ 1 N (σ 1 k)) 2 N (k : Int)) 5 (24 * N) 24 (fun i => σ 5 (i - 24 * N + 24 * k)) 5 (24 * N + x) = σ 5 (24 * k + x)
    rw [sfl_in _ _ _ _ _ (by omega)]
    show σ 5 _ = σ 5 _
    congr 1
    omega
  · show sfl (sup (sup σ 1 N (σ 1 k)) 2 N (k : Int)) 5 (24 * N) 24 (fun i => σ 5 (i - 24 * N + 24 * k)) 5 (24 * N + 12 + x) = σ 5 (24 * k + 12 + x)
    rw [sfl_in _ _ _ _ _ (by omega)]
    show σ 5 _ = σ 5 _
    congr 1
    omega
theorem DI.branch {g : gG} {σ : SG} {a : AD} {H0 H : Heap} {locs : List Loc} {N k q s u l : Nat} {uu ll uk lk : Nat → Int} (hI : DI g σ a H0) (hW : WF σ) (hN : σ 0 0 = (N : Int)) (hk : k < N) (hS : va_S (va_A [deskO σ a, vsO g σ a, verO σ a k] H0.size) H0 H locs)
    (hnq : H0.size ≤ q ∧ H0.size ≤ s ∧ H0.size ≤ u ∧ H0.size ≤ l) (hnd : [q, s, u, l].Nodup)
    (hob : va_at g.1 vwCl (a 1 0, .inr (3, [.ref (a 2 0), .int (zi ((N + 1 : Nat) : Int)), .ref (a 3 0), .int (zi (σ 8 0)), .ref (a 4 0), .int (zi (σ 7 0)), .ref (a 5 0)])) H)
    (hvs : va_at g.1 vwCl (a 2 0, .inl (g.2.2.2.1, 30, .inr (.inr (.inr (.inr (va_up (vsF σ a) N (some q))))))) H)
    (hfx : va_at g.1 vwCl (a 8 k, .inr (2, [.int (zi (k : Int)), va_rf (paV σ a k), .ref (a 9 k), .int (zi 1), .int (zi (σ 4 k))])) H)
    (hnv : va_at g.1 vwCl (q, .inr (2, [.int (zi (N : Int)), .ref (a 8 k), .ref s, .int (zi 0), .int (zi 0)])) H)
    (hsc : ScP g s u l (σ 1 k) uu ll H) (huu : uu = mx (σ 1 k).toNat uk (fun _ => 0)) (hll : ll = mx (σ 1 k).toNat lk (fun _ => 0)) (huk : Nt uk) (hlk : Nt lk) (hek : ∀ b : Nat, (b : Int) < σ 1 k → uk b = NU σ k b ∧ lk b = NL σ k b) :
    DI g (opK σ N k) (adV a N q s u l) H ∧ DE σ a (opK σ N k) (adV a N q s u l) H0.size := by
  have hfl := hW.flag N
  have hbk := hW.bars (k := k) (by omega)
  refine DI.addV (Fs := [k]) (po := some (a 8 k)) hI hN hS (fun x hx => ?_) (fun i hi => by rw [List.mem_singleton.mp hi]; exact hk) rfl (fun i hi => va_up_o (by omega)) (fun i hi => va_up_o (by omega)) (fun i hi hn => va_up_o (fun e => hn (by rw [e]; exact List.mem_singleton.mpr rfl))) (fun i _ => rfl) (fun j hj => opK_lt hj) rfl rfl rfl rfl rfl rfl rfl ?_ (hfl.2.2 (by omega)).2 (fun i hi => hW.pd i (by omega)) (fun i hi => (hW.bars (by omega)).2) hnq hnd hob hvs (fun i hi => ?_) hnv ?_ ?_ (uu := uu) (ll := ll) ?_ ?_ ?_ (fun x hx => ?_)
  · have hx : x ∈ [a 1 0, a 2 0, a 8 k] := hx
    simp only [List.mem_cons, List.not_mem_nil, or_false] at hx
    rcases hx with h | h | h
    · exact Or.inl h
    · exact Or.inr (Or.inl h)
    · exact Or.inr (Or.inr ⟨k, List.mem_singleton.mpr rfl, h⟩)
  · show va_up (σ 3) k 1 N = 0
    rw [va_up_o (by omega)]
    exact (hfl.2.2 (by omega)).1
  · rw [List.mem_singleton.mp hi]
    show va_at g.1 vwCl (a 8 k, .inr (2, [.int (zi (k : Int)), va_rf (paV σ a k), .ref (a 9 k), .int (zi (va_up (σ 3) k 1 k)), .int (zi (σ 4 k))])) H
    rw [va_up_s]
    exact hfx
  · show some (a 8 k) = if va_up (σ 2) N (k : Int) N < 0 then none else some (a 8 (va_up (σ 2) N (k : Int) N).toNat)
    rw [va_up_s, if_neg (by omega), Int.toNat_natCast]
  · show va_up (σ 2) N (k : Int) N < N
    rw [va_up_s]
    omega
  · show ScP g s u l (va_up (σ 1) N (σ 1 k) N) uu ll H
    rw [va_up_s]
    exact hsc
  · rw [huu]; exact huk.mx (Nt.c (by decide)) _
  · rw [hll]; exact hlk.mx (Nt.c (by decide)) _
  · have hx : (x : Int) < va_up (σ 1) N (σ 1 k) N := hx
    rw [va_up_s] at hx
    have e := opK_NU (σ := σ) (N := N) (k := k) (x := x) (by omega)
    rw [e.1, e.2, huu, hll, mx_in _ _ (by omega), mx_in _ _ (by omega)]
    exact hek x hx
