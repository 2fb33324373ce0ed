/-! ===== rows that write the reference's cells ===== -/
def sfl (σ : SG) (f a m : Nat) (h : Nat → Int) : SG := fun f' => if f' = f then (fun j => if a ≤ j ∧ j < a + m then h j else σ f j) else σ f'
theorem sfl_0 (σ : SG) (f a : Nat) (h : Nat → Int) : sfl σ f a 0 h = σ := by
  funext f' j
  unfold sfl
  split
  · rename_i e
    subst e
    show (if a ≤ j ∧ j < a + 0 then h j else σ f' j) = σ f' j
    rw [if_neg (by omega)]
  · rfl
theorem sfl_s (σ : SG) (f a k i : Nat) (h : Nat → Int) (x : Int) (hi : i = a + k) (hx : x = h i) : sup (sfl σ f a k h) f i x = sfl σ f a (k + 1) h := by
  subst hi; subst hx
  funext f' j
  unfold sup
  split
  · rename_i e
    subst e
    unfold va_up sfl
    rw [if_pos rfl, if_pos rfl]
    by_cases h1 : j = a + k
    · subst h1
      rw [if_pos rfl, if_pos (by omega)]
    · rw [if_neg h1]
      by_cases h2 : a ≤ j ∧ j < a + k
      · rw [if_pos h2, if_pos (by omega)]
      · rw [if_neg h2, if_neg (by omega)]
  · rename_i e
    unfold sfl
    rw [if_neg e, if_neg e]
theorem sfl_out (σ : SG) (f a m : Nat) (h : Nat → Int) {j : Nat} (hj : j < a ∨ a + m ≤ j) : sfl σ f a m h f j = σ f j := by
  unfold sfl
  rw [if_pos rfl, if_neg (by omega)]
theorem sfl_in (σ : SG) (f a m : Nat) (h : Nat → Int) {j : Nat} (hj : a ≤ j ∧ j < a + m) : sfl σ f a m h f j = h j := by
  unfold sfl
  rw [if_pos rfl, if_pos hj]
theorem sfl_ne (σ : SG) {f f' : Nat} (a m : Nat) (h : Nat → Int) (hf : f' ≠ f) : sfl σ f a m h f' = σ f' := if_neg hf
theorem ms0 (g : gG) (ad : Nat → Nat) (σ : SG) (th x : Int) : (MWs g ad σ th).set 0 (ad 0, .inr (4, ([.int (zi (σ 0 0)), .ref (ad 1), .ref (ad 2), .ref (ad 3), .ref (ad 4), .ref (ad 5), .ref (ad 6), .int (zi (σ 7 0)), .int (zi (σ 8 0)), .ref (ad 7), .ref (ad 8), .ref (ad 9), .ref (ad 10), .int (zi th)] : List Value).set 0 (.int (zi x)))) = MWs g ad (sup σ 0 0 x) th := rfl
theorem ms7 (g : gG) (ad : Nat → Nat) (σ : SG) (th x : Int) : (MWs g ad σ th).set 0 (ad 0, .inr (4, ([.int (zi (σ 0 0)), .ref (ad 1), .ref (ad 2), .ref (ad 3), .ref (ad 4), .ref (ad 5), .ref (ad 6), .int (zi (σ 7 0)), .int (zi (σ 8 0)), .ref (ad 7), .ref (ad 8), .ref (ad 9), .ref (ad 10), .int (zi th)] : List Value).set 7 (.int (zi x)))) = MWs g ad (sup σ 7 0 x) th := rfl
theorem ms8 (g : gG) (ad : Nat → Nat) (σ : SG) (th x : Int) : (MWs g ad σ th).set 0 (ad 0, .inr (4, ([.int (zi (σ 0 0)), .ref (ad 1), .ref (ad 2), .ref (ad 3), .ref (ad 4), .ref (ad 5), .ref (ad 6), .int (zi (σ 7 0)), .int (zi (σ 8 0)), .ref (ad 7), .ref (ad 8), .ref (ad 9), .ref (ad 10), .int (zi th)] : List Value).set 8 (.int (zi x)))) = MWs g ad (sup σ 8 0 x) th := rfl
theorem ms13 (g : gG) (ad : Nat → Nat) (σ : SG) (th x : Int) : (MWs g ad σ th).set 0 (ad 0, .inr (4, ([.int (zi (σ 0 0)), .ref (ad 1), .ref (ad 2), .ref (ad 3), .ref (ad 4), .ref (ad 5), .ref (ad 6), .int (zi (σ 7 0)), .int (zi (σ 8 0)), .ref (ad 7), .ref (ad 8), .ref (ad 9), .ref (ad 10), .int (zi th)] : List Value).set 13 (.int (zi x)))) = MWs g ad σ x := rfl
theorem msa1 (g : gG) (ad : Nat → Nat) (σ : SG) (th : Int) (i : Nat) (x : Int) : (MWs g ad σ th).set 1 (ad 1, .inl (g.2.1, 30, .inl (fun j => zi (va_up (σ 1) i x j)))) = MWs g ad (sup σ 1 i x) th := rfl
theorem msa2 (g : gG) (ad : Nat → Nat) (σ : SG) (th : Int) (i : Nat) (x : Int) : (MWs g ad σ th).set 2 (ad 2, .inl (g.2.1, 30, .inl (fun j => zi (va_up (σ 2) i x j)))) = MWs g ad (sup σ 2 i x) th := rfl
theorem msa3 (g : gG) (ad : Nat → Nat) (σ : SG) (th : Int) (i : Nat) (x : Int) : (MWs g ad σ th).set 3 (ad 3, .inl (g.2.2.1, 30, .inl (fun j => zi (va_up (σ 3) i x j)))) = MWs g ad (sup σ 3 i x) th := rfl
theorem msa4 (g : gG) (ad : Nat → Nat) (σ : SG) (th : Int) (i : Nat) (x : Int) : (MWs g ad σ th).set 4 (ad 4, .inl (g.2.2.1, 30, .inl (fun j => zi (va_up (σ 4) i x j)))) = MWs g ad (sup σ 4 i x) th := rfl
theorem msa5 (g : gG) (ad : Nat → Nat) (σ : SG) (th : Int) (i : Nat) (x : Int) : (MWs g ad σ th).set 5 (ad 5, .inl (g.2.1, 720, .inl (fun j => zi (va_up (σ 5) i x j)))) = MWs g ad (sup σ 5 i x) th := rfl
theorem msa6 (g : gG) (ad : Nat → Nat) (σ : SG) (th : Int) (i : Nat) (x : Int) : (MWs g ad σ th).set 6 (ad 6, .inl (g.2.1, 6, .inl (fun j => zi (va_up (σ 6) i x j)))) = MWs g ad (sup σ 6 i x) th := rfl
theorem msa7 (g : gG) (ad : Nat → Nat) (σ : SG) (th : Int) (i : Nat) (x : Int) : (MWs g ad σ th).set 7 (ad 7, .inl (g.2.1, 20, .inl (fun j => zi (va_up (σ 9) i x j)))) = MWs g ad (sup σ 9 i x) th := rfl
theorem msa8 (g : gG) (ad : Nat → Nat) (σ : SG) (th : Int) (i : Nat) (x : Int) : (MWs g ad σ th).set 8 (ad 8, .inl (g.2.1, 20, .inl (fun j => zi (va_up (σ 10) i x j)))) = MWs g ad (sup σ 10 i x) th := rfl
theorem msa9 (g : gG) (ad : Nat → Nat) (σ : SG) (th : Int) (i : Nat) (x : Int) : (MWs g ad σ th).set 9 (ad 9, .inl (g.2.1, 240, .inl (fun j => zi (va_up (σ 11) i x j)))) = MWs g ad (sup σ 11 i x) th := rfl
theorem msa10 (g : gG) (ad : Nat → Nat) (σ : SG) (th : Int) (i : Nat) (x : Int) : (MWs g ad σ th).set 10 (ad 10, .inl (g.2.1, 20, .inl (fun j => zi (va_up (σ 12) i x j)))) = MWs g ad (sup σ 12 i x) th := rfl
section ZMR
variable {p : Program} {l : Launch} {e : Env} {R : Room} {s : State} {m : MethodId} {args : Array Value} {below : List Frame} {meth : Method} {c : Code} {H : Heap} {locs : List Loc} {cells slots : Nat} {Q : State → Prop}
variable {cc : ByteArray} {pc : Nat} {ls : Array Slot} {rest : List Value}
theorem z_mput (hx : p.tables.exec = Jvm.exec) (hb : c.code = cc) {index : Nat} {Ts : List Cond} {g : gG} {ad : Nat → Nat} {σ σ0 σ' : SG} {th th0 th' x : Int} {sz : Nat} {H0 : Heap} (hd : Dst ad) (hts : ∀ w ∈ Ts, w.before args s = true) (hin : ∀ w ∈ u_ws RX4 TX4 14, w ∈ Ts) (hown : s.vm.findClass RX4 = some m.cls) (hK : KK g s) (hP : va_P g.1 vwCl (MWs g ad σ th) H) (hS : va_S (va_A (MWs g ad σ0 th0) sz) H0 H locs) (k : Nat) (hk : k < 14)
    (hlink : (Cond.fieldLink RX4 index RX4 (TX4 k).2.1 (TX4 k).2.2.1).before args s = true) (hsame : RX4 = (TX4 k).1) (hfin : (TX4 k).2.2.2 = false) (hty : tyX4 k = .int)
    (hset : (MWs g ad σ th).set 0 (ad 0, .inr (4, ([.int (zi (σ 0 0)), .ref (ad 1), .ref (ad 2), .ref (ad 3), .ref (ad 4), .ref (ad 5), .ref (ad 6), .int (zi (σ 7 0)), .int (zi (σ 8 0)), .ref (ad 7), .ref (ad 8), .ref (ad 9), .ref (ad 10), .int (zi th)] : List Value).set k (.int (zi x)))) = MWs g ad σ' th')
    (hdg : decode cc pc = .ok (.putfield index, 3))
    (kk : ∀ (H : Heap) (locs : List Loc), va_P g.1 vwCl (MWs g ad σ' th') H → va_S (va_A (MWs g ad σ0 th0) sz) H0 H locs → W p l e R s m args below meth c H locs cells slots Q (F0 m (pc + 3) ls rest)) : W p l e R s m args below meth c H locs cells slots Q (F0 m pc ls (.int (zi x) :: .ref (ad 0) :: rest)) := by
  refine z_put hx hb hts hin tyX4 tyX4_ok nmX4 hown hK hP (MW_D hd σ σ0 th th0 sz) hS 0 rfl rfl k hk hlink hsame (Or.inl hfin) (v := .int (zi x)) (by rw [hty]; rfl) (by rw [hty]; rfl) hk hdg (fun H1 l1 h1 _ h3 => ?_)
  rw [hset] at h1
  exact kk H1 l1 h1 h3
theorem z_mast (hx : p.tables.exec = Jvm.exec) (hb : c.code = cc) {g : gG} {ad : Nat → Nat} {σ σ0 σ' : SG} {th th0 x z : Int} {sz : Nat} {H0 : Heap} (hd : Dst ad) (hK : KK g s) (hP : va_P g.1 vwCl (MWs g ad σ th) H) (hS : va_S (va_A (MWs g ad σ0 th0) sz) H0 H locs) (pos f n : Nat) (ha : (MWs g ad σ th)[pos]? = some (ad pos, .inl (g.2.1, n, .inl (fun j => zi (σ f j))))) (i : Nat) (hset : (MWs g ad σ th).set pos (ad pos, .inl (g.2.1, n, .inl (fun j => zi (va_up (σ f) i x j)))) = MWs g ad σ' th) (hz : z = (i : Int)) (hi : i < n) (hn : n < 2147483648) (hdg : decode cc pc = .ok (.iastore, 1))
    (kk : ∀ (H : Heap) (locs : List Loc), va_P g.1 vwCl (MWs g ad σ' th) H → va_S (va_A (MWs g ad σ0 th0) sz) H0 H locs → W p l e R s m args below meth c H locs cells slots Q (F0 m (pc + 1) ls rest)) : W p l e R s m args below meth c H locs cells slots Q (F0 m pc ls (.int (zi x) :: .int (zi z) :: .ref (ad pos) :: rest)) := by
  refine z_iast hx hb hK hP (MW_D hd σ σ0 th th0 sz) hS pos ha i hz hi hn hdg (fun H1 l1 h1 _ h3 => ?_)
  rw [hset] at h1
  exact kk H1 l1 h1 h3
theorem z_mzast (hx : p.tables.exec = Jvm.exec) (hb : c.code = cc) {g : gG} {ad : Nat → Nat} {σ σ0 σ' : SG} {th th0 x z : Int} {sz : Nat} {H0 : Heap} (hd : Dst ad) (hK : KK g s) (hP : va_P g.1 vwCl (MWs g ad σ th) H) (hS : va_S (va_A (MWs g ad σ0 th0) sz) H0 H locs) (pos f n : Nat) (ha : (MWs g ad σ th)[pos]? = some (ad pos, .inl (g.2.2.1, n, .inl (fun j => zi (σ f j))))) (i : Nat) (hset : (MWs g ad σ th).set pos (ad pos, .inl (g.2.2.1, n, .inl (fun j => zi (va_up (σ f) i x j)))) = MWs g ad σ' th) (hz : z = (i : Int)) (hi : i < n) (hn : n < 2147483648) (h01 : x = 0 ∨ x = 1) (hdg : decode cc pc = .ok (.bastore, 1))
    (kk : ∀ (H : Heap) (locs : List Loc), va_P g.1 vwCl (MWs g ad σ' th) H → va_S (va_A (MWs g ad σ0 th0) sz) H0 H locs → W p l e R s m args below meth c H locs cells slots Q (F0 m (pc + 1) ls rest)) : W p l e R s m args below meth c H locs cells slots Q (F0 m pc ls (.int (zi x) :: .int (zi z) :: .ref (ad pos) :: rest)) := by
  refine z_zast hx hb hK hP (MW_D hd σ σ0 th th0 sz) hS pos ha i hz hi hn h01 hdg (fun H1 l1 h1 _ h3 => ?_)
  rw [hset] at h1
  exact kk H1 l1 h1 h3
theorem z_xtop {x y : Int32} (h : x = y) (k : W p l e R s m args below meth c H locs cells slots Q (F0 m pc ls (.int y :: rest))) : W p l e R s m args below meth c H locs cells slots Q (F0 m pc ls (.int x :: rest)) := by rw [h]; exact k
end ZMR
/-- a call of the reference that answers an int, from one state to the next -/
abbrev MI (l : Launch) (y : MethodName) (ws : List Cond) (rm : Room) (g : gG) (ad : Nat → Nat) (av : List Value) (sz : Nat) (σ : SG) (th : Int) (σ' : SG) (th' v : Int) : Prop :=
  WI l y ws rm g (.ref (ad 0) :: av) sz (MWs g ad σ th) (fun _ => True) (MWs g ad σ' th') v
