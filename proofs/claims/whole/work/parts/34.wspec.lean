/-! ===== the first k places from f, the rest from u ===== -/
def mx (k : Nat) (f u : Nat → Int) : Nat → Int := fun j => if j < k then f j else u j
theorem mx_0 (f u : Nat → Int) : mx 0 f u = u := by
  funext j
  unfold mx
  rw [if_neg (by omega)]
theorem mx_s (k : Nat) (f u : Nat → Int) : va_up (mx k f u) k (f k) = mx (k + 1) f u := by
  funext j
  unfold va_up mx
  by_cases h : j = k
  · subst h
    rw [if_pos rfl, if_pos (by omega)]
  · rw [if_neg h]
    by_cases h2 : j < k
    · rw [if_pos h2, if_pos (by omega)]
    · rw [if_neg h2, if_neg (by omega)]
theorem mx_in {k j : Nat} (f u : Nat → Int) (h : j < k) : mx k f u j = f j := if_pos h
theorem Nt.mx {f u : Nat → Int} (hf : Nt f) (hu : Nt u) (k : Nat) : Nt (mx k f u) := by
  intro j
  show 0 ≤ (if j < k then f j else u j) ∧ (if j < k then f j else u j) ≤ 40
  split
  · exact hf j
  · exact hu j
theorem Nt.up {u : Nat → Int} (hu : Nt u) (i : Nat) {x : Int} (hx : 0 ≤ x ∧ x ≤ 40) : Nt (va_up u i x) := by
  intro j
  unfold va_up
  split
  · exact hx
  · exact hu j
theorem Nt.c {x : Int} (hx : 0 ≤ x ∧ x ≤ 40) : Nt (fun _ => x) := fun _ => hx
theorem z_D2 {x y : Nat × va_E} {A : Nat → Prop} (h : x.1 ≠ y.1) (hx : A x.1) (hy : A y.1) : va_D A [x, y] := by
  refine ⟨fun i j p q hi hj hpq => ?_, fun k q hk => ?_⟩
  · match i, j, hi, hj with
    | 0, 0, _, _ => rfl
    | 1, 1, _, _ => rfl
    | 0, 1, hi, hj => cases hi; cases hj; exact absurd hpq h
    | 1, 0, hi, hj => cases hi; cases hj; exact absurd hpq.symm h
    | i + 2, _, hi, _ => simp at hi
    | 0, j + 2, _, hj => simp at hj
    | 1, j + 2, _, hj => simp at hj
  · match k, hk with
    | 0, hk => cases hk; exact hx
    | 1, hk => cases hk; exact hy
    | k + 2, hk => simp at hk
theorem z_D1 {x : Nat × va_E} {A : Nat → Prop} (hx : A x.1) : va_D A [x] := by
  refine ⟨fun i j p q hi hj _ => ?_, fun k q hk => ?_⟩
  · match i, j, hi, hj with
    | 0, 0, _, _ => rfl
    | i + 1, _, hi, _ => simp at hi
    | 0, j + 1, _, hj => simp at hj
  · match k, hk with
    | 0, hk => cases hk; exact hx
    | k + 1, hk => simp at hk
theorem z_Dc {x : Nat × va_E} {ws : va_W} {A : Nat → Prop} (h : x.1 ∉ ws.map Prod.fst) (hx : A x.1) (hD : va_D A ws) : va_D A (x :: ws) := by
  refine ⟨fun i j p q hi hj hpq => ?_, fun k q hk => ?_⟩
  · match i, j, hi, hj with
    | 0, 0, _, _ => rfl
    | 0, j + 1, hi, hj =>
      cases hi
      exact absurd (List.mem_map.mpr ⟨q, List.mem_of_getElem? (by simpa using hj), hpq.symm⟩) h
    | i + 1, 0, hi, hj =>
      cases hj
      exact absurd (List.mem_map.mpr ⟨p, List.mem_of_getElem? (by simpa using hi), hpq⟩) h
    | i + 1, j + 1, hi, hj => rw [hD.1 i j p q (by simpa using hi) (by simpa using hj) hpq]
  · match k, hk with
    | 0, hk => cases hk; exact hx
    | k + 1, hk => exact hD.2 k q (by simpa using hk)
theorem z_Dn {ws : va_W} {sz : Nat} (h : (ws.map Prod.fst).Nodup) : va_D (va_A ws sz) ws := by
  have key : ∀ (w : va_W) (A : Nat → Prop), (w.map Prod.fst).Nodup → (∀ x ∈ w, A x.1) → va_D A w := by
    intro w A
    induction w with
    | nil => exact fun _ _ => ⟨fun i j x y hi _ _ => by simp at hi, fun k q hk => by simp at hk⟩
    | cons x w ih =>
      intro hn hA
      rw [List.map_cons, List.nodup_cons] at hn
      exact z_Dc hn.1 (hA x List.mem_cons_self) (ih hn.2 (fun y hy => hA y (List.mem_cons_of_mem _ hy)))
  refine key ws _ h (fun x hx => ?_)
  obtain ⟨k, hk⟩ := List.getElem?_of_mem hx
  exact va_A.in hk
abbrev D3s (q a b : Nat) : Prop := q ≠ a ∧ q ≠ b ∧ a ≠ b
theorem D3s.n {q a b : Nat} (h : D3s q a b) : [q, a, b].Nodup := by simp [h.1, h.2.1, h.2.2]
section ZWN
variable {p : Program} {l : Launch} {e : Env} {R : Room} {s : State} {m : MethodId} {args : Array Value} {below : List Frame} {meth : Method} {c : Code} {H : Heap} {locs : List Loc} {cells slots : Nat} {Q : State → Prop}
variable {cc : ByteArray} {pc : Nat} {ls : Array Slot} {rest : List Value}
theorem z_wnret {S : Type} {w0 : va_W} {w1 : S → va_W} {g : gG} (u : S) (hx : p.tables.exec = Jvm.exec) (hb : c.code = cc) (hr : meth.sig.returnType = none) (hlk : meth.locks = false) (hdg : decode cc pc = .ok (.return_, 1)) (hP : va_P g.1 vwCl (w1 u) H) (hD : va_D (va_A w0 s.heap.size) (w1 u)) (hS : va_S (va_A w0 s.heap.size) s.heap H locs) : W p l e R s m args below meth c H locs cells slots (MQ below (va_Qv (fun _ : S => True) (fun u t => va_P g.1 vwCl (w1 u) t.heap ∧ va_D (va_A w0 s.heap.size) (w1 u)) (va_A w0 s.heap.size)) args s cells slots (va_A w0 s.heap.size)) (F0 m pc ls []) :=
  W.vret hx hb hr (fun t ht _ => ⟨⟨u, rfl, trivial, by show va_P _ _ _ t.heap; rw [ht]; exact hP, hD⟩, hS.F ht⟩) hS.2.2 hdg hlk
end ZWN
