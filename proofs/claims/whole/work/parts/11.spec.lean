/-! the mathematics of programs: steps as numbers, a stack as a function and a depth -/
def xcl (z : Int) : Int := if 100000 < z then 100000 else if z < -100000 then -100000 else z
def xop (s : Nat) (x y : Int) : Int := if s = 11 then x + y else if s = 12 then x - y else if s = 13 then x * y else if s = 14 then (if y = 0 then 0 else x.tdiv y) else if s = 15 then (if x ≤ y then x else y) else (if y ≤ x then x else y)
def xstep (s v : Nat) (q : (Nat → Int) × Nat) : (Nat → Int) × Nat :=
  if s < 10 then (va_up q.1 q.2 (s : Int), q.2 + 1) else if s = 10 then (va_up q.1 q.2 (v : Int), q.2 + 1) else (va_up q.1 (q.2 - 2) (xcl (xop s (q.1 (q.2 - 2)) (q.1 (q.2 - 1)))), q.2 - 1)
def xrun (t : Nat → Nat) (v : Nat) (g : Nat → Int) : Nat → (Nat → Int) × Nat
  | 0 => (g, 0)
  | k + 1 => xstep (t k) v (xrun t v g k)
def xdep (t : Nat → Nat) : Nat → Option Nat
  | 0 => some 0
  | k + 1 => match xdep t k with
    | none => none
    | some d => if t k ≤ 10 then some (d + 1) else if d < 2 then none else some (d - 1)
def xright (t : Nat → Nat) (n : Nat) : Bool := decide (xdep t n = some 1)
def xbd (z : Int) : Int := if z < 0 then 0 else if 999 < z then 999 else z
def xbid (t : Nat → Nat) (n v : Nat) : Int := xbd ((xrun t v (fun _ => 0) n).1 0)
theorem xdep_succ {t : Nat → Nat} {k d : Nat} (h : xdep t (k + 1) = some d) : ∃ e, xdep t k = some e ∧ ((t k ≤ 10 ∧ d = e + 1) ∨ (¬ t k ≤ 10 ∧ 2 ≤ e ∧ d = e - 1)) := by
  unfold xdep at h
  cases hk : xdep t k with
  | none => rw [hk] at h; cases h
  | some e =>
    rw [hk] at h
    refine ⟨e, rfl, ?_⟩
    by_cases c : t k ≤ 10
    · simp only [c, if_true] at h
      exact Or.inl ⟨c, by simpa using h.symm⟩
    · by_cases c2 : e < 2
      · simp only [c, c2, if_true, if_false] at h; cases h
      · simp only [c, c2, if_false] at h
        exact Or.inr ⟨c, by omega, by simpa using h.symm⟩
theorem xdep_le {t : Nat → Nat} : ∀ {k d : Nat}, xdep t k = some d → d ≤ k
  | 0, d, h => by unfold xdep at h; have : 0 = d := by simpa using h
                  omega
  | k + 1, d, h => by
    obtain ⟨e, he, h2⟩ := xdep_succ h
    have := xdep_le he
    omega
/-- what holds below a right place is right -/
theorem xdep_below {t : Nat → Nat} {n d : Nat} (h : xdep t n = some d) : ∀ k, k ≤ n → ∃ e, xdep t k = some e := by
  induction n generalizing d with
  | zero => intro k hk; exact ⟨d, by rw [show k = 0 by omega]; exact h⟩
  | succ n ih =>
    intro k hk
    obtain ⟨e, he, -⟩ := xdep_succ h
    rcases Nat.lt_or_ge k (n + 1) with c | c
    · exact ih he k (by omega)
    · exact ⟨d, by rw [show k = n + 1 by omega]; exact h⟩
theorem xcl_in (z : Int) : -100000 ≤ xcl z ∧ xcl z ≤ 100000 := by unfold xcl; split <;> (try split) <;> omega
theorem xrun_2 {t : Nat → Nat} {v : Nat} {g : Nat → Int} : ∀ {k d : Nat}, xdep t k = some d → (xrun t v g k).2 = d
  | 0, d, h => by unfold xdep at h; have : 0 = d := by simpa using h
                  subst this; rfl
  | k + 1, d, h => by
    obtain ⟨e, he, h2⟩ := xdep_succ h
    have ih := xrun_2 (v := v) (g := g) he
    show (xstep (t k) v (xrun t v g k)).2 = d
    unfold xstep
    rcases h2 with ⟨c, rfl⟩ | ⟨c, c2, rfl⟩
    · by_cases c3 : t k < 10
      · simp only [c3, if_true]; rw [ih]
      · have c4 : t k = 10 := by omega
        simp only [c4, if_true, show ¬ (10 < 10) by omega, if_false]; rw [ih]
    · simp only [show ¬ (t k < 10) by omega, show ¬ (t k = 10) by omega, if_false]; rw [ih]
/-- what lies on the stack is within the bounds -/
theorem xrun_in {t : Nat → Nat} {v : Nat} {g : Nat → Int} (hv : v ≤ 99) : ∀ {k d : Nat}, xdep t k = some d → ∀ j, j < d → -100000 ≤ (xrun t v g k).1 j ∧ (xrun t v g k).1 j ≤ 100000
  | 0, d, h, j, hj => by unfold xdep at h; have : 0 = d := by simpa using h
                         omega
  | k + 1, d, h, j, hj => by
    obtain ⟨e, he, h2⟩ := xdep_succ h
    have ih := xrun_in (g := g) hv he
    have i2 := xrun_2 (v := v) (g := g) he
    show -100000 ≤ (xstep (t k) v (xrun t v g k)).1 j ∧ (xstep (t k) v (xrun t v g k)).1 j ≤ 100000
    unfold xstep
    rcases h2 with ⟨c, rfl⟩ | ⟨c, c2, rfl⟩
    · by_cases c3 : t k < 10
      · simp only [c3, if_true, va_up, i2]
        split
        · omega
        · exact ih j (by omega)
      · have c4 : t k = 10 := by omega
        simp only [c4, if_true, show ¬ (10 < 10) by omega, if_false, va_up, i2]
        split
        · omega
        · exact ih j (by omega)
    · simp only [show ¬ (t k < 10) by omega, show ¬ (t k = 10) by omega, if_false, va_up, i2]
      split
      · exact xcl_in _
      · exact ih j (by omega)
/-- it doesn't matter what lay there before -/
theorem xrun_g {t : Nat → Nat} {v : Nat} {g g2 : Nat → Int} : ∀ {k d : Nat}, xdep t k = some d → ∀ j, j < d → (xrun t v g k).1 j = (xrun t v g2 k).1 j
  | 0, d, h, j, hj => by unfold xdep at h; have : 0 = d := by simpa using h
                         omega
  | k + 1, d, h, j, hj => by
    obtain ⟨e, he, h2⟩ := xdep_succ h
    have ih := xrun_g (v := v) (g := g) (g2 := g2) he
    have i2 := xrun_2 (v := v) (g := g) he
    have i3 := xrun_2 (v := v) (g := g2) he
    show (xstep (t k) v (xrun t v g k)).1 j = (xstep (t k) v (xrun t v g2 k)).1 j
    unfold xstep
    rcases h2 with ⟨c, rfl⟩ | ⟨c, c2, rfl⟩
    · by_cases c3 : t k < 10
      · simp only [c3, if_true, va_up, i2, i3]
        split
        · rfl
        · exact ih j (by omega)
      · have c4 : t k = 10 := by omega
        simp only [c4, if_true, show ¬ (10 < 10) by omega, if_false, va_up, i2, i3]
        split
        · rfl
        · exact ih j (by omega)
    · simp only [show ¬ (t k < 10) by omega, show ¬ (t k = 10) by omega, if_false, va_up, i2, i3]
      split
      · rw [ih (e - 2) (by omega), ih (e - 1) (by omega)]
      · exact ih j (by omega)
theorem xright_1 {t : Nat → Nat} {n : Nat} (h : xright t n = true) : xdep t n = some 1 := by simpa [xright] using h
theorem xbid_g {t : Nat → Nat} {n v : Nat} (g : Nat → Int) (h : xright t n = true) : xbd ((xrun t v g n).1 0) = xbid t n v := by
  unfold xbid
  rw [xrun_g (g := g) (g2 := fun _ => 0) (xright_1 h) 0 (by omega)]
theorem xbd_in (z : Int) : 0 ≤ xbd z ∧ xbd z ≤ 999 := by unfold xbd; split <;> (try split) <;> omega
/-- only the steps up to the length count -/
theorem xdep_cong {t t2 : Nat → Nat} : ∀ {n : Nat}, (∀ k, k < n → t k = t2 k) → xdep t n = xdep t2 n
  | 0, _ => rfl
  | n + 1, h => by
    unfold xdep
    rw [xdep_cong (fun k hk => h k (by omega)), h n (by omega)]
theorem xrun_cong {t t2 : Nat → Nat} {v : Nat} {g : Nat → Int} : ∀ {n : Nat}, (∀ k, k < n → t k = t2 k) → xrun t v g n = xrun t2 v g n
  | 0, _ => rfl
  | n + 1, h => by
    unfold xrun
    rw [xrun_cong (fun k hk => h k (by omega)), h n (by omega)]
theorem xright_cong {t t2 : Nat → Nat} {n : Nat} (h : ∀ k, k < n → t k = t2 k) : xright t n = xright t2 n := by unfold xright; rw [xdep_cong h]
theorem xbid_cong {t t2 : Nat → Nat} {n v : Nat} (h : ∀ k, k < n → t k = t2 k) : xbid t n v = xbid t2 n v := by unfold xbid; rw [xrun_cong h]
/-- two rows that are the same up to a length -/
def xsame {α : Type} (e : α → α → Bool) (f g : Nat → α) : Nat → Bool
  | 0 => true
  | n + 1 => xsame e f g n && e (f n) (g n)
theorem xsame_iff {α : Type} {e : α → α → Bool} {f g : Nat → α} : ∀ {n : Nat}, xsame e f g n = true ↔ ∀ k, k < n → e (f k) (g k) = true
  | 0 => ⟨fun _ k hk => absurd hk (Nat.not_lt_zero k), fun _ => rfl⟩
  | n + 1 => by
    unfold xsame
    rw [Bool.and_eq_true, xsame_iff]
    exact ⟨fun h k hk => by rcases Nat.lt_or_ge k n with c | c; exact h.1 k c; rw [show k = n by omega]; exact h.2, fun h => ⟨fun k hk => h k (by omega), h n (by omega)⟩⟩
/-- the bits of a program's steps -/
def xbit (s : Nat) : Int32 := nI 1 <<< (nI s &&& 31)
def xbits (t : Nat → Nat) : Nat → Int32
  | 0 => nI 0
  | n + 1 => xbits t n ||| xbit (t n)
theorem xbits_cong {t t2 : Nat → Nat} : ∀ {n : Nat}, (∀ k, k < n → t k = t2 k) → xbits t n = xbits t2 n
  | 0, _ => rfl
  | n + 1, h => by unfold xbits; rw [xbits_cong (fun k hk => h k (by omega)), h n (by omega)]
theorem xbits_up {t : Nat → Nat} {n s : Nat} : xbits (va_up t n s) (n + 1) = xbits t n ||| xbit s := by
  show xbits (va_up t n s) n ||| xbit (va_up t n s n) = _
  rw [xbits_cong (t2 := t) (fun k hk => va_up_ne _ _ (by omega)), va_up_self]
theorem upd_nI {t : Nat → Nat} {n s : Nat} : upd (fun k => nI (t k)) n (nI s) = fun k => nI (va_up t n s k) := by
  funext k
  by_cases h : k = n
  · subst h; simp [upd, va_up]
  · simp [upd, va_up, h]
theorem upd_ofInt {t : Nat → Int} {n : Nat} {s : Int} : upd (fun k => Int32.ofInt (t k)) n (Int32.ofInt s) = fun k => Int32.ofInt (va_up t n s k) := by
  funext k
  by_cases h : k = n
  · subst h; simp [upd, va_up]
  · simp [upd, va_up, h]
theorem xlt2 {D : va_G} {cl : List vw_C} {q : Nat × va_E} {H : Heap} {b : Nat} (h : va_at D cl q H) (hb : H.size ≤ b) : q.1 ≠ b := Nat.ne_of_lt (Nat.lt_of_lt_of_le h.lt hb)
section XR3
variable {p : Program} {l : Launch} {e : Env} {R : Room} {s : State} {m : MethodId} {args : Array Value} {below : List Frame} {meth : Method} {c : Code} {H : Heap} {locs : List Loc} {cells slots : Nat} {Q : State → Prop}
variable {cc : ByteArray} {pc : Nat} {ls : Array Slot} {rest : List Value} {a b : Nat}
theorem x_iaddn (hx : p.tables.exec = Jvm.exec) (hb : c.code = cc) (hdg : decode cc pc = .ok (.iadd, 1)) (k : W p l e R s m args below meth c H locs cells slots Q (F0 m (pc + 1) ls (.int (nI (a + b)) :: rest))) : W p l e R s m args below meth c H locs cells slots Q (F0 m pc ls (.int (nI b) :: .int (nI a) :: rest)) :=
  lv_iadd hx hb hdg (by rw [nI_add]; exact k)
theorem x_imuln (hx : p.tables.exec = Jvm.exec) (hb : c.code = cc) (hdg : decode cc pc = .ok (.imul, 1)) (k : W p l e R s m args below meth c H locs cells slots Q (F0 m (pc + 1) ls (.int (nI (a * b)) :: rest))) : W p l e R s m args below meth c H locs cells slots Q (F0 m pc ls (.int (nI b) :: .int (nI a) :: rest)) :=
  lv_imul hx hb hdg (by rw [pk_mul]; exact k)
theorem x_isubn (hx : p.tables.exec = Jvm.exec) (hb : c.code = cc) (hdg : decode cc pc = .ok (.isub, 1)) (h : b ≤ a) (k : W p l e R s m args below meth c H locs cells slots Q (F0 m (pc + 1) ls (.int (nI (a - b)) :: rest))) : W p l e R s m args below meth c H locs cells slots Q (F0 m pc ls (.int (nI b) :: .int (nI a) :: rest)) :=
  lv_isub hx hb hdg (by rw [pk_sub h]; exact k)
theorem x_idivn (hx : p.tables.exec = Jvm.exec) (hb : c.code = cc) (hdg : decode cc pc = .ok (.idiv, 1)) (ha : a < 2 ^ 31) (h0 : 0 < b) (hb2 : b < 2 ^ 31) (k : W p l e R s m args below meth c H locs cells slots Q (F0 m (pc + 1) ls (.int (nI (a / b)) :: rest))) : W p l e R s m args below meth c H locs cells slots Q (F0 m pc ls (.int (nI b) :: .int (nI a) :: rest)) :=
  lv_idiv hx hb hdg (nI_ne0 h0 hb2) (by rw [pk_div ha h0 hb2]; exact k)
end XR3
theorem xdec {d : Nat} (h : 1 ≤ d) : nI d + Int32.ofInt (-1) = nI (d - 1) := by
  obtain ⟨n, rfl⟩ : ∃ n, d = n + 1 := ⟨d - 1, by omega⟩
  exact pk_m1 n
theorem xdep_put {t : Nat → Nat} {i d : Nat} (hd : xdep t i = some d) (h : t i ≤ 10) : xdep t (i + 1) = some (d + 1) := by
  unfold xdep; rw [hd]; simp [h]
theorem xdep_op {t : Nat → Nat} {i d : Nat} (hd : xdep t i = some d) (h : ¬ t i ≤ 10) (h2 : 2 ≤ d) : xdep t (i + 1) = some (d - 1) := by
  unfold xdep; rw [hd]; simp [h, show ¬ d < 2 by omega]
theorem xright_bad {t : Nat → Nat} {i n d : Nat} (hd : xdep t i = some d) (h : ¬ t i ≤ 10) (h2 : d < 2) (hi : i < n) : xright t n = false := by
  refine Bool.eq_false_iff.mpr (fun z => ?_)
  obtain ⟨e, he⟩ := xdep_below (xright_1 z) (i + 1) hi
  obtain ⟨d2, h3, h4⟩ := xdep_succ he
  rw [hd] at h3
  cases h3
  omega
theorem xright_is {t : Nat → Nat} {n d : Nat} (hd : xdep t n = some d) : xright t n = decide (d = 1) := by
  unfold xright; rw [hd]; by_cases h : d = 1 <;> simp [h]
/-- what a step of a right program finds -/
theorem xperf {t : Nat → Nat} {n v i : Nat} {g : Nat → Int} (h : xright t n = true) (hn : n ≤ 7) (hv : v ≤ 99) (hi : i < n) : (t i ≤ 10 → (xrun t v g i).2 < 7) ∧ (11 ≤ t i → 2 ≤ (xrun t v g i).2 ∧ (-100000 ≤ (xrun t v g i).1 ((xrun t v g i).2 - 2) ∧ (xrun t v g i).1 ((xrun t v g i).2 - 2) ≤ 100000) ∧ -100000 ≤ (xrun t v g i).1 ((xrun t v g i).2 - 1) ∧ (xrun t v g i).1 ((xrun t v g i).2 - 1) ≤ 100000) := by
  obtain ⟨e, he⟩ := xdep_below (xright_1 h) (i + 1) hi
  obtain ⟨d, h3, h4⟩ := xdep_succ he
  have h5 := xdep_le h3
  have h6 := xrun_2 (v := v) (g := g) h3
  have h7 := xrun_in (g := g) hv h3
  rw [h6]
  exact ⟨fun _ => by omega, fun c => ⟨by omega, h7 _ (by omega), h7 _ (by omega)⟩⟩
