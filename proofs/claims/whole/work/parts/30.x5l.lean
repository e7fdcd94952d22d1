/-! the reference: cells: 0 the object, 1 steps, 2 lengths, 3 parents, 4 isIn, 5 isForbidden, 6 ones, 7 twos, 8 stack, 9 worths, 10 isOfLine; the state as zS, exactly as it lies there -/
def mst (P : Nat → Nat → Nat) (k : Nat) : Int32 := nI (P (k / 7) (k % 7))
theorem mst_at {P : Nat → Nat → Nat} {q i k : Nat} (h : q = 7 * i + k) (h2 : k < 7) : mst P q = nI (P i k) := by
  unfold mst; rw [show q / 7 = i by omega, show q % 7 = k by omega]
theorem mst_up {P : Nat → Nat → Nat} {q i k s : Nat} (h : q = 7 * i + k) (h2 : k < 7) : upd (mst P) q (nI s) = mst (va_up P i (va_up (P i) k s)) := by
  funext j
  by_cases c : j = q
  · rw [c, pk_us, mst_at h h2, va_up_self, va_up_self]
  · rw [pk_un c]
    unfold mst
    by_cases d : j / 7 = i
    · rw [d, va_up_self, va_up_ne _ _ (by omega)]
    · rw [va_up_ne _ _ d]
theorem va_up_id {α : Type} (f : Nat → α) (k : Nat) : va_up f k (f k) = f := by
  funext j
  by_cases c : j = k
  · rw [c, va_up_self]
  · rw [va_up_ne _ _ c]
def mpa (U V : Nat → Nat) (k : Nat) : Int32 := if k % 2 = 0 then xpar (U (k / 2)) else xpar (V (k / 2))
theorem mpa_0 {U V : Nat → Nat} {i : Nat} : mpa U V (2 * i) = xpar (U i) := by unfold mpa; rw [if_pos (by omega), show 2 * i / 2 = i by omega]
theorem mpa_1 {U V : Nat → Nat} {i : Nat} : mpa U V (2 * i + 1) = xpar (V i) := by unfold mpa; rw [if_neg (by omega), show (2 * i + 1) / 2 = i by omega]
theorem mpa_up0 {U V : Nat → Nat} {i u : Nat} : upd (mpa U V) (2 * i) (xpar u) = mpa (va_up U i u) V := by
  funext j
  by_cases c : j = 2 * i
  · rw [c, pk_us, mpa_0, va_up_self]
  · rw [pk_un c]
    unfold mpa
    by_cases d : j % 2 = 0
    · rw [if_pos d, if_pos d, va_up_ne _ _ (by omega)]
    · rw [if_neg d, if_neg d]
theorem mpa_up1 {U V : Nat → Nat} {i u : Nat} : upd (mpa U V) (2 * i + 1) (xpar u) = mpa U (va_up V i u) := by
  funext j
  by_cases c : j = 2 * i + 1
  · rw [c, pk_us, mpa_1, va_up_self]
  · rw [pk_un c]
    unfold mpa
    by_cases d : j % 2 = 0
    · rw [if_pos d, if_pos d]
    · rw [if_neg d, if_neg d, va_up_ne _ _ (by omega)]
theorem mup_b {t : Nat → Bool} {n : Nat} {b : Bool} : upd (fun k => xb (t k)) n (xb b) = fun k => xb (va_up t n b k) := by
  funext k
  by_cases h : k = n
  · subst h; simp [upd, va_up]
  · simp [upd, va_up, h]
/-- row N's first n are t's -/
def mrow (P : Nat → Nat → Nat) (N n : Nat) (t : Nat → Nat) : Nat → Nat → Nat := va_up P N (fun k => if k < n then t k else P N k)
theorem mrow_0 {P : Nat → Nat → Nat} {N : Nat} {t : Nat → Nat} : mrow P N 0 t = P := by
  unfold mrow
  have e : (fun k => if k < 0 then t k else P N k) = P N := by funext k; rw [if_neg (Nat.not_lt_zero k)]
  rw [e, va_up_id]
theorem mrow_at {P : Nat → Nat → Nat} {N n : Nat} {t : Nat → Nat} {k : Nat} : mrow P N n t N k = if k < n then t k else P N k := by unfold mrow; rw [va_up_self]
theorem mrow_ne {P : Nat → Nat → Nat} {N n j : Nat} {t : Nat → Nat} (h : j ≠ N) : mrow P N n t j = P j := va_up_ne _ _ h
theorem mrow_up {P : Nat → Nat → Nat} {N n : Nat} {t : Nat → Nat} : va_up (mrow P N n t) N (va_up (mrow P N n t N) n (t n)) = mrow P N (n + 1) t := by
  funext j
  by_cases c : j = N
  · rw [c, va_up_self]
    funext k
    by_cases d : k = n
    · rw [d, va_up_self, mrow_at, if_pos (by omega)]
    · rw [va_up_ne _ _ d, mrow_at, mrow_at]
      by_cases e : k < n
      · rw [if_pos e, if_pos (by omega)]
      · rw [if_neg e, if_neg (by omega)]
  · rw [va_up_ne _ _ c, mrow_ne c, mrow_ne c]
theorem mrow_self {P : Nat → Nat → Nat} {N n p : Nat} : mrow P N n (P p) p n = P p n := by
  by_cases c : p = N
  · rw [c, mrow_at, if_neg (Nat.lt_irrefl n)]
  · rw [mrow_ne c]
/-- the reference's cells hold a state; tp, g: the stack; W: the worths laid; z: the marks; th: what the last call threw -/
def MX (G : xG) (ad : Nat → Nat) (S : zS) (tp th : Nat) (g : Nat → Int) (W : Nat → Int32) (z : Nat → Bool) (H : Heap) : Prop := zown G ad 11 ∧
  oA G (ad 0) 6 [.ref (ad 1), .ref (ad 2), .int (nI (zN S)), .ref (ad 3), .ref (ad 4), .ref (ad 5), .int (nI (zK S)), .ref (ad 6), .ref (ad 7), .ref (ad 8), .int (nI tp), .ref (ad 9), .ref (ad 10), .int (nI th)] H ∧
  iA G (ad 1) 147 (mst (zP S)) H ∧ iA G (ad 2) 21 (fun j => nI (zL S j)) H ∧ iA G (ad 3) 40 (mpa (zU S) (zV S)) H ∧ zA G (ad 4) 20 (fun j => xb (zI S j)) H ∧ zA G (ad 5) 17 (fun j => xb (zF S j)) H ∧
  iA G (ad 6) 6 (fun j => nI (zO S j)) H ∧ iA G (ad 7) 6 (fun j => nI (zT S j)) H ∧ iA G (ad 8) 8 (fun j => Int32.ofInt (g j)) H ∧ iA G (ad 9) 20 W H ∧ zA G (ad 10) 20 (fun j => xb (z j)) H
/-- a call of the reference: which exception it notes, its answer where it notes none, the state behind -/
def mPost (G : xG) (ad : Nat → Nat) (K : Nat) (A : Int32) (S S2 : zS) : Option Value → Heap → Prop := fun v H1 => ∃ r, v = some (.int r) ∧ (K = 0 → r = A) ∧ ∃ tp g W z, MX G ad (if K = 0 then S2 else S) tp K g W z H1
section MPs
variable {G : xG} {ad : Nat → Nat} {K tp : Nat} {A r : Int32} {S S2 : zS} {g : Nat → Int} {W : Nat → Int32} {z : Nat → Bool} {H1 : Heap}
theorem mP0 (hk : K = 0) (h : MX G ad S2 tp 0 g W z H1) (hr : r = A) : mPost G ad K A S S2 (some (.int r)) H1 := by
  subst hk
  exact ⟨_, rfl, fun _ => hr, tp, g, W, z, by rw [if_pos rfl]; exact h⟩
theorem mP1 (k : Nat) (hk : K = k + 1) (h : MX G ad S tp (k + 1) g W z H1) : mPost G ad K A S S2 (some (.int r)) H1 := by
  subst hk
  exact ⟨_, rfl, fun q => absurd q (Nat.succ_ne_zero k), tp, g, W, z, by rw [if_neg (Nat.succ_ne_zero k)]; exact h⟩
end MPs
theorem xok_most {p m : Int32} {n : Nat} (hn : n ≤ 1000) (hm : m = nI n - nI 1) : m < p ↔ ¬ p < nI n := by
  subst hm
  rw [zofI_sub, Int32.lt_iff_toInt_lt, Int32.lt_iff_toInt_lt, xi_toInt (by omega) (by omega), nI_toInt (by omega)]
  omega
theorem xi_0 {y : Int} (hy : -100000 ≤ y ∧ y ≤ 100000) : Int32.ofInt y = 0 ↔ y = 0 := by
  constructor
  · intro h
    have := congrArg Int32.toInt h
    rw [xi_toInt (by omega) (by omega)] at this
    exact this
  · rintro rfl; rfl
theorem xdiv2l {x y : Int} (hx : -100000 ≤ x ∧ x ≤ 100000) (hy : -100000 ≤ y ∧ y ≤ 100000) : (Int32.ofInt x / Int32.ofInt y).toInt64 = Int64.ofInt (x.tdiv y) := by
  have h1 : (x.tdiv y).natAbs ≤ x.natAbs := by rw [Int.natAbs_tdiv]; exact Nat.div_le_self _ _
  rw [← Int32.ofInt_tdiv (by show (-2147483648 : Int) ≤ x; omega) (by show x ≤ (2147483647 : Int); omega) (by show (-2147483648 : Int) ≤ y; omega) (by show y ≤ (2147483647 : Int); omega)]
  exact xz2l (by omega) (by omega)
theorem xlk_hi {z : Int} (h : -1000000000000 ≤ z ∧ z ≤ 1000000000000) : lg_cmp (Int64.ofInt z) (100000) ≤ 0 ↔ z ≤ 100000 := by
  rw [lg_cmp_le, Int64.le_iff_toInt_le, xl_toInt h.1 h.2]; exact Iff.rfl
theorem xlk_lo {z : Int} (h : -1000000000000 ≤ z ∧ z ≤ 1000000000000) : 0 ≤ lg_cmp (Int64.ofInt z) (-100000) ↔ -100000 ≤ z := by
  rw [lg_cmp_ge, Int64.le_iff_toInt_le, xl_toInt h.1 h.2]; exact Iff.rfl
theorem mrun_lo {t : Nat → Nat} {v i d : Nat} {g : Nat → Int} (hd : xdep t i = some d) (h : t i < 10) : (xrun t v g (i + 1)).1 = va_up (xrun t v g i).1 d (t i : Int) := by
  show (xstep (t i) v (xrun t v g i)).1 = _
  unfold xstep
  rw [if_pos h, xrun_2 hd]
theorem mrun_val {t : Nat → Nat} {v i d : Nat} {g : Nat → Int} (hd : xdep t i = some d) (h : t i = 10) : (xrun t v g (i + 1)).1 = va_up (xrun t v g i).1 d (v : Int) := by
  show (xstep (t i) v (xrun t v g i)).1 = _
  unfold xstep
  rw [if_neg (by omega), if_pos h, xrun_2 hd]
theorem mrun_op {t : Nat → Nat} {v i d : Nat} {g : Nat → Int} (hd : xdep t i = some d) (h : ¬ t i ≤ 10) : (xrun t v g (i + 1)).1 = va_up (xrun t v g i).1 (d - 1 - 1) (xcl (xop (t i) ((xrun t v g i).1 (d - 1 - 1)) ((xrun t v g i).1 (d - 1)))) := by
  show (xstep (t i) v (xrun t v g i)).1 = _
  unfold xstep
  rw [if_neg (by omega), if_neg (by omega), xrun_2 hd]
  rfl
theorem mbid_val {S : zS} {i v : Nat} {z : Int} (h : xbd z = xbid (zP S i) (zL S i) v) : nI (zbid S i v) = Int32.ofInt (xbd z) := by rw [← zbid_I, h]
theorem xhas_y1 {t : Nat → Nat} {s n : Nat} (h : xhas t s n = true) : xhas t s (n + 1) = true := by unfold xhas; rw [h]; rfl
theorem xhas_y2 {t : Nat → Nat} {s n : Nat} (h : t n = s) : xhas t s (n + 1) = true := by unfold xhas; rw [decide_eq_true h, Bool.or_true]
theorem xhas_no {t : Nat → Nat} {s n : Nat} (h : xhas t s n = false) (h2 : ¬ t n = s) : xhas t s (n + 1) = false := by unfold xhas; rw [h, decide_eq_false h2]; rfl
theorem xany_y1 {t : Nat → Nat} {n s : Nat} {f : Nat → Bool} (h : xany t n f s = true) : xany t n f (s + 1) = true := by unfold xany; rw [h]; rfl
theorem xany_y2 {t : Nat → Nat} {n s : Nat} {f : Nat → Bool} (h : f s = true) (h2 : xhas t s n = true) : xany t n f (s + 1) = true := by unfold xany; rw [h, h2]; simp
theorem xany_n1 {t : Nat → Nat} {n s : Nat} {f : Nat → Bool} (h0 : xany t n f s = false) (h : f s = false) : xany t n f (s + 1) = false := by unfold xany; rw [h0, h]; rfl
theorem xany_n2 {t : Nat → Nat} {n s : Nat} {f : Nat → Bool} (h0 : xany t n f s = false) (h : xhas t s n = false) : xany t n f (s + 1) = false := by unfold xany; rw [h0, h]; simp
/-- of two programs: the same as far as i -/
def zsm (S : zS) (p q i : Nat) : Bool := decide (zL S p = zL S q) && xsame (fun x y => decide (x = y)) (zP S p) (zP S q) i
theorem zsm_up1 {S : zS} {p q i : Nat} (h : zsm S p q i = true) (h2 : zP S p i = zP S q i) : zsm S p q (i + 1) = true := by
  unfold zsm at h ⊢
  rw [Bool.and_eq_true] at h ⊢
  refine ⟨h.1, ?_⟩
  unfold xsame
  rw [h.2, decide_eq_true h2]; rfl
theorem zsm_up0 {S : zS} {p q i : Nat} (h2 : ¬ zP S p i = zP S q i) : zsm S p q (i + 1) = false := by
  unfold zsm xsame
  rw [decide_eq_false h2]; simp
theorem zsm_le {S : zS} {p q i : Nat} (h : zsm S p q i = false) (hi : i ≤ zL S p) : zsame S p q = false := by
  cases c : zsame S p q with
  | false => rfl
  | true =>
    exfalso
    unfold zsame at c
    unfold zsm at h
    rw [Bool.and_eq_true] at c
    rw [c.1, Bool.true_and] at h
    have := xsame_iff.mp c.2
    rw [xsame_iff.mpr (fun k hk => this k (by omega))] at h
    cases h
/-- the last strategy with a program: as no two are the same, the first -/
def zlst (S : zS) (p : Nat) : Nat → Nat
  | 0 => 0
  | i + 1 => if zsame S i p = true then i + 1 else zlst S p i
theorem zsame_iff {S : zS} {i j : Nat} : zsame S i j = true ↔ zL S i = zL S j ∧ ∀ k, k < zL S i → zP S i k = zP S j k := by
  unfold zsame
  rw [Bool.and_eq_true, decide_eq_true_iff, xsame_iff]
  exact ⟨fun h => ⟨h.1, fun k hk => of_decide_eq_true (h.2 k hk)⟩, fun h => ⟨h.1, fun k hk => decide_eq_true (h.2 k hk)⟩⟩
theorem zlst_eq {S : zS} (hW : zW S) (p : Nat) : ∀ {n : Nat}, n ≤ zN S → zlst S p n = zfnd S (zP S p) (zL S p) n
  | 0, _ => rfl
  | n + 1, hn => by
    have ih := zlst_eq hW p (n := n) (by omega)
    unfold zlst zfnd
    rw [ih]
    by_cases c : zsame S n p = true
    · rw [if_pos c]
      have h0 : zfnd S (zP S p) (zL S p) n = 0 := by
        refine zfnd_none (fun j hj => ?_)
        show zsame S j p = false
        cases d : zsame S j p with
        | false => rfl
        | true =>
          exfalso
          have e := hW.2.2.2.2.2.1 j n hj (by omega)
          have c := zsame_iff.mp c
          have d := zsame_iff.mp d
          rw [zsame_iff.mpr ⟨by omega, fun k hk => by rw [d.2 k hk, c.2 k (by omega)]⟩] at e
          cases e
      rw [if_neg (fun q => q h0), if_pos (show zpsame S (zP S p) (zL S p) n = true from c)]
    · rw [if_neg c]
      by_cases d : zfnd S (zP S p) (zL S p) n = 0
      · rw [if_neg (fun q => q d), if_neg (show ¬ zpsame S (zP S p) (zL S p) n = true from c), d]
      · rw [if_pos d]
