/-! the state of the game, as both classes hold it: strategies stored; lengths and steps of the programs (20: the draft); first and second parent + 1; the pool; the forbidden steps; the pairs told -/
abbrev zS : Type := Nat × (Nat → Nat) × (Nat → Nat → Nat) × (Nat → Nat) × (Nat → Nat) × (Nat → Bool) × (Nat → Bool) × Nat × (Nat → Nat) × (Nat → Nat)
abbrev zN (S : zS) : Nat := S.1
abbrev zL (S : zS) : Nat → Nat := S.2.1
abbrev zP (S : zS) : Nat → Nat → Nat := S.2.2.1
abbrev zU (S : zS) : Nat → Nat := S.2.2.2.1
abbrev zV (S : zS) : Nat → Nat := S.2.2.2.2.1
abbrev zI (S : zS) : Nat → Bool := S.2.2.2.2.2.1
abbrev zF (S : zS) : Nat → Bool := S.2.2.2.2.2.2.1
abbrev zK (S : zS) : Nat := S.2.2.2.2.2.2.2.1
abbrev zO (S : zS) : Nat → Nat := S.2.2.2.2.2.2.2.2.1
abbrev zT (S : zS) : Nat → Nat := S.2.2.2.2.2.2.2.2.2
def xpar (k : Nat) : Int32 := if k = 0 then -1 else nI (k - 1)
def xct (p : Nat → Bool) : Nat → Nat
  | 0 => 0
  | n + 1 => xct p n + (if p n = true then 1 else 0)
theorem xct_le (p : Nat → Bool) : ∀ n, xct p n ≤ n
  | 0 => Nat.le_refl _
  | n + 1 => by have := xct_le p n; unfold xct; split <;> omega
theorem xct_cong {p q : Nat → Bool} : ∀ {n : Nat}, (∀ k, k < n → p k = q k) → xct p n = xct q n
  | 0, _ => rfl
  | n + 1, h => by unfold xct; rw [xct_cong (fun k hk => h k (by omega)), h n (by omega)]
def zeq (a b : Nat) : Bool := decide (a = b)
/-- programs i and j are the same -/
def zsame (S : zS) (i j : Nat) : Bool := decide (zL S i = zL S j) && xsame (fun x y => decide (x = y)) (zP S i) (zP S j) (zL S i)
/-- strategies i and j bid the same -/
def zalike (S : zS) (i j : Nat) : Bool := xsame (fun x y : Int => decide (x = y)) (xbid (zP S i) (zL S i)) (xbid (zP S j) (zL S j)) 100
/-- a program has a step -/
def xhas (t : Nat → Nat) (s : Nat) : Nat → Bool
  | 0 => false
  | n + 1 => xhas t s n || decide (t n = s)
theorem xhas_iff {t : Nat → Nat} {s : Nat} : ∀ {n : Nat}, xhas t s n = true ↔ ∃ k, k < n ∧ t k = s
  | 0 => ⟨fun h => (by cases h), fun ⟨k, hk, _⟩ => absurd hk (Nat.not_lt_zero k)⟩
  | n + 1 => by
    unfold xhas
    rw [Bool.or_eq_true, xhas_iff, decide_eq_true_iff]
    exact ⟨fun h => h.elim (fun ⟨k, hk, e⟩ => ⟨k, by omega, e⟩) (fun e => ⟨n, by omega, e⟩), fun ⟨k, hk, e⟩ => by rcases Nat.lt_or_ge k n with c | c; exact Or.inl ⟨k, c, e⟩; exact Or.inr (by rw [show n = k by omega]; exact e)⟩
theorem xhas_cong {t u : Nat → Nat} {s : Nat} : ∀ {n : Nat}, (∀ k, k < n → t k = u k) → xhas t s n = xhas u s n
  | 0, _ => rfl
  | n + 1, h => by unfold xhas; rw [xhas_cong (fun k hk => h k (by omega)), h n (by omega)]
/-- a strategy's line has a step: itself, or a parent's line (f: how far back) -/
def zline (S : zS) (s : Nat) : Nat → Nat → Bool
  | 0, _ => false
  | f + 1, i => xhas (zP S i) s (zL S i) || ((decide (zU S i ≠ 0) && zline S s f (zU S i - 1)) || (decide (zV S i ≠ 0) && zline S s f (zV S i - 1)))
/-- what all states keep -/
def zW (S : zS) : Prop := zN S ≤ 20 ∧ (∀ i, zL S i ≤ 7) ∧ (∀ i k, zP S i k ≤ 16) ∧ (∀ i, i < zN S → xright (zP S i) (zL S i) = true) ∧ (∀ i, i < zN S → zU S i ≤ i ∧ zV S i ≤ i) ∧ (∀ i j, i < j → j < zN S → zsame S i j = false) ∧ xct (zI S) (zN S) ≤ 8 ∧ zK S ≤ 6 ∧ ∀ j, zO S j ≤ 99 ∧ zT S j ≤ 99
theorem zline_fuel {S : zS} (hW : zW S) {s : Nat} : ∀ (f g i : Nat), i < zN S → i < f → i < g → zline S s f i = zline S s g i
  | 0, g, i, _, h, _ => absurd h (Nat.not_lt_zero i)
  | f + 1, 0, i, _, _, h => absurd h (Nat.not_lt_zero i)
  | f + 1, g + 1, i, hi, h1, h2 => by
    obtain ⟨a1, a2⟩ := hW.2.2.2.2.1 i hi
    unfold zline
    congr 1
    congr 1
    · by_cases c : zU S i = 0
      · simp [c]
      · rw [zline_fuel hW f g (zU S i - 1) (by omega) (by omega) (by omega)]
    · by_cases c : zV S i = 0
      · simp [c]
      · rw [zline_fuel hW f g (zV S i - 1) (by omega) (by omega) (by omega)]
/-- an int whose bits 0 to 16 are f, all others 0 -/
def zbits (x : Int32) (f : Nat → Bool) : Prop := ∀ j, x.toBitVec.getLsbD j = (decide (j < 17) && f j)
theorem zbits_ext {x : Int32} {f g : Nat → Bool} (h : zbits x f) (hg : ∀ j, j < 17 → f j = g j) : zbits x g := fun j => by
  rw [h j]
  by_cases c : j < 17
  · rw [hg j c]
  · simp [c]
theorem zbits_bit {s : Nat} (hs : s < 17) : zbits (xbit s) (fun j => decide (s = j)) := by
  intro j
  unfold xbit
  have e : nI 1 <<< (nI s &&& 31) = nI (2 ^ s) := by
    rcases (show s = 0 ∨ s = 1 ∨ s = 2 ∨ s = 3 ∨ s = 4 ∨ s = 5 ∨ s = 6 ∨ s = 7 ∨ s = 8 ∨ s = 9 ∨ s = 10 ∨ s = 11 ∨ s = 12 ∨ s = 13 ∨ s = 14 ∨ s = 15 ∨ s = 16 by omega) with rfl | rfl | rfl | rfl | rfl | rfl | rfl | rfl | rfl | rfl | rfl | rfl | rfl | rfl | rfl | rfl | rfl <;> decide
  rw [e]
  show (BitVec.ofNat 32 (2 ^ s)).getLsbD j = _
  rw [BitVec.getLsbD_ofNat, Nat.testBit_two_pow]
  by_cases c : s = j
  · subst c; simp [hs]; omega
  · simp [c]
theorem zbits_or {x y : Int32} {f g : Nat → Bool} (h : zbits x f) (h2 : zbits y g) : zbits (x ||| y) (fun j => f j || g j) := fun j => by
  show (x.toBitVec ||| y.toBitVec).getLsbD j = _
  rw [BitVec.getLsbD_or, h j, h2 j, Bool.and_or_distrib_left]
theorem zbits_and {x y : Int32} {f g : Nat → Bool} (h : zbits x f) (h2 : zbits y g) : zbits (x &&& y) (fun j => f j && g j) := fun j => by
  show (x.toBitVec &&& y.toBitVec).getLsbD j = _
  rw [BitVec.getLsbD_and, h j, h2 j]
  cases decide (j < 17) <;> simp
theorem zbits_andn {x y : Int32} {f g : Nat → Bool} (h : zbits x f) (h2 : zbits y g) : zbits (x &&& (y ^^^ (-1))) (fun j => f j && !g j) := fun j => by
  show (x.toBitVec &&& (y.toBitVec ^^^ (-1 : Int32).toBitVec)).getLsbD j = _
  rw [BitVec.getLsbD_and, BitVec.getLsbD_xor, h j, h2 j]
  have e : (-1 : Int32).toBitVec = BitVec.allOnes 32 := by decide
  rw [e, BitVec.getLsbD_allOnes]
  by_cases c : j < 17
  · simp [c, show j < 32 by omega]
  · simp [c]
theorem zbits_0 {x : Int32} {f : Nat → Bool} (h : zbits x f) : x = 0 ↔ ∀ j, j < 17 → f j = false := by
  constructor
  · rintro rfl j hj
    have := h j
    rw [show (0 : Int32).toBitVec = 0#32 from rfl, BitVec.getLsbD_zero] at this
    simpa [hj] using this.symm
  · intro hf
    apply Int32.toBitVec.inj
    apply BitVec.eq_of_getLsbD_eq
    intro j hj
    rw [h j]
    show _ = (0#32).getLsbD j
    rw [BitVec.getLsbD_zero]
    by_cases c : j < 17
    · simp [hf j c]
    · simp [c]
theorem zbits_zero : zbits (nI 0) (fun _ => false) := fun j => by
  show (BitVec.ofNat 32 0).getLsbD j = _
  simp
theorem zbits_prog {t : Nat → Nat} (ht : ∀ k, t k ≤ 16) : ∀ n, zbits (xbits t n) (fun j => xhas t j n)
  | 0 => zbits_zero
  | n + 1 => by
    unfold xbits
    have h1 := zbits_or (zbits_prog ht n) (zbits_bit (s := t n) (by have := ht n; omega))
    exact zbits_ext h1 (fun j _ => rfl)
/-- a program has one of a set of steps -/
def xany (t : Nat → Nat) (n : Nat) (f : Nat → Bool) : Nat → Bool
  | 0 => false
  | s + 1 => xany t n f s || (f s && xhas t s n)
theorem xany_iff {t : Nat → Nat} {n : Nat} {f : Nat → Bool} : ∀ {s : Nat}, xany t n f s = true ↔ ∃ j, j < s ∧ f j = true ∧ xhas t j n = true
  | 0 => ⟨fun h => (by cases h), fun ⟨k, hk, _⟩ => absurd hk (Nat.not_lt_zero k)⟩
  | s + 1 => by
    unfold xany
    rw [Bool.or_eq_true, xany_iff, Bool.and_eq_true]
    exact ⟨fun h => h.elim (fun ⟨k, hk, e⟩ => ⟨k, by omega, e⟩) (fun e => ⟨s, by omega, e⟩), fun ⟨k, hk, e⟩ => by rcases Nat.lt_or_ge k s with c | c; exact Or.inl ⟨k, c, e⟩; exact Or.inr (by rw [show s = k by omega]; exact e)⟩
/-- program i has a forbidden step -/
def zbad (S : zS) (i : Nat) : Bool := xany (zP S i) (zL S i) (zF S) 17
theorem zbits_any {t : Nat → Nat} {n : Nat} {f : Nat → Bool} {x : Int32} (ht : ∀ k, t k ≤ 16) (h : zbits x f) : decide (¬ (xbits t n &&& x) = 0) = xany t n f 17 := by
  have h1 := zbits_and (zbits_prog ht n) h
  by_cases c : xany t n f 17 = true
  · rw [c]
    obtain ⟨j, hj, h2, h3⟩ := xany_iff.mp c
    refine decide_eq_true (fun z => ?_)
    have := (zbits_0 h1).mp z j hj
    simp only [h2, h3] at this
    exact absurd this (by decide)
  · rw [Bool.eq_false_iff.mpr c]
    refine decide_eq_false (fun z => z ((zbits_0 h1).mpr (fun j hj => ?_)))
    cases h2 : xhas t j n with
    | false => rfl
    | true => cases h3 : f j with
      | false => rfl
      | true => exact absurd (xany_iff.mpr ⟨j, hj, h3, h2⟩) c
/-- an argument that is one of n numbers -/
def xok (p : Int32) (n : Nat) : Bool := decide (0 ≤ p.toInt) && decide (p.toInt < n)
theorem xok_of {p : Int32} {n : Nat} (h : xok p n = true) (hn : n < 2147483648) : ∃ j, j < n ∧ p = nI j := by
  unfold xok at h
  rw [Bool.and_eq_true, decide_eq_true_iff, decide_eq_true_iff] at h
  exact vp_in_of (vp_in_iff.mpr h) hn
theorem xok_nI {j n : Nat} (h : j < n) (hn : n < 2147483648) : xok (nI j) n = true := by
  unfold xok
  rw [nI_toInt (by omega), Bool.and_eq_true, decide_eq_true_iff, decide_eq_true_iff]
  omega
theorem xok_lt {p : Int32} (n : Nat) (h : p < 0) : xok p n = false := by
  have := Int32.lt_iff_toInt_lt.mp h
  unfold xok
  rw [Bool.and_eq_false_iff]
  exact Or.inl (decide_eq_false (by have e : (0 : Int32).toInt = 0 := rfl; omega))
theorem xok_ge {p : Int32} {n : Nat} (hn : n < 2147483648) (h : ¬ p < nI n) : xok p n = false := by
  have h1 : ¬ p.toInt < (nI n).toInt := fun z => h (Int32.lt_iff_toInt_lt.mpr z)
  rw [nI_toInt hn] at h1
  unfold xok
  rw [Bool.and_eq_false_iff]
  exact Or.inr (decide_eq_false h1)
theorem xok_in {p : Int32} {n : Nat} (hn : n < 2147483648) (h0 : ¬ p < 0) (h : p < nI n) : xok p n = true := by
  have h1 := Int32.lt_iff_toInt_lt.mp h
  rw [nI_toInt hn] at h1
  have h2 : ¬ p.toInt < (0 : Int32).toInt := fun z => h0 (Int32.lt_iff_toInt_lt.mpr z)
  have e : (0 : Int32).toInt = 0 := rfl
  unfold xok
  rw [Bool.and_eq_true, decide_eq_true_iff, decide_eq_true_iff]
  omega
theorem xlt_succ {p : Int32} {n : Nat} (hn : n < 2147483647) : p < nI (n + 1) ↔ p ≤ nI n := by
  rw [Int32.lt_iff_toInt_lt, Int32.le_iff_toInt_le, nI_toInt (by omega), nI_toInt (by omega)]
  omega
/-! which exception: the k-th of a list -/
def zIA : String := "java/lang/IllegalArgumentException"
def zIS : String := "java/lang/IllegalStateException"
def zIO : String := "java/lang/IndexOutOfBoundsException"
def zx (es : List String) (k : Nat) (H : Heap) : String → Heap → Prop := fun E H1 => (1 ≤ k ∧ es[k - 1]? = some E) ∧ xC [] H H1
theorem tbad_IA : ∀ w ∈ (vx_atS "Bidwhistle" 169 "java/lang/IllegalArgumentException" ["java/lang/RuntimeException", "java/lang/Exception"]).filter (fun w => !goodWord w), w ∈ xNest ∧ w.onTables = true := by decide +kernel
theorem tbad_IS : ∀ w ∈ (vx_atS "Bidwhistle" 72 "java/lang/IllegalStateException" ["java/lang/RuntimeException", "java/lang/Exception"]).filter (fun w => !goodWord w), w ∈ xNest ∧ w.onTables = true := by decide +kernel
theorem tbad_IO : ∀ w ∈ (vx_atS "Bidwhistle" 223 "java/lang/IndexOutOfBoundsException" ["java/lang/RuntimeException", "java/lang/Exception"]).filter (fun w => !goodWord w), w ∈ xNest ∧ w.onTables = true := by decide +kernel
theorem tgood_IA : ∀ w ∈ Cond.classLink "Bidwhistle" 165 "java/lang/IllegalArgumentException" :: Cond.initialized "java/lang/IllegalArgumentException" :: vx_atS "Bidwhistle" 169 "java/lang/IllegalArgumentException" ["java/lang/RuntimeException", "java/lang/Exception"], vx_ot w = true := by decide +kernel
theorem tgood_IS : ∀ w ∈ Cond.classLink "Bidwhistle" 68 "java/lang/IllegalStateException" :: Cond.initialized "java/lang/IllegalStateException" :: vx_atS "Bidwhistle" 72 "java/lang/IllegalStateException" ["java/lang/RuntimeException", "java/lang/Exception"], vx_ot w = true := by decide +kernel
theorem tgood_IO : ∀ w ∈ Cond.classLink "Bidwhistle" 219 "java/lang/IndexOutOfBoundsException" :: Cond.initialized "java/lang/IndexOutOfBoundsException" :: vx_atS "Bidwhistle" 223 "java/lang/IndexOutOfBoundsException" ["java/lang/RuntimeException", "java/lang/Exception"], vx_ot w = true := by decide +kernel
/-! the class's own cells: 0 the game, 1 to 3 the draft, 4 to 6 the child, 7 to 9 the stack, 10, 11 the list, 12 to 21 the rows, 22 + 6 i .. a strategy, its program (3), its row of bids (2) -/
def zown (G : xG) (ad : Nat → Nat) (N : Nat) : Prop := (∀ i j, i < N → j < N → ad i = ad j → i = j) ∧ ∀ i, i < N → i ≠ 11 → xA G (ad i)
theorem zown.ne {G : xG} {ad : Nat → Nat} {N i j : Nat} (h : zown G ad N) (hi : i < N) (hj : j < N) (hij : i ≠ j) : ad i ≠ ad j := fun z => hij (h.1 i j hi hj z)
theorem zown.nl {G : xG} {ad : Nat → Nat} {N i : Nat} {ls : List Nat} (h : zown G ad N) (hi : i < N) (hls : ∀ j ∈ ls, j < N) (hn : i ∉ ls) : ad i ∉ ls.map ad := fun z => by
  obtain ⟨j, hj, e⟩ := List.mem_map.mp z
  have := h.1 j i (hls j hj) hi e
  subst this
  exact hn hj
abbrev xB (G : xG) (ad : Nat → Nat) (fb : Int32) (np : Nat) (H : Heap) : Prop := oA G (ad 0) 5 [.ref (ad 1), .ref (ad 4), .ref (ad 7), .ref (ad 10), .int fb, .ref (ad 12), .ref (ad 14), .int (nI np), .ref (ad 16), .ref (ad 18), .ref (ad 20)] H
def zStrat (G : xG) (ad : Nat → Nat) (S : zS) (kp : Nat → Nat) (i : Nat) (H : Heap) : Prop := ∃ (t : Nat → Nat) (sl : Int32) (f : Nat → Int32), oA G (ad (22 + 6 * i)) 4 [.int (nI i), .ref (ad (23 + 6 * i)), .int (xpar (zU S i)), .int (xpar (zV S i)), .ref (ad (26 + 6 * i)), .int sl, .int (nI (kp i)), .int (xb (zI S i))] H ∧
  pA G (ad (23 + 6 * i)) (ad (24 + 6 * i)) (ad (25 + 6 * i)) t (zL S i) H ∧ oA G (ad (26 + 6 * i)) 2 [.ref (ad (27 + 6 * i))] H ∧ iA G (ad (27 + 6 * i)) 100 f H ∧
  (∀ k, k < zL S i → t k = zP S i k) ∧ (∀ v, v < 100 → f v = Int32.ofInt (xbid (zP S i) (zL S i) v)) ∧ zbits sl (fun s => zline S s (i + 1) i)
def zKinds (S : zS) (kp : Nat → Nat) : Prop := (∀ i, i < zN S → kp i ≤ i) ∧ ∀ i j, i < zN S → j < zN S → (kp i = kp j ↔ zalike S i j = true)
def zList (G : xG) (ad : Nat → Nat) (n : Nat) (m : Int32) (k : Nat) (a : Nat → Option Nat) (H : Heap) : Prop := lA G (ad 10) (ad 11) m n k a H ∧ ∀ i, i < n → a i = some (ad (22 + 6 * i))
def zDraft (G : xG) (ad : Nat → Nat) (S : zS) (t : Nat → Nat) (H : Heap) : Prop := pA G (ad 1) (ad 2) (ad 3) t (zL S 20) H ∧ ∀ k, k < zL S 20 → t k = zP S 20 k
def zPairs (G : xG) (ad : Nat → Nat) (S : zS) (f1 f2 : Nat → Int32) (H : Heap) : Prop := oA G (ad 12) 2 [.ref (ad 13)] H ∧ iA G (ad 13) 6 f1 H ∧ oA G (ad 14) 2 [.ref (ad 15)] H ∧ iA G (ad 15) 6 f2 H ∧ ∀ j, j < zK S → f1 j = nI (zO S j) ∧ f2 j = nI (zT S j)
def zRow (G : xG) (ad : Nat → Nat) (i : Nat) (f : Nat → Int32) (H : Heap) : Prop := oA G (ad i) 2 [.ref (ad (i + 1))] H ∧ iA G (ad (i + 1)) 20 f H
/-- all of the class's state -/
def XS (G : xG) (ad : Nat → Nat) (S : zS) (H : Heap) : Prop := zown G ad (22 + 6 * zN S) ∧ (∃ fb, zbits fb (zF S) ∧ xB G ad fb (zK S) H) ∧ (∃ t, zDraft G ad S t H) ∧ (∃ t n, pA G (ad 4) (ad 5) (ad 6) t n H) ∧ (∃ g d, sA G (ad 7) (ad 8) (ad 9) g d H) ∧
  (∃ m k a, zList G ad (zN S) m k a H) ∧ (∃ f1 f2, zPairs G ad S f1 f2 H) ∧ (∃ f, zRow G ad 16 f H) ∧ (∃ f, zRow G ad 18 f H) ∧ (∃ f, zRow G ad 20 f H) ∧ ∃ kp, zKinds S kp ∧ ∀ i, i < zN S → zStrat G ad S kp i H
theorem lA.q {G : xG} {li el : Nat} {m : Int32} {n k i : Nat} {a : Nat → Option Nat} {H : Heap} (h : lA G li el m n k a H) (hi : i < n) : qA G el k a H ∧ n ≤ k ∧ k ≤ 1000 := by
  obtain ⟨h1, h2, h3, h4⟩ := h
  rcases h4 with ⟨e, -⟩ | h4
  · omega
  · exact ⟨h4.1, h2, by omega⟩
