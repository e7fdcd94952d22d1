/-! bids, profits, worths as numbers -/
def zbid (S : zS) (i v : Nat) : Nat := (xbid (zP S i) (zL S i) v).toNat
theorem zbid_in (S : zS) (i v : Nat) : zbid S i v ≤ 999 := by have := xbd_in ((xrun (zP S i) v (fun _ => 0) (zL S i)).1 0); unfold zbid xbid; omega
theorem zbid_I (S : zS) (i v : Nat) : Int32.ofInt (xbid (zP S i) (zL S i) v) = nI (zbid S i v) := by
  have h := xbd_in ((xrun (zP S i) v (fun _ => 0) (zL S i)).1 0)
  apply Int32.toInt.inj
  have e : 0 ≤ xbid (zP S i) (zL S i) v ∧ xbid (zP S i) (zL S i) v ≤ 999 := h
  rw [xi_toInt (by omega) (by omega), nI_toInt (by have := zbid_in S i v; omega)]
  unfold zbid
  omega
def zwins (n1 b1 n2 b2 : Nat) : Bool := decide (b2 < b1) || (decide (b1 = b2) && decide (n1 < n2))
def zpaid (u : Nat) (w : Bool) (b1 b2 : Nat) : Nat := if u = 3 then b1 else if w = false then 0 else if u = 1 then b2 else if u = 2 then (b1 + b2) / 2 else b1
def zgain (u : Nat) (w : Bool) (v b1 b2 : Nat) : Int := (((if w = true then v else 0 : Nat) : Int)) - ((zpaid u w b1 b2 : Nat) : Int)
def zprof (S : zS) (u i j v w : Nat) : Int := zgain u (zwins i (zbid S i v) j (zbid S j w)) v (zbid S i v) (zbid S j w)
def zpairs (S : zS) (u i j : Nat) : Nat → Int
  | 0 => 0
  | q + 1 => zpairs S u i j q + (zprof S u i j (zO S q) (zT S q) + zprof S u i j (zT S q) (zO S q))
def zwsum (S : zS) (u i : Nat) : Nat → Int
  | 0 => 0
  | j + 1 => zwsum S u i j + (if zI S j = true ∧ j ≠ i then zpairs S u i j (zK S) else 0)
def zworth (S : zS) (u i : Nat) : Int := zwsum S u i (zN S)
theorem zpaid_in {u : Nat} {w : Bool} {b1 b2 : Nat} (h1 : b1 ≤ 999) (h2 : b2 ≤ 999) : zpaid u w b1 b2 ≤ 999 := by
  unfold zpaid
  split; omega
  split; omega
  split; omega
  split <;> omega
theorem zgain_in {u : Nat} {w : Bool} {v b1 b2 : Nat} (hv : v ≤ 99) (h1 : b1 ≤ 999) (h2 : b2 ≤ 999) : -999 ≤ zgain u w v b1 b2 ∧ zgain u w v b1 b2 ≤ 99 := by
  have := zpaid_in (u := u) (w := w) h1 h2
  unfold zgain
  split <;> omega
theorem zprof_in (S : zS) (u i j : Nat) {v w : Nat} (hv : v ≤ 99) : -999 ≤ zprof S u i j v w ∧ zprof S u i j v w ≤ 99 := zgain_in hv (zbid_in _ _ _) (zbid_in _ _ _)
theorem zpairs_in {S : zS} (hv : ∀ j, zO S j ≤ 99 ∧ zT S j ≤ 99) (u i j : Nat) : ∀ q : Nat, -(2000 * (q : Int)) ≤ zpairs S u i j q ∧ zpairs S u i j q ≤ 2000 * (q : Int)
  | 0 => by simp [zpairs]
  | q + 1 => by
    have h1 := zpairs_in hv u i j q
    have h2 := zprof_in S u i j (w := zT S q) (hv q).1
    have h3 := zprof_in S u i j (w := zO S q) (hv q).2
    unfold zpairs
    omega
theorem zwsum_in {S : zS} (hv : ∀ j, zO S j ≤ 99 ∧ zT S j ≤ 99) (hK : zK S ≤ 6) (u i : Nat) : ∀ j : Nat, -(12000 * (j : Int)) ≤ zwsum S u i j ∧ zwsum S u i j ≤ 12000 * (j : Int)
  | 0 => by simp [zwsum]
  | j + 1 => by
    have h1 := zwsum_in hv hK u i j
    have h2 := zpairs_in hv u i j (zK S)
    unfold zwsum
    split <;> omega
theorem zworth_in {S : zS} (hW : zW S) (u i : Nat) : -240000 ≤ zworth S u i ∧ zworth S u i ≤ 240000 := by
  have h := zwsum_in hW.2.2.2.2.2.2.2.2 hW.2.2.2.2.2.2.2.1 u i (zN S)
  have := hW.1
  unfold zworth
  omega
theorem zofI_sub (a b : Nat) : nI a - nI b = Int32.ofInt ((a : Int) - (b : Int)) := by rw [Int32.ofInt_sub]; rfl
theorem zI_lt {a b : Int} (ha : -1000000 ≤ a ∧ a ≤ 1000000) (hb : -1000000 ≤ b ∧ b ≤ 1000000) : Int32.ofInt a < Int32.ofInt b ↔ a < b := by rw [Int32.lt_iff_toInt_lt, xi_toInt (by omega) (by omega), xi_toInt (by omega) (by omega)]
theorem zI_le {a b : Int} (ha : -1000000 ≤ a ∧ a ≤ 1000000) (hb : -1000000 ≤ b ∧ b ≤ 1000000) : Int32.ofInt a ≤ Int32.ofInt b ↔ a ≤ b := by rw [Int32.le_iff_toInt_le, xi_toInt (by omega) (by omega), xi_toInt (by omega) (by omega)]
/-- the sum of one row: against all others of the pool, with a value v against values w -/
def zrow (S : zS) (u i v w : Nat) : Nat → Int
  | 0 => 0
  | j + 1 => zrow S u i v w j + (if zI S j = true ∧ j ≠ i then zprof S u i j v w else 0)
def zvals (S : zS) (u i : Nat) : Nat → Int
  | 0 => 0
  | q + 1 => zvals S u i q + zrow S u i (zO S q) (zT S q) (zN S) + zrow S u i (zT S q) (zO S q) (zN S)
/-- strategy by strategy, or pair by pair: the same -/
def zwsumq (S : zS) (u i q : Nat) : Nat → Int
  | 0 => 0
  | j + 1 => zwsumq S u i q j + (if zI S j = true ∧ j ≠ i then zpairs S u i j q else 0)
theorem zwsumq_0 (S : zS) (u i : Nat) : ∀ n, zwsumq S u i 0 n = 0
  | 0 => rfl
  | j + 1 => by unfold zwsumq; rw [zwsumq_0]; split <;> rfl
theorem zwsumq_succ (S : zS) (u i q : Nat) : ∀ n, zwsumq S u i (q + 1) n = zwsumq S u i q n + zrow S u i (zO S q) (zT S q) n + zrow S u i (zT S q) (zO S q) n
  | 0 => rfl
  | j + 1 => by
    unfold zwsumq zrow
    rw [zwsumq_succ S u i q j]
    split
    · rw [show zpairs S u i j (q + 1) = zpairs S u i j q + (zprof S u i j (zO S q) (zT S q) + zprof S u i j (zT S q) (zO S q)) from rfl]
      omega
    · omega
theorem zvals_eq (S : zS) (u i : Nat) : ∀ q, zvals S u i q = zwsumq S u i q (zN S)
  | 0 => (zwsumq_0 S u i (zN S)).symm
  | q + 1 => by unfold zvals; rw [zvals_eq S u i q, zwsumq_succ]
theorem zwsumq_K (S : zS) (u i : Nat) : ∀ n, zwsumq S u i (zK S) n = zwsum S u i n
  | 0 => rfl
  | j + 1 => by unfold zwsumq zwsum; rw [zwsumq_K S u i j]
theorem zvals_worth (S : zS) (u i : Nat) : zvals S u i (zK S) = zworth S u i := by rw [zvals_eq, zwsumq_K]; rfl
/-- the greatest worth but one's, the lowest number; the least, the greatest number: numbers + 1, 0 for none -/
def zmost (p : Nat → Bool) (W : Nat → Int) (but : Nat) : Nat → Nat
  | 0 => 0
  | i + 1 => if p i = true ∧ i + 1 ≠ but ∧ (zmost p W but i = 0 ∨ W (zmost p W but i - 1) < W i) then i + 1 else zmost p W but i
def zleast (S : zS) (u : Nat) : Nat → Nat
  | 0 => 0
  | i + 1 => if zI S i = true ∧ (zleast S u i = 0 ∨ zworth S u i ≤ zworth S u (zleast S u i - 1)) then i + 1 else zleast S u i
theorem zmost_le (p : Nat → Bool) (W : Nat → Int) (b : Nat) : ∀ i, zmost p W b i ≤ i
  | 0 => Nat.le_refl _
  | i + 1 => by have := zmost_le p W b i; unfold zmost; split <;> omega
theorem zleast_le (S : zS) (u : Nat) : ∀ i, zleast S u i ≤ i
  | 0 => Nat.le_refl _
  | i + 1 => by have := zleast_le S u i; unfold zleast; split <;> omega
