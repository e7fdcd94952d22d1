/-! what all states keep, call by call -/
theorem zfnd_cong {S : zS} {t t2 : Nat → Nat} {n : Nat} (h : ∀ k, k < n → t k = t2 k) : ∀ m, zfnd S t n m = zfnd S t2 n m
  | 0 => rfl
  | m + 1 => by
    have e : zpsame S t n m = zpsame S t2 n m := by
      unfold zpsame
      by_cases c : zL S m = n
      · rw [c, xsame_cong (fun _ _ => rfl) h]
      · rw [decide_eq_false c]; rfl
    unfold zfnd
    rw [zfnd_cong h m, e]
theorem zfnd_0 {S : zS} {t : Nat → Nat} {n : Nat} : ∀ {m : Nat}, zfnd S t n m = 0 → ∀ i, i < m → zpsame S t n i = false
  | 0, _, i, hi => absurd hi (Nat.not_lt_zero i)
  | m + 1, h, i, hi => by
    unfold zfnd at h
    by_cases c : zfnd S t n m ≠ 0
    · rw [if_pos c] at h; exact absurd h c
    · rw [if_neg c] at h
      by_cases d : zpsame S t n m = true
      · rw [if_pos d] at h; omega
      · rcases Nat.lt_or_ge i m with e | e
        · exact zfnd_0 (Classical.not_not.mp c) i e
        · rw [show i = m by omega]; exact Bool.eq_false_iff.mpr d
theorem zfnd_le {S : zS} {t : Nat → Nat} {n : Nat} : ∀ m, zfnd S t n m ≤ m
  | 0 => Nat.le_refl _
  | m + 1 => by have := zfnd_le (S := S) (t := t) (n := n) m; unfold zfnd; split; omega; split <;> omega
theorem zsame_eq {S S2 : zS} {n i j : Nat} (h : zsEq S S2 n) (hi : i < n) (hj : j < n) : zsame S2 i j = zsame S i j := by
  unfold zsame
  rw [(h i hi).1, (h i hi).2.1, (h j hj).1, (h j hj).2.1]
theorem xct_kept {S : zS} {t : Nat → Nat} {n u v : Nat} : xct (zI (zkept S t n u v)) (zN S) = xct (zI S) (zN S) := xct_cong (fun k hk => va_up_ne _ _ (by omega))
theorem zW.kept {S : zS} {t : Nat → Nat} {n u v : Nat} (hW : zW S) (hn : zN S < 20) (hr : xright t n = true) (h7 : n ≤ 7) (h16 : ∀ k, t k ≤ 16) (hu : u ≤ zN S) (hv : v ≤ zN S) (hf : zfnd S t n (zN S) = 0) : zW (zkept S t n u v) := by
  obtain ⟨w1, w2, w3, w4, w5, w6, w7, w8, w9⟩ := hW
  obtain ⟨kL, kP, kU, kV, kI⟩ := zkept_N (S := S) (t := t) (n := n) (u := u) (v := v)
  refine ⟨by show zN S + 1 ≤ 20; omega, fun i => ?_, fun i k => ?_, fun i hi => ?_, fun i hi => ?_, fun i j hij hj => ?_, ?_, w8, w9⟩
  · by_cases c : i = zN S
    · rw [c, kL]; exact h7
    · rw [show zL (zkept S t n u v) i = zL S i from va_up_ne _ _ c]; exact w2 i
  · by_cases c : i = zN S
    · rw [c, kP]; exact h16 k
    · rw [show zP (zkept S t n u v) i = zP S i from va_up_ne _ _ c]; exact w3 i k
  · have hi : i < zN S + 1 := hi
    by_cases c : i = zN S
    · rw [c, kP, kL]; exact hr
    · rw [show zP (zkept S t n u v) i = zP S i from va_up_ne _ _ c, show zL (zkept S t n u v) i = zL S i from va_up_ne _ _ c]; exact w4 i (by omega)
  · have hi : i < zN S + 1 := hi
    by_cases c : i = zN S
    · rw [c, kU, kV]; exact ⟨hu, hv⟩
    · rw [show zU (zkept S t n u v) i = zU S i from va_up_ne _ _ c, show zV (zkept S t n u v) i = zV S i from va_up_ne _ _ c]; exact w5 i (by omega)
  · have hj : j < zN S + 1 := hj
    by_cases c : j = zN S
    · have h := zfnd_0 hf i (by omega)
      unfold zsame
      rw [c, kL, kP, (zsEq_kept i (by omega)).1, (zsEq_kept i (by omega)).2.1]
      exact h
    · rw [zsame_eq zsEq_kept (by omega) (by omega)]; exact w6 i j hij (by omega)
  · show xct (zI (zkept S t n u v)) (zN S) + (if zI (zkept S t n u v) (zN S) = true then 1 else 0) ≤ 8
    rw [kI, xct_kept]
    simpa using w7
theorem zW.set {S : zS} {n : Nat} {t : Nat → Nat} (hW : zW S) (h7 : n ≤ 7) (h16 : ∀ k, t k ≤ 16) : zW (zset S n t) := by
  obtain ⟨w1, w2, w3, w4, w5, w6, w7, w8, w9⟩ := hW
  refine ⟨w1, fun i => ?_, fun i k => ?_, fun i hi => ?_, w5, fun i j hij hj => ?_, w7, w8, w9⟩
  · by_cases c : i = 20
    · rw [c, zset_L]; exact h7
    · rw [show zL (zset S n t) i = zL S i from va_up_ne _ _ c]; exact w2 i
  · by_cases c : i = 20
    · rw [c, zset_P]; exact h16 k
    · rw [show zP (zset S n t) i = zP S i from va_up_ne _ _ c]; exact w3 i k
  · have hi : i < zN S := hi
    rw [show zP (zset S n t) i = zP S i from va_up_ne _ _ (by omega), show zL (zset S n t) i = zL S i from va_up_ne _ _ (by omega)]; exact w4 i hi
  · have hj : j < zN S := hj
    rw [zsame_eq (zsEq_set w1) (by omega) hj]; exact w6 i j hij hj
theorem zW.rule {S : zS} {s : Nat} {b : Bool} (hW : zW S) : zW (zrule S s b) := hW
theorem xct_mono {p q : Nat → Bool} (h : ∀ k, p k = true → q k = true) : ∀ n, xct p n ≤ xct q n
  | 0 => Nat.le_refl _
  | n + 1 => by
    have := xct_mono h n
    unfold xct
    by_cases c : p n = true
    · rw [if_pos c, if_pos (h n c)]; omega
    · rw [if_neg c]; split <;> omega
theorem zW.forb {S : zS} {s m : Nat} (hW : zW S) : zW (zforb S s m) := by
  obtain ⟨w1, w2, w3, w4, w5, w6, w7, w8, w9⟩ := hW
  refine ⟨w1, w2, w3, w4, w5, w6, Nat.le_trans (xct_mono (fun k hk => ?_) _) w7, w8, w9⟩
  have hk : (zI S k && !(decide (k < m) && zline S s (k + 1) k)) = true := hk
  rw [Bool.and_eq_true] at hk
  exact hk.1
theorem zW.tell {S : zS} {v w : Nat} (hW : zW S) (hk : zK S < 6) (hv : v ≤ 99) (hw : w ≤ 99) : zW (ztell S v w) := by
  obtain ⟨w1, w2, w3, w4, w5, w6, w7, w8, w9⟩ := hW
  refine ⟨w1, w2, w3, w4, w5, w6, w7, by show zK S + 1 ≤ 6; omega, fun j => ?_⟩
  show va_up (zO S) (zK S) v j ≤ 99 ∧ va_up (zT S) (zK S) w j ≤ 99
  by_cases c : j = zK S
  · rw [c, va_up_self, va_up_self]; exact ⟨hv, hw⟩
  · rw [va_up_ne _ _ c, va_up_ne _ _ c]; exact w9 j
theorem zW.forget {S : zS} (hW : zW S) : zW (zforget S) := by
  obtain ⟨w1, w2, w3, w4, w5, w6, w7, w8, w9⟩ := hW
  exact ⟨w1, w2, w3, w4, w5, w6, w7, Nat.zero_le _, w9⟩
/-- the child that joins, if it may -/
def zlet (S : zS) (t : Nat → Nat) (n u v : Nat) : Int32 × zS :=
  if xright t n = false ∨ xany t n (zF S) 17 = true then (-1, S)
  else if zfnd S t n (zN S) ≠ 0 then (if zI S (zfnd S t n (zN S) - 1) = true then (-1, S) else (nI (zfnd S t n (zN S) - 1), zpool S (zfnd S t n (zN S) - 1) true))
  else (nI (zN S), zpool (zkept S t n u v) (zN S) true)
/-- store's code, answer, state behind -/
def kstore (S : zS) : Nat := if xright (zP S 20) (zL S 20) = true then (if zfnd S (zP S 20) (zL S 20) (zN S) = 0 ∧ zN S = 20 then 2 else 0) else 1
def zstore (S : zS) : Int32 × zS := if zfnd S (zP S 20) (zL S 20) (zN S) ≠ 0 then (nI (zfnd S (zP S 20) (zL S 20) (zN S) - 1), zset S 0 (zP S 20)) else (nI (zN S), zset (zkept S (zP S 20) (zL S 20) 0 0) 0 (zP S 20))
/-- evolve's -/
def zev1 (S : zS) (u : Nat) : zS := zpool S (zleast S u (zN S) - 1) false
def zevf (S : zS) (u : Nat) : Nat := zmost (zI (zev1 S u)) (zworth S u) 0 (zN S)
def zevg (S : zS) (u : Nat) : Nat := zmost (zI (zev1 S u)) (zworth S u) (zevf S u) (zN S)
def zevolve (S : zS) (u : Nat) : Int32 × zS := zlet (zev1 S u) (zchP S (zevf S u - 1) (zevg S u - 1)) (zchL S (zevf S u - 1) (zevg S u - 1)) (zevf S u) (zevg S u)
theorem zW.store {S : zS} (hW : zW S) (hk : kstore S = 0) : zW (zstore S).2 := by
  unfold kstore at hk
  by_cases c : xright (zP S 20) (zL S 20) = true
  · rw [if_pos c] at hk
    unfold zstore
    by_cases d : zfnd S (zP S 20) (zL S 20) (zN S) = 0
    · rw [if_neg (fun z => z d)]
      have hn : zN S < 20 := by
        have := hW.1
        rcases Nat.lt_or_ge (zN S) 20 with e | e
        · exact e
        · rw [if_pos ⟨d, by omega⟩] at hk; cases hk
      exact (hW.kept hn c (hW.2.1 20) (hW.2.2.1 20) (Nat.zero_le _) (Nat.zero_le _) d).set (by omega) (hW.2.2.1 20)
    · rw [if_pos d]
      exact hW.set (by omega) (hW.2.2.1 20)
  · rw [if_neg c] at hk; cases hk
theorem zW.letc {S : zS} {t : Nat → Nat} {n u v : Nat} (hW : zW S) (hn : zN S < 20) (h7 : n ≤ 7) (h16 : ∀ k, t k ≤ 16) (hu : u ≤ zN S) (hv : v ≤ zN S) (h8 : xct (zI S) (zN S) < 8) : zW (zlet S t n u v).2 := by
  unfold zlet
  by_cases c : xright t n = false ∨ xany t n (zF S) 17 = true
  · rw [if_pos c]; exact hW
  · rw [if_neg c]
    have hr : xright t n = true := by cases e : xright t n; exact absurd (Or.inl e) c; rfl
    by_cases d : zfnd S t n (zN S) = 0
    · rw [if_neg (fun z => z d)]
      have hW2 := hW.kept hn hr h7 h16 hu hv d
      obtain ⟨-, -, -, -, kI⟩ := zkept_N (S := S) (t := t) (n := n) (u := u) (v := v)
      refine hW2.pool ?_
      show xct (va_up (zI (zkept S t n u v)) (zN S) true) (zN S + 1) ≤ 8
      rw [xct_up1 kI (by omega)]
      show xct (zI (zkept S t n u v)) (zN S) + (if zI (zkept S t n u v) (zN S) = true then 1 else 0) + 1 ≤ 8
      rw [kI, xct_kept]
      have : (if false = true then 1 else 0) = 0 := rfl
      omega
    · rw [if_pos d]
      have hle := zfnd_le (S := S) (t := t) (n := n) (zN S)
      by_cases e : zI S (zfnd S t n (zN S) - 1) = true
      · rw [if_pos e]; exact hW
      · rw [if_neg e]
        refine hW.pool ?_
        rw [xct_up1 (Bool.eq_false_iff.mpr e) (by omega)]
        omega
theorem zleast_in {S : zS} {u : Nat} : ∀ {n : Nat}, zleast S u n ≠ 0 → zI S (zleast S u n - 1) = true ∧ zleast S u n ≤ n
  | 0, h => absurd rfl h
  | n + 1, h => by
    by_cases c : zI S n = true ∧ (zleast S u n = 0 ∨ zworth S u n ≤ zworth S u (zleast S u n - 1))
    · rw [zleast_yes c]; exact ⟨c.1, Nat.le_refl _⟩
    · rw [zleast_no c] at h ⊢
      have := zleast_in h
      exact ⟨this.1, by omega⟩
theorem zleast_some {S : zS} {u : Nat} : ∀ {n : Nat}, 0 < xct (zI S) n → zleast S u n ≠ 0
  | 0, h => absurd h (Nat.lt_irrefl _)
  | n + 1, h => by
    by_cases d : zleast S u n = 0
    · by_cases c : zI S n = true
      · rw [zleast_yes ⟨c, Or.inl d⟩]; omega
      · exfalso
        have h : 0 < xct (zI S) n + (if zI S n = true then 1 else 0) := h
        rw [if_neg c] at h
        exact zleast_some h d
    · by_cases c : zI S n = true ∧ (zleast S u n = 0 ∨ zworth S u n ≤ zworth S u (zleast S u n - 1))
      · rw [zleast_yes c]; omega
      · rw [zleast_no c]; exact d
theorem zmost_in {p : Nat → Bool} {W : Nat → Int} {b : Nat} : ∀ {n : Nat}, zmost p W b n ≠ 0 → p (zmost p W b n - 1) = true ∧ zmost p W b n ≤ n ∧ zmost p W b n ≠ b
  | 0, h => absurd rfl h
  | n + 1, h => by
    by_cases c : p n = true ∧ n + 1 ≠ b ∧ (zmost p W b n = 0 ∨ W (zmost p W b n - 1) < W n)
    · rw [zmost_yes c]; exact ⟨c.1, Nat.le_refl _, c.2.1⟩
    · rw [zmost_no c] at h ⊢
      have := zmost_in h
      exact ⟨this.1, by omega, this.2.2⟩
theorem zmost_some {p : Nat → Bool} {W : Nat → Int} {b : Nat} : ∀ {n : Nat}, (∃ k, k < n ∧ p k = true ∧ k + 1 ≠ b) → zmost p W b n ≠ 0
  | 0, ⟨k, hk, _⟩ => absurd hk (Nat.not_lt_zero k)
  | n + 1, ⟨k, hk, h, hb⟩ => by
    by_cases d : zmost p W b n = 0
    · have hn : k = n := by
        rcases Nat.lt_or_ge k n with c | c
        · exact absurd d (zmost_some ⟨k, c, h, hb⟩)
        · omega
      rw [hn] at h hb
      rw [zmost_yes ⟨h, hb, Or.inl d⟩]; omega
    · by_cases c : p n = true ∧ n + 1 ≠ b ∧ (zmost p W b n = 0 ∨ W (zmost p W b n - 1) < W n)
      · rw [zmost_yes c]; omega
      · rw [zmost_no c]; exact d
theorem xct_one {p : Nat → Bool} : ∀ {n : Nat}, 1 ≤ xct p n → ∃ k, k < n ∧ p k = true
  | 0, h => absurd (show 1 ≤ 0 from h) (by decide)
  | n + 1, h => by
    by_cases e : p n = true
    · exact ⟨n, by omega, e⟩
    · have h : 1 ≤ xct p n + (if p n = true then 1 else 0) := h
      rw [if_neg e] at h
      obtain ⟨k, hk, hp⟩ := xct_one (p := p) (n := n) h
      exact ⟨k, by omega, hp⟩
/-- of two in the pool one is not b -/
theorem xct_two {p : Nat → Bool} {b : Nat} : ∀ {n : Nat}, 2 ≤ xct p n → ∃ k, k < n ∧ p k = true ∧ k + 1 ≠ b
  | 0, h => absurd (show 2 ≤ 0 from h) (by decide)
  | n + 1, h => by
    by_cases c : p n = true ∧ n + 1 ≠ b
    · exact ⟨n, by omega, c.1, c.2⟩
    · have h : 2 ≤ xct p n + (if p n = true then 1 else 0) := h
      by_cases d : p n = true
      · have hb : n + 1 = b := Classical.byContradiction (fun z => c ⟨d, z⟩)
        rw [if_pos d] at h
        obtain ⟨k, hk, hp⟩ := xct_one (p := p) (n := n) (by omega)
        exact ⟨k, by omega, hp, by omega⟩
      · rw [if_neg d] at h
        obtain ⟨k, hk, h2⟩ := xct_two (b := b) h
        exact ⟨k, by omega, h2⟩
theorem zchP_le {S : zS} (hW : zW S) (i j : Nat) : zchL S i j ≤ 7 ∧ ∀ k, zchP S i j k ≤ 16 := by
  have h1 := hW.2.1 i
  have h2 := hW.2.1 j
  refine ⟨by unfold zchL; omega, fun k => ?_⟩
  unfold zchP
  split
  · exact hW.2.2.1 i _
  · exact hW.2.2.1 j _
theorem zW.evolve {S : zS} {u : Nat} (hW : zW S) (hp : 3 ≤ xct (zI S) (zN S)) (hn : zN S < 20) : zW (zevolve S u).2 := by
  have h1 := zleast_in (u := u) (zleast_some (S := S) (n := zN S) (by omega))
  have h2 := xct_up0 h1.1 (n := zN S) (by have := zleast_some (S := S) (u := u) (n := zN S) (by omega); omega)
  have h8 := hW.2.2.2.2.2.2.1
  have hW1 : zW (zev1 S u) := hW.pool (by omega)
  have e1 : zevf S u ≤ zN S := zmost_le ..
  have e2 : zevg S u ≤ zN S := zmost_le ..
  exact hW1.letc hn (zchP_le hW _ _).1 (zchP_le hW _ _).2 e1 e2 (by show xct (va_up (zI S) _ false) (zN S) < 8; omega)
