/-! a strategy is kept -/
/-- program t, n is stored, with parents u and v (+ 1) -/
def zkept (S : zS) (t : Nat → Nat) (n u v : Nat) : zS := (zN S + 1, va_up (zL S) (zN S) n, va_up (zP S) (zN S) t, va_up (zU S) (zN S) u, va_up (zV S) (zN S) v, va_up (zI S) (zN S) false, S.2.2.2.2.2.2)
/-- the addresses behind: the list's row q, and six new cells -/
def zad (ad : Nat → Nat) (N q c0 c1 c2 c3 c4 c5 : Nat) : Nat → Nat := fun j => if j < 22 + 6 * N then (if j = 11 then q else ad j) else if j = 22 + 6 * N then c0 else if j = 23 + 6 * N then c1 else if j = 24 + 6 * N then c2 else if j = 25 + 6 * N then c3 else if j = 26 + 6 * N then c4 else c5
theorem zad_old {ad : Nat → Nat} {N q c0 c1 c2 c3 c4 c5 j : Nat} (h : j < 22 + 6 * N) (h2 : j ≠ 11) : zad ad N q c0 c1 c2 c3 c4 c5 j = ad j := by unfold zad; rw [if_pos h, if_neg h2]
theorem zad_11 {ad : Nat → Nat} {N q c0 c1 c2 c3 c4 c5 : Nat} : zad ad N q c0 c1 c2 c3 c4 c5 11 = q := by unfold zad; rw [if_pos (by omega), if_pos rfl]
theorem zad_0 {ad : Nat → Nat} {N q c0 c1 c2 c3 c4 c5 : Nat} : zad ad N q c0 c1 c2 c3 c4 c5 (22 + 6 * N) = c0 := by unfold zad; rw [if_neg (by omega), if_pos rfl]
theorem zad_1 {ad : Nat → Nat} {N q c0 c1 c2 c3 c4 c5 : Nat} : zad ad N q c0 c1 c2 c3 c4 c5 (23 + 6 * N) = c1 := by unfold zad; rw [if_neg (by omega), if_neg (by omega), if_pos rfl]
theorem zad_2 {ad : Nat → Nat} {N q c0 c1 c2 c3 c4 c5 : Nat} : zad ad N q c0 c1 c2 c3 c4 c5 (24 + 6 * N) = c2 := by unfold zad; rw [if_neg (by omega), if_neg (by omega), if_neg (by omega), if_pos rfl]
theorem zad_3 {ad : Nat → Nat} {N q c0 c1 c2 c3 c4 c5 : Nat} : zad ad N q c0 c1 c2 c3 c4 c5 (25 + 6 * N) = c3 := by unfold zad; rw [if_neg (by omega), if_neg (by omega), if_neg (by omega), if_neg (by omega), if_pos rfl]
theorem zad_4 {ad : Nat → Nat} {N q c0 c1 c2 c3 c4 c5 : Nat} : zad ad N q c0 c1 c2 c3 c4 c5 (26 + 6 * N) = c4 := by unfold zad; rw [if_neg (by omega), if_neg (by omega), if_neg (by omega), if_neg (by omega), if_neg (by omega), if_pos rfl]
theorem zad_5 {ad : Nat → Nat} {N q c0 c1 c2 c3 c4 c5 : Nat} : zad ad N q c0 c1 c2 c3 c4 c5 (27 + 6 * N) = c5 := by unfold zad; rw [if_neg (by omega), if_neg (by omega), if_neg (by omega), if_neg (by omega), if_neg (by omega), if_neg (by omega)]
theorem zad_own {G : xG} {ad : Nat → Nat} {N q c0 c1 c2 c3 c4 c5 z : Nat} (hO : zown G ad (22 + 6 * N)) (hlt : ∀ j, j < 22 + 6 * N → ad j < z) (hz : z ≤ c0 ∧ z ≤ c1 ∧ z ≤ c2 ∧ z ≤ c3 ∧ z ≤ c4 ∧ z ≤ c5)
    (hne : c0 ≠ c1 ∧ c0 ≠ c2 ∧ c0 ≠ c3 ∧ c0 ≠ c4 ∧ c0 ≠ c5 ∧ c1 ≠ c2 ∧ c1 ≠ c3 ∧ c1 ≠ c4 ∧ c1 ≠ c5 ∧ c2 ≠ c3 ∧ c2 ≠ c4 ∧ c2 ≠ c5 ∧ c3 ≠ c4 ∧ c3 ≠ c5 ∧ c4 ≠ c5) (hq : q = ad 11 ∨ (z ≤ q ∧ c0 < q ∧ c1 < q ∧ c2 < q ∧ c3 < q ∧ c4 < q ∧ c5 < q))
    (hA : xA G c0 ∧ xA G c1 ∧ xA G c2 ∧ xA G c3 ∧ xA G c4 ∧ xA G c5) : zown G (zad ad N q c0 c1 c2 c3 c4 c5) (22 + 6 * (N + 1)) := by
  obtain ⟨z0, z1, z2, z3, z4, z5⟩ := hz
  have hol : ∀ k c, k < 22 + 6 * N → z ≤ c → ad k ≠ c := fun k c hk hc e => by have := hlt k hk; omega
  have hq0 : q ≠ c0 := by have := hlt 11 (by omega); rcases hq with e | e <;> omega
  have hq1 : q ≠ c1 := by have := hlt 11 (by omega); rcases hq with e | e <;> omega
  have hq2 : q ≠ c2 := by have := hlt 11 (by omega); rcases hq with e | e <;> omega
  have hq3 : q ≠ c3 := by have := hlt 11 (by omega); rcases hq with e | e <;> omega
  have hq4 : q ≠ c4 := by have := hlt 11 (by omega); rcases hq with e | e <;> omega
  have hq5 : q ≠ c5 := by have := hlt 11 (by omega); rcases hq with e | e <;> omega
  have hqo : ∀ k, k < 22 + 6 * N → k ≠ 11 → ad k ≠ q := fun k hk h e => by
    rcases hq with e2 | e2
    · exact h (hO.1 k 11 hk (by omega) (e.trans e2))
    · exact hol k q hk e2.1 e
  obtain ⟨n01, n02, n03, n04, n05, n12, n13, n14, n15, n23, n24, n25, n34, n35, n45⟩ := hne
  constructor
  · intro i j hi hj h
    have p : ∀ k, k < 22 + 6 * (N + 1) → (k < 22 + 6 * N ∧ k ≠ 11) ∨ k = 11 ∨ k = 22 + 6 * N ∨ k = 23 + 6 * N ∨ k = 24 + 6 * N ∨ k = 25 + 6 * N ∨ k = 26 + 6 * N ∨ k = 27 + 6 * N := fun k hk => by clear h; omega
    rcases p i hi with ⟨a, a'⟩ | rfl | rfl | rfl | rfl | rfl | rfl | rfl <;> rcases p j hj with ⟨b, b'⟩ | rfl | rfl | rfl | rfl | rfl | rfl | rfl <;>
      first
      | rfl
      | (exfalso; simp only [zad_11, zad_0, zad_1, zad_2, zad_3, zad_4, zad_5] at h; first | exact hq0 h | exact hq0 h.symm | exact hq1 h | exact hq1 h.symm | exact hq2 h | exact hq2 h.symm | exact hq3 h | exact hq3 h.symm | exact hq4 h | exact hq4 h.symm | exact hq5 h | exact hq5 h.symm | exact n01 h | exact n01 h.symm | exact n02 h | exact n02 h.symm | exact n03 h | exact n03 h.symm | exact n04 h | exact n04 h.symm | exact n05 h | exact n05 h.symm | exact n12 h | exact n12 h.symm | exact n13 h | exact n13 h.symm | exact n14 h | exact n14 h.symm | exact n15 h | exact n15 h.symm | exact n23 h | exact n23 h.symm | exact n24 h | exact n24 h.symm | exact n25 h | exact n25 h.symm | exact n34 h | exact n34 h.symm | exact n35 h | exact n35 h.symm | exact n45 h | exact n45 h.symm)
      | (rw [zad_old a a', zad_old b b'] at h; exact hO.1 _ _ a b h)
      | (exfalso; rw [zad_old a a'] at h; simp only [zad_11, zad_0, zad_1, zad_2, zad_3, zad_4, zad_5] at h; first | exact hqo _ a a' h | exact hol _ _ a z0 h | exact hol _ _ a z1 h | exact hol _ _ a z2 h | exact hol _ _ a z3 h | exact hol _ _ a z4 h | exact hol _ _ a z5 h)
      | (exfalso; rw [zad_old b b'] at h; simp only [zad_11, zad_0, zad_1, zad_2, zad_3, zad_4, zad_5] at h; first | exact hqo _ b b' h.symm | exact hol _ _ b z0 h.symm | exact hol _ _ b z1 h.symm | exact hol _ _ b z2 h.symm | exact hol _ _ b z3 h.symm | exact hol _ _ b z4 h.symm | exact hol _ _ b z5 h.symm)
  · intro i hi h11
    rcases (show i < 22 + 6 * N ∨ i = 22 + 6 * N ∨ i = 23 + 6 * N ∨ i = 24 + 6 * N ∨ i = 25 + 6 * N ∨ i = 26 + 6 * N ∨ i = 27 + 6 * N by omega) with c | rfl | rfl | rfl | rfl | rfl | rfl
    · rw [zad_old c h11]; exact hO.2 i c h11
    · rw [zad_0]; exact hA.1
    · rw [zad_1]; exact hA.2.1
    · rw [zad_2]; exact hA.2.2.1
    · rw [zad_3]; exact hA.2.2.2.1
    · rw [zad_4]; exact hA.2.2.2.2.1
    · rw [zad_5]; exact hA.2.2.2.2.2
theorem XK.lt {G : xG} {ad : Nat → Nat} {S : zS} {kp : Nat → Nat} {fb m : Int32} {k : Nat} {a : Nat → Option Nat} {H : Heap} (h : XK G ad S kp fb m k a H) (hE : xE G < H.size) : ∀ j, j < 22 + 6 * zN S → ad j < H.size := by
  obtain ⟨hO, hfb, hx0, ⟨td, hdr⟩, ⟨tc, nc, hch⟩, ⟨gs, ds, hsk⟩, hl9, ⟨f1, f2, hpr⟩, ⟨fr1, hr1⟩, ⟨fr2, hr2⟩, ⟨fr3, hr3⟩, hkp, hst⟩ := h
  intro j hj
  rcases Nat.lt_or_ge j 22 with c | c
  · rcases (show j = 0 ∨ j = 1 ∨ j = 2 ∨ j = 3 ∨ j = 4 ∨ j = 5 ∨ j = 6 ∨ j = 7 ∨ j = 8 ∨ j = 9 ∨ j = 10 ∨ j = 11 ∨ j = 12 ∨ j = 13 ∨ j = 14 ∨ j = 15 ∨ j = 16 ∨ j = 17 ∨ j = 18 ∨ j = 19 ∨ j = 20 ∨ j = 21 by omega) with rfl | rfl | rfl | rfl | rfl | rfl | rfl | rfl | rfl | rfl | rfl | rfl | rfl | rfl | rfl | rfl | rfl | rfl | rfl | rfl | rfl | rfl
    · exact va_at.lt hx0
    · exact va_at.lt hdr.1.1
    · exact va_at.lt hdr.1.2.1
    · exact va_at.lt hdr.1.2.2.1
    · exact va_at.lt hch.1
    · exact va_at.lt hch.2.1
    · exact va_at.lt hch.2.2.1
    · exact va_at.lt hsk.1
    · exact va_at.lt hsk.2.1
    · exact va_at.lt hsk.2.2.1
    · exact va_at.lt hl9.1.1
    · rcases hl9.1.2.2.2 with ⟨-, e⟩ | z
      · rw [e]; exact hE
      · exact va_at.lt z.1
    · exact va_at.lt hpr.1
    · exact va_at.lt hpr.2.1
    · exact va_at.lt hpr.2.2.1
    · exact va_at.lt hpr.2.2.2.1
    · exact va_at.lt hr1.1
    · exact va_at.lt hr1.2
    · exact va_at.lt hr2.1
    · exact va_at.lt hr2.2
    · exact va_at.lt hr3.1
    · exact va_at.lt hr3.2
  · obtain ⟨i, r, hi, hr, rfl⟩ : ∃ i r, i < zN S ∧ r < 6 ∧ j = 22 + 6 * i + r := ⟨(j - 22) / 6, (j - 22) % 6, by omega, by omega, by omega⟩
    obtain ⟨t, s2, f, a1, a2, a3, a4, a5, a6, a7⟩ := hst i hi
    rcases (show r = 0 ∨ r = 1 ∨ r = 2 ∨ r = 3 ∨ r = 4 ∨ r = 5 by omega) with rfl | rfl | rfl | rfl | rfl | rfl
    · exact va_at.lt a1
    · rw [show 22 + 6 * i + 1 = 23 + 6 * i by omega]; exact va_at.lt a2.1
    · rw [show 22 + 6 * i + 2 = 24 + 6 * i by omega]; exact va_at.lt a2.2.1
    · rw [show 22 + 6 * i + 3 = 25 + 6 * i by omega]; exact va_at.lt a2.2.2.1
    · rw [show 22 + 6 * i + 4 = 26 + 6 * i by omega]; exact va_at.lt a3
    · rw [show 22 + 6 * i + 5 = 27 + 6 * i by omega]; exact va_at.lt a4
theorem zsEq_kept {S : zS} {t : Nat → Nat} {n u v : Nat} : zsEq S (zkept S t n u v) (zN S) := fun j hj => ⟨va_up_ne _ _ (by omega), va_up_ne _ _ (by omega), va_up_ne _ _ (by omega), va_up_ne _ _ (by omega)⟩
theorem zkept_N {S : zS} {t : Nat → Nat} {n u v : Nat} : zL (zkept S t n u v) (zN S) = n ∧ zP (zkept S t n u v) (zN S) = t ∧ zU (zkept S t n u v) (zN S) = u ∧ zV (zkept S t n u v) (zN S) = v ∧ zI (zkept S t n u v) (zN S) = false :=
  ⟨va_up_self (zL S) (zN S) n, va_up_self (zP S) (zN S) t, va_up_self (zU S) (zN S) u, va_up_self (zV S) (zN S) v, va_up_self (zI S) (zN S) false⟩
theorem zStrat.ad {G : xG} {ad ad' : Nat → Nat} {S : zS} {kp kp' : Nat → Nat} {i : Nat} {H : Heap} (h : zStrat G ad S kp i H) (e : ∀ j, j < 6 → ad' (22 + 6 * i + j) = ad (22 + 6 * i + j)) (ek : kp' i = kp i) : zStrat G ad' S kp' i H := by
  obtain ⟨t, sl, f, h1, h2, h3, h4, h5, h6, h7⟩ := h
  have e0 : ad' (22 + 6 * i) = ad (22 + 6 * i) := e 0 (by omega)
  have e1 : ad' (23 + 6 * i) = ad (23 + 6 * i) := by have := e 1 (by omega); rw [show 22 + 6 * i + 1 = 23 + 6 * i by omega] at this; exact this
  have e2 : ad' (24 + 6 * i) = ad (24 + 6 * i) := by have := e 2 (by omega); rw [show 22 + 6 * i + 2 = 24 + 6 * i by omega] at this; exact this
  have e3 : ad' (25 + 6 * i) = ad (25 + 6 * i) := by have := e 3 (by omega); rw [show 22 + 6 * i + 3 = 25 + 6 * i by omega] at this; exact this
  have e4 : ad' (26 + 6 * i) = ad (26 + 6 * i) := by have := e 4 (by omega); rw [show 22 + 6 * i + 4 = 26 + 6 * i by omega] at this; exact this
  have e5 : ad' (27 + 6 * i) = ad (27 + 6 * i) := by have := e 5 (by omega); rw [show 22 + 6 * i + 5 = 27 + 6 * i by omega] at this; exact this
  exact ⟨t, sl, f, by rw [e0, e1, e4, ek]; exact h1, by rw [e1, e2, e3]; exact h2, by rw [e4, e5]; exact h3, by rw [e5]; exact h4, h5, h6, h7⟩
/-- the state with one more -/
theorem XSgrow {G : xG} {ad ad' : Nat → Nat} {S : zS} {kp kp' : Nat → Nat} {fb m : Int32} {t : Nat → Nat} {n u v k : Nat} {b : Nat → Option Nat} {H : Heap} (e : ∀ j, j < 22 + 6 * zN S → j ≠ 11 → ad' j = ad j) (hn : zN S < 20) (hU : ∀ i, i < zN S → zU S i ≤ i ∧ zV S i ≤ i)
    (hO : zown G ad' (22 + 6 * (zN S + 1))) (hfb : zbits fb (zF S)) (hx0 : xB G ad fb (zK S) H) (hdr : ∃ t, zDraft G ad S t H) (hch : ∃ t n, pA G (ad 4) (ad 5) (ad 6) t n H) (hsk : ∃ g d, sA G (ad 7) (ad 8) (ad 9) g d H) (hl : lA G (ad 10) (ad' 11) m (zN S + 1) k b H) (hb : ∀ i, i < zN S → b i = some (ad (22 + 6 * i))) (hbN : b (zN S) = some (ad' (22 + 6 * zN S)))
    (hpr : ∃ f1 f2, zPairs G ad S f1 f2 H) (hr1 : ∃ f, zRow G ad 16 f H) (hr2 : ∃ f, zRow G ad 18 f H) (hr3 : ∃ f, zRow G ad 20 f H) (hkp : zKinds (zkept S t n u v) kp') (hke : ∀ i, i < zN S → kp' i = kp i) (hst : ∀ i, i < zN S → zStrat G ad S kp i H) (hN : zStrat G ad' (zkept S t n u v) kp' (zN S) H) : XS G ad' (zkept S t n u v) H := by
  have E : ∀ j, j < 22 → j ≠ 11 → ad' j = ad j := fun j h h2 => e j (by omega) h2
  have e0 := E 0 (by omega) (by decide)
  have e1 := E 1 (by omega) (by decide)
  have e2 := E 2 (by omega) (by decide)
  have e3 := E 3 (by omega) (by decide)
  have e4 := E 4 (by omega) (by decide)
  have e5 := E 5 (by omega) (by decide)
  have e6 := E 6 (by omega) (by decide)
  have e7 := E 7 (by omega) (by decide)
  have e8 := E 8 (by omega) (by decide)
  have e9 := E 9 (by omega) (by decide)
  have e10 := E 10 (by omega) (by decide)
  have e12 := E 12 (by omega) (by decide)
  have e13 := E 13 (by omega) (by decide)
  have e14 := E 14 (by omega) (by decide)
  have e15 := E 15 (by omega) (by decide)
  have e16 := E 16 (by omega) (by decide)
  have e17 := E 17 (by omega) (by decide)
  have e18 := E 18 (by omega) (by decide)
  have e19 := E 19 (by omega) (by decide)
  have e20 := E 20 (by omega) (by decide)
  have e21 := E 21 (by omega) (by decide)
  obtain ⟨td, hd, hd2⟩ := hdr
  obtain ⟨tc, nc, hc⟩ := hch
  obtain ⟨gs, ds, hs⟩ := hsk
  obtain ⟨f1, f2, p1, p2, p3, p4, p5⟩ := hpr
  obtain ⟨r1, r1a, r1b⟩ := hr1
  obtain ⟨r2, r2a, r2b⟩ := hr2
  obtain ⟨r3, r3a, r3b⟩ := hr3
  have eL : zL (zkept S t n u v) 20 = zL S 20 := va_up_ne _ _ (by omega)
  have eP : zP (zkept S t n u v) 20 = zP S 20 := va_up_ne _ _ (by omega)
  refine ⟨hO, ⟨fb, hfb, ?_⟩, ⟨td, ?_, ?_⟩, ⟨tc, nc, ?_⟩, ⟨gs, ds, ?_⟩, ⟨m, k, b, ?_, ?_⟩, ⟨f1, f2, ?_, ?_, ?_, ?_, p5⟩, ⟨r1, ?_, ?_⟩, ⟨r2, ?_, ?_⟩, ⟨r3, ?_, ?_⟩, ⟨kp', hkp, ?_⟩⟩
  · show oA G (ad' 0) 5 [.ref (ad' 1), .ref (ad' 4), .ref (ad' 7), .ref (ad' 10), .int fb, .ref (ad' 12), .ref (ad' 14), .int (nI (zK S)), .ref (ad' 16), .ref (ad' 18), .ref (ad' 20)] H
    rw [e0, e1, e4, e7, e10, e12, e14, e16, e18, e20]; exact hx0
  · rw [eL, e1, e2, e3]; exact hd
  · rw [eL, eP]; exact hd2
  · rw [e4, e5, e6]; exact hc
  · rw [e7, e8, e9]; exact hs
  · rw [e10]; exact hl
  · intro i hi
    rcases Nat.lt_or_ge i (zN S) with c | c
    · rw [hb i c, e _ (by omega) (by omega)]
    · rw [show i = zN S by have hi : i < zN S + 1 := hi; omega]; exact hbN
  · rw [e12, e13]; exact p1
  · rw [e13]; exact p2
  · rw [e14, e15]; exact p3
  · rw [e15]; exact p4
  · rw [e16, show 16 + 1 = 17 from rfl, e17]; exact r1a
  · rw [show 16 + 1 = 17 from rfl, e17]; exact r1b
  · rw [e18, show 18 + 1 = 19 from rfl, e19]; exact r2a
  · rw [show 18 + 1 = 19 from rfl, e19]; exact r2b
  · rw [e20, show 20 + 1 = 21 from rfl, e21]; exact r3a
  · rw [show 20 + 1 = 21 from rfl, e21]; exact r3b
  · intro i hi
    rcases Nat.lt_or_ge i (zN S) with c | c
    · exact ((hst i c).to zsEq_kept hU c (va_up_ne _ _ (by omega))).ad (fun j hj => e _ (by omega) (by omega)) (hke i c)
    · rw [show i = zN S by have hi : i < zN S + 1 := hi; omega]; exact hN
theorem xsame_sym {f g : Nat → Int} {n : Nat} : xsame (fun x y : Int => decide (x = y)) f g n = true ↔ xsame (fun x y : Int => decide (x = y)) g f n = true := by
  rw [xsame_iff, xsame_iff]
  exact ⟨fun h k hk => decide_eq_true (of_decide_eq_true (h k hk)).symm, fun h k hk => decide_eq_true (of_decide_eq_true (h k hk)).symm⟩
theorem zKinds.kept {S : zS} {kp : Nat → Nat} {t : Nat → Nat} {n u v q : Nat} (h : zKinds S kp) (hq : q ≤ zN S) (hs : ∀ i, i < zN S → (kp i = q ↔ xsame (fun x y : Int => decide (x = y)) (xbid (zP S i) (zL S i)) (xbid t n) 100 = true)) : zKinds (zkept S t n u v) (va_up kp (zN S) q) := by
  obtain ⟨kL, kP, -, -, -⟩ := zkept_N (S := S) (t := t) (n := n) (u := u) (v := v)
  constructor
  · intro i hi
    have hi : i < zN S + 1 := hi
    by_cases c : i = zN S
    · rw [c, va_up_self]; exact hq
    · rw [va_up_ne _ _ c]; exact h.1 i (by omega)
  · intro i j hi hj
    have hi : i < zN S + 1 := hi
    have hj : j < zN S + 1 := hj
    unfold zalike
    by_cases c : i = zN S
    · by_cases d : j = zN S
      · rw [c, d]; exact ⟨fun _ => xsame_iff.mpr (fun k _ => decide_eq_true rfl), fun _ => rfl⟩
      · obtain ⟨a1, a2, -, -⟩ := zsEq_kept (S := S) (t := t) (n := n) (u := u) (v := v) j (by omega)
        rw [c, va_up_self, va_up_ne _ _ d, kL, kP, a1, a2, xsame_sym, ← hs j (by omega)]
        exact ⟨Eq.symm, Eq.symm⟩
    · obtain ⟨a1, a2, -, -⟩ := zsEq_kept (S := S) (t := t) (n := n) (u := u) (v := v) i (by omega)
      by_cases d : j = zN S
      · rw [d, va_up_self, va_up_ne _ _ c, kL, kP, a1, a2]; exact hs i (by omega)
      · obtain ⟨b1, b2, -, -⟩ := zsEq_kept (S := S) (t := t) (n := n) (u := u) (v := v) j (by omega)
        rw [va_up_ne _ _ c, va_up_ne _ _ d, a1, a2, b1, b2]; exact h.2 i j (by omega) (by omega)
/-- the line of a new one -/
theorem zline_new {S : zS} {t : Nat → Nat} {n u v s : Nat} (hW : zW S) (hu : u ≤ zN S) (hv : v ≤ zN S) : zline (zkept S t n u v) s (zN S + 1) (zN S) = (xhas t s n || ((decide (u ≠ 0) && zline S s u (u - 1)) || (decide (v ≠ 0) && zline S s v (v - 1)))) := by
  obtain ⟨kL, kP, kU, kV, -⟩ := zkept_N (S := S) (t := t) (n := n) (u := u) (v := v)
  have k : ∀ w, w ≤ zN S → (decide (w ≠ 0) && zline (zkept S t n u v) s (zN S) (w - 1)) = (decide (w ≠ 0) && zline S s w (w - 1)) := by
    intro w hw
    by_cases c : w = 0
    · simp [c]
    · rw [zline_cong zsEq_kept hW.2.2.2.2.1 _ _ (by omega), zline_fuel hW (zN S) w (w - 1) (by omega) (by omega) (by omega)]
  rw [show zline (zkept S t n u v) s (zN S + 1) (zN S) = (xhas (zP (zkept S t n u v) (zN S)) s (zL (zkept S t n u v) (zN S)) || ((decide (zU (zkept S t n u v) (zN S) ≠ 0) && zline (zkept S t n u v) s (zN S) (zU (zkept S t n u v) (zN S) - 1)) || (decide (zV (zkept S t n u v) (zN S) ≠ 0) && zline (zkept S t n u v) s (zN S) (zV (zkept S t n u v) (zN S) - 1)))) from rfl, kL, kP, kU, kV, k u hu, k v hv]
theorem zown.n22 {G : xG} {ad : Nat → Nat} {N i j : Nat} (h : zown G ad (22 + 6 * N)) (hi : i < 22) (hj : j < 22) (hij : i ≠ j) : ad i ≠ ad j := h.ne (by omega) (by omega) hij
theorem zown.a22 {G : xG} {ad : Nat → Nat} {N i : Nat} (h : zown G ad (22 + 6 * N)) (hi : i < 22) (hij : i ≠ 11) : xA G (ad i) := h.2 i (by omega) hij
theorem knb {G : xG} {ad : Nat → Nat} {N b9 : Nat} (hO : zown G ad (22 + 6 * N)) (hb9 : b9 = 1 ∨ b9 = 4) : ad b9 ≠ ad 0 ∧ ad b9 ≠ ad 7 ∧ ad b9 ≠ ad 9 ∧ ad b9 ≠ ad 10 ∧ ad b9 ≠ ad 11 ∧ ad (b9 + 1) ≠ ad 0 ∧ ad (b9 + 1) ≠ ad 7 ∧ ad (b9 + 1) ≠ ad 9 ∧ ad (b9 + 1) ≠ ad 10 ∧ ad (b9 + 1) ≠ ad 11 ∧ ad (b9 + 2) ≠ ad 0 ∧ ad (b9 + 2) ≠ ad 7 ∧ ad (b9 + 2) ≠ ad 9 ∧ ad (b9 + 2) ≠ ad 10 ∧ ad (b9 + 2) ≠ ad 11 := by
  have k : ∀ i j, i < 22 → j < 22 → i ≠ j → ad i ≠ ad j := fun i j hi hj hij => hO.n22 hi hj hij
  rcases hb9 with rfl | rfl <;> exact ⟨k _ _ (by decide) (by decide) (by decide), k _ _ (by decide) (by decide) (by decide), k _ _ (by decide) (by decide) (by decide), k _ _ (by decide) (by decide) (by decide), k _ _ (by decide) (by decide) (by decide), k _ _ (by decide) (by decide) (by decide), k _ _ (by decide) (by decide) (by decide), k _ _ (by decide) (by decide) (by decide), k _ _ (by decide) (by decide) (by decide), k _ _ (by decide) (by decide) (by decide), k _ _ (by decide) (by decide) (by decide), k _ _ (by decide) (by decide) (by decide), k _ _ (by decide) (by decide) (by decide), k _ _ (by decide) (by decide) (by decide), k _ _ (by decide) (by decide) (by decide)⟩
theorem XK.kept0 {G : xG} {ad : Nat → Nat} {S : zS} {kp : Nat → Nat} {fb m : Int32} {k : Nat} {a : Nat → Option Nat} {H H1 : Heap} (h : XK G ad S kp fb m k a H) (hc : xC [] H H1) : XK G ad S kp fb m k a H1 := by
  obtain ⟨hO, hfb, hx0, ⟨td, hdr⟩, ⟨tc, nc, hch⟩, ⟨gs, ds, hsk⟩, hl9, ⟨f1, f2, hpr⟩, ⟨fr1, hr1⟩, ⟨fr2, hr2⟩, ⟨fr3, hr3⟩, hkp, hst⟩ := h
  obtain ⟨q0, q1, q2, q3, q4, q5, q6, q7⟩ := zkeep (S := S) (ls := []) hO hc (by decide)
  exact ⟨hO, hfb, q0 _ _ (by decide) hx0, ⟨td, q1 _ _ (by decide) hdr⟩, ⟨tc, nc, q2 _ _ (by decide) hch⟩, ⟨gs, ds, q3 _ _ (by decide) hsk⟩, q4 _ _ _ _ (by decide) hl9, ⟨f1, f2, q5 _ _ _ (by decide) hpr⟩, ⟨fr1, q6 16 _ (by decide) (by decide) hr1⟩, ⟨fr2, q6 18 _ (by decide) (by decide) hr2⟩, ⟨fr3, q6 20 _ (by decide) (by decide) hr3⟩, hkp, fun i hi => q7 _ _ i hi (hst i hi)⟩
theorem XS.K {G : xG} {ad : Nat → Nat} {S : zS} {H : Heap} (h : XS G ad S H) : ∃ kp fb m k a, XK G ad S kp fb m k a H := by
  obtain ⟨hO, ⟨fb, hfb, hx0⟩, hdr, hch, hsk, ⟨m9, k9, a9, hl9⟩, hpr, hr1, hr2, hr3, ⟨kp, hkp, hst⟩⟩ := h
  exact ⟨kp, fb, m9, k9, a9, hO, hfb, hx0, hdr, hch, hsk, hl9, hpr, hr1, hr2, hr3, hkp, hst⟩
