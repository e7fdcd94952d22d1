/-! the law: one world for both classes -/
/-- the same world with other cells that may be written -/
abbrev xGa (G : xG) (A : Nat → Prop) : xG := (G.1, G.2.1, A, G.2.2.2)
abbrev xGo (G : xG) (o : Nat) : xG := xGa G (fun q => xA G q ∧ q ≠ o)
theorem xCx.re {G : xG} {A : Nat → Prop} {U : State} (h : xCx G U) (h1 : ∀ q, A q → xA G q) (h2 : ∀ q, U.heap.size ≤ q → A q) : xCx (xGa G A) U := by
  obtain ⟨k1, k2, k3, k4, k5, k6, k7, k8, k9⟩ := h
  exact ⟨k1, k2, h2, k4.narrow h1, k5.narrow h1, k6, k7.narrow h1, k8.narrow h1, k9⟩
theorem xCx.xE {G : xG} {U : State} (h : xCx G U) : ¬ xA G (xE G) := by
  obtain ⟨_, _, _, _, _, _, h7⟩ := h.2.2.2.2.2.2.2.1
  exact h7.2
section LX
variable {G : xG} {ad : Nat → Nat} {S : zS} {H H1 : Heap} {L : List Nat}
theorem XS.kept (h : XS G ad S H) (hc : xC L H H1) (hn : ∀ i, i < 22 + 6 * zN S → ad i ∉ L) : XS G ad S H1 := by
  obtain ⟨hO, ⟨fb, hfb, hx0⟩, ⟨td, hdr⟩, ⟨tc, nc, hch⟩, ⟨gs, ds, hsk⟩, ⟨m9, k9, a9, hl9⟩, ⟨f1, f2, hpr⟩, ⟨fr1, hr1⟩, ⟨fr2, hr2⟩, ⟨fr3, hr3⟩, ⟨kp, hkp, hst⟩⟩ := h
  refine ⟨hO, ⟨fb, hfb, hc.at hx0 (hn 0 (by omega))⟩, ⟨td, hdr.1.kept hc (hn 1 (by omega)) (hn 2 (by omega)) (hn 3 (by omega)), hdr.2⟩, ⟨tc, nc, hch.kept hc (hn 4 (by omega)) (hn 5 (by omega)) (hn 6 (by omega))⟩, ⟨gs, ds, hsk.kept hc (hn 7 (by omega)) (hn 8 (by omega)) (hn 9 (by omega))⟩,
    ⟨m9, k9, a9, hl9.1.kept hc (hn 10 (by omega)) (hn 11 (by omega)), hl9.2⟩, ⟨f1, f2, hc.at hpr.1 (hn 12 (by omega)), hc.at hpr.2.1 (hn 13 (by omega)), hc.at hpr.2.2.1 (hn 14 (by omega)), hc.at hpr.2.2.2.1 (hn 15 (by omega)), hpr.2.2.2.2⟩,
    ⟨fr1, hc.at hr1.1 (hn 16 (by omega)), hc.at hr1.2 (hn 17 (by omega))⟩, ⟨fr2, hc.at hr2.1 (hn 18 (by omega)), hc.at hr2.2 (hn 19 (by omega))⟩, ⟨fr3, hc.at hr3.1 (hn 20 (by omega)), hc.at hr3.2 (hn 21 (by omega))⟩, ⟨kp, hkp, fun i hi => ?_⟩⟩
  obtain ⟨t, sl, f, h1, h2, h3, h4, h5⟩ := hst i hi
  exact ⟨t, sl, f, hc.at h1 (hn _ (by omega)), h2.kept hc (hn _ (by omega)) (hn _ (by omega)) (hn _ (by omega)), hc.at h3 (hn _ (by omega)), hc.at h4 (hn _ (by omega)), h5⟩
theorem XS.re {A : Nat → Prop} (h : XS G ad S H) (hA : ∀ i, i < 22 + 6 * zN S → xA G (ad i) → A (ad i)) : XS (xGa G A) ad S H := by
  obtain ⟨hO, hx, hdr, hch, hsk, ⟨m9, k9, a9, hl9⟩, hr⟩ := h
  refine ⟨⟨hO.1, fun i hi h11 => hA i hi (hO.2 i hi h11)⟩, hx, hdr, hch, hsk, ⟨m9, k9, a9, ⟨hl9.1.1, hl9.1.2.1, hl9.1.2.2.1, ?_⟩, hl9.2⟩, hr⟩
  rcases hl9.1.2.2.2 with h | h
  · exact Or.inl h
  · exact Or.inr ⟨h.1, hA 11 (by omega) h.2.1, h.2.2⟩
/-- its cells are cells that may be written, or the empty row -/
theorem XS.in (h : XS G ad S H) {i : Nat} (hi : i < 22 + 6 * zN S) : xA G (ad i) ∨ ad i = xE G := by
  by_cases c : i = 11
  · subst c
    obtain ⟨hO, hx, hdr, hch, hsk, ⟨m9, k9, a9, hl9⟩, hr⟩ := h
    rcases hl9.1.2.2.2 with h | h
    · exact Or.inr h.2
    · exact Or.inl h.2.1
  · exact Or.inl (h.1.2 i hi c)
theorem XS.lt (h : XS G ad S H) (hE : xE G < H.size) {i : Nat} (hi : i < 22 + 6 * zN S) : ad i < H.size := by
  obtain ⟨hO, ⟨fb, hfb, hx0⟩, ⟨td, hdr⟩, ⟨tc, nc, hch⟩, ⟨gs, ds, hsk⟩, ⟨m9, k9, a9, hl9⟩, ⟨f1, f2, hpr⟩, ⟨fr1, hr1⟩, ⟨fr2, hr2⟩, ⟨fr3, hr3⟩, ⟨kp, hkp, hst⟩⟩ := h
  by_cases c : i < 22
  · rcases (show i = 0 ∨ i = 1 ∨ i = 2 ∨ i = 3 ∨ i = 4 ∨ i = 5 ∨ i = 6 ∨ i = 7 ∨ i = 8 ∨ i = 9 ∨ i = 10 ∨ i = 11 ∨ i = 12 ∨ i = 13 ∨ i = 14 ∨ i = 15 ∨ i = 16 ∨ i = 17 ∨ i = 18 ∨ i = 19 ∨ i = 20 ∨ i = 21 by omega) with rfl | rfl | rfl | rfl | rfl | rfl | rfl | rfl | rfl | rfl | rfl | rfl | rfl | rfl | rfl | rfl | rfl | rfl | rfl | rfl | rfl | rfl
    · exact hx0.lt
    · exact hdr.1.1.lt
    · exact hdr.1.2.1.lt
    · exact hdr.1.2.2.1.lt
    · exact hch.1.lt
    · exact hch.2.1.lt
    · exact hch.2.2.1.lt
    · exact hsk.1.lt
    · exact hsk.2.1.lt
    · exact hsk.2.2.1.lt
    · exact hl9.1.1.lt
    · rcases hl9.1.2.2.2 with h | h
      · rw [h.2]; exact hE
      · exact h.1.lt
    · exact hpr.1.lt
    · exact hpr.2.1.lt
    · exact hpr.2.2.1.lt
    · exact hpr.2.2.2.1.lt
    · exact hr1.1.lt
    · exact hr1.2.lt
    · exact hr2.1.lt
    · exact hr2.2.lt
    · exact hr3.1.lt
    · exact hr3.2.lt
  · obtain ⟨k, hk, r, hr, e⟩ : ∃ k, k < zN S ∧ ∃ r, r < 6 ∧ i = 22 + 6 * k + r := ⟨(i - 22) / 6, by omega, (i - 22) % 6, by omega, by omega⟩
    obtain ⟨t, sl, f, h1, h2, h3, h4, h5⟩ := hst k hk
    rcases (show r = 0 ∨ r = 1 ∨ r = 2 ∨ r = 3 ∨ r = 4 ∨ r = 5 by omega) with rfl | rfl | rfl | rfl | rfl | rfl
    · rw [e]; exact h1.lt
    · rw [show i = 23 + 6 * k by omega]; exact h2.1.lt
    · rw [show i = 24 + 6 * k by omega]; exact h2.2.1.lt
    · rw [show i = 25 + 6 * k by omega]; exact h2.2.2.1.lt
    · rw [show i = 26 + 6 * k by omega]; exact h3.lt
    · rw [show i = 27 + 6 * k by omega]; exact h4.lt
theorem XS.ne {o : Nat} (h : XS (xGo G o) ad S H) (ho : o ≠ xE G) : ∀ i, i < 22 + 6 * zN S → ad i ∉ [o] := fun i hi => by
  refine xn1 ?_
  rcases h.in hi with h | h
  · exact h.2
  · rw [h]; exact Ne.symm ho
theorem MX.re {A : Nat → Prop} {tp th : Nat} {g : Nat → Int} {W : Nat → Int32} {z : Nat → Bool} (h : MX G ad S tp th g W z H) (hA : ∀ i, i < 11 → A (ad i)) : MX (xGa G A) ad S tp th g W z H := ⟨⟨h.1.1, fun i hi _ => hA i hi⟩, h.2⟩
theorem MX.kept {tp th : Nat} {g : Nat → Int} {W : Nat → Int32} {z : Nat → Bool} (h : MX G ad S tp th g W z H) (hc : xC L H H1) (hn : ∀ i, i < 11 → ad i ∉ L) : MX G ad S tp th g W z H1 := by
  obtain ⟨hO, h0, h1, h2, h3, h4, h5, h6, h7, h8, h9, h10⟩ := h
  exact ⟨hO, hc.at h0 (hn 0 (by omega)), hc.at h1 (hn 1 (by omega)), hc.at h2 (hn 2 (by omega)), hc.at h3 (hn 3 (by omega)), hc.at h4 (hn 4 (by omega)), hc.at h5 (hn 5 (by omega)), hc.at h6 (hn 6 (by omega)), hc.at h7 (hn 7 (by omega)), hc.at h8 (hn 8 (by omega)), hc.at h9 (hn 9 (by omega)), hc.at h10 (hn 10 (by omega))⟩
theorem MX.lt {tp th : Nat} {g : Nat → Int} {W : Nat → Int32} {z : Nat → Bool} (h : MX G ad S tp th g W z H) : ∀ i, i < 11 → ad i < H.size := fun i hi => by
  obtain ⟨hO, h0, h1, h2, h3, h4, h5, h6, h7, h8, h9, h10⟩ := h
  rcases (show i = 0 ∨ i = 1 ∨ i = 2 ∨ i = 3 ∨ i = 4 ∨ i = 5 ∨ i = 6 ∨ i = 7 ∨ i = 8 ∨ i = 9 ∨ i = 10 by omega) with rfl | rfl | rfl | rfl | rfl | rfl | rfl | rfl | rfl | rfl | rfl
  · exact h0.lt
  · exact h1.lt
  · exact h2.lt
  · exact h3.lt
  · exact h4.lt
  · exact h5.lt
  · exact h6.lt
  · exact h7.lt
  · exact h8.lt
  · exact h9.lt
  · exact h10.lt
end LX
/-- what a call threw: the first, or the second, or the third -/
theorem lz1 {a : String} {K : Nat} {H H1 : Heap} {E : String} (h : zx [a] K H E H1) : (K = 0 + 1 ∧ E = a) ∧ xC [] H H1 := by
  obtain ⟨⟨h1, h2⟩, h3⟩ := h
  refine ⟨?_, h3⟩
  rcases (show K = 1 ∨ ∃ q, K - 1 = q + 1 by rcases Nat.lt_or_ge K 2 with c | c; exact Or.inl (by omega); exact Or.inr ⟨K - 2, by omega⟩) with c | ⟨q, c⟩
  · subst c; exact ⟨rfl, by simpa using h2.symm⟩
  · rw [c] at h2; simp at h2
theorem lz2 {a b : String} {K : Nat} {H H1 : Heap} {E : String} (h : zx [a, b] K H E H1) : ((K = 0 + 1 ∧ E = a) ∨ (K = 1 + 1 ∧ E = b)) ∧ xC [] H H1 := by
  obtain ⟨⟨h1, h2⟩, h3⟩ := h
  refine ⟨?_, h3⟩
  rcases (show K = 1 ∨ K = 2 ∨ ∃ q, K - 1 = q + 2 by rcases Nat.lt_or_ge K 3 with c | c; omega; exact Or.inr (Or.inr ⟨K - 3, by omega⟩)) with c | c | ⟨q, c⟩
  · subst c; exact Or.inl ⟨rfl, by simpa using h2.symm⟩
  · subst c; exact Or.inr ⟨rfl, by simpa using h2.symm⟩
  · rw [c] at h2; simp at h2
theorem lz3 {a b d : String} {K : Nat} {H H1 : Heap} {E : String} (h : zx [a, b, d] K H E H1) : ((K = 0 + 1 ∧ E = a) ∨ (K = 1 + 1 ∧ E = b) ∨ (K = 2 + 1 ∧ E = d)) ∧ xC [] H H1 := by
  obtain ⟨⟨h1, h2⟩, h3⟩ := h
  refine ⟨?_, h3⟩
  rcases (show K = 1 ∨ K = 2 ∨ K = 3 ∨ ∃ q, K - 1 = q + 3 by rcases Nat.lt_or_ge K 4 with c | c; omega; exact Or.inr (Or.inr (Or.inr ⟨K - 4, by omega⟩))) with c | c | c | ⟨q, c⟩
  · subst c; exact Or.inl ⟨rfl, by simpa using h2.symm⟩
  · subst c; exact Or.inr (Or.inl ⟨rfl, by simpa using h2.symm⟩)
  · subst c; exact Or.inr (Or.inr ⟨rfl, by simpa using h2.symm⟩)
  · rw [c] at h2; simp at h2
/-- what a wrapper of the law leaves: its code, the class's state, the answer in the row of one long -/
def lPost (G : xG) (o9 : Nat) (ad : Nat → Nat) (K : Nat) (A : Int32) (S S2 : zS) : Option Value → Heap → Prop := fun v H1 => v = some (.int (nI K)) ∧ ∃ ad2 f2, ad2 0 = ad 0 ∧ XS (xGo G o9) ad2 (if K = 0 then S2 else S) H1 ∧ jA G o9 1 f2 H1 ∧ (K = 0 → f2 0 = A.toInt64)
section LP
variable {G : xG} {o9 : Nat} {ad ad2 : Nat → Nat} {K : Nat} {A : Int32} {S S2 : zS} {H1 : Heap} {f2 : Nat → Int64}
theorem lP0 (hk : K = 0) (h0 : ad2 0 = ad 0) (hX : XS (xGo G o9) ad2 S2 H1) (ho : jA G o9 1 f2 H1) (hf : f2 0 = A.toInt64) : lPost G o9 ad K A S S2 (some (.int (nI 0))) H1 := by
  subst hk
  exact ⟨rfl, ad2, f2, h0, by rw [if_pos rfl]; exact hX, ho, fun _ => hf⟩
theorem lP1 (k : Nat) (hk : K = k + 1) (hX : XS (xGo G o9) ad S H1) (ho : jA G o9 1 f2 H1) : lPost G o9 ad K A S S2 (some (.int (nI (k + 1)))) H1 := by
  subst hk
  exact ⟨rfl, ad, f2, rfl, by rw [if_neg (Nat.succ_ne_zero k)]; exact hX, ho, fun q => absurd q (Nat.succ_ne_zero k)⟩
end LP
/-- no exception of one class is of another -/
def lNc : List (String × String) := [("java/lang/IllegalStateException", "java/lang/IllegalArgumentException"), ("java/lang/IllegalArgumentException", "java/lang/IndexOutOfBoundsException"), ("java/lang/IllegalStateException", "java/lang/IndexOutOfBoundsException")]
def lC (G : xG) (U : State) : Prop := xCx G U ∧ ∀ q ∈ lNc, va_Nc q.1 q.2 U
def lP (G : xG) (As : List Value) (H : Heap) : Array Value → State → Prop := fun v U => v = As.toArray ∧ U.heap = H ∧ lC G U
theorem lC.goS {G : xG} {s U : State} {H : Heap} {locs : List Loc} (h : lC G s) (hS : va_S (xA G) s.heap H locs) (hU : U.heap = H) (hW : s.WarmedH U.vm) : lC G U := ⟨h.1.goS hS hU hW, fun q hq => (h.2 q hq).moved hW.alike⟩
theorem lBlind {G : xG} {As : List Value} {H : Heap} : FrameBlind (lP G As H) := fun _ U g mk h => ⟨h.1, h.2.1, h.2.2.1.go (U := U.calling g mk _) (State.WarmedH.refl U) (Nat.le_refl _) (fun _ _ _ => rfl), fun q hq => (h.2.2.2 q hq).moved (U := U.calling g mk _) (State.WarmedH.refl U).alike⟩
abbrev lMet (l : Launch) (G : xG) (y : MethodName) (ws : List Cond) (rm : Room) (As : List Value) (H : Heap) (post : Option Value → Heap → Prop) : Prop :=
  vx_Met l y ws rm (lP G As H) (xQ G post) (xX G xNo) rm.cells rm.slots (xA G)
section LR
variable {s : State} {H : Heap} {locs : List Loc} {G : xG}
/-- a call of a class's method in a narrower world -/
theorem lPreV {A : Nat → Prop} (hC : xCx G s) (hS : va_S (xA G) s.heap H locs) (h1 : ∀ q, A q → xA G q) (h2 : ∀ q, H.size ≤ q → A q) {b ci : Nat} {fs : List Value} (hb : oA (xGa G A) b ci fs H) {q : vw_C} (hc : vwCl[ci]? = some q) {As : List Value} : PreV s H q.1 b (xP (xGa G A) (.ref b :: As) H) As :=
  ⟨xBlind, va_recv hC.1 (x1 (show oA G b ci fs H from hb)) hc (q0 := 0) rfl, fun U hU hW => ⟨rfl, hU, (hC.goS hS hU hW).re h1 (fun q hq => h2 q (by rw [← hU]; exact hq))⟩⟩
/-- a call of a wrapper -/
theorem lPreS {A : Nat → Prop} (hC : lC G s) (hS : va_S (xA G) s.heap H locs) (h1 : ∀ q, A q → xA G q) (h2 : ∀ q, H.size ≤ q → A q) {As : List Value} : PreS s H (lP (xGa G A) As H) As :=
  ⟨lBlind, fun U hU hW => ⟨rfl, hU, (hC.1.goS hS hU hW).re h1 (fun q hq => h2 q (by rw [← hU]; exact hq)), (hC.goS hS hU hW).2⟩⟩
end LR
