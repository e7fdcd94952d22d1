/-! two states that are the same as far as a call sees -/
def zEq (S S2 : zS) : Prop := zN S2 = zN S ∧ (∀ j, j < zN S ∨ j = 20 → zL S2 j = zL S j ∧ ∀ k, k < zL S j → zP S2 j k = zP S j k) ∧ (∀ j, j < zN S → zU S2 j = zU S j ∧ zV S2 j = zV S j ∧ zI S2 j = zI S j) ∧ zF S2 = zF S ∧ zK S2 = zK S ∧ zO S2 = zO S ∧ zT S2 = zT S
/-- what the law's states keep -/
def lInv (S : zS) : Prop := zW S ∧ ∀ j, zN S ≤ j → zI S j = false
section LE
variable {S S2 : zS}
theorem zEq.rf : zEq S S := ⟨rfl, fun _ _ => ⟨rfl, fun _ _ => rfl⟩, fun _ _ => ⟨rfl, rfl, rfl⟩, rfl, rfl, rfl, rfl⟩
theorem zEq.bid (h : zEq S S2) {i : Nat} (hi : i < zN S) (v : Nat) : xbid (zP S2 i) (zL S2 i) v = xbid (zP S i) (zL S i) v := by
  obtain ⟨e1, e2⟩ := h.2.1 i (Or.inl hi)
  rw [e1]
  exact xbid_cong e2
theorem zEq.has (h : zEq S S2) {i : Nat} (hi : i < zN S) (s : Nat) : xhas (zP S2 i) s (zL S2 i) = xhas (zP S i) s (zL S i) := by
  obtain ⟨e1, e2⟩ := h.2.1 i (Or.inl hi)
  rw [e1]
  exact xhas_cong e2
theorem zEq.alike (h : zEq S S2) {i j : Nat} (hi : i < zN S) (hj : j < zN S) : zalike S2 i j = zalike S i j := xsame_cong (fun k _ => h.bid hi k) (fun k _ => h.bid hj k)
theorem zEq.line (h : zEq S S2) (hU : ∀ i, i < zN S → zU S i ≤ i ∧ zV S i ≤ i) {s : Nat} : ∀ f i, i < zN S → zline S2 s f i = zline S s f i
  | 0, i, _ => rfl
  | f + 1, i, hi => by
    obtain ⟨a1, a2⟩ := hU i hi
    obtain ⟨h3, h4, -⟩ := h.2.2.1 i hi
    unfold zline
    rw [h.has hi, h3, h4]
    congr 1
    congr 1
    · by_cases c : zU S i = 0
      · simp [c]
      · rw [zEq.line h hU f _ (by omega)]
    · by_cases c : zV S i = 0
      · simp [c]
      · rw [zEq.line h hU f _ (by omega)]
theorem zEq.same (h : zEq S S2) {i j : Nat} (hi : i < zN S) (hj : j < zN S) : zsame S2 i j = zsame S i j := by
  obtain ⟨e1, e2⟩ := h.2.1 i (Or.inl hi)
  obtain ⟨e3, e4⟩ := h.2.1 j (Or.inl hj)
  by_cases c : zL S i = zL S j
  · unfold zsame
    rw [e1, e3, xsame_cong e2 (fun k hk => e4 k (by omega))]
  · unfold zsame
    rw [e1, e3, decide_eq_false c]; rfl
theorem zW.to (hW : zW S) (h : zEq S S2) (h7 : ∀ i, zL S2 i ≤ 7) (h16 : ∀ i k, zP S2 i k ≤ 16) : zW S2 := by
  obtain ⟨w1, w2, w3, w4, w5, w6, w7, w8, w9⟩ := hW
  obtain ⟨e1, e2, e3, e4, e5, e6, e7⟩ := id h
  refine ⟨by rw [e1]; exact w1, h7, h16, fun i hi => ?_, fun i hi => ?_, fun i j hij hj => ?_, ?_, by rw [e5]; exact w8, by rw [e6, e7]; exact w9⟩
  · rw [e1] at hi
    rw [(e2 i (Or.inl hi)).1, xright_cong (e2 i (Or.inl hi)).2]; exact w4 i hi
  · rw [e1] at hi
    rw [(e3 i hi).1, (e3 i hi).2.1]; exact w5 i hi
  · rw [e1] at hj
    rw [h.same (by omega) hj]; exact w6 i j hij hj
  · rw [e1, xct_cong (q := zI S) (fun k hk => (e3 k hk).2.2)]; exact w7
theorem XS.to {G : xG} {ad : Nat → Nat} {H : Heap} (hX : XS G ad S H) (hW : zW S) (h : zEq S S2) : XS G ad S2 H := by
  obtain ⟨e1, e2, e3, e4, e5, e6, e7⟩ := id h
  obtain ⟨hO, ⟨fb, hfb, hx0⟩, ⟨td, hdr⟩, hch, hsk, ⟨m9, k9, a9, hl9⟩, ⟨f1, f2, hpr⟩, hr1, hr2, hr3, ⟨kp, hkp, hst⟩⟩ := hX
  refine ⟨by rw [e1]; exact hO, ⟨fb, by rw [e4]; exact hfb, by rw [e5]; exact hx0⟩, ⟨td, ?_, ?_⟩, hch, hsk, ⟨m9, k9, a9, by rw [e1]; exact hl9⟩, ⟨f1, f2, hpr.1, hpr.2.1, hpr.2.2.1, hpr.2.2.2.1, ?_⟩, hr1, hr2, hr3, ⟨kp, ⟨?_, ?_⟩, ?_⟩⟩
  · rw [(e2 20 (Or.inr rfl)).1]; exact hdr.1
  · intro k hk
    rw [(e2 20 (Or.inr rfl)).1] at hk
    rw [(e2 20 (Or.inr rfl)).2 k hk]; exact hdr.2 k hk
  · intro j hj
    rw [e5] at hj
    rw [e6, e7]; exact hpr.2.2.2.2 j hj
  · intro i hi
    rw [e1] at hi
    exact hkp.1 i hi
  · intro i j hi hj
    rw [e1] at hi hj
    rw [h.alike hi hj]; exact hkp.2 i j hi hj
  · intro i hi
    rw [e1] at hi
    obtain ⟨t, sl, f, h1, h2, h3, h4, h5, h6, h7⟩ := hst i hi
    obtain ⟨a1, a2⟩ := e2 i (Or.inl hi)
    obtain ⟨b1, b2, b3⟩ := e3 i hi
    refine ⟨t, sl, f, by rw [b1, b2, b3]; exact h1, by rw [a1]; exact h2, h3, h4, fun k hk => ?_, fun v hv => ?_, fun j => ?_⟩
    · rw [a1] at hk
      rw [a2 k hk]; exact h5 k hk
    · rw [h.bid hi]; exact h6 v hv
    · rw [h7 j]
      show (decide (j < 17) && zline S j (i + 1) i) = (decide (j < 17) && zline S2 j (i + 1) i)
      rw [h.line hW.2.2.2.2.1 _ _ hi]
theorem zEq.pool {c : Nat} {b : Bool} (h : zEq S S2) : zEq (zpool S c b) (zpool S2 c b) := by
  obtain ⟨e1, e2, e3, e4, e5, e6, e7⟩ := h
  refine ⟨e1, e2, fun j hj => ⟨(e3 j hj).1, (e3 j hj).2.1, ?_⟩, e4, e5, e6, e7⟩
  show va_up (zI S2) c b j = va_up (zI S) c b j
  by_cases d : j = c
  · rw [d, va_up_self, va_up_self]
  · rw [va_up_ne _ _ d, va_up_ne _ _ d]; exact (e3 j hj).2.2
/-! store -/
theorem mz_eq : zset S 0 (zP S 20) = mz S := by unfold zset mz; rw [va_up_id]
theorem mkept_le {p u v : Nat} (hW : zW S) : (∀ i, zL (mkept S p u v) i ≤ 7) ∧ ∀ i k, zP (mkept S p u v) i k ≤ 16 := by
  refine ⟨fun i => ?_, fun i k => ?_⟩
  · show va_up (zL S) (zN S) (zL S p) i ≤ 7
    by_cases c : i = zN S
    · rw [c, va_up_self]; exact hW.2.1 p
    · rw [va_up_ne _ _ c]; exact hW.2.1 i
  · show mrow (zP S) (zN S) (zL S p) (zP S p) i k ≤ 16
    by_cases c : i = zN S
    · rw [c, mrow_at]
      split
      · exact hW.2.2.1 p k
      · exact hW.2.2.1 _ k
    · rw [mrow_ne c]; exact hW.2.2.1 i k
theorem zset0_eq (h : zEq S S2) (hn : zN S ≤ 20) {t : Nat → Nat} : zEq (zset S 0 t) (mz S2) := by
  obtain ⟨e1, e2, e3, e4, e5, e6, e7⟩ := h
  refine ⟨e1, fun j hj => ?_, e3, e4, e5, e6, e7⟩
  have hj : j < zN S ∨ j = 20 := hj
  by_cases c : j = 20
  · subst c
    refine ⟨?_, fun k hk => ?_⟩
    · show va_up (zL S2) 20 0 20 = va_up (zL S) 20 0 20
      rw [va_up_self, va_up_self]
    · rw [zset_L] at hk; exact absurd hk (Nat.not_lt_zero k)
  · refine ⟨?_, fun k hk => ?_⟩
    · show va_up (zL S2) 20 0 j = va_up (zL S) 20 0 j
      rw [va_up_ne _ _ c, va_up_ne _ _ c]; exact (e2 j hj).1
    · have hk : k < va_up (zL S) 20 0 j := hk
      rw [va_up_ne _ _ c] at hk
      show zP S2 j k = va_up (zP S) 20 t j k
      rw [va_up_ne _ _ c]; exact (e2 j hj).2 k hk
/-- a kept program, in the class and in the reference -/
theorem zkept_eq {S0 : zS} {p u v n : Nat} {t : Nat → Nat} (h : zEq S0 S2) (hn : zN S0 < 20) (hJ : zI S2 (zN S0) = false) (hL : zL S2 p = n) (hP : ∀ k, k < n → zP S2 p k = t k) : zEq (zkept S0 t n u v) (mkept S2 p u v) := by
  obtain ⟨e1, e2, e3, e4, e5, e6, e7⟩ := h
  obtain ⟨kL, kP, kU, kV, kI⟩ := zkept_N (S := S0) (t := t) (n := n) (u := u) (v := v)
  refine ⟨by show zN S2 + 1 = zN S0 + 1; omega, fun j hj => ?_, fun j hj => ?_, e4, e5, e6, e7⟩
  · have hj : j < zN S0 + 1 ∨ j = 20 := hj
    by_cases c : j = zN S0
    · rw [c]
      refine ⟨?_, fun k hk => ?_⟩
      · rw [kL]
        show va_up (zL S2) (zN S2) (zL S2 p) (zN S0) = n
        rw [e1, va_up_self, hL]
      · rw [kL] at hk
        rw [kP]
        show mrow (zP S2) (zN S2) (zL S2 p) (zP S2 p) (zN S0) k = t k
        rw [e1, mrow_at, hL, if_pos hk]; exact hP k hk
    · have hj2 : j < zN S0 ∨ j = 20 := by omega
      refine ⟨?_, fun k hk => ?_⟩
      · show va_up (zL S2) (zN S2) (zL S2 p) j = va_up (zL S0) (zN S0) n j
        rw [e1, va_up_ne _ _ c, va_up_ne _ _ c]; exact (e2 j hj2).1
      · have hk : k < va_up (zL S0) (zN S0) n j := hk
        rw [va_up_ne _ _ c] at hk
        show mrow (zP S2) (zN S2) (zL S2 p) (zP S2 p) j k = va_up (zP S0) (zN S0) t j k
        rw [e1, mrow_ne c, va_up_ne _ _ c]; exact (e2 j hj2).2 k hk
  · have hj : j < zN S0 + 1 := hj
    by_cases c : j = zN S0
    · rw [c, kU, kV, kI]
      refine ⟨?_, ?_, ?_⟩
      · show va_up (zU S2) (zN S2) u (zN S0) = u
        rw [e1, va_up_self]
      · show va_up (zV S2) (zN S2) v (zN S0) = v
        rw [e1, va_up_self]
      · exact hJ
    · refine ⟨?_, ?_, ?_⟩
      · show va_up (zU S2) (zN S2) u j = va_up (zU S0) (zN S0) u j
        rw [e1, va_up_ne _ _ c, va_up_ne _ _ c]; exact (e3 j (by omega)).1
      · show va_up (zV S2) (zN S2) v j = va_up (zV S0) (zN S0) v j
        rw [e1, va_up_ne _ _ c, va_up_ne _ _ c]; exact (e3 j (by omega)).2.1
      · show zI S2 j = va_up (zI S0) (zN S0) false j
        rw [va_up_ne _ _ c]; exact (e3 j (by omega)).2.2
theorem mz_le (h : (∀ i, zL S i ≤ 7) ∧ ∀ i k, zP S i k ≤ 16) : (∀ i, zL (mz S) i ≤ 7) ∧ ∀ i k, zP (mz S) i k ≤ 16 := by
  refine ⟨fun i => ?_, h.2⟩
  show va_up (zL S) 20 0 i ≤ 7
  by_cases c : i = 20
  · rw [c, va_up_self]; omega
  · rw [va_up_ne _ _ c]; exact h.1 i
theorem kstore_new (hW : zW S) (hk : kstore S = 0) (hf : zfnd S (zP S 20) (zL S 20) (zN S) = 0) : zN S < 20 := by
  have := hW.1
  unfold kstore at hk
  by_cases c : xright (zP S 20) (zL S 20) = true
  · rw [if_pos c] at hk
    rcases Nat.lt_or_ge (zN S) 20 with e | e
    · exact e
    · rw [if_pos ⟨hf, by omega⟩] at hk; cases hk
  · rw [if_neg c] at hk; cases hk
theorem l_store (h : lInv S) (hk : kstore S = 0) : zEq (zstore S).2 (mstore S) ∧ lInv (mstore S) := by
  have hW := h.1
  have hW2 := hW.store hk
  unfold zstore mstore at *
  by_cases d : zfnd S (zP S 20) (zL S 20) (zN S) = 0
  · have hn := kstore_new hW hk d
    rw [if_neg (fun z => z d)] at hW2
    rw [if_neg (fun z => z d), if_neg (fun z => z d)]
    have e := zset0_eq (t := zP S 20) (zkept_eq (p := 20) (u := 0) (v := 0) (n := zL S 20) (t := zP S 20) (zEq.rf (S := S)) hn (h.2 _ (Nat.le_refl _)) rfl (fun _ _ => rfl)) (by show zN S + 1 ≤ 20; omega)
    have l := mz_le (mkept_le (p := 20) (u := 0) (v := 0) hW)
    exact ⟨e, hW2.to e l.1 l.2, fun j hj => h.2 j (by have hj : zN S + 1 ≤ j := hj; omega)⟩
  · rw [if_pos d] at hW2
    rw [if_pos d, if_pos d]
    rw [← mz_eq]
    exact ⟨zEq.rf, hW2, h.2⟩
/-! evolve -/
theorem mcross_eq {i j : Nat} (hn : zN S < 20) : zEq S (mcross S i j) := ⟨rfl, fun k hk => ⟨mcross_L (by omega), fun q _ => by rw [mcross_P (by omega)]⟩, fun _ _ => ⟨rfl, rfl, rfl⟩, rfl, rfl, rfl, rfl⟩
theorem l_let {i j u v : Nat} (hW : zW S) (hJ : ∀ j, zN S ≤ j → zI S j = false) (hn : zN S < 20) (hWz : zW (zlet S (zchP S i j) (zchL S i j) u v).2) : zEq (zlet S (zchP S i j) (zchL S i j) u v).2 (mlet S (mcross S i j) (zchP S i j) (zchL S i j) u v) ∧ lInv (mlet S (mcross S i j) (zchP S i j) (zchL S i j) u v) := by
  have hWc := hW.cross (i := i) (j := j)
  have ec := mcross_eq (i := i) (j := j) hn
  unfold zlet mlet at *
  by_cases c : xright (zchP S i j) (zchL S i j) = false ∨ xany (zchP S i j) (zchL S i j) (zF S) 17 = true
  · rw [if_pos c, if_pos c]; exact ⟨ec, hWc, hJ⟩
  · rw [if_neg c] at hWz
    rw [if_neg c, if_neg c]
    by_cases d : zfnd S (zchP S i j) (zchL S i j) (zN S) = 0
    · rw [if_neg (fun z => z d)] at hWz
      rw [if_neg (fun z => z d), if_neg (fun z => z d)]
      have e := (zkept_eq (S0 := S) (p := zN S) (u := u) (v := v) (n := zchL S i j) (t := zchP S i j) ec hn (hJ _ (Nat.le_refl _)) mcross_LN (fun k hk => mcross_PN hk)).pool (c := zN S) (b := true)
      have l := mkept_le (p := zN S) (u := u) (v := v) hWc
      refine ⟨e, hWz.to e l.1 l.2, fun q hq => ?_⟩
      have hq : zN S + 1 ≤ q := hq
      show va_up (zI S) (zN S) true q = false
      rw [va_up_ne _ _ (by omega)]; exact hJ q (by omega)
    · have hle := zfnd_le (S := S) (t := zchP S i j) (n := zchL S i j) (zN S)
      rw [if_pos d] at hWz
      rw [if_pos d, if_pos d]
      by_cases f : zI S (zfnd S (zchP S i j) (zchL S i j) (zN S) - 1) = true
      · rw [if_pos f, if_pos f]; exact ⟨ec, hWc, hJ⟩
      · rw [if_neg f] at hWz
        rw [if_neg f, if_neg f]
        refine ⟨ec.pool, hWz.to ec.pool hWc.2.1 hWc.2.2.1, fun q hq => ?_⟩
        have hq : zN S ≤ q := hq
        show va_up (zI S) _ true q = false
        rw [va_up_ne _ _ (by omega)]; exact hJ q hq
theorem l_evolve {u : Int32} (h : lInv S) (hk : kevolve S u = 0) : zEq (zevolve S u.toNatClampNeg).2 (mevolve S u.toNatClampNeg) ∧ lInv (mevolve S u.toNatClampNeg) := by
  have hW := h.1
  obtain ⟨h3, h20⟩ : 3 ≤ xct (zI S) (zN S) ∧ zN S ≠ 20 := by
    unfold kevolve at hk
    split at hk
    · split at hk
      · cases hk
      · omega
    · cases hk
  have hn : zN S < 20 := by have := hW.1; omega
  obtain ⟨-, -, hW2, -⟩ := mev_facts (u := u.toNatClampNeg) hW h3
  have hWz := hW.evolve (u := u.toNatClampNeg) h3 hn
  refine l_let (S := zev1 S u.toNatClampNeg) hW2 (fun q hq => ?_) hn hWz
  cases c : zI (zev1 S u.toNatClampNeg) q with
  | false => rfl
  | true => exact absurd (mev1_le c) (by rw [h.2 q hq]; decide)
/-! the others -/
theorem l_pool {i : Nat} {b : Bool} (h : lInv S) (hi : i < zN S) (h8 : xct (va_up (zI S) i b) (zN S) ≤ 8) : lInv (zpool S i b) := ⟨h.1.pool h8, fun j hj => by
  have hj : zN S ≤ j := hj
  show va_up (zI S) i b j = false
  rw [va_up_ne _ _ (by omega)]; exact h.2 j hj⟩
theorem l_join {p : Int32} (h : lInv S) (hk : kjoin S p = 0) : lInv (zpool S p.toNatClampNeg true) := by
  have hn := h.1.1
  unfold kjoin at hk
  split at hk
  · rename_i c
    obtain ⟨j, hj, rfl⟩ := xok_of c (by omega)
    rw [nI_clamp (show j < 2 ^ 31 by omega)] at hk ⊢
    split at hk
    · cases hk
    · rename_i d
      have e : zI S j = false := Bool.eq_false_iff.mpr (fun z => d (Or.inl z))
      have f : xct (zI S) (zN S) ≠ 8 := fun z => d (Or.inr (Or.inr z))
      have g := h.1.2.2.2.2.2.2.1
      exact l_pool h hj (by rw [xct_up1 e hj]; omega)
  · cases hk
theorem l_leave {p : Int32} (h : lInv S) (hk : kleave S p = 0) : lInv (zpool S p.toNatClampNeg false) := by
  have hn := h.1.1
  unfold kleave at hk
  split at hk
  · rename_i c
    obtain ⟨j, hj, rfl⟩ := xok_of c (by omega)
    rw [nI_clamp (show j < 2 ^ 31 by omega)] at hk ⊢
    split at hk
    · rename_i d
      have g := h.1.2.2.2.2.2.2.1
      exact l_pool h hj (by have := xct_up0 d hj; omega)
    · cases hk
  · cases hk
theorem l_step {p : Int32} (h : lInv S) (hk : kstep S p = 0) : lInv (zset S (zL S 20 + 1) (va_up (zP S 20) (zL S 20) p.toNatClampNeg)) := by
  unfold kstep at hk
  split at hk
  · rename_i c
    obtain ⟨j, hj, rfl⟩ := xok_of c (by omega)
    rw [nI_clamp (show j < 2 ^ 31 by omega)]
    split at hk
    · cases hk
    · have h7 := h.1.2.1 20
      refine ⟨h.1.set (by omega) (fun k => ?_), h.2⟩
      by_cases d : k = zL S 20
      · rw [d, va_up_self]; omega
      · rw [va_up_ne _ _ d]; exact h.1.2.2.1 20 k
  · cases hk
theorem l_scrap (h : lInv S) : lInv (zset S 0 (zP S 20)) := ⟨h.1.set (Nat.zero_le _) (h.1.2.2.1 20), h.2⟩
theorem l_forbid {s m : Nat} (h : lInv S) : lInv (zforb S s m) := ⟨h.1.forb, fun j hj => by
  show (zI S j && _) = false
  rw [h.2 j hj]; rfl⟩
theorem l_allow {s : Nat} {b : Bool} (h : lInv S) : lInv (zrule S s b) := ⟨h.1.rule, h.2⟩
theorem l_tell {p q : Int32} (h : lInv S) (hk : ktell S p q = 0) : lInv (ztell S p.toNatClampNeg q.toNatClampNeg) := by
  unfold ktell at hk
  split at hk
  · rename_i c
    obtain ⟨i, hi, rfl⟩ := xok_of c.1 (by omega)
    obtain ⟨j, hj, rfl⟩ := xok_of c.2 (by omega)
    rw [nI_clamp (show i < 2 ^ 31 by omega), nI_clamp (show j < 2 ^ 31 by omega)]
    split at hk
    · cases hk
    · have h6 := h.1.2.2.2.2.2.2.2.1
      exact ⟨h.1.tell (by omega) (by omega) (by omega), h.2⟩
  · cases hk
theorem l_forget (h : lInv S) : lInv (zforget S) := ⟨h.1.forget, h.2⟩
end LE
theorem lInv_1 : lInv z1 := ⟨zW_1, fun _ _ => rfl⟩
theorem zEq_01 : zEq z0 z1 := ⟨rfl, fun _ _ => ⟨rfl, fun _ _ => rfl⟩, fun _ h => absurd h (Nat.not_lt_zero _), rfl, rfl, rfl, rfl⟩
