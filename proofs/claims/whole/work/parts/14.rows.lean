/-! rows of references: their cells one by one -/
section XR4
variable {p : Program} {l : Launch} {e : Env} {R : Room} {s : State} {m : MethodId} {args : Array Value} {below : List Frame} {meth : Method} {c : Code} {H : Heap} {locs : List Loc} {cells slots : Nat} {Q : State → Prop}
variable {cc : ByteArray} {pc : Nat} {ls : Array Slot} {rest st0 : List Value} {G : xG} {a : Nat}
theorem x_aldq (hexec : p.tables.exec = Jvm.exec) (hb : c.code = cc) (hC : xCx G s) {n j y : Nat} {f : Nat → Option Nat} (he : qA G a n f H) (hj : j < n) (hn : n < 2147483648) (hy : f j = some y) (hdg : decode cc pc = .ok (.aaload, 1))
    (kk : W p l e R s m args below meth c H locs cells slots Q (F0 m (pc + 1) ls (.ref y :: rest))) : W p l e R s m args below meth c H locs cells slots Q (F0 m pc ls (.int (nI j) :: .ref a :: rest)) := by
  refine va_aldq (D := xD G) hexec hb hC.1 (x1 he) 0 2 rfl rfl (vp_in_nI hj hn) hdg ?_
  rw [nI_clamp (Nat.lt_trans hj hn), hy]
  exact kk
theorem x_astq (hexec : p.tables.exec = Jvm.exec) (hb : c.code = cc) (hC : xCx G s) {H0 : Heap} (hS : va_S (xA G) H0 H locs) (hA : xA G a) {n j v : Nat} {vs : List Value} {f : Nat → Option Nat} (ha : qA G a n f H) (hv : oA G v 4 vs H) (hj : j < n) (hn : n < 2147483648) (hdg : decode cc pc = .ok (.aastore, 1))
    (kk : ∀ (H1 : Heap) (locs1 : List Loc), qA G a n (va_up f j (some v)) H1 → xC [a] H H1 → va_S (xA G) H0 H1 locs1 → W p l e R s m args below meth c H1 locs1 cells slots Q (F0 m (pc + 1) ls rest)) : W p l e R s m args below meth c H locs cells slots Q (F0 m pc ls (.ref v :: .int (nI j) :: .ref a :: rest)) := by
  have hin : vp_in (nI j) n := vp_in_nI hj hn
  have hcl : (nI j).toNatClampNeg = j := nI_clamp (Nat.lt_trans hj hn)
  have h0 : ¬ nI j < 0 := fun q => hin (Or.inl q)
  obtain ⟨r', hr', cellV, g1, g2, g3, -⟩ := hv
  have hcls := (hC.1.1 4 (RX3, TX3, 8) rfl).2
  obtain ⟨kA, comp, k1, k2, k3, -⟩ := (hC.1.2 2 _ rfl).2
  obtain ⟨kE, hkE, -⟩ := Vm.findClass_spec k3
  obtain ⟨kC, hkC, -⟩ := hcls.2
  obtain ⟨c3, c4, hc3, hc4, hasg⟩ := Cond.castable_spec (args := args) (va_Nw.use rfl (hC.2.1 (.castable "Bidwhistle$Strategy" "java/lang/Object") (by decide +kernel)))
  cases Option.some.inj (hc4.symm.trans k3)
  have e3 : c3 = (xD G).1 4 := Option.some.inj (hc3.symm.trans hcls.1)
  subst e3
  refine W.aast hexec hb ha (fun q h => by cases h) (fun h => by cases h) k1 k2 rfl hkE ⟨h0, by show _ < (arrV _ _ _).slots.size; rw [arrV_size, hcl]; exact hj⟩ g1 (fun q h => by rw [g3] at h; cases h) (by rw [g2]; exact hkC) (by rw [g2]; exact hasg) rfl rfl hdg fun H1 e z oq => ?_
  refine kk H1 _ ?_ ⟨Nat.le_of_eq z.symm, fun q _ hq => oq q (fun z => hq (by rw [z]; exact List.mem_cons_self))⟩ (hS.put z oq hA)
  show H1[a]? = some (vp_cell _ _)
  rw [e, vp_cell_q, vp_cell_q, arrV_store, hcl]
  congr 2
  funext q
  by_cases hq : q = j
  · subst hq
    simp [updV, va_up, va_rf]
  · simp [updV, va_up, hq]
theorem x_newO (hexec : p.tables.exec = Jvm.exec) (hb : c.code = cc) {own : String} {index : Nat} (hown : s.vm.findClass own = some m.cls) (hclink : (Cond.classLink own index "java/lang/Object").before args s = true) (hC : xCx G s) {H0 : Heap} (hS : va_S (xA G) H0 H locs)
    {n : Nat} (hn : n ≤ 100000) (hcells : cells + 1 ≤ R.cells) (hslots : slots + n ≤ R.slots) (hdg : decode cc pc = .ok (.anewarray index, 3))
    (kk : ∀ (q : Nat) (H1 : Heap), q = H.size → qA G q n (fun _ => none) H1 → xC [] H H1 → H1.size = H.size + 1 → va_S (xA G) H0 H1 locs →
      W p l e R s m args below meth c H1 locs (cells + 1) (slots + n) Q (F0 m (pc + 3) ls (.ref q :: rest))) : W p l e R s m args below meth c H locs cells slots Q (F0 m pc ls (.int (nI n) :: rest)) := by
  have hN : (nI n).toNatClampNeg = n := nI_clamp (by omega)
  refine W.anew hexec hb hown hclink (va_AO.use hC.2.2.2.2.2.2.2.2.2.2) rfl hdg rfl (nI_pos (by omega)) (by rw [hN]; omega) hcells (by rw [hN]; exact hslots) fun cA kA comp f1 f2 f3 f4 => ?_
  rw [hN]
  generalize hH1 : H.push ({ cls := cA, slots := Array.replicate n .null, vm := .none } : Cell) = H1
  have z1 : H1.size = H.size + 1 := by rw [← hH1, Array.size_push]
  have e1 : H1[H.size]? = some (arrV cA n (fun _ => .null)) := by rw [← hH1, Array.getElem?_push_size, ← arrV_new]
  have o1 : ∀ q : Nat, q < H.size → H1[q]? = H[q]? := fun q hq => by rw [← hH1, Array.getElem?_push, if_neg (Nat.ne_of_lt hq)]
  obtain ⟨kA2, comp2, k1, k2, k3, k4⟩ := (hC.1.2 2 _ rfl).2
  have hc : cA = xO G := Option.some.inj (f1.symm.trans k4)
  subst hc
  exact kk H.size H1 rfl (by show H1[H.size]? = some (vp_cell _ _); rw [vp_cell_q]; exact e1) ⟨by omega, fun q hq _ => o1 q hq⟩ z1 ⟨Nat.le_trans hS.1 (by omega), fun x h1 h2 => (o1 x (Nat.lt_of_lt_of_le h1 hS.1)).trans (hS.2.1 x h1 h2), hS.2.2⟩
theorem x_copyq (hexec : p.tables.exec = Jvm.exec) (hb : c.code = cc) (hml : c.maxLocals = ls.size) {own : String} {index : Nat} (hown : s.vm.findClass own = some m.cls) (hlink : (Cond.methodLink own index arraycopyName).before args s = true) (hnat : (Cond.native arraycopyName).before args s = true) (hstat : (Cond.static arraycopyName).before args s = true) (hini : (Cond.initialized "java/lang/System").before args s = true)
    (hC : xCx G s) {H0 : Heap} (hS : va_S (xA G) H0 H []) {a0 n0 n1 n : Nat} {f g : Nat → Option Nat} (h0 : qA G a0 n0 f H) (h1 : qA G a n1 g H) (hne : a0 ≠ a) (hA0 : xA G a0) (hA : xA G a) (hn0 : n ≤ n0) (hn1 : n ≤ n1) (hn : n < 2147483648)
    (hel : ∀ i : Nat, i < n → ∀ y : Nat, f i = some y → ∃ fs, oA G y 4 fs H)
    (hframes : 1 ≤ R.frames) (hlocals : (rest.map fun v => v.category).sum + (nativeFrameWords "java/lang/System" "arraycopy" 5 + 11) ≤ R.locals) (hdg : decode cc pc = .ok (.invokestatic index, 3))
    (kk : ∀ (H1 : Heap) (locs1 : List Loc), qA G a n1 (va_cpy f g 0 0 n) H1 → xC [a] H H1 → va_S (xA G) H0 H1 locs1 → W p l e R s m args below meth c H1 locs1 cells slots Q (F0 m (pc + 3) ls rest)) : W p l e R s m args below meth c H [] cells slots Q (F0 m pc ls (.int (nI n) :: .int (nI 0) :: .ref a :: .int (nI 0) :: .ref a0 :: rest)) := by
  have e0 : (nI 0).toNatClampNeg = 0 := nI_clamp (by decide)
  have en : (nI n).toNatClampNeg = n := nI_clamp hn
  have hP : va_P (xD G) vwCl [(a0, .inl (xO G, n0, .inr (.inr (.inr (.inr f))))), (a, .inl (xO G, n1, .inr (.inr (.inr (.inr g)))))] H := (x1 h0).app (x1 h1)
  have hD : va_D (fun q => q = a0 ∨ q = a) [(a0, .inl (xO G, n0, .inr (.inr (.inr (.inr f))))), (a, .inl (xO G, n1, .inr (.inr (.inr (.inr g)))))] := by
    refine ⟨fun i j x y hi hj hxy => ?_, fun k q hk => ?_⟩
    · have b1 : i < 2 := (List.getElem?_eq_some_iff.mp hi).1
      have b2 : j < 2 := (List.getElem?_eq_some_iff.mp hj).1
      rcases (show i = 0 ∨ i = 1 by omega) with rfl | rfl <;> rcases (show j = 0 ∨ j = 1 by omega) with rfl | rfl
      · rfl
      · cases hi; cases hj; exact absurd hxy hne
      · cases hi; cases hj; exact absurd hxy.symm hne
      · rfl
    · have b1 : k < 2 := (List.getElem?_eq_some_iff.mp hk).1
      rcases (show k = 0 ∨ k = 1 by omega) with rfl | rfl
      · cases hk; exact Or.inl rfl
      · cases hk; exact Or.inr rfl
  obtain ⟨c3, c4, hc3, hc4, hasg⟩ := Cond.castable_spec (args := args) (va_Nw.use rfl (hC.2.1 (.castable "Bidwhistle$Strategy" "java/lang/Object") (by decide +kernel)))
  refine va_copyq (D := xD G) (C := "Bidwhistle$Strategy") (E0 := "java/lang/Object") (E1 := "java/lang/Object") hexec hb hml hown hlink hnat hstat hini hC.1 hP hD (va_S.rf (A := fun q => q = a0 ∨ q = a) (H0 := H)) 0 1 2 2 rfl rfl rfl rfl (nI_pos (by decide)) (nI_pos (by decide)) (nI_pos hn) (by rw [e0, en]; omega) (by rw [e0, en]; omega) ?_ ?_ hframes hlocals hdg ?_
  · intro i hi y hy
    rw [en] at hi
    rw [e0, Nat.zero_add] at hy
    obtain ⟨fs, hfs⟩ := hel i hi y hy
    exact va_recv hC.1 (x1 hfs) (q0 := 0) (ci := 4) (q := (RX3, TX3, 8)) rfl rfl
  · intro comp c0 k1 k2
    cases Option.some.inj (hc4.symm.trans k1)
    cases Option.some.inj (hc3.symm.trans k2)
    exact hasg
  · intro H1 locs1 g1 g2 g3
    rw [e0, en] at g1
    have ga0 : va_at (xD G) vwCl (a0, .inl (xO G, n0, .inr (.inr (.inr (.inr f))))) H1 := g1 0 _ rfl
    have ga : qA G a n1 (va_cpy f g 0 0 n) H1 := g1 1 _ rfl
    have hc : xC [a] H H1 := by
      refine ⟨g3.1, fun q hq hn => ?_⟩
      by_cases c1 : q = a0
      · subst c1
        exact (show H1[q]? = some _ from ga0).trans (show H[q]? = some _ from h0).symm
      · exact g3.2.1 q hq (fun z => z.elim c1 (fun z => hn (by rw [z]; exact List.mem_cons_self)))
    refine kk H1 locs1 ga hc ⟨Nat.le_trans hS.1 g3.1, fun q h1 h2 => ?_, fun z hz => ?_⟩
    · rw [hc.2 q (Nat.lt_of_lt_of_le h1 hS.1) (fun w => h2 (by rcases List.mem_cons.mp w with w | w; rw [w]; exact hA; cases w))]
      exact hS.2.1 q h1 h2
    · rcases g3.2.2 z hz with w | w
      · rw [w]; exact hA0
      · rw [w]; exact hA
end XR4
