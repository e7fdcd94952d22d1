/-! the world at the law's entry -/
section LS
variable {args : Array Value} {s : State}
theorem l_arr {ty : FieldType} (hp : ∀ c : String, ty ≠ .object c) (h : (Cond.arrayClass ty).before args s = true) : ∃ cA : ClassId, ArrOfT s cA ty ∧ va_RA s cA ty := by
  obtain ⟨c, k, comp, h1, h2, h3⟩ := Cond.arrayClass_spec h
  refine ⟨c, fun n z => ⟨fun k h => (by cases h), k, h2, comp, h3⟩, ?_⟩
  cases ty with
  | object C => exact absurd rfl (hp C)
  | _ => exact h1
theorem l_arrO {C : String} (h : (Cond.arrayOver (.object C)).before args s = true) : ∃ cA : ClassId, (ArrOfT s cA (.object C) ∧ va_RA s cA (.object C)) ∧ s.vm.findClass ("[" ++ (FieldType.object C).toString) = some cA := by
  obtain ⟨comp, c, k, h1, h2, h3, h4, h5⟩ := Cond.arrayOver_spec h
  exact ⟨c, ⟨fun n z => ⟨fun k h => (by cases h), k, h3, comp, h4⟩, k, comp, h3, h4, h1, h5⟩, h5⟩
theorem l_asg (vm : Vm) (c : ClassId) : vm.assignable c c = true := by
  show vm.assignableAux (255 + 1) c c = true
  rw [Vm.assignableAux]
  simp
theorem l_cast {C : String} {c : ClassId} (h : s.vm.findClass C = some c) : va_Nw (.castable C C) s := by
  show (Cond.castable C C).before #[] s = true
  simp only [Cond.before, Cond.holds, Cond.value, h]
  simp [l_asg]
theorem l_text {own tx : String} {k : Nat} (h : (Cond.stringRef own k tx).before args s = true) : ∃ a : Nat, vk_R own k tx a s := by
  have h0 : (Cond.stringRef own k tx).before #[] s = true := h
  have h2 := h0
  simp only [Cond.before, Cond.holds, Cond.value] at h2
  cases hr : s.resolvedAt? own k with
  | none => cases hc : s.vm.findClass own <;> simp [hr, hc] at h2
  | some r =>
    rw [hr] at h2
    cases r with
    | string a =>
      refine ⟨a, h0, ?_⟩
      unfold State.resolvedAt? at hr
      show (do
        let .string a ← ((← s.vm.classes[← s.vm.findClass own]?).resolved[k]?).join | none
        pure (Value.ref a) : Option Value) = _
      cases hc : s.vm.findClass own with
      | none => simp [hc] at hr
      | some c =>
        cases hk : s.vm.classes[c]? with
        | none => simp [hc, hk] at hr
        | some kk =>
          have h3 : kk.resolved[k]?.join = some (.string a) := by simpa [hc, hk] using hr
          simp [hk, h3]
    | _ => cases hc : s.vm.findClass own <;> simp [hc] at h2
theorem l_len {tm : Term} (h : (Cond.eq (.length tm) (.int 0)).before args s = true) : (Term.length tm).eval args s none [] s = some (.int 0) := va_eqt h
end LS
/-- the words given at the entry -/
def l_gv : List Cond := [.isRef (.static Bundle.tN "UNASSIGNED_STACK" Bundle.steD), .isRef (.static Bundle.tN "SUPPRESSED_SENTINEL" Bundle.listD), .isRef (.static "java/util/ArrayList" "DEFAULTCAPACITY_EMPTY_ELEMENTDATA" "[Ljava/lang/Object;"), .arrayOf (.static "java/util/ArrayList" "DEFAULTCAPACITY_EMPTY_ELEMENTDATA" "[Ljava/lang/Object;") (.object "java/lang/Object"), .eq (.length (.static "java/util/ArrayList" "DEFAULTCAPACITY_EMPTY_ELEMENTDATA" "[Ljava/lang/Object;")) (.int 0), .isRef (.mirror "[Ljava/lang/Object;"),
  .not (.castable "java/lang/IllegalStateException" "java/lang/IllegalArgumentException"), .not (.castable "java/lang/IllegalArgumentException" "java/lang/IndexOutOfBoundsException"), .not (.castable "java/lang/IllegalStateException" "java/lang/IndexOutOfBoundsException")]
theorem l_gv_in : ∀ w ∈ l_gv, w ∈ flatC (Cond.and given_1 narrow_1) := by decide +kernel
def l_tb : List Cond := [.arrayClass .int, .arrayClass .boolean, .arrayClass .long, .arrayOver (.object "java/lang/Object"), .laysStatic Bundle.tN "UNASSIGNED_STACK" Bundle.steD, .laysStatic Bundle.tN "SUPPRESSED_SENTINEL" Bundle.listD, .initialized Bundle.tN, .laysStatic "java/util/ArrayList" "DEFAULTCAPACITY_EMPTY_ELEMENTDATA" "[Ljava/lang/Object;", .initialized "java/util/ArrayList", .declares ⟨"java/lang/Object", "getClass", "()Ljava/lang/Class;"⟩]
theorem l_tb_in : ∀ w ∈ l_tb, w ∈ lw_tbl := by decide +kernel
theorem l_tx_in : ∀ q ∈ xTexts, Cond.stringRef "Bidwhistle" q.1 q.2 ∈ lw_tbl := by decide +kernel
def l_nest : List Cond := xNest.filter (fun w => decide (w ∈ lw_tbl))
theorem l_nest_or : ∀ w ∈ xNest, (w ∈ lw_tbl ∧ w.onTables = true) ∨ w = .castable "Bidwhistle$Strategy" "Bidwhistle$Strategy" ∨ w = .castable "[Ljava/lang/Object;" "[Ljava/lang/Object;" := by decide +kernel
theorem l_inJx4a65c : (∀ w ∈ u_ws RJx4a65c TJx4a65c 3, w ∈ lw_tbl) ∧ Cond.instantiable RJx4a65c 3 ∈ lw_tbl := ⟨by decide +kernel, by decide +kernel⟩
theorem l_inX0 : (∀ w ∈ u_ws RX0 TX0 3, w ∈ lw_tbl) ∧ Cond.instantiable RX0 3 ∈ lw_tbl := ⟨by decide +kernel, by decide +kernel⟩
theorem l_inX1 : (∀ w ∈ u_ws RX1 TX1 1, w ∈ lw_tbl) ∧ Cond.instantiable RX1 1 ∈ lw_tbl := ⟨by decide +kernel, by decide +kernel⟩
theorem l_inX2 : (∀ w ∈ u_ws RX2 TX2 2, w ∈ lw_tbl) ∧ Cond.instantiable RX2 2 ∈ lw_tbl := ⟨by decide +kernel, by decide +kernel⟩
theorem l_inX3 : (∀ w ∈ u_ws RX3 TX3 8, w ∈ lw_tbl) ∧ Cond.instantiable RX3 8 ∈ lw_tbl := ⟨by decide +kernel, by decide +kernel⟩
theorem l_inX4 : (∀ w ∈ u_ws RX4 TX4 11, w ∈ lw_tbl) ∧ Cond.instantiable RX4 11 ∈ lw_tbl := ⟨by decide +kernel, by decide +kernel⟩
theorem l_inX5 : (∀ w ∈ u_ws RX5 TX5 14, w ∈ lw_tbl) ∧ Cond.instantiable RX5 14 ∈ lw_tbl := ⟨by decide +kernel, by decide +kernel⟩
theorem l_tx_un : ∀ (k : Nat) (a b : String), (k, a) ∈ xTexts → (k, b) ∈ xTexts → a = b := by
  have h : ∀ p ∈ xTexts, ∀ q ∈ xTexts, p.1 = q.1 → p.2 = q.2 := by decide +kernel
  exact fun k a b ha hb => h _ ha _ hb rfl
set_option maxRecDepth 20000 in
theorem l_start {args : Array Value} {s : State} (hts : ∀ w ∈ lw_tbl, w.before args s = true) (hgv : (Cond.and given_1 narrow_1).before args s = true) : ∃ G : xG, lC G s ∧ ∀ q, xA G q ↔ s.heap.size ≤ q := by
  have hg := fun w (hw : w ∈ l_gv) => flat_of_before _ hgv w (l_gv_in w hw)
  have ht := fun w (hw : w ∈ l_tb) => hts w (l_tb_in w hw)
  obtain ⟨c0, i0, k0⟩ := u_known (C := RJx4a65c) (T := TJx4a65c) (N := 3) (n := 3) hts l_inJx4a65c.1 (hts _ l_inJx4a65c.2)
  obtain ⟨c1, i1, k1⟩ := u_known (C := RX0) (T := TX0) (N := 3) (n := 3) hts l_inX0.1 (hts _ l_inX0.2)
  obtain ⟨c2, i2, k2⟩ := u_known (C := RX1) (T := TX1) (N := 1) (n := 1) hts l_inX1.1 (hts _ l_inX1.2)
  obtain ⟨c3, i3, k3⟩ := u_known (C := RX2) (T := TX2) (N := 2) (n := 2) hts l_inX2.1 (hts _ l_inX2.2)
  obtain ⟨c4, i4, k4⟩ := u_known (C := RX3) (T := TX3) (N := 8) (n := 8) hts l_inX3.1 (hts _ l_inX3.2)
  obtain ⟨c5, i5, k5⟩ := u_known (C := RX4) (T := TX4) (N := 11) (n := 11) hts l_inX4.1 (hts _ l_inX4.2)
  obtain ⟨c6, i6, k6⟩ := u_known (C := RX5) (T := TX5) (N := 14) (n := 14) hts l_inX5.1 (hts _ l_inX5.2)
  obtain ⟨dC, dI, hKc⟩ : ∃ (dC : Nat → ClassId) (dI : Nat → Nat → Nat), ∀ (k : Nat) (q : vw_C), vwCl[k]? = some q → u_Kn s q.1 q.2.1 q.2.2 (dC k) (dI k) := by
    refine ⟨fun k => if k = 0 then c0 else if k = 1 then c1 else if k = 2 then c2 else if k = 3 then c3 else if k = 4 then c4 else if k = 5 then c5 else c6, fun k => if k = 0 then i0 else if k = 1 then i1 else if k = 2 then i2 else if k = 3 then i3 else if k = 4 then i4 else if k = 5 then i5 else i6, ?_⟩
    intro k q hq
    match k, hq with
    | 0, hq => cases hq; exact k0
    | 1, hq => cases hq; exact k1
    | 2, hq => cases hq; exact k2
    | 3, hq => cases hq; exact k3
    | 4, hq => cases hq; exact k4
    | 5, hq => cases hq; exact k5
    | 6, hq => cases hq; exact k6
    | k + 7, hq => have hq : (none : Option vw_C) = some q := hq; cases hq
  obtain ⟨aI, hI1, hI2⟩ := l_arr (fun _ h => by cases h) (ht (.arrayClass .int) (by decide +kernel))
  obtain ⟨aZ, hZ1, hZ2⟩ := l_arr (fun _ h => by cases h) (ht (.arrayClass .boolean) (by decide +kernel))
  obtain ⟨aJ, hJ1, hJ2⟩ := l_arr (fun _ h => by cases h) (ht (.arrayClass .long) (by decide +kernel))
  obtain ⟨aO, hO1, hOn⟩ := l_arrO (ht (.arrayOver (.object "java/lang/Object")) (by decide +kernel))
  have hA : ∀ a : Nat, a < s.heap.size → ¬ (s.heap.size ≤ a) := fun a h => Nat.not_le.mpr h
  obtain ⟨xe, hxe, hT⟩ := va_Tof (ty := .object "java/lang/Object") (N := 0) (f := fun _ => .null) (A := fun q => s.heap.size ≤ q) (by decide) (hg (.arrayOf (.static "java/util/ArrayList" "DEFAULTCAPACITY_EMPTY_ELEMENTDATA" "[Ljava/lang/Object;") (.object "java/lang/Object")) (by decide +kernel)) (l_len (hg (.eq (.length (.static "java/util/ArrayList" "DEFAULTCAPACITY_EMPTY_ELEMENTDATA" "[Ljava/lang/Object;")) (.int 0)) (by decide +kernel))) (fun j hj => absurd hj (Nat.not_lt_zero j)) hA
  obtain ⟨mi, hmi⟩ := va_Mi.of (hg (.isRef (.mirror "[Ljava/lang/Object;")) (by decide +kernel))
  obtain ⟨tx, htx⟩ : ∃ tx : Nat → Nat, ∀ q ∈ xTexts, vk_R "Bidwhistle" q.1 q.2 (tx q.1) s := by
    have h0 : ∀ k : Nat, ∃ a : Nat, ∀ t : String, (k, t) ∈ xTexts → vk_R "Bidwhistle" k t a s := by
      intro k
      by_cases c : ∃ t, (k, t) ∈ xTexts
      · obtain ⟨t, hk⟩ := c
        obtain ⟨a, ha⟩ := l_text (hts _ (l_tx_in (k, t) hk))
        refine ⟨a, fun t2 h2 => ?_⟩
        have e : t2 = t := l_tx_un k t2 t h2 hk
        rw [e]; exact ha
      · exact ⟨0, fun t h => absurd ⟨t, h⟩ c⟩
    exact ⟨fun k => Classical.choose (h0 k), fun q hq => Classical.choose_spec (h0 q.1) q.2 hq⟩
  refine ⟨((dC, dI), (aI, aZ, aO, aJ), (fun q => s.heap.size ≤ q), tx, (xe, mi)), ⟨⟨⟨hKc, ?_⟩, ?_, fun q hq => hq, vx_Zqof (ht _ (by decide +kernel)) (ht _ (by decide +kernel)) (hg _ (by decide +kernel)) hA, vx_Zqof (ht _ (by decide +kernel)) (ht _ (by decide +kernel)) (hg _ (by decide +kernel)) hA, htx, va_Zof (ht _ (by decide +kernel)) (ht _ (by decide +kernel)) hxe hA, hT, hmi, va_Dc.of (ht _ (by decide +kernel)), va_AO.of (ht _ (by decide +kernel))⟩, ?_⟩, fun q => Iff.rfl⟩
  · intro k q hq
    match k, hq with
    | 0, hq => cases hq; exact ⟨hI1, hI2⟩
    | 1, hq => cases hq; exact ⟨hZ1, hZ2⟩
    | 2, hq => cases hq; exact hO1
    | 3, hq => cases hq; exact ⟨hJ1, hJ2⟩
    | k + 4, hq => have hq : (none : Option (ClassId × FieldType)) = some q := hq; cases hq
  · intro w hw
    rcases l_nest_or w hw with h | rfl | rfl
    · exact va_Nw.of h.2 (hts w h.1)
    · exact l_cast k4.2.1
    · exact l_cast hOn
  · intro q hq
    rcases List.mem_cons.mp hq with rfl | hq
    · exact va_Nc.of (hg (.not (.castable "java/lang/IllegalStateException" "java/lang/IllegalArgumentException")) (by decide +kernel))
    rcases List.mem_cons.mp hq with rfl | hq
    · exact va_Nc.of (hg (.not (.castable "java/lang/IllegalArgumentException" "java/lang/IndexOutOfBoundsException")) (by decide +kernel))
    rcases List.mem_cons.mp hq with rfl | hq
    · exact va_Nc.of (hg (.not (.castable "java/lang/IllegalStateException" "java/lang/IndexOutOfBoundsException")) (by decide +kernel))
    cases hq
