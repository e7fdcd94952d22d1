/-! Row, Stack, Program, Strategy: contracts; the pictures -/
/-- a program: its object, its row, its steps t up to n, their bits -/
def pA (G : xG) (p r a : Nat) (t : Nat → Nat) (n : Nat) (H : Heap) : Prop := oA G p 1 [.ref r, .int (nI n), .int (xbits t n)] H ∧ oA G r 2 [.ref a] H ∧ iA G a 7 (fun k => nI (t k)) H ∧ n ≤ 7 ∧ p ≠ r ∧ p ≠ a ∧ r ≠ a ∧ ∀ k, t k ≤ 16
/-- a stack of depth d -/
def sA (G : xG) (k r a : Nat) (g : Nat → Int) (d : Nat) (H : Heap) : Prop := oA G k 3 [.ref r, .int (nI d)] H ∧ oA G r 2 [.ref a] H ∧ iA G a 7 (fun j => Int32.ofInt (g j)) H ∧ d ≤ 7 ∧ k ≠ r ∧ k ≠ a ∧ r ≠ a
theorem pA.kept {G : xG} {p r a n : Nat} {t : Nat → Nat} {H H1 : Heap} {L : List Nat} (h : pA G p r a t n H) (hc : xC L H H1) (h1 : p ∉ L) (h2 : r ∉ L) (h3 : a ∉ L) : pA G p r a t n H1 := ⟨hc.at h.1 h1, hc.at h.2.1 h2, hc.at h.2.2.1 h3, h.2.2.2⟩
theorem sA.kept {G : xG} {p r a n : Nat} {t : Nat → Int} {H H1 : Heap} {L : List Nat} (h : sA G p r a t n H) (hc : xC L H H1) (h1 : p ∉ L) (h2 : r ∉ L) (h3 : a ∉ L) : sA G p r a t n H1 := ⟨hc.at h.1 h1, hc.at h.2.1 h2, hc.at h.2.2.1 h3, h.2.2.2⟩
theorem xl_toInt {z : Int} (h1 : -1000000000000 ≤ z) (h2 : z ≤ 1000000000000) : (Int64.ofInt z).toInt = z := Int64.toInt_ofInt_of_le (by omega) (by omega)
theorem xi_toInt {z : Int} (h1 : -1000000000 ≤ z) (h2 : z ≤ 1000000000) : (Int32.ofInt z).toInt = z := Int32.toInt_ofInt_of_le (by omega) (by omega)
theorem xclamp {z : Int} (h1 : -1000000000000 ≤ z) (h2 : z ≤ 1000000000000) : (if (if Int64.ofInt z < 100000 then Int64.ofInt z else 100000) < -100000 then -100000 else (if Int64.ofInt z < 100000 then Int64.ofInt z else 100000)).toInt32 = Int32.ofInt (xcl z) := by
  have e := xl_toInt h1 h2
  have k1 : Int64.ofInt z < 100000 ↔ z < 100000 := by rw [Int64.lt_iff_toInt_lt, e]; exact Iff.rfl
  have k2 : Int64.ofInt z < -100000 ↔ z < -100000 := by rw [Int64.lt_iff_toInt_lt, e]; exact Iff.rfl
  unfold xcl
  by_cases c : z < 100000
  · rw [if_pos (k1.mpr c)]
    by_cases c2 : z < -100000
    · rw [if_pos (k2.mpr c2), if_neg (by omega), if_pos c2]; rfl
    · rw [if_neg (fun q => c2 (k2.mp q)), if_neg (by omega), if_neg c2, Int64.toInt32_ofInt]
  · rw [if_neg (fun q => c (k1.mp q)), if_neg (by decide)]
    by_cases c2 : 100000 < z
    · rw [if_pos c2]; rfl
    · rw [if_neg c2, if_neg (by omega), show z = 100000 by omega]; rfl
theorem xi2l {s : Nat} (h : s < 1000000) : (nI s).toInt64 = Int64.ofInt (s : Int) := by
  apply Int64.toInt.inj
  rw [Int32.toInt_toInt64, nI_toInt (by omega), xl_toInt (by omega) (by omega)]
theorem xz2l {z : Int} (h1 : -100000 ≤ z) (h2 : z ≤ 100000) : (Int32.ofInt z).toInt64 = Int64.ofInt z := by
  apply Int64.toInt.inj
  rw [Int32.toInt_toInt64, xi_toInt (by omega) (by omega), xl_toInt (by omega) (by omega)]
theorem xl_lt {x y : Int} (hx : -100000 ≤ x ∧ x ≤ 100000) (hy : -100000 ≤ y ∧ y ≤ 100000) : Int64.ofInt x < Int64.ofInt y ↔ x < y := by
  rw [Int64.lt_iff_toInt_lt, xl_toInt (by omega) (by omega), xl_toInt (by omega) (by omega)]
theorem xcmp0 {y : Int} (hy : -100000 ≤ y ∧ y ≤ 100000) : lg_cmp (Int64.ofInt y) (lN 0) = 0 ↔ y = 0 := by
  have e : lN 0 = Int64.ofInt 0 := rfl
  have h0 : (-100000 : Int) ≤ 0 ∧ (0 : Int) ≤ 100000 := by decide
  rw [e]
  unfold lg_cmp
  by_cases c : 0 < y
  · rw [if_pos ((xl_lt h0 hy).mpr c)]; exact ⟨fun q => absurd q (by decide), fun q => by omega⟩
  · rw [if_neg (fun q => c ((xl_lt h0 hy).mp q))]
    by_cases c2 : y = 0
    · subst c2; exact ⟨fun _ => rfl, fun _ => rfl⟩
    · rw [if_neg (fun q => c2 (by have := congrArg Int64.toInt q; rw [xl_toInt (by omega) (by omega), xl_toInt (by omega) (by omega)] at this; exact this))]
      exact ⟨fun q => absurd q (by decide), fun q => absurd q c2⟩
theorem xne0 {y : Int} (hy : -100000 ≤ y ∧ y ≤ 100000) (h : y ≠ 0) : ¬ Int64.ofInt y = 0 := fun q => h (by have := congrArg Int64.toInt q; rw [xl_toInt (by omega) (by omega)] at this; exact this)
def xeq (a b : Int32) : Bool := decide (a = b)

set_option maxHeartbeats 4000000 in
set_option maxRecDepth 100000 in
/-- new Row(n) -/
theorem c_X1_init (l : Launch) (hfl : l.stackTraces = false) (G : xG) (r n : Nat) (H : Heap) (hr0 : oA G r 2 [.null] H) (hA_r : xA G r) (hn : n ≤ 100) : xMet l G yX1_init wsX1_init ({ frames := 1, cells := 1, slots := 100, locals := 30 } : Room) [.ref r, .int (nI n)] H (fun v H1 => v = none ∧ ∃ q, H.size ≤ q ∧ oA G r 2 [.ref q] H1 ∧ iA G q n (fun _ => nI 0) H1 ∧ xC [r] H H1) (xNo) := by
  refine vx_ofW (cc := cX1_init) (maxL := 2) (ret := none) (by decide) rfl ?_
  intro Pg Ev s m args below meth c s₁ B hml hout hv
  obtain ⟨rfl, hH, hC⟩ := hv
  have hx := B.exec
  have hb := B.bytes
  have hr := B.returns
  have hts := atoms_spec (ws := wsX1_init) B.pre
  have hown : s.vm.findClass RX1 = some m.cls := findClass_of_methodNamed B.named
  have hlocks := B.notSynchronized
  have hin : meth.name = "<init>" := (name_of_methodNamed B.named B.method).1
  rw [hH]
  have hS : va_S (xA G) s.heap H [] := by rw [← hH]; exact va_S.rf
  generalize ([] : List Loc) = locs at hS ⊢
  have hl := lv_entry [.ref r, .int (nI n)] (n := 2) (Nat.le_of_ble_eq_true rfl)
  rw [lg_entry_eq]
  generalize (lg_sl [.ref r, .int (nI n)] ++ List.replicate (2 - (lg_sl [.ref r, .int (nI n)]).length) Slot.unset).toArray = ls at hl ⊢
  have hl : lv_has ls 2 [(0, .ref r), (1, .int (nI n))] := hl
  refine lv_aload_n hx hb dX1_init_0 rfl (lv_at hl 0 rfl) ?_
  refine W.objInit hx hb hown (hts (.methodLink RX1 1 objectInit) (by decide +kernel)) (hts (.instanceMethod objectInit) (by decide +kernel)) (hts (.code objectInit ⟨#[0xb1]⟩ 1 none) (by decide +kernel)) rfl (by rw [hml]; exact hl.1) rfl dX1_init_1 (Nat.le_of_ble_eq_true rfl) (Nat.le_of_ble_eq_true rfl) ?_
  refine W.eq (g2 := F0 m 4 ls []) rfl ?_
  refine lv_aload_n hx hb dX1_init_4 rfl (lv_at hl 0 rfl) ?_
  refine lv_iconst (v := (nI 0)) hx hb dX1_init_5 (by decide) ?_
  refine lv_iload_n hx hb dX1_init_6 rfl (lv_at hl 1 rfl) ?_
  refine va_mmax hx hb (by rw [hml]; exact hl.1.symm) hown (hts (.methodLink RX1 7 Lib.Math.max.name) (by decide +kernel)) (hts (.static Lib.Math.max.name) (by decide +kernel)) (hts (.initialized "java/lang/Math") (by decide +kernel)) (hts (.code Lib.Math.max.name Lib.Math.max.code 2 (some .int)) (by decide +kernel)) (Nat.le_of_ble_eq_true rfl) (Nat.le_of_ble_eq_true rfl) (by first | exact Nat.le_of_ble_eq_true rfl | omega) (by first | exact Nat.le_of_ble_eq_true rfl | omega) dX1_init_7 ?_
  rw [show (if (nI 0) < (nI n) then (nI n) else (nI 0)) = (nI n) from by by_cases h : n = 0; (subst h; rfl); rw [if_pos ((nI_ltI (by omega) (by omega)).mpr (by omega))]]
  have hsz := hS.1
  refine x_newI (G := G) (N' := n) hx hb (hts (.arrayClass .int) (by decide +kernel)) hC hS (nI_pos (by omega)) (nI_clamp (by omega)) (by first | decide | (simp [componentBytes]; omega)) (by first | exact Nat.le_of_ble_eq_true rfl | exact (show 0 + 1 ≤ 1 by omega)) (by first | exact Nat.le_of_ble_eq_true rfl | exact (show 0 + n ≤ 100 by omega)) dX1_init_10 (fun q_1 H_6 eq_4 ha_2 hc_3 hz_5 hS => ?_)
  have hA_q_1 : xA G q_1 := hC.2.2.1 _ (by rw [eq_4]; exact hsz)
  have ne_7 : r ≠ q_1 := xlt hr0 eq_4
  have hr0 := hc_3.at0 hr0
  refine x_putF (G := G) (ci := 2) (v := .ref q_1) (ty := (.array .int)) (C := RX1) (T := TX1) (N := 1) hx hb hts (by decide +kernel) tyX1 tyX1_ok nmX1 hown hC hS hA_r hr0 rfl 0 (by decide) (hts (.fieldLink RX1 13 "Bidwhistle$Row" "numbers" "[I") (by decide +kernel)) (fun _ h9 => h9) rfl hin rfl (by decide +kernel) rfl rfl (Nat.le_of_ble_eq_true rfl) dX1_init_12 (fun H_9 locs hr0 hc_8 hS => ?_)
  have hr0 : oA G r 2 [.ref q_1] H_9 := hr0
  have ha_2 := hc_8.at ha_2 (xn1 (Ne.symm ne_7))
  have _ := hc_3.1
  have _ := hc_8.1
  exact x_vret (G := G) hx hb hr dX1_init_15 hlocks hS (by first | exact Nat.le_of_ble_eq_true rfl | exact (show 0 + 1 ≤ 1 by omega)) (by first | exact Nat.le_of_ble_eq_true rfl | exact (show 0 + n ≤ 100 by omega)) ⟨rfl, q_1, Nat.le_of_eq eq_4.symm, hr0, ha_2, ((hc_3.tr hc_8).mono (fun q hq => by simp only [List.mem_append, List.mem_cons, List.not_mem_nil, or_false, false_or] at hq ⊢; omega))⟩

set_option maxHeartbeats 4000000 in
set_option maxRecDepth 100000 in
/-- Row.at(j) -/
theorem c_X1_at (l : Launch) (hfl : l.stackTraces = false) (G : xG) (r a n j : Nat) (f : Nat → Int32) (H : Heap) (hr0 : oA G r 2 [.ref a] H) (ha0 : iA G a n f H) (hj : j < n) (hn : n < 2147483648) : xMet l G yX1_at wsX1_at ({ frames := 0, cells := 0, slots := 0, locals := 0 } : Room) [.ref r, .int (nI j)] H (xi H (f j)) (xNo) := by
  refine vx_ofW (cc := cX1_at) (maxL := 2) (ret := (some .int)) (by decide) rfl ?_
  intro Pg Ev s m args below meth c s₁ B hml hout hv
  obtain ⟨rfl, hH, hC⟩ := hv
  have hx := B.exec
  have hb := B.bytes
  have hr := B.returns
  have hts := atoms_spec (ws := wsX1_at) B.pre
  have hown : s.vm.findClass RX1 = some m.cls := findClass_of_methodNamed B.named
  have hlocks := B.notSynchronized
  rw [hH]
  have hS : va_S (xA G) s.heap H [] := by rw [← hH]; exact va_S.rf
  generalize ([] : List Loc) = locs at hS ⊢
  have hl := lv_entry [.ref r, .int (nI j)] (n := 2) (Nat.le_of_ble_eq_true rfl)
  rw [lg_entry_eq]
  generalize (lg_sl [.ref r, .int (nI j)] ++ List.replicate (2 - (lg_sl [.ref r, .int (nI j)]).length) Slot.unset).toArray = ls at hl ⊢
  have hl : lv_has ls 2 [(0, .ref r), (1, .int (nI j))] := hl
  refine lv_iload_n hx hb dX1_at_0 rfl (lv_at hl 1 rfl) ?_
  refine lv_if_lt (tgt := 22) hx hb dX1_at_1 (by decide) (fun c_1 => ?_) (fun c_1 => ?_)
  · have _ := hx
    have c_1 : j < 0 := (nI_ltI (a := j) (b := 0) (by omega) (by omega)).mp c_1
    exact absurd c_1 (by omega)
  · have _ := hx
    have c_1 : ¬ (j < 0) := fun z => c_1 ((nI_ltI (a := j) (b := 0) (by omega) (by omega)).mpr z)
    refine lv_iload_n hx hb dX1_at_4 rfl (lv_at hl 1 rfl) ?_
    refine lv_aload_n hx hb dX1_at_5 rfl (lv_at hl 0 rfl) ?_
    refine va_get (D := xD G) (ci := 2) (v := .ref a) (C := RX1) (T := TX1) (N := 1) hx hb hts (by decide +kernel) hown hC.1 (x1 hr0) 0 rfl rfl 0 (by decide) (hts (.fieldLink RX1 13 "Bidwhistle$Row" "numbers" "[I") (by decide +kernel)) (fun _ h9 => h9) rfl dX1_at_6 ?_
    refine va_alen (D := xD G) (v := (nI n)) hx hb hC.1 (x1 ha0) 0 0 rfl rfl rfl dX1_at_9 ?_
    refine lv_icmp_ge (tgt := 22) hx hb dX1_at_10 (by decide) (fun c_2 => ?_) (fun c_2 => ?_)
    · have _ := hx
      have c_2 : n ≤ j := (nI_leI (a := n) (b := j) (by omega) (by omega)).mp c_2
      exact absurd c_2 (by omega)
    · have _ := hx
      have c_2 : ¬ (n ≤ j) := fun z => c_2 ((nI_leI (a := n) (b := j) (by omega) (by omega)).mpr z)
      refine lv_aload_n hx hb dX1_at_13 rfl (lv_at hl 0 rfl) ?_
      refine va_get (D := xD G) (ci := 2) (v := .ref a) (C := RX1) (T := TX1) (N := 1) hx hb hts (by decide +kernel) hown hC.1 (x1 hr0) 0 rfl rfl 0 (by decide) (hts (.fieldLink RX1 13 "Bidwhistle$Row" "numbers" "[I") (by decide +kernel)) (fun _ h9 => h9) rfl dX1_at_14 ?_
      refine lv_iload_n hx hb dX1_at_17 rfl (lv_at hl 1 rfl) ?_
      refine x_iald (G := G) (j := j) hx hb hC ha0 (by omega) (by first | decide | omega) dX1_at_18 ?_
      refine lv_goto (tgt := 23) hx hb dX1_at_19 (by decide) ?_
      exact x_iret (G := G) hx hb hr rfl dX1_at_23 hlocks hS (by first | exact Nat.le_of_ble_eq_true rfl | exact (show 0 ≤ 0 by omega)) (by first | exact Nat.le_of_ble_eq_true rfl | exact (show 0 ≤ 0 by omega)) ⟨rfl, rfl⟩

set_option maxHeartbeats 4000000 in
set_option maxRecDepth 100000 in
/-- Row.put(j, x) -/
theorem c_X1_put (l : Launch) (hfl : l.stackTraces = false) (G : xG) (r a n j : Nat) (f : Nat → Int32) (x : Int32) (H : Heap) (hr0 : oA G r 2 [.ref a] H) (ha0 : iA G a n f H) (hj : j < n) (hn : n < 2147483648) (hA_a : xA G a) (nra : r ≠ a) : xMet l G yX1_put wsX1_put ({ frames := 0, cells := 0, slots := 0, locals := 0 } : Room) [.ref r, .int (nI j), .int x] H (fun v H1 => v = none ∧ iA G a n (upd f j x) H1 ∧ xC [a] H H1) (xNo) := by
  refine vx_ofW (cc := cX1_put) (maxL := 3) (ret := none) (by decide) rfl ?_
  intro Pg Ev s m args below meth c s₁ B hml hout hv
  obtain ⟨rfl, hH, hC⟩ := hv
  have hx := B.exec
  have hb := B.bytes
  have hr := B.returns
  have hts := atoms_spec (ws := wsX1_put) B.pre
  have hown : s.vm.findClass RX1 = some m.cls := findClass_of_methodNamed B.named
  have hlocks := B.notSynchronized
  rw [hH]
  have hS : va_S (xA G) s.heap H [] := by rw [← hH]; exact va_S.rf
  generalize ([] : List Loc) = locs at hS ⊢
  have hl := lv_entry [.ref r, .int (nI j), .int x] (n := 3) (Nat.le_of_ble_eq_true rfl)
  rw [lg_entry_eq]
  generalize (lg_sl [.ref r, .int (nI j), .int x] ++ List.replicate (3 - (lg_sl [.ref r, .int (nI j), .int x]).length) Slot.unset).toArray = ls at hl ⊢
  have hl : lv_has ls 3 [(0, .ref r), (1, .int (nI j)), (2, .int x)] := hl
  refine lv_iload_n hx hb dX1_put_0 rfl (lv_at hl 1 rfl) ?_
  refine lv_if_lt (tgt := 20) hx hb dX1_put_1 (by decide) (fun c_1 => ?_) (fun c_1 => ?_)
  · have _ := hx
    have c_1 : j < 0 := (nI_ltI (a := j) (b := 0) (by omega) (by omega)).mp c_1
    exact absurd c_1 (by omega)
  · have _ := hx
    have c_1 : ¬ (j < 0) := fun z => c_1 ((nI_ltI (a := j) (b := 0) (by omega) (by omega)).mpr z)
    refine lv_iload_n hx hb dX1_put_4 rfl (lv_at hl 1 rfl) ?_
    refine lv_aload_n hx hb dX1_put_5 rfl (lv_at hl 0 rfl) ?_
    refine va_get (D := xD G) (ci := 2) (v := .ref a) (C := RX1) (T := TX1) (N := 1) hx hb hts (by decide +kernel) hown hC.1 (x1 hr0) 0 rfl rfl 0 (by decide) (hts (.fieldLink RX1 13 "Bidwhistle$Row" "numbers" "[I") (by decide +kernel)) (fun _ h9 => h9) rfl dX1_put_6 ?_
    refine va_alen (D := xD G) (v := (nI n)) hx hb hC.1 (x1 ha0) 0 0 rfl rfl rfl dX1_put_9 ?_
    refine lv_icmp_ge (tgt := 20) hx hb dX1_put_10 (by decide) (fun c_2 => ?_) (fun c_2 => ?_)
    · have _ := hx
      have c_2 : n ≤ j := (nI_leI (a := n) (b := j) (by omega) (by omega)).mp c_2
      exact absurd c_2 (by omega)
    · have _ := hx
      have c_2 : ¬ (n ≤ j) := fun z => c_2 ((nI_leI (a := n) (b := j) (by omega) (by omega)).mpr z)
      refine lv_aload_n hx hb dX1_put_13 rfl (lv_at hl 0 rfl) ?_
      refine va_get (D := xD G) (ci := 2) (v := .ref a) (C := RX1) (T := TX1) (N := 1) hx hb hts (by decide +kernel) hown hC.1 (x1 hr0) 0 rfl rfl 0 (by decide) (hts (.fieldLink RX1 13 "Bidwhistle$Row" "numbers" "[I") (by decide +kernel)) (fun _ h9 => h9) rfl dX1_put_14 ?_
      refine lv_iload_n hx hb dX1_put_17 rfl (lv_at hl 1 rfl) ?_
      refine lv_iload_n hx hb dX1_put_18 rfl (lv_at hl 2 rfl) ?_
      refine x_iastn (G := G) (j := j) hx hb hC hS hA_a ha0 (by omega) (by first | decide | omega) dX1_put_19 (fun H_4 locs ha0 hc_3 hS => ?_)
      have hr0 := hc_3.at hr0 (xn1 nra)
      exact x_vret (G := G) hx hb hr dX1_put_20 hlocks hS (by first | exact Nat.le_of_ble_eq_true rfl | exact (show 0 ≤ 0 by omega)) (by first | exact Nat.le_of_ble_eq_true rfl | exact (show 0 ≤ 0 by omega)) ⟨rfl, ha0, hc_3⟩

set_option maxHeartbeats 4000000 in
set_option maxRecDepth 100000 in
/-- Row.isSameAs -/
theorem c_X1_isSameAs (l : Launch) (hfl : l.stackTraces = false) (G : xG) (r a o b n : Nat) (f g : Nat → Int32) (H : Heap) (hr0 : oA G r 2 [.ref a] H) (ha0 : iA G a n f H) (ho0 : oA G o 2 [.ref b] H) (hb0 : iA G b n g H) (hn : n < 2147483648) : xMet l G yX1_isSameAs wsX1_isSameAs ({ frames := 1, cells := 0, slots := 0, locals := 21 } : Room) [.ref r, .ref o] H (xi H (xb (xsame xeq f g n))) (xNo) := by
  refine vx_ofW (cc := cX1_isSameAs) (maxL := 3) (ret := (some .boolean)) (by decide) rfl ?_
  intro Pg Ev s m args below meth c s₁ B hml hout hv
  obtain ⟨rfl, hH, hC⟩ := hv
  have hx := B.exec
  have hb := B.bytes
  have hr := B.returns
  have hts := atoms_spec (ws := wsX1_isSameAs) B.pre
  have hown : s.vm.findClass RX1 = some m.cls := findClass_of_methodNamed B.named
  have hlocks := B.notSynchronized
  rw [hH]
  have hS : va_S (xA G) s.heap H [] := by rw [← hH]; exact va_S.rf
  generalize ([] : List Loc) = locs at hS ⊢
  have hl := lv_entry [.ref r, .ref o] (n := 3) (Nat.le_of_ble_eq_true rfl)
  rw [lg_entry_eq]
  generalize (lg_sl [.ref r, .ref o] ++ List.replicate (3 - (lg_sl [.ref r, .ref o]).length) Slot.unset).toArray = ls at hl ⊢
  have hl : lv_has ls 3 [(0, .ref r), (1, .ref o)] := hl
  refine lv_aload_n hx hb dX1_isSameAs_0 rfl (lv_at hl 0 rfl) ?_
  refine va_get (D := xD G) (ci := 2) (v := .ref a) (C := RX1) (T := TX1) (N := 1) hx hb hts (by decide +kernel) hown hC.1 (x1 hr0) 0 rfl rfl 0 (by decide) (hts (.fieldLink RX1 13 "Bidwhistle$Row" "numbers" "[I") (by decide +kernel)) (fun _ h9 => h9) rfl dX1_isSameAs_1 ?_
  refine va_alen (D := xD G) (v := (nI n)) hx hb hC.1 (x1 ha0) 0 0 rfl rfl rfl dX1_isSameAs_4 ?_
  refine lv_aload_n hx hb dX1_isSameAs_5 rfl (lv_at hl 1 rfl) ?_
  refine va_get (D := xD G) (ci := 2) (v := .ref b) (C := RX1) (T := TX1) (N := 1) hx hb hts (by decide +kernel) hown hC.1 (x1 ho0) 0 rfl rfl 0 (by decide) (hts (.fieldLink RX1 13 "Bidwhistle$Row" "numbers" "[I") (by decide +kernel)) (fun _ h9 => h9) rfl dX1_isSameAs_6 ?_
  refine va_alen (D := xD G) (v := (nI n)) hx hb hC.1 (x1 hb0) 0 0 rfl rfl rfl dX1_isSameAs_9 ?_
  refine lv_icmp_eq (tgt := 15) hx hb dX1_isSameAs_10 (by decide) (fun c_1 => ?_) (fun c_1 => ?_)
  · have _ := hx
    have c_1 : n = n := (nI_eq (a := n) (b := n) (by omega) (by omega)).mp c_1
    refine lv_iconst (v := (nI 0)) hx hb dX1_isSameAs_15 (by decide) ?_
    refine lv_istore_n (lv' := [(2, .int (nI 0)), (0, .ref r), (1, .ref o)]) hx hb dX1_isSameAs_16 rfl hl (by decide) rfl (fun ls hl => ?_)
    have L : ∀ (kL : Nat) (i : Nat), (i ≤ n) → (∀ k, k < i → f k = g k) → n - i < kL → ∀ (locs : List Loc), va_S (xA G) s.heap H locs → ∀ ls : Array Slot, lv_has ls 3 [(0, .ref r), (1, .ref o), (2, .int (nI i))] → W Pg l Ev (headSpec wsX1_isSameAs ({ frames := 1, cells := 0, slots := 0, locals := 21 } : Room)).room s m ([.ref r, .ref o] : List Value).toArray below meth c H locs (0) (0) (vx_MQ below (xQ G (xi H (xb (xsame xeq f g n)))) (xX G (xNo)) ([.ref r, .ref o] : List Value).toArray s ({ frames := 1, cells := 0, slots := 0, locals := 21 } : Room).cells ({ frames := 1, cells := 0, slots := 0, locals := 21 } : Room).slots (xA G)) (F0 m 17 ls []) := by
      intro kL
      induction kL with
      | zero => intro i hi hag hk; exact absurd hk (Nat.not_lt_zero _)
      | succ kL ihL =>
        intro i hi hag hk locs hS ls hl
        refine lv_iload_n hx hb dX1_isSameAs_17 rfl (lv_at hl 2 rfl) ?_
        refine lv_aload_n hx hb dX1_isSameAs_18 rfl (lv_at hl 0 rfl) ?_
        refine va_get (D := xD G) (ci := 2) (v := .ref a) (C := RX1) (T := TX1) (N := 1) hx hb hts (by decide +kernel) hown hC.1 (x1 hr0) 0 rfl rfl 0 (by decide) (hts (.fieldLink RX1 13 "Bidwhistle$Row" "numbers" "[I") (by decide +kernel)) (fun _ h9 => h9) rfl dX1_isSameAs_19 ?_
        refine va_alen (D := xD G) (v := (nI n)) hx hb hC.1 (x1 ha0) 0 0 rfl rfl rfl dX1_isSameAs_22 ?_
        refine lv_icmp_ge (tgt := 48) hx hb dX1_isSameAs_23 (by decide) (fun c_2 => ?_) (fun c_2 => ?_)
        · have _ := hx
          have c_2 : n ≤ i := (nI_leI (a := n) (b := i) (by omega) (by omega)).mp c_2
          refine lv_iconst (v := (nI 1)) hx hb dX1_isSameAs_48 (by decide) ?_
          exact x_iret (G := G) hx hb hr (by rfl) dX1_isSameAs_49 hlocks hS (by first | exact Nat.le_of_ble_eq_true rfl | exact (show 0 ≤ 0 by omega)) (by first | exact Nat.le_of_ble_eq_true rfl | exact (show 0 ≤ 0 by omega)) ⟨rfl, by rw [show xsame xeq f g n = true from xsame_iff.mpr (fun k hk => by have := hag k (by omega); simpa [xeq] using this)]; rfl⟩
        · have _ := hx
          have c_2 : ¬ (n ≤ i) := fun z => c_2 ((nI_leI (a := n) (b := i) (by omega) (by omega)).mpr z)
          refine lv_aload_n hx hb dX1_isSameAs_26 rfl (lv_at hl 0 rfl) ?_
          refine va_get (D := xD G) (ci := 2) (v := .ref a) (C := RX1) (T := TX1) (N := 1) hx hb hts (by decide +kernel) hown hC.1 (x1 hr0) 0 rfl rfl 0 (by decide) (hts (.fieldLink RX1 13 "Bidwhistle$Row" "numbers" "[I") (by decide +kernel)) (fun _ h9 => h9) rfl dX1_isSameAs_27 ?_
          refine lv_iload_n hx hb dX1_isSameAs_30 rfl (lv_at hl 2 rfl) ?_
          refine x_iald (G := G) (j := i) hx hb hC ha0 (by omega) (by first | decide | omega) dX1_isSameAs_31 ?_
          refine lv_aload_n hx hb dX1_isSameAs_32 rfl (lv_at hl 1 rfl) ?_
          refine lv_iload_n hx hb dX1_isSameAs_33 rfl (lv_at hl 2 rfl) ?_
          refine x_intE (vx_runV (As := [.int (nI i)]) (rest := [.int (f i)]) ⟨hx, hb, hml, hown, hts⟩ (c_X1_at l hfl G o b n i g H ho0 hb0 (by omega) hn) (cwV 1 hts gX1_isSameAs_X1_at rfl rfl rfl (by decide +kernel) ⟨(Nat.le_of_ble_eq_true rfl), (Nat.le_of_ble_eq_true rfl)⟩) (xPreV hC hS ho0 (q := (RX1, TX1, 1)) rfl) rfl rfl hl.1 rfl (lv_room (Nat.le_of_ble_eq_true rfl)) dX1_isSameAs_34 ⟨(by first | exact Nat.le_of_ble_eq_true rfl | exact (show 0 + 0 ≤ 0 by omega)), (by first | exact Nat.le_of_ble_eq_true rfl | exact (show 0 + 0 ≤ 0 by omega))⟩) hS (fun locs hS => ?_)
          refine lv_icmp_eq (tgt := 42) hx hb dX1_isSameAs_37 (by decide) (fun c_3 => ?_) (fun c_3 => ?_)
          · have _ := hx
            refine lv_iinc (v := (nI (i + 1))) (lv' := [(2, .int (nI (i + 1))), (0, .ref r), (1, .ref o)]) hx hb dX1_isSameAs_42 hl (k := 2) rfl (xinc (by decide)) (by decide) rfl (fun ls hl => ?_)
            refine lv_goto (tgt := 17) hx hb dX1_isSameAs_45 (by decide) ?_
            exact ihL (i + 1) (by omega) (fun k hk => by rcases Nat.lt_or_ge k i with z | z; exact hag k z; rw [show k = i by omega]; exact c_3) (by omega) _ hS ls (lv_sub hl [1, 2, 0] rfl)
          · have _ := hx
            refine lv_iconst (v := (nI 0)) hx hb dX1_isSameAs_40 (by decide) ?_
            exact x_iret (G := G) hx hb hr (by rfl) dX1_isSameAs_41 hlocks hS (by first | exact Nat.le_of_ble_eq_true rfl | exact (show 0 ≤ 0 by omega)) (by first | exact Nat.le_of_ble_eq_true rfl | exact (show 0 ≤ 0 by omega)) ⟨rfl, by rw [show xsame xeq f g n = false from Bool.eq_false_iff.mpr (fun z => c_3 (by have := xsame_iff.mp z i (by omega); simpa [xeq] using this))]; rfl⟩
    exact L _ (0) (Nat.zero_le _) (fun k hk => absurd hk (Nat.not_lt_zero k)) (Nat.lt_succ_self _) _ hS ls (lv_sub hl [1, 2, 0] rfl)
  · have _ := hx
    have c_1 : ¬ (n = n) := fun z => c_1 ((nI_eq (a := n) (b := n) (by omega) (by omega)).mpr z)
    exact absurd c_1 (by omega)

set_option maxHeartbeats 4000000 in
set_option maxRecDepth 100000 in
/-- new Stack() -/
theorem c_X2_init (l : Launch) (hfl : l.stackTraces = false) (G : xG) (r : Nat) (H : Heap) (hr0 : oA G r 3 [.null, .int 0] H) (hA_r : xA G r) : xMet l G yX2_init wsX2_init ({ frames := 2, cells := 2, slots := 101, locals := 51 } : Room) [.ref r] H (fun v H1 => v = none ∧ ∃ q a, H.size ≤ q ∧ H.size ≤ a ∧ sA G r q a (fun _ => 0) 0 H1 ∧ xC [r] H H1) (xNo) := by
  refine vx_ofW (cc := cX2_init) (maxL := 1) (ret := none) (by decide) rfl ?_
  intro Pg Ev s m args below meth c s₁ B hml hout hv
  obtain ⟨rfl, hH, hC⟩ := hv
  have hx := B.exec
  have hb := B.bytes
  have hr := B.returns
  have hts := atoms_spec (ws := wsX2_init) B.pre
  have hown : s.vm.findClass RX2 = some m.cls := findClass_of_methodNamed B.named
  have hlocks := B.notSynchronized
  have hin : meth.name = "<init>" := (name_of_methodNamed B.named B.method).1
  rw [hH]
  have hS : va_S (xA G) s.heap H [] := by rw [← hH]; exact va_S.rf
  generalize ([] : List Loc) = locs at hS ⊢
  have hl := lv_entry [.ref r] (n := 1) (Nat.le_of_ble_eq_true rfl)
  rw [lg_entry_eq]
  generalize (lg_sl [.ref r] ++ List.replicate (1 - (lg_sl [.ref r]).length) Slot.unset).toArray = ls at hl ⊢
  have hl : lv_has ls 1 [(0, .ref r)] := hl
  refine lv_aload_n hx hb dX2_init_0 rfl (lv_at hl 0 rfl) ?_
  refine W.objInit hx hb hown (hts (.methodLink RX2 3 objectInit) (by decide +kernel)) (hts (.instanceMethod objectInit) (by decide +kernel)) (hts (.code objectInit ⟨#[0xb1]⟩ 1 none) (by decide +kernel)) rfl (by rw [hml]; exact hl.1) rfl dX2_init_1 (Nat.le_of_ble_eq_true rfl) (Nat.le_of_ble_eq_true rfl) ?_
  refine W.eq (g2 := F0 m 4 ls []) rfl ?_
  refine lv_aload_n hx hb dX2_init_4 rfl (lv_at hl 0 rfl) ?_
  have hsz := hS.1
  refine x_new (G := G) (ci := 2) (fs := [.null]) (C := RX1) (T := TX1) (N := 1) hx hb hts (by decide +kernel) tyX1 tyX1_ok hown (hts (.classLink RX2 9 RX1) (by decide +kernel)) (hts (.instantiable RX1 1) (by decide +kernel)) (hts (.initialized RX1) (by decide +kernel)) hC hS rfl (fun j hj => by rcases (show j = 0 by omega) with rfl; rfl) (by first | exact Nat.le_of_ble_eq_true rfl | exact (show 0 + 1 ≤ 2 by omega)) (by first | exact Nat.le_of_ble_eq_true rfl | exact (show 0 + 1 ≤ 101 by omega)) dX2_init_5 (fun q_1 H_6 eq_4 ho_2 hc_3 hz_5 hS => ?_)
  have hA_q_1 : xA G q_1 := hC.2.2.1 _ (by rw [eq_4]; exact hsz)
  have ne_7 : r ≠ q_1 := xlt hr0 eq_4
  have hr0 := hc_3.at0 hr0
  refine lv_dup hx hb dX2_init_8 rfl ?_
  refine lv_bipush (v := (nI 7)) hx hb dX2_init_9 (by decide) ?_
  have hsz := hS.1
  refine x_call (px := xNo) (x_runOf (va_runI (b := q_1) (As := [.int (nI 7)]) (rest := [.ref q_1, .ref r]) ⟨hx, hb, hml, hown, hts⟩ (x_met (c_X1_init l hfl G q_1 7 H_6 ho_2 hA_q_1 (by omega))) (cwI 1 hts gX2_init_X1_init rfl rfl rfl (hts (.initialized RX1) (by decide +kernel)) (hts (.methodLink RX2 11 yX1_init) (by decide +kernel)) (hts (.instanceMethod yX1_init) (by decide +kernel)) rfl (by decide +kernel) ⟨(Nat.le_of_ble_eq_true rfl), (Nat.le_of_ble_eq_true rfl)⟩) (xPreS hC hS) rfl rfl hl.1 rfl (lv_room (Nat.le_of_ble_eq_true rfl)) dX2_init_11 ⟨(by first | exact Nat.le_of_ble_eq_true rfl | exact (show 0 + 1 + 1 ≤ 2 by omega)), (by first | exact Nat.le_of_ble_eq_true rfl | exact (show 0 + 1 + 100 ≤ 101 by omega))⟩)) hS (fun _ h => h) (fun _ _ _ _ _ h => False.elim h) (fun v H_8 locs hp hz hk_9 hS => ?_)
  obtain ⟨rfl, qa10, hqa10, hn10, ha10, hc10⟩ := hp
  have hA_qa10 : xA G qa10 := hC.2.2.1 _ (Nat.le_trans hsz hqa10)
  have ne_11 : r ≠ qa10 := xlt2 hr0 hqa10
  have ne_12 : q_1 ≠ qa10 := xlt2 ho_2 hqa10
  have hr0 := hc10.at hr0 (xn1 ne_7)
  refine x_putF (G := G) (ci := 3) (v := .ref q_1) (ty := (.object "Bidwhistle$Row")) (C := RX2) (T := TX2) (N := 2) hx hb hts (by decide +kernel) tyX2 tyX2_ok nmX2 hown hC hS hA_r hr0 rfl 0 (by decide) (hts (.fieldLink RX2 14 "Bidwhistle$Stack" "numbers" "LBidwhistle$Row;") (by decide +kernel)) (fun _ h9 => h9) rfl hin rfl (by decide +kernel) rfl rfl (Nat.le_of_ble_eq_true rfl) dX2_init_14 (fun H_14 locs hr0 hc_13 hS => ?_)
  have hr0 : oA G r 3 [.ref q_1, .int 0] H_14 := hr0
  have hn10 := hc_13.at hn10 (xn1 (Ne.symm ne_7))
  have ha10 := hc_13.at ha10 (xn1 (Ne.symm ne_11))
  refine lv_aload_n hx hb dX2_init_17 rfl (lv_at hl 0 rfl) ?_
  refine lv_iconst (v := (nI 0)) hx hb dX2_init_18 (by decide) ?_
  refine x_put (G := G) (ci := 3) (v := .int (nI 0)) (ty := .int) (C := RX2) (T := TX2) (N := 2) hx hb hts (by decide +kernel) tyX2 tyX2_ok nmX2 hown hC hS hA_r hr0 rfl 1 (by decide) (hts (.fieldLink RX2 20 "Bidwhistle$Stack" "depth" "I") (by decide +kernel)) (fun _ h9 => h9) rfl (by decide +kernel) rfl rfl (Nat.le_of_ble_eq_true rfl) dX2_init_19 (fun H_16 locs hr0 hc_15 hS => ?_)
  have hr0 : oA G r 3 [.ref q_1, .int (nI 0)] H_16 := hr0
  have hn10 := hc_15.at hn10 (xn1 (Ne.symm ne_7))
  have ha10 := hc_15.at ha10 (xn1 (Ne.symm ne_11))
  have _ := hc_3.1
  have _ := hc10.1
  have _ := hc_13.1
  have _ := hc_15.1
  exact x_vret (G := G) hx hb hr dX2_init_22 hlocks hS (by first | exact Nat.le_of_ble_eq_true rfl | exact (show 0 + 1 + 1 ≤ 2 by omega)) (by first | exact Nat.le_of_ble_eq_true rfl | exact (show 0 + 1 + 100 ≤ 101 by omega)) ⟨rfl, q_1, qa10, Nat.le_of_eq eq_4.symm, Nat.le_trans hc_3.1 hqa10, ⟨hr0, hn10, ha10, by decide, ne_7, ne_11, ne_12⟩, ((hc_3.tr (hc10.tr (hc_13.tr hc_15))).mono (fun q hq => by simp only [List.mem_append, List.mem_cons, List.not_mem_nil, or_false, false_or] at hq ⊢; omega))⟩

set_option maxHeartbeats 4000000 in
set_option maxRecDepth 100000 in
/-- Stack.empty() -/
theorem c_X2_empty (l : Launch) (hfl : l.stackTraces = false) (G : xG) (k r a : Nat) (g : Nat → Int) (n : Nat) (H : Heap) (hs : sA G k r a g n H) (hA_k : xA G k) : xMet l G yX2_empty wsX2_empty ({ frames := 0, cells := 0, slots := 0, locals := 0 } : Room) [.ref k] H (fun v H1 => v = none ∧ sA G k r a g 0 H1 ∧ xC [k] H H1) (xNo) := by
  refine vx_ofW (cc := cX2_empty) (maxL := 1) (ret := none) (by decide) rfl ?_
  intro Pg Ev s m args below meth c s₁ B hml hout hv
  obtain ⟨rfl, hH, hC⟩ := hv
  have hx := B.exec
  have hb := B.bytes
  have hr := B.returns
  have hts := atoms_spec (ws := wsX2_empty) B.pre
  have hown : s.vm.findClass RX2 = some m.cls := findClass_of_methodNamed B.named
  have hlocks := B.notSynchronized
  rw [hH]
  have hS : va_S (xA G) s.heap H [] := by rw [← hH]; exact va_S.rf
  generalize ([] : List Loc) = locs at hS ⊢
  have hl := lv_entry [.ref k] (n := 1) (Nat.le_of_ble_eq_true rfl)
  rw [lg_entry_eq]
  generalize (lg_sl [.ref k] ++ List.replicate (1 - (lg_sl [.ref k]).length) Slot.unset).toArray = ls at hl ⊢
  have hl : lv_has ls 1 [(0, .ref k)] := hl
  obtain ⟨hk0, hr0, ha0, hn, nkr, nka, nra⟩ := hs
  refine lv_aload_n hx hb dX2_empty_0 rfl (lv_at hl 0 rfl) ?_
  refine lv_iconst (v := (nI 0)) hx hb dX2_empty_1 (by decide) ?_
  refine x_put (G := G) (ci := 3) (v := .int (nI 0)) (ty := .int) (C := RX2) (T := TX2) (N := 2) hx hb hts (by decide +kernel) tyX2 tyX2_ok nmX2 hown hC hS hA_k hk0 rfl 1 (by decide) (hts (.fieldLink RX2 20 "Bidwhistle$Stack" "depth" "I") (by decide +kernel)) (fun _ h9 => h9) rfl (by decide +kernel) rfl rfl (Nat.le_of_ble_eq_true rfl) dX2_empty_2 (fun H_2 locs hk0 hc_1 hS => ?_)
  have hk0 : oA G k 3 [.ref r, .int (nI 0)] H_2 := hk0
  have hr0 := hc_1.at hr0 (xn1 (Ne.symm nkr))
  have ha0 := hc_1.at ha0 (xn1 (Ne.symm nka))
  exact x_vret (G := G) hx hb hr dX2_empty_5 hlocks hS (by first | exact Nat.le_of_ble_eq_true rfl | exact (show 0 ≤ 0 by omega)) (by first | exact Nat.le_of_ble_eq_true rfl | exact (show 0 ≤ 0 by omega)) ⟨rfl, ⟨hk0, hr0, ha0, by omega, nkr, nka, nra⟩, hc_1⟩

set_option maxHeartbeats 4000000 in
set_option maxRecDepth 100000 in
/-- Stack.push(z) -/
theorem c_X2_push (l : Launch) (hfl : l.stackTraces = false) (G : xG) (k r a : Nat) (g : Nat → Int) (n : Nat) (z : Int) (H : Heap) (hs : sA G k r a g n H) (hA_k : xA G k) (hA_a : xA G a) (h7 : n < 7) (hz1 : -1000000000000 ≤ z) (hz2 : z ≤ 1000000000000) : xMet l G yX2_push wsX2_push ({ frames := 1, cells := 0, slots := 0, locals := 30 } : Room) [.ref k, .long (Int64.ofInt z)] H (fun v H1 => v = none ∧ sA G k r a (va_up g n (xcl z)) (n + 1) H1 ∧ xC [k, a] H H1) (xNo) := by
  refine vx_ofW (cc := cX2_push) (maxL := 3) (ret := none) (by decide) rfl ?_
  intro Pg Ev s m args below meth c s₁ B hml hout hv
  obtain ⟨rfl, hH, hC⟩ := hv
  have hx := B.exec
  have hb := B.bytes
  have hr := B.returns
  have hts := atoms_spec (ws := wsX2_push) B.pre
  have hown : s.vm.findClass RX2 = some m.cls := findClass_of_methodNamed B.named
  have hlocks := B.notSynchronized
  rw [hH]
  have hS : va_S (xA G) s.heap H [] := by rw [← hH]; exact va_S.rf
  generalize ([] : List Loc) = locs at hS ⊢
  have hl := lv_entry [.ref k, .long (Int64.ofInt z)] (n := 3) (Nat.le_of_ble_eq_true rfl)
  rw [lg_entry_eq]
  generalize (lg_sl [.ref k, .long (Int64.ofInt z)] ++ List.replicate (3 - (lg_sl [.ref k, .long (Int64.ofInt z)]).length) Slot.unset).toArray = ls at hl ⊢
  have hl : lv_has ls 3 [(0, .ref k), (1, .long (Int64.ofInt z))] := hl
  obtain ⟨hk0, hr0, ha0, hn, nkr, nka, nra⟩ := hs
  refine lv_aload_n hx hb dX2_push_0 rfl (lv_at hl 0 rfl) ?_
  refine va_get (D := xD G) (ci := 3) (v := .int (nI n)) (C := RX2) (T := TX2) (N := 2) hx hb hts (by decide +kernel) hown hC.1 (x1 hk0) 0 rfl rfl 1 (by decide) (hts (.fieldLink RX2 20 "Bidwhistle$Stack" "depth" "I") (by decide +kernel)) (fun _ h9 => h9) rfl dX2_push_1 ?_
  refine lv_bipush (v := (nI 7)) hx hb dX2_push_4 (by decide) ?_
  refine lv_icmp_ge (tgt := 44) hx hb dX2_push_6 (by decide) (fun c_1 => ?_) (fun c_1 => ?_)
  · have _ := hx
    have c_1 : 7 ≤ n := (nI_leI (a := 7) (b := n) (by omega) (by omega)).mp c_1
    exact absurd c_1 (by omega)
  · have _ := hx
    have c_1 : ¬ (7 ≤ n) := fun z => c_1 ((nI_leI (a := 7) (b := n) (by omega) (by omega)).mpr z)
    refine lv_aload_n hx hb dX2_push_9 rfl (lv_at hl 0 rfl) ?_
    refine va_get (D := xD G) (ci := 3) (v := .ref r) (C := RX2) (T := TX2) (N := 2) hx hb hts (by decide +kernel) hown hC.1 (x1 hk0) 0 rfl rfl 0 (by decide) (hts (.fieldLink RX2 14 "Bidwhistle$Stack" "numbers" "LBidwhistle$Row;") (by decide +kernel)) (fun _ h9 => h9) rfl dX2_push_10 ?_
    refine lv_aload_n hx hb dX2_push_13 rfl (lv_at hl 0 rfl) ?_
    refine va_get (D := xD G) (ci := 3) (v := .int (nI n)) (C := RX2) (T := TX2) (N := 2) hx hb hts (by decide +kernel) hown hC.1 (x1 hk0) 0 rfl rfl 1 (by decide) (hts (.fieldLink RX2 20 "Bidwhistle$Stack" "depth" "I") (by decide +kernel)) (fun _ h9 => h9) rfl dX2_push_14 ?_
    refine lv_ldc2 (v := (-100000)) hx hb hown (hts (.constantLong RX2 24 (-100000)) (by decide +kernel)) dX2_push_17 ?_
    refine lv_ldc2 (v := (100000)) hx hb hown (hts (.constantLong RX2 26 (100000)) (by decide +kernel)) dX2_push_20 ?_
    refine lv_lload_n hx hb dX2_push_23 rfl (lv_at hl 1 rfl) ?_
    refine va_mmin_long hx hb (by rw [hml]; exact hl.1.symm) hown (hts (.methodLink RX2 28 Lib.MathLoose.min_long.x) (by decide +kernel)) (hts (.static Lib.MathLoose.min_long.x) (by decide +kernel)) (hts (.initialized "java/lang/Math") (by decide +kernel)) (hts (.code Lib.MathLoose.min_long.x Lib.MathLoose.min_long.code 4 (some .long)) (by decide +kernel)) (Nat.le_of_ble_eq_true rfl) (Nat.le_of_ble_eq_true rfl) (by first | exact Nat.le_of_ble_eq_true rfl | omega) (by first | exact Nat.le_of_ble_eq_true rfl | omega) dX2_push_24 ?_
    refine va_mmax_long hx hb (by rw [hml]; exact hl.1.symm) hown (hts (.methodLink RX2 34 Lib.MathLoose.max_long.x) (by decide +kernel)) (hts (.static Lib.MathLoose.max_long.x) (by decide +kernel)) (hts (.initialized "java/lang/Math") (by decide +kernel)) (hts (.code Lib.MathLoose.max_long.x Lib.MathLoose.max_long.code 4 (some .long)) (by decide +kernel)) (Nat.le_of_ble_eq_true rfl) (Nat.le_of_ble_eq_true rfl) (by first | exact Nat.le_of_ble_eq_true rfl | omega) (by first | exact Nat.le_of_ble_eq_true rfl | omega) dX2_push_27 ?_
    refine lv_l2i (v := Int32.ofInt (xcl z)) hx hb dX2_push_30 (xclamp hz1 hz2) ?_
    have hsz := hS.1
    refine x_call (px := xNo) (vx_runV (As := [.int (nI n), .int (Int32.ofInt (xcl z))]) (rest := []) ⟨hx, hb, hml, hown, hts⟩ (c_X1_put l hfl G r a 7 n (fun j => Int32.ofInt (g j)) (Int32.ofInt (xcl z)) H hr0 ha0 (by omega) (by decide) hA_a nra) (cwV 2 hts gX2_push_X1_put rfl rfl rfl (by decide +kernel) ⟨(Nat.le_of_ble_eq_true rfl), (Nat.le_of_ble_eq_true rfl)⟩) (xPreV hC hS hr0 (q := (RX1, TX1, 1)) rfl) rfl rfl hl.1 rfl (lv_room (Nat.le_of_ble_eq_true rfl)) dX2_push_31 ⟨(by first | exact Nat.le_of_ble_eq_true rfl | exact (show 0 + 0 ≤ 0 by omega)), (by first | exact Nat.le_of_ble_eq_true rfl | exact (show 0 + 0 ≤ 0 by omega))⟩) hS (fun _ h => h) (fun _ _ _ _ _ h => False.elim h) (fun v H_2 locs hp hz hk_3 hS => ?_)
    obtain ⟨rfl, hu4, hc4⟩ := hp
    have hk0 := hc4.at hk0 (xn1 nka)
    have hr0 := hc4.at hr0 (xn1 nra)
    rw [upd_ofInt] at hu4
    refine lv_aload_n hx hb dX2_push_34 rfl (lv_at hl 0 rfl) ?_
    refine lv_dup hx hb dX2_push_35 rfl ?_
    refine va_get (D := xD G) (ci := 3) (v := .int (nI n)) (C := RX2) (T := TX2) (N := 2) hx hb hts (by decide +kernel) hown hC.1 (x1 hk0) 0 rfl rfl 1 (by decide) (hts (.fieldLink RX2 20 "Bidwhistle$Stack" "depth" "I") (by decide +kernel)) (fun _ h9 => h9) rfl dX2_push_36 ?_
    refine lv_iconst (v := (nI 1)) hx hb dX2_push_39 (by decide) ?_
    refine x_iaddn (a := n) (b := 1) hx hb dX2_push_40 ?_
    refine x_put (G := G) (ci := 3) (v := .int (nI (n + 1))) (ty := .int) (C := RX2) (T := TX2) (N := 2) hx hb hts (by decide +kernel) tyX2 tyX2_ok nmX2 hown hC hS hA_k hk0 rfl 1 (by decide) (hts (.fieldLink RX2 20 "Bidwhistle$Stack" "depth" "I") (by decide +kernel)) (fun _ h9 => h9) rfl (by decide +kernel) rfl rfl (Nat.le_of_ble_eq_true rfl) dX2_push_41 (fun H_6 locs hk0 hc_5 hS => ?_)
    have hk0 : oA G k 3 [.ref r, .int (nI (n + 1))] H_6 := hk0
    have hr0 := hc_5.at hr0 (xn1 (Ne.symm nkr))
    have hu4 := hc_5.at hu4 (xn1 (Ne.symm nka))
    have _ := hc4.1
    have _ := hc_5.1
    exact x_vret (G := G) hx hb hr dX2_push_44 hlocks hS (by first | exact Nat.le_of_ble_eq_true rfl | exact (show 0 ≤ 0 by omega)) (by first | exact Nat.le_of_ble_eq_true rfl | exact (show 0 ≤ 0 by omega)) ⟨rfl, ⟨hk0, hr0, hu4, by omega, nkr, nka, nra⟩, ((hc4.tr hc_5).mono (fun q hq => by simp only [List.mem_append, List.mem_cons, List.not_mem_nil, or_false, false_or] at hq ⊢; omega))⟩

set_option maxHeartbeats 4000000 in
set_option maxRecDepth 100000 in
/-- Stack.pop() -/
theorem c_X2_pop (l : Launch) (hfl : l.stackTraces = false) (G : xG) (k r a : Nat) (g : Nat → Int) (n : Nat) (H : Heap) (hs : sA G k r a g n H) (hA_k : xA G k) (h1 : 1 ≤ n) : xMet l G yX2_pop wsX2_pop ({ frames := 1, cells := 0, slots := 0, locals := 21 } : Room) [.ref k] H (fun v H1 => v = some (.int (Int32.ofInt (g (n - 1)))) ∧ sA G k r a g (n - 1) H1 ∧ xC [k] H H1) (xNo) := by
  refine vx_ofW (cc := cX2_pop) (maxL := 1) (ret := (some .int)) (by decide) rfl ?_
  intro Pg Ev s m args below meth c s₁ B hml hout hv
  obtain ⟨rfl, hH, hC⟩ := hv
  have hx := B.exec
  have hb := B.bytes
  have hr := B.returns
  have hts := atoms_spec (ws := wsX2_pop) B.pre
  have hown : s.vm.findClass RX2 = some m.cls := findClass_of_methodNamed B.named
  have hlocks := B.notSynchronized
  rw [hH]
  have hS : va_S (xA G) s.heap H [] := by rw [← hH]; exact va_S.rf
  generalize ([] : List Loc) = locs at hS ⊢
  have hl := lv_entry [.ref k] (n := 1) (Nat.le_of_ble_eq_true rfl)
  rw [lg_entry_eq]
  generalize (lg_sl [.ref k] ++ List.replicate (1 - (lg_sl [.ref k]).length) Slot.unset).toArray = ls at hl ⊢
  have hl : lv_has ls 1 [(0, .ref k)] := hl
  obtain ⟨hk0, hr0, ha0, hn, nkr, nka, nra⟩ := hs
  refine lv_aload_n hx hb dX2_pop_0 rfl (lv_at hl 0 rfl) ?_
  refine va_get (D := xD G) (ci := 3) (v := .int (nI n)) (C := RX2) (T := TX2) (N := 2) hx hb hts (by decide +kernel) hown hC.1 (x1 hk0) 0 rfl rfl 1 (by decide) (hts (.fieldLink RX2 20 "Bidwhistle$Stack" "depth" "I") (by decide +kernel)) (fun _ h9 => h9) rfl dX2_pop_1 ?_
  refine lv_iconst (v := (nI 1)) hx hb dX2_pop_4 (by decide) ?_
  refine lv_icmp_ge (tgt := 10) hx hb dX2_pop_5 (by decide) (fun c_1 => ?_) (fun c_1 => ?_)
  · have _ := hx
    have c_1 : 1 ≤ n := (nI_leI (a := 1) (b := n) (by omega) (by omega)).mp c_1
    refine lv_aload_n hx hb dX2_pop_10 rfl (lv_at hl 0 rfl) ?_
    refine lv_dup hx hb dX2_pop_11 rfl ?_
    refine va_get (D := xD G) (ci := 3) (v := .int (nI n)) (C := RX2) (T := TX2) (N := 2) hx hb hts (by decide +kernel) hown hC.1 (x1 hk0) 0 rfl rfl 1 (by decide) (hts (.fieldLink RX2 20 "Bidwhistle$Stack" "depth" "I") (by decide +kernel)) (fun _ h9 => h9) rfl dX2_pop_12 ?_
    refine lv_iconst (v := (nI 1)) hx hb dX2_pop_15 (by decide) ?_
    refine lv_isub hx hb dX2_pop_16 ?_
    rw [pk_sub (a := n) (b := 1) (by omega)]
    refine x_put (G := G) (ci := 3) (v := .int (nI (n - 1))) (ty := .int) (C := RX2) (T := TX2) (N := 2) hx hb hts (by decide +kernel) tyX2 tyX2_ok nmX2 hown hC hS hA_k hk0 rfl 1 (by decide) (hts (.fieldLink RX2 20 "Bidwhistle$Stack" "depth" "I") (by decide +kernel)) (fun _ h9 => h9) rfl (by decide +kernel) rfl rfl (Nat.le_of_ble_eq_true rfl) dX2_pop_17 (fun H_3 locs hk0 hc_2 hS => ?_)
    have hk0 : oA G k 3 [.ref r, .int (nI (n - 1))] H_3 := hk0
    have hr0 := hc_2.at hr0 (xn1 (Ne.symm nkr))
    have ha0 := hc_2.at ha0 (xn1 (Ne.symm nka))
    refine lv_aload_n hx hb dX2_pop_20 rfl (lv_at hl 0 rfl) ?_
    refine va_get (D := xD G) (ci := 3) (v := .ref r) (C := RX2) (T := TX2) (N := 2) hx hb hts (by decide +kernel) hown hC.1 (x1 hk0) 0 rfl rfl 0 (by decide) (hts (.fieldLink RX2 14 "Bidwhistle$Stack" "numbers" "LBidwhistle$Row;") (by decide +kernel)) (fun _ h9 => h9) rfl dX2_pop_21 ?_
    refine lv_aload_n hx hb dX2_pop_24 rfl (lv_at hl 0 rfl) ?_
    refine va_get (D := xD G) (ci := 3) (v := .int (nI (n - 1))) (C := RX2) (T := TX2) (N := 2) hx hb hts (by decide +kernel) hown hC.1 (x1 hk0) 0 rfl rfl 1 (by decide) (hts (.fieldLink RX2 20 "Bidwhistle$Stack" "depth" "I") (by decide +kernel)) (fun _ h9 => h9) rfl dX2_pop_25 ?_
    refine x_intE (vx_runV (As := [.int (nI (n - 1))]) (rest := []) ⟨hx, hb, hml, hown, hts⟩ (c_X1_at l hfl G r a 7 (n - 1) (fun j => Int32.ofInt (g j)) H_3 hr0 ha0 (by omega) (by decide)) (cwV 1 hts gX2_pop_X1_at rfl rfl rfl (by decide +kernel) ⟨(Nat.le_of_ble_eq_true rfl), (Nat.le_of_ble_eq_true rfl)⟩) (xPreV hC hS hr0 (q := (RX1, TX1, 1)) rfl) rfl rfl hl.1 rfl (lv_room (Nat.le_of_ble_eq_true rfl)) dX2_pop_28 ⟨(by first | exact Nat.le_of_ble_eq_true rfl | exact (show 0 + 0 ≤ 0 by omega)), (by first | exact Nat.le_of_ble_eq_true rfl | exact (show 0 + 0 ≤ 0 by omega))⟩) hS (fun locs hS => ?_)
    have _ := hc_2.1
    exact x_iret (G := G) hx hb hr rfl dX2_pop_31 hlocks hS (by first | exact Nat.le_of_ble_eq_true rfl | exact (show 0 ≤ 0 by omega)) (by first | exact Nat.le_of_ble_eq_true rfl | exact (show 0 ≤ 0 by omega)) ⟨rfl, ⟨hk0, hr0, ha0, by omega, nkr, nka, nra⟩, (hc_2.mono (fun q hq => by simp only [List.mem_append, List.mem_cons, List.not_mem_nil, or_false, false_or] at hq ⊢; omega))⟩
  · have _ := hx
    have c_1 : ¬ (1 ≤ n) := fun z => c_1 ((nI_leI (a := 1) (b := n) (by omega) (by omega)).mpr z)
    exact absurd c_1 (by omega)

set_option maxHeartbeats 4000000 in
set_option maxRecDepth 100000 in
/-- what a step makes of two numbers -/
theorem c_X0_resultOf (l : Launch) (hfl : l.stackTraces = false) (G : xG) (s9 : Nat) (x y : Int) (H : Heap) (hs1 : 11 ≤ s9) (hs2 : s9 ≤ 16) (hx1 : -100000 ≤ x ∧ x ≤ 100000) (hy1 : -100000 ≤ y ∧ y ≤ 100000) : xMet l G yX0_resultOf wsX0_resultOf ({ frames := 1, cells := 0, slots := 0, locals := 30 } : Room) [.int (nI s9), .long (Int64.ofInt x), .long (Int64.ofInt y)] H (xl H (Int64.ofInt (xop s9 x y))) (xNo) := by
  refine vx_ofW (cc := cX0_resultOf) (maxL := 5) (ret := (some .long)) (by decide) rfl ?_
  intro Pg Ev s m args below meth c s₁ B hml hout hv
  obtain ⟨rfl, hH, hC⟩ := hv
  have hx := B.exec
  have hb := B.bytes
  have hr := B.returns
  have hts := atoms_spec (ws := wsX0_resultOf) B.pre
  have hown : s.vm.findClass RX0 = some m.cls := findClass_of_methodNamed B.named
  have hlocks := B.notSynchronized
  rw [hH]
  have hS : va_S (xA G) s.heap H [] := by rw [← hH]; exact va_S.rf
  generalize ([] : List Loc) = locs at hS ⊢
  have hl := lv_entry [.int (nI s9), .long (Int64.ofInt x), .long (Int64.ofInt y)] (n := 5) (Nat.le_of_ble_eq_true rfl)
  rw [lg_entry_eq]
  generalize (lg_sl [.int (nI s9), .long (Int64.ofInt x), .long (Int64.ofInt y)] ++ List.replicate (5 - (lg_sl [.int (nI s9), .long (Int64.ofInt x), .long (Int64.ofInt y)]).length) Slot.unset).toArray = ls at hl ⊢
  have hl : lv_has ls 5 [(0, .int (nI s9)), (1, .long (Int64.ofInt x)), (3, .long (Int64.ofInt y))] := hl
  refine lv_iload_n hx hb dX0_resultOf_0 rfl (lv_at hl 0 rfl) ?_
  rcases (show s9 = 11 ∨ s9 = 12 ∨ s9 = 13 ∨ s9 = 14 ∨ s9 = 15 ∨ s9 = 16 by omega) with rfl | rfl | rfl | rfl | rfl | rfl
  · have _ := hx
    refine lv_tableIn (off := 35) (tgt := 36) hx hb dX0_resultOf_1 (by decide) (by decide) (by decide) (by decide) ?_
    refine lv_lload_n hx hb dX0_resultOf_36 rfl (lv_at hl 1 rfl) ?_
    refine lv_lload_n hx hb dX0_resultOf_37 rfl (lv_at hl 2 rfl) ?_
    refine lv_ladd hx hb dX0_resultOf_38 ?_
    exact x_lret (G := G) hx hb hr dX0_resultOf_39 hlocks hS (by first | exact Nat.le_of_ble_eq_true rfl | exact (show 0 ≤ 0 by omega)) (by first | exact Nat.le_of_ble_eq_true rfl | exact (show 0 ≤ 0 by omega)) ⟨rfl, by rw [show xop 11 x y = x + y from rfl, Int64.ofInt_add]⟩
  · have _ := hx
    refine lv_tableIn (off := 39) (tgt := 40) hx hb dX0_resultOf_1 (by decide) (by decide) (by decide) (by decide) ?_
    refine lv_lload_n hx hb dX0_resultOf_40 rfl (lv_at hl 1 rfl) ?_
    refine lv_lload_n hx hb dX0_resultOf_41 rfl (lv_at hl 2 rfl) ?_
    refine lv_lsub hx hb dX0_resultOf_42 ?_
    exact x_lret (G := G) hx hb hr dX0_resultOf_43 hlocks hS (by first | exact Nat.le_of_ble_eq_true rfl | exact (show 0 ≤ 0 by omega)) (by first | exact Nat.le_of_ble_eq_true rfl | exact (show 0 ≤ 0 by omega)) ⟨rfl, by rw [show xop 12 x y = x - y from rfl, Int64.ofInt_sub]⟩
  · have _ := hx
    refine lv_tableIn (off := 43) (tgt := 44) hx hb dX0_resultOf_1 (by decide) (by decide) (by decide) (by decide) ?_
    refine lv_lload_n hx hb dX0_resultOf_44 rfl (lv_at hl 1 rfl) ?_
    refine lv_lload_n hx hb dX0_resultOf_45 rfl (lv_at hl 2 rfl) ?_
    refine lv_lmul hx hb dX0_resultOf_46 ?_
    exact x_lret (G := G) hx hb hr dX0_resultOf_47 hlocks hS (by first | exact Nat.le_of_ble_eq_true rfl | exact (show 0 ≤ 0 by omega)) (by first | exact Nat.le_of_ble_eq_true rfl | exact (show 0 ≤ 0 by omega)) ⟨rfl, by rw [show xop 13 x y = x * y from rfl, Int64.ofInt_mul]⟩
  · have _ := hx
    refine lv_tableIn (off := 47) (tgt := 48) hx hb dX0_resultOf_1 (by decide) (by decide) (by decide) (by decide) ?_
    refine lv_lload_n hx hb dX0_resultOf_48 rfl (lv_at hl 2 rfl) ?_
    refine lv_lconst (v := (lN 0)) hx hb dX0_resultOf_49 (by decide) ?_
    refine W.lcmp hx hb dX0_resultOf_50 ?_
    refine lv_if_ne (tgt := 58) hx hb dX0_resultOf_51 (by decide) (fun c_1 => ?_) (fun c_1 => ?_)
    · have _ := hx
      refine lv_lload_n hx hb dX0_resultOf_58 rfl (lv_at hl 1 rfl) ?_
      refine lv_lload_n hx hb dX0_resultOf_59 rfl (lv_at hl 2 rfl) ?_
      have hy0 : y ≠ 0 := fun q => c_1 ((xcmp0 hy1).mpr q)
      refine lv_ldiv hx hb dX0_resultOf_60 (xne0 hy1 hy0) ?_
      exact x_lret (G := G) hx hb hr dX0_resultOf_61 hlocks hS (by first | exact Nat.le_of_ble_eq_true rfl | exact (show 0 ≤ 0 by omega)) (by first | exact Nat.le_of_ble_eq_true rfl | exact (show 0 ≤ 0 by omega)) ⟨rfl, by rw [show xop 14 x y = x.tdiv y from if_neg hy0, Int64.ofInt_tdiv (by show (-9223372036854775808 : Int) ≤ x; omega) (by show x ≤ (9223372036854775807 : Int); omega) (by show (-9223372036854775808 : Int) ≤ y; omega) (by show y ≤ (9223372036854775807 : Int); omega)]⟩
    · have _ := hx
      refine lv_lconst (v := (lN 0)) hx hb dX0_resultOf_54 (by decide) ?_
      refine lv_goto (tgt := 61) hx hb dX0_resultOf_55 (by decide) ?_
      exact x_lret (G := G) hx hb hr dX0_resultOf_61 hlocks hS (by first | exact Nat.le_of_ble_eq_true rfl | exact (show 0 ≤ 0 by omega)) (by first | exact Nat.le_of_ble_eq_true rfl | exact (show 0 ≤ 0 by omega)) ⟨rfl, by rw [show xop 14 x y = 0 from if_pos ((xcmp0 hy1).mp c_1)]; rfl⟩
  · have _ := hx
    refine lv_tableIn (off := 61) (tgt := 62) hx hb dX0_resultOf_1 (by decide) (by decide) (by decide) (by decide) ?_
    refine lv_lload_n hx hb dX0_resultOf_62 rfl (lv_at hl 1 rfl) ?_
    refine lv_lload_n hx hb dX0_resultOf_63 rfl (lv_at hl 2 rfl) ?_
    refine va_mmin_long hx hb (by rw [hml]; exact hl.1.symm) hown (hts (.methodLink RX0 76 Lib.MathLoose.min_long.x) (by decide +kernel)) (hts (.static Lib.MathLoose.min_long.x) (by decide +kernel)) (hts (.initialized "java/lang/Math") (by decide +kernel)) (hts (.code Lib.MathLoose.min_long.x Lib.MathLoose.min_long.code 4 (some .long)) (by decide +kernel)) (Nat.le_of_ble_eq_true rfl) (Nat.le_of_ble_eq_true rfl) (by first | exact Nat.le_of_ble_eq_true rfl | omega) (by first | exact Nat.le_of_ble_eq_true rfl | omega) dX0_resultOf_64 ?_
    exact x_lret (G := G) hx hb hr dX0_resultOf_67 hlocks hS (by first | exact Nat.le_of_ble_eq_true rfl | exact (show 0 ≤ 0 by omega)) (by first | exact Nat.le_of_ble_eq_true rfl | exact (show 0 ≤ 0 by omega)) ⟨rfl, by rw [show xop 15 x y = (if x ≤ y then x else y) from rfl]; by_cases c9 : y < x; (rw [if_pos ((xl_lt hy1 hx1).mpr c9), if_neg (by omega)]); (rw [if_neg (fun q => c9 ((xl_lt hy1 hx1).mp q)), if_pos (by omega)])⟩
  · have _ := hx
    refine lv_tableOut (tgt := 68) hx hb dX0_resultOf_1 (by decide) (by decide) ?_
    refine lv_lload_n hx hb dX0_resultOf_68 rfl (lv_at hl 1 rfl) ?_
    refine lv_lload_n hx hb dX0_resultOf_69 rfl (lv_at hl 2 rfl) ?_
    refine va_mmax_long hx hb (by rw [hml]; exact hl.1.symm) hown (hts (.methodLink RX0 79 Lib.MathLoose.max_long.x) (by decide +kernel)) (hts (.static Lib.MathLoose.max_long.x) (by decide +kernel)) (hts (.initialized "java/lang/Math") (by decide +kernel)) (hts (.code Lib.MathLoose.max_long.x Lib.MathLoose.max_long.code 4 (some .long)) (by decide +kernel)) (Nat.le_of_ble_eq_true rfl) (Nat.le_of_ble_eq_true rfl) (by first | exact Nat.le_of_ble_eq_true rfl | omega) (by first | exact Nat.le_of_ble_eq_true rfl | omega) dX0_resultOf_70 ?_
    exact x_lret (G := G) hx hb hr dX0_resultOf_73 hlocks hS (by first | exact Nat.le_of_ble_eq_true rfl | exact (show 0 ≤ 0 by omega)) (by first | exact Nat.le_of_ble_eq_true rfl | exact (show 0 ≤ 0 by omega)) ⟨rfl, by rw [show xop 16 x y = (if y ≤ x then x else y) from rfl]; by_cases c9 : y < x; (rw [if_pos ((xl_lt hy1 hx1).mpr c9), if_pos (by omega)]); (rw [if_neg (fun q => c9 ((xl_lt hy1 hx1).mp q))]; by_cases c8 : y ≤ x; (rw [if_pos c8, show y = x by omega]); (rw [if_neg c8]))⟩

theorem xcl_id {z : Int} (h1 : -100000 ≤ z) (h2 : z ≤ 100000) : xcl z = z := by unfold xcl; rw [if_neg (by omega), if_neg (by omega)]
theorem xstep_lo {s v : Nat} {q : (Nat → Int) × Nat} (h : s < 10) : xstep s v q = (va_up q.1 q.2 (xcl (s : Int)), q.2 + 1) := by rw [xcl_id (by omega) (by omega)]; exact if_pos h
theorem xstep_val {s v : Nat} {q : (Nat → Int) × Nat} (h : s = 10 ∧ v ≤ 99) : xstep s v q = (va_up q.1 q.2 (xcl (v : Int)), q.2 + 1) := by rw [xcl_id (by omega) (by omega)]; unfold xstep; rw [if_neg (by omega), if_pos h.1]
theorem xstep_op {s v : Nat} {q : (Nat → Int) × Nat} (h : 11 ≤ s) : xstep s v q = (va_up q.1 (q.2 - 2) (xcl (xop s (q.1 (q.2 - 2)) (q.1 (q.2 - 1)))), q.2 - 1) := by unfold xstep; rw [if_neg (by omega), if_neg (by omega)]
theorem xop_in {s : Nat} {x y : Int} (hx : -100000 ≤ x ∧ x ≤ 100000) (hy : -100000 ≤ y ∧ y ≤ 100000) : -1000000000000 ≤ xop s x y ∧ xop s x y ≤ 1000000000000 := by
  unfold xop
  split; omega
  split; omega
  split
  · have h1 : (x * y).natAbs ≤ 100000 * 100000 := by rw [Int.natAbs_mul]; exact Nat.mul_le_mul (by omega) (by omega)
    omega
  split
  · split; omega
    have h1 : (x.tdiv y).natAbs ≤ x.natAbs := by rw [Int.natAbs_tdiv]; exact Nat.div_le_self _ _
    omega
  split
  · split <;> omega
  · split <;> omega

set_option maxHeartbeats 4000000 in
set_option maxRecDepth 100000 in
/-- a step of a program on the stack -/
theorem c_X0_perform (l : Launch) (hfl : l.stackTraces = false) (G : xG) (k r a s9 v9 : Nat) (g : Nat → Int) (n : Nat) (H : Heap) (hs : sA G k r a g n H) (hA_k : xA G k) (hA_a : xA G a) (hs9 : s9 ≤ 16) (hv9 : v9 ≤ 99) (hlo : s9 ≤ 10 → n < 7) (hhi : 11 ≤ s9 → 2 ≤ n ∧ (-100000 ≤ g (n - 2) ∧ g (n - 2) ≤ 100000) ∧ -100000 ≤ g (n - 1) ∧ g (n - 1) ≤ 100000) : xMet l G yX0_perform wsX0_perform ({ frames := 2, cells := 0, slots := 0, locals := 54 } : Room) [.int (nI s9), .int (nI v9), .ref k] H (fun v H1 => v = none ∧ sA G k r a (xstep s9 v9 (g, n)).1 (xstep s9 v9 (g, n)).2 H1 ∧ xC [k, a] H H1) (xNo) := by
  refine vx_ofW (cc := cX0_perform) (maxL := 7) (ret := none) (by decide) rfl ?_
  intro Pg Ev s m args below meth c s₁ B hml hout hv
  obtain ⟨rfl, hH, hC⟩ := hv
  have hx := B.exec
  have hb := B.bytes
  have hr := B.returns
  have hts := atoms_spec (ws := wsX0_perform) B.pre
  have hown : s.vm.findClass RX0 = some m.cls := findClass_of_methodNamed B.named
  have hlocks := B.notSynchronized
  rw [hH]
  have hS : va_S (xA G) s.heap H [] := by rw [← hH]; exact va_S.rf
  generalize ([] : List Loc) = locs at hS ⊢
  have hl := lv_entry [.int (nI s9), .int (nI v9), .ref k] (n := 7) (Nat.le_of_ble_eq_true rfl)
  rw [lg_entry_eq]
  generalize (lg_sl [.int (nI s9), .int (nI v9), .ref k] ++ List.replicate (7 - (lg_sl [.int (nI s9), .int (nI v9), .ref k]).length) Slot.unset).toArray = ls at hl ⊢
  have hl : lv_has ls 7 [(0, .int (nI s9)), (1, .int (nI v9)), (2, .ref k)] := hl
  obtain ⟨hk0, hr0, ha0, hn, nkr, nka, nra⟩ := hs
  refine lv_iload_n hx hb dX0_perform_0 rfl (lv_at hl 0 rfl) ?_
  refine lv_bipush (v := (nI 10)) hx hb dX0_perform_1 (by decide) ?_
  refine lv_icmp_ge (tgt := 15) hx hb dX0_perform_3 (by decide) (fun c_1 => ?_) (fun c_1 => ?_)
  · have _ := hx
    have c_1 : 10 ≤ s9 := (nI_leI (a := 10) (b := s9) (by omega) (by omega)).mp c_1
    refine lv_iload_n hx hb dX0_perform_15 rfl (lv_at hl 0 rfl) ?_
    refine lv_bipush (v := (nI 10)) hx hb dX0_perform_16 (by decide) ?_
    refine lv_icmp_ne (tgt := 30) hx hb dX0_perform_18 (by decide) (fun c_2 => ?_) (fun c_2 => ?_)
    · have _ := hx
      have c_2 : ¬ (s9 = 10) := fun z => c_2 ((nI_eq (a := s9) (b := 10) (by omega) (by omega)).mpr z)
      refine lv_aload_n hx hb dX0_perform_30 rfl (lv_at hl 2 rfl) ?_
      obtain ⟨h2n, hg2, hg1⟩ := hhi (by omega)
      have hsz := hS.1
      refine x_call (px := xNo) (vx_runV (As := []) (rest := []) ⟨hx, hb, hml, hown, hts⟩ (c_X2_pop l hfl G k r a g n H ⟨hk0, hr0, ha0, by omega, nkr, nka, nra⟩ hA_k (by omega)) (cwV 0 hts gX0_perform_X2_pop rfl rfl rfl (by decide +kernel) ⟨(Nat.le_of_ble_eq_true rfl), (Nat.le_of_ble_eq_true rfl)⟩) (xPreV hC hS hk0 (q := (RX2, TX2, 2)) rfl) rfl rfl hl.1 rfl (lv_room (Nat.le_of_ble_eq_true rfl)) dX0_perform_31 ⟨(by first | exact Nat.le_of_ble_eq_true rfl | exact (show 0 + 0 ≤ 0 by omega)), (by first | exact Nat.le_of_ble_eq_true rfl | exact (show 0 + 0 ≤ 0 by omega))⟩) hS (fun _ h => h) (fun _ _ _ _ _ h => False.elim h) (fun v H_3 locs hp hz hk_4 hS => ?_)
      obtain ⟨rfl, ⟨hk5, hr5, ha5, hn5, -, -, -⟩, hc5⟩ := hp
      refine lv_i2l (v := Int64.ofInt (g (n - 1))) hx hb dX0_perform_34 (xz2l hg1.1 hg1.2) ?_
      refine lv_lstore_n (lv' := [(3, .long (Int64.ofInt (g (n - 1)))), (0, .int (nI s9)), (1, .int (nI v9)), (2, .ref k)]) hx hb dX0_perform_35 rfl hl (by decide) rfl (fun ls hl => ?_)
      refine lv_aload_n hx hb dX0_perform_36 rfl (lv_at hl 3 rfl) ?_
      have hsz := hS.1
      refine x_call (px := xNo) (vx_runV (As := []) (rest := []) ⟨hx, hb, hml, hown, hts⟩ (c_X2_pop l hfl G k r a g (n - 1) H_3 ⟨hk5, hr5, ha5, by omega, nkr, nka, nra⟩ hA_k (by omega)) (cwV 0 hts gX0_perform_X2_pop rfl rfl rfl (by decide +kernel) ⟨(Nat.le_of_ble_eq_true rfl), (Nat.le_of_ble_eq_true rfl)⟩) (xPreV hC hS hk5 (q := (RX2, TX2, 2)) rfl) rfl rfl hl.1 rfl (lv_room (Nat.le_of_ble_eq_true rfl)) dX0_perform_37 ⟨(by first | exact Nat.le_of_ble_eq_true rfl | exact (show 0 + 0 ≤ 0 by omega)), (by first | exact Nat.le_of_ble_eq_true rfl | exact (show 0 + 0 ≤ 0 by omega))⟩) hS (fun _ h => h) (fun _ _ _ _ _ h => False.elim h) (fun v H_6 locs hp hz hk_7 hS => ?_)
      obtain ⟨rfl, ⟨hk8, hr8, ha8, hn8, -, -, -⟩, hc8⟩ := hp
      rw [show n - 1 - 1 = n - 2 by omega]
      refine lv_i2l (v := Int64.ofInt (g (n - 2))) hx hb dX0_perform_40 (xz2l hg2.1 hg2.2) ?_
      refine lv_lstore (lv' := [(5, .long (Int64.ofInt (g (n - 2)))), (3, .long (Int64.ofInt (g (n - 1)))), (0, .int (nI s9)), (1, .int (nI v9)), (2, .ref k)]) hx hb dX0_perform_41 hl (by decide) rfl (fun ls hl => ?_)
      refine lv_aload_n hx hb dX0_perform_43 rfl (lv_at hl 4 rfl) ?_
      refine lv_iload_n hx hb dX0_perform_44 rfl (lv_at hl 2 rfl) ?_
      refine lv_lload hx hb dX0_perform_45 (lv_at hl 0 rfl) ?_
      refine lv_lload_n hx hb dX0_perform_47 rfl (lv_at hl 1 rfl) ?_
      refine x_lngE (vx_runS (As := [.int (nI s9), .long (Int64.ofInt (g (n - 2))), .long (Int64.ofInt (g (n - 1)))]) (rest := [.ref k]) ⟨hx, hb, hml, hown, hts⟩ (c_X0_resultOf l hfl G s9 (g (n - 2)) (g (n - 1)) H_6 (by omega) hs9 hg2 hg1) (va_cwS 3 hts gX0_perform_X0_resultOf rfl rfl rfl (by decide +kernel) ⟨(Nat.le_of_ble_eq_true rfl), (Nat.le_of_ble_eq_true rfl)⟩) (xPreS hC hS) rfl rfl hl.1 rfl (lv_room (Nat.le_of_ble_eq_true rfl)) dX0_perform_48 ⟨(by first | exact Nat.le_of_ble_eq_true rfl | exact (show 0 + 0 ≤ 0 by omega)), (by first | exact Nat.le_of_ble_eq_true rfl | exact (show 0 + 0 ≤ 0 by omega))⟩) hS (fun locs hS => ?_)
      have hsz := hS.1
      refine x_call (px := xNo) (vx_runV (As := [.long (Int64.ofInt (xop s9 (g (n - 2)) (g (n - 1))))]) (rest := []) ⟨hx, hb, hml, hown, hts⟩ (c_X2_push l hfl G k r a g (n - 1 - 1) (xop s9 (g (n - 2)) (g (n - 1))) H_6 ⟨hk8, hr8, ha8, by omega, nkr, nka, nra⟩ hA_k hA_a (by omega) (xop_in hg2 hg1).1 (xop_in hg2 hg1).2) (cwV 1 hts gX0_perform_X2_push rfl rfl rfl (by decide +kernel) ⟨(Nat.le_of_ble_eq_true rfl), (Nat.le_of_ble_eq_true rfl)⟩) (xPreV hC hS hk8 (q := (RX2, TX2, 2)) rfl) rfl rfl hl.1 rfl (lv_room (Nat.le_of_ble_eq_true rfl)) dX0_perform_51 ⟨(by first | exact Nat.le_of_ble_eq_true rfl | exact (show 0 + 0 ≤ 0 by omega)), (by first | exact Nat.le_of_ble_eq_true rfl | exact (show 0 + 0 ≤ 0 by omega))⟩) hS (fun _ h => h) (fun _ _ _ _ _ h => False.elim h) (fun v H_9 locs hp hz hk_10 hS => ?_)
      obtain ⟨rfl, ⟨hk11, hr11, ha11, hn11, -, -, -⟩, hc11⟩ := hp
      have _ := hc5.1
      have _ := hc8.1
      have _ := hc11.1
      exact x_vret (G := G) hx hb hr dX0_perform_54 hlocks hS (by first | exact Nat.le_of_ble_eq_true rfl | exact (show 0 ≤ 0 by omega)) (by first | exact Nat.le_of_ble_eq_true rfl | exact (show 0 ≤ 0 by omega)) ⟨rfl, (by have hh := (show sA G k r a _ _ _ from ⟨hk11, hr11, ha11, by omega, nkr, nka, nra⟩); have e9 := xstep_op (v := v9) (q := (g, n)) (s := s9) (by omega); rw [e9]; rw [show n - 1 - 1 + 1 = n - 1 by omega, show n - 1 - 1 = n - 2 by omega] at hh; exact hh), ((hc5.tr (hc8.tr hc11)).mono (fun q hq => by simp only [List.mem_append, List.mem_cons, List.not_mem_nil, or_false, false_or] at hq ⊢; omega))⟩
    · have _ := hx
      have c_2 : s9 = 10 := (nI_eq (a := s9) (b := 10) (by omega) (by omega)).mp c_2
      refine lv_aload_n hx hb dX0_perform_21 rfl (lv_at hl 2 rfl) ?_
      refine lv_iload_n hx hb dX0_perform_22 rfl (lv_at hl 1 rfl) ?_
      refine lv_i2l (v := Int64.ofInt (v9 : Int)) hx hb dX0_perform_23 (xi2l (by omega)) ?_
      have hsz := hS.1
      refine x_call (px := xNo) (vx_runV (As := [.long (Int64.ofInt (v9 : Int))]) (rest := []) ⟨hx, hb, hml, hown, hts⟩ (c_X2_push l hfl G k r a g n (v9 : Int) H ⟨hk0, hr0, ha0, by omega, nkr, nka, nra⟩ hA_k hA_a (by omega) (by omega) (by omega)) (cwV 1 hts gX0_perform_X2_push rfl rfl rfl (by decide +kernel) ⟨(Nat.le_of_ble_eq_true rfl), (Nat.le_of_ble_eq_true rfl)⟩) (xPreV hC hS hk0 (q := (RX2, TX2, 2)) rfl) rfl rfl hl.1 rfl (lv_room (Nat.le_of_ble_eq_true rfl)) dX0_perform_24 ⟨(by first | exact Nat.le_of_ble_eq_true rfl | exact (show 0 + 0 ≤ 0 by omega)), (by first | exact Nat.le_of_ble_eq_true rfl | exact (show 0 + 0 ≤ 0 by omega))⟩) hS (fun _ h => h) (fun _ _ _ _ _ h => False.elim h) (fun v H_12 locs hp hz hk_13 hS => ?_)
      obtain ⟨rfl, ⟨hk14, hr14, ha14, hn14, -, -, -⟩, hc14⟩ := hp
      refine lv_goto (tgt := 54) hx hb dX0_perform_27 (by decide) ?_
      have _ := hc14.1
      exact x_vret (G := G) hx hb hr dX0_perform_54 hlocks hS (by first | exact Nat.le_of_ble_eq_true rfl | exact (show 0 ≤ 0 by omega)) (by first | exact Nat.le_of_ble_eq_true rfl | exact (show 0 ≤ 0 by omega)) ⟨rfl, (by have hh := (show sA G k r a _ _ _ from ⟨hk14, hr14, ha14, by omega, nkr, nka, nra⟩); have e9 := xstep_val (v := v9) (q := (g, n)) (s := s9) (by omega); rw [e9]; exact hh), (hc14.mono (fun q hq => by simp only [List.mem_append, List.mem_cons, List.not_mem_nil, or_false, false_or] at hq ⊢; omega))⟩
  · have _ := hx
    have c_1 : ¬ (10 ≤ s9) := fun z => c_1 ((nI_leI (a := 10) (b := s9) (by omega) (by omega)).mpr z)
    refine lv_aload_n hx hb dX0_perform_6 rfl (lv_at hl 2 rfl) ?_
    refine lv_iload_n hx hb dX0_perform_7 rfl (lv_at hl 0 rfl) ?_
    refine lv_i2l (v := Int64.ofInt (s9 : Int)) hx hb dX0_perform_8 (xi2l (by omega)) ?_
    have hsz := hS.1
    refine x_call (px := xNo) (vx_runV (As := [.long (Int64.ofInt (s9 : Int))]) (rest := []) ⟨hx, hb, hml, hown, hts⟩ (c_X2_push l hfl G k r a g n (s9 : Int) H ⟨hk0, hr0, ha0, by omega, nkr, nka, nra⟩ hA_k hA_a (by omega) (by omega) (by omega)) (cwV 1 hts gX0_perform_X2_push rfl rfl rfl (by decide +kernel) ⟨(Nat.le_of_ble_eq_true rfl), (Nat.le_of_ble_eq_true rfl)⟩) (xPreV hC hS hk0 (q := (RX2, TX2, 2)) rfl) rfl rfl hl.1 rfl (lv_room (Nat.le_of_ble_eq_true rfl)) dX0_perform_9 ⟨(by first | exact Nat.le_of_ble_eq_true rfl | exact (show 0 + 0 ≤ 0 by omega)), (by first | exact Nat.le_of_ble_eq_true rfl | exact (show 0 + 0 ≤ 0 by omega))⟩) hS (fun _ h => h) (fun _ _ _ _ _ h => False.elim h) (fun v H_15 locs hp hz hk_16 hS => ?_)
    obtain ⟨rfl, ⟨hk17, hr17, ha17, hn17, -, -, -⟩, hc17⟩ := hp
    refine lv_goto (tgt := 54) hx hb dX0_perform_12 (by decide) ?_
    have _ := hc17.1
    exact x_vret (G := G) hx hb hr dX0_perform_54 hlocks hS (by first | exact Nat.le_of_ble_eq_true rfl | exact (show 0 ≤ 0 by omega)) (by first | exact Nat.le_of_ble_eq_true rfl | exact (show 0 ≤ 0 by omega)) ⟨rfl, (by have hh := (show sA G k r a _ _ _ from ⟨hk17, hr17, ha17, by omega, nkr, nka, nra⟩); have e9 := xstep_lo (v := v9) (q := (g, n)) (s := s9) (by omega); rw [e9]; exact hh), (hc17.mono (fun q hq => by simp only [List.mem_append, List.mem_cons, List.not_mem_nil, or_false, false_or] at hq ⊢; omega))⟩
