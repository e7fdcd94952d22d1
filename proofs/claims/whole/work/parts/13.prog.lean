set_option maxHeartbeats 4000000 in
set_option maxRecDepth 100000 in
/-- a step's bit -/
theorem c_X4_bitOf (l : Launch) (hfl : l.stackTraces = false) (G : xG) (s9 : Nat) (H : Heap) : xMet l G yX4_bitOf wsX4_bitOf ({ frames := 0, cells := 0, slots := 0, locals := 0 } : Room) [.int (nI s9)] H (xi H (xbit s9)) (xNo) := by
  refine vx_ofW (cc := cX4_bitOf) (maxL := 1) (ret := (some .int)) (by decide) rfl ?_
  intro Pg Ev s m args below meth c s₁ B hml hout hv
  obtain ⟨rfl, hH, hC⟩ := hv
  have hx := B.exec
  have hb := B.bytes
  have hr := B.returns
  have hts := atoms_spec (ws := wsX4_bitOf) B.pre
  have hown : s.vm.findClass RX4 = some m.cls := findClass_of_methodNamed B.named
  have hlocks := B.notSynchronized
  rw [hH]
  have hS : va_S (xA G) s.heap H [] := by rw [← hH]; exact va_S.rf
  generalize ([] : List Loc) = locs at hS ⊢
  have hl := lv_entry [.int (nI s9)] (n := 1) (Nat.le_of_ble_eq_true rfl)
  rw [lg_entry_eq]
  generalize (lg_sl [.int (nI s9)] ++ List.replicate (1 - (lg_sl [.int (nI s9)]).length) Slot.unset).toArray = ls at hl ⊢
  have hl : lv_has ls 1 [(0, .int (nI s9))] := hl
  refine lv_iconst (v := (nI 1)) hx hb dX4_bitOf_0 (by decide) ?_
  refine lv_iload_n hx hb dX4_bitOf_1 rfl (lv_at hl 0 rfl) ?_
  refine lv_ishl hx hb dX4_bitOf_2 ?_
  exact x_iret (G := G) hx hb hr rfl dX4_bitOf_3 hlocks hS (by first | exact Nat.le_of_ble_eq_true rfl | exact (show 0 ≤ 0 by omega)) (by first | exact Nat.le_of_ble_eq_true rfl | exact (show 0 ≤ 0 by omega)) ⟨rfl, rfl⟩

set_option maxHeartbeats 4000000 in
set_option maxRecDepth 100000 in
/-- new Program() -/
theorem c_X0_init (l : Launch) (hfl : l.stackTraces = false) (G : xG) (r : Nat) (H : Heap) (hr0 : oA G r 1 [.null, .int 0, .int 0] H) (hA_r : xA G r) : xMet l G yX0_init wsX0_init ({ frames := 2, cells := 2, slots := 101, locals := 51 } : Room) [.ref r] H (fun v H1 => v = none ∧ ∃ q a, H.size ≤ q ∧ H.size ≤ a ∧ pA G r q a (fun _ => 0) 0 H1 ∧ xC [r] H H1) (xNo) := by
  refine vx_ofW (cc := cX0_init) (maxL := 1) (ret := none) (by decide) rfl ?_
  intro Pg Ev s m args below meth c s₁ B hml hout hv
  obtain ⟨rfl, hH, hC⟩ := hv
  have hx := B.exec
  have hb := B.bytes
  have hr := B.returns
  have hts := atoms_spec (ws := wsX0_init) B.pre
  have hown : s.vm.findClass RX0 = some m.cls := findClass_of_methodNamed B.named
  have hlocks := B.notSynchronized
  have hin : meth.name = "<init>" := (name_of_methodNamed B.named B.method).1
  rw [hH]
  have hS : va_S (xA G) s.heap H [] := by rw [← hH]; exact va_S.rf
  generalize ([] : List Loc) = locs at hS ⊢
  have hl := lv_entry [.ref r] (n := 1) (Nat.le_of_ble_eq_true rfl)
  rw [lg_entry_eq]
  generalize (lg_sl [.ref r] ++ List.replicate (1 - (lg_sl [.ref r]).length) Slot.unset).toArray = ls at hl ⊢
  have hl : lv_has ls 1 [(0, .ref r)] := hl
  refine lv_aload_n hx hb dX0_init_0 rfl (lv_at hl 0 rfl) ?_
  refine W.objInit hx hb hown (hts (.methodLink RX0 3 objectInit) (by decide +kernel)) (hts (.instanceMethod objectInit) (by decide +kernel)) (hts (.code objectInit ⟨#[0xb1]⟩ 1 none) (by decide +kernel)) rfl (by rw [hml]; exact hl.1) rfl dX0_init_1 (Nat.le_of_ble_eq_true rfl) (Nat.le_of_ble_eq_true rfl) ?_
  refine W.eq (g2 := F0 m 4 ls []) rfl ?_
  refine lv_aload_n hx hb dX0_init_4 rfl (lv_at hl 0 rfl) ?_
  have hsz := hS.1
  refine x_new (G := G) (ci := 2) (fs := [.null]) (C := RX1) (T := TX1) (N := 1) hx hb hts (by decide +kernel) tyX1 tyX1_ok hown (hts (.classLink RX0 9 RX1) (by decide +kernel)) (hts (.instantiable RX1 1) (by decide +kernel)) (hts (.initialized RX1) (by decide +kernel)) hC hS rfl (fun j hj => by rcases (show j = 0 by omega) with rfl; rfl) (by first | exact Nat.le_of_ble_eq_true rfl | exact (show 0 + 1 ≤ 2 by omega)) (by first | exact Nat.le_of_ble_eq_true rfl | exact (show 0 + 1 ≤ 101 by omega)) dX0_init_5 (fun q_1 H_6 eq_4 ho_2 hc_3 hz_5 hS => ?_)
  have hA_q_1 : xA G q_1 := hC.2.2.1 _ (by rw [eq_4]; exact hsz)
  have ne_7 : r ≠ q_1 := xlt hr0 eq_4
  have hr0 := hc_3.at0 hr0
  refine lv_dup hx hb dX0_init_8 rfl ?_
  refine lv_bipush (v := (nI 7)) hx hb dX0_init_9 (by decide) ?_
  have hsz := hS.1
  refine x_call (px := xNo) (x_runOf (va_runI (b := q_1) (As := [.int (nI 7)]) (rest := [.ref q_1, .ref r]) ⟨hx, hb, hml, hown, hts⟩ (x_met (c_X1_init l hfl G q_1 7 H_6 ho_2 hA_q_1 (by omega))) (cwI 1 hts gX0_init_X1_init rfl rfl rfl (hts (.initialized RX1) (by decide +kernel)) (hts (.methodLink RX0 11 yX1_init) (by decide +kernel)) (hts (.instanceMethod yX1_init) (by decide +kernel)) rfl (by decide +kernel) ⟨(Nat.le_of_ble_eq_true rfl), (Nat.le_of_ble_eq_true rfl)⟩) (xPreS hC hS) rfl rfl hl.1 rfl (lv_room (Nat.le_of_ble_eq_true rfl)) dX0_init_11 ⟨(by first | exact Nat.le_of_ble_eq_true rfl | exact (show 0 + 1 + 1 ≤ 2 by omega)), (by first | exact Nat.le_of_ble_eq_true rfl | exact (show 0 + 1 + 100 ≤ 101 by omega))⟩)) hS (fun _ h => h) (fun _ _ _ _ _ h => False.elim h) (fun v H_8 locs hp hz hk_9 hS => ?_)
  obtain ⟨rfl, qa10, hqa10, hn10, ha10, hc10⟩ := hp
  have hA_qa10 : xA G qa10 := hC.2.2.1 _ (Nat.le_trans hsz hqa10)
  have ne_11 : r ≠ qa10 := xlt2 hr0 hqa10
  have ne_12 : q_1 ≠ qa10 := xlt2 ho_2 hqa10
  have hr0 := hc10.at hr0 (xn1 ne_7)
  refine x_putF (G := G) (ci := 1) (v := .ref q_1) (ty := (.object "Bidwhistle$Row")) (C := RX0) (T := TX0) (N := 3) hx hb hts (by decide +kernel) tyX0 tyX0_ok nmX0 hown hC hS hA_r hr0 rfl 0 (by decide) (hts (.fieldLink RX0 14 "Bidwhistle$Program" "steps" "LBidwhistle$Row;") (by decide +kernel)) (fun _ h9 => h9) rfl hin rfl (by decide +kernel) rfl rfl (Nat.le_of_ble_eq_true rfl) dX0_init_14 (fun H_14 locs hr0 hc_13 hS => ?_)
  have hr0 : oA G r 1 [.ref q_1, .int 0, .int 0] H_14 := hr0
  have hn10 := hc_13.at hn10 (xn1 (Ne.symm ne_7))
  have ha10 := hc_13.at ha10 (xn1 (Ne.symm ne_11))
  refine lv_aload_n hx hb dX0_init_17 rfl (lv_at hl 0 rfl) ?_
  refine lv_iconst (v := (nI 0)) hx hb dX0_init_18 (by decide) ?_
  refine x_put (G := G) (ci := 1) (v := .int (nI 0)) (ty := .int) (C := RX0) (T := TX0) (N := 3) hx hb hts (by decide +kernel) tyX0 tyX0_ok nmX0 hown hC hS hA_r hr0 rfl 1 (by decide) (hts (.fieldLink RX0 20 "Bidwhistle$Program" "length" "I") (by decide +kernel)) (fun _ h9 => h9) rfl (by decide +kernel) rfl rfl (Nat.le_of_ble_eq_true rfl) dX0_init_19 (fun H_16 locs hr0 hc_15 hS => ?_)
  have hr0 : oA G r 1 [.ref q_1, .int (nI 0), .int 0] H_16 := hr0
  have hn10 := hc_15.at hn10 (xn1 (Ne.symm ne_7))
  have ha10 := hc_15.at ha10 (xn1 (Ne.symm ne_11))
  refine lv_aload_n hx hb dX0_init_22 rfl (lv_at hl 0 rfl) ?_
  refine lv_iconst (v := (nI 0)) hx hb dX0_init_23 (by decide) ?_
  refine x_put (G := G) (ci := 1) (v := .int (nI 0)) (ty := .int) (C := RX0) (T := TX0) (N := 3) hx hb hts (by decide +kernel) tyX0 tyX0_ok nmX0 hown hC hS hA_r hr0 rfl 2 (by decide) (hts (.fieldLink RX0 24 "Bidwhistle$Program" "stepBits" "I") (by decide +kernel)) (fun _ h9 => h9) rfl (by decide +kernel) rfl rfl (Nat.le_of_ble_eq_true rfl) dX0_init_24 (fun H_18 locs hr0 hc_17 hS => ?_)
  have hr0 : oA G r 1 [.ref q_1, .int (nI 0), .int (nI 0)] H_18 := hr0
  have hn10 := hc_17.at hn10 (xn1 (Ne.symm ne_7))
  have ha10 := hc_17.at ha10 (xn1 (Ne.symm ne_11))
  have _ := hc_3.1
  have _ := hc10.1
  have _ := hc_13.1
  have _ := hc_15.1
  have _ := hc_17.1
  exact x_vret (G := G) hx hb hr dX0_init_27 hlocks hS (by first | exact Nat.le_of_ble_eq_true rfl | exact (show 0 + 1 + 1 ≤ 2 by omega)) (by first | exact Nat.le_of_ble_eq_true rfl | exact (show 0 + 1 + 100 ≤ 101 by omega)) ⟨rfl, q_1, qa10, Nat.le_of_eq eq_4.symm, Nat.le_trans hc_3.1 hqa10, ⟨hr0, hn10, ha10, by decide, ne_7, ne_11, ne_12, fun _ => Nat.zero_le _⟩, ((hc_3.tr (hc10.tr (hc_13.tr (hc_15.tr hc_17)))).mono (fun q hq => by simp only [List.mem_append, List.mem_cons, List.not_mem_nil, or_false, false_or] at hq ⊢; omega))⟩

set_option maxHeartbeats 4000000 in
set_option maxRecDepth 100000 in
/-- Program.length() -/
theorem c_X0_length (l : Launch) (hfl : l.stackTraces = false) (G : xG) (p r a n : Nat) (t : Nat → Nat) (H : Heap) (hp : pA G p r a t n H) : xMet l G yX0_length wsX0_length ({ frames := 0, cells := 0, slots := 0, locals := 0 } : Room) [.ref p] H (xi H (nI n)) (xNo) := by
  refine vx_ofW (cc := cX0_length) (maxL := 1) (ret := (some .int)) (by decide) rfl ?_
  intro Pg Ev s m args below meth c s₁ B hml hout hv
  obtain ⟨rfl, hH, hC⟩ := hv
  have hx := B.exec
  have hb := B.bytes
  have hr := B.returns
  have hts := atoms_spec (ws := wsX0_length) B.pre
  have hown : s.vm.findClass RX0 = some m.cls := findClass_of_methodNamed B.named
  have hlocks := B.notSynchronized
  rw [hH]
  have hS : va_S (xA G) s.heap H [] := by rw [← hH]; exact va_S.rf
  generalize ([] : List Loc) = locs at hS ⊢
  have hl := lv_entry [.ref p] (n := 1) (Nat.le_of_ble_eq_true rfl)
  rw [lg_entry_eq]
  generalize (lg_sl [.ref p] ++ List.replicate (1 - (lg_sl [.ref p]).length) Slot.unset).toArray = ls at hl ⊢
  have hl : lv_has ls 1 [(0, .ref p)] := hl
  obtain ⟨hp0, hr0, ha0, hn, npr, npa, nra, ht⟩ := hp
  refine lv_aload_n hx hb dX0_length_0 rfl (lv_at hl 0 rfl) ?_
  refine va_get (D := xD G) (ci := 1) (v := .int (nI n)) (C := RX0) (T := TX0) (N := 3) hx hb hts (by decide +kernel) hown hC.1 (x1 hp0) 0 rfl rfl 1 (by decide) (hts (.fieldLink RX0 20 "Bidwhistle$Program" "length" "I") (by decide +kernel)) (fun _ h9 => h9) rfl dX0_length_1 ?_
  exact x_iret (G := G) hx hb hr rfl dX0_length_4 hlocks hS (by first | exact Nat.le_of_ble_eq_true rfl | exact (show 0 ≤ 0 by omega)) (by first | exact Nat.le_of_ble_eq_true rfl | exact (show 0 ≤ 0 by omega)) ⟨rfl, rfl⟩

set_option maxHeartbeats 4000000 in
set_option maxRecDepth 100000 in
/-- Program.isFull() -/
theorem c_X0_isFull (l : Launch) (hfl : l.stackTraces = false) (G : xG) (p r a n : Nat) (t : Nat → Nat) (H : Heap) (hp : pA G p r a t n H) : xMet l G yX0_isFull wsX0_isFull ({ frames := 0, cells := 0, slots := 0, locals := 0 } : Room) [.ref p] H (xi H (xb (decide (7 ≤ n)))) (xNo) := by
  refine vx_ofW (cc := cX0_isFull) (maxL := 1) (ret := (some .boolean)) (by decide) rfl ?_
  intro Pg Ev s m args below meth c s₁ B hml hout hv
  obtain ⟨rfl, hH, hC⟩ := hv
  have hx := B.exec
  have hb := B.bytes
  have hr := B.returns
  have hts := atoms_spec (ws := wsX0_isFull) B.pre
  have hown : s.vm.findClass RX0 = some m.cls := findClass_of_methodNamed B.named
  have hlocks := B.notSynchronized
  rw [hH]
  have hS : va_S (xA G) s.heap H [] := by rw [← hH]; exact va_S.rf
  generalize ([] : List Loc) = locs at hS ⊢
  have hl := lv_entry [.ref p] (n := 1) (Nat.le_of_ble_eq_true rfl)
  rw [lg_entry_eq]
  generalize (lg_sl [.ref p] ++ List.replicate (1 - (lg_sl [.ref p]).length) Slot.unset).toArray = ls at hl ⊢
  have hl : lv_has ls 1 [(0, .ref p)] := hl
  obtain ⟨hp0, hr0, ha0, hn, npr, npa, nra, ht⟩ := hp
  refine lv_aload_n hx hb dX0_isFull_0 rfl (lv_at hl 0 rfl) ?_
  refine va_get (D := xD G) (ci := 1) (v := .int (nI n)) (C := RX0) (T := TX0) (N := 3) hx hb hts (by decide +kernel) hown hC.1 (x1 hp0) 0 rfl rfl 1 (by decide) (hts (.fieldLink RX0 20 "Bidwhistle$Program" "length" "I") (by decide +kernel)) (fun _ h9 => h9) rfl dX0_isFull_1 ?_
  refine lv_bipush (v := (nI 7)) hx hb dX0_isFull_4 (by decide) ?_
  refine lv_icmp_lt (tgt := 13) hx hb dX0_isFull_6 (by decide) (fun c_1 => ?_) (fun c_1 => ?_)
  · have _ := hx
    have c_1 : n < 7 := (nI_ltI (a := n) (b := 7) (by omega) (by omega)).mp c_1
    refine lv_iconst (v := (nI 0)) hx hb dX0_isFull_13 (by decide) ?_
    exact x_iret (G := G) hx hb hr (by rfl) dX0_isFull_14 hlocks hS (by first | exact Nat.le_of_ble_eq_true rfl | exact (show 0 ≤ 0 by omega)) (by first | exact Nat.le_of_ble_eq_true rfl | exact (show 0 ≤ 0 by omega)) ⟨rfl, by rw [show decide (7 ≤ n) = false from decide_eq_false (by omega)]; rfl⟩
  · have _ := hx
    have c_1 : ¬ (n < 7) := fun z => c_1 ((nI_ltI (a := n) (b := 7) (by omega) (by omega)).mpr z)
    refine lv_iconst (v := (nI 1)) hx hb dX0_isFull_9 (by decide) ?_
    refine lv_goto (tgt := 14) hx hb dX0_isFull_10 (by decide) ?_
    exact x_iret (G := G) hx hb hr (by rfl) dX0_isFull_14 hlocks hS (by first | exact Nat.le_of_ble_eq_true rfl | exact (show 0 ≤ 0 by omega)) (by first | exact Nat.le_of_ble_eq_true rfl | exact (show 0 ≤ 0 by omega)) ⟨rfl, by rw [show decide (7 ≤ n) = true from decide_eq_true (by omega)]; rfl⟩

set_option maxHeartbeats 4000000 in
set_option maxRecDepth 100000 in
/-- Program.empty() -/
theorem c_X0_empty (l : Launch) (hfl : l.stackTraces = false) (G : xG) (p r a n : Nat) (t : Nat → Nat) (H : Heap) (hp : pA G p r a t n H) (hA_p : xA G p) : xMet l G yX0_empty wsX0_empty ({ frames := 0, cells := 0, slots := 0, locals := 0 } : Room) [.ref p] H (fun v H1 => v = none ∧ pA G p r a t 0 H1 ∧ xC [p] H H1) (xNo) := by
  refine vx_ofW (cc := cX0_empty) (maxL := 1) (ret := none) (by decide) rfl ?_
  intro Pg Ev s m args below meth c s₁ B hml hout hv
  obtain ⟨rfl, hH, hC⟩ := hv
  have hx := B.exec
  have hb := B.bytes
  have hr := B.returns
  have hts := atoms_spec (ws := wsX0_empty) B.pre
  have hown : s.vm.findClass RX0 = some m.cls := findClass_of_methodNamed B.named
  have hlocks := B.notSynchronized
  rw [hH]
  have hS : va_S (xA G) s.heap H [] := by rw [← hH]; exact va_S.rf
  generalize ([] : List Loc) = locs at hS ⊢
  have hl := lv_entry [.ref p] (n := 1) (Nat.le_of_ble_eq_true rfl)
  rw [lg_entry_eq]
  generalize (lg_sl [.ref p] ++ List.replicate (1 - (lg_sl [.ref p]).length) Slot.unset).toArray = ls at hl ⊢
  have hl : lv_has ls 1 [(0, .ref p)] := hl
  obtain ⟨hp0, hr0, ha0, hn, npr, npa, nra, ht⟩ := hp
  refine lv_aload_n hx hb dX0_empty_0 rfl (lv_at hl 0 rfl) ?_
  refine lv_iconst (v := (nI 0)) hx hb dX0_empty_1 (by decide) ?_
  refine x_put (G := G) (ci := 1) (v := .int (nI 0)) (ty := .int) (C := RX0) (T := TX0) (N := 3) hx hb hts (by decide +kernel) tyX0 tyX0_ok nmX0 hown hC hS hA_p hp0 rfl 1 (by decide) (hts (.fieldLink RX0 20 "Bidwhistle$Program" "length" "I") (by decide +kernel)) (fun _ h9 => h9) rfl (by decide +kernel) rfl rfl (Nat.le_of_ble_eq_true rfl) dX0_empty_2 (fun H_2 locs hp0 hc_1 hS => ?_)
  have hp0 : oA G p 1 [.ref r, .int (nI 0), .int (xbits t n)] H_2 := hp0
  have hr0 := hc_1.at hr0 (xn1 (Ne.symm npr))
  have ha0 := hc_1.at ha0 (xn1 (Ne.symm npa))
  refine lv_aload_n hx hb dX0_empty_5 rfl (lv_at hl 0 rfl) ?_
  refine lv_iconst (v := (nI 0)) hx hb dX0_empty_6 (by decide) ?_
  refine x_put (G := G) (ci := 1) (v := .int (nI 0)) (ty := .int) (C := RX0) (T := TX0) (N := 3) hx hb hts (by decide +kernel) tyX0 tyX0_ok nmX0 hown hC hS hA_p hp0 rfl 2 (by decide) (hts (.fieldLink RX0 24 "Bidwhistle$Program" "stepBits" "I") (by decide +kernel)) (fun _ h9 => h9) rfl (by decide +kernel) rfl rfl (Nat.le_of_ble_eq_true rfl) dX0_empty_7 (fun H_4 locs hp0 hc_3 hS => ?_)
  have hp0 : oA G p 1 [.ref r, .int (nI 0), .int (nI 0)] H_4 := hp0
  have hr0 := hc_3.at hr0 (xn1 (Ne.symm npr))
  have ha0 := hc_3.at ha0 (xn1 (Ne.symm npa))
  have _ := hc_1.1
  have _ := hc_3.1
  exact x_vret (G := G) hx hb hr dX0_empty_10 hlocks hS (by first | exact Nat.le_of_ble_eq_true rfl | exact (show 0 ≤ 0 by omega)) (by first | exact Nat.le_of_ble_eq_true rfl | exact (show 0 ≤ 0 by omega)) ⟨rfl, ⟨hp0, hr0, ha0, by omega, npr, npa, nra, ht⟩, ((hc_1.tr hc_3).mono (fun q hq => by simp only [List.mem_append, List.mem_cons, List.not_mem_nil, or_false, false_or] at hq ⊢; omega))⟩

set_option maxHeartbeats 4000000 in
set_option maxRecDepth 100000 in
/-- Program.add(step) -/
theorem c_X0_add (l : Launch) (hfl : l.stackTraces = false) (G : xG) (p r a n s9 : Nat) (t : Nat → Nat) (H : Heap) (hp : pA G p r a t n H) (hA_p : xA G p) (hA_a : xA G a) (h7 : n < 7) (hs9 : s9 ≤ 16) : xMet l G yX0_add wsX0_add ({ frames := 1, cells := 0, slots := 0, locals := 22 } : Room) [.ref p, .int (nI s9)] H (fun v H1 => v = none ∧ pA G p r a (va_up t n s9) (n + 1) H1 ∧ xC [p, a] H H1) (xNo) := by
  refine vx_ofW (cc := cX0_add) (maxL := 2) (ret := none) (by decide) rfl ?_
  intro Pg Ev s m args below meth c s₁ B hml hout hv
  obtain ⟨rfl, hH, hC⟩ := hv
  have hx := B.exec
  have hb := B.bytes
  have hr := B.returns
  have hts := atoms_spec (ws := wsX0_add) B.pre
  have hown : s.vm.findClass RX0 = some m.cls := findClass_of_methodNamed B.named
  have hlocks := B.notSynchronized
  rw [hH]
  have hS : va_S (xA G) s.heap H [] := by rw [← hH]; exact va_S.rf
  generalize ([] : List Loc) = locs at hS ⊢
  have hl := lv_entry [.ref p, .int (nI s9)] (n := 2) (Nat.le_of_ble_eq_true rfl)
  rw [lg_entry_eq]
  generalize (lg_sl [.ref p, .int (nI s9)] ++ List.replicate (2 - (lg_sl [.ref p, .int (nI s9)]).length) Slot.unset).toArray = ls at hl ⊢
  have hl : lv_has ls 2 [(0, .ref p), (1, .int (nI s9))] := hl
  obtain ⟨hp0, hr0, ha0, hn, npr, npa, nra, ht⟩ := hp
  refine lv_aload_n hx hb dX0_add_0 rfl (lv_at hl 0 rfl) ?_
  refine va_get (D := xD G) (ci := 1) (v := .int (nI n)) (C := RX0) (T := TX0) (N := 3) hx hb hts (by decide +kernel) hown hC.1 (x1 hp0) 0 rfl rfl 1 (by decide) (hts (.fieldLink RX0 20 "Bidwhistle$Program" "length" "I") (by decide +kernel)) (fun _ h9 => h9) rfl dX0_add_1 ?_
  refine lv_bipush (v := (nI 7)) hx hb dX0_add_4 (by decide) ?_
  refine lv_icmp_ge (tgt := 44) hx hb dX0_add_6 (by decide) (fun c_1 => ?_) (fun c_1 => ?_)
  · have _ := hx
    have c_1 : 7 ≤ n := (nI_leI (a := 7) (b := n) (by omega) (by omega)).mp c_1
    exact absurd c_1 (by omega)
  · have _ := hx
    have c_1 : ¬ (7 ≤ n) := fun z => c_1 ((nI_leI (a := 7) (b := n) (by omega) (by omega)).mpr z)
    refine lv_aload_n hx hb dX0_add_9 rfl (lv_at hl 0 rfl) ?_
    refine va_get (D := xD G) (ci := 1) (v := .ref r) (C := RX0) (T := TX0) (N := 3) hx hb hts (by decide +kernel) hown hC.1 (x1 hp0) 0 rfl rfl 0 (by decide) (hts (.fieldLink RX0 14 "Bidwhistle$Program" "steps" "LBidwhistle$Row;") (by decide +kernel)) (fun _ h9 => h9) rfl dX0_add_10 ?_
    refine lv_aload_n hx hb dX0_add_13 rfl (lv_at hl 0 rfl) ?_
    refine va_get (D := xD G) (ci := 1) (v := .int (nI n)) (C := RX0) (T := TX0) (N := 3) hx hb hts (by decide +kernel) hown hC.1 (x1 hp0) 0 rfl rfl 1 (by decide) (hts (.fieldLink RX0 20 "Bidwhistle$Program" "length" "I") (by decide +kernel)) (fun _ h9 => h9) rfl dX0_add_14 ?_
    refine lv_iload_n hx hb dX0_add_17 rfl (lv_at hl 1 rfl) ?_
    have hsz := hS.1
    refine x_call (px := xNo) (vx_runV (As := [.int (nI n), .int (nI s9)]) (rest := []) ⟨hx, hb, hml, hown, hts⟩ (c_X1_put l hfl G r a 7 n (fun k => nI (t k)) (nI s9) H hr0 ha0 (by omega) (by decide) hA_a nra) (cwV 2 hts gX0_add_X1_put rfl rfl rfl (by decide +kernel) ⟨(Nat.le_of_ble_eq_true rfl), (Nat.le_of_ble_eq_true rfl)⟩) (xPreV hC hS hr0 (q := (RX1, TX1, 1)) rfl) rfl rfl hl.1 rfl (lv_room (Nat.le_of_ble_eq_true rfl)) dX0_add_18 ⟨(by first | exact Nat.le_of_ble_eq_true rfl | exact (show 0 + 0 ≤ 0 by omega)), (by first | exact Nat.le_of_ble_eq_true rfl | exact (show 0 + 0 ≤ 0 by omega))⟩) hS (fun _ h => h) (fun _ _ _ _ _ h => False.elim h) (fun v H_2 locs hp hz hk_3 hS => ?_)
    obtain ⟨rfl, hu4, hc4⟩ := hp
    have hp0 := hc4.at hp0 (xn1 npa)
    have hr0 := hc4.at hr0 (xn1 nra)
    rw [upd_nI] at hu4
    refine lv_aload_n hx hb dX0_add_21 rfl (lv_at hl 0 rfl) ?_
    refine lv_dup hx hb dX0_add_22 rfl ?_
    refine va_get (D := xD G) (ci := 1) (v := .int (nI n)) (C := RX0) (T := TX0) (N := 3) hx hb hts (by decide +kernel) hown hC.1 (x1 hp0) 0 rfl rfl 1 (by decide) (hts (.fieldLink RX0 20 "Bidwhistle$Program" "length" "I") (by decide +kernel)) (fun _ h9 => h9) rfl dX0_add_23 ?_
    refine lv_iconst (v := (nI 1)) hx hb dX0_add_26 (by decide) ?_
    refine x_iaddn (a := n) (b := 1) hx hb dX0_add_27 ?_
    refine x_put (G := G) (ci := 1) (v := .int (nI (n + 1))) (ty := .int) (C := RX0) (T := TX0) (N := 3) hx hb hts (by decide +kernel) tyX0 tyX0_ok nmX0 hown hC hS hA_p hp0 rfl 1 (by decide) (hts (.fieldLink RX0 20 "Bidwhistle$Program" "length" "I") (by decide +kernel)) (fun _ h9 => h9) rfl (by decide +kernel) rfl rfl (Nat.le_of_ble_eq_true rfl) dX0_add_28 (fun H_6 locs hp0 hc_5 hS => ?_)
    have hp0 : oA G p 1 [.ref r, .int (nI (n + 1)), .int (xbits t n)] H_6 := hp0
    have hr0 := hc_5.at hr0 (xn1 (Ne.symm npr))
    have hu4 := hc_5.at hu4 (xn1 (Ne.symm npa))
    refine lv_aload_n hx hb dX0_add_31 rfl (lv_at hl 0 rfl) ?_
    refine lv_aload_n hx hb dX0_add_32 rfl (lv_at hl 0 rfl) ?_
    refine va_get (D := xD G) (ci := 1) (v := .int (xbits t n)) (C := RX0) (T := TX0) (N := 3) hx hb hts (by decide +kernel) hown hC.1 (x1 hp0) 0 rfl rfl 2 (by decide) (hts (.fieldLink RX0 24 "Bidwhistle$Program" "stepBits" "I") (by decide +kernel)) (fun _ h9 => h9) rfl dX0_add_33 ?_
    refine lv_iload_n hx hb dX0_add_36 rfl (lv_at hl 1 rfl) ?_
    refine x_intE (x_runOf (va_runSN (As := [.int (nI s9)]) (rest := [.int (xbits t n), .ref p]) ⟨hx, hb, hml, hown, hts⟩ (x_met (c_X4_bitOf l hfl G s9 H_6)) ⟨va_cnB (host := "Bidwhistle") 1 hts gX0_add_X4_bitOf_n31 rfl rfl rfl (hC.2.1 _ (by decide +kernel)) (hts (.initialized RX4) (by decide +kernel)) (by decide +kernel) ⟨(Nat.le_of_ble_eq_true rfl), (Nat.le_of_ble_eq_true rfl)⟩, (hts (.static yX4_bitOf) (by decide +kernel)), trivial⟩ (xPreS hC hS) rfl rfl hl.1 rfl (lv_room (Nat.le_of_ble_eq_true rfl)) dX0_add_37 ⟨(by first | exact Nat.le_of_ble_eq_true rfl | exact (show 0 + 0 ≤ 0 by omega)), (by first | exact Nat.le_of_ble_eq_true rfl | exact (show 0 + 0 ≤ 0 by omega))⟩)) hS (fun locs hS => ?_)
    refine lv_ior hx hb dX0_add_40 ?_
    refine x_put (G := G) (ci := 1) (v := .int ((xbits t n) ||| (xbit s9))) (ty := .int) (C := RX0) (T := TX0) (N := 3) hx hb hts (by decide +kernel) tyX0 tyX0_ok nmX0 hown hC hS hA_p hp0 rfl 2 (by decide) (hts (.fieldLink RX0 24 "Bidwhistle$Program" "stepBits" "I") (by decide +kernel)) (fun _ h9 => h9) rfl (by decide +kernel) rfl rfl (Nat.le_of_ble_eq_true rfl) dX0_add_41 (fun H_8 locs hp0 hc_7 hS => ?_)
    have hp0 : oA G p 1 [.ref r, .int (nI (n + 1)), .int ((xbits t n) ||| (xbit s9))] H_8 := hp0
    have hr0 := hc_7.at hr0 (xn1 (Ne.symm npr))
    have hu4 := hc_7.at hu4 (xn1 (Ne.symm npa))
    have _ := hc4.1
    have _ := hc_5.1
    have _ := hc_7.1
    exact x_vret (G := G) hx hb hr dX0_add_44 hlocks hS (by first | exact Nat.le_of_ble_eq_true rfl | exact (show 0 ≤ 0 by omega)) (by first | exact Nat.le_of_ble_eq_true rfl | exact (show 0 ≤ 0 by omega)) ⟨rfl, ⟨by rw [xbits_up]; exact hp0, hr0, hu4, by omega, npr, npa, nra, fun k => by unfold va_up; split; exact hs9; exact ht k⟩, ((hc4.tr (hc_5.tr hc_7)).mono (fun q hq => by simp only [List.mem_append, List.mem_cons, List.not_mem_nil, or_false, false_or] at hq ⊢; omega))⟩

set_option maxHeartbeats 4000000 in
set_option maxRecDepth 100000 in
/-- Program.addPart(o, from, end) -/
theorem c_X0_addPart (l : Launch) (hfl : l.stackTraces = false) (G : xG) (p r a n o ro ao n2 f9 e9 : Nat) (t u : Nat → Nat) (H : Heap) (hp : pA G p r a t n H) (ho : pA G o ro ao u n2 H) (hA_p : xA G p) (hA_a : xA G a) (nop : o ≠ p) (noa2 : o ≠ a) (nrp : ro ≠ p) (nra2 : ro ≠ a) (nap : ao ≠ p) (naa2 : ao ≠ a) (hf9 : f9 ≤ e9) (he9 : e9 ≤ 7) (h7 : n + (e9 - f9) ≤ 7) : xMet l G yX0_addPart wsX0_addPart ({ frames := 2, cells := 0, slots := 0, locals := 43 } : Room) [.ref p, .ref o, .int (nI f9), .int (nI e9)] H (fun v H1 => v = none ∧ ∃ t', pA G p r a t' (n + (e9 - f9)) H1 ∧ (∀ k, k < n → t' k = t k) ∧ (∀ j, j < e9 - f9 → t' (n + j) = u (f9 + j)) ∧ xC [p, a] H H1) (xNo) := by
  refine vx_ofW (cc := cX0_addPart) (maxL := 5) (ret := none) (by decide) rfl ?_
  intro Pg Ev s m args below meth c s₁ B hml hout hv
  obtain ⟨rfl, hH, hC⟩ := hv
  have hx := B.exec
  have hb := B.bytes
  have hr := B.returns
  have hts := atoms_spec (ws := wsX0_addPart) B.pre
  have hown : s.vm.findClass RX0 = some m.cls := findClass_of_methodNamed B.named
  have hlocks := B.notSynchronized
  rw [hH]
  have hS : va_S (xA G) s.heap H [] := by rw [← hH]; exact va_S.rf
  generalize ([] : List Loc) = locs at hS ⊢
  have hl := lv_entry [.ref p, .ref o, .int (nI f9), .int (nI e9)] (n := 5) (Nat.le_of_ble_eq_true rfl)
  rw [lg_entry_eq]
  generalize (lg_sl [.ref p, .ref o, .int (nI f9), .int (nI e9)] ++ List.replicate (5 - (lg_sl [.ref p, .ref o, .int (nI f9), .int (nI e9)]).length) Slot.unset).toArray = ls at hl ⊢
  have hl : lv_has ls 5 [(0, .ref p), (1, .ref o), (2, .int (nI f9)), (3, .int (nI e9))] := hl
  obtain ⟨hp0, hr0, ha0, hn, npr, npa, nra, ht⟩ := hp
  obtain ⟨ho0, hro0, hao0, hn2, nor, noa, nroa, hu⟩ := ho
  refine lv_iload_n hx hb dX0_addPart_0 rfl (lv_at hl 2 rfl) ?_
  refine lv_istore (lv' := [(4, .int (nI f9)), (0, .ref p), (1, .ref o), (2, .int (nI f9)), (3, .int (nI e9))]) hx hb dX0_addPart_1 hl (by decide) rfl (fun ls hl => ?_)
  have e0 : n + (f9 - f9) = n := by omega
  rw [← e0] at hp0
  have L : ∀ (kL : Nat) (i : Nat) (t' : Nat → Nat), (f9 ≤ i) → (i ≤ e9) → (∀ k, t' k ≤ 16) → (∀ k, k < n → t' k = t k) → (∀ j, j < i - f9 → t' (n + j) = u (f9 + j)) → e9 - i < kL → ∀ (HL : Heap), (oA G p 1 [.ref r, .int (nI (n + (i - f9))), (.int (xbits t' (n + (i - f9))))] HL) → (oA G r 2 [.ref a] HL) → (iA G a 7 (fun k => nI (t' k)) HL) → (oA G o 1 [.ref ro, .int (nI n2), .int (xbits u n2)] HL) → (oA G ro 2 [.ref ao] HL) → (iA G ao 7 (fun k => nI (u k)) HL) → (xC [p, a] H HL) → ∀ (locs : List Loc), va_S (xA G) s.heap HL locs → ∀ ls : Array Slot, lv_has ls 5 [(0, .ref p), (1, .ref o), (2, .int (nI f9)), (3, .int (nI e9)), (4, .int (nI i))] → W Pg l Ev (headSpec wsX0_addPart ({ frames := 2, cells := 0, slots := 0, locals := 43 } : Room)).room s m ([.ref p, .ref o, .int (nI f9), .int (nI e9)] : List Value).toArray below meth c HL locs (0) (0) (vx_MQ below (xQ G (fun v H1 => v = none ∧ ∃ t', pA G p r a t' (n + (e9 - f9)) H1 ∧ (∀ k, k < n → t' k = t k) ∧ (∀ j, j < e9 - f9 → t' (n + j) = u (f9 + j)) ∧ xC [p, a] H H1)) (xX G (xNo)) ([.ref p, .ref o, .int (nI f9), .int (nI e9)] : List Value).toArray s ({ frames := 2, cells := 0, slots := 0, locals := 43 } : Room).cells ({ frames := 2, cells := 0, slots := 0, locals := 43 } : Room).slots (xA G)) (F0 m 3 ls []) := by
    intro kL
    induction kL with
    | zero => intro i t' hi1 hi2 ht' hl1 hl2 hk; exact absurd hk (Nat.not_lt_zero _)
    | succ kL ihL =>
      intro i t' hi1 hi2 ht' hl1 hl2 hk HL hp0 hr0 ha0 ho0 hro0 hao0 hcc locs hS ls hl
      refine lv_iload hx hb dX0_addPart_3 (lv_at hl 4 rfl) ?_
      refine lv_iload_n hx hb dX0_addPart_5 rfl (lv_at hl 3 rfl) ?_
      refine lv_icmp_ge (tgt := 28) hx hb dX0_addPart_6 (by decide) (fun c_1 => ?_) (fun c_1 => ?_)
      · have _ := hx
        have c_1 : e9 ≤ i := (nI_leI (a := e9) (b := i) (by omega) (by omega)).mp c_1
        exact x_vret (G := G) hx hb hr dX0_addPart_28 hlocks hS (by first | exact Nat.le_of_ble_eq_true rfl | exact (show 0 ≤ 0 by omega)) (by first | exact Nat.le_of_ble_eq_true rfl | exact (show 0 ≤ 0 by omega)) ⟨rfl, t', by rw [show e9 = i by omega]; exact ⟨hp0, hr0, ha0, by omega, npr, npa, nra, ht'⟩, hl1, by rw [show e9 = i by omega]; exact hl2, hcc⟩
      · have _ := hx
        have c_1 : ¬ (e9 ≤ i) := fun z => c_1 ((nI_leI (a := e9) (b := i) (by omega) (by omega)).mpr z)
        refine lv_aload_n hx hb dX0_addPart_9 rfl (lv_at hl 0 rfl) ?_
        refine lv_aload_n hx hb dX0_addPart_10 rfl (lv_at hl 1 rfl) ?_
        refine va_get (D := xD G) (ci := 1) (v := .ref ro) (C := RX0) (T := TX0) (N := 3) hx hb hts (by decide +kernel) hown hC.1 (x1 ho0) 0 rfl rfl 0 (by decide) (hts (.fieldLink RX0 14 "Bidwhistle$Program" "steps" "LBidwhistle$Row;") (by decide +kernel)) (fun _ h9 => h9) rfl dX0_addPart_11 ?_
        refine lv_iload hx hb dX0_addPart_14 (lv_at hl 4 rfl) ?_
        refine x_intE (vx_runV (As := [.int (nI i)]) (rest := [.ref p]) ⟨hx, hb, hml, hown, hts⟩ (c_X1_at l hfl G ro ao 7 i (fun k => nI (u k)) HL hro0 hao0 (by omega) (by decide)) (cwV 1 hts gX0_addPart_X1_at rfl rfl rfl (by decide +kernel) ⟨(Nat.le_of_ble_eq_true rfl), (Nat.le_of_ble_eq_true rfl)⟩) (xPreV hC hS hro0 (q := (RX1, TX1, 1)) rfl) rfl rfl hl.1 rfl (lv_room (Nat.le_of_ble_eq_true rfl)) dX0_addPart_16 ⟨(by first | exact Nat.le_of_ble_eq_true rfl | exact (show 0 + 0 ≤ 0 by omega)), (by first | exact Nat.le_of_ble_eq_true rfl | exact (show 0 + 0 ≤ 0 by omega))⟩) hS (fun locs hS => ?_)
        have hsz := hS.1
        refine x_call (px := xNo) (vx_runV (As := [.int (nI (u i))]) (rest := []) ⟨hx, hb, hml, hown, hts⟩ (c_X0_add l hfl G p r a (n + (i - f9)) (u i) t' HL ⟨hp0, hr0, ha0, by omega, npr, npa, nra, ht'⟩ hA_p hA_a (by omega) (hu i)) (cwV 1 hts gX0_addPart_X0_add rfl rfl rfl (by decide +kernel) ⟨(Nat.le_of_ble_eq_true rfl), (Nat.le_of_ble_eq_true rfl)⟩) (xPreV hC hS hp0 (q := (RX0, TX0, 3)) rfl) rfl rfl hl.1 rfl (lv_room (Nat.le_of_ble_eq_true rfl)) dX0_addPart_19 ⟨(by first | exact Nat.le_of_ble_eq_true rfl | exact (show 0 + 0 ≤ 0 by omega)), (by first | exact Nat.le_of_ble_eq_true rfl | exact (show 0 + 0 ≤ 0 by omega))⟩) hS (fun _ h => h) (fun _ _ _ _ _ h => False.elim h) (fun v H_2 locs hp hz hk_3 hS => ?_)
        obtain ⟨rfl, ⟨hp4, hr4, ha4, hn4, -, -, -, ht4⟩, hc4⟩ := hp
        have ho0 := hc4.at ho0 (xn2 nop noa2)
        have hro0 := hc4.at hro0 (xn2 nrp nra2)
        have hao0 := hc4.at hao0 (xn2 nap naa2)
        rw [show n + (i - f9) + 1 = n + (i + 1 - f9) by omega] at hp4
        refine lv_iinc (v := (nI (i + 1))) (lv' := [(4, .int (nI (i + 1))), (0, .ref p), (1, .ref o), (2, .int (nI f9)), (3, .int (nI e9))]) hx hb dX0_addPart_22 hl (k := 4) rfl (xinc (by decide)) (by decide) rfl (fun ls hl => ?_)
        refine lv_goto (tgt := 3) hx hb dX0_addPart_25 (by decide) ?_
        have _ := hcc.1
        have _ := hc4.1
        exact ihL (i + 1) (va_up t' (n + (i - f9)) (u i)) (by omega) (by omega) (fun k => by unfold va_up; split; exact hu i; exact ht' k) (fun k hk => by rw [va_up_ne _ _ (by omega)]; exact hl1 k hk) (fun j hj => by rcases Nat.lt_or_ge j (i - f9) with z | z; (rw [va_up_ne _ _ (by omega)]; exact hl2 j z); (rw [show j = i - f9 by omega, va_up_self, show f9 + (i - f9) = i by omega])) (by omega) H_2 hp4 hr4 ha4 ho0 hro0 hao0 ((hcc.tr hc4).mono (fun q hq => by simp only [List.mem_append, List.mem_cons, List.not_mem_nil, or_false, false_or] at hq ⊢; omega)) _ hS ls (lv_sub hl [1, 2, 3, 4, 0] rfl)
  exact L _ (f9) (t) (Nat.le_refl _) (by omega) (ht) (fun k _ => rfl) (fun j hj => absurd hj (by omega)) (Nat.lt_succ_self _) H hp0 hr0 ha0 ho0 hro0 hao0 (xC.rf) _ hS ls (lv_sub hl [1, 2, 3, 4, 0] rfl)

set_option maxHeartbeats 4000000 in
set_option maxRecDepth 100000 in
/-- Program.copy() -/
theorem c_X0_copy (l : Launch) (hfl : l.stackTraces = false) (G : xG) (p r a n : Nat) (t : Nat → Nat) (H : Heap) (hp : pA G p r a t n H) : xMet l G yX0_copy wsX0_copy ({ frames := 3, cells := 3, slots := 104, locals := 71 } : Room) [.ref p] H (fun v H1 => ∃ p' r' a' t', H.size ≤ p' ∧ H.size ≤ r' ∧ H.size ≤ a' ∧ v = some (.ref p') ∧ pA G p' r' a' t' n H1 ∧ (∀ k, k < n → t' k = t k) ∧ xC [] H H1) (xNo) := by
  refine vx_ofW (cc := cX0_copy) (maxL := 2) (ret := (some (.object "Bidwhistle$Program"))) (by decide) rfl ?_
  intro Pg Ev s m args below meth c s₁ B hml hout hv
  obtain ⟨rfl, hH, hC⟩ := hv
  have hx := B.exec
  have hb := B.bytes
  have hr := B.returns
  have hts := atoms_spec (ws := wsX0_copy) B.pre
  have hown : s.vm.findClass RX0 = some m.cls := findClass_of_methodNamed B.named
  have hlocks := B.notSynchronized
  rw [hH]
  have hS : va_S (xA G) s.heap H [] := by rw [← hH]; exact va_S.rf
  generalize ([] : List Loc) = locs at hS ⊢
  have hl := lv_entry [.ref p] (n := 2) (Nat.le_of_ble_eq_true rfl)
  rw [lg_entry_eq]
  generalize (lg_sl [.ref p] ++ List.replicate (2 - (lg_sl [.ref p]).length) Slot.unset).toArray = ls at hl ⊢
  have hl : lv_has ls 2 [(0, .ref p)] := hl
  obtain ⟨hp0, hr0, ha0, hn, npr, npa, nra, ht⟩ := hp
  have hsz := hS.1
  refine x_new (G := G) (ci := 1) (fs := [.null, .int 0, .int 0]) (C := RX0) (T := TX0) (N := 3) hx hb hts (by decide +kernel) tyX0 tyX0_ok hown (hts (.classLink RX0 15 RX0) (by decide +kernel)) (hts (.instantiable RX0 3) (by decide +kernel)) (hts (.initialized RX0) (by decide +kernel)) hC hS rfl (fun j hj => by rcases (show j = 0 ∨ j = 1 ∨ j = 2 by omega) with rfl | rfl | rfl <;> rfl) (by first | exact Nat.le_of_ble_eq_true rfl | exact (show 0 + 1 ≤ 3 by omega)) (by first | exact Nat.le_of_ble_eq_true rfl | exact (show 0 + 3 ≤ 104 by omega)) dX0_copy_0 (fun q_1 H_6 eq_4 ho_2 hc_3 hz_5 hS => ?_)
  have hA_q_1 : xA G q_1 := hC.2.2.1 _ (by rw [eq_4]; exact hsz)
  have ne_7 : p ≠ q_1 := xlt hp0 eq_4
  have ne_8 : r ≠ q_1 := xlt hr0 eq_4
  have ne_9 : a ≠ q_1 := xlt ha0 eq_4
  have hp0 := hc_3.at0 hp0
  have hr0 := hc_3.at0 hr0
  have ha0 := hc_3.at0 ha0
  refine lv_dup hx hb dX0_copy_3 rfl ?_
  have hsz := hS.1
  refine x_call (px := xNo) (x_runOf (va_runI (b := q_1) (As := []) (rest := [.ref q_1]) ⟨hx, hb, hml, hown, hts⟩ (x_met (c_X0_init l hfl G q_1 H_6 ho_2 hA_q_1)) (cwI 0 hts gX0_copy_X0_init rfl rfl rfl (hts (.initialized RX0) (by decide +kernel)) (hts (.methodLink RX0 41 yX0_init) (by decide +kernel)) (hts (.instanceMethod yX0_init) (by decide +kernel)) rfl (by decide +kernel) ⟨(Nat.le_of_ble_eq_true rfl), (Nat.le_of_ble_eq_true rfl)⟩) (xPreS hC hS) rfl rfl hl.1 rfl (lv_room (Nat.le_of_ble_eq_true rfl)) dX0_copy_4 ⟨(by first | exact Nat.le_of_ble_eq_true rfl | exact (show 0 + 1 + 2 ≤ 3 by omega)), (by first | exact Nat.le_of_ble_eq_true rfl | exact (show 0 + 3 + 101 ≤ 104 by omega))⟩)) hS (fun _ h => h) (fun _ _ _ _ _ h => False.elim h) (fun v H_10 locs hp hz hk_11 hS => ?_)
  obtain ⟨rfl, qr12, qa12, hqr12, hqa12, ⟨hq12, hr12, ha12, -, nqr12, nqa12, nra12, -⟩, hc12⟩ := hp
  have hA_qr12 : xA G qr12 := hC.2.2.1 _ (Nat.le_trans hsz hqr12)
  have ne_13 : p ≠ qr12 := xlt2 hp0 hqr12
  have ne_14 : r ≠ qr12 := xlt2 hr0 hqr12
  have ne_15 : a ≠ qr12 := xlt2 ha0 hqr12
  have ne_16 : q_1 ≠ qr12 := xlt2 ho_2 hqr12
  have hA_qa12 : xA G qa12 := hC.2.2.1 _ (Nat.le_trans hsz hqa12)
  have ne_17 : p ≠ qa12 := xlt2 hp0 hqa12
  have ne_18 : r ≠ qa12 := xlt2 hr0 hqa12
  have ne_19 : a ≠ qa12 := xlt2 ha0 hqa12
  have ne_20 : q_1 ≠ qa12 := xlt2 ho_2 hqa12
  have hp0 := hc12.at hp0 (xn1 ne_7)
  have hr0 := hc12.at hr0 (xn1 ne_8)
  have ha0 := hc12.at ha0 (xn1 ne_9)
  refine lv_astore_n (lv' := [(1, .ref q_1), (0, .ref p)]) hx hb dX0_copy_7 rfl hl (by decide) rfl (fun ls hl => ?_)
  refine lv_aload_n hx hb dX0_copy_8 rfl (lv_at hl 0 rfl) ?_
  refine lv_aload_n hx hb dX0_copy_9 rfl (lv_at hl 1 rfl) ?_
  refine lv_iconst (v := (nI 0)) hx hb dX0_copy_10 (by decide) ?_
  refine lv_aload_n hx hb dX0_copy_11 rfl (lv_at hl 1 rfl) ?_
  refine va_get (D := xD G) (ci := 1) (v := .int (nI n)) (C := RX0) (T := TX0) (N := 3) hx hb hts (by decide +kernel) hown hC.1 (x1 hp0) 0 rfl rfl 1 (by decide) (hts (.fieldLink RX0 20 "Bidwhistle$Program" "length" "I") (by decide +kernel)) (fun _ h9 => h9) rfl dX0_copy_12 ?_
  have hsz := hS.1
  refine x_call (px := xNo) (vx_runV (As := [.ref p, .int (nI 0), .int (nI n)]) (rest := []) ⟨hx, hb, hml, hown, hts⟩ (c_X0_addPart l hfl G q_1 qr12 qa12 0 p r a n 0 n (fun _ => 0) t H_10 ⟨hq12, hr12, ha12, by omega, nqr12, nqa12, nra12, fun _ => Nat.zero_le _⟩ ⟨hp0, hr0, ha0, hn, npr, npa, nra, ht⟩ hA_q_1 hA_qa12 ne_7 ne_17 ne_8 ne_18 ne_9 ne_19 (by omega) hn (by omega)) (cwV 3 hts gX0_copy_X0_addPart rfl rfl rfl (by decide +kernel) ⟨(Nat.le_of_ble_eq_true rfl), (Nat.le_of_ble_eq_true rfl)⟩) (xPreV hC hS hq12 (q := (RX0, TX0, 3)) rfl) rfl rfl hl.1 rfl (lv_room (Nat.le_of_ble_eq_true rfl)) dX0_copy_15 ⟨(by first | exact Nat.le_of_ble_eq_true rfl | exact (show 0 + 1 + 2 + 0 ≤ 3 by omega)), (by first | exact Nat.le_of_ble_eq_true rfl | exact (show 0 + 3 + 101 + 0 ≤ 104 by omega))⟩) hS (fun _ h => h) (fun _ _ _ _ _ h => False.elim h) (fun v H_21 locs hp hz hk_22 hS => ?_)
  obtain ⟨rfl, t', hpp, -, hl2, hcz⟩ := hp
  have hp0 := hcz.at hp0 (xn2 ne_7 ne_17)
  have hr0 := hcz.at hr0 (xn2 ne_8 ne_18)
  have ha0 := hcz.at ha0 (xn2 ne_9 ne_19)
  refine lv_aload_n hx hb dX0_copy_18 rfl (lv_at hl 0 rfl) ?_
  have _ := hc_3.1
  have _ := hc12.1
  have _ := hcz.1
  exact x_aret (G := G) hx hb hr (Or.inl ⟨_, rfl⟩) dX0_copy_19 hlocks hS (by first | exact Nat.le_of_ble_eq_true rfl | exact (show 0 + 1 + 2 ≤ 3 by omega)) (by first | exact Nat.le_of_ble_eq_true rfl | exact (show 0 + 3 + 101 ≤ 104 by omega)) ⟨q_1, qr12, qa12, t', by omega, by omega, by omega, rfl, by have h0 : 0 + (n - 0) = n := (by omega); rw [h0] at hpp; exact hpp, fun k hk => by have h9 := hl2 k (by omega); rw [Nat.zero_add] at h9; exact h9, ((hc_3.tr (hc12.tr hcz)).mono (fun q hq => by simp only [List.mem_append, List.mem_cons, List.not_mem_nil, or_false, false_or] at hq ⊢; omega))⟩

set_option maxHeartbeats 4000000 in
set_option maxRecDepth 100000 in
/-- Program.isSameAs -/
theorem c_X0_isSameAs (l : Launch) (hfl : l.stackTraces = false) (G : xG) (p r a n o ro ao n2 : Nat) (t u : Nat → Nat) (H : Heap) (hp : pA G p r a t n H) (ho : pA G o ro ao u n2 H) : xMet l G yX0_isSameAs wsX0_isSameAs ({ frames := 1, cells := 0, slots := 0, locals := 21 } : Room) [.ref p, .ref o] H (xi H (xb (decide (n = n2) && xsame (fun x y => decide (x = y)) t u n))) (xNo) := by
  refine vx_ofW (cc := cX0_isSameAs) (maxL := 3) (ret := (some .boolean)) (by decide) rfl ?_
  intro Pg Ev s m args below meth c s₁ B hml hout hv
  obtain ⟨rfl, hH, hC⟩ := hv
  have hx := B.exec
  have hb := B.bytes
  have hr := B.returns
  have hts := atoms_spec (ws := wsX0_isSameAs) B.pre
  have hown : s.vm.findClass RX0 = some m.cls := findClass_of_methodNamed B.named
  have hlocks := B.notSynchronized
  rw [hH]
  have hS : va_S (xA G) s.heap H [] := by rw [← hH]; exact va_S.rf
  generalize ([] : List Loc) = locs at hS ⊢
  have hl := lv_entry [.ref p, .ref o] (n := 3) (Nat.le_of_ble_eq_true rfl)
  rw [lg_entry_eq]
  generalize (lg_sl [.ref p, .ref o] ++ List.replicate (3 - (lg_sl [.ref p, .ref o]).length) Slot.unset).toArray = ls at hl ⊢
  have hl : lv_has ls 3 [(0, .ref p), (1, .ref o)] := hl
  obtain ⟨hp0, hr0, ha0, hn, npr, npa, nra, ht⟩ := hp
  obtain ⟨ho0, hro0, hao0, hn2, nor, noa, nroa, hu⟩ := ho
  refine lv_aload_n hx hb dX0_isSameAs_0 rfl (lv_at hl 0 rfl) ?_
  refine va_get (D := xD G) (ci := 1) (v := .int (nI n)) (C := RX0) (T := TX0) (N := 3) hx hb hts (by decide +kernel) hown hC.1 (x1 hp0) 0 rfl rfl 1 (by decide) (hts (.fieldLink RX0 20 "Bidwhistle$Program" "length" "I") (by decide +kernel)) (fun _ h9 => h9) rfl dX0_isSameAs_1 ?_
  refine lv_aload_n hx hb dX0_isSameAs_4 rfl (lv_at hl 1 rfl) ?_
  refine va_get (D := xD G) (ci := 1) (v := .int (nI n2)) (C := RX0) (T := TX0) (N := 3) hx hb hts (by decide +kernel) hown hC.1 (x1 ho0) 0 rfl rfl 1 (by decide) (hts (.fieldLink RX0 20 "Bidwhistle$Program" "length" "I") (by decide +kernel)) (fun _ h9 => h9) rfl dX0_isSameAs_5 ?_
  refine lv_icmp_eq (tgt := 13) hx hb dX0_isSameAs_8 (by decide) (fun c_1 => ?_) (fun c_1 => ?_)
  · have _ := hx
    have c_1 : n = n2 := (nI_eq (a := n) (b := n2) (by omega) (by omega)).mp c_1
    refine lv_iconst (v := (nI 0)) hx hb dX0_isSameAs_13 (by decide) ?_
    refine lv_istore_n (lv' := [(2, .int (nI 0)), (0, .ref p), (1, .ref o)]) hx hb dX0_isSameAs_14 rfl hl (by decide) rfl (fun ls hl => ?_)
    have L : ∀ (kL : Nat) (i : Nat), (i ≤ n) → (∀ k, k < i → t k = u k) → n - i < kL → ∀ (locs : List Loc), va_S (xA G) s.heap H locs → ∀ ls : Array Slot, lv_has ls 3 [(0, .ref p), (1, .ref o), (2, .int (nI i))] → W Pg l Ev (headSpec wsX0_isSameAs ({ frames := 1, cells := 0, slots := 0, locals := 21 } : Room)).room s m ([.ref p, .ref o] : List Value).toArray below meth c H locs (0) (0) (vx_MQ below (xQ G (xi H (xb (decide (n = n2) && xsame (fun x y => decide (x = y)) t u n)))) (xX G (xNo)) ([.ref p, .ref o] : List Value).toArray s ({ frames := 1, cells := 0, slots := 0, locals := 21 } : Room).cells ({ frames := 1, cells := 0, slots := 0, locals := 21 } : Room).slots (xA G)) (F0 m 15 ls []) := by
      intro kL
      induction kL with
      | zero => intro i hi hag hk; exact absurd hk (Nat.not_lt_zero _)
      | succ kL ihL =>
        intro i hi hag hk locs hS ls hl
        refine lv_iload_n hx hb dX0_isSameAs_15 rfl (lv_at hl 2 rfl) ?_
        refine lv_aload_n hx hb dX0_isSameAs_16 rfl (lv_at hl 0 rfl) ?_
        refine va_get (D := xD G) (ci := 1) (v := .int (nI n)) (C := RX0) (T := TX0) (N := 3) hx hb hts (by decide +kernel) hown hC.1 (x1 hp0) 0 rfl rfl 1 (by decide) (hts (.fieldLink RX0 20 "Bidwhistle$Program" "length" "I") (by decide +kernel)) (fun _ h9 => h9) rfl dX0_isSameAs_17 ?_
        refine lv_icmp_ge (tgt := 50) hx hb dX0_isSameAs_20 (by decide) (fun c_2 => ?_) (fun c_2 => ?_)
        · have _ := hx
          have c_2 : n ≤ i := (nI_leI (a := n) (b := i) (by omega) (by omega)).mp c_2
          refine lv_iconst (v := (nI 1)) hx hb dX0_isSameAs_50 (by decide) ?_
          exact x_iret (G := G) hx hb hr (by rfl) dX0_isSameAs_51 hlocks hS (by first | exact Nat.le_of_ble_eq_true rfl | exact (show 0 ≤ 0 by omega)) (by first | exact Nat.le_of_ble_eq_true rfl | exact (show 0 ≤ 0 by omega)) ⟨rfl, by rw [show xsame (fun x y => decide (x = y)) t u n = true from xsame_iff.mpr (fun k hk => by have := hag k (by omega); simpa using this), show decide (n = n2) = true from decide_eq_true (by omega)]; rfl⟩
        · have _ := hx
          have c_2 : ¬ (n ≤ i) := fun z => c_2 ((nI_leI (a := n) (b := i) (by omega) (by omega)).mpr z)
          refine lv_aload_n hx hb dX0_isSameAs_23 rfl (lv_at hl 0 rfl) ?_
          refine va_get (D := xD G) (ci := 1) (v := .ref r) (C := RX0) (T := TX0) (N := 3) hx hb hts (by decide +kernel) hown hC.1 (x1 hp0) 0 rfl rfl 0 (by decide) (hts (.fieldLink RX0 14 "Bidwhistle$Program" "steps" "LBidwhistle$Row;") (by decide +kernel)) (fun _ h9 => h9) rfl dX0_isSameAs_24 ?_
          refine lv_iload_n hx hb dX0_isSameAs_27 rfl (lv_at hl 2 rfl) ?_
          refine x_intE (vx_runV (As := [.int (nI i)]) (rest := []) ⟨hx, hb, hml, hown, hts⟩ (c_X1_at l hfl G r a 7 i (fun k => nI (t k)) H hr0 ha0 (by omega) (by decide)) (cwV 1 hts gX0_isSameAs_X1_at rfl rfl rfl (by decide +kernel) ⟨(Nat.le_of_ble_eq_true rfl), (Nat.le_of_ble_eq_true rfl)⟩) (xPreV hC hS hr0 (q := (RX1, TX1, 1)) rfl) rfl rfl hl.1 rfl (lv_room (Nat.le_of_ble_eq_true rfl)) dX0_isSameAs_28 ⟨(by first | exact Nat.le_of_ble_eq_true rfl | exact (show 0 + 0 ≤ 0 by omega)), (by first | exact Nat.le_of_ble_eq_true rfl | exact (show 0 + 0 ≤ 0 by omega))⟩) hS (fun locs hS => ?_)
          refine lv_aload_n hx hb dX0_isSameAs_31 rfl (lv_at hl 1 rfl) ?_
          refine va_get (D := xD G) (ci := 1) (v := .ref ro) (C := RX0) (T := TX0) (N := 3) hx hb hts (by decide +kernel) hown hC.1 (x1 ho0) 0 rfl rfl 0 (by decide) (hts (.fieldLink RX0 14 "Bidwhistle$Program" "steps" "LBidwhistle$Row;") (by decide +kernel)) (fun _ h9 => h9) rfl dX0_isSameAs_32 ?_
          refine lv_iload_n hx hb dX0_isSameAs_35 rfl (lv_at hl 2 rfl) ?_
          refine x_intE (vx_runV (As := [.int (nI i)]) (rest := [.int (nI (t i))]) ⟨hx, hb, hml, hown, hts⟩ (c_X1_at l hfl G ro ao 7 i (fun k => nI (u k)) H hro0 hao0 (by omega) (by decide)) (cwV 1 hts gX0_isSameAs_X1_at rfl rfl rfl (by decide +kernel) ⟨(Nat.le_of_ble_eq_true rfl), (Nat.le_of_ble_eq_true rfl)⟩) (xPreV hC hS hro0 (q := (RX1, TX1, 1)) rfl) rfl rfl hl.1 rfl (lv_room (Nat.le_of_ble_eq_true rfl)) dX0_isSameAs_36 ⟨(by first | exact Nat.le_of_ble_eq_true rfl | exact (show 0 + 0 ≤ 0 by omega)), (by first | exact Nat.le_of_ble_eq_true rfl | exact (show 0 + 0 ≤ 0 by omega))⟩) hS (fun locs hS => ?_)
          refine lv_icmp_eq (tgt := 44) hx hb dX0_isSameAs_39 (by decide) (fun c_3 => ?_) (fun c_3 => ?_)
          · have _ := hx
            have c_3 : (t i) = (u i) := (nI_eq (a := (t i)) (b := (u i)) (by first | omega | (have hti := ht i; have hui := hu i; omega)) (by first | omega | (have hti := ht i; have hui := hu i; omega))).mp c_3
            refine lv_iinc (v := (nI (i + 1))) (lv' := [(2, .int (nI (i + 1))), (0, .ref p), (1, .ref o)]) hx hb dX0_isSameAs_44 hl (k := 2) rfl (xinc (by decide)) (by decide) rfl (fun ls hl => ?_)
            refine lv_goto (tgt := 15) hx hb dX0_isSameAs_47 (by decide) ?_
            exact ihL (i + 1) (by omega) (fun k hk => by rcases Nat.lt_or_ge k i with z | z; exact hag k z; rw [show k = i by omega]; exact c_3) (by omega) _ hS ls (lv_sub hl [1, 2, 0] rfl)
          · have _ := hx
            have c_3 : ¬ ((t i) = (u i)) := fun z => c_3 ((nI_eq (a := (t i)) (b := (u i)) (by first | omega | (have hti := ht i; have hui := hu i; omega)) (by first | omega | (have hti := ht i; have hui := hu i; omega))).mpr z)
            refine lv_iconst (v := (nI 0)) hx hb dX0_isSameAs_42 (by decide) ?_
            exact x_iret (G := G) hx hb hr (by rfl) dX0_isSameAs_43 hlocks hS (by first | exact Nat.le_of_ble_eq_true rfl | exact (show 0 ≤ 0 by omega)) (by first | exact Nat.le_of_ble_eq_true rfl | exact (show 0 ≤ 0 by omega)) ⟨rfl, by rw [show xsame (fun x y => decide (x = y)) t u n = false from Bool.eq_false_iff.mpr (fun z => c_3 (by have := xsame_iff.mp z i (by omega); simpa using this)), Bool.and_false]; rfl⟩
    exact L _ (0) (Nat.zero_le _) (fun k hk => absurd hk (Nat.not_lt_zero k)) (Nat.lt_succ_self _) _ hS ls (lv_sub hl [1, 2, 0] rfl)
  · have _ := hx
    have c_1 : ¬ (n = n2) := fun z => c_1 ((nI_eq (a := n) (b := n2) (by omega) (by omega)).mpr z)
    refine lv_iconst (v := (nI 0)) hx hb dX0_isSameAs_11 (by decide) ?_
    exact x_iret (G := G) hx hb hr (by rfl) dX0_isSameAs_12 hlocks hS (by first | exact Nat.le_of_ble_eq_true rfl | exact (show 0 ≤ 0 by omega)) (by first | exact Nat.le_of_ble_eq_true rfl | exact (show 0 ≤ 0 by omega)) ⟨rfl, by rw [show decide (n = n2) = false from decide_eq_false (by omega)]; rfl⟩

set_option maxHeartbeats 4000000 in
set_option maxRecDepth 100000 in
/-- Program.hasAnyOf(bits) -/
theorem c_X0_hasAnyOf (l : Launch) (hfl : l.stackTraces = false) (G : xG) (p r a n : Nat) (t : Nat → Nat) (b9 : Int32) (H : Heap) (hp : pA G p r a t n H) : xMet l G yX0_hasAnyOf wsX0_hasAnyOf ({ frames := 0, cells := 0, slots := 0, locals := 0 } : Room) [.ref p, .int b9] H (xi H (xb (decide (¬ (xbits t n &&& b9) = 0)))) (xNo) := by
  refine vx_ofW (cc := cX0_hasAnyOf) (maxL := 2) (ret := (some .boolean)) (by decide) rfl ?_
  intro Pg Ev s m args below meth c s₁ B hml hout hv
  obtain ⟨rfl, hH, hC⟩ := hv
  have hx := B.exec
  have hb := B.bytes
  have hr := B.returns
  have hts := atoms_spec (ws := wsX0_hasAnyOf) B.pre
  have hown : s.vm.findClass RX0 = some m.cls := findClass_of_methodNamed B.named
  have hlocks := B.notSynchronized
  rw [hH]
  have hS : va_S (xA G) s.heap H [] := by rw [← hH]; exact va_S.rf
  generalize ([] : List Loc) = locs at hS ⊢
  have hl := lv_entry [.ref p, .int b9] (n := 2) (Nat.le_of_ble_eq_true rfl)
  rw [lg_entry_eq]
  generalize (lg_sl [.ref p, .int b9] ++ List.replicate (2 - (lg_sl [.ref p, .int b9]).length) Slot.unset).toArray = ls at hl ⊢
  have hl : lv_has ls 2 [(0, .ref p), (1, .int b9)] := hl
  obtain ⟨hp0, hr0, ha0, hn, npr, npa, nra, ht⟩ := hp
  refine lv_aload_n hx hb dX0_hasAnyOf_0 rfl (lv_at hl 0 rfl) ?_
  refine va_get (D := xD G) (ci := 1) (v := .int (xbits t n)) (C := RX0) (T := TX0) (N := 3) hx hb hts (by decide +kernel) hown hC.1 (x1 hp0) 0 rfl rfl 2 (by decide) (hts (.fieldLink RX0 24 "Bidwhistle$Program" "stepBits" "I") (by decide +kernel)) (fun _ h9 => h9) rfl dX0_hasAnyOf_1 ?_
  refine lv_iload_n hx hb dX0_hasAnyOf_4 rfl (lv_at hl 1 rfl) ?_
  refine lv_iand hx hb dX0_hasAnyOf_5 ?_
  refine lv_if_eq (tgt := 13) hx hb dX0_hasAnyOf_6 (by decide) (fun c_1 => ?_) (fun c_1 => ?_)
  · have _ := hx
    refine lv_iconst (v := (nI 0)) hx hb dX0_hasAnyOf_13 (by decide) ?_
    exact x_iret (G := G) hx hb hr (by rfl) dX0_hasAnyOf_14 hlocks hS (by first | exact Nat.le_of_ble_eq_true rfl | exact (show 0 ≤ 0 by omega)) (by first | exact Nat.le_of_ble_eq_true rfl | exact (show 0 ≤ 0 by omega)) ⟨rfl, by rw [show decide (¬ (xbits t n &&& b9) = 0) = false from decide_eq_false (fun z => z c_1)]; rfl⟩
  · have _ := hx
    refine lv_iconst (v := (nI 1)) hx hb dX0_hasAnyOf_9 (by decide) ?_
    refine lv_goto (tgt := 14) hx hb dX0_hasAnyOf_10 (by decide) ?_
    exact x_iret (G := G) hx hb hr (by rfl) dX0_hasAnyOf_14 hlocks hS (by first | exact Nat.le_of_ble_eq_true rfl | exact (show 0 ≤ 0 by omega)) (by first | exact Nat.le_of_ble_eq_true rfl | exact (show 0 ≤ 0 by omega)) ⟨rfl, by rw [show decide (¬ (xbits t n &&& b9) = 0) = true from decide_eq_true c_1]; rfl⟩

set_option maxHeartbeats 4000000 in
set_option maxRecDepth 100000 in
/-- Program.isRight() -/
theorem c_X0_isRight (l : Launch) (hfl : l.stackTraces = false) (G : xG) (p r a n : Nat) (t : Nat → Nat) (H : Heap) (hp : pA G p r a t n H) : xMet l G yX0_isRight wsX0_isRight ({ frames := 1, cells := 0, slots := 0, locals := 21 } : Room) [.ref p] H (xi H (xb (xright t n))) (xNo) := by
  refine vx_ofW (cc := cX0_isRight) (maxL := 3) (ret := (some .boolean)) (by decide) rfl ?_
  intro Pg Ev s m args below meth c s₁ B hml hout hv
  obtain ⟨rfl, hH, hC⟩ := hv
  have hx := B.exec
  have hb := B.bytes
  have hr := B.returns
  have hts := atoms_spec (ws := wsX0_isRight) B.pre
  have hown : s.vm.findClass RX0 = some m.cls := findClass_of_methodNamed B.named
  have hlocks := B.notSynchronized
  rw [hH]
  have hS : va_S (xA G) s.heap H [] := by rw [← hH]; exact va_S.rf
  generalize ([] : List Loc) = locs at hS ⊢
  have hl := lv_entry [.ref p] (n := 3) (Nat.le_of_ble_eq_true rfl)
  rw [lg_entry_eq]
  generalize (lg_sl [.ref p] ++ List.replicate (3 - (lg_sl [.ref p]).length) Slot.unset).toArray = ls at hl ⊢
  have hl : lv_has ls 3 [(0, .ref p)] := hl
  obtain ⟨hp0, hr0, ha0, hn, npr, npa, nra, ht⟩ := hp
  refine lv_iconst (v := (nI 0)) hx hb dX0_isRight_0 (by decide) ?_
  refine lv_istore_n (lv' := [(1, .int (nI 0)), (0, .ref p)]) hx hb dX0_isRight_1 rfl hl (by decide) rfl (fun ls hl => ?_)
  refine lv_iconst (v := (nI 0)) hx hb dX0_isRight_2 (by decide) ?_
  refine lv_istore_n (lv' := [(2, .int (nI 0)), (1, .int (nI 0)), (0, .ref p)]) hx hb dX0_isRight_3 rfl hl (by decide) rfl (fun ls hl => ?_)
  have L : ∀ (kL : Nat) (i : Nat) (d : Nat), (i ≤ n) → (xdep t i = some d) → n - i < kL → ∀ (locs : List Loc), va_S (xA G) s.heap H locs → ∀ ls : Array Slot, lv_has ls 3 [(0, .ref p), (1, .int (nI d)), (2, .int (nI i))] → W Pg l Ev (headSpec wsX0_isRight ({ frames := 1, cells := 0, slots := 0, locals := 21 } : Room)).room s m ([.ref p] : List Value).toArray below meth c H locs (0) (0) (vx_MQ below (xQ G (xi H (xb (xright t n)))) (xX G (xNo)) ([.ref p] : List Value).toArray s ({ frames := 1, cells := 0, slots := 0, locals := 21 } : Room).cells ({ frames := 1, cells := 0, slots := 0, locals := 21 } : Room).slots (xA G)) (F0 m 4 ls []) := by
    intro kL
    induction kL with
    | zero => intro i d hi hd hk; exact absurd hk (Nat.not_lt_zero _)
    | succ kL ihL =>
      intro i d hi hd hk locs hS ls hl
      refine lv_iload_n hx hb dX0_isRight_4 rfl (lv_at hl 2 rfl) ?_
      refine lv_aload_n hx hb dX0_isRight_5 rfl (lv_at hl 0 rfl) ?_
      refine va_get (D := xD G) (ci := 1) (v := .int (nI n)) (C := RX0) (T := TX0) (N := 3) hx hb hts (by decide +kernel) hown hC.1 (x1 hp0) 0 rfl rfl 1 (by decide) (hts (.fieldLink RX0 20 "Bidwhistle$Program" "length" "I") (by decide +kernel)) (fun _ h9 => h9) rfl dX0_isRight_6 ?_
      refine lv_icmp_ge (tgt := 47) hx hb dX0_isRight_9 (by decide) (fun c_1 => ?_) (fun c_1 => ?_)
      · have _ := hx
        have c_1 : n ≤ i := (nI_leI (a := n) (b := i) (by omega) (by omega)).mp c_1
        refine lv_iload_n hx hb dX0_isRight_47 rfl (lv_at hl 1 rfl) ?_
        refine lv_iconst (v := (nI 1)) hx hb dX0_isRight_48 (by decide) ?_
        refine lv_icmp_ne (tgt := 56) hx hb dX0_isRight_49 (by decide) (fun c_2 => ?_) (fun c_2 => ?_)
        · have _ := hx
          have c_2 : ¬ (d = 1) := fun z => c_2 ((nI_eq (a := d) (b := 1) (by first | omega | (have hdi := xdep_le hd; omega)) (by first | omega | (have hdi := xdep_le hd; omega))).mpr z)
          refine lv_iconst (v := (nI 0)) hx hb dX0_isRight_56 (by decide) ?_
          exact x_iret (G := G) hx hb hr (by rfl) dX0_isRight_57 hlocks hS (by first | exact Nat.le_of_ble_eq_true rfl | exact (show 0 ≤ 0 by omega)) (by first | exact Nat.le_of_ble_eq_true rfl | exact (show 0 ≤ 0 by omega)) ⟨rfl, by rw [xright_is (show xdep t n = some d by rw [show n = i by omega]; exact hd), show decide (d = 1) = false from decide_eq_false (by omega)]; rfl⟩
        · have _ := hx
          have c_2 : d = 1 := (nI_eq (a := d) (b := 1) (by first | omega | (have hdi := xdep_le hd; omega)) (by first | omega | (have hdi := xdep_le hd; omega))).mp c_2
          refine lv_iconst (v := (nI 1)) hx hb dX0_isRight_52 (by decide) ?_
          refine lv_goto (tgt := 57) hx hb dX0_isRight_53 (by decide) ?_
          exact x_iret (G := G) hx hb hr (by rfl) dX0_isRight_57 hlocks hS (by first | exact Nat.le_of_ble_eq_true rfl | exact (show 0 ≤ 0 by omega)) (by first | exact Nat.le_of_ble_eq_true rfl | exact (show 0 ≤ 0 by omega)) ⟨rfl, by rw [xright_is (show xdep t n = some d by rw [show n = i by omega]; exact hd), show decide (d = 1) = true from decide_eq_true (by omega)]; rfl⟩
      · have _ := hx
        have c_1 : ¬ (n ≤ i) := fun z => c_1 ((nI_leI (a := n) (b := i) (by omega) (by omega)).mpr z)
        refine lv_aload_n hx hb dX0_isRight_12 rfl (lv_at hl 0 rfl) ?_
        refine va_get (D := xD G) (ci := 1) (v := .ref r) (C := RX0) (T := TX0) (N := 3) hx hb hts (by decide +kernel) hown hC.1 (x1 hp0) 0 rfl rfl 0 (by decide) (hts (.fieldLink RX0 14 "Bidwhistle$Program" "steps" "LBidwhistle$Row;") (by decide +kernel)) (fun _ h9 => h9) rfl dX0_isRight_13 ?_
        refine lv_iload_n hx hb dX0_isRight_16 rfl (lv_at hl 2 rfl) ?_
        refine x_intE (vx_runV (As := [.int (nI i)]) (rest := []) ⟨hx, hb, hml, hown, hts⟩ (c_X1_at l hfl G r a 7 i (fun k => nI (t k)) H hr0 ha0 (by omega) (by decide)) (cwV 1 hts gX0_isRight_X1_at rfl rfl rfl (by decide +kernel) ⟨(Nat.le_of_ble_eq_true rfl), (Nat.le_of_ble_eq_true rfl)⟩) (xPreV hC hS hr0 (q := (RX1, TX1, 1)) rfl) rfl rfl hl.1 rfl (lv_room (Nat.le_of_ble_eq_true rfl)) dX0_isRight_17 ⟨(by first | exact Nat.le_of_ble_eq_true rfl | exact (show 0 + 0 ≤ 0 by omega)), (by first | exact Nat.le_of_ble_eq_true rfl | exact (show 0 + 0 ≤ 0 by omega))⟩) hS (fun locs hS => ?_)
        refine lv_bipush (v := (nI 10)) hx hb dX0_isRight_20 (by decide) ?_
        refine lv_icmp_gt (tgt := 31) hx hb dX0_isRight_22 (by decide) (fun c_3 => ?_) (fun c_3 => ?_)
        · have _ := hx
          have c_3 : 10 < (t i) := (nI_ltI (a := 10) (b := (t i)) (by first | omega | (have hti := ht i; omega)) (by first | omega | (have hti := ht i; omega))).mp c_3
          refine lv_iload_n hx hb dX0_isRight_31 rfl (lv_at hl 1 rfl) ?_
          refine lv_iconst (v := (nI 2)) hx hb dX0_isRight_32 (by decide) ?_
          refine lv_icmp_ge (tgt := 38) hx hb dX0_isRight_33 (by decide) (fun c_4 => ?_) (fun c_4 => ?_)
          · have _ := hx
            have c_4 : 2 ≤ d := (nI_leI (a := 2) (b := d) (by first | omega | (have hdi := xdep_le hd; omega)) (by first | omega | (have hdi := xdep_le hd; omega))).mp c_4
            refine lv_iinc (v := (nI (d - 1))) (lv' := [(1, .int (nI (d - 1))), (0, .ref p), (2, .int (nI i))]) hx hb dX0_isRight_38 hl (k := 1) rfl (xdec (by omega)) (by decide) rfl (fun ls hl => ?_)
            refine lv_iinc (v := (nI (i + 1))) (lv' := [(2, .int (nI (i + 1))), (1, .int (nI (d - 1))), (0, .ref p)]) hx hb dX0_isRight_41 hl (k := 2) rfl (xinc (by decide)) (by decide) rfl (fun ls hl => ?_)
            refine lv_goto (tgt := 4) hx hb dX0_isRight_44 (by decide) ?_
            exact ihL (i + 1) ((d - 1)) (by omega) (xdep_op hd (by omega) (by omega)) (by omega) _ hS ls (lv_sub hl [2, 1, 0] rfl)
          · have _ := hx
            have c_4 : ¬ (2 ≤ d) := fun z => c_4 ((nI_leI (a := 2) (b := d) (by first | omega | (have hdi := xdep_le hd; omega)) (by first | omega | (have hdi := xdep_le hd; omega))).mpr z)
            refine lv_iconst (v := (nI 0)) hx hb dX0_isRight_36 (by decide) ?_
            exact x_iret (G := G) hx hb hr (by rfl) dX0_isRight_37 hlocks hS (by first | exact Nat.le_of_ble_eq_true rfl | exact (show 0 ≤ 0 by omega)) (by first | exact Nat.le_of_ble_eq_true rfl | exact (show 0 ≤ 0 by omega)) ⟨rfl, by rw [xright_bad hd (by omega) (by omega) (show i < n by omega)]; rfl⟩
        · have _ := hx
          have c_3 : ¬ (10 < (t i)) := fun z => c_3 ((nI_ltI (a := 10) (b := (t i)) (by first | omega | (have hti := ht i; omega)) (by first | omega | (have hti := ht i; omega))).mpr z)
          refine lv_iinc (v := (nI (d + 1))) (lv' := [(1, .int (nI (d + 1))), (0, .ref p), (2, .int (nI i))]) hx hb dX0_isRight_25 hl (k := 1) rfl (xinc (by decide)) (by decide) rfl (fun ls hl => ?_)
          refine lv_goto (tgt := 41) hx hb dX0_isRight_28 (by decide) ?_
          refine lv_iinc (v := (nI (i + 1))) (lv' := [(2, .int (nI (i + 1))), (1, .int (nI (d + 1))), (0, .ref p)]) hx hb dX0_isRight_41 hl (k := 2) rfl (xinc (by decide)) (by decide) rfl (fun ls hl => ?_)
          refine lv_goto (tgt := 4) hx hb dX0_isRight_44 (by decide) ?_
          exact ihL (i + 1) ((d + 1)) (by omega) (xdep_put hd (by omega)) (by omega) _ hS ls (lv_sub hl [2, 1, 0] rfl)
  exact L _ (0) (0) (Nat.zero_le _) (rfl) (Nat.lt_succ_self _) _ hS ls (lv_sub hl [2, 1, 0] rfl)

theorem xbdl {z : Int} (h1 : -100000 ≤ z) (h2 : z ≤ 100000) : (if nI 0 < (if Int32.ofInt z < nI 999 then Int32.ofInt z else nI 999) then (if Int32.ofInt z < nI 999 then Int32.ofInt z else nI 999) else nI 0) = Int32.ofInt (xbd z) := by
  have e := xi_toInt (z := z) (by omega) (by omega)
  have k1 : Int32.ofInt z < nI 999 ↔ z < 999 := by rw [Int32.lt_iff_toInt_lt, e]; exact Iff.rfl
  have k2 : nI 0 < Int32.ofInt z ↔ 0 < z := by rw [Int32.lt_iff_toInt_lt, e]; exact Iff.rfl
  unfold xbd
  by_cases c : z < 999
  · rw [if_pos (k1.mpr c)]
    by_cases c2 : 0 < z
    · rw [if_pos (k2.mpr c2), if_neg (by omega), if_neg (by omega)]
    · rw [if_neg (fun q => c2 (k2.mp q))]
      by_cases c3 : z < 0
      · rw [if_pos c3]; rfl
      · rw [if_neg c3, if_neg (by omega), show z = 0 by omega]; rfl
  · rw [if_neg (fun q => c (k1.mp q)), if_pos (by decide), if_neg (by omega)]
    by_cases c3 : 999 < z
    · rw [if_pos c3]; rfl
    · rw [if_neg c3, show z = 999 by omega]; rfl

set_option maxHeartbeats 4000000 in
set_option maxRecDepth 100000 in
/-- Program.bidFor(value, stack) -/
theorem c_X0_bidFor (l : Launch) (hfl : l.stackTraces = false) (G : xG) (p r a n k kr ka d v9 : Nat) (t : Nat → Nat) (g : Nat → Int) (H : Heap) (hp : pA G p r a t n H) (hs : sA G k kr ka g d H) (hA_k : xA G k) (hA_ka : xA G ka) (n_p_k : p ≠ k) (n_p_ka : p ≠ ka) (n_r_k : r ≠ k) (n_r_ka : r ≠ ka) (n_a_k : a ≠ k) (n_a_ka : a ≠ ka) (hri : xright t n = true) (hv9 : v9 ≤ 99) : xMet l G yX0_bidFor wsX0_bidFor ({ frames := 3, cells := 0, slots := 0, locals := 80 } : Room) [.ref p, .int (nI v9), .ref k] H (fun v H1 => v = some (.int (Int32.ofInt (xbid t n v9))) ∧ (∃ g' d', sA G k kr ka g' d' H1) ∧ xC [k, ka] H H1) (xNo) := by
  refine vx_ofW (cc := cX0_bidFor) (maxL := 4) (ret := (some .int)) (by decide) rfl ?_
  intro Pg Ev s m args below meth c s₁ B hml hout hv
  obtain ⟨rfl, hH, hC⟩ := hv
  have hx := B.exec
  have hb := B.bytes
  have hr := B.returns
  have hts := atoms_spec (ws := wsX0_bidFor) B.pre
  have hown : s.vm.findClass RX0 = some m.cls := findClass_of_methodNamed B.named
  have hlocks := B.notSynchronized
  rw [hH]
  have hS : va_S (xA G) s.heap H [] := by rw [← hH]; exact va_S.rf
  generalize ([] : List Loc) = locs at hS ⊢
  have hl := lv_entry [.ref p, .int (nI v9), .ref k] (n := 4) (Nat.le_of_ble_eq_true rfl)
  rw [lg_entry_eq]
  generalize (lg_sl [.ref p, .int (nI v9), .ref k] ++ List.replicate (4 - (lg_sl [.ref p, .int (nI v9), .ref k]).length) Slot.unset).toArray = ls at hl ⊢
  have hl : lv_has ls 4 [(0, .ref p), (1, .int (nI v9)), (2, .ref k)] := hl
  obtain ⟨hp0, hr0, ha0, hn, npr, npa, nra, ht⟩ := hp
  obtain ⟨hk0, hkr0, hka0, hd7, nkr, nka, nkra⟩ := hs
  refine lv_aload_n hx hb dX0_bidFor_0 rfl (lv_at hl 2 rfl) ?_
  have hsz := hS.1
  refine x_call (px := xNo) (vx_runV (As := []) (rest := []) ⟨hx, hb, hml, hown, hts⟩ (c_X2_empty l hfl G k kr ka g d H ⟨hk0, hkr0, hka0, by omega, nkr, nka, nkra⟩ hA_k) (cwV 0 hts gX0_bidFor_X2_empty rfl rfl rfl (by decide +kernel) ⟨(Nat.le_of_ble_eq_true rfl), (Nat.le_of_ble_eq_true rfl)⟩) (xPreV hC hS hk0 (q := (RX2, TX2, 2)) rfl) rfl rfl hl.1 rfl (lv_room (Nat.le_of_ble_eq_true rfl)) dX0_bidFor_1 ⟨(by first | exact Nat.le_of_ble_eq_true rfl | exact (show 0 + 0 ≤ 0 by omega)), (by first | exact Nat.le_of_ble_eq_true rfl | exact (show 0 + 0 ≤ 0 by omega))⟩) hS (fun _ h => h) (fun _ _ _ _ _ h => False.elim h) (fun v H_1 locs hp hz hk_2 hS => ?_)
  obtain ⟨rfl, ⟨hk3, hkr3, hka3, hkn3, -, -, -⟩, hc3⟩ := hp
  have hp0 := hc3.at hp0 (xn1 n_p_k)
  have hr0 := hc3.at hr0 (xn1 n_r_k)
  have ha0 := hc3.at ha0 (xn1 n_a_k)
  refine lv_iconst (v := (nI 0)) hx hb dX0_bidFor_4 (by decide) ?_
  refine lv_istore_n (lv' := [(3, .int (nI 0)), (0, .ref p), (1, .int (nI v9)), (2, .ref k)]) hx hb dX0_bidFor_5 rfl hl (by decide) rfl (fun ls hl => ?_)
  have L : ∀ (kL : Nat) (i : Nat), (i ≤ n) → n - i < kL → ∀ (HL : Heap), (oA G p 1 [.ref r, .int (nI n), .int (xbits t n)] HL) → (oA G r 2 [.ref a] HL) → (iA G a 7 (fun k => nI (t k)) HL) → (oA G k 3 [.ref kr, (.int (nI (xrun t v9 g i).2))] HL) → (oA G kr 2 [.ref ka] HL) → (iA G ka 7 (fun j => Int32.ofInt ((xrun t v9 g i).1 j)) HL) → (xC [k, ka] H HL) → ∀ (locs : List Loc), va_S (xA G) s.heap HL locs → ∀ ls : Array Slot, lv_has ls 4 [(0, .ref p), (1, .int (nI v9)), (2, .ref k), (3, .int (nI i))] → W Pg l Ev (headSpec wsX0_bidFor ({ frames := 3, cells := 0, slots := 0, locals := 80 } : Room)).room s m ([.ref p, .int (nI v9), .ref k] : List Value).toArray below meth c HL locs (0) (0) (vx_MQ below (xQ G (fun v H1 => v = some (.int (Int32.ofInt (xbid t n v9))) ∧ (∃ g' d', sA G k kr ka g' d' H1) ∧ xC [k, ka] H H1)) (xX G (xNo)) ([.ref p, .int (nI v9), .ref k] : List Value).toArray s ({ frames := 3, cells := 0, slots := 0, locals := 80 } : Room).cells ({ frames := 3, cells := 0, slots := 0, locals := 80 } : Room).slots (xA G)) (F0 m 6 ls []) := by
    intro kL
    induction kL with
    | zero => intro i hi hk; exact absurd hk (Nat.not_lt_zero _)
    | succ kL ihL =>
      intro i hi hk HL hp0 hr0 ha0 hk0 hkr0 hka0 hcc locs hS ls hl
      refine lv_iload_n hx hb dX0_bidFor_6 rfl (lv_at hl 3 rfl) ?_
      refine lv_aload_n hx hb dX0_bidFor_7 rfl (lv_at hl 0 rfl) ?_
      refine va_get (D := xD G) (ci := 1) (v := .int (nI n)) (C := RX0) (T := TX0) (N := 3) hx hb hts (by decide +kernel) hown hC.1 (x1 hp0) 0 rfl rfl 1 (by decide) (hts (.fieldLink RX0 20 "Bidwhistle$Program" "length" "I") (by decide +kernel)) (fun _ h9 => h9) rfl dX0_bidFor_8 ?_
      refine lv_icmp_ge (tgt := 33) hx hb dX0_bidFor_11 (by decide) (fun c_4 => ?_) (fun c_4 => ?_)
      · have _ := hx
        have c_4 : n ≤ i := (nI_leI (a := n) (b := i) (by omega) (by omega)).mp c_4
        refine lv_iconst (v := (nI 0)) hx hb dX0_bidFor_33 (by decide) ?_
        refine lv_sipush (v := (nI 999)) hx hb dX0_bidFor_34 (by decide) ?_
        refine lv_aload_n hx hb dX0_bidFor_37 rfl (lv_at hl 2 rfl) ?_
        have e0 : i = n := by omega
        subst e0
        have hd1 := xrun_2 (v := v9) (g := g) (xright_1 hri)
        have hz9 := xrun_in (g := g) hv9 (xright_1 hri) 0 (by omega)
        rw [hd1] at hk0
        have hsz := hS.1
        refine x_call (px := xNo) (vx_runV (As := []) (rest := [.int (nI 999), .int (nI 0)]) ⟨hx, hb, hml, hown, hts⟩ (c_X2_pop l hfl G k kr ka (xrun t v9 g i).1 1 HL ⟨hk0, hkr0, hka0, by omega, nkr, nka, nkra⟩ hA_k (by omega)) (cwV 0 hts gX0_bidFor_X2_pop rfl rfl rfl (by decide +kernel) ⟨(Nat.le_of_ble_eq_true rfl), (Nat.le_of_ble_eq_true rfl)⟩) (xPreV hC hS hk0 (q := (RX2, TX2, 2)) rfl) rfl rfl hl.1 rfl (lv_room (Nat.le_of_ble_eq_true rfl)) dX0_bidFor_38 ⟨(by first | exact Nat.le_of_ble_eq_true rfl | exact (show 0 + 0 ≤ 0 by omega)), (by first | exact Nat.le_of_ble_eq_true rfl | exact (show 0 + 0 ≤ 0 by omega))⟩) hS (fun _ h => h) (fun _ _ _ _ _ h => False.elim h) (fun v H_5 locs hp hz hk_6 hS => ?_)
        obtain ⟨rfl, ⟨hk7, hkr7, hka7, hkn7, -, -, -⟩, hc7⟩ := hp
        have hp0 := hc7.at hp0 (xn1 n_p_k)
        have hr0 := hc7.at hr0 (xn1 n_r_k)
        have ha0 := hc7.at ha0 (xn1 n_a_k)
        refine va_mmin hx hb (by rw [hml]; exact hl.1.symm) hown (hts (.methodLink RX0 59 Lib.Math.min.name) (by decide +kernel)) (hts (.static Lib.Math.min.name) (by decide +kernel)) (hts (.initialized "java/lang/Math") (by decide +kernel)) (hts (.code Lib.Math.min.name Lib.Math.min.code 2 (some .int)) (by decide +kernel)) (Nat.le_of_ble_eq_true rfl) (Nat.le_of_ble_eq_true rfl) (by first | exact Nat.le_of_ble_eq_true rfl | omega) (by first | exact Nat.le_of_ble_eq_true rfl | omega) dX0_bidFor_41 ?_
        refine va_mmax hx hb (by rw [hml]; exact hl.1.symm) hown (hts (.methodLink RX0 65 Lib.Math.max.name) (by decide +kernel)) (hts (.static Lib.Math.max.name) (by decide +kernel)) (hts (.initialized "java/lang/Math") (by decide +kernel)) (hts (.code Lib.Math.max.name Lib.Math.max.code 2 (some .int)) (by decide +kernel)) (Nat.le_of_ble_eq_true rfl) (Nat.le_of_ble_eq_true rfl) (by first | exact Nat.le_of_ble_eq_true rfl | omega) (by first | exact Nat.le_of_ble_eq_true rfl | omega) dX0_bidFor_44 ?_
        have _ := hcc.1
        have _ := hc7.1
        exact x_iret (G := G) hx hb hr rfl dX0_bidFor_47 hlocks hS (by first | exact Nat.le_of_ble_eq_true rfl | exact (show 0 ≤ 0 by omega)) (by first | exact Nat.le_of_ble_eq_true rfl | exact (show 0 ≤ 0 by omega)) ⟨by rw [← xbid_g g hri, ← xbdl hz9.1 hz9.2], ⟨_, _, ⟨hk7, hkr7, hka7, by omega, nkr, nka, nkra⟩⟩, ((hcc.tr hc7).mono (fun q hq => by simp only [List.mem_append, List.mem_cons, List.not_mem_nil, or_false, false_or] at hq ⊢; omega))⟩
      · have _ := hx
        have c_4 : ¬ (n ≤ i) := fun z => c_4 ((nI_leI (a := n) (b := i) (by omega) (by omega)).mpr z)
        refine lv_aload_n hx hb dX0_bidFor_14 rfl (lv_at hl 0 rfl) ?_
        refine va_get (D := xD G) (ci := 1) (v := .ref r) (C := RX0) (T := TX0) (N := 3) hx hb hts (by decide +kernel) hown hC.1 (x1 hp0) 0 rfl rfl 0 (by decide) (hts (.fieldLink RX0 14 "Bidwhistle$Program" "steps" "LBidwhistle$Row;") (by decide +kernel)) (fun _ h9 => h9) rfl dX0_bidFor_15 ?_
        refine lv_iload_n hx hb dX0_bidFor_18 rfl (lv_at hl 3 rfl) ?_
        refine x_intE (vx_runV (As := [.int (nI i)]) (rest := []) ⟨hx, hb, hml, hown, hts⟩ (c_X1_at l hfl G r a 7 i (fun k => nI (t k)) HL hr0 ha0 (by omega) (by decide)) (cwV 1 hts gX0_bidFor_X1_at rfl rfl rfl (by decide +kernel) ⟨(Nat.le_of_ble_eq_true rfl), (Nat.le_of_ble_eq_true rfl)⟩) (xPreV hC hS hr0 (q := (RX1, TX1, 1)) rfl) rfl rfl hl.1 rfl (lv_room (Nat.le_of_ble_eq_true rfl)) dX0_bidFor_19 ⟨(by first | exact Nat.le_of_ble_eq_true rfl | exact (show 0 + 0 ≤ 0 by omega)), (by first | exact Nat.le_of_ble_eq_true rfl | exact (show 0 + 0 ≤ 0 by omega))⟩) hS (fun locs hS => ?_)
        refine lv_iload_n hx hb dX0_bidFor_22 rfl (lv_at hl 1 rfl) ?_
        refine lv_aload_n hx hb dX0_bidFor_23 rfl (lv_at hl 2 rfl) ?_
        have hpf := xperf (g := g) hri hn hv9 (show i < n by omega)
        have hpd : (xrun t v9 g i).2 ≤ 7 := by obtain ⟨e8, he8⟩ := xdep_below (xright_1 hri) i (by omega); rw [xrun_2 he8]; have := xdep_le he8; omega
        have hsz := hS.1
        refine x_call (px := xNo) (vx_runS (As := [.int (nI (t i)), .int (nI v9), .ref k]) (rest := []) ⟨hx, hb, hml, hown, hts⟩ (c_X0_perform l hfl G k kr ka (t i) v9 (xrun t v9 g i).1 (xrun t v9 g i).2 HL ⟨hk0, hkr0, hka0, hpd, nkr, nka, nkra⟩ hA_k hA_ka (ht i) hv9 hpf.1 hpf.2) (va_cwS 3 hts gX0_bidFor_X0_perform rfl rfl rfl (by decide +kernel) ⟨(Nat.le_of_ble_eq_true rfl), (Nat.le_of_ble_eq_true rfl)⟩) (xPreS hC hS) rfl rfl hl.1 rfl (lv_room (Nat.le_of_ble_eq_true rfl)) dX0_bidFor_24 ⟨(by first | exact Nat.le_of_ble_eq_true rfl | exact (show 0 + 0 ≤ 0 by omega)), (by first | exact Nat.le_of_ble_eq_true rfl | exact (show 0 + 0 ≤ 0 by omega))⟩) hS (fun _ h => h) (fun _ _ _ _ _ h => False.elim h) (fun v H_8 locs hp hz hk_9 hS => ?_)
        obtain ⟨rfl, ⟨hk10, hkr10, hka10, hkn10, -, -, -⟩, hc10⟩ := hp
        have hp0 := hc10.at hp0 (xn2 n_p_k n_p_ka)
        have hr0 := hc10.at hr0 (xn2 n_r_k n_r_ka)
        have ha0 := hc10.at ha0 (xn2 n_a_k n_a_ka)
        refine lv_iinc (v := (nI (i + 1))) (lv' := [(3, .int (nI (i + 1))), (0, .ref p), (1, .int (nI v9)), (2, .ref k)]) hx hb dX0_bidFor_27 hl (k := 3) rfl (xinc (by decide)) (by decide) rfl (fun ls hl => ?_)
        refine lv_goto (tgt := 6) hx hb dX0_bidFor_30 (by decide) ?_
        have _ := hcc.1
        have _ := hc10.1
        exact ihL (i + 1) (by omega) (by omega) H_8 hp0 hr0 ha0 hk10 hkr10 hka10 ((hcc.tr hc10).mono (fun q hq => by simp only [List.mem_append, List.mem_cons, List.not_mem_nil, or_false, false_or] at hq ⊢; omega)) _ hS ls (lv_sub hl [1, 2, 3, 0] rfl)
  have _ := hc3.1
  exact L _ (0) (Nat.zero_le _) (Nat.lt_succ_self _) H_1 hp0 hr0 ha0 hk3 hkr3 hka3 (hc3.mono (fun q hq => by simp only [List.mem_append, List.mem_cons, List.not_mem_nil, or_false, false_or] at hq ⊢; omega)) _ hS ls (lv_sub hl [1, 2, 3, 0] rfl)

set_option maxHeartbeats 4000000 in
set_option maxRecDepth 100000 in
/-- new Strategy(..) -/
theorem c_X3_init (l : Launch) (hfl : l.stackTraces = false) (G : xG) (r i9 p9 : Nat) (a1 a2 : Int32) (H : Heap) (hr0 : oA G r 4 [.int 0, .null, .int 0, .int 0, .null, .int 0, .int 0, .int 0] H) (hA_r : xA G r) : xMet l G yX3_init wsX3_init ({ frames := 2, cells := 2, slots := 101, locals := 51 } : Room) [.ref r, .int (nI i9), .ref p9, .int a1, .int a2] H (fun v H1 => v = none ∧ ∃ q a, H.size ≤ q ∧ H.size ≤ a ∧ oA G r 4 [.int (nI i9), .ref p9, .int a1, .int a2, .ref q, .int (nI 0), .int (-1), .int (nI 0)] H1 ∧ oA G q 2 [.ref a] H1 ∧ iA G a 100 (fun _ => nI 0) H1 ∧ q ≠ a ∧ r ≠ q ∧ r ≠ a ∧ xC [r] H H1) (xNo) := by
  refine vx_ofW (cc := cX3_init) (maxL := 5) (ret := none) (by decide) rfl ?_
  intro Pg Ev s m args below meth c s₁ B hml hout hv
  obtain ⟨rfl, hH, hC⟩ := hv
  have hx := B.exec
  have hb := B.bytes
  have hr := B.returns
  have hts := atoms_spec (ws := wsX3_init) B.pre
  have hown : s.vm.findClass RX3 = some m.cls := findClass_of_methodNamed B.named
  have hlocks := B.notSynchronized
  have hin : meth.name = "<init>" := (name_of_methodNamed B.named B.method).1
  rw [hH]
  have hS : va_S (xA G) s.heap H [] := by rw [← hH]; exact va_S.rf
  generalize ([] : List Loc) = locs at hS ⊢
  have hl := lv_entry [.ref r, .int (nI i9), .ref p9, .int a1, .int a2] (n := 5) (Nat.le_of_ble_eq_true rfl)
  rw [lg_entry_eq]
  generalize (lg_sl [.ref r, .int (nI i9), .ref p9, .int a1, .int a2] ++ List.replicate (5 - (lg_sl [.ref r, .int (nI i9), .ref p9, .int a1, .int a2]).length) Slot.unset).toArray = ls at hl ⊢
  have hl : lv_has ls 5 [(0, .ref r), (1, .int (nI i9)), (2, .ref p9), (3, .int a1), (4, .int a2)] := hl
  refine lv_aload_n hx hb dX3_init_0 rfl (lv_at hl 0 rfl) ?_
  refine W.objInit hx hb hown (hts (.methodLink RX3 3 objectInit) (by decide +kernel)) (hts (.instanceMethod objectInit) (by decide +kernel)) (hts (.code objectInit ⟨#[0xb1]⟩ 1 none) (by decide +kernel)) rfl (by rw [hml]; exact hl.1) rfl dX3_init_1 (Nat.le_of_ble_eq_true rfl) (Nat.le_of_ble_eq_true rfl) ?_
  refine W.eq (g2 := F0 m 4 ls []) rfl ?_
  refine lv_aload_n hx hb dX3_init_4 rfl (lv_at hl 0 rfl) ?_
  have hsz := hS.1
  refine x_new (G := G) (ci := 2) (fs := [.null]) (C := RX1) (T := TX1) (N := 1) hx hb hts (by decide +kernel) tyX1 tyX1_ok hown (hts (.classLink RX3 9 RX1) (by decide +kernel)) (hts (.instantiable RX1 1) (by decide +kernel)) (hts (.initialized RX1) (by decide +kernel)) hC hS rfl (fun j hj => by rcases (show j = 0 by omega) with rfl; rfl) (by first | exact Nat.le_of_ble_eq_true rfl | exact (show 0 + 1 ≤ 2 by omega)) (by first | exact Nat.le_of_ble_eq_true rfl | exact (show 0 + 1 ≤ 101 by omega)) dX3_init_5 (fun q_1 H_6 eq_4 ho_2 hc_3 hz_5 hS => ?_)
  have hA_q_1 : xA G q_1 := hC.2.2.1 _ (by rw [eq_4]; exact hsz)
  have ne_7 : r ≠ q_1 := xlt hr0 eq_4
  have hr0 := hc_3.at0 hr0
  refine lv_dup hx hb dX3_init_8 rfl ?_
  refine lv_bipush (v := (nI 100)) hx hb dX3_init_9 (by decide) ?_
  have hsz := hS.1
  refine x_call (px := xNo) (x_runOf (va_runI (b := q_1) (As := [.int (nI 100)]) (rest := [.ref q_1, .ref r]) ⟨hx, hb, hml, hown, hts⟩ (x_met (c_X1_init l hfl G q_1 100 H_6 ho_2 hA_q_1 (by omega))) (cwI 1 hts gX3_init_X1_init rfl rfl rfl (hts (.initialized RX1) (by decide +kernel)) (hts (.methodLink RX3 11 yX1_init) (by decide +kernel)) (hts (.instanceMethod yX1_init) (by decide +kernel)) rfl (by decide +kernel) ⟨(Nat.le_of_ble_eq_true rfl), (Nat.le_of_ble_eq_true rfl)⟩) (xPreS hC hS) rfl rfl hl.1 rfl (lv_room (Nat.le_of_ble_eq_true rfl)) dX3_init_11 ⟨(by first | exact Nat.le_of_ble_eq_true rfl | exact (show 0 + 1 + 1 ≤ 2 by omega)), (by first | exact Nat.le_of_ble_eq_true rfl | exact (show 0 + 1 + 100 ≤ 101 by omega))⟩)) hS (fun _ h => h) (fun _ _ _ _ _ h => False.elim h) (fun v H_8 locs hp hz hk_9 hS => ?_)
  obtain ⟨rfl, qa10, hqa10, hn10, ha10, hc10⟩ := hp
  have hA_qa10 : xA G qa10 := hC.2.2.1 _ (Nat.le_trans hsz hqa10)
  have ne_11 : r ≠ qa10 := xlt2 hr0 hqa10
  have ne_12 : q_1 ≠ qa10 := xlt2 ho_2 hqa10
  have hr0 := hc10.at hr0 (xn1 ne_7)
  refine x_putF (G := G) (ci := 4) (v := .ref q_1) (ty := (.object "Bidwhistle$Row")) (C := RX3) (T := TX3) (N := 8) hx hb hts (by decide +kernel) tyX3 tyX3_ok nmX3 hown hC hS hA_r hr0 rfl 4 (by decide) (hts (.fieldLink RX3 14 "Bidwhistle$Strategy" "bids" "LBidwhistle$Row;") (by decide +kernel)) (fun _ h9 => h9) rfl hin rfl (by decide +kernel) rfl rfl (Nat.le_of_ble_eq_true rfl) dX3_init_14 (fun H_14 locs hr0 hc_13 hS => ?_)
  have hr0 : oA G r 4 [.int 0, .null, .int 0, .int 0, .ref q_1, .int 0, .int 0, .int 0] H_14 := hr0
  have hn10 := hc_13.at hn10 (xn1 (Ne.symm ne_7))
  have ha10 := hc_13.at ha10 (xn1 (Ne.symm ne_11))
  refine lv_aload_n hx hb dX3_init_17 rfl (lv_at hl 0 rfl) ?_
  refine lv_iconst (v := (nI 0)) hx hb dX3_init_18 (by decide) ?_
  refine x_put (G := G) (ci := 4) (v := .int (nI 0)) (ty := .int) (C := RX3) (T := TX3) (N := 8) hx hb hts (by decide +kernel) tyX3 tyX3_ok nmX3 hown hC hS hA_r hr0 rfl 5 (by decide) (hts (.fieldLink RX3 20 "Bidwhistle$Strategy" "stepsOfLine" "I") (by decide +kernel)) (fun _ h9 => h9) rfl (by decide +kernel) rfl rfl (Nat.le_of_ble_eq_true rfl) dX3_init_19 (fun H_16 locs hr0 hc_15 hS => ?_)
  have hr0 : oA G r 4 [.int 0, .null, .int 0, .int 0, .ref q_1, .int (nI 0), .int 0, .int 0] H_16 := hr0
  have hn10 := hc_15.at hn10 (xn1 (Ne.symm ne_7))
  have ha10 := hc_15.at ha10 (xn1 (Ne.symm ne_11))
  refine lv_aload_n hx hb dX3_init_22 rfl (lv_at hl 0 rfl) ?_
  refine lv_iconst (v := (-1)) hx hb dX3_init_23 (by decide) ?_
  refine x_put (G := G) (ci := 4) (v := .int (-1)) (ty := .int) (C := RX3) (T := TX3) (N := 8) hx hb hts (by decide +kernel) tyX3 tyX3_ok nmX3 hown hC hS hA_r hr0 rfl 6 (by decide) (hts (.fieldLink RX3 24 "Bidwhistle$Strategy" "kind" "I") (by decide +kernel)) (fun _ h9 => h9) rfl (by decide +kernel) rfl rfl (Nat.le_of_ble_eq_true rfl) dX3_init_24 (fun H_18 locs hr0 hc_17 hS => ?_)
  have hr0 : oA G r 4 [.int 0, .null, .int 0, .int 0, .ref q_1, .int (nI 0), .int (-1), .int 0] H_18 := hr0
  have hn10 := hc_17.at hn10 (xn1 (Ne.symm ne_7))
  have ha10 := hc_17.at ha10 (xn1 (Ne.symm ne_11))
  refine lv_aload_n hx hb dX3_init_27 rfl (lv_at hl 0 rfl) ?_
  refine lv_iconst (v := (nI 0)) hx hb dX3_init_28 (by decide) ?_
  refine x_put (G := G) (ci := 4) (v := .int (nI 0)) (ty := .boolean) (C := RX3) (T := TX3) (N := 8) hx hb hts (by decide +kernel) tyX3 tyX3_ok nmX3 hown hC hS hA_r hr0 rfl 7 (by decide) (hts (.fieldLink RX3 27 "Bidwhistle$Strategy" "inPool" "Z") (by decide +kernel)) (fun _ h9 => h9) rfl (by decide +kernel) (by rfl) (by rfl) (Nat.le_of_ble_eq_true rfl) dX3_init_29 (fun H_20 locs hr0 hc_19 hS => ?_)
  have hr0 : oA G r 4 [.int 0, .null, .int 0, .int 0, .ref q_1, .int (nI 0), .int (-1), .int (nI 0)] H_20 := hr0
  have hn10 := hc_19.at hn10 (xn1 (Ne.symm ne_7))
  have ha10 := hc_19.at ha10 (xn1 (Ne.symm ne_11))
  refine lv_aload_n hx hb dX3_init_32 rfl (lv_at hl 0 rfl) ?_
  refine lv_iload_n hx hb dX3_init_33 rfl (lv_at hl 1 rfl) ?_
  refine x_putF (G := G) (ci := 4) (v := .int (nI i9)) (ty := .int) (C := RX3) (T := TX3) (N := 8) hx hb hts (by decide +kernel) tyX3 tyX3_ok nmX3 hown hC hS hA_r hr0 rfl 0 (by decide) (hts (.fieldLink RX3 31 "Bidwhistle$Strategy" "number" "I") (by decide +kernel)) (fun _ h9 => h9) rfl hin rfl (by decide +kernel) rfl rfl (Nat.le_of_ble_eq_true rfl) dX3_init_34 (fun H_22 locs hr0 hc_21 hS => ?_)
  have hr0 : oA G r 4 [.int (nI i9), .null, .int 0, .int 0, .ref q_1, .int (nI 0), .int (-1), .int (nI 0)] H_22 := hr0
  have hn10 := hc_21.at hn10 (xn1 (Ne.symm ne_7))
  have ha10 := hc_21.at ha10 (xn1 (Ne.symm ne_11))
  refine lv_aload_n hx hb dX3_init_37 rfl (lv_at hl 0 rfl) ?_
  refine lv_aload_n hx hb dX3_init_38 rfl (lv_at hl 2 rfl) ?_
  refine x_putF (G := G) (ci := 4) (v := .ref p9) (ty := (.object "Bidwhistle$Program")) (C := RX3) (T := TX3) (N := 8) hx hb hts (by decide +kernel) tyX3 tyX3_ok nmX3 hown hC hS hA_r hr0 rfl 1 (by decide) (hts (.fieldLink RX3 34 "Bidwhistle$Strategy" "program" "LBidwhistle$Program;") (by decide +kernel)) (fun _ h9 => h9) rfl hin rfl (by decide +kernel) rfl rfl (Nat.le_of_ble_eq_true rfl) dX3_init_39 (fun H_24 locs hr0 hc_23 hS => ?_)
  have hr0 : oA G r 4 [.int (nI i9), .ref p9, .int 0, .int 0, .ref q_1, .int (nI 0), .int (-1), .int (nI 0)] H_24 := hr0
  have hn10 := hc_23.at hn10 (xn1 (Ne.symm ne_7))
  have ha10 := hc_23.at ha10 (xn1 (Ne.symm ne_11))
  refine lv_aload_n hx hb dX3_init_42 rfl (lv_at hl 0 rfl) ?_
  refine lv_iload_n hx hb dX3_init_43 rfl (lv_at hl 3 rfl) ?_
  refine x_putF (G := G) (ci := 4) (v := .int a1) (ty := .int) (C := RX3) (T := TX3) (N := 8) hx hb hts (by decide +kernel) tyX3 tyX3_ok nmX3 hown hC hS hA_r hr0 rfl 2 (by decide) (hts (.fieldLink RX3 38 "Bidwhistle$Strategy" "firstParent" "I") (by decide +kernel)) (fun _ h9 => h9) rfl hin rfl (by decide +kernel) rfl rfl (Nat.le_of_ble_eq_true rfl) dX3_init_44 (fun H_26 locs hr0 hc_25 hS => ?_)
  have hr0 : oA G r 4 [.int (nI i9), .ref p9, .int a1, .int 0, .ref q_1, .int (nI 0), .int (-1), .int (nI 0)] H_26 := hr0
  have hn10 := hc_25.at hn10 (xn1 (Ne.symm ne_7))
  have ha10 := hc_25.at ha10 (xn1 (Ne.symm ne_11))
  refine lv_aload_n hx hb dX3_init_47 rfl (lv_at hl 0 rfl) ?_
  refine lv_iload hx hb dX3_init_48 (lv_at hl 4 rfl) ?_
  refine x_putF (G := G) (ci := 4) (v := .int a2) (ty := .int) (C := RX3) (T := TX3) (N := 8) hx hb hts (by decide +kernel) tyX3 tyX3_ok nmX3 hown hC hS hA_r hr0 rfl 3 (by decide) (hts (.fieldLink RX3 41 "Bidwhistle$Strategy" "secondParent" "I") (by decide +kernel)) (fun _ h9 => h9) rfl hin rfl (by decide +kernel) rfl rfl (Nat.le_of_ble_eq_true rfl) dX3_init_50 (fun H_28 locs hr0 hc_27 hS => ?_)
  have hr0 : oA G r 4 [.int (nI i9), .ref p9, .int a1, .int a2, .ref q_1, .int (nI 0), .int (-1), .int (nI 0)] H_28 := hr0
  have hn10 := hc_27.at hn10 (xn1 (Ne.symm ne_7))
  have ha10 := hc_27.at ha10 (xn1 (Ne.symm ne_11))
  have _ := hc_3.1
  have _ := hc10.1
  have _ := hc_13.1
  have _ := hc_15.1
  have _ := hc_17.1
  have _ := hc_19.1
  have _ := hc_21.1
  have _ := hc_23.1
  have _ := hc_25.1
  have _ := hc_27.1
  exact x_vret (G := G) hx hb hr dX3_init_53 hlocks hS (by first | exact Nat.le_of_ble_eq_true rfl | exact (show 0 + 1 + 1 ≤ 2 by omega)) (by first | exact Nat.le_of_ble_eq_true rfl | exact (show 0 + 1 + 100 ≤ 101 by omega)) ⟨rfl, q_1, qa10, by omega, by omega, hr0, hn10, ha10, ne_12, ne_7, ne_11, ((hc_3.tr (hc10.tr (hc_13.tr (hc_15.tr (hc_17.tr (hc_19.tr (hc_21.tr (hc_23.tr (hc_25.tr hc_27))))))))).mono (fun q hq => by simp only [List.mem_append, List.mem_cons, List.not_mem_nil, or_false, false_or] at hq ⊢; omega))⟩

set_option maxHeartbeats 4000000 in
set_option maxRecDepth 100000 in
/-- Strategy.bidFor(value) -/
theorem c_X3_bidFor (l : Launch) (hfl : l.stackTraces = false) (G : xG) (h b ba v9 f1 : Nat) (f : Nat → Int32) (f0 f2 f3 f5 f6 f7 : Int32) (H : Heap) (hh0 : oA G h 4 [.int f0, .ref f1, .int f2, .int f3, .ref b, .int f5, .int f6, .int f7] H) (hb0 : oA G b 2 [.ref ba] H) (hba0 : iA G ba 100 f H) (hv9 : v9 < 100) : xMet l G yX3_bidFor wsX3_bidFor ({ frames := 1, cells := 0, slots := 0, locals := 21 } : Room) [.ref h, .int (nI v9)] H (xi H (f v9)) (xNo) := by
  refine vx_ofW (cc := cX3_bidFor) (maxL := 2) (ret := (some .int)) (by decide) rfl ?_
  intro Pg Ev s m args below meth c s₁ B hml hout hv
  obtain ⟨rfl, hH, hC⟩ := hv
  have hx := B.exec
  have hb := B.bytes
  have hr := B.returns
  have hts := atoms_spec (ws := wsX3_bidFor) B.pre
  have hown : s.vm.findClass RX3 = some m.cls := findClass_of_methodNamed B.named
  have hlocks := B.notSynchronized
  rw [hH]
  have hS : va_S (xA G) s.heap H [] := by rw [← hH]; exact va_S.rf
  generalize ([] : List Loc) = locs at hS ⊢
  have hl := lv_entry [.ref h, .int (nI v9)] (n := 2) (Nat.le_of_ble_eq_true rfl)
  rw [lg_entry_eq]
  generalize (lg_sl [.ref h, .int (nI v9)] ++ List.replicate (2 - (lg_sl [.ref h, .int (nI v9)]).length) Slot.unset).toArray = ls at hl ⊢
  have hl : lv_has ls 2 [(0, .ref h), (1, .int (nI v9))] := hl
  refine lv_aload_n hx hb dX3_bidFor_0 rfl (lv_at hl 0 rfl) ?_
  refine va_get (D := xD G) (ci := 4) (v := .ref b) (C := RX3) (T := TX3) (N := 8) hx hb hts (by decide +kernel) hown hC.1 (x1 hh0) 0 rfl rfl 4 (by decide) (hts (.fieldLink RX3 14 "Bidwhistle$Strategy" "bids" "LBidwhistle$Row;") (by decide +kernel)) (fun _ h9 => h9) rfl dX3_bidFor_1 ?_
  refine lv_iload_n hx hb dX3_bidFor_4 rfl (lv_at hl 1 rfl) ?_
  refine x_intE (vx_runV (As := [.int (nI v9)]) (rest := []) ⟨hx, hb, hml, hown, hts⟩ (c_X1_at l hfl G b ba 100 v9 f H hb0 hba0 hv9 (by decide)) (cwV 1 hts gX3_bidFor_X1_at rfl rfl rfl (by decide +kernel) ⟨(Nat.le_of_ble_eq_true rfl), (Nat.le_of_ble_eq_true rfl)⟩) (xPreV hC hS hb0 (q := (RX1, TX1, 1)) rfl) rfl rfl hl.1 rfl (lv_room (Nat.le_of_ble_eq_true rfl)) dX3_bidFor_5 ⟨(by first | exact Nat.le_of_ble_eq_true rfl | exact (show 0 + 0 ≤ 0 by omega)), (by first | exact Nat.le_of_ble_eq_true rfl | exact (show 0 + 0 ≤ 0 by omega))⟩) hS (fun locs hS => ?_)
  exact x_iret (G := G) hx hb hr rfl dX3_bidFor_8 hlocks hS (by first | exact Nat.le_of_ble_eq_true rfl | exact (show 0 ≤ 0 by omega)) (by first | exact Nat.le_of_ble_eq_true rfl | exact (show 0 ≤ 0 by omega)) ⟨rfl, rfl⟩
