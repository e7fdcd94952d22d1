set_option maxHeartbeats 4000000 in
set_option maxRecDepth 100000 in
/-- thrown() -/
theorem c_X5_thrown (l : Launch) (hfl : l.stackTraces = false) (G : xG) (ad : Nat → Nat) (S : zS) (tp th : Nat) (g : Nat → Int) (wo : Nat → Int32) (z : Nat → Bool) (H : Heap) (hM : MX G ad S tp th g wo z H) : xMet l G yX5_thrown wsX5_thrown ({ frames := 0, cells := 0, slots := 0, locals := 0 } : Room) [.ref (ad 0)] H (xi H (nI th)) (xNo) := by
  refine vx_ofW (cc := cX5_thrown) (maxL := 1) (ret := (some .int)) (by decide) rfl ?_
  intro Pg Ev s m args below meth c s₁ B hml hout hv
  obtain ⟨rfl, hH, hC⟩ := hv
  have hx := B.exec
  have hb := B.bytes
  have hr := B.returns
  have hts := atoms_spec (ws := wsX5_thrown) B.pre
  have hown : s.vm.findClass RX5 = some m.cls := findClass_of_methodNamed B.named
  have hlocks := B.notSynchronized
  rw [hH]
  have hS : va_S (xA G) s.heap H [] := by rw [← hH]; exact va_S.rf
  generalize ([] : List Loc) = locs at hS ⊢
  have hl := lv_entry [.ref (ad 0)] (n := 1) (Nat.le_of_ble_eq_true rfl)
  rw [lg_entry_eq]
  generalize (lg_sl [.ref (ad 0)] ++ List.replicate (1 - (lg_sl [.ref (ad 0)]).length) Slot.unset).toArray = ls at hl ⊢
  have hl : lv_has ls 1 [(0, .ref (ad 0))] := hl
  obtain ⟨hO, hm0, hm1, hm2, hm3, hm4, hm5, hm6, hm7, hm8, hm9, hm10⟩ := id hM
  refine lv_aload_n hx hb dX5_thrown_0 rfl (lv_at hl 0 rfl) ?_
  refine va_get (D := xD G) (ci := 6) (v := .int (nI th)) (C := RX5) (T := TX5) (N := 14) hx hb hts (by decide +kernel) hown hC.1 (x1 hm0) 0 rfl rfl 13 (by decide) (hts (.fieldLink RX5 41 "BidwhistleModel" "thrown" "I") (by decide +kernel)) (fun _ h9 => h9) rfl dX5_thrown_1 ?_
  exact x_iret (G := G) hx hb hr rfl dX5_thrown_4 hlocks hS (by first | exact Nat.le_of_ble_eq_true rfl | exact (show 0 ≤ 0 by omega)) (by first | exact Nat.le_of_ble_eq_true rfl | exact (show 0 ≤ 0 by omega)) ⟨rfl, rfl⟩

set_option maxHeartbeats 4000000 in
set_option maxRecDepth 100000 in
/-- goes(which) -/
theorem c_X5_goes0 (l : Launch) (hfl : l.stackTraces = false) (G : xG) (ad : Nat → Nat) (S : zS) (tp th : Nat) (g : Nat → Int) (wo : Nat → Int32) (z : Nat → Bool) (w9 : Nat) (H : Heap) (hM : MX G ad S tp th g wo z H) (hw9 : w9 = 0) : xMet l G yX5_goes wsX5_goes ({ frames := 0, cells := 0, slots := 0, locals := 0 } : Room) [.ref (ad 0), .int (nI w9)] H (fun v H1 => v = some (.int (nI 1)) ∧ MX G ad S tp w9 g wo z H1) (xNo) := by
  refine vx_ofW (cc := cX5_goes) (maxL := 2) (ret := (some .boolean)) (by decide) rfl ?_
  intro Pg Ev s m args below meth c s₁ B hml hout hv
  obtain ⟨rfl, hH, hC⟩ := hv
  have hx := B.exec
  have hb := B.bytes
  have hr := B.returns
  have hts := atoms_spec (ws := wsX5_goes) B.pre
  have hown : s.vm.findClass RX5 = some m.cls := findClass_of_methodNamed B.named
  have hlocks := B.notSynchronized
  rw [hH]
  have hS : va_S (xA G) s.heap H [] := by rw [← hH]; exact va_S.rf
  generalize ([] : List Loc) = locs at hS ⊢
  have hl := lv_entry [.ref (ad 0), .int (nI w9)] (n := 2) (Nat.le_of_ble_eq_true rfl)
  rw [lg_entry_eq]
  generalize (lg_sl [.ref (ad 0), .int (nI w9)] ++ List.replicate (2 - (lg_sl [.ref (ad 0), .int (nI w9)]).length) Slot.unset).toArray = ls at hl ⊢
  have hl : lv_has ls 2 [(0, .ref (ad 0)), (1, .int (nI w9))] := hl
  obtain ⟨hO, hm0, hm1, hm2, hm3, hm4, hm5, hm6, hm7, hm8, hm9, hm10⟩ := id hM
  refine lv_aload_n hx hb dX5_goes_0 rfl (lv_at hl 0 rfl) ?_
  refine lv_iload_n hx hb dX5_goes_1 rfl (lv_at hl 1 rfl) ?_
  refine x_put (G := G) (ci := 6) (v := .int (nI w9)) (ty := .int) (C := RX5) (T := TX5) (N := 14) hx hb hts (by decide +kernel) tyX5 tyX5_ok nmX5 hown hC hS (hO.2 0 (by omega) (by omega)) hm0 rfl 13 (by decide) (hts (.fieldLink RX5 41 "BidwhistleModel" "thrown" "I") (by decide +kernel)) (fun _ h9 => h9) rfl (by decide +kernel) rfl rfl (Nat.le_of_ble_eq_true rfl) dX5_goes_2 (fun H_2 locs hm0 hc_1 hS => ?_)
  have hm0 : oA G (ad 0) 6 [.ref (ad 1), .ref (ad 2), .int (nI (zN S)), .ref (ad 3), .ref (ad 4), .ref (ad 5), .int (nI (zK S)), .ref (ad 6), .ref (ad 7), .ref (ad 8), .int (nI tp), .ref (ad 9), .ref (ad 10), .int (nI w9)] H_2 := hm0
  have hm1 := hc_1.at hm1 (xn1 (hO.ne (i := 1) (j := 0) (by omega) (by omega) (by omega)))
  have hm2 := hc_1.at hm2 (xn1 (hO.ne (i := 2) (j := 0) (by omega) (by omega) (by omega)))
  have hm3 := hc_1.at hm3 (xn1 (hO.ne (i := 3) (j := 0) (by omega) (by omega) (by omega)))
  have hm4 := hc_1.at hm4 (xn1 (hO.ne (i := 4) (j := 0) (by omega) (by omega) (by omega)))
  have hm5 := hc_1.at hm5 (xn1 (hO.ne (i := 5) (j := 0) (by omega) (by omega) (by omega)))
  have hm6 := hc_1.at hm6 (xn1 (hO.ne (i := 6) (j := 0) (by omega) (by omega) (by omega)))
  have hm7 := hc_1.at hm7 (xn1 (hO.ne (i := 7) (j := 0) (by omega) (by omega) (by omega)))
  have hm8 := hc_1.at hm8 (xn1 (hO.ne (i := 8) (j := 0) (by omega) (by omega) (by omega)))
  have hm9 := hc_1.at hm9 (xn1 (hO.ne (i := 9) (j := 0) (by omega) (by omega) (by omega)))
  have hm10 := hc_1.at hm10 (xn1 (hO.ne (i := 10) (j := 0) (by omega) (by omega) (by omega)))
  refine lv_iload_n hx hb dX5_goes_5 rfl (lv_at hl 1 rfl) ?_
  refine lv_if_ne (tgt := 13) hx hb dX5_goes_6 (by decide) (fun c_3 => ?_) (fun c_3 => ?_)
  · have _ := hx
    have c_3 : ¬ (w9 = 0) := fun z => c_3 ((nI_eq (a := w9) (b := 0) (by omega) (by omega)).mpr z)
    exact absurd hw9 c_3
  · have _ := hx
    have c_3 : w9 = 0 := (nI_eq (a := w9) (b := 0) (by omega) (by omega)).mp c_3
    refine lv_iconst (v := (nI 1)) hx hb dX5_goes_9 (by decide) ?_
    refine lv_goto (tgt := 14) hx hb dX5_goes_10 (by decide) ?_
    exact x_iret (G := G) hx hb hr (by rfl) dX5_goes_14 hlocks hS (by first | exact Nat.le_of_ble_eq_true rfl | exact (show 0 ≤ 0 by omega)) (by first | exact Nat.le_of_ble_eq_true rfl | exact (show 0 ≤ 0 by omega)) ⟨rfl, ⟨hO, hm0, hm1, hm2, hm3, hm4, hm5, hm6, hm7, hm8, hm9, hm10⟩⟩

set_option maxHeartbeats 4000000 in
set_option maxRecDepth 100000 in
/-- goes(which) -/
theorem c_X5_goesk (l : Launch) (hfl : l.stackTraces = false) (G : xG) (ad : Nat → Nat) (S : zS) (tp th : Nat) (g : Nat → Int) (wo : Nat → Int32) (z : Nat → Bool) (w9 : Nat) (H : Heap) (hM : MX G ad S tp th g wo z H) (hw9 : w9 ≠ 0 ∧ w9 ≤ 3) : xMet l G yX5_goes wsX5_goes ({ frames := 0, cells := 0, slots := 0, locals := 0 } : Room) [.ref (ad 0), .int (nI w9)] H (fun v H1 => v = some (.int (nI 0)) ∧ MX G ad S tp w9 g wo z H1) (xNo) := by
  refine vx_ofW (cc := cX5_goes) (maxL := 2) (ret := (some .boolean)) (by decide) rfl ?_
  intro Pg Ev s m args below meth c s₁ B hml hout hv
  obtain ⟨rfl, hH, hC⟩ := hv
  have hx := B.exec
  have hb := B.bytes
  have hr := B.returns
  have hts := atoms_spec (ws := wsX5_goes) B.pre
  have hown : s.vm.findClass RX5 = some m.cls := findClass_of_methodNamed B.named
  have hlocks := B.notSynchronized
  rw [hH]
  have hS : va_S (xA G) s.heap H [] := by rw [← hH]; exact va_S.rf
  generalize ([] : List Loc) = locs at hS ⊢
  have hl := lv_entry [.ref (ad 0), .int (nI w9)] (n := 2) (Nat.le_of_ble_eq_true rfl)
  rw [lg_entry_eq]
  generalize (lg_sl [.ref (ad 0), .int (nI w9)] ++ List.replicate (2 - (lg_sl [.ref (ad 0), .int (nI w9)]).length) Slot.unset).toArray = ls at hl ⊢
  have hl : lv_has ls 2 [(0, .ref (ad 0)), (1, .int (nI w9))] := hl
  obtain ⟨hO, hm0, hm1, hm2, hm3, hm4, hm5, hm6, hm7, hm8, hm9, hm10⟩ := id hM
  refine lv_aload_n hx hb dX5_goes_0 rfl (lv_at hl 0 rfl) ?_
  refine lv_iload_n hx hb dX5_goes_1 rfl (lv_at hl 1 rfl) ?_
  refine x_put (G := G) (ci := 6) (v := .int (nI w9)) (ty := .int) (C := RX5) (T := TX5) (N := 14) hx hb hts (by decide +kernel) tyX5 tyX5_ok nmX5 hown hC hS (hO.2 0 (by omega) (by omega)) hm0 rfl 13 (by decide) (hts (.fieldLink RX5 41 "BidwhistleModel" "thrown" "I") (by decide +kernel)) (fun _ h9 => h9) rfl (by decide +kernel) rfl rfl (Nat.le_of_ble_eq_true rfl) dX5_goes_2 (fun H_2 locs hm0 hc_1 hS => ?_)
  have hm0 : oA G (ad 0) 6 [.ref (ad 1), .ref (ad 2), .int (nI (zN S)), .ref (ad 3), .ref (ad 4), .ref (ad 5), .int (nI (zK S)), .ref (ad 6), .ref (ad 7), .ref (ad 8), .int (nI tp), .ref (ad 9), .ref (ad 10), .int (nI w9)] H_2 := hm0
  have hm1 := hc_1.at hm1 (xn1 (hO.ne (i := 1) (j := 0) (by omega) (by omega) (by omega)))
  have hm2 := hc_1.at hm2 (xn1 (hO.ne (i := 2) (j := 0) (by omega) (by omega) (by omega)))
  have hm3 := hc_1.at hm3 (xn1 (hO.ne (i := 3) (j := 0) (by omega) (by omega) (by omega)))
  have hm4 := hc_1.at hm4 (xn1 (hO.ne (i := 4) (j := 0) (by omega) (by omega) (by omega)))
  have hm5 := hc_1.at hm5 (xn1 (hO.ne (i := 5) (j := 0) (by omega) (by omega) (by omega)))
  have hm6 := hc_1.at hm6 (xn1 (hO.ne (i := 6) (j := 0) (by omega) (by omega) (by omega)))
  have hm7 := hc_1.at hm7 (xn1 (hO.ne (i := 7) (j := 0) (by omega) (by omega) (by omega)))
  have hm8 := hc_1.at hm8 (xn1 (hO.ne (i := 8) (j := 0) (by omega) (by omega) (by omega)))
  have hm9 := hc_1.at hm9 (xn1 (hO.ne (i := 9) (j := 0) (by omega) (by omega) (by omega)))
  have hm10 := hc_1.at hm10 (xn1 (hO.ne (i := 10) (j := 0) (by omega) (by omega) (by omega)))
  refine lv_iload_n hx hb dX5_goes_5 rfl (lv_at hl 1 rfl) ?_
  refine lv_if_ne (tgt := 13) hx hb dX5_goes_6 (by decide) (fun c_3 => ?_) (fun c_3 => ?_)
  · have _ := hx
    have c_3 : ¬ (w9 = 0) := fun z => c_3 ((nI_eq (a := w9) (b := 0) (by omega) (by omega)).mpr z)
    refine lv_iconst (v := (nI 0)) hx hb dX5_goes_13 (by decide) ?_
    exact x_iret (G := G) hx hb hr (by rfl) dX5_goes_14 hlocks hS (by first | exact Nat.le_of_ble_eq_true rfl | exact (show 0 ≤ 0 by omega)) (by first | exact Nat.le_of_ble_eq_true rfl | exact (show 0 ≤ 0 by omega)) ⟨rfl, ⟨hO, hm0, hm1, hm2, hm3, hm4, hm5, hm6, hm7, hm8, hm9, hm10⟩⟩
  · have _ := hx
    have c_3 : w9 = 0 := (nI_eq (a := w9) (b := 0) (by omega) (by omega)).mp c_3
    exact absurd c_3 hw9.1

set_option maxHeartbeats 4000000 in
set_option maxRecDepth 100000 in
/-- lies(v, least, most) -/
theorem c_X5_lies (l : Launch) (hfl : l.stackTraces = false) (G : xG) (p9 m9 : Int32) (n9 : Nat) (H : Heap) (hn9 : n9 ≤ 1000) (hm9 : m9 = nI n9 - nI 1) : xMet l G yX5_lies wsX5_lies ({ frames := 0, cells := 0, slots := 0, locals := 0 } : Room) [.int p9, .int (nI 0), .int m9] H (xi H (xb (xok p9 n9))) (xNo) := by
  refine vx_ofW (cc := cX5_lies) (maxL := 3) (ret := (some .boolean)) (by decide) rfl ?_
  intro Pg Ev s m args below meth c s₁ B hml hout hv
  obtain ⟨rfl, hH, hC⟩ := hv
  have hx := B.exec
  have hb := B.bytes
  have hr := B.returns
  have hts := atoms_spec (ws := wsX5_lies) B.pre
  have hown : s.vm.findClass RX5 = some m.cls := findClass_of_methodNamed B.named
  have hlocks := B.notSynchronized
  rw [hH]
  have hS : va_S (xA G) s.heap H [] := by rw [← hH]; exact va_S.rf
  generalize ([] : List Loc) = locs at hS ⊢
  have hl := lv_entry [.int p9, .int (nI 0), .int m9] (n := 3) (Nat.le_of_ble_eq_true rfl)
  rw [lg_entry_eq]
  generalize (lg_sl [.int p9, .int (nI 0), .int m9] ++ List.replicate (3 - (lg_sl [.int p9, .int (nI 0), .int m9]).length) Slot.unset).toArray = ls at hl ⊢
  have hl : lv_has ls 3 [(0, .int p9), (1, .int (nI 0)), (2, .int m9)] := hl
  refine lv_iload_n hx hb dX5_lies_0 rfl (lv_at hl 0 rfl) ?_
  refine lv_iload_n hx hb dX5_lies_1 rfl (lv_at hl 1 rfl) ?_
  refine lv_icmp_lt (tgt := 14) hx hb dX5_lies_2 (by decide) (fun c_1 => ?_) (fun c_1 => ?_)
  · have _ := hx
    refine lv_iconst (v := (nI 0)) hx hb dX5_lies_14 (by decide) ?_
    exact x_iret (G := G) hx hb hr (by rfl) dX5_lies_15 hlocks hS (by first | exact Nat.le_of_ble_eq_true rfl | exact (show 0 ≤ 0 by omega)) (by first | exact Nat.le_of_ble_eq_true rfl | exact (show 0 ≤ 0 by omega)) ⟨rfl, by rw [xok_lt _ c_1]; rfl⟩
  · have _ := hx
    refine lv_iload_n hx hb dX5_lies_5 rfl (lv_at hl 0 rfl) ?_
    refine lv_iload_n hx hb dX5_lies_6 rfl (lv_at hl 2 rfl) ?_
    refine lv_icmp_gt (tgt := 14) hx hb dX5_lies_7 (by decide) (fun c_2 => ?_) (fun c_2 => ?_)
    · have _ := hx
      refine lv_iconst (v := (nI 0)) hx hb dX5_lies_14 (by decide) ?_
      exact x_iret (G := G) hx hb hr (by rfl) dX5_lies_15 hlocks hS (by first | exact Nat.le_of_ble_eq_true rfl | exact (show 0 ≤ 0 by omega)) (by first | exact Nat.le_of_ble_eq_true rfl | exact (show 0 ≤ 0 by omega)) ⟨rfl, by rw [xok_ge (by omega) ((xok_most hn9 hm9).mp c_2)]; rfl⟩
    · have _ := hx
      refine lv_iconst (v := (nI 1)) hx hb dX5_lies_10 (by decide) ?_
      refine lv_goto (tgt := 15) hx hb dX5_lies_11 (by decide) ?_
      exact x_iret (G := G) hx hb hr (by rfl) dX5_lies_15 hlocks hS (by first | exact Nat.le_of_ble_eq_true rfl | exact (show 0 ≤ 0 by omega)) (by first | exact Nat.le_of_ble_eq_true rfl | exact (show 0 ≤ 0 by omega)) ⟨rfl, by rw [xok_in (by omega) c_1 (Classical.not_not.mp (fun q => c_2 ((xok_most hn9 hm9).mpr q)))]; rfl⟩

set_option maxHeartbeats 4000000 in
set_option maxRecDepth 100000 in
/-- isStrategy(strategy) -/
theorem c_X5_isStrategy (l : Launch) (hfl : l.stackTraces = false) (G : xG) (ad : Nat → Nat) (S : zS) (tp th : Nat) (g : Nat → Int) (wo : Nat → Int32) (z : Nat → Bool) (p9 : Int32) (H : Heap) (hM : MX G ad S tp th g wo z H) (hn20 : zN S ≤ 20) : xMet l G yX5_isStrategy wsX5_isStrategy ({ frames := 1, cells := 0, slots := 0, locals := 22 } : Room) [.ref (ad 0), .int p9] H (xi H (xb (xok p9 (zN S)))) (xNo) := by
  refine vx_ofW (cc := cX5_isStrategy) (maxL := 2) (ret := (some .boolean)) (by decide) rfl ?_
  intro Pg Ev s m args below meth c s₁ B hml hout hv
  obtain ⟨rfl, hH, hC⟩ := hv
  have hx := B.exec
  have hb := B.bytes
  have hr := B.returns
  have hts := atoms_spec (ws := wsX5_isStrategy) B.pre
  have hown : s.vm.findClass RX5 = some m.cls := findClass_of_methodNamed B.named
  have hlocks := B.notSynchronized
  rw [hH]
  have hS : va_S (xA G) s.heap H [] := by rw [← hH]; exact va_S.rf
  generalize ([] : List Loc) = locs at hS ⊢
  have hl := lv_entry [.ref (ad 0), .int p9] (n := 2) (Nat.le_of_ble_eq_true rfl)
  rw [lg_entry_eq]
  generalize (lg_sl [.ref (ad 0), .int p9] ++ List.replicate (2 - (lg_sl [.ref (ad 0), .int p9]).length) Slot.unset).toArray = ls at hl ⊢
  have hl : lv_has ls 2 [(0, .ref (ad 0)), (1, .int p9)] := hl
  obtain ⟨hO, hm0, hm1, hm2, hm3, hm4, hm5, hm6, hm7, hm8, hm9, hm10⟩ := id hM
  refine lv_iload_n hx hb dX5_isStrategy_0 rfl (lv_at hl 1 rfl) ?_
  refine lv_iconst (v := (nI 0)) hx hb dX5_isStrategy_1 (by decide) ?_
  refine lv_aload_n hx hb dX5_isStrategy_2 rfl (lv_at hl 0 rfl) ?_
  refine va_get (D := xD G) (ci := 6) (v := .int (nI (zN S))) (C := RX5) (T := TX5) (N := 14) hx hb hts (by decide +kernel) hown hC.1 (x1 hm0) 0 rfl rfl 2 (by decide) (hts (.fieldLink RX5 45 "BidwhistleModel" "stored" "I") (by decide +kernel)) (fun _ h9 => h9) rfl dX5_isStrategy_3 ?_
  refine lv_iconst (v := (nI 1)) hx hb dX5_isStrategy_6 (by decide) ?_
  refine lv_isub hx hb dX5_isStrategy_7 ?_
  refine x_intE (vx_runS (As := [.int p9, .int (nI 0), .int ((nI (zN S)) - (nI 1))]) (rest := []) ⟨hx, hb, hml, hown, hts⟩ (c_X5_lies l hfl G p9 (nI (zN S) - nI 1) (zN S) H (by omega) rfl) (va_cwS 3 hts gX5_isStrategy_X5_lies rfl rfl rfl (by decide +kernel) ⟨(Nat.le_of_ble_eq_true rfl), (Nat.le_of_ble_eq_true rfl)⟩) (xPreS hC hS) rfl rfl hl.1 rfl (lv_room (Nat.le_of_ble_eq_true rfl)) dX5_isStrategy_8 ⟨(by first | exact Nat.le_of_ble_eq_true rfl | exact (show 0 + 0 ≤ 0 by omega)), (by first | exact Nat.le_of_ble_eq_true rfl | exact (show 0 + 0 ≤ 0 by omega))⟩) hS (fun locs hS => ?_)
  exact x_iret (G := G) hx hb hr (xb_nar _) dX5_isStrategy_11 hlocks hS (by first | exact Nat.le_of_ble_eq_true rfl | exact (show 0 ≤ 0 by omega)) (by first | exact Nat.le_of_ble_eq_true rfl | exact (show 0 ≤ 0 by omega)) ⟨rfl, rfl⟩

set_option maxHeartbeats 4000000 in
set_option maxRecDepth 100000 in
/-- isStep -/
theorem c_X5_isStep (l : Launch) (hfl : l.stackTraces = false) (G : xG) (p9 : Int32) (H : Heap) : xMet l G yX5_isStep wsX5_isStep ({ frames := 1, cells := 0, slots := 0, locals := 22 } : Room) [.int p9] H (xi H (xb (xok p9 17))) (xNo) := by
  refine vx_ofW (cc := cX5_isStep) (maxL := 1) (ret := (some .boolean)) (by decide) rfl ?_
  intro Pg Ev s m args below meth c s₁ B hml hout hv
  obtain ⟨rfl, hH, hC⟩ := hv
  have hx := B.exec
  have hb := B.bytes
  have hr := B.returns
  have hts := atoms_spec (ws := wsX5_isStep) B.pre
  have hown : s.vm.findClass RX5 = some m.cls := findClass_of_methodNamed B.named
  have hlocks := B.notSynchronized
  rw [hH]
  have hS : va_S (xA G) s.heap H [] := by rw [← hH]; exact va_S.rf
  generalize ([] : List Loc) = locs at hS ⊢
  have hl := lv_entry [.int p9] (n := 1) (Nat.le_of_ble_eq_true rfl)
  rw [lg_entry_eq]
  generalize (lg_sl [.int p9] ++ List.replicate (1 - (lg_sl [.int p9]).length) Slot.unset).toArray = ls at hl ⊢
  have hl : lv_has ls 1 [(0, .int p9)] := hl
  refine lv_iload_n hx hb dX5_isStep_0 rfl (lv_at hl 0 rfl) ?_
  refine lv_iconst (v := (nI 0)) hx hb dX5_isStep_1 (by decide) ?_
  refine lv_bipush (v := (nI 16)) hx hb dX5_isStep_2 (by decide) ?_
  refine x_intE (vx_runS (As := [.int p9, .int (nI 0), .int (nI 16)]) (rest := []) ⟨hx, hb, hml, hown, hts⟩ (c_X5_lies l hfl G p9 (nI 16) 17 H (by decide) (by decide)) (va_cwS 3 hts gX5_isStep_X5_lies rfl rfl rfl (by decide +kernel) ⟨(Nat.le_of_ble_eq_true rfl), (Nat.le_of_ble_eq_true rfl)⟩) (xPreS hC hS) rfl rfl hl.1 rfl (lv_room (Nat.le_of_ble_eq_true rfl)) dX5_isStep_4 ⟨(by first | exact Nat.le_of_ble_eq_true rfl | exact (show 0 + 0 ≤ 0 by omega)), (by first | exact Nat.le_of_ble_eq_true rfl | exact (show 0 + 0 ≤ 0 by omega))⟩) hS (fun locs hS => ?_)
  exact x_iret (G := G) hx hb hr (xb_nar _) dX5_isStep_7 hlocks hS (by first | exact Nat.le_of_ble_eq_true rfl | exact (show 0 ≤ 0 by omega)) (by first | exact Nat.le_of_ble_eq_true rfl | exact (show 0 ≤ 0 by omega)) ⟨rfl, rfl⟩

set_option maxHeartbeats 4000000 in
set_option maxRecDepth 100000 in
/-- isValue -/
theorem c_X5_isValue (l : Launch) (hfl : l.stackTraces = false) (G : xG) (p9 : Int32) (H : Heap) : xMet l G yX5_isValue wsX5_isValue ({ frames := 1, cells := 0, slots := 0, locals := 22 } : Room) [.int p9] H (xi H (xb (xok p9 100))) (xNo) := by
  refine vx_ofW (cc := cX5_isValue) (maxL := 1) (ret := (some .boolean)) (by decide) rfl ?_
  intro Pg Ev s m args below meth c s₁ B hml hout hv
  obtain ⟨rfl, hH, hC⟩ := hv
  have hx := B.exec
  have hb := B.bytes
  have hr := B.returns
  have hts := atoms_spec (ws := wsX5_isValue) B.pre
  have hown : s.vm.findClass RX5 = some m.cls := findClass_of_methodNamed B.named
  have hlocks := B.notSynchronized
  rw [hH]
  have hS : va_S (xA G) s.heap H [] := by rw [← hH]; exact va_S.rf
  generalize ([] : List Loc) = locs at hS ⊢
  have hl := lv_entry [.int p9] (n := 1) (Nat.le_of_ble_eq_true rfl)
  rw [lg_entry_eq]
  generalize (lg_sl [.int p9] ++ List.replicate (1 - (lg_sl [.int p9]).length) Slot.unset).toArray = ls at hl ⊢
  have hl : lv_has ls 1 [(0, .int p9)] := hl
  refine lv_iload_n hx hb dX5_isValue_0 rfl (lv_at hl 0 rfl) ?_
  refine lv_iconst (v := (nI 0)) hx hb dX5_isValue_1 (by decide) ?_
  refine lv_bipush (v := (nI 99)) hx hb dX5_isValue_2 (by decide) ?_
  refine x_intE (vx_runS (As := [.int p9, .int (nI 0), .int (nI 99)]) (rest := []) ⟨hx, hb, hml, hown, hts⟩ (c_X5_lies l hfl G p9 (nI 99) 100 H (by decide) (by decide)) (va_cwS 3 hts gX5_isValue_X5_lies rfl rfl rfl (by decide +kernel) ⟨(Nat.le_of_ble_eq_true rfl), (Nat.le_of_ble_eq_true rfl)⟩) (xPreS hC hS) rfl rfl hl.1 rfl (lv_room (Nat.le_of_ble_eq_true rfl)) dX5_isValue_4 ⟨(by first | exact Nat.le_of_ble_eq_true rfl | exact (show 0 + 0 ≤ 0 by omega)), (by first | exact Nat.le_of_ble_eq_true rfl | exact (show 0 + 0 ≤ 0 by omega))⟩) hS (fun locs hS => ?_)
  exact x_iret (G := G) hx hb hr (xb_nar _) dX5_isValue_7 hlocks hS (by first | exact Nat.le_of_ble_eq_true rfl | exact (show 0 ≤ 0 by omega)) (by first | exact Nat.le_of_ble_eq_true rfl | exact (show 0 ≤ 0 by omega)) ⟨rfl, rfl⟩

set_option maxHeartbeats 4000000 in
set_option maxRecDepth 100000 in
/-- isAuction -/
theorem c_X5_isAuction (l : Launch) (hfl : l.stackTraces = false) (G : xG) (p9 : Int32) (H : Heap) : xMet l G yX5_isAuction wsX5_isAuction ({ frames := 1, cells := 0, slots := 0, locals := 22 } : Room) [.int p9] H (xi H (xb (xok p9 4))) (xNo) := by
  refine vx_ofW (cc := cX5_isAuction) (maxL := 1) (ret := (some .boolean)) (by decide) rfl ?_
  intro Pg Ev s m args below meth c s₁ B hml hout hv
  obtain ⟨rfl, hH, hC⟩ := hv
  have hx := B.exec
  have hb := B.bytes
  have hr := B.returns
  have hts := atoms_spec (ws := wsX5_isAuction) B.pre
  have hown : s.vm.findClass RX5 = some m.cls := findClass_of_methodNamed B.named
  have hlocks := B.notSynchronized
  rw [hH]
  have hS : va_S (xA G) s.heap H [] := by rw [← hH]; exact va_S.rf
  generalize ([] : List Loc) = locs at hS ⊢
  have hl := lv_entry [.int p9] (n := 1) (Nat.le_of_ble_eq_true rfl)
  rw [lg_entry_eq]
  generalize (lg_sl [.int p9] ++ List.replicate (1 - (lg_sl [.int p9]).length) Slot.unset).toArray = ls at hl ⊢
  have hl : lv_has ls 1 [(0, .int p9)] := hl
  refine lv_iload_n hx hb dX5_isAuction_0 rfl (lv_at hl 0 rfl) ?_
  refine lv_iconst (v := (nI 0)) hx hb dX5_isAuction_1 (by decide) ?_
  refine lv_iconst (v := (nI 3)) hx hb dX5_isAuction_2 (by decide) ?_
  refine x_intE (vx_runS (As := [.int p9, .int (nI 0), .int (nI 3)]) (rest := []) ⟨hx, hb, hml, hown, hts⟩ (c_X5_lies l hfl G p9 (nI 3) 4 H (by decide) (by decide)) (va_cwS 3 hts gX5_isAuction_X5_lies rfl rfl rfl (by decide +kernel) ⟨(Nat.le_of_ble_eq_true rfl), (Nat.le_of_ble_eq_true rfl)⟩) (xPreS hC hS) rfl rfl hl.1 rfl (lv_room (Nat.le_of_ble_eq_true rfl)) dX5_isAuction_3 ⟨(by first | exact Nat.le_of_ble_eq_true rfl | exact (show 0 + 0 ≤ 0 by omega)), (by first | exact Nat.le_of_ble_eq_true rfl | exact (show 0 + 0 ≤ 0 by omega))⟩) hS (fun locs hS => ?_)
  exact x_iret (G := G) hx hb hr (xb_nar _) dX5_isAuction_6 hlocks hS (by first | exact Nat.le_of_ble_eq_true rfl | exact (show 0 ≤ 0 by omega)) (by first | exact Nat.le_of_ble_eq_true rfl | exact (show 0 ≤ 0 by omega)) ⟨rfl, rfl⟩

set_option maxHeartbeats 4000000 in
set_option maxRecDepth 100000 in
/-- made(step, x, y) -/
theorem c_X5_made (l : Launch) (hfl : l.stackTraces = false) (G : xG) (s9 : Nat) (x y : Int) (H : Heap) (hs1 : 11 ≤ s9) (hs2 : s9 ≤ 16) (hx1 : -100000 ≤ x ∧ x ≤ 100000) (hy1 : -100000 ≤ y ∧ y ≤ 100000) : xMet l G yX5_made wsX5_made ({ frames := 0, cells := 0, slots := 0, locals := 0 } : Room) [.int (nI s9), .int (Int32.ofInt x), .int (Int32.ofInt y)] H (xi H (Int32.ofInt (xcl (xop s9 x y)))) (xNo) := by
  refine vx_ofW (cc := cX5_made) (maxL := 5) (ret := (some .int)) (by decide) rfl ?_
  intro Pg Ev s m args below meth c s₁ B hml hout hv
  obtain ⟨rfl, hH, hC⟩ := hv
  have hx := B.exec
  have hb := B.bytes
  have hr := B.returns
  have hts := atoms_spec (ws := wsX5_made) B.pre
  have hown : s.vm.findClass RX5 = some m.cls := findClass_of_methodNamed B.named
  have hlocks := B.notSynchronized
  rw [hH]
  have hS : va_S (xA G) s.heap H [] := by rw [← hH]; exact va_S.rf
  generalize ([] : List Loc) = locs at hS ⊢
  have hl := lv_entry [.int (nI s9), .int (Int32.ofInt x), .int (Int32.ofInt y)] (n := 5) (Nat.le_of_ble_eq_true rfl)
  rw [lg_entry_eq]
  generalize (lg_sl [.int (nI s9), .int (Int32.ofInt x), .int (Int32.ofInt y)] ++ List.replicate (5 - (lg_sl [.int (nI s9), .int (Int32.ofInt x), .int (Int32.ofInt y)]).length) Slot.unset).toArray = ls at hl ⊢
  have hl : lv_has ls 5 [(0, .int (nI s9)), (1, .int (Int32.ofInt x)), (2, .int (Int32.ofInt y))] := hl
  have hz9 := xop_in (s := s9) hx1 hy1
  refine lv_iload_n hx hb dX5_made_0 rfl (lv_at hl 0 rfl) ?_
  refine lv_bipush (v := (nI 11)) hx hb dX5_made_1 (by decide) ?_
  refine lv_icmp_ne (tgt := 14) hx hb dX5_made_3 (by decide) (fun c_1 => ?_) (fun c_1 => ?_)
  · have _ := hx
    have c_1 : ¬ (s9 = 11) := fun z => c_1 ((nI_eq (a := s9) (b := 11) (by omega) (by omega)).mpr z)
    refine lv_iload_n hx hb dX5_made_14 rfl (lv_at hl 0 rfl) ?_
    refine lv_bipush (v := (nI 12)) hx hb dX5_made_15 (by decide) ?_
    refine lv_icmp_ne (tgt := 28) hx hb dX5_made_17 (by decide) (fun c_2 => ?_) (fun c_2 => ?_)
    · have _ := hx
      have c_2 : ¬ (s9 = 12) := fun z => c_2 ((nI_eq (a := s9) (b := 12) (by omega) (by omega)).mpr z)
      refine lv_iload_n hx hb dX5_made_28 rfl (lv_at hl 0 rfl) ?_
      refine lv_bipush (v := (nI 13)) hx hb dX5_made_29 (by decide) ?_
      refine lv_icmp_ne (tgt := 42) hx hb dX5_made_31 (by decide) (fun c_3 => ?_) (fun c_3 => ?_)
      · have _ := hx
        have c_3 : ¬ (s9 = 13) := fun z => c_3 ((nI_eq (a := s9) (b := 13) (by omega) (by omega)).mpr z)
        refine lv_iload_n hx hb dX5_made_42 rfl (lv_at hl 0 rfl) ?_
        refine lv_bipush (v := (nI 14)) hx hb dX5_made_43 (by decide) ?_
        refine lv_icmp_ne (tgt := 63) hx hb dX5_made_45 (by decide) (fun c_4 => ?_) (fun c_4 => ?_)
        · have _ := hx
          have c_4 : ¬ (s9 = 14) := fun z => c_4 ((nI_eq (a := s9) (b := 14) (by omega) (by omega)).mpr z)
          refine lv_iload_n hx hb dX5_made_63 rfl (lv_at hl 0 rfl) ?_
          refine lv_bipush (v := (nI 15)) hx hb dX5_made_64 (by decide) ?_
          refine lv_icmp_ne (tgt := 84) hx hb dX5_made_66 (by decide) (fun c_5 => ?_) (fun c_5 => ?_)
          · have _ := hx
            have c_5 : ¬ (s9 = 15) := fun z => c_5 ((nI_eq (a := s9) (b := 15) (by omega) (by omega)).mpr z)
            refine lv_iload_n hx hb dX5_made_84 rfl (lv_at hl 1 rfl) ?_
            refine lv_iload_n hx hb dX5_made_85 rfl (lv_at hl 2 rfl) ?_
            refine lv_icmp_le (tgt := 94) hx hb dX5_made_86 (by decide) (fun c_6 => ?_) (fun c_6 => ?_)
            · have _ := hx
              have hxy : x ≤ y := (zI_le (a := x) (b := y) (by omega) (by omega)).mp c_6
              refine lv_iload_n hx hb dX5_made_94 rfl (lv_at hl 2 rfl) ?_
              refine lv_i2l (v := Int64.ofInt y) hx hb dX5_made_95 (xz2l hy1.1 hy1.2) ?_
              rw [show (Int64.ofInt y) = Int64.ofInt (xop s9 x y) from by rw [(show s9 = 16 by omega), show xop 16 x y = (if y ≤ x then x else y) from rfl]; by_cases q : y ≤ x; (rw [if_pos q] <;> exact congrArg _ (by omega)); (rw [if_neg q] <;> exact congrArg _ (by omega))]
              refine lv_lstore_n (lv' := [(3, .long (Int64.ofInt (xop s9 x y))), (0, .int (nI s9)), (1, .int (Int32.ofInt x)), (2, .int (Int32.ofInt y))]) hx hb dX5_made_96 rfl hl (by decide) rfl (fun ls hl => ?_)
              refine lv_lload_n hx hb dX5_made_97 rfl (lv_at hl 0 rfl) ?_
              refine lv_ldc2 (v := (100000)) hx hb hown (hts (.constantLong RX5 52 (100000)) (by decide +kernel)) dX5_made_98 ?_
              refine W.lcmp hx hb dX5_made_101 ?_
              refine lv_if_le (tgt := 111) hx hb dX5_made_102 (by decide) (fun c_7 => ?_) (fun c_7 => ?_)
              · have _ := hx
                have hhi : xop s9 x y ≤ 100000 := (xlk_hi hz9).mp c_7
                refine lv_lload_n hx hb dX5_made_111 rfl (lv_at hl 0 rfl) ?_
                refine lv_ldc2 (v := (-100000)) hx hb hown (hts (.constantLong RX5 54 (-100000)) (by decide +kernel)) dX5_made_112 ?_
                refine W.lcmp hx hb dX5_made_115 ?_
                refine lv_if_ge (tgt := 125) hx hb dX5_made_116 (by decide) (fun c_8 => ?_) (fun c_8 => ?_)
                · have _ := hx
                  have hlo : -100000 ≤ xop s9 x y := (xlk_lo hz9).mp c_8
                  refine lv_lload_n hx hb dX5_made_125 rfl (lv_at hl 0 rfl) ?_
                  refine lv_l2i (v := Int32.ofInt (xcl (xop s9 x y))) hx hb dX5_made_126 (by unfold xcl; rw [if_neg (by omega), if_neg (by omega), Int64.toInt32_ofInt]) ?_
                  exact x_iret (G := G) hx hb hr rfl dX5_made_127 hlocks hS (by first | exact Nat.le_of_ble_eq_true rfl | exact (show 0 ≤ 0 by omega)) (by first | exact Nat.le_of_ble_eq_true rfl | exact (show 0 ≤ 0 by omega)) ⟨rfl, rfl⟩
                · have _ := hx
                  have hlo : ¬ -100000 ≤ xop s9 x y := fun q => c_8 ((xlk_lo hz9).mpr q)
                  refine lv_ldc2 (v := (-100000)) hx hb hown (hts (.constantLong RX5 54 (-100000)) (by decide +kernel)) dX5_made_119 ?_
                  refine lv_goto (tgt := 126) hx hb dX5_made_122 (by decide) ?_
                  refine lv_l2i (v := Int32.ofInt (xcl (xop s9 x y))) hx hb dX5_made_126 (by unfold xcl; rw [if_neg (by omega), if_pos (by omega)]; rfl) ?_
                  exact x_iret (G := G) hx hb hr rfl dX5_made_127 hlocks hS (by first | exact Nat.le_of_ble_eq_true rfl | exact (show 0 ≤ 0 by omega)) (by first | exact Nat.le_of_ble_eq_true rfl | exact (show 0 ≤ 0 by omega)) ⟨rfl, rfl⟩
              · have _ := hx
                have hhi : ¬ xop s9 x y ≤ 100000 := fun q => c_7 ((xlk_hi hz9).mpr q)
                refine lv_ldc2 (v := (100000)) hx hb hown (hts (.constantLong RX5 52 (100000)) (by decide +kernel)) dX5_made_105 ?_
                refine lv_goto (tgt := 126) hx hb dX5_made_108 (by decide) ?_
                refine lv_l2i (v := Int32.ofInt (xcl (xop s9 x y))) hx hb dX5_made_126 (by unfold xcl; rw [if_pos (by omega)]; rfl) ?_
                exact x_iret (G := G) hx hb hr rfl dX5_made_127 hlocks hS (by first | exact Nat.le_of_ble_eq_true rfl | exact (show 0 ≤ 0 by omega)) (by first | exact Nat.le_of_ble_eq_true rfl | exact (show 0 ≤ 0 by omega)) ⟨rfl, rfl⟩
            · have _ := hx
              have hxy : ¬ x ≤ y := fun q => c_6 ((zI_le (a := x) (b := y) (by omega) (by omega)).mpr q)
              refine lv_iload_n hx hb dX5_made_89 rfl (lv_at hl 1 rfl) ?_
              refine lv_i2l (v := Int64.ofInt x) hx hb dX5_made_90 (xz2l hx1.1 hx1.2) ?_
              refine lv_goto (tgt := 96) hx hb dX5_made_91 (by decide) ?_
              rw [show (Int64.ofInt x) = Int64.ofInt (xop s9 x y) from by rw [(show s9 = 16 by omega), show xop 16 x y = (if y ≤ x then x else y) from rfl]; by_cases q : y ≤ x; (rw [if_pos q] <;> exact congrArg _ (by omega)); (rw [if_neg q] <;> exact congrArg _ (by omega))]
              refine lv_lstore_n (lv' := [(3, .long (Int64.ofInt (xop s9 x y))), (0, .int (nI s9)), (1, .int (Int32.ofInt x)), (2, .int (Int32.ofInt y))]) hx hb dX5_made_96 rfl hl (by decide) rfl (fun ls hl => ?_)
              refine lv_lload_n hx hb dX5_made_97 rfl (lv_at hl 0 rfl) ?_
              refine lv_ldc2 (v := (100000)) hx hb hown (hts (.constantLong RX5 52 (100000)) (by decide +kernel)) dX5_made_98 ?_
              refine W.lcmp hx hb dX5_made_101 ?_
              refine lv_if_le (tgt := 111) hx hb dX5_made_102 (by decide) (fun c_9 => ?_) (fun c_9 => ?_)
              · have _ := hx
                have hhi : xop s9 x y ≤ 100000 := (xlk_hi hz9).mp c_9
                refine lv_lload_n hx hb dX5_made_111 rfl (lv_at hl 0 rfl) ?_
                refine lv_ldc2 (v := (-100000)) hx hb hown (hts (.constantLong RX5 54 (-100000)) (by decide +kernel)) dX5_made_112 ?_
                refine W.lcmp hx hb dX5_made_115 ?_
                refine lv_if_ge (tgt := 125) hx hb dX5_made_116 (by decide) (fun c_10 => ?_) (fun c_10 => ?_)
                · have _ := hx
                  have hlo : -100000 ≤ xop s9 x y := (xlk_lo hz9).mp c_10
                  refine lv_lload_n hx hb dX5_made_125 rfl (lv_at hl 0 rfl) ?_
                  refine lv_l2i (v := Int32.ofInt (xcl (xop s9 x y))) hx hb dX5_made_126 (by unfold xcl; rw [if_neg (by omega), if_neg (by omega), Int64.toInt32_ofInt]) ?_
                  exact x_iret (G := G) hx hb hr rfl dX5_made_127 hlocks hS (by first | exact Nat.le_of_ble_eq_true rfl | exact (show 0 ≤ 0 by omega)) (by first | exact Nat.le_of_ble_eq_true rfl | exact (show 0 ≤ 0 by omega)) ⟨rfl, rfl⟩
                · have _ := hx
                  have hlo : ¬ -100000 ≤ xop s9 x y := fun q => c_10 ((xlk_lo hz9).mpr q)
                  refine lv_ldc2 (v := (-100000)) hx hb hown (hts (.constantLong RX5 54 (-100000)) (by decide +kernel)) dX5_made_119 ?_
                  refine lv_goto (tgt := 126) hx hb dX5_made_122 (by decide) ?_
                  refine lv_l2i (v := Int32.ofInt (xcl (xop s9 x y))) hx hb dX5_made_126 (by unfold xcl; rw [if_neg (by omega), if_pos (by omega)]; rfl) ?_
                  exact x_iret (G := G) hx hb hr rfl dX5_made_127 hlocks hS (by first | exact Nat.le_of_ble_eq_true rfl | exact (show 0 ≤ 0 by omega)) (by first | exact Nat.le_of_ble_eq_true rfl | exact (show 0 ≤ 0 by omega)) ⟨rfl, rfl⟩
              · have _ := hx
                have hhi : ¬ xop s9 x y ≤ 100000 := fun q => c_9 ((xlk_hi hz9).mpr q)
                refine lv_ldc2 (v := (100000)) hx hb hown (hts (.constantLong RX5 52 (100000)) (by decide +kernel)) dX5_made_105 ?_
                refine lv_goto (tgt := 126) hx hb dX5_made_108 (by decide) ?_
                refine lv_l2i (v := Int32.ofInt (xcl (xop s9 x y))) hx hb dX5_made_126 (by unfold xcl; rw [if_pos (by omega)]; rfl) ?_
                exact x_iret (G := G) hx hb hr rfl dX5_made_127 hlocks hS (by first | exact Nat.le_of_ble_eq_true rfl | exact (show 0 ≤ 0 by omega)) (by first | exact Nat.le_of_ble_eq_true rfl | exact (show 0 ≤ 0 by omega)) ⟨rfl, rfl⟩
          · have _ := hx
            have c_5 : s9 = 15 := (nI_eq (a := s9) (b := 15) (by omega) (by omega)).mp c_5
            refine lv_iload_n hx hb dX5_made_69 rfl (lv_at hl 1 rfl) ?_
            refine lv_iload_n hx hb dX5_made_70 rfl (lv_at hl 2 rfl) ?_
            refine lv_icmp_ge (tgt := 79) hx hb dX5_made_71 (by decide) (fun c_11 => ?_) (fun c_11 => ?_)
            · have _ := hx
              have hxy : y ≤ x := (zI_le (a := y) (b := x) (by omega) (by omega)).mp c_11
              refine lv_iload_n hx hb dX5_made_79 rfl (lv_at hl 2 rfl) ?_
              refine lv_i2l (v := Int64.ofInt y) hx hb dX5_made_80 (xz2l hy1.1 hy1.2) ?_
              refine lv_goto (tgt := 96) hx hb dX5_made_81 (by decide) ?_
              rw [show (Int64.ofInt y) = Int64.ofInt (xop s9 x y) from by rw [(show s9 = 15 by omega), show xop 15 x y = (if x ≤ y then x else y) from rfl]; by_cases q : x ≤ y; (rw [if_pos q] <;> exact congrArg _ (by omega)); (rw [if_neg q] <;> exact congrArg _ (by omega))]
              refine lv_lstore_n (lv' := [(3, .long (Int64.ofInt (xop s9 x y))), (0, .int (nI s9)), (1, .int (Int32.ofInt x)), (2, .int (Int32.ofInt y))]) hx hb dX5_made_96 rfl hl (by decide) rfl (fun ls hl => ?_)
              refine lv_lload_n hx hb dX5_made_97 rfl (lv_at hl 0 rfl) ?_
              refine lv_ldc2 (v := (100000)) hx hb hown (hts (.constantLong RX5 52 (100000)) (by decide +kernel)) dX5_made_98 ?_
              refine W.lcmp hx hb dX5_made_101 ?_
              refine lv_if_le (tgt := 111) hx hb dX5_made_102 (by decide) (fun c_12 => ?_) (fun c_12 => ?_)
              · have _ := hx
                have hhi : xop s9 x y ≤ 100000 := (xlk_hi hz9).mp c_12
                refine lv_lload_n hx hb dX5_made_111 rfl (lv_at hl 0 rfl) ?_
                refine lv_ldc2 (v := (-100000)) hx hb hown (hts (.constantLong RX5 54 (-100000)) (by decide +kernel)) dX5_made_112 ?_
                refine W.lcmp hx hb dX5_made_115 ?_
                refine lv_if_ge (tgt := 125) hx hb dX5_made_116 (by decide) (fun c_13 => ?_) (fun c_13 => ?_)
                · have _ := hx
                  have hlo : -100000 ≤ xop s9 x y := (xlk_lo hz9).mp c_13
                  refine lv_lload_n hx hb dX5_made_125 rfl (lv_at hl 0 rfl) ?_
                  refine lv_l2i (v := Int32.ofInt (xcl (xop s9 x y))) hx hb dX5_made_126 (by unfold xcl; rw [if_neg (by omega), if_neg (by omega), Int64.toInt32_ofInt]) ?_
                  exact x_iret (G := G) hx hb hr rfl dX5_made_127 hlocks hS (by first | exact Nat.le_of_ble_eq_true rfl | exact (show 0 ≤ 0 by omega)) (by first | exact Nat.le_of_ble_eq_true rfl | exact (show 0 ≤ 0 by omega)) ⟨rfl, rfl⟩
                · have _ := hx
                  have hlo : ¬ -100000 ≤ xop s9 x y := fun q => c_13 ((xlk_lo hz9).mpr q)
                  refine lv_ldc2 (v := (-100000)) hx hb hown (hts (.constantLong RX5 54 (-100000)) (by decide +kernel)) dX5_made_119 ?_
                  refine lv_goto (tgt := 126) hx hb dX5_made_122 (by decide) ?_
                  refine lv_l2i (v := Int32.ofInt (xcl (xop s9 x y))) hx hb dX5_made_126 (by unfold xcl; rw [if_neg (by omega), if_pos (by omega)]; rfl) ?_
                  exact x_iret (G := G) hx hb hr rfl dX5_made_127 hlocks hS (by first | exact Nat.le_of_ble_eq_true rfl | exact (show 0 ≤ 0 by omega)) (by first | exact Nat.le_of_ble_eq_true rfl | exact (show 0 ≤ 0 by omega)) ⟨rfl, rfl⟩
              · have _ := hx
                have hhi : ¬ xop s9 x y ≤ 100000 := fun q => c_12 ((xlk_hi hz9).mpr q)
                refine lv_ldc2 (v := (100000)) hx hb hown (hts (.constantLong RX5 52 (100000)) (by decide +kernel)) dX5_made_105 ?_
                refine lv_goto (tgt := 126) hx hb dX5_made_108 (by decide) ?_
                refine lv_l2i (v := Int32.ofInt (xcl (xop s9 x y))) hx hb dX5_made_126 (by unfold xcl; rw [if_pos (by omega)]; rfl) ?_
                exact x_iret (G := G) hx hb hr rfl dX5_made_127 hlocks hS (by first | exact Nat.le_of_ble_eq_true rfl | exact (show 0 ≤ 0 by omega)) (by first | exact Nat.le_of_ble_eq_true rfl | exact (show 0 ≤ 0 by omega)) ⟨rfl, rfl⟩
            · have _ := hx
              have hxy : ¬ y ≤ x := fun q => c_11 ((zI_le (a := y) (b := x) (by omega) (by omega)).mpr q)
              refine lv_iload_n hx hb dX5_made_74 rfl (lv_at hl 1 rfl) ?_
              refine lv_i2l (v := Int64.ofInt x) hx hb dX5_made_75 (xz2l hx1.1 hx1.2) ?_
              refine lv_goto (tgt := 96) hx hb dX5_made_76 (by decide) ?_
              rw [show (Int64.ofInt x) = Int64.ofInt (xop s9 x y) from by rw [(show s9 = 15 by omega), show xop 15 x y = (if x ≤ y then x else y) from rfl]; by_cases q : x ≤ y; (rw [if_pos q] <;> exact congrArg _ (by omega)); (rw [if_neg q] <;> exact congrArg _ (by omega))]
              refine lv_lstore_n (lv' := [(3, .long (Int64.ofInt (xop s9 x y))), (0, .int (nI s9)), (1, .int (Int32.ofInt x)), (2, .int (Int32.ofInt y))]) hx hb dX5_made_96 rfl hl (by decide) rfl (fun ls hl => ?_)
              refine lv_lload_n hx hb dX5_made_97 rfl (lv_at hl 0 rfl) ?_
              refine lv_ldc2 (v := (100000)) hx hb hown (hts (.constantLong RX5 52 (100000)) (by decide +kernel)) dX5_made_98 ?_
              refine W.lcmp hx hb dX5_made_101 ?_
              refine lv_if_le (tgt := 111) hx hb dX5_made_102 (by decide) (fun c_14 => ?_) (fun c_14 => ?_)
              · have _ := hx
                have hhi : xop s9 x y ≤ 100000 := (xlk_hi hz9).mp c_14
                refine lv_lload_n hx hb dX5_made_111 rfl (lv_at hl 0 rfl) ?_
                refine lv_ldc2 (v := (-100000)) hx hb hown (hts (.constantLong RX5 54 (-100000)) (by decide +kernel)) dX5_made_112 ?_
                refine W.lcmp hx hb dX5_made_115 ?_
                refine lv_if_ge (tgt := 125) hx hb dX5_made_116 (by decide) (fun c_15 => ?_) (fun c_15 => ?_)
                · have _ := hx
                  have hlo : -100000 ≤ xop s9 x y := (xlk_lo hz9).mp c_15
                  refine lv_lload_n hx hb dX5_made_125 rfl (lv_at hl 0 rfl) ?_
                  refine lv_l2i (v := Int32.ofInt (xcl (xop s9 x y))) hx hb dX5_made_126 (by unfold xcl; rw [if_neg (by omega), if_neg (by omega), Int64.toInt32_ofInt]) ?_
                  exact x_iret (G := G) hx hb hr rfl dX5_made_127 hlocks hS (by first | exact Nat.le_of_ble_eq_true rfl | exact (show 0 ≤ 0 by omega)) (by first | exact Nat.le_of_ble_eq_true rfl | exact (show 0 ≤ 0 by omega)) ⟨rfl, rfl⟩
                · have _ := hx
                  have hlo : ¬ -100000 ≤ xop s9 x y := fun q => c_15 ((xlk_lo hz9).mpr q)
                  refine lv_ldc2 (v := (-100000)) hx hb hown (hts (.constantLong RX5 54 (-100000)) (by decide +kernel)) dX5_made_119 ?_
                  refine lv_goto (tgt := 126) hx hb dX5_made_122 (by decide) ?_
                  refine lv_l2i (v := Int32.ofInt (xcl (xop s9 x y))) hx hb dX5_made_126 (by unfold xcl; rw [if_neg (by omega), if_pos (by omega)]; rfl) ?_
                  exact x_iret (G := G) hx hb hr rfl dX5_made_127 hlocks hS (by first | exact Nat.le_of_ble_eq_true rfl | exact (show 0 ≤ 0 by omega)) (by first | exact Nat.le_of_ble_eq_true rfl | exact (show 0 ≤ 0 by omega)) ⟨rfl, rfl⟩
              · have _ := hx
                have hhi : ¬ xop s9 x y ≤ 100000 := fun q => c_14 ((xlk_hi hz9).mpr q)
                refine lv_ldc2 (v := (100000)) hx hb hown (hts (.constantLong RX5 52 (100000)) (by decide +kernel)) dX5_made_105 ?_
                refine lv_goto (tgt := 126) hx hb dX5_made_108 (by decide) ?_
                refine lv_l2i (v := Int32.ofInt (xcl (xop s9 x y))) hx hb dX5_made_126 (by unfold xcl; rw [if_pos (by omega)]; rfl) ?_
                exact x_iret (G := G) hx hb hr rfl dX5_made_127 hlocks hS (by first | exact Nat.le_of_ble_eq_true rfl | exact (show 0 ≤ 0 by omega)) (by first | exact Nat.le_of_ble_eq_true rfl | exact (show 0 ≤ 0 by omega)) ⟨rfl, rfl⟩
        · have _ := hx
          have c_4 : s9 = 14 := (nI_eq (a := s9) (b := 14) (by omega) (by omega)).mp c_4
          refine lv_iload_n hx hb dX5_made_48 rfl (lv_at hl 2 rfl) ?_
          refine lv_if_ne (tgt := 56) hx hb dX5_made_49 (by decide) (fun c_16 => ?_) (fun c_16 => ?_)
          · have _ := hx
            have hy0 : y ≠ 0 := fun q => c_16 ((xi_0 hy1).mpr q)
            refine lv_iload_n hx hb dX5_made_56 rfl (lv_at hl 1 rfl) ?_
            refine lv_iload_n hx hb dX5_made_57 rfl (lv_at hl 2 rfl) ?_
            refine lv_idiv hx hb dX5_made_58 (fun q => hy0 ((xi_0 hy1).mp q)) ?_
            refine lv_i2l (v := Int64.ofInt (x.tdiv y)) hx hb dX5_made_59 (xdiv2l hx1 hy1) ?_
            refine lv_goto (tgt := 96) hx hb dX5_made_60 (by decide) ?_
            rw [show (Int64.ofInt (x.tdiv y)) = Int64.ofInt (xop s9 x y) from by rw [(show s9 = 14 by omega), show xop 14 x y = x.tdiv y from if_neg hy0]]
            refine lv_lstore_n (lv' := [(3, .long (Int64.ofInt (xop s9 x y))), (0, .int (nI s9)), (1, .int (Int32.ofInt x)), (2, .int (Int32.ofInt y))]) hx hb dX5_made_96 rfl hl (by decide) rfl (fun ls hl => ?_)
            refine lv_lload_n hx hb dX5_made_97 rfl (lv_at hl 0 rfl) ?_
            refine lv_ldc2 (v := (100000)) hx hb hown (hts (.constantLong RX5 52 (100000)) (by decide +kernel)) dX5_made_98 ?_
            refine W.lcmp hx hb dX5_made_101 ?_
            refine lv_if_le (tgt := 111) hx hb dX5_made_102 (by decide) (fun c_17 => ?_) (fun c_17 => ?_)
            · have _ := hx
              have hhi : xop s9 x y ≤ 100000 := (xlk_hi hz9).mp c_17
              refine lv_lload_n hx hb dX5_made_111 rfl (lv_at hl 0 rfl) ?_
              refine lv_ldc2 (v := (-100000)) hx hb hown (hts (.constantLong RX5 54 (-100000)) (by decide +kernel)) dX5_made_112 ?_
              refine W.lcmp hx hb dX5_made_115 ?_
              refine lv_if_ge (tgt := 125) hx hb dX5_made_116 (by decide) (fun c_18 => ?_) (fun c_18 => ?_)
              · have _ := hx
                have hlo : -100000 ≤ xop s9 x y := (xlk_lo hz9).mp c_18
                refine lv_lload_n hx hb dX5_made_125 rfl (lv_at hl 0 rfl) ?_
                refine lv_l2i (v := Int32.ofInt (xcl (xop s9 x y))) hx hb dX5_made_126 (by unfold xcl; rw [if_neg (by omega), if_neg (by omega), Int64.toInt32_ofInt]) ?_
                exact x_iret (G := G) hx hb hr rfl dX5_made_127 hlocks hS (by first | exact Nat.le_of_ble_eq_true rfl | exact (show 0 ≤ 0 by omega)) (by first | exact Nat.le_of_ble_eq_true rfl | exact (show 0 ≤ 0 by omega)) ⟨rfl, rfl⟩
              · have _ := hx
                have hlo : ¬ -100000 ≤ xop s9 x y := fun q => c_18 ((xlk_lo hz9).mpr q)
                refine lv_ldc2 (v := (-100000)) hx hb hown (hts (.constantLong RX5 54 (-100000)) (by decide +kernel)) dX5_made_119 ?_
                refine lv_goto (tgt := 126) hx hb dX5_made_122 (by decide) ?_
                refine lv_l2i (v := Int32.ofInt (xcl (xop s9 x y))) hx hb dX5_made_126 (by unfold xcl; rw [if_neg (by omega), if_pos (by omega)]; rfl) ?_
                exact x_iret (G := G) hx hb hr rfl dX5_made_127 hlocks hS (by first | exact Nat.le_of_ble_eq_true rfl | exact (show 0 ≤ 0 by omega)) (by first | exact Nat.le_of_ble_eq_true rfl | exact (show 0 ≤ 0 by omega)) ⟨rfl, rfl⟩
            · have _ := hx
              have hhi : ¬ xop s9 x y ≤ 100000 := fun q => c_17 ((xlk_hi hz9).mpr q)
              refine lv_ldc2 (v := (100000)) hx hb hown (hts (.constantLong RX5 52 (100000)) (by decide +kernel)) dX5_made_105 ?_
              refine lv_goto (tgt := 126) hx hb dX5_made_108 (by decide) ?_
              refine lv_l2i (v := Int32.ofInt (xcl (xop s9 x y))) hx hb dX5_made_126 (by unfold xcl; rw [if_pos (by omega)]; rfl) ?_
              exact x_iret (G := G) hx hb hr rfl dX5_made_127 hlocks hS (by first | exact Nat.le_of_ble_eq_true rfl | exact (show 0 ≤ 0 by omega)) (by first | exact Nat.le_of_ble_eq_true rfl | exact (show 0 ≤ 0 by omega)) ⟨rfl, rfl⟩
          · have _ := hx
            have hy0 : y = 0 := (xi_0 hy1).mp (by first | exact c_16 | exact Classical.not_not.mp c_16)
            refine lv_lconst (v := (lN 0)) hx hb dX5_made_52 (by decide) ?_
            refine lv_goto (tgt := 96) hx hb dX5_made_53 (by decide) ?_
            rw [show (lN 0) = Int64.ofInt (xop s9 x y) from by rw [(show s9 = 14 by omega), show xop 14 x y = 0 from if_pos hy0]; rfl]
            refine lv_lstore_n (lv' := [(3, .long (Int64.ofInt (xop s9 x y))), (0, .int (nI s9)), (1, .int (Int32.ofInt x)), (2, .int (Int32.ofInt y))]) hx hb dX5_made_96 rfl hl (by decide) rfl (fun ls hl => ?_)
            refine lv_lload_n hx hb dX5_made_97 rfl (lv_at hl 0 rfl) ?_
            refine lv_ldc2 (v := (100000)) hx hb hown (hts (.constantLong RX5 52 (100000)) (by decide +kernel)) dX5_made_98 ?_
            refine W.lcmp hx hb dX5_made_101 ?_
            refine lv_if_le (tgt := 111) hx hb dX5_made_102 (by decide) (fun c_19 => ?_) (fun c_19 => ?_)
            · have _ := hx
              have hhi : xop s9 x y ≤ 100000 := (xlk_hi hz9).mp c_19
              refine lv_lload_n hx hb dX5_made_111 rfl (lv_at hl 0 rfl) ?_
              refine lv_ldc2 (v := (-100000)) hx hb hown (hts (.constantLong RX5 54 (-100000)) (by decide +kernel)) dX5_made_112 ?_
              refine W.lcmp hx hb dX5_made_115 ?_
              refine lv_if_ge (tgt := 125) hx hb dX5_made_116 (by decide) (fun c_20 => ?_) (fun c_20 => ?_)
              · have _ := hx
                have hlo : -100000 ≤ xop s9 x y := (xlk_lo hz9).mp c_20
                refine lv_lload_n hx hb dX5_made_125 rfl (lv_at hl 0 rfl) ?_
                refine lv_l2i (v := Int32.ofInt (xcl (xop s9 x y))) hx hb dX5_made_126 (by unfold xcl; rw [if_neg (by omega), if_neg (by omega), Int64.toInt32_ofInt]) ?_
                exact x_iret (G := G) hx hb hr rfl dX5_made_127 hlocks hS (by first | exact Nat.le_of_ble_eq_true rfl | exact (show 0 ≤ 0 by omega)) (by first | exact Nat.le_of_ble_eq_true rfl | exact (show 0 ≤ 0 by omega)) ⟨rfl, rfl⟩
              · have _ := hx
                have hlo : ¬ -100000 ≤ xop s9 x y := fun q => c_20 ((xlk_lo hz9).mpr q)
                refine lv_ldc2 (v := (-100000)) hx hb hown (hts (.constantLong RX5 54 (-100000)) (by decide +kernel)) dX5_made_119 ?_
                refine lv_goto (tgt := 126) hx hb dX5_made_122 (by decide) ?_
                refine lv_l2i (v := Int32.ofInt (xcl (xop s9 x y))) hx hb dX5_made_126 (by unfold xcl; rw [if_neg (by omega), if_pos (by omega)]; rfl) ?_
                exact x_iret (G := G) hx hb hr rfl dX5_made_127 hlocks hS (by first | exact Nat.le_of_ble_eq_true rfl | exact (show 0 ≤ 0 by omega)) (by first | exact Nat.le_of_ble_eq_true rfl | exact (show 0 ≤ 0 by omega)) ⟨rfl, rfl⟩
            · have _ := hx
              have hhi : ¬ xop s9 x y ≤ 100000 := fun q => c_19 ((xlk_hi hz9).mpr q)
              refine lv_ldc2 (v := (100000)) hx hb hown (hts (.constantLong RX5 52 (100000)) (by decide +kernel)) dX5_made_105 ?_
              refine lv_goto (tgt := 126) hx hb dX5_made_108 (by decide) ?_
              refine lv_l2i (v := Int32.ofInt (xcl (xop s9 x y))) hx hb dX5_made_126 (by unfold xcl; rw [if_pos (by omega)]; rfl) ?_
              exact x_iret (G := G) hx hb hr rfl dX5_made_127 hlocks hS (by first | exact Nat.le_of_ble_eq_true rfl | exact (show 0 ≤ 0 by omega)) (by first | exact Nat.le_of_ble_eq_true rfl | exact (show 0 ≤ 0 by omega)) ⟨rfl, rfl⟩
      · have _ := hx
        have c_3 : s9 = 13 := (nI_eq (a := s9) (b := 13) (by omega) (by omega)).mp c_3
        refine lv_iload_n hx hb dX5_made_34 rfl (lv_at hl 1 rfl) ?_
        refine lv_i2l (v := Int64.ofInt x) hx hb dX5_made_35 (xz2l hx1.1 hx1.2) ?_
        refine lv_iload_n hx hb dX5_made_36 rfl (lv_at hl 2 rfl) ?_
        refine lv_i2l (v := Int64.ofInt y) hx hb dX5_made_37 (xz2l hy1.1 hy1.2) ?_
        refine lv_lmul hx hb dX5_made_38 ?_
        refine lv_goto (tgt := 96) hx hb dX5_made_39 (by decide) ?_
        rw [show ((Int64.ofInt x) * (Int64.ofInt y)) = Int64.ofInt (xop s9 x y) from by rw [(show s9 = 13 by omega), ← Int64.ofInt_mul]; rfl]
        refine lv_lstore_n (lv' := [(3, .long (Int64.ofInt (xop s9 x y))), (0, .int (nI s9)), (1, .int (Int32.ofInt x)), (2, .int (Int32.ofInt y))]) hx hb dX5_made_96 rfl hl (by decide) rfl (fun ls hl => ?_)
        refine lv_lload_n hx hb dX5_made_97 rfl (lv_at hl 0 rfl) ?_
        refine lv_ldc2 (v := (100000)) hx hb hown (hts (.constantLong RX5 52 (100000)) (by decide +kernel)) dX5_made_98 ?_
        refine W.lcmp hx hb dX5_made_101 ?_
        refine lv_if_le (tgt := 111) hx hb dX5_made_102 (by decide) (fun c_21 => ?_) (fun c_21 => ?_)
        · have _ := hx
          have hhi : xop s9 x y ≤ 100000 := (xlk_hi hz9).mp c_21
          refine lv_lload_n hx hb dX5_made_111 rfl (lv_at hl 0 rfl) ?_
          refine lv_ldc2 (v := (-100000)) hx hb hown (hts (.constantLong RX5 54 (-100000)) (by decide +kernel)) dX5_made_112 ?_
          refine W.lcmp hx hb dX5_made_115 ?_
          refine lv_if_ge (tgt := 125) hx hb dX5_made_116 (by decide) (fun c_22 => ?_) (fun c_22 => ?_)
          · have _ := hx
            have hlo : -100000 ≤ xop s9 x y := (xlk_lo hz9).mp c_22
            refine lv_lload_n hx hb dX5_made_125 rfl (lv_at hl 0 rfl) ?_
            refine lv_l2i (v := Int32.ofInt (xcl (xop s9 x y))) hx hb dX5_made_126 (by unfold xcl; rw [if_neg (by omega), if_neg (by omega), Int64.toInt32_ofInt]) ?_
            exact x_iret (G := G) hx hb hr rfl dX5_made_127 hlocks hS (by first | exact Nat.le_of_ble_eq_true rfl | exact (show 0 ≤ 0 by omega)) (by first | exact Nat.le_of_ble_eq_true rfl | exact (show 0 ≤ 0 by omega)) ⟨rfl, rfl⟩
          · have _ := hx
            have hlo : ¬ -100000 ≤ xop s9 x y := fun q => c_22 ((xlk_lo hz9).mpr q)
            refine lv_ldc2 (v := (-100000)) hx hb hown (hts (.constantLong RX5 54 (-100000)) (by decide +kernel)) dX5_made_119 ?_
            refine lv_goto (tgt := 126) hx hb dX5_made_122 (by decide) ?_
            refine lv_l2i (v := Int32.ofInt (xcl (xop s9 x y))) hx hb dX5_made_126 (by unfold xcl; rw [if_neg (by omega), if_pos (by omega)]; rfl) ?_
            exact x_iret (G := G) hx hb hr rfl dX5_made_127 hlocks hS (by first | exact Nat.le_of_ble_eq_true rfl | exact (show 0 ≤ 0 by omega)) (by first | exact Nat.le_of_ble_eq_true rfl | exact (show 0 ≤ 0 by omega)) ⟨rfl, rfl⟩
        · have _ := hx
          have hhi : ¬ xop s9 x y ≤ 100000 := fun q => c_21 ((xlk_hi hz9).mpr q)
          refine lv_ldc2 (v := (100000)) hx hb hown (hts (.constantLong RX5 52 (100000)) (by decide +kernel)) dX5_made_105 ?_
          refine lv_goto (tgt := 126) hx hb dX5_made_108 (by decide) ?_
          refine lv_l2i (v := Int32.ofInt (xcl (xop s9 x y))) hx hb dX5_made_126 (by unfold xcl; rw [if_pos (by omega)]; rfl) ?_
          exact x_iret (G := G) hx hb hr rfl dX5_made_127 hlocks hS (by first | exact Nat.le_of_ble_eq_true rfl | exact (show 0 ≤ 0 by omega)) (by first | exact Nat.le_of_ble_eq_true rfl | exact (show 0 ≤ 0 by omega)) ⟨rfl, rfl⟩
    · have _ := hx
      have c_2 : s9 = 12 := (nI_eq (a := s9) (b := 12) (by omega) (by omega)).mp c_2
      refine lv_iload_n hx hb dX5_made_20 rfl (lv_at hl 1 rfl) ?_
      refine lv_i2l (v := Int64.ofInt x) hx hb dX5_made_21 (xz2l hx1.1 hx1.2) ?_
      refine lv_iload_n hx hb dX5_made_22 rfl (lv_at hl 2 rfl) ?_
      refine lv_i2l (v := Int64.ofInt y) hx hb dX5_made_23 (xz2l hy1.1 hy1.2) ?_
      refine lv_lsub hx hb dX5_made_24 ?_
      refine lv_goto (tgt := 96) hx hb dX5_made_25 (by decide) ?_
      rw [show ((Int64.ofInt x) - (Int64.ofInt y)) = Int64.ofInt (xop s9 x y) from by rw [(show s9 = 12 by omega), ← Int64.ofInt_sub]; rfl]
      refine lv_lstore_n (lv' := [(3, .long (Int64.ofInt (xop s9 x y))), (0, .int (nI s9)), (1, .int (Int32.ofInt x)), (2, .int (Int32.ofInt y))]) hx hb dX5_made_96 rfl hl (by decide) rfl (fun ls hl => ?_)
      refine lv_lload_n hx hb dX5_made_97 rfl (lv_at hl 0 rfl) ?_
      refine lv_ldc2 (v := (100000)) hx hb hown (hts (.constantLong RX5 52 (100000)) (by decide +kernel)) dX5_made_98 ?_
      refine W.lcmp hx hb dX5_made_101 ?_
      refine lv_if_le (tgt := 111) hx hb dX5_made_102 (by decide) (fun c_23 => ?_) (fun c_23 => ?_)
      · have _ := hx
        have hhi : xop s9 x y ≤ 100000 := (xlk_hi hz9).mp c_23
        refine lv_lload_n hx hb dX5_made_111 rfl (lv_at hl 0 rfl) ?_
        refine lv_ldc2 (v := (-100000)) hx hb hown (hts (.constantLong RX5 54 (-100000)) (by decide +kernel)) dX5_made_112 ?_
        refine W.lcmp hx hb dX5_made_115 ?_
        refine lv_if_ge (tgt := 125) hx hb dX5_made_116 (by decide) (fun c_24 => ?_) (fun c_24 => ?_)
        · have _ := hx
          have hlo : -100000 ≤ xop s9 x y := (xlk_lo hz9).mp c_24
          refine lv_lload_n hx hb dX5_made_125 rfl (lv_at hl 0 rfl) ?_
          refine lv_l2i (v := Int32.ofInt (xcl (xop s9 x y))) hx hb dX5_made_126 (by unfold xcl; rw [if_neg (by omega), if_neg (by omega), Int64.toInt32_ofInt]) ?_
          exact x_iret (G := G) hx hb hr rfl dX5_made_127 hlocks hS (by first | exact Nat.le_of_ble_eq_true rfl | exact (show 0 ≤ 0 by omega)) (by first | exact Nat.le_of_ble_eq_true rfl | exact (show 0 ≤ 0 by omega)) ⟨rfl, rfl⟩
        · have _ := hx
          have hlo : ¬ -100000 ≤ xop s9 x y := fun q => c_24 ((xlk_lo hz9).mpr q)
          refine lv_ldc2 (v := (-100000)) hx hb hown (hts (.constantLong RX5 54 (-100000)) (by decide +kernel)) dX5_made_119 ?_
          refine lv_goto (tgt := 126) hx hb dX5_made_122 (by decide) ?_
          refine lv_l2i (v := Int32.ofInt (xcl (xop s9 x y))) hx hb dX5_made_126 (by unfold xcl; rw [if_neg (by omega), if_pos (by omega)]; rfl) ?_
          exact x_iret (G := G) hx hb hr rfl dX5_made_127 hlocks hS (by first | exact Nat.le_of_ble_eq_true rfl | exact (show 0 ≤ 0 by omega)) (by first | exact Nat.le_of_ble_eq_true rfl | exact (show 0 ≤ 0 by omega)) ⟨rfl, rfl⟩
      · have _ := hx
        have hhi : ¬ xop s9 x y ≤ 100000 := fun q => c_23 ((xlk_hi hz9).mpr q)
        refine lv_ldc2 (v := (100000)) hx hb hown (hts (.constantLong RX5 52 (100000)) (by decide +kernel)) dX5_made_105 ?_
        refine lv_goto (tgt := 126) hx hb dX5_made_108 (by decide) ?_
        refine lv_l2i (v := Int32.ofInt (xcl (xop s9 x y))) hx hb dX5_made_126 (by unfold xcl; rw [if_pos (by omega)]; rfl) ?_
        exact x_iret (G := G) hx hb hr rfl dX5_made_127 hlocks hS (by first | exact Nat.le_of_ble_eq_true rfl | exact (show 0 ≤ 0 by omega)) (by first | exact Nat.le_of_ble_eq_true rfl | exact (show 0 ≤ 0 by omega)) ⟨rfl, rfl⟩
  · have _ := hx
    have c_1 : s9 = 11 := (nI_eq (a := s9) (b := 11) (by omega) (by omega)).mp c_1
    refine lv_iload_n hx hb dX5_made_6 rfl (lv_at hl 1 rfl) ?_
    refine lv_i2l (v := Int64.ofInt x) hx hb dX5_made_7 (xz2l hx1.1 hx1.2) ?_
    refine lv_iload_n hx hb dX5_made_8 rfl (lv_at hl 2 rfl) ?_
    refine lv_i2l (v := Int64.ofInt y) hx hb dX5_made_9 (xz2l hy1.1 hy1.2) ?_
    refine lv_ladd hx hb dX5_made_10 ?_
    refine lv_goto (tgt := 96) hx hb dX5_made_11 (by decide) ?_
    rw [show ((Int64.ofInt x) + (Int64.ofInt y)) = Int64.ofInt (xop s9 x y) from by rw [(show s9 = 11 by omega), ← Int64.ofInt_add]; rfl]
    refine lv_lstore_n (lv' := [(3, .long (Int64.ofInt (xop s9 x y))), (0, .int (nI s9)), (1, .int (Int32.ofInt x)), (2, .int (Int32.ofInt y))]) hx hb dX5_made_96 rfl hl (by decide) rfl (fun ls hl => ?_)
    refine lv_lload_n hx hb dX5_made_97 rfl (lv_at hl 0 rfl) ?_
    refine lv_ldc2 (v := (100000)) hx hb hown (hts (.constantLong RX5 52 (100000)) (by decide +kernel)) dX5_made_98 ?_
    refine W.lcmp hx hb dX5_made_101 ?_
    refine lv_if_le (tgt := 111) hx hb dX5_made_102 (by decide) (fun c_25 => ?_) (fun c_25 => ?_)
    · have _ := hx
      have hhi : xop s9 x y ≤ 100000 := (xlk_hi hz9).mp c_25
      refine lv_lload_n hx hb dX5_made_111 rfl (lv_at hl 0 rfl) ?_
      refine lv_ldc2 (v := (-100000)) hx hb hown (hts (.constantLong RX5 54 (-100000)) (by decide +kernel)) dX5_made_112 ?_
      refine W.lcmp hx hb dX5_made_115 ?_
      refine lv_if_ge (tgt := 125) hx hb dX5_made_116 (by decide) (fun c_26 => ?_) (fun c_26 => ?_)
      · have _ := hx
        have hlo : -100000 ≤ xop s9 x y := (xlk_lo hz9).mp c_26
        refine lv_lload_n hx hb dX5_made_125 rfl (lv_at hl 0 rfl) ?_
        refine lv_l2i (v := Int32.ofInt (xcl (xop s9 x y))) hx hb dX5_made_126 (by unfold xcl; rw [if_neg (by omega), if_neg (by omega), Int64.toInt32_ofInt]) ?_
        exact x_iret (G := G) hx hb hr rfl dX5_made_127 hlocks hS (by first | exact Nat.le_of_ble_eq_true rfl | exact (show 0 ≤ 0 by omega)) (by first | exact Nat.le_of_ble_eq_true rfl | exact (show 0 ≤ 0 by omega)) ⟨rfl, rfl⟩
      · have _ := hx
        have hlo : ¬ -100000 ≤ xop s9 x y := fun q => c_26 ((xlk_lo hz9).mpr q)
        refine lv_ldc2 (v := (-100000)) hx hb hown (hts (.constantLong RX5 54 (-100000)) (by decide +kernel)) dX5_made_119 ?_
        refine lv_goto (tgt := 126) hx hb dX5_made_122 (by decide) ?_
        refine lv_l2i (v := Int32.ofInt (xcl (xop s9 x y))) hx hb dX5_made_126 (by unfold xcl; rw [if_neg (by omega), if_pos (by omega)]; rfl) ?_
        exact x_iret (G := G) hx hb hr rfl dX5_made_127 hlocks hS (by first | exact Nat.le_of_ble_eq_true rfl | exact (show 0 ≤ 0 by omega)) (by first | exact Nat.le_of_ble_eq_true rfl | exact (show 0 ≤ 0 by omega)) ⟨rfl, rfl⟩
    · have _ := hx
      have hhi : ¬ xop s9 x y ≤ 100000 := fun q => c_25 ((xlk_hi hz9).mpr q)
      refine lv_ldc2 (v := (100000)) hx hb hown (hts (.constantLong RX5 52 (100000)) (by decide +kernel)) dX5_made_105 ?_
      refine lv_goto (tgt := 126) hx hb dX5_made_108 (by decide) ?_
      refine lv_l2i (v := Int32.ofInt (xcl (xop s9 x y))) hx hb dX5_made_126 (by unfold xcl; rw [if_pos (by omega)]; rfl) ?_
      exact x_iret (G := G) hx hb hr rfl dX5_made_127 hlocks hS (by first | exact Nat.le_of_ble_eq_true rfl | exact (show 0 ≤ 0 by omega)) (by first | exact Nat.le_of_ble_eq_true rfl | exact (show 0 ≤ 0 by omega)) ⟨rfl, rfl⟩

set_option maxHeartbeats 4000000 in
set_option maxRecDepth 100000 in
/-- runs(program, value) -/
theorem c_X5_runs (l : Launch) (hfl : l.stackTraces = false) (G : xG) (ad : Nat → Nat) (S : zS) (tp th : Nat) (g : Nat → Int) (wo : Nat → Int32) (z : Nat → Bool) (p9 v9 : Nat) (H : Heap) (hM : MX G ad S tp th g wo z H) (hW : zW S) (hp9 : p9 ≤ 20) (hv9 : v9 ≤ 99) : xMet l G yX5_runs wsX5_runs ({ frames := 1, cells := 0, slots := 0, locals := 24 } : Room) [.ref (ad 0), .int (nI p9), .int (nI v9)] H (fun v H1 => v = some (.int (xb (xright (zP S p9) (zL S p9)))) ∧ ∃ tp2 g2, MX G ad S tp2 th g2 wo z H1 ∧ (xright (zP S p9) (zL S p9) = true → xbd (g2 0) = xbid (zP S p9) (zL S p9) v9 ∧ -100000 ≤ g2 0 ∧ g2 0 ≤ 100000)) (xNo) := by
  refine vx_ofW (cc := cX5_runs) (maxL := 4) (ret := (some .boolean)) (by decide) rfl ?_
  intro Pg Ev s m args below meth c s₁ B hml hout hv
  obtain ⟨rfl, hH, hC⟩ := hv
  have hx := B.exec
  have hb := B.bytes
  have hr := B.returns
  have hts := atoms_spec (ws := wsX5_runs) B.pre
  have hown : s.vm.findClass RX5 = some m.cls := findClass_of_methodNamed B.named
  have hlocks := B.notSynchronized
  rw [hH]
  have hS : va_S (xA G) s.heap H [] := by rw [← hH]; exact va_S.rf
  generalize ([] : List Loc) = locs at hS ⊢
  have hl := lv_entry [.ref (ad 0), .int (nI p9), .int (nI v9)] (n := 4) (Nat.le_of_ble_eq_true rfl)
  rw [lg_entry_eq]
  generalize (lg_sl [.ref (ad 0), .int (nI p9), .int (nI v9)] ++ List.replicate (4 - (lg_sl [.ref (ad 0), .int (nI p9), .int (nI v9)]).length) Slot.unset).toArray = ls at hl ⊢
  have hl : lv_has ls 4 [(0, .ref (ad 0)), (1, .int (nI p9)), (2, .int (nI v9))] := hl
  obtain ⟨hO, hm0, hm1, hm2, hm3, hm4, hm5, hm6, hm7, hm8, hm9, hm10⟩ := id hM
  have hn20 := hW.1
  have hL7 := hW.2.1 p9
  refine lv_aload_n hx hb dX5_runs_0 rfl (lv_at hl 0 rfl) ?_
  refine lv_iconst (v := (nI 0)) hx hb dX5_runs_1 (by decide) ?_
  refine x_put (G := G) (ci := 6) (v := .int (nI 0)) (ty := .int) (C := RX5) (T := TX5) (N := 14) hx hb hts (by decide +kernel) tyX5 tyX5_ok nmX5 hown hC hS (hO.2 0 (by omega) (by omega)) hm0 rfl 10 (by decide) (hts (.fieldLink RX5 56 "BidwhistleModel" "top" "I") (by decide +kernel)) (fun _ h9 => h9) rfl (by decide +kernel) rfl rfl (Nat.le_of_ble_eq_true rfl) dX5_runs_2 (fun H_2 locs hm0 hc_1 hS => ?_)
  have hm0 : oA G (ad 0) 6 [.ref (ad 1), .ref (ad 2), .int (nI (zN S)), .ref (ad 3), .ref (ad 4), .ref (ad 5), .int (nI (zK S)), .ref (ad 6), .ref (ad 7), .ref (ad 8), .int (nI 0), .ref (ad 9), .ref (ad 10), .int (nI th)] H_2 := hm0
  have hm1 := hc_1.at hm1 (xn1 (hO.ne (i := 1) (j := 0) (by omega) (by omega) (by omega)))
  have hm2 := hc_1.at hm2 (xn1 (hO.ne (i := 2) (j := 0) (by omega) (by omega) (by omega)))
  have hm3 := hc_1.at hm3 (xn1 (hO.ne (i := 3) (j := 0) (by omega) (by omega) (by omega)))
  have hm4 := hc_1.at hm4 (xn1 (hO.ne (i := 4) (j := 0) (by omega) (by omega) (by omega)))
  have hm5 := hc_1.at hm5 (xn1 (hO.ne (i := 5) (j := 0) (by omega) (by omega) (by omega)))
  have hm6 := hc_1.at hm6 (xn1 (hO.ne (i := 6) (j := 0) (by omega) (by omega) (by omega)))
  have hm7 := hc_1.at hm7 (xn1 (hO.ne (i := 7) (j := 0) (by omega) (by omega) (by omega)))
  have hm8 := hc_1.at hm8 (xn1 (hO.ne (i := 8) (j := 0) (by omega) (by omega) (by omega)))
  have hm9 := hc_1.at hm9 (xn1 (hO.ne (i := 9) (j := 0) (by omega) (by omega) (by omega)))
  have hm10 := hc_1.at hm10 (xn1 (hO.ne (i := 10) (j := 0) (by omega) (by omega) (by omega)))
  refine lv_bipush (v := (nI 7)) hx hb dX5_runs_5 (by decide) ?_
  refine lv_iload_n hx hb dX5_runs_7 rfl (lv_at hl 1 rfl) ?_
  refine x_imuln (a := 7) (b := p9) hx hb dX5_runs_8 ?_
  refine lv_istore_n (lv' := [(3, .int (nI (7 * p9))), (0, .ref (ad 0)), (1, .int (nI p9)), (2, .int (nI v9))]) hx hb dX5_runs_9 rfl hl (by decide) rfl (fun ls hl => ?_)
  have L : ∀ (kL : Nat) (i : Nat) (d : Nat), (i ≤ zL S p9) → (xdep (zP S p9) i = some d) → zL S p9 - i < kL → ∀ (HL : Heap), (MX G ad S d th (xrun (zP S p9) v9 g i).1 wo z HL) → ∀ (locs : List Loc), va_S (xA G) s.heap HL locs → ∀ ls : Array Slot, lv_has ls 4 [(0, .ref (ad 0)), (1, .int (nI p9)), (2, .int (nI v9)), (3, .int (nI (7 * p9 + i)))] → W Pg l Ev (headSpec wsX5_runs ({ frames := 1, cells := 0, slots := 0, locals := 24 } : Room)).room s m ([.ref (ad 0), .int (nI p9), .int (nI v9)] : List Value).toArray below meth c HL locs (0) (0) (vx_MQ below (xQ G (fun v H1 => v = some (.int (xb (xright (zP S p9) (zL S p9)))) ∧ ∃ tp2 g2, MX G ad S tp2 th g2 wo z H1 ∧ (xright (zP S p9) (zL S p9) = true → xbd (g2 0) = xbid (zP S p9) (zL S p9) v9 ∧ -100000 ≤ g2 0 ∧ g2 0 ≤ 100000))) (xX G (xNo)) ([.ref (ad 0), .int (nI p9), .int (nI v9)] : List Value).toArray s ({ frames := 1, cells := 0, slots := 0, locals := 24 } : Room).cells ({ frames := 1, cells := 0, slots := 0, locals := 24 } : Room).slots (xA G)) (F0 m 10 ls []) := by
    intro kL
    induction kL with
    | zero => intro i d hi hd hk; exact absurd hk (Nat.not_lt_zero _)
    | succ kL ihL =>
      intro i d hi hd hk HL hM9 locs hS ls hl
      obtain ⟨-, hm0, hm1, hm2, hm3, hm4, hm5, hm6, hm7, hm8, hm9, hm10⟩ := id hM9
      have hd7 := xdep_le hd
      have hPi := hW.2.2.1 p9 i
      refine lv_iload_n hx hb dX5_runs_10 rfl (lv_at hl 3 rfl) ?_
      refine lv_bipush (v := (nI 7)) hx hb dX5_runs_11 (by decide) ?_
      refine lv_iload_n hx hb dX5_runs_13 rfl (lv_at hl 1 rfl) ?_
      refine x_imuln (a := 7) (b := p9) hx hb dX5_runs_14 ?_
      refine lv_aload_n hx hb dX5_runs_15 rfl (lv_at hl 0 rfl) ?_
      refine va_get (D := xD G) (ci := 6) (v := .ref (ad 2)) (C := RX5) (T := TX5) (N := 14) hx hb hts (by decide +kernel) hown hC.1 (x1 hm0) 0 rfl rfl 1 (by decide) (hts (.fieldLink RX5 13 "BidwhistleModel" "lengths" "[I") (by decide +kernel)) (fun _ h9 => h9) rfl dX5_runs_16 ?_
      refine lv_iload_n hx hb dX5_runs_19 rfl (lv_at hl 1 rfl) ?_
      refine x_iald (G := G) (j := p9) hx hb hC hm2 (by omega) (by first | decide | omega) dX5_runs_20 ?_
      refine x_iaddn (a := (7 * p9)) (b := (zL S p9)) hx hb dX5_runs_21 ?_
      refine lv_icmp_ge (tgt := 145) hx hb dX5_runs_22 (by decide) (fun c_3 => ?_) (fun c_3 => ?_)
      · have _ := hx
        have c_3 : (((7 * p9)) + ((zL S p9))) ≤ (7 * p9 + i) := (nI_leI (a := (((7 * p9)) + ((zL S p9)))) (b := (7 * p9 + i)) (by omega) (by omega)).mp c_3
        refine lv_aload_n hx hb dX5_runs_145 rfl (lv_at hl 0 rfl) ?_
        refine va_get (D := xD G) (ci := 6) (v := .int (nI d)) (C := RX5) (T := TX5) (N := 14) hx hb hts (by decide +kernel) hown hC.1 (x1 hm0) 0 rfl rfl 10 (by decide) (hts (.fieldLink RX5 56 "BidwhistleModel" "top" "I") (by decide +kernel)) (fun _ h9 => h9) rfl dX5_runs_146 ?_
        refine lv_iconst (v := (nI 1)) hx hb dX5_runs_149 (by decide) ?_
        refine lv_icmp_ne (tgt := 157) hx hb dX5_runs_150 (by decide) (fun c_4 => ?_) (fun c_4 => ?_)
        · have _ := hx
          have c_4 : ¬ (d = 1) := fun z => c_4 ((nI_eq (a := d) (b := 1) (by omega) (by omega)).mpr z)
          refine lv_iconst (v := (nI 0)) hx hb dX5_runs_157 (by decide) ?_
          exact x_iret (G := G) hx hb hr (by rfl) dX5_runs_158 hlocks hS (by first | exact Nat.le_of_ble_eq_true rfl | exact (show 0 ≤ 0 by omega)) (by first | exact Nat.le_of_ble_eq_true rfl | exact (show 0 ≤ 0 by omega)) (by have e0 : i = zL S p9 := (by omega); subst e0; exact ⟨by rw [xright_is hd, show decide (d = 1) = false from decide_eq_false (by omega)]; rfl, _, _, ⟨hO, hm0, hm1, hm2, hm3, hm4, hm5, hm6, hm7, hm8, hm9, hm10⟩, fun q => ⟨xbid_g g q, xrun_in hv9 (xright_1 q) 0 (by omega)⟩⟩)
        · have _ := hx
          have c_4 : d = 1 := (nI_eq (a := d) (b := 1) (by omega) (by omega)).mp c_4
          refine lv_iconst (v := (nI 1)) hx hb dX5_runs_153 (by decide) ?_
          refine lv_goto (tgt := 158) hx hb dX5_runs_154 (by decide) ?_
          exact x_iret (G := G) hx hb hr (by rfl) dX5_runs_158 hlocks hS (by first | exact Nat.le_of_ble_eq_true rfl | exact (show 0 ≤ 0 by omega)) (by first | exact Nat.le_of_ble_eq_true rfl | exact (show 0 ≤ 0 by omega)) (by have e0 : i = zL S p9 := (by omega); subst e0; exact ⟨by rw [xright_is hd, show decide (d = 1) = true from decide_eq_true (by omega)]; rfl, _, _, ⟨hO, hm0, hm1, hm2, hm3, hm4, hm5, hm6, hm7, hm8, hm9, hm10⟩, fun q => ⟨xbid_g g q, xrun_in hv9 (xright_1 q) 0 (by omega)⟩⟩)
      · have _ := hx
        have c_3 : ¬ ((((7 * p9)) + ((zL S p9))) ≤ (7 * p9 + i)) := fun z => c_3 ((nI_leI (a := (((7 * p9)) + ((zL S p9)))) (b := (7 * p9 + i)) (by omega) (by omega)).mpr z)
        refine lv_aload_n hx hb dX5_runs_25 rfl (lv_at hl 0 rfl) ?_
        refine va_get (D := xD G) (ci := 6) (v := .ref (ad 1)) (C := RX5) (T := TX5) (N := 14) hx hb hts (by decide +kernel) hown hC.1 (x1 hm0) 0 rfl rfl 0 (by decide) (hts (.fieldLink RX5 7 "BidwhistleModel" "steps" "[I") (by decide +kernel)) (fun _ h9 => h9) rfl dX5_runs_26 ?_
        refine lv_iload_n hx hb dX5_runs_29 rfl (lv_at hl 3 rfl) ?_
        refine x_iald (G := G) (j := (7 * p9 + i)) hx hb hC hm1 (by omega) (by first | decide | omega) dX5_runs_30 ?_
        rw [mst_at (P := (zP S)) (q := (7 * p9 + i)) (i := p9) (k := i) (by omega) (by omega)]
        refine lv_bipush (v := (nI 10)) hx hb dX5_runs_31 (by decide) ?_
        refine lv_icmp_gt (tgt := 79) hx hb dX5_runs_33 (by decide) (fun c_5 => ?_) (fun c_5 => ?_)
        · have _ := hx
          have c_5 : 10 < (zP S p9 i) := (nI_ltI (a := 10) (b := (zP S p9 i)) (by omega) (by omega)).mp c_5
          refine lv_aload_n hx hb dX5_runs_79 rfl (lv_at hl 0 rfl) ?_
          refine va_get (D := xD G) (ci := 6) (v := .int (nI d)) (C := RX5) (T := TX5) (N := 14) hx hb hts (by decide +kernel) hown hC.1 (x1 hm0) 0 rfl rfl 10 (by decide) (hts (.fieldLink RX5 56 "BidwhistleModel" "top" "I") (by decide +kernel)) (fun _ h9 => h9) rfl dX5_runs_80 ?_
          refine lv_iconst (v := (nI 2)) hx hb dX5_runs_83 (by decide) ?_
          refine lv_icmp_ge (tgt := 89) hx hb dX5_runs_84 (by decide) (fun c_6 => ?_) (fun c_6 => ?_)
          · have _ := hx
            have c_6 : 2 ≤ d := (nI_leI (a := 2) (b := d) (by omega) (by omega)).mp c_6
            refine lv_aload_n hx hb dX5_runs_89 rfl (lv_at hl 0 rfl) ?_
            refine lv_dup hx hb dX5_runs_90 rfl ?_
            refine va_get (D := xD G) (ci := 6) (v := .int (nI d)) (C := RX5) (T := TX5) (N := 14) hx hb hts (by decide +kernel) hown hC.1 (x1 hm0) 0 rfl rfl 10 (by decide) (hts (.fieldLink RX5 56 "BidwhistleModel" "top" "I") (by decide +kernel)) (fun _ h9 => h9) rfl dX5_runs_91 ?_
            refine lv_iconst (v := (nI 1)) hx hb dX5_runs_94 (by decide) ?_
            refine x_isubn (a := d) (b := 1) hx hb dX5_runs_95 (by omega) ?_
            refine x_put (G := G) (ci := 6) (v := .int (nI (d - 1))) (ty := .int) (C := RX5) (T := TX5) (N := 14) hx hb hts (by decide +kernel) tyX5 tyX5_ok nmX5 hown hC hS (hO.2 0 (by omega) (by omega)) hm0 rfl 10 (by decide) (hts (.fieldLink RX5 56 "BidwhistleModel" "top" "I") (by decide +kernel)) (fun _ h9 => h9) rfl (by decide +kernel) rfl rfl (Nat.le_of_ble_eq_true rfl) dX5_runs_96 (fun H_8 locs hm0 hc_7 hS => ?_)
            have hm0 : oA G (ad 0) 6 [.ref (ad 1), .ref (ad 2), .int (nI (zN S)), .ref (ad 3), .ref (ad 4), .ref (ad 5), .int (nI (zK S)), .ref (ad 6), .ref (ad 7), .ref (ad 8), .int (nI (d - 1)), .ref (ad 9), .ref (ad 10), .int (nI th)] H_8 := hm0
            have hm1 := hc_7.at hm1 (xn1 (hO.ne (i := 1) (j := 0) (by omega) (by omega) (by omega)))
            have hm2 := hc_7.at hm2 (xn1 (hO.ne (i := 2) (j := 0) (by omega) (by omega) (by omega)))
            have hm3 := hc_7.at hm3 (xn1 (hO.ne (i := 3) (j := 0) (by omega) (by omega) (by omega)))
            have hm4 := hc_7.at hm4 (xn1 (hO.ne (i := 4) (j := 0) (by omega) (by omega) (by omega)))
            have hm5 := hc_7.at hm5 (xn1 (hO.ne (i := 5) (j := 0) (by omega) (by omega) (by omega)))
            have hm6 := hc_7.at hm6 (xn1 (hO.ne (i := 6) (j := 0) (by omega) (by omega) (by omega)))
            have hm7 := hc_7.at hm7 (xn1 (hO.ne (i := 7) (j := 0) (by omega) (by omega) (by omega)))
            have hm8 := hc_7.at hm8 (xn1 (hO.ne (i := 8) (j := 0) (by omega) (by omega) (by omega)))
            have hm9 := hc_7.at hm9 (xn1 (hO.ne (i := 9) (j := 0) (by omega) (by omega) (by omega)))
            have hm10 := hc_7.at hm10 (xn1 (hO.ne (i := 10) (j := 0) (by omega) (by omega) (by omega)))
            refine lv_aload_n hx hb dX5_runs_99 rfl (lv_at hl 0 rfl) ?_
            refine va_get (D := xD G) (ci := 6) (v := .ref (ad 8)) (C := RX5) (T := TX5) (N := 14) hx hb hts (by decide +kernel) hown hC.1 (x1 hm0) 0 rfl rfl 9 (by decide) (hts (.fieldLink RX5 32 "BidwhistleModel" "stack" "[I") (by decide +kernel)) (fun _ h9 => h9) rfl dX5_runs_100 ?_
            refine lv_aload_n hx hb dX5_runs_103 rfl (lv_at hl 0 rfl) ?_
            refine va_get (D := xD G) (ci := 6) (v := .int (nI (d - 1))) (C := RX5) (T := TX5) (N := 14) hx hb hts (by decide +kernel) hown hC.1 (x1 hm0) 0 rfl rfl 10 (by decide) (hts (.fieldLink RX5 56 "BidwhistleModel" "top" "I") (by decide +kernel)) (fun _ h9 => h9) rfl dX5_runs_104 ?_
            refine lv_iconst (v := (nI 1)) hx hb dX5_runs_107 (by decide) ?_
            refine x_isubn (a := (d - 1)) (b := 1) hx hb dX5_runs_108 (by omega) ?_
            refine lv_aload_n hx hb dX5_runs_109 rfl (lv_at hl 0 rfl) ?_
            refine va_get (D := xD G) (ci := 6) (v := .ref (ad 1)) (C := RX5) (T := TX5) (N := 14) hx hb hts (by decide +kernel) hown hC.1 (x1 hm0) 0 rfl rfl 0 (by decide) (hts (.fieldLink RX5 7 "BidwhistleModel" "steps" "[I") (by decide +kernel)) (fun _ h9 => h9) rfl dX5_runs_110 ?_
            refine lv_iload_n hx hb dX5_runs_113 rfl (lv_at hl 3 rfl) ?_
            refine x_iald (G := G) (j := (7 * p9 + i)) hx hb hC hm1 (by omega) (by first | decide | omega) dX5_runs_114 ?_
            rw [mst_at (P := (zP S)) (q := (7 * p9 + i)) (i := p9) (k := i) (by omega) (by omega)]
            refine lv_aload_n hx hb dX5_runs_115 rfl (lv_at hl 0 rfl) ?_
            refine va_get (D := xD G) (ci := 6) (v := .ref (ad 8)) (C := RX5) (T := TX5) (N := 14) hx hb hts (by decide +kernel) hown hC.1 (x1 hm0) 0 rfl rfl 9 (by decide) (hts (.fieldLink RX5 32 "BidwhistleModel" "stack" "[I") (by decide +kernel)) (fun _ h9 => h9) rfl dX5_runs_116 ?_
            refine lv_aload_n hx hb dX5_runs_119 rfl (lv_at hl 0 rfl) ?_
            refine va_get (D := xD G) (ci := 6) (v := .int (nI (d - 1))) (C := RX5) (T := TX5) (N := 14) hx hb hts (by decide +kernel) hown hC.1 (x1 hm0) 0 rfl rfl 10 (by decide) (hts (.fieldLink RX5 56 "BidwhistleModel" "top" "I") (by decide +kernel)) (fun _ h9 => h9) rfl dX5_runs_120 ?_
            refine lv_iconst (v := (nI 1)) hx hb dX5_runs_123 (by decide) ?_
            refine x_isubn (a := (d - 1)) (b := 1) hx hb dX5_runs_124 (by omega) ?_
            refine x_iald (G := G) (j := (((d - 1)) - 1)) hx hb hC hm8 (by omega) (by first | decide | omega) dX5_runs_125 ?_
            refine lv_aload_n hx hb dX5_runs_126 rfl (lv_at hl 0 rfl) ?_
            refine va_get (D := xD G) (ci := 6) (v := .ref (ad 8)) (C := RX5) (T := TX5) (N := 14) hx hb hts (by decide +kernel) hown hC.1 (x1 hm0) 0 rfl rfl 9 (by decide) (hts (.fieldLink RX5 32 "BidwhistleModel" "stack" "[I") (by decide +kernel)) (fun _ h9 => h9) rfl dX5_runs_127 ?_
            refine lv_aload_n hx hb dX5_runs_130 rfl (lv_at hl 0 rfl) ?_
            refine va_get (D := xD G) (ci := 6) (v := .int (nI (d - 1))) (C := RX5) (T := TX5) (N := 14) hx hb hts (by decide +kernel) hown hC.1 (x1 hm0) 0 rfl rfl 10 (by decide) (hts (.fieldLink RX5 56 "BidwhistleModel" "top" "I") (by decide +kernel)) (fun _ h9 => h9) rfl dX5_runs_131 ?_
            refine x_iald (G := G) (j := (d - 1)) hx hb hC hm8 (by omega) (by first | decide | omega) dX5_runs_134 ?_
            have hx9 := xrun_in (v := v9) (g := g) hv9 hd (d - 1 - 1) (by omega)
            have hy9 := xrun_in (v := v9) (g := g) hv9 hd (d - 1) (by omega)
            refine x_intE (vx_runS (As := [.int (nI (zP S p9 i)), .int (Int32.ofInt (((xrun (zP S p9) v9 g i).1) ((((d - 1)) - 1)))), .int (Int32.ofInt (((xrun (zP S p9) v9 g i).1) ((d - 1))))]) (rest := [.int (nI (((d - 1)) - 1)), .ref (ad 8)]) ⟨hx, hb, hml, hown, hts⟩ (c_X5_made l hfl G (zP S p9 i) ((xrun (zP S p9) v9 g i).1 (d - 1 - 1)) ((xrun (zP S p9) v9 g i).1 (d - 1)) H_8 (by omega) hPi hx9 hy9) (va_cwS 3 hts gX5_runs_X5_made rfl rfl rfl (by decide +kernel) ⟨(Nat.le_of_ble_eq_true rfl), (Nat.le_of_ble_eq_true rfl)⟩) (xPreS hC hS) rfl rfl hl.1 rfl (lv_room (Nat.le_of_ble_eq_true rfl)) dX5_runs_135 ⟨(by first | exact Nat.le_of_ble_eq_true rfl | exact (show 0 + 0 ≤ 0 by omega)), (by first | exact Nat.le_of_ble_eq_true rfl | exact (show 0 + 0 ≤ 0 by omega))⟩) hS (fun locs hS => ?_)
            refine x_iastn (G := G) (j := (((d - 1)) - 1)) hx hb hC hS (hO.2 8 (by omega) (by omega)) hm8 (by omega) (by first | decide | omega) dX5_runs_138 (fun H_10 locs hm8 hc_9 hS => ?_)
            have hm0 := hc_9.at hm0 (xn1 (hO.ne (i := 0) (j := 8) (by omega) (by omega) (by omega)))
            have hm1 := hc_9.at hm1 (xn1 (hO.ne (i := 1) (j := 8) (by omega) (by omega) (by omega)))
            have hm2 := hc_9.at hm2 (xn1 (hO.ne (i := 2) (j := 8) (by omega) (by omega) (by omega)))
            have hm3 := hc_9.at hm3 (xn1 (hO.ne (i := 3) (j := 8) (by omega) (by omega) (by omega)))
            have hm4 := hc_9.at hm4 (xn1 (hO.ne (i := 4) (j := 8) (by omega) (by omega) (by omega)))
            have hm5 := hc_9.at hm5 (xn1 (hO.ne (i := 5) (j := 8) (by omega) (by omega) (by omega)))
            have hm6 := hc_9.at hm6 (xn1 (hO.ne (i := 6) (j := 8) (by omega) (by omega) (by omega)))
            have hm7 := hc_9.at hm7 (xn1 (hO.ne (i := 7) (j := 8) (by omega) (by omega) (by omega)))
            have hm9 := hc_9.at hm9 (xn1 (hO.ne (i := 9) (j := 8) (by omega) (by omega) (by omega)))
            have hm10 := hc_9.at hm10 (xn1 (hO.ne (i := 10) (j := 8) (by omega) (by omega) (by omega)))
            have hm8 : iA G (ad 8) 8 (fun j => Int32.ofInt ((xrun (zP S p9) v9 g (i + 1)).1 j)) H_10 := by rw [mrun_op hd (by omega), ← upd_ofInt]; exact hm8
            refine lv_iinc (v := (nI ((7 * p9 + i) + 1))) (lv' := [(3, .int (nI ((7 * p9 + i) + 1))), (0, .ref (ad 0)), (1, .int (nI p9)), (2, .int (nI v9))]) hx hb dX5_runs_139 hl (k := 3) rfl (xinc (by decide)) (by decide) rfl (fun ls hl => ?_)
            refine lv_goto (tgt := 10) hx hb dX5_runs_142 (by decide) ?_
            exact ihL (i + 1) ((d - 1)) (by omega) (xdep_op hd (by omega) (by omega)) (by omega) H_10 ⟨hO, hm0, hm1, hm2, hm3, hm4, hm5, hm6, hm7, hm8, hm9, hm10⟩ _ hS ls (lv_sub hl [1, 2, 3, 0] rfl)
          · have _ := hx
            have c_6 : ¬ (2 ≤ d) := fun z => c_6 ((nI_leI (a := 2) (b := d) (by omega) (by omega)).mpr z)
            refine lv_iconst (v := (nI 0)) hx hb dX5_runs_87 (by decide) ?_
            exact x_iret (G := G) hx hb hr (by rfl) dX5_runs_88 hlocks hS (by first | exact Nat.le_of_ble_eq_true rfl | exact (show 0 ≤ 0 by omega)) (by first | exact Nat.le_of_ble_eq_true rfl | exact (show 0 ≤ 0 by omega)) ⟨by rw [xright_bad hd (by omega) (by omega) (show i < zL S p9 by omega)]; rfl, _, _, ⟨hO, hm0, hm1, hm2, hm3, hm4, hm5, hm6, hm7, hm8, hm9, hm10⟩, fun q => by rw [xright_bad hd (by omega) (by omega) (show i < zL S p9 by omega)] at q; cases q⟩
        · have _ := hx
          have c_5 : ¬ (10 < (zP S p9 i)) := fun z => c_5 ((nI_ltI (a := 10) (b := (zP S p9 i)) (by omega) (by omega)).mpr z)
          refine lv_aload_n hx hb dX5_runs_36 rfl (lv_at hl 0 rfl) ?_
          refine va_get (D := xD G) (ci := 6) (v := .ref (ad 8)) (C := RX5) (T := TX5) (N := 14) hx hb hts (by decide +kernel) hown hC.1 (x1 hm0) 0 rfl rfl 9 (by decide) (hts (.fieldLink RX5 32 "BidwhistleModel" "stack" "[I") (by decide +kernel)) (fun _ h9 => h9) rfl dX5_runs_37 ?_
          refine lv_aload_n hx hb dX5_runs_40 rfl (lv_at hl 0 rfl) ?_
          refine va_get (D := xD G) (ci := 6) (v := .int (nI d)) (C := RX5) (T := TX5) (N := 14) hx hb hts (by decide +kernel) hown hC.1 (x1 hm0) 0 rfl rfl 10 (by decide) (hts (.fieldLink RX5 56 "BidwhistleModel" "top" "I") (by decide +kernel)) (fun _ h9 => h9) rfl dX5_runs_41 ?_
          refine lv_aload_n hx hb dX5_runs_44 rfl (lv_at hl 0 rfl) ?_
          refine va_get (D := xD G) (ci := 6) (v := .ref (ad 1)) (C := RX5) (T := TX5) (N := 14) hx hb hts (by decide +kernel) hown hC.1 (x1 hm0) 0 rfl rfl 0 (by decide) (hts (.fieldLink RX5 7 "BidwhistleModel" "steps" "[I") (by decide +kernel)) (fun _ h9 => h9) rfl dX5_runs_45 ?_
          refine lv_iload_n hx hb dX5_runs_48 rfl (lv_at hl 3 rfl) ?_
          refine x_iald (G := G) (j := (7 * p9 + i)) hx hb hC hm1 (by omega) (by first | decide | omega) dX5_runs_49 ?_
          rw [mst_at (P := (zP S)) (q := (7 * p9 + i)) (i := p9) (k := i) (by omega) (by omega)]
          refine lv_bipush (v := (nI 10)) hx hb dX5_runs_50 (by decide) ?_
          refine lv_icmp_ne (tgt := 59) hx hb dX5_runs_52 (by decide) (fun c_11 => ?_) (fun c_11 => ?_)
          · have _ := hx
            have c_11 : ¬ ((zP S p9 i) = 10) := fun z => c_11 ((nI_eq (a := (zP S p9 i)) (b := 10) (by omega) (by omega)).mpr z)
            refine lv_aload_n hx hb dX5_runs_59 rfl (lv_at hl 0 rfl) ?_
            refine va_get (D := xD G) (ci := 6) (v := .ref (ad 1)) (C := RX5) (T := TX5) (N := 14) hx hb hts (by decide +kernel) hown hC.1 (x1 hm0) 0 rfl rfl 0 (by decide) (hts (.fieldLink RX5 7 "BidwhistleModel" "steps" "[I") (by decide +kernel)) (fun _ h9 => h9) rfl dX5_runs_60 ?_
            refine lv_iload_n hx hb dX5_runs_63 rfl (lv_at hl 3 rfl) ?_
            refine x_iald (G := G) (j := (7 * p9 + i)) hx hb hC hm1 (by omega) (by first | decide | omega) dX5_runs_64 ?_
            rw [mst_at (P := (zP S)) (q := (7 * p9 + i)) (i := p9) (k := i) (by omega) (by omega)]
            refine x_iastn (G := G) (j := d) hx hb hC hS (hO.2 8 (by omega) (by omega)) hm8 (by omega) (by first | decide | omega) dX5_runs_65 (fun H_13 locs hm8 hc_12 hS => ?_)
            have hm0 := hc_12.at hm0 (xn1 (hO.ne (i := 0) (j := 8) (by omega) (by omega) (by omega)))
            have hm1 := hc_12.at hm1 (xn1 (hO.ne (i := 1) (j := 8) (by omega) (by omega) (by omega)))
            have hm2 := hc_12.at hm2 (xn1 (hO.ne (i := 2) (j := 8) (by omega) (by omega) (by omega)))
            have hm3 := hc_12.at hm3 (xn1 (hO.ne (i := 3) (j := 8) (by omega) (by omega) (by omega)))
            have hm4 := hc_12.at hm4 (xn1 (hO.ne (i := 4) (j := 8) (by omega) (by omega) (by omega)))
            have hm5 := hc_12.at hm5 (xn1 (hO.ne (i := 5) (j := 8) (by omega) (by omega) (by omega)))
            have hm6 := hc_12.at hm6 (xn1 (hO.ne (i := 6) (j := 8) (by omega) (by omega) (by omega)))
            have hm7 := hc_12.at hm7 (xn1 (hO.ne (i := 7) (j := 8) (by omega) (by omega) (by omega)))
            have hm9 := hc_12.at hm9 (xn1 (hO.ne (i := 9) (j := 8) (by omega) (by omega) (by omega)))
            have hm10 := hc_12.at hm10 (xn1 (hO.ne (i := 10) (j := 8) (by omega) (by omega) (by omega)))
            have hm8 : iA G (ad 8) 8 (fun j => Int32.ofInt ((xrun (zP S p9) v9 g (i + 1)).1 j)) H_13 := by rw [mrun_lo hd (by omega), ← upd_ofInt]; exact hm8
            refine lv_aload_n hx hb dX5_runs_66 rfl (lv_at hl 0 rfl) ?_
            refine lv_dup hx hb dX5_runs_67 rfl ?_
            refine va_get (D := xD G) (ci := 6) (v := .int (nI d)) (C := RX5) (T := TX5) (N := 14) hx hb hts (by decide +kernel) hown hC.1 (x1 hm0) 0 rfl rfl 10 (by decide) (hts (.fieldLink RX5 56 "BidwhistleModel" "top" "I") (by decide +kernel)) (fun _ h9 => h9) rfl dX5_runs_68 ?_
            refine lv_iconst (v := (nI 1)) hx hb dX5_runs_71 (by decide) ?_
            refine x_iaddn (a := d) (b := 1) hx hb dX5_runs_72 ?_
            refine x_put (G := G) (ci := 6) (v := .int (nI (d + 1))) (ty := .int) (C := RX5) (T := TX5) (N := 14) hx hb hts (by decide +kernel) tyX5 tyX5_ok nmX5 hown hC hS (hO.2 0 (by omega) (by omega)) hm0 rfl 10 (by decide) (hts (.fieldLink RX5 56 "BidwhistleModel" "top" "I") (by decide +kernel)) (fun _ h9 => h9) rfl (by decide +kernel) rfl rfl (Nat.le_of_ble_eq_true rfl) dX5_runs_73 (fun H_15 locs hm0 hc_14 hS => ?_)
            have hm0 : oA G (ad 0) 6 [.ref (ad 1), .ref (ad 2), .int (nI (zN S)), .ref (ad 3), .ref (ad 4), .ref (ad 5), .int (nI (zK S)), .ref (ad 6), .ref (ad 7), .ref (ad 8), .int (nI (d + 1)), .ref (ad 9), .ref (ad 10), .int (nI th)] H_15 := hm0
            have hm1 := hc_14.at hm1 (xn1 (hO.ne (i := 1) (j := 0) (by omega) (by omega) (by omega)))
            have hm2 := hc_14.at hm2 (xn1 (hO.ne (i := 2) (j := 0) (by omega) (by omega) (by omega)))
            have hm3 := hc_14.at hm3 (xn1 (hO.ne (i := 3) (j := 0) (by omega) (by omega) (by omega)))
            have hm4 := hc_14.at hm4 (xn1 (hO.ne (i := 4) (j := 0) (by omega) (by omega) (by omega)))
            have hm5 := hc_14.at hm5 (xn1 (hO.ne (i := 5) (j := 0) (by omega) (by omega) (by omega)))
            have hm6 := hc_14.at hm6 (xn1 (hO.ne (i := 6) (j := 0) (by omega) (by omega) (by omega)))
            have hm7 := hc_14.at hm7 (xn1 (hO.ne (i := 7) (j := 0) (by omega) (by omega) (by omega)))
            have hm8 := hc_14.at hm8 (xn1 (hO.ne (i := 8) (j := 0) (by omega) (by omega) (by omega)))
            have hm9 := hc_14.at hm9 (xn1 (hO.ne (i := 9) (j := 0) (by omega) (by omega) (by omega)))
            have hm10 := hc_14.at hm10 (xn1 (hO.ne (i := 10) (j := 0) (by omega) (by omega) (by omega)))
            refine lv_goto (tgt := 139) hx hb dX5_runs_76 (by decide) ?_
            refine lv_iinc (v := (nI ((7 * p9 + i) + 1))) (lv' := [(3, .int (nI ((7 * p9 + i) + 1))), (0, .ref (ad 0)), (1, .int (nI p9)), (2, .int (nI v9))]) hx hb dX5_runs_139 hl (k := 3) rfl (xinc (by decide)) (by decide) rfl (fun ls hl => ?_)
            refine lv_goto (tgt := 10) hx hb dX5_runs_142 (by decide) ?_
            exact ihL (i + 1) ((d + 1)) (by omega) (xdep_put hd (by omega)) (by omega) H_15 ⟨hO, hm0, hm1, hm2, hm3, hm4, hm5, hm6, hm7, hm8, hm9, hm10⟩ _ hS ls (lv_sub hl [1, 2, 3, 0] rfl)
          · have _ := hx
            have c_11 : (zP S p9 i) = 10 := (nI_eq (a := (zP S p9 i)) (b := 10) (by omega) (by omega)).mp c_11
            refine lv_iload_n hx hb dX5_runs_55 rfl (lv_at hl 2 rfl) ?_
            refine lv_goto (tgt := 65) hx hb dX5_runs_56 (by decide) ?_
            refine x_iastn (G := G) (j := d) hx hb hC hS (hO.2 8 (by omega) (by omega)) hm8 (by omega) (by first | decide | omega) dX5_runs_65 (fun H_17 locs hm8 hc_16 hS => ?_)
            have hm0 := hc_16.at hm0 (xn1 (hO.ne (i := 0) (j := 8) (by omega) (by omega) (by omega)))
            have hm1 := hc_16.at hm1 (xn1 (hO.ne (i := 1) (j := 8) (by omega) (by omega) (by omega)))
            have hm2 := hc_16.at hm2 (xn1 (hO.ne (i := 2) (j := 8) (by omega) (by omega) (by omega)))
            have hm3 := hc_16.at hm3 (xn1 (hO.ne (i := 3) (j := 8) (by omega) (by omega) (by omega)))
            have hm4 := hc_16.at hm4 (xn1 (hO.ne (i := 4) (j := 8) (by omega) (by omega) (by omega)))
            have hm5 := hc_16.at hm5 (xn1 (hO.ne (i := 5) (j := 8) (by omega) (by omega) (by omega)))
            have hm6 := hc_16.at hm6 (xn1 (hO.ne (i := 6) (j := 8) (by omega) (by omega) (by omega)))
            have hm7 := hc_16.at hm7 (xn1 (hO.ne (i := 7) (j := 8) (by omega) (by omega) (by omega)))
            have hm9 := hc_16.at hm9 (xn1 (hO.ne (i := 9) (j := 8) (by omega) (by omega) (by omega)))
            have hm10 := hc_16.at hm10 (xn1 (hO.ne (i := 10) (j := 8) (by omega) (by omega) (by omega)))
            have hm8 : iA G (ad 8) 8 (fun j => Int32.ofInt ((xrun (zP S p9) v9 g (i + 1)).1 j)) H_17 := by rw [mrun_val hd (by omega), ← upd_ofInt]; exact hm8
            refine lv_aload_n hx hb dX5_runs_66 rfl (lv_at hl 0 rfl) ?_
            refine lv_dup hx hb dX5_runs_67 rfl ?_
            refine va_get (D := xD G) (ci := 6) (v := .int (nI d)) (C := RX5) (T := TX5) (N := 14) hx hb hts (by decide +kernel) hown hC.1 (x1 hm0) 0 rfl rfl 10 (by decide) (hts (.fieldLink RX5 56 "BidwhistleModel" "top" "I") (by decide +kernel)) (fun _ h9 => h9) rfl dX5_runs_68 ?_
            refine lv_iconst (v := (nI 1)) hx hb dX5_runs_71 (by decide) ?_
            refine x_iaddn (a := d) (b := 1) hx hb dX5_runs_72 ?_
            refine x_put (G := G) (ci := 6) (v := .int (nI (d + 1))) (ty := .int) (C := RX5) (T := TX5) (N := 14) hx hb hts (by decide +kernel) tyX5 tyX5_ok nmX5 hown hC hS (hO.2 0 (by omega) (by omega)) hm0 rfl 10 (by decide) (hts (.fieldLink RX5 56 "BidwhistleModel" "top" "I") (by decide +kernel)) (fun _ h9 => h9) rfl (by decide +kernel) rfl rfl (Nat.le_of_ble_eq_true rfl) dX5_runs_73 (fun H_19 locs hm0 hc_18 hS => ?_)
            have hm0 : oA G (ad 0) 6 [.ref (ad 1), .ref (ad 2), .int (nI (zN S)), .ref (ad 3), .ref (ad 4), .ref (ad 5), .int (nI (zK S)), .ref (ad 6), .ref (ad 7), .ref (ad 8), .int (nI (d + 1)), .ref (ad 9), .ref (ad 10), .int (nI th)] H_19 := hm0
            have hm1 := hc_18.at hm1 (xn1 (hO.ne (i := 1) (j := 0) (by omega) (by omega) (by omega)))
            have hm2 := hc_18.at hm2 (xn1 (hO.ne (i := 2) (j := 0) (by omega) (by omega) (by omega)))
            have hm3 := hc_18.at hm3 (xn1 (hO.ne (i := 3) (j := 0) (by omega) (by omega) (by omega)))
            have hm4 := hc_18.at hm4 (xn1 (hO.ne (i := 4) (j := 0) (by omega) (by omega) (by omega)))
            have hm5 := hc_18.at hm5 (xn1 (hO.ne (i := 5) (j := 0) (by omega) (by omega) (by omega)))
            have hm6 := hc_18.at hm6 (xn1 (hO.ne (i := 6) (j := 0) (by omega) (by omega) (by omega)))
            have hm7 := hc_18.at hm7 (xn1 (hO.ne (i := 7) (j := 0) (by omega) (by omega) (by omega)))
            have hm8 := hc_18.at hm8 (xn1 (hO.ne (i := 8) (j := 0) (by omega) (by omega) (by omega)))
            have hm9 := hc_18.at hm9 (xn1 (hO.ne (i := 9) (j := 0) (by omega) (by omega) (by omega)))
            have hm10 := hc_18.at hm10 (xn1 (hO.ne (i := 10) (j := 0) (by omega) (by omega) (by omega)))
            refine lv_goto (tgt := 139) hx hb dX5_runs_76 (by decide) ?_
            refine lv_iinc (v := (nI ((7 * p9 + i) + 1))) (lv' := [(3, .int (nI ((7 * p9 + i) + 1))), (0, .ref (ad 0)), (1, .int (nI p9)), (2, .int (nI v9))]) hx hb dX5_runs_139 hl (k := 3) rfl (xinc (by decide)) (by decide) rfl (fun ls hl => ?_)
            refine lv_goto (tgt := 10) hx hb dX5_runs_142 (by decide) ?_
            exact ihL (i + 1) ((d + 1)) (by omega) (xdep_put hd (by omega)) (by omega) H_19 ⟨hO, hm0, hm1, hm2, hm3, hm4, hm5, hm6, hm7, hm8, hm9, hm10⟩ _ hS ls (lv_sub hl [1, 2, 3, 0] rfl)
  exact L _ (0) (0) (Nat.zero_le _) (rfl) (Nat.lt_succ_self _) H_2 ⟨hO, hm0, hm1, hm2, hm3, hm4, hm5, hm6, hm7, hm8, hm9, hm10⟩ _ hS ls (lv_sub hl [1, 2, 3, 0] rfl)

set_option maxHeartbeats 4000000 in
set_option maxRecDepth 100000 in
/-- bidOf(strategy, value) -/
theorem c_X5_bidOf (l : Launch) (hfl : l.stackTraces = false) (G : xG) (ad : Nat → Nat) (S : zS) (tp th : Nat) (g : Nat → Int) (wo : Nat → Int32) (z : Nat → Bool) (i9 v9 : Nat) (H : Heap) (hM : MX G ad S tp th g wo z H) (hW : zW S) (hi9 : i9 < zN S) (hv9 : v9 < 100) : xMet l G yX5_bidOf wsX5_bidOf ({ frames := 2, cells := 0, slots := 0, locals := 47 } : Room) [.ref (ad 0), .int (nI i9), .int (nI v9)] H (fun v H1 => v = some (.int (nI (zbid S i9 v9))) ∧ ∃ tp2 g2, MX G ad S tp2 th g2 wo z H1) (xNo) := by
  refine vx_ofW (cc := cX5_bidOf) (maxL := 3) (ret := (some .int)) (by decide) rfl ?_
  intro Pg Ev s m args below meth c s₁ B hml hout hv
  obtain ⟨rfl, hH, hC⟩ := hv
  have hx := B.exec
  have hb := B.bytes
  have hr := B.returns
  have hts := atoms_spec (ws := wsX5_bidOf) B.pre
  have hown : s.vm.findClass RX5 = some m.cls := findClass_of_methodNamed B.named
  have hlocks := B.notSynchronized
  rw [hH]
  have hS : va_S (xA G) s.heap H [] := by rw [← hH]; exact va_S.rf
  generalize ([] : List Loc) = locs at hS ⊢
  have hl := lv_entry [.ref (ad 0), .int (nI i9), .int (nI v9)] (n := 3) (Nat.le_of_ble_eq_true rfl)
  rw [lg_entry_eq]
  generalize (lg_sl [.ref (ad 0), .int (nI i9), .int (nI v9)] ++ List.replicate (3 - (lg_sl [.ref (ad 0), .int (nI i9), .int (nI v9)]).length) Slot.unset).toArray = ls at hl ⊢
  have hl : lv_has ls 3 [(0, .ref (ad 0)), (1, .int (nI i9)), (2, .int (nI v9))] := hl
  obtain ⟨hO, hm0, hm1, hm2, hm3, hm4, hm5, hm6, hm7, hm8, hm9, hm10⟩ := id hM
  have hn20 := hW.1
  refine lv_aload_n hx hb dX5_bidOf_0 rfl (lv_at hl 0 rfl) ?_
  refine lv_iload_n hx hb dX5_bidOf_1 rfl (lv_at hl 1 rfl) ?_
  refine lv_iload_n hx hb dX5_bidOf_2 rfl (lv_at hl 2 rfl) ?_
  have hsz := hS.1
  refine x_call (px := xNo) (vx_runV (As := [.int (nI i9), .int (nI v9)]) (rest := []) ⟨hx, hb, hml, hown, hts⟩ (c_X5_runs l hfl G ad S tp th g wo z i9 v9 H ⟨hO, hm0, hm1, hm2, hm3, hm4, hm5, hm6, hm7, hm8, hm9, hm10⟩ hW (by omega) (by omega)) (cwV 2 hts gX5_bidOf_X5_runs rfl rfl rfl (by decide +kernel) ⟨(Nat.le_of_ble_eq_true rfl), (Nat.le_of_ble_eq_true rfl)⟩) (xPreV hC hS hm0 (q := (RX5, TX5, 14)) rfl) rfl rfl hl.1 rfl (lv_room (Nat.le_of_ble_eq_true rfl)) dX5_bidOf_3 ⟨(by first | exact Nat.le_of_ble_eq_true rfl | exact (show 0 + 0 ≤ 0 by omega)), (by first | exact Nat.le_of_ble_eq_true rfl | exact (show 0 + 0 ≤ 0 by omega))⟩) hS (fun _ h => h) (fun _ _ _ _ _ h => False.elim h) (fun v H_1 locs hp hz hk_2 hS => ?_)
  obtain ⟨rfl, tp3, g3, hMM3, hg3⟩ := hp
  obtain ⟨-, hm0, hm1, hm2, hm3, hm4, hm5, hm6, hm7, hm8, hm9, hm10⟩ := id hMM3
  obtain ⟨hg1, hg2⟩ := hg3 (hW.2.2.2.1 i9 hi9)
  refine lv_pop hx hb dX5_bidOf_6 rfl ?_
  refine lv_aload_n hx hb dX5_bidOf_7 rfl (lv_at hl 0 rfl) ?_
  refine va_get (D := xD G) (ci := 6) (v := .ref (ad 8)) (C := RX5) (T := TX5) (N := 14) hx hb hts (by decide +kernel) hown hC.1 (x1 hm0) 0 rfl rfl 9 (by decide) (hts (.fieldLink RX5 32 "BidwhistleModel" "stack" "[I") (by decide +kernel)) (fun _ h9 => h9) rfl dX5_bidOf_8 ?_
  refine lv_iconst (v := (nI 0)) hx hb dX5_bidOf_11 (by decide) ?_
  refine x_iald (G := G) (j := 0) hx hb hC hm8 (by decide) (by first | decide | omega) dX5_bidOf_12 ?_
  refine lv_if_ge (tgt := 20) hx hb dX5_bidOf_13 (by decide) (fun c_4 => ?_) (fun c_4 => ?_)
  · have _ := hx
    have h0 : 0 ≤ g3 0 := (zI_le (a := 0) (b := g3 0) (by omega) (by omega)).mp c_4
    refine lv_aload_n hx hb dX5_bidOf_20 rfl (lv_at hl 0 rfl) ?_
    refine va_get (D := xD G) (ci := 6) (v := .ref (ad 8)) (C := RX5) (T := TX5) (N := 14) hx hb hts (by decide +kernel) hown hC.1 (x1 hm0) 0 rfl rfl 9 (by decide) (hts (.fieldLink RX5 32 "BidwhistleModel" "stack" "[I") (by decide +kernel)) (fun _ h9 => h9) rfl dX5_bidOf_21 ?_
    refine lv_iconst (v := (nI 0)) hx hb dX5_bidOf_24 (by decide) ?_
    refine x_iald (G := G) (j := 0) hx hb hC hm8 (by decide) (by first | decide | omega) dX5_bidOf_25 ?_
    refine lv_sipush (v := (nI 999)) hx hb dX5_bidOf_26 (by decide) ?_
    refine lv_icmp_le (tgt := 38) hx hb dX5_bidOf_29 (by decide) (fun c_5 => ?_) (fun c_5 => ?_)
    · have _ := hx
      have h9 : g3 0 ≤ 999 := (zI_le (a := g3 0) (b := 999) (by omega) (by omega)).mp c_5
      refine lv_aload_n hx hb dX5_bidOf_38 rfl (lv_at hl 0 rfl) ?_
      refine va_get (D := xD G) (ci := 6) (v := .ref (ad 8)) (C := RX5) (T := TX5) (N := 14) hx hb hts (by decide +kernel) hown hC.1 (x1 hm0) 0 rfl rfl 9 (by decide) (hts (.fieldLink RX5 32 "BidwhistleModel" "stack" "[I") (by decide +kernel)) (fun _ h9 => h9) rfl dX5_bidOf_39 ?_
      refine lv_iconst (v := (nI 0)) hx hb dX5_bidOf_42 (by decide) ?_
      refine x_iald (G := G) (j := 0) hx hb hC hm8 (by decide) (by first | decide | omega) dX5_bidOf_43 ?_
      exact x_iret (G := G) hx hb hr rfl dX5_bidOf_44 hlocks hS (by first | exact Nat.le_of_ble_eq_true rfl | exact (show 0 ≤ 0 by omega)) (by first | exact Nat.le_of_ble_eq_true rfl | exact (show 0 ≤ 0 by omega)) ⟨by rw [mbid_val hg1]; unfold xbd; rw [if_neg (by omega), if_neg (by omega)], _, _, ⟨hO, hm0, hm1, hm2, hm3, hm4, hm5, hm6, hm7, hm8, hm9, hm10⟩⟩
    · have _ := hx
      have h9 : ¬ g3 0 ≤ 999 := fun q => c_5 ((zI_le (a := g3 0) (b := 999) (by omega) (by omega)).mpr q)
      refine lv_sipush (v := (nI 999)) hx hb dX5_bidOf_32 (by decide) ?_
      refine lv_goto (tgt := 44) hx hb dX5_bidOf_35 (by decide) ?_
      exact x_iret (G := G) hx hb hr rfl dX5_bidOf_44 hlocks hS (by first | exact Nat.le_of_ble_eq_true rfl | exact (show 0 ≤ 0 by omega)) (by first | exact Nat.le_of_ble_eq_true rfl | exact (show 0 ≤ 0 by omega)) ⟨by rw [mbid_val hg1]; unfold xbd; rw [if_neg (by omega), if_pos (by omega)]; rfl, _, _, ⟨hO, hm0, hm1, hm2, hm3, hm4, hm5, hm6, hm7, hm8, hm9, hm10⟩⟩
  · have _ := hx
    have h0 : ¬ 0 ≤ g3 0 := fun q => c_4 ((zI_le (a := 0) (b := g3 0) (by omega) (by omega)).mpr q)
    refine lv_iconst (v := (nI 0)) hx hb dX5_bidOf_16 (by decide) ?_
    refine lv_goto (tgt := 44) hx hb dX5_bidOf_17 (by decide) ?_
    exact x_iret (G := G) hx hb hr rfl dX5_bidOf_44 hlocks hS (by first | exact Nat.le_of_ble_eq_true rfl | exact (show 0 ≤ 0 by omega)) (by first | exact Nat.le_of_ble_eq_true rfl | exact (show 0 ≤ 0 by omega)) ⟨by rw [mbid_val hg1]; unfold xbd; rw [if_pos (by omega)]; rfl, _, _, ⟨hO, hm0, hm1, hm2, hm3, hm4, hm5, hm6, hm7, hm8, hm9, hm10⟩⟩

set_option maxHeartbeats 4000000 in
set_option maxRecDepth 100000 in
/-- hasStep(program, step) -/
theorem c_X5_hasStep (l : Launch) (hfl : l.stackTraces = false) (G : xG) (ad : Nat → Nat) (S : zS) (tp th : Nat) (g : Nat → Int) (wo : Nat → Int32) (z : Nat → Bool) (p9 s9 : Nat) (H : Heap) (hM : MX G ad S tp th g wo z H) (hW : zW S) (hp9 : p9 ≤ 20) (hs9 : s9 ≤ 16) : xMet l G yX5_hasStep wsX5_hasStep ({ frames := 0, cells := 0, slots := 0, locals := 0 } : Room) [.ref (ad 0), .int (nI p9), .int (nI s9)] H (xi H (xb (xhas (zP S p9) s9 (zL S p9)))) (xNo) := by
  refine vx_ofW (cc := cX5_hasStep) (maxL := 5) (ret := (some .boolean)) (by decide) rfl ?_
  intro Pg Ev s m args below meth c s₁ B hml hout hv
  obtain ⟨rfl, hH, hC⟩ := hv
  have hx := B.exec
  have hb := B.bytes
  have hr := B.returns
  have hts := atoms_spec (ws := wsX5_hasStep) B.pre
  have hown : s.vm.findClass RX5 = some m.cls := findClass_of_methodNamed B.named
  have hlocks := B.notSynchronized
  rw [hH]
  have hS : va_S (xA G) s.heap H [] := by rw [← hH]; exact va_S.rf
  generalize ([] : List Loc) = locs at hS ⊢
  have hl := lv_entry [.ref (ad 0), .int (nI p9), .int (nI s9)] (n := 5) (Nat.le_of_ble_eq_true rfl)
  rw [lg_entry_eq]
  generalize (lg_sl [.ref (ad 0), .int (nI p9), .int (nI s9)] ++ List.replicate (5 - (lg_sl [.ref (ad 0), .int (nI p9), .int (nI s9)]).length) Slot.unset).toArray = ls at hl ⊢
  have hl : lv_has ls 5 [(0, .ref (ad 0)), (1, .int (nI p9)), (2, .int (nI s9))] := hl
  obtain ⟨hO, hm0, hm1, hm2, hm3, hm4, hm5, hm6, hm7, hm8, hm9, hm10⟩ := id hM
  have hn20 := hW.1
  have hL7 := hW.2.1 p9
  have hP16 := hW.2.2.1 p9
  refine lv_iconst (v := (nI 0)) hx hb dX5_hasStep_0 (by decide) ?_
  refine lv_istore_n (lv' := [(3, .int (nI 0)), (0, .ref (ad 0)), (1, .int (nI p9)), (2, .int (nI s9))]) hx hb dX5_hasStep_1 rfl hl (by decide) rfl (fun ls hl => ?_)
  refine lv_bipush (v := (nI 7)) hx hb dX5_hasStep_2 (by decide) ?_
  refine lv_iload_n hx hb dX5_hasStep_4 rfl (lv_at hl 2 rfl) ?_
  refine x_imuln (a := 7) (b := p9) hx hb dX5_hasStep_5 ?_
  refine lv_istore (lv' := [(4, .int (nI (7 * p9))), (3, .int (nI 0)), (0, .ref (ad 0)), (1, .int (nI p9)), (2, .int (nI s9))]) hx hb dX5_hasStep_6 hl (by decide) rfl (fun ls hl => ?_)
  have L : ∀ (kL : Nat) (i : Nat) (b9 : Bool), (i ≤ zL S p9) → (b9 = xhas (zP S p9) s9 i) → zL S p9 - i < kL → ∀ (locs : List Loc), va_S (xA G) s.heap H locs → ∀ ls : Array Slot, lv_has ls 5 [(0, .ref (ad 0)), (1, .int (nI p9)), (2, .int (nI s9)), (3, .int (xb b9)), (4, .int (nI (7 * p9 + i)))] → W Pg l Ev (headSpec wsX5_hasStep ({ frames := 0, cells := 0, slots := 0, locals := 0 } : Room)).room s m ([.ref (ad 0), .int (nI p9), .int (nI s9)] : List Value).toArray below meth c H locs (0) (0) (vx_MQ below (xQ G (xi H (xb (xhas (zP S p9) s9 (zL S p9))))) (xX G (xNo)) ([.ref (ad 0), .int (nI p9), .int (nI s9)] : List Value).toArray s ({ frames := 0, cells := 0, slots := 0, locals := 0 } : Room).cells ({ frames := 0, cells := 0, slots := 0, locals := 0 } : Room).slots (xA G)) (F0 m 8 ls []) := by
    intro kL
    induction kL with
    | zero => intro i b9 hi hb9 hk; exact absurd hk (Nat.not_lt_zero _)
    | succ kL ihL =>
      intro i b9 hi hb9 hk locs hS ls hl
      refine lv_iload hx hb dX5_hasStep_8 (lv_at hl 4 rfl) ?_
      refine lv_bipush (v := (nI 7)) hx hb dX5_hasStep_10 (by decide) ?_
      refine lv_iload_n hx hb dX5_hasStep_12 rfl (lv_at hl 1 rfl) ?_
      refine x_imuln (a := 7) (b := p9) hx hb dX5_hasStep_13 ?_
      refine lv_aload_n hx hb dX5_hasStep_14 rfl (lv_at hl 0 rfl) ?_
      refine va_get (D := xD G) (ci := 6) (v := .ref (ad 2)) (C := RX5) (T := TX5) (N := 14) hx hb hts (by decide +kernel) hown hC.1 (x1 hm0) 0 rfl rfl 1 (by decide) (hts (.fieldLink RX5 13 "BidwhistleModel" "lengths" "[I") (by decide +kernel)) (fun _ h9 => h9) rfl dX5_hasStep_15 ?_
      refine lv_iload_n hx hb dX5_hasStep_18 rfl (lv_at hl 1 rfl) ?_
      refine x_iald (G := G) (j := p9) hx hb hC hm2 (by omega) (by first | decide | omega) dX5_hasStep_19 ?_
      refine x_iaddn (a := (7 * p9)) (b := (zL S p9)) hx hb dX5_hasStep_20 ?_
      refine lv_icmp_ge (tgt := 51) hx hb dX5_hasStep_21 (by decide) (fun c_1 => ?_) (fun c_1 => ?_)
      · have _ := hx
        have c_1 : (((7 * p9)) + ((zL S p9))) ≤ (7 * p9 + i) := (nI_leI (a := (((7 * p9)) + ((zL S p9)))) (b := (7 * p9 + i)) (by omega) (by omega)).mp c_1
        refine lv_iload_n hx hb dX5_hasStep_51 rfl (lv_at hl 3 rfl) ?_
        exact x_iret (G := G) hx hb hr (xb_nar _) dX5_hasStep_52 hlocks hS (by first | exact Nat.le_of_ble_eq_true rfl | exact (show 0 ≤ 0 by omega)) (by first | exact Nat.le_of_ble_eq_true rfl | exact (show 0 ≤ 0 by omega)) ⟨rfl, by rw [hb9, show i = zL S p9 by omega]⟩
      · have _ := hx
        have c_1 : ¬ ((((7 * p9)) + ((zL S p9))) ≤ (7 * p9 + i)) := fun z => c_1 ((nI_leI (a := (((7 * p9)) + ((zL S p9)))) (b := (7 * p9 + i)) (by omega) (by omega)).mpr z)
        refine lv_iload_n hx hb dX5_hasStep_24 rfl (lv_at hl 3 rfl) ?_
        refine lv_if_ne (tgt := 39) hx hb dX5_hasStep_25 (by decide) (fun c_2 => ?_) (fun c_2 => ?_)
        · have _ := hx
          refine lv_iconst (v := (nI 1)) hx hb dX5_hasStep_39 (by decide) ?_
          refine lv_goto (tgt := 44) hx hb dX5_hasStep_40 (by decide) ?_
          refine lv_istore_n (lv' := [(3, .int (nI 1)), (0, .ref (ad 0)), (1, .int (nI p9)), (2, .int (nI s9)), (4, .int (nI (7 * p9 + i)))]) hx hb dX5_hasStep_44 rfl hl (by decide) rfl (fun ls hl => ?_)
          refine lv_iinc (v := (nI ((7 * p9 + i) + 1))) (lv' := [(4, .int (nI ((7 * p9 + i) + 1))), (3, .int (nI 1)), (0, .ref (ad 0)), (1, .int (nI p9)), (2, .int (nI s9))]) hx hb dX5_hasStep_45 hl (k := 4) rfl (xinc (by decide)) (by decide) rfl (fun ls hl => ?_)
          refine lv_goto (tgt := 8) hx hb dX5_hasStep_48 (by decide) ?_
          exact ihL (i + 1) (true) (by omega) ((xhas_y1 (hb9.symm.trans (xb_1 c_2))).symm) (by omega) _ hS ls (lv_sub hl [2, 3, 4, 1, 0] rfl)
        · have _ := hx
          refine lv_aload_n hx hb dX5_hasStep_28 rfl (lv_at hl 0 rfl) ?_
          refine va_get (D := xD G) (ci := 6) (v := .ref (ad 1)) (C := RX5) (T := TX5) (N := 14) hx hb hts (by decide +kernel) hown hC.1 (x1 hm0) 0 rfl rfl 0 (by decide) (hts (.fieldLink RX5 7 "BidwhistleModel" "steps" "[I") (by decide +kernel)) (fun _ h9 => h9) rfl dX5_hasStep_29 ?_
          refine lv_iload hx hb dX5_hasStep_32 (lv_at hl 4 rfl) ?_
          refine x_iald (G := G) (j := (7 * p9 + i)) hx hb hC hm1 (by omega) (by first | decide | omega) dX5_hasStep_34 ?_
          rw [mst_at (P := (zP S)) (q := (7 * p9 + i)) (i := p9) (k := i) (by omega) (by omega)]
          refine lv_iload_n hx hb dX5_hasStep_35 rfl (lv_at hl 2 rfl) ?_
          refine lv_icmp_ne (tgt := 43) hx hb dX5_hasStep_36 (by decide) (fun c_3 => ?_) (fun c_3 => ?_)
          · have _ := hx
            have c_3 : ¬ ((zP S p9 i) = s9) := fun z => c_3 ((nI_eq (a := (zP S p9 i)) (b := s9) (by first | omega | (have hPi := hP16 i; omega)) (by first | omega | (have hPi := hP16 i; omega))).mpr z)
            refine lv_iconst (v := (nI 0)) hx hb dX5_hasStep_43 (by decide) ?_
            refine lv_istore_n (lv' := [(3, .int (nI 0)), (0, .ref (ad 0)), (1, .int (nI p9)), (2, .int (nI s9)), (4, .int (nI (7 * p9 + i)))]) hx hb dX5_hasStep_44 rfl hl (by decide) rfl (fun ls hl => ?_)
            refine lv_iinc (v := (nI ((7 * p9 + i) + 1))) (lv' := [(4, .int (nI ((7 * p9 + i) + 1))), (3, .int (nI 0)), (0, .ref (ad 0)), (1, .int (nI p9)), (2, .int (nI s9))]) hx hb dX5_hasStep_45 hl (k := 4) rfl (xinc (by decide)) (by decide) rfl (fun ls hl => ?_)
            refine lv_goto (tgt := 8) hx hb dX5_hasStep_48 (by decide) ?_
            exact ihL (i + 1) (false) (by omega) ((xhas_no (hb9.symm.trans (xb_0.mp (by first | exact c_2 | exact Classical.not_not.mp c_2))) c_3).symm) (by omega) _ hS ls (lv_sub hl [2, 3, 4, 1, 0] rfl)
          · have _ := hx
            have c_3 : (zP S p9 i) = s9 := (nI_eq (a := (zP S p9 i)) (b := s9) (by first | omega | (have hPi := hP16 i; omega)) (by first | omega | (have hPi := hP16 i; omega))).mp c_3
            refine lv_iconst (v := (nI 1)) hx hb dX5_hasStep_39 (by decide) ?_
            refine lv_goto (tgt := 44) hx hb dX5_hasStep_40 (by decide) ?_
            refine lv_istore_n (lv' := [(3, .int (nI 1)), (0, .ref (ad 0)), (1, .int (nI p9)), (2, .int (nI s9)), (4, .int (nI (7 * p9 + i)))]) hx hb dX5_hasStep_44 rfl hl (by decide) rfl (fun ls hl => ?_)
            refine lv_iinc (v := (nI ((7 * p9 + i) + 1))) (lv' := [(4, .int (nI ((7 * p9 + i) + 1))), (3, .int (nI 1)), (0, .ref (ad 0)), (1, .int (nI p9)), (2, .int (nI s9))]) hx hb dX5_hasStep_45 hl (k := 4) rfl (xinc (by decide)) (by decide) rfl (fun ls hl => ?_)
            refine lv_goto (tgt := 8) hx hb dX5_hasStep_48 (by decide) ?_
            exact ihL (i + 1) (true) (by omega) ((xhas_y2 (by first | exact c_3 | exact Classical.not_not.mp c_3)).symm) (by omega) _ hS ls (lv_sub hl [2, 3, 4, 1, 0] rfl)
  exact L _ (0) (false) (Nat.zero_le _) (rfl) (Nat.lt_succ_self _) _ hS ls (lv_sub hl [2, 3, 4, 1, 0] rfl)

set_option maxHeartbeats 4000000 in
set_option maxRecDepth 100000 in
/-- hasForbidden(program) -/
theorem c_X5_hasForbidden (l : Launch) (hfl : l.stackTraces = false) (G : xG) (ad : Nat → Nat) (S : zS) (tp th : Nat) (g : Nat → Int) (wo : Nat → Int32) (z : Nat → Bool) (p9 : Nat) (H : Heap) (hM : MX G ad S tp th g wo z H) (hW : zW S) (hp9 : p9 ≤ 20) : xMet l G yX5_hasForbidden wsX5_hasForbidden ({ frames := 1, cells := 0, slots := 0, locals := 24 } : Room) [.ref (ad 0), .int (nI p9)] H (xi H (xb (zbad S p9))) (xNo) := by
  refine vx_ofW (cc := cX5_hasForbidden) (maxL := 4) (ret := (some .boolean)) (by decide) rfl ?_
  intro Pg Ev s m args below meth c s₁ B hml hout hv
  obtain ⟨rfl, hH, hC⟩ := hv
  have hx := B.exec
  have hb := B.bytes
  have hr := B.returns
  have hts := atoms_spec (ws := wsX5_hasForbidden) B.pre
  have hown : s.vm.findClass RX5 = some m.cls := findClass_of_methodNamed B.named
  have hlocks := B.notSynchronized
  rw [hH]
  have hS : va_S (xA G) s.heap H [] := by rw [← hH]; exact va_S.rf
  generalize ([] : List Loc) = locs at hS ⊢
  have hl := lv_entry [.ref (ad 0), .int (nI p9)] (n := 4) (Nat.le_of_ble_eq_true rfl)
  rw [lg_entry_eq]
  generalize (lg_sl [.ref (ad 0), .int (nI p9)] ++ List.replicate (4 - (lg_sl [.ref (ad 0), .int (nI p9)]).length) Slot.unset).toArray = ls at hl ⊢
  have hl : lv_has ls 4 [(0, .ref (ad 0)), (1, .int (nI p9))] := hl
  obtain ⟨hO, hm0, hm1, hm2, hm3, hm4, hm5, hm6, hm7, hm8, hm9, hm10⟩ := id hM
  have hn20 := hW.1
  refine lv_iconst (v := (nI 0)) hx hb dX5_hasForbidden_0 (by decide) ?_
  refine lv_istore_n (lv' := [(2, .int (nI 0)), (0, .ref (ad 0)), (1, .int (nI p9))]) hx hb dX5_hasForbidden_1 rfl hl (by decide) rfl (fun ls hl => ?_)
  refine lv_iconst (v := (nI 0)) hx hb dX5_hasForbidden_2 (by decide) ?_
  refine lv_istore_n (lv' := [(3, .int (nI 0)), (2, .int (nI 0)), (0, .ref (ad 0)), (1, .int (nI p9))]) hx hb dX5_hasForbidden_3 rfl hl (by decide) rfl (fun ls hl => ?_)
  have L : ∀ (kL : Nat) (i : Nat) (b9 : Bool), (i ≤ 17) → (b9 = xany (zP S p9) (zL S p9) (zF S) i) → 17 - i < kL → ∀ (locs : List Loc), va_S (xA G) s.heap H locs → ∀ ls : Array Slot, lv_has ls 4 [(0, .ref (ad 0)), (1, .int (nI p9)), (2, .int (xb b9)), (3, .int (nI i))] → W Pg l Ev (headSpec wsX5_hasForbidden ({ frames := 1, cells := 0, slots := 0, locals := 24 } : Room)).room s m ([.ref (ad 0), .int (nI p9)] : List Value).toArray below meth c H locs (0) (0) (vx_MQ below (xQ G (xi H (xb (zbad S p9)))) (xX G (xNo)) ([.ref (ad 0), .int (nI p9)] : List Value).toArray s ({ frames := 1, cells := 0, slots := 0, locals := 24 } : Room).cells ({ frames := 1, cells := 0, slots := 0, locals := 24 } : Room).slots (xA G)) (F0 m 4 ls []) := by
    intro kL
    induction kL with
    | zero => intro i b9 hi hb9 hk; exact absurd hk (Nat.not_lt_zero _)
    | succ kL ihL =>
      intro i b9 hi hb9 hk locs hS ls hl
      refine lv_iload_n hx hb dX5_hasForbidden_4 rfl (lv_at hl 3 rfl) ?_
      refine lv_bipush (v := (nI 16)) hx hb dX5_hasForbidden_5 (by decide) ?_
      refine lv_icmp_gt (tgt := 44) hx hb dX5_hasForbidden_7 (by decide) (fun c_1 => ?_) (fun c_1 => ?_)
      · have _ := hx
        have c_1 : 16 < i := (nI_ltI (a := 16) (b := i) (by omega) (by omega)).mp c_1
        refine lv_iload_n hx hb dX5_hasForbidden_44 rfl (lv_at hl 2 rfl) ?_
        exact x_iret (G := G) hx hb hr (xb_nar _) dX5_hasForbidden_45 hlocks hS (by first | exact Nat.le_of_ble_eq_true rfl | exact (show 0 ≤ 0 by omega)) (by first | exact Nat.le_of_ble_eq_true rfl | exact (show 0 ≤ 0 by omega)) ⟨rfl, by rw [hb9, show i = 17 by omega]; rfl⟩
      · have _ := hx
        have c_1 : ¬ (16 < i) := fun z => c_1 ((nI_ltI (a := 16) (b := i) (by omega) (by omega)).mpr z)
        refine lv_iload_n hx hb dX5_hasForbidden_10 rfl (lv_at hl 2 rfl) ?_
        refine lv_if_ne (tgt := 32) hx hb dX5_hasForbidden_11 (by decide) (fun c_2 => ?_) (fun c_2 => ?_)
        · have _ := hx
          refine lv_iconst (v := (nI 1)) hx hb dX5_hasForbidden_32 (by decide) ?_
          refine lv_goto (tgt := 37) hx hb dX5_hasForbidden_33 (by decide) ?_
          refine lv_istore_n (lv' := [(2, .int (nI 1)), (0, .ref (ad 0)), (1, .int (nI p9)), (3, .int (nI i))]) hx hb dX5_hasForbidden_37 rfl hl (by decide) rfl (fun ls hl => ?_)
          refine lv_iinc (v := (nI (i + 1))) (lv' := [(3, .int (nI (i + 1))), (2, .int (nI 1)), (0, .ref (ad 0)), (1, .int (nI p9))]) hx hb dX5_hasForbidden_38 hl (k := 3) rfl (xinc (by decide)) (by decide) rfl (fun ls hl => ?_)
          refine lv_goto (tgt := 4) hx hb dX5_hasForbidden_41 (by decide) ?_
          exact ihL (i + 1) (true) (by omega) ((xany_y1 (hb9.symm.trans (xb_1 c_2))).symm) (by omega) _ hS ls (lv_sub hl [2, 3, 1, 0] rfl)
        · have _ := hx
          refine lv_aload_n hx hb dX5_hasForbidden_14 rfl (lv_at hl 0 rfl) ?_
          refine va_get (D := xD G) (ci := 6) (v := .ref (ad 5)) (C := RX5) (T := TX5) (N := 14) hx hb hts (by decide +kernel) hown hC.1 (x1 hm0) 0 rfl rfl 5 (by decide) (hts (.fieldLink RX5 23 "BidwhistleModel" "isForbidden" "[Z") (by decide +kernel)) (fun _ h9 => h9) rfl dX5_hasForbidden_15 ?_
          refine lv_iload_n hx hb dX5_hasForbidden_18 rfl (lv_at hl 3 rfl) ?_
          refine x_zald (G := G) (j := i) hx hb hC hm5 (by omega) (by first | decide | omega) dX5_hasForbidden_19 ?_
          refine lv_if_eq (tgt := 36) hx hb dX5_hasForbidden_20 (by decide) (fun c_3 => ?_) (fun c_3 => ?_)
          · have _ := hx
            refine lv_iconst (v := (nI 0)) hx hb dX5_hasForbidden_36 (by decide) ?_
            refine lv_istore_n (lv' := [(2, .int (nI 0)), (0, .ref (ad 0)), (1, .int (nI p9)), (3, .int (nI i))]) hx hb dX5_hasForbidden_37 rfl hl (by decide) rfl (fun ls hl => ?_)
            refine lv_iinc (v := (nI (i + 1))) (lv' := [(3, .int (nI (i + 1))), (2, .int (nI 0)), (0, .ref (ad 0)), (1, .int (nI p9))]) hx hb dX5_hasForbidden_38 hl (k := 3) rfl (xinc (by decide)) (by decide) rfl (fun ls hl => ?_)
            refine lv_goto (tgt := 4) hx hb dX5_hasForbidden_41 (by decide) ?_
            exact ihL (i + 1) (false) (by omega) ((xany_n1 (hb9.symm.trans (xb_0.mp (by first | exact c_2 | exact Classical.not_not.mp c_2))) (xb_0.mp c_3)).symm) (by omega) _ hS ls (lv_sub hl [2, 3, 1, 0] rfl)
          · have _ := hx
            refine lv_aload_n hx hb dX5_hasForbidden_23 rfl (lv_at hl 0 rfl) ?_
            refine lv_iload_n hx hb dX5_hasForbidden_24 rfl (lv_at hl 1 rfl) ?_
            refine lv_iload_n hx hb dX5_hasForbidden_25 rfl (lv_at hl 3 rfl) ?_
            refine x_intE (vx_runV (As := [.int (nI p9), .int (nI i)]) (rest := []) ⟨hx, hb, hml, hown, hts⟩ (c_X5_hasStep l hfl G ad S tp th g wo z p9 i H ⟨hO, hm0, hm1, hm2, hm3, hm4, hm5, hm6, hm7, hm8, hm9, hm10⟩ hW (by omega) (by omega)) (cwV 2 hts gX5_hasForbidden_X5_hasStep rfl rfl rfl (by decide +kernel) ⟨(Nat.le_of_ble_eq_true rfl), (Nat.le_of_ble_eq_true rfl)⟩) (xPreV hC hS hm0 (q := (RX5, TX5, 14)) rfl) rfl rfl hl.1 rfl (lv_room (Nat.le_of_ble_eq_true rfl)) dX5_hasForbidden_26 ⟨(by first | exact Nat.le_of_ble_eq_true rfl | exact (show 0 + 0 ≤ 0 by omega)), (by first | exact Nat.le_of_ble_eq_true rfl | exact (show 0 + 0 ≤ 0 by omega))⟩) hS (fun locs hS => ?_)
            refine lv_if_eq (tgt := 36) hx hb dX5_hasForbidden_29 (by decide) (fun c_4 => ?_) (fun c_4 => ?_)
            · have _ := hx
              refine lv_iconst (v := (nI 0)) hx hb dX5_hasForbidden_36 (by decide) ?_
              refine lv_istore_n (lv' := [(2, .int (nI 0)), (0, .ref (ad 0)), (1, .int (nI p9)), (3, .int (nI i))]) hx hb dX5_hasForbidden_37 rfl hl (by decide) rfl (fun ls hl => ?_)
              refine lv_iinc (v := (nI (i + 1))) (lv' := [(3, .int (nI (i + 1))), (2, .int (nI 0)), (0, .ref (ad 0)), (1, .int (nI p9))]) hx hb dX5_hasForbidden_38 hl (k := 3) rfl (xinc (by decide)) (by decide) rfl (fun ls hl => ?_)
              refine lv_goto (tgt := 4) hx hb dX5_hasForbidden_41 (by decide) ?_
              exact ihL (i + 1) (false) (by omega) ((xany_n2 (hb9.symm.trans (xb_0.mp (by first | exact c_2 | exact Classical.not_not.mp c_2))) (xb_0.mp c_4)).symm) (by omega) _ hS ls (lv_sub hl [2, 3, 1, 0] rfl)
            · have _ := hx
              refine lv_iconst (v := (nI 1)) hx hb dX5_hasForbidden_32 (by decide) ?_
              refine lv_goto (tgt := 37) hx hb dX5_hasForbidden_33 (by decide) ?_
              refine lv_istore_n (lv' := [(2, .int (nI 1)), (0, .ref (ad 0)), (1, .int (nI p9)), (3, .int (nI i))]) hx hb dX5_hasForbidden_37 rfl hl (by decide) rfl (fun ls hl => ?_)
              refine lv_iinc (v := (nI (i + 1))) (lv' := [(3, .int (nI (i + 1))), (2, .int (nI 1)), (0, .ref (ad 0)), (1, .int (nI p9))]) hx hb dX5_hasForbidden_38 hl (k := 3) rfl (xinc (by decide)) (by decide) rfl (fun ls hl => ?_)
              refine lv_goto (tgt := 4) hx hb dX5_hasForbidden_41 (by decide) ?_
              exact ihL (i + 1) (true) (by omega) ((xany_y2 (xb_1 c_3) (xb_1 c_4)).symm) (by omega) _ hS ls (lv_sub hl [2, 3, 1, 0] rfl)
  exact L _ (0) (false) (Nat.zero_le _) (rfl) (Nat.lt_succ_self _) _ hS ls (lv_sub hl [2, 3, 1, 0] rfl)

set_option maxHeartbeats 4000000 in
set_option maxRecDepth 100000 in
/-- areSame(program, other) -/
theorem c_X5_areSame (l : Launch) (hfl : l.stackTraces = false) (G : xG) (ad : Nat → Nat) (S : zS) (tp th : Nat) (g : Nat → Int) (wo : Nat → Int32) (z : Nat → Bool) (p9 q9 : Nat) (H : Heap) (hM : MX G ad S tp th g wo z H) (hW : zW S) (hp9 : p9 ≤ 20) (hq9 : q9 ≤ 20) : xMet l G yX5_areSame wsX5_areSame ({ frames := 0, cells := 0, slots := 0, locals := 0 } : Room) [.ref (ad 0), .int (nI p9), .int (nI q9)] H (xi H (xb (zsame S p9 q9))) (xNo) := by
  refine vx_ofW (cc := cX5_areSame) (maxL := 5) (ret := (some .boolean)) (by decide) rfl ?_
  intro Pg Ev s m args below meth c s₁ B hml hout hv
  obtain ⟨rfl, hH, hC⟩ := hv
  have hx := B.exec
  have hb := B.bytes
  have hr := B.returns
  have hts := atoms_spec (ws := wsX5_areSame) B.pre
  have hown : s.vm.findClass RX5 = some m.cls := findClass_of_methodNamed B.named
  have hlocks := B.notSynchronized
  rw [hH]
  have hS : va_S (xA G) s.heap H [] := by rw [← hH]; exact va_S.rf
  generalize ([] : List Loc) = locs at hS ⊢
  have hl := lv_entry [.ref (ad 0), .int (nI p9), .int (nI q9)] (n := 5) (Nat.le_of_ble_eq_true rfl)
  rw [lg_entry_eq]
  generalize (lg_sl [.ref (ad 0), .int (nI p9), .int (nI q9)] ++ List.replicate (5 - (lg_sl [.ref (ad 0), .int (nI p9), .int (nI q9)]).length) Slot.unset).toArray = ls at hl ⊢
  have hl : lv_has ls 5 [(0, .ref (ad 0)), (1, .int (nI p9)), (2, .int (nI q9))] := hl
  obtain ⟨hO, hm0, hm1, hm2, hm3, hm4, hm5, hm6, hm7, hm8, hm9, hm10⟩ := id hM
  have hn20 := hW.1
  have hL7 := hW.2.1 p9
  have hL8 := hW.2.1 q9
  have hP16 := hW.2.2.1
  refine lv_aload_n hx hb dX5_areSame_0 rfl (lv_at hl 0 rfl) ?_
  refine va_get (D := xD G) (ci := 6) (v := .ref (ad 2)) (C := RX5) (T := TX5) (N := 14) hx hb hts (by decide +kernel) hown hC.1 (x1 hm0) 0 rfl rfl 1 (by decide) (hts (.fieldLink RX5 13 "BidwhistleModel" "lengths" "[I") (by decide +kernel)) (fun _ h9 => h9) rfl dX5_areSame_1 ?_
  refine lv_iload_n hx hb dX5_areSame_4 rfl (lv_at hl 1 rfl) ?_
  refine x_iald (G := G) (j := p9) hx hb hC hm2 (by omega) (by first | decide | omega) dX5_areSame_5 ?_
  refine lv_aload_n hx hb dX5_areSame_6 rfl (lv_at hl 0 rfl) ?_
  refine va_get (D := xD G) (ci := 6) (v := .ref (ad 2)) (C := RX5) (T := TX5) (N := 14) hx hb hts (by decide +kernel) hown hC.1 (x1 hm0) 0 rfl rfl 1 (by decide) (hts (.fieldLink RX5 13 "BidwhistleModel" "lengths" "[I") (by decide +kernel)) (fun _ h9 => h9) rfl dX5_areSame_7 ?_
  refine lv_iload_n hx hb dX5_areSame_10 rfl (lv_at hl 2 rfl) ?_
  refine x_iald (G := G) (j := q9) hx hb hC hm2 (by omega) (by first | decide | omega) dX5_areSame_11 ?_
  refine lv_icmp_ne (tgt := 19) hx hb dX5_areSame_12 (by decide) (fun c_1 => ?_) (fun c_1 => ?_)
  · have _ := hx
    have c_1 : ¬ ((zL S p9) = (zL S q9)) := fun z => c_1 ((nI_eq (a := (zL S p9)) (b := (zL S q9)) (by omega) (by omega)).mpr z)
    refine lv_iconst (v := (nI 0)) hx hb dX5_areSame_19 (by decide) ?_
    refine lv_istore_n (lv' := [(3, .int (nI 0)), (0, .ref (ad 0)), (1, .int (nI p9)), (2, .int (nI q9))]) hx hb dX5_areSame_20 rfl hl (by decide) rfl (fun ls hl => ?_)
    refine lv_iconst (v := (nI 0)) hx hb dX5_areSame_21 (by decide) ?_
    refine lv_istore (lv' := [(4, .int (nI 0)), (3, .int (nI 0)), (0, .ref (ad 0)), (1, .int (nI p9)), (2, .int (nI q9))]) hx hb dX5_areSame_22 hl (by decide) rfl (fun ls hl => ?_)
    have L : ∀ (kL : Nat) (i : Nat) (b9 : Bool), (i ≤ zL S p9) → (b9 = zsm S p9 q9 i) → zL S p9 - i < kL → ∀ (locs : List Loc), va_S (xA G) s.heap H locs → ∀ ls : Array Slot, lv_has ls 5 [(0, .ref (ad 0)), (1, .int (nI p9)), (2, .int (nI q9)), (3, .int (xb b9)), (4, .int (nI i))] → W Pg l Ev (headSpec wsX5_areSame ({ frames := 0, cells := 0, slots := 0, locals := 0 } : Room)).room s m ([.ref (ad 0), .int (nI p9), .int (nI q9)] : List Value).toArray below meth c H locs (0) (0) (vx_MQ below (xQ G (xi H (xb (zsame S p9 q9)))) (xX G (xNo)) ([.ref (ad 0), .int (nI p9), .int (nI q9)] : List Value).toArray s ({ frames := 0, cells := 0, slots := 0, locals := 0 } : Room).cells ({ frames := 0, cells := 0, slots := 0, locals := 0 } : Room).slots (xA G)) (F0 m 24 ls []) := by
      intro kL
      induction kL with
      | zero => intro i b9 hi hb9 hk; exact absurd hk (Nat.not_lt_zero _)
      | succ kL ihL =>
        intro i b9 hi hb9 hk locs hS ls hl
        refine lv_iload hx hb dX5_areSame_24 (lv_at hl 4 rfl) ?_
        refine lv_aload_n hx hb dX5_areSame_26 rfl (lv_at hl 0 rfl) ?_
        refine va_get (D := xD G) (ci := 6) (v := .ref (ad 2)) (C := RX5) (T := TX5) (N := 14) hx hb hts (by decide +kernel) hown hC.1 (x1 hm0) 0 rfl rfl 1 (by decide) (hts (.fieldLink RX5 13 "BidwhistleModel" "lengths" "[I") (by decide +kernel)) (fun _ h9 => h9) rfl dX5_areSame_27 ?_
        refine lv_iload_n hx hb dX5_areSame_30 rfl (lv_at hl 1 rfl) ?_
        refine x_iald (G := G) (j := p9) hx hb hC hm2 (by omega) (by first | decide | omega) dX5_areSame_31 ?_
        refine lv_icmp_ge (tgt := 78) hx hb dX5_areSame_32 (by decide) (fun c_2 => ?_) (fun c_2 => ?_)
        · have _ := hx
          have c_2 : (zL S p9) ≤ i := (nI_leI (a := (zL S p9)) (b := i) (by omega) (by omega)).mp c_2
          refine lv_iload_n hx hb dX5_areSame_78 rfl (lv_at hl 3 rfl) ?_
          exact x_iret (G := G) hx hb hr (xb_nar _) dX5_areSame_79 hlocks hS (by first | exact Nat.le_of_ble_eq_true rfl | exact (show 0 ≤ 0 by omega)) (by first | exact Nat.le_of_ble_eq_true rfl | exact (show 0 ≤ 0 by omega)) ⟨rfl, by rw [hb9, show i = zL S p9 by omega]; rfl⟩
        · have _ := hx
          have c_2 : ¬ ((zL S p9) ≤ i) := fun z => c_2 ((nI_leI (a := (zL S p9)) (b := i) (by omega) (by omega)).mpr z)
          refine lv_iload_n hx hb dX5_areSame_35 rfl (lv_at hl 3 rfl) ?_
          refine lv_if_eq (tgt := 78) hx hb dX5_areSame_36 (by decide) (fun c_3 => ?_) (fun c_3 => ?_)
          · have _ := hx
            refine lv_iload_n hx hb dX5_areSame_78 rfl (lv_at hl 3 rfl) ?_
            exact x_iret (G := G) hx hb hr (xb_nar _) dX5_areSame_79 hlocks hS (by first | exact Nat.le_of_ble_eq_true rfl | exact (show 0 ≤ 0 by omega)) (by first | exact Nat.le_of_ble_eq_true rfl | exact (show 0 ≤ 0 by omega)) ⟨rfl, by rw [zsm_le (hb9.symm.trans (xb_0.mp c_3)) (by omega), xb_0.mp c_3]⟩
          · have _ := hx
            refine lv_aload_n hx hb dX5_areSame_39 rfl (lv_at hl 0 rfl) ?_
            refine va_get (D := xD G) (ci := 6) (v := .ref (ad 1)) (C := RX5) (T := TX5) (N := 14) hx hb hts (by decide +kernel) hown hC.1 (x1 hm0) 0 rfl rfl 0 (by decide) (hts (.fieldLink RX5 7 "BidwhistleModel" "steps" "[I") (by decide +kernel)) (fun _ h9 => h9) rfl dX5_areSame_40 ?_
            refine lv_bipush (v := (nI 7)) hx hb dX5_areSame_43 (by decide) ?_
            refine lv_iload_n hx hb dX5_areSame_45 rfl (lv_at hl 1 rfl) ?_
            refine x_imuln (a := 7) (b := p9) hx hb dX5_areSame_46 ?_
            refine lv_iload hx hb dX5_areSame_47 (lv_at hl 4 rfl) ?_
            refine x_iaddn (a := (7 * p9)) (b := i) hx hb dX5_areSame_49 ?_
            refine x_iald (G := G) (j := (((7 * p9)) + i)) hx hb hC hm1 (by omega) (by first | decide | omega) dX5_areSame_50 ?_
            rw [mst_at (P := (zP S)) (q := (((7 * p9)) + i)) (i := p9) (k := i) (by omega) (by omega)]
            refine lv_aload_n hx hb dX5_areSame_51 rfl (lv_at hl 0 rfl) ?_
            refine va_get (D := xD G) (ci := 6) (v := .ref (ad 1)) (C := RX5) (T := TX5) (N := 14) hx hb hts (by decide +kernel) hown hC.1 (x1 hm0) 0 rfl rfl 0 (by decide) (hts (.fieldLink RX5 7 "BidwhistleModel" "steps" "[I") (by decide +kernel)) (fun _ h9 => h9) rfl dX5_areSame_52 ?_
            refine lv_bipush (v := (nI 7)) hx hb dX5_areSame_55 (by decide) ?_
            refine lv_iload_n hx hb dX5_areSame_57 rfl (lv_at hl 2 rfl) ?_
            refine x_imuln (a := 7) (b := q9) hx hb dX5_areSame_58 ?_
            refine lv_iload hx hb dX5_areSame_59 (lv_at hl 4 rfl) ?_
            refine x_iaddn (a := (7 * q9)) (b := i) hx hb dX5_areSame_61 ?_
            refine x_iald (G := G) (j := (((7 * q9)) + i)) hx hb hC hm1 (by omega) (by first | decide | omega) dX5_areSame_62 ?_
            rw [mst_at (P := (zP S)) (q := (((7 * q9)) + i)) (i := q9) (k := i) (by omega) (by omega)]
            refine lv_icmp_ne (tgt := 70) hx hb dX5_areSame_63 (by decide) (fun c_4 => ?_) (fun c_4 => ?_)
            · have _ := hx
              have c_4 : ¬ ((zP S p9 i) = (zP S q9 i)) := fun z => c_4 ((nI_eq (a := (zP S p9 i)) (b := (zP S q9 i)) (by first | omega | (have hPi := hP16 p9 i; have hQi := hP16 q9 i; omega)) (by first | omega | (have hPi := hP16 p9 i; have hQi := hP16 q9 i; omega))).mpr z)
              refine lv_iconst (v := (nI 0)) hx hb dX5_areSame_70 (by decide) ?_
              refine lv_istore_n (lv' := [(3, .int (nI 0)), (0, .ref (ad 0)), (1, .int (nI p9)), (2, .int (nI q9)), (4, .int (nI i))]) hx hb dX5_areSame_71 rfl hl (by decide) rfl (fun ls hl => ?_)
              refine lv_iinc (v := (nI (i + 1))) (lv' := [(4, .int (nI (i + 1))), (3, .int (nI 0)), (0, .ref (ad 0)), (1, .int (nI p9)), (2, .int (nI q9))]) hx hb dX5_areSame_72 hl (k := 4) rfl (xinc (by decide)) (by decide) rfl (fun ls hl => ?_)
              refine lv_goto (tgt := 24) hx hb dX5_areSame_75 (by decide) ?_
              exact ihL (i + 1) (false) (by omega) ((zsm_up0 c_4).symm) (by omega) _ hS ls (lv_sub hl [2, 3, 4, 1, 0] rfl)
            · have _ := hx
              have c_4 : (zP S p9 i) = (zP S q9 i) := (nI_eq (a := (zP S p9 i)) (b := (zP S q9 i)) (by first | omega | (have hPi := hP16 p9 i; have hQi := hP16 q9 i; omega)) (by first | omega | (have hPi := hP16 p9 i; have hQi := hP16 q9 i; omega))).mp c_4
              refine lv_iconst (v := (nI 1)) hx hb dX5_areSame_66 (by decide) ?_
              refine lv_goto (tgt := 71) hx hb dX5_areSame_67 (by decide) ?_
              refine lv_istore_n (lv' := [(3, .int (nI 1)), (0, .ref (ad 0)), (1, .int (nI p9)), (2, .int (nI q9)), (4, .int (nI i))]) hx hb dX5_areSame_71 rfl hl (by decide) rfl (fun ls hl => ?_)
              refine lv_iinc (v := (nI (i + 1))) (lv' := [(4, .int (nI (i + 1))), (3, .int (nI 1)), (0, .ref (ad 0)), (1, .int (nI p9)), (2, .int (nI q9))]) hx hb dX5_areSame_72 hl (k := 4) rfl (xinc (by decide)) (by decide) rfl (fun ls hl => ?_)
              refine lv_goto (tgt := 24) hx hb dX5_areSame_75 (by decide) ?_
              exact ihL (i + 1) (true) (by omega) ((zsm_up1 (hb9.symm.trans (xb_1 c_3)) (by first | exact c_4 | exact Classical.not_not.mp c_4)).symm) (by omega) _ hS ls (lv_sub hl [2, 3, 4, 1, 0] rfl)
    exact L _ (0) (false) (Nat.zero_le _) (by unfold zsm; rw [show decide (zL S p9 = zL S q9) = false from decide_eq_false (by omega)]; rfl) (Nat.lt_succ_self _) _ hS ls (lv_sub hl [2, 3, 4, 1, 0] rfl)
  · have _ := hx
    have c_1 : (zL S p9) = (zL S q9) := (nI_eq (a := (zL S p9)) (b := (zL S q9)) (by omega) (by omega)).mp c_1
    refine lv_iconst (v := (nI 1)) hx hb dX5_areSame_15 (by decide) ?_
    refine lv_goto (tgt := 20) hx hb dX5_areSame_16 (by decide) ?_
    refine lv_istore_n (lv' := [(3, .int (nI 1)), (0, .ref (ad 0)), (1, .int (nI p9)), (2, .int (nI q9))]) hx hb dX5_areSame_20 rfl hl (by decide) rfl (fun ls hl => ?_)
    refine lv_iconst (v := (nI 0)) hx hb dX5_areSame_21 (by decide) ?_
    refine lv_istore (lv' := [(4, .int (nI 0)), (3, .int (nI 1)), (0, .ref (ad 0)), (1, .int (nI p9)), (2, .int (nI q9))]) hx hb dX5_areSame_22 hl (by decide) rfl (fun ls hl => ?_)
    have L : ∀ (kL : Nat) (i : Nat) (b9 : Bool), (i ≤ zL S p9) → (b9 = zsm S p9 q9 i) → zL S p9 - i < kL → ∀ (locs : List Loc), va_S (xA G) s.heap H locs → ∀ ls : Array Slot, lv_has ls 5 [(0, .ref (ad 0)), (1, .int (nI p9)), (2, .int (nI q9)), (3, .int (xb b9)), (4, .int (nI i))] → W Pg l Ev (headSpec wsX5_areSame ({ frames := 0, cells := 0, slots := 0, locals := 0 } : Room)).room s m ([.ref (ad 0), .int (nI p9), .int (nI q9)] : List Value).toArray below meth c H locs (0) (0) (vx_MQ below (xQ G (xi H (xb (zsame S p9 q9)))) (xX G (xNo)) ([.ref (ad 0), .int (nI p9), .int (nI q9)] : List Value).toArray s ({ frames := 0, cells := 0, slots := 0, locals := 0 } : Room).cells ({ frames := 0, cells := 0, slots := 0, locals := 0 } : Room).slots (xA G)) (F0 m 24 ls []) := by
      intro kL
      induction kL with
      | zero => intro i b9 hi hb9 hk; exact absurd hk (Nat.not_lt_zero _)
      | succ kL ihL =>
        intro i b9 hi hb9 hk locs hS ls hl
        refine lv_iload hx hb dX5_areSame_24 (lv_at hl 4 rfl) ?_
        refine lv_aload_n hx hb dX5_areSame_26 rfl (lv_at hl 0 rfl) ?_
        refine va_get (D := xD G) (ci := 6) (v := .ref (ad 2)) (C := RX5) (T := TX5) (N := 14) hx hb hts (by decide +kernel) hown hC.1 (x1 hm0) 0 rfl rfl 1 (by decide) (hts (.fieldLink RX5 13 "BidwhistleModel" "lengths" "[I") (by decide +kernel)) (fun _ h9 => h9) rfl dX5_areSame_27 ?_
        refine lv_iload_n hx hb dX5_areSame_30 rfl (lv_at hl 1 rfl) ?_
        refine x_iald (G := G) (j := p9) hx hb hC hm2 (by omega) (by first | decide | omega) dX5_areSame_31 ?_
        refine lv_icmp_ge (tgt := 78) hx hb dX5_areSame_32 (by decide) (fun c_5 => ?_) (fun c_5 => ?_)
        · have _ := hx
          have c_5 : (zL S p9) ≤ i := (nI_leI (a := (zL S p9)) (b := i) (by omega) (by omega)).mp c_5
          refine lv_iload_n hx hb dX5_areSame_78 rfl (lv_at hl 3 rfl) ?_
          exact x_iret (G := G) hx hb hr (xb_nar _) dX5_areSame_79 hlocks hS (by first | exact Nat.le_of_ble_eq_true rfl | exact (show 0 ≤ 0 by omega)) (by first | exact Nat.le_of_ble_eq_true rfl | exact (show 0 ≤ 0 by omega)) ⟨rfl, by rw [hb9, show i = zL S p9 by omega]; rfl⟩
        · have _ := hx
          have c_5 : ¬ ((zL S p9) ≤ i) := fun z => c_5 ((nI_leI (a := (zL S p9)) (b := i) (by omega) (by omega)).mpr z)
          refine lv_iload_n hx hb dX5_areSame_35 rfl (lv_at hl 3 rfl) ?_
          refine lv_if_eq (tgt := 78) hx hb dX5_areSame_36 (by decide) (fun c_6 => ?_) (fun c_6 => ?_)
          · have _ := hx
            refine lv_iload_n hx hb dX5_areSame_78 rfl (lv_at hl 3 rfl) ?_
            exact x_iret (G := G) hx hb hr (xb_nar _) dX5_areSame_79 hlocks hS (by first | exact Nat.le_of_ble_eq_true rfl | exact (show 0 ≤ 0 by omega)) (by first | exact Nat.le_of_ble_eq_true rfl | exact (show 0 ≤ 0 by omega)) ⟨rfl, by rw [zsm_le (hb9.symm.trans (xb_0.mp c_6)) (by omega), xb_0.mp c_6]⟩
          · have _ := hx
            refine lv_aload_n hx hb dX5_areSame_39 rfl (lv_at hl 0 rfl) ?_
            refine va_get (D := xD G) (ci := 6) (v := .ref (ad 1)) (C := RX5) (T := TX5) (N := 14) hx hb hts (by decide +kernel) hown hC.1 (x1 hm0) 0 rfl rfl 0 (by decide) (hts (.fieldLink RX5 7 "BidwhistleModel" "steps" "[I") (by decide +kernel)) (fun _ h9 => h9) rfl dX5_areSame_40 ?_
            refine lv_bipush (v := (nI 7)) hx hb dX5_areSame_43 (by decide) ?_
            refine lv_iload_n hx hb dX5_areSame_45 rfl (lv_at hl 1 rfl) ?_
            refine x_imuln (a := 7) (b := p9) hx hb dX5_areSame_46 ?_
            refine lv_iload hx hb dX5_areSame_47 (lv_at hl 4 rfl) ?_
            refine x_iaddn (a := (7 * p9)) (b := i) hx hb dX5_areSame_49 ?_
            refine x_iald (G := G) (j := (((7 * p9)) + i)) hx hb hC hm1 (by omega) (by first | decide | omega) dX5_areSame_50 ?_
            rw [mst_at (P := (zP S)) (q := (((7 * p9)) + i)) (i := p9) (k := i) (by omega) (by omega)]
            refine lv_aload_n hx hb dX5_areSame_51 rfl (lv_at hl 0 rfl) ?_
            refine va_get (D := xD G) (ci := 6) (v := .ref (ad 1)) (C := RX5) (T := TX5) (N := 14) hx hb hts (by decide +kernel) hown hC.1 (x1 hm0) 0 rfl rfl 0 (by decide) (hts (.fieldLink RX5 7 "BidwhistleModel" "steps" "[I") (by decide +kernel)) (fun _ h9 => h9) rfl dX5_areSame_52 ?_
            refine lv_bipush (v := (nI 7)) hx hb dX5_areSame_55 (by decide) ?_
            refine lv_iload_n hx hb dX5_areSame_57 rfl (lv_at hl 2 rfl) ?_
            refine x_imuln (a := 7) (b := q9) hx hb dX5_areSame_58 ?_
            refine lv_iload hx hb dX5_areSame_59 (lv_at hl 4 rfl) ?_
            refine x_iaddn (a := (7 * q9)) (b := i) hx hb dX5_areSame_61 ?_
            refine x_iald (G := G) (j := (((7 * q9)) + i)) hx hb hC hm1 (by omega) (by first | decide | omega) dX5_areSame_62 ?_
            rw [mst_at (P := (zP S)) (q := (((7 * q9)) + i)) (i := q9) (k := i) (by omega) (by omega)]
            refine lv_icmp_ne (tgt := 70) hx hb dX5_areSame_63 (by decide) (fun c_7 => ?_) (fun c_7 => ?_)
            · have _ := hx
              have c_7 : ¬ ((zP S p9 i) = (zP S q9 i)) := fun z => c_7 ((nI_eq (a := (zP S p9 i)) (b := (zP S q9 i)) (by first | omega | (have hPi := hP16 p9 i; have hQi := hP16 q9 i; omega)) (by first | omega | (have hPi := hP16 p9 i; have hQi := hP16 q9 i; omega))).mpr z)
              refine lv_iconst (v := (nI 0)) hx hb dX5_areSame_70 (by decide) ?_
              refine lv_istore_n (lv' := [(3, .int (nI 0)), (0, .ref (ad 0)), (1, .int (nI p9)), (2, .int (nI q9)), (4, .int (nI i))]) hx hb dX5_areSame_71 rfl hl (by decide) rfl (fun ls hl => ?_)
              refine lv_iinc (v := (nI (i + 1))) (lv' := [(4, .int (nI (i + 1))), (3, .int (nI 0)), (0, .ref (ad 0)), (1, .int (nI p9)), (2, .int (nI q9))]) hx hb dX5_areSame_72 hl (k := 4) rfl (xinc (by decide)) (by decide) rfl (fun ls hl => ?_)
              refine lv_goto (tgt := 24) hx hb dX5_areSame_75 (by decide) ?_
              exact ihL (i + 1) (false) (by omega) ((zsm_up0 c_7).symm) (by omega) _ hS ls (lv_sub hl [2, 3, 4, 1, 0] rfl)
            · have _ := hx
              have c_7 : (zP S p9 i) = (zP S q9 i) := (nI_eq (a := (zP S p9 i)) (b := (zP S q9 i)) (by first | omega | (have hPi := hP16 p9 i; have hQi := hP16 q9 i; omega)) (by first | omega | (have hPi := hP16 p9 i; have hQi := hP16 q9 i; omega))).mp c_7
              refine lv_iconst (v := (nI 1)) hx hb dX5_areSame_66 (by decide) ?_
              refine lv_goto (tgt := 71) hx hb dX5_areSame_67 (by decide) ?_
              refine lv_istore_n (lv' := [(3, .int (nI 1)), (0, .ref (ad 0)), (1, .int (nI p9)), (2, .int (nI q9)), (4, .int (nI i))]) hx hb dX5_areSame_71 rfl hl (by decide) rfl (fun ls hl => ?_)
              refine lv_iinc (v := (nI (i + 1))) (lv' := [(4, .int (nI (i + 1))), (3, .int (nI 1)), (0, .ref (ad 0)), (1, .int (nI p9)), (2, .int (nI q9))]) hx hb dX5_areSame_72 hl (k := 4) rfl (xinc (by decide)) (by decide) rfl (fun ls hl => ?_)
              refine lv_goto (tgt := 24) hx hb dX5_areSame_75 (by decide) ?_
              exact ihL (i + 1) (true) (by omega) ((zsm_up1 (hb9.symm.trans (xb_1 c_6)) (by first | exact c_7 | exact Classical.not_not.mp c_7)).symm) (by omega) _ hS ls (lv_sub hl [2, 3, 4, 1, 0] rfl)
    exact L _ (0) (true) (Nat.zero_le _) (by unfold zsm; rw [show decide (zL S p9 = zL S q9) = true from decide_eq_true (by omega)]; rfl) (Nat.lt_succ_self _) _ hS ls (lv_sub hl [2, 3, 4, 1, 0] rfl)

set_option maxHeartbeats 4000000 in
set_option maxRecDepth 100000 in
/-- found(program) -/
theorem c_X5_found (l : Launch) (hfl : l.stackTraces = false) (G : xG) (ad : Nat → Nat) (S : zS) (tp th : Nat) (g : Nat → Int) (wo : Nat → Int32) (z : Nat → Bool) (p9 : Nat) (H : Heap) (hM : MX G ad S tp th g wo z H) (hW : zW S) (hp9 : p9 ≤ 20) : xMet l G yX5_found wsX5_found ({ frames := 1, cells := 0, slots := 0, locals := 24 } : Room) [.ref (ad 0), .int (nI p9)] H (xi H (xpar (zfnd S (zP S p9) (zL S p9) (zN S)))) (xNo) := by
  refine vx_ofW (cc := cX5_found) (maxL := 4) (ret := (some .int)) (by decide) rfl ?_
  intro Pg Ev s m args below meth c s₁ B hml hout hv
  obtain ⟨rfl, hH, hC⟩ := hv
  have hx := B.exec
  have hb := B.bytes
  have hr := B.returns
  have hts := atoms_spec (ws := wsX5_found) B.pre
  have hown : s.vm.findClass RX5 = some m.cls := findClass_of_methodNamed B.named
  have hlocks := B.notSynchronized
  rw [hH]
  have hS : va_S (xA G) s.heap H [] := by rw [← hH]; exact va_S.rf
  generalize ([] : List Loc) = locs at hS ⊢
  have hl := lv_entry [.ref (ad 0), .int (nI p9)] (n := 4) (Nat.le_of_ble_eq_true rfl)
  rw [lg_entry_eq]
  generalize (lg_sl [.ref (ad 0), .int (nI p9)] ++ List.replicate (4 - (lg_sl [.ref (ad 0), .int (nI p9)]).length) Slot.unset).toArray = ls at hl ⊢
  have hl : lv_has ls 4 [(0, .ref (ad 0)), (1, .int (nI p9))] := hl
  obtain ⟨hO, hm0, hm1, hm2, hm3, hm4, hm5, hm6, hm7, hm8, hm9, hm10⟩ := id hM
  have hn20 := hW.1
  refine lv_iconst (v := xpar 0) hx hb dX5_found_0 (by decide) ?_
  refine lv_istore_n (lv' := [(2, .int (xpar 0)), (0, .ref (ad 0)), (1, .int (nI p9))]) hx hb dX5_found_1 rfl hl (by decide) rfl (fun ls hl => ?_)
  refine lv_iconst (v := (nI 0)) hx hb dX5_found_2 (by decide) ?_
  refine lv_istore_n (lv' := [(3, .int (nI 0)), (2, .int (xpar 0)), (0, .ref (ad 0)), (1, .int (nI p9))]) hx hb dX5_found_3 rfl hl (by decide) rfl (fun ls hl => ?_)
  have L : ∀ (kL : Nat) (i : Nat) (e9 : Nat), (i ≤ zN S) → (e9 = zlst S p9 i) → zN S - i < kL → ∀ (locs : List Loc), va_S (xA G) s.heap H locs → ∀ ls : Array Slot, lv_has ls 4 [(0, .ref (ad 0)), (1, .int (nI p9)), (2, .int (xpar e9)), (3, .int (nI i))] → W Pg l Ev (headSpec wsX5_found ({ frames := 1, cells := 0, slots := 0, locals := 24 } : Room)).room s m ([.ref (ad 0), .int (nI p9)] : List Value).toArray below meth c H locs (0) (0) (vx_MQ below (xQ G (xi H (xpar (zfnd S (zP S p9) (zL S p9) (zN S))))) (xX G (xNo)) ([.ref (ad 0), .int (nI p9)] : List Value).toArray s ({ frames := 1, cells := 0, slots := 0, locals := 24 } : Room).cells ({ frames := 1, cells := 0, slots := 0, locals := 24 } : Room).slots (xA G)) (F0 m 4 ls []) := by
    intro kL
    induction kL with
    | zero => intro i e9 hi he9 hk; exact absurd hk (Nat.not_lt_zero _)
    | succ kL ihL =>
      intro i e9 hi he9 hk locs hS ls hl
      refine lv_iload_n hx hb dX5_found_4 rfl (lv_at hl 3 rfl) ?_
      refine lv_aload_n hx hb dX5_found_5 rfl (lv_at hl 0 rfl) ?_
      refine va_get (D := xD G) (ci := 6) (v := .int (nI (zN S))) (C := RX5) (T := TX5) (N := 14) hx hb hts (by decide +kernel) hown hC.1 (x1 hm0) 0 rfl rfl 2 (by decide) (hts (.fieldLink RX5 45 "BidwhistleModel" "stored" "I") (by decide +kernel)) (fun _ h9 => h9) rfl dX5_found_6 ?_
      refine lv_icmp_ge (tgt := 33) hx hb dX5_found_9 (by decide) (fun c_1 => ?_) (fun c_1 => ?_)
      · have _ := hx
        have c_1 : (zN S) ≤ i := (nI_leI (a := (zN S)) (b := i) (by omega) (by omega)).mp c_1
        refine lv_iload_n hx hb dX5_found_33 rfl (lv_at hl 2 rfl) ?_
        exact x_iret (G := G) hx hb hr rfl dX5_found_34 hlocks hS (by first | exact Nat.le_of_ble_eq_true rfl | exact (show 0 ≤ 0 by omega)) (by first | exact Nat.le_of_ble_eq_true rfl | exact (show 0 ≤ 0 by omega)) ⟨rfl, by rw [he9, show i = zN S by omega, zlst_eq hW p9 (Nat.le_refl _)]⟩
      · have _ := hx
        have c_1 : ¬ ((zN S) ≤ i) := fun z => c_1 ((nI_leI (a := (zN S)) (b := i) (by omega) (by omega)).mpr z)
        refine lv_aload_n hx hb dX5_found_12 rfl (lv_at hl 0 rfl) ?_
        refine lv_iload_n hx hb dX5_found_13 rfl (lv_at hl 3 rfl) ?_
        refine lv_iload_n hx hb dX5_found_14 rfl (lv_at hl 1 rfl) ?_
        refine x_intE (vx_runV (As := [.int (nI i), .int (nI p9)]) (rest := []) ⟨hx, hb, hml, hown, hts⟩ (c_X5_areSame l hfl G ad S tp th g wo z i p9 H ⟨hO, hm0, hm1, hm2, hm3, hm4, hm5, hm6, hm7, hm8, hm9, hm10⟩ hW (by omega) (by omega)) (cwV 2 hts gX5_found_X5_areSame rfl rfl rfl (by decide +kernel) ⟨(Nat.le_of_ble_eq_true rfl), (Nat.le_of_ble_eq_true rfl)⟩) (xPreV hC hS hm0 (q := (RX5, TX5, 14)) rfl) rfl rfl hl.1 rfl (lv_room (Nat.le_of_ble_eq_true rfl)) dX5_found_15 ⟨(by first | exact Nat.le_of_ble_eq_true rfl | exact (show 0 + 0 ≤ 0 by omega)), (by first | exact Nat.le_of_ble_eq_true rfl | exact (show 0 + 0 ≤ 0 by omega))⟩) hS (fun locs hS => ?_)
        refine lv_if_eq (tgt := 25) hx hb dX5_found_18 (by decide) (fun c_2 => ?_) (fun c_2 => ?_)
        · have _ := hx
          refine lv_iload_n hx hb dX5_found_25 rfl (lv_at hl 2 rfl) ?_
          refine lv_istore_n (lv' := [(2, .int (xpar e9)), (0, .ref (ad 0)), (1, .int (nI p9)), (3, .int (nI i))]) hx hb dX5_found_26 rfl hl (by decide) rfl (fun ls hl => ?_)
          refine lv_iinc (v := (nI (i + 1))) (lv' := [(3, .int (nI (i + 1))), (2, .int (xpar e9)), (0, .ref (ad 0)), (1, .int (nI p9))]) hx hb dX5_found_27 hl (k := 3) rfl (xinc (by decide)) (by decide) rfl (fun ls hl => ?_)
          refine lv_goto (tgt := 4) hx hb dX5_found_30 (by decide) ?_
          exact ihL (i + 1) (e9) (by omega) (he9.trans (show zlst S p9 i = zlst S p9 (i + 1) from (if_neg (by rw [xb_0.mp c_2]; decide)).symm)) (by omega) _ hS ls (lv_sub hl [2, 3, 1, 0] rfl)
        · have _ := hx
          refine lv_iload_n hx hb dX5_found_21 rfl (lv_at hl 3 rfl) ?_
          refine lv_goto (tgt := 26) hx hb dX5_found_22 (by decide) ?_
          rw [xpar_succ i]
          refine lv_istore_n (lv' := [(2, .int (xpar (i + 1))), (0, .ref (ad 0)), (1, .int (nI p9)), (3, .int (nI i))]) hx hb dX5_found_26 rfl hl (by decide) rfl (fun ls hl => ?_)
          refine lv_iinc (v := (nI (i + 1))) (lv' := [(3, .int (nI (i + 1))), (2, .int (xpar (i + 1))), (0, .ref (ad 0)), (1, .int (nI p9))]) hx hb dX5_found_27 hl (k := 3) rfl (xinc (by decide)) (by decide) rfl (fun ls hl => ?_)
          refine lv_goto (tgt := 4) hx hb dX5_found_30 (by decide) ?_
          exact ihL (i + 1) (i + 1) (by omega) ((show i + 1 = zlst S p9 (i + 1) from (if_pos (xb_1 c_2)).symm)) (by omega) _ hS ls (lv_sub hl [2, 3, 1, 0] rfl)
  exact L _ (0) (0) (Nat.zero_le _) (rfl) (Nat.lt_succ_self _) _ hS ls (lv_sub hl [2, 3, 1, 0] rfl)

set_option maxHeartbeats 4000000 in
set_option maxRecDepth 100000 in
/-- pooled() -/
theorem c_X5_pooled (l : Launch) (hfl : l.stackTraces = false) (G : xG) (ad : Nat → Nat) (S : zS) (tp th : Nat) (g : Nat → Int) (wo : Nat → Int32) (z : Nat → Bool) (H : Heap) (hM : MX G ad S tp th g wo z H) (hn20 : zN S ≤ 20) : xMet l G yX5_pooled wsX5_pooled ({ frames := 0, cells := 0, slots := 0, locals := 0 } : Room) [.ref (ad 0)] H (xi H (nI (xct (zI S) (zN S)))) (xNo) := by
  refine vx_ofW (cc := cX5_pooled) (maxL := 3) (ret := (some .int)) (by decide) rfl ?_
  intro Pg Ev s m args below meth c s₁ B hml hout hv
  obtain ⟨rfl, hH, hC⟩ := hv
  have hx := B.exec
  have hb := B.bytes
  have hr := B.returns
  have hts := atoms_spec (ws := wsX5_pooled) B.pre
  have hown : s.vm.findClass RX5 = some m.cls := findClass_of_methodNamed B.named
  have hlocks := B.notSynchronized
  rw [hH]
  have hS : va_S (xA G) s.heap H [] := by rw [← hH]; exact va_S.rf
  generalize ([] : List Loc) = locs at hS ⊢
  have hl := lv_entry [.ref (ad 0)] (n := 3) (Nat.le_of_ble_eq_true rfl)
  rw [lg_entry_eq]
  generalize (lg_sl [.ref (ad 0)] ++ List.replicate (3 - (lg_sl [.ref (ad 0)]).length) Slot.unset).toArray = ls at hl ⊢
  have hl : lv_has ls 3 [(0, .ref (ad 0))] := hl
  obtain ⟨hO, hm0, hm1, hm2, hm3, hm4, hm5, hm6, hm7, hm8, hm9, hm10⟩ := id hM
  refine lv_iconst (v := (nI 0)) hx hb dX5_pooled_0 (by decide) ?_
  refine lv_istore_n (lv' := [(1, .int (nI 0)), (0, .ref (ad 0))]) hx hb dX5_pooled_1 rfl hl (by decide) rfl (fun ls hl => ?_)
  refine lv_iconst (v := (nI 0)) hx hb dX5_pooled_2 (by decide) ?_
  refine lv_istore_n (lv' := [(2, .int (nI 0)), (1, .int (nI 0)), (0, .ref (ad 0))]) hx hb dX5_pooled_3 rfl hl (by decide) rfl (fun ls hl => ?_)
  have L : ∀ (kL : Nat) (i : Nat) (e9 : Nat), (i ≤ zN S) → (e9 = xct (zI S) i) → zN S - i < kL → ∀ (locs : List Loc), va_S (xA G) s.heap H locs → ∀ ls : Array Slot, lv_has ls 3 [(0, .ref (ad 0)), (1, .int (nI e9)), (2, .int (nI i))] → W Pg l Ev (headSpec wsX5_pooled ({ frames := 0, cells := 0, slots := 0, locals := 0 } : Room)).room s m ([.ref (ad 0)] : List Value).toArray below meth c H locs (0) (0) (vx_MQ below (xQ G (xi H (nI (xct (zI S) (zN S))))) (xX G (xNo)) ([.ref (ad 0)] : List Value).toArray s ({ frames := 0, cells := 0, slots := 0, locals := 0 } : Room).cells ({ frames := 0, cells := 0, slots := 0, locals := 0 } : Room).slots (xA G)) (F0 m 4 ls []) := by
    intro kL
    induction kL with
    | zero => intro i e9 hi he9 hk; exact absurd hk (Nat.not_lt_zero _)
    | succ kL ihL =>
      intro i e9 hi he9 hk locs hS ls hl
      refine lv_iload_n hx hb dX5_pooled_4 rfl (lv_at hl 2 rfl) ?_
      refine lv_aload_n hx hb dX5_pooled_5 rfl (lv_at hl 0 rfl) ?_
      refine va_get (D := xD G) (ci := 6) (v := .int (nI (zN S))) (C := RX5) (T := TX5) (N := 14) hx hb hts (by decide +kernel) hown hC.1 (x1 hm0) 0 rfl rfl 2 (by decide) (hts (.fieldLink RX5 45 "BidwhistleModel" "stored" "I") (by decide +kernel)) (fun _ h9 => h9) rfl dX5_pooled_6 ?_
      refine lv_icmp_ge (tgt := 35) hx hb dX5_pooled_9 (by decide) (fun c_1 => ?_) (fun c_1 => ?_)
      · have _ := hx
        have c_1 : (zN S) ≤ i := (nI_leI (a := (zN S)) (b := i) (by omega) (by omega)).mp c_1
        refine lv_iload_n hx hb dX5_pooled_35 rfl (lv_at hl 1 rfl) ?_
        exact x_iret (G := G) hx hb hr rfl dX5_pooled_36 hlocks hS (by first | exact Nat.le_of_ble_eq_true rfl | exact (show 0 ≤ 0 by omega)) (by first | exact Nat.le_of_ble_eq_true rfl | exact (show 0 ≤ 0 by omega)) ⟨rfl, by rw [he9, show i = zN S by omega]⟩
      · have _ := hx
        have c_1 : ¬ ((zN S) ≤ i) := fun z => c_1 ((nI_leI (a := (zN S)) (b := i) (by omega) (by omega)).mpr z)
        refine lv_iload_n hx hb dX5_pooled_12 rfl (lv_at hl 1 rfl) ?_
        refine lv_aload_n hx hb dX5_pooled_13 rfl (lv_at hl 0 rfl) ?_
        refine va_get (D := xD G) (ci := 6) (v := .ref (ad 4)) (C := RX5) (T := TX5) (N := 14) hx hb hts (by decide +kernel) hown hC.1 (x1 hm0) 0 rfl rfl 4 (by decide) (hts (.fieldLink RX5 19 "BidwhistleModel" "isIn" "[Z") (by decide +kernel)) (fun _ h9 => h9) rfl dX5_pooled_14 ?_
        refine lv_iload_n hx hb dX5_pooled_17 rfl (lv_at hl 2 rfl) ?_
        refine x_zald (G := G) (j := i) hx hb hC hm4 (by omega) (by first | decide | omega) dX5_pooled_18 ?_
        refine lv_if_eq (tgt := 26) hx hb dX5_pooled_19 (by decide) (fun c_2 => ?_) (fun c_2 => ?_)
        · have _ := hx
          refine lv_iconst (v := (nI 0)) hx hb dX5_pooled_26 (by decide) ?_
          refine x_iaddn (a := e9) (b := 0) hx hb dX5_pooled_27 ?_
          refine lv_istore_n (lv' := [(1, .int (nI (e9 + 0))), (0, .ref (ad 0)), (2, .int (nI i))]) hx hb dX5_pooled_28 rfl hl (by decide) rfl (fun ls hl => ?_)
          refine lv_iinc (v := (nI (i + 1))) (lv' := [(2, .int (nI (i + 1))), (1, .int (nI (e9 + 0))), (0, .ref (ad 0))]) hx hb dX5_pooled_29 hl (k := 2) rfl (xinc (by decide)) (by decide) rfl (fun ls hl => ?_)
          refine lv_goto (tgt := 4) hx hb dX5_pooled_32 (by decide) ?_
          exact ihL (i + 1) (e9 + 0) (by omega) (by rw [he9]; exact (xct_d0 (p := zI S) (fun z => by rw [xb_0.mp c_2] at z; cases z)).symm) (by omega) _ hS ls (lv_sub hl [2, 1, 0] rfl)
        · have _ := hx
          refine lv_iconst (v := (nI 1)) hx hb dX5_pooled_22 (by decide) ?_
          refine lv_goto (tgt := 27) hx hb dX5_pooled_23 (by decide) ?_
          refine x_iaddn (a := e9) (b := 1) hx hb dX5_pooled_27 ?_
          refine lv_istore_n (lv' := [(1, .int (nI (e9 + 1))), (0, .ref (ad 0)), (2, .int (nI i))]) hx hb dX5_pooled_28 rfl hl (by decide) rfl (fun ls hl => ?_)
          refine lv_iinc (v := (nI (i + 1))) (lv' := [(2, .int (nI (i + 1))), (1, .int (nI (e9 + 1))), (0, .ref (ad 0))]) hx hb dX5_pooled_29 hl (k := 2) rfl (xinc (by decide)) (by decide) rfl (fun ls hl => ?_)
          refine lv_goto (tgt := 4) hx hb dX5_pooled_32 (by decide) ?_
          exact ihL (i + 1) (e9 + 1) (by omega) (by rw [he9]; exact (xct_d1 (p := zI S) (xb_1 c_2)).symm) (by omega) _ hS ls (lv_sub hl [2, 1, 0] rfl)
  exact L _ (0) (0) (Nat.zero_le _) (rfl) (Nat.lt_succ_self _) _ hS ls (lv_sub hl [2, 1, 0] rfl)
