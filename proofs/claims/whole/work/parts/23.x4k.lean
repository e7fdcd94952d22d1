set_option maxHeartbeats 4000000 in
set_option maxRecDepth 100000 in
/-- keep(program, first parent, second parent) -/
theorem c_X4_keep (l : Launch) (hfl : l.stackTraces = false) (G : xG) (ad : Nat → Nat) (S : zS) (kp : Nat → Nat) (m9 fb : Int32) (k9 : Nat) (a9 : Nat → Option Nat) (b9 n9 u9 v9 : Nat) (t8 t9 : Nat → Nat) (H : Heap) (hK0 : XK G ad S kp fb m9 k9 a9 H) (hW : zW S) (hn : zN S < 20) (hb9 : b9 = 1 ∨ b9 = 4) (hpp : pA G (ad b9) (ad (b9 + 1)) (ad (b9 + 2)) t8 n9 H) (ht8 : ∀ k, k < n9 → t8 k = t9 k) (hri : xright t8 n9 = true) (hu9 : u9 ≤ zN S) (hv9 : v9 ≤ zN S) : xMet l G yX4_keep wsX4_keep ({ frames := 7, cells := 10, slots := 400, locals := 301 } : Room) [.ref (ad 0), .ref (ad b9), .int (xpar u9), .int (xpar v9)] H (fun v H1 => v = some (.int (nI (zN S))) ∧ ∃ ad', (∀ j, j < 22 + 6 * zN S → j ≠ 11 → ad' j = ad j) ∧ XS G ad' (zkept S t9 n9 u9 v9) H1) (xNo) := by
  refine vx_ofW (cc := cX4_keep) (maxL := 7) (ret := (some .int)) (by decide) rfl ?_
  intro Pg Ev s m args below meth c s₁ B hml hout hv
  obtain ⟨rfl, hH, hC⟩ := hv
  have hx := B.exec
  have hb := B.bytes
  have hr := B.returns
  have hts := atoms_spec (ws := wsX4_keep) B.pre
  have hown : s.vm.findClass RX4 = some m.cls := findClass_of_methodNamed B.named
  have hlocks := B.notSynchronized
  rw [hH]
  have hS : va_S (xA G) s.heap H [] := by rw [← hH]; exact va_S.rf
  generalize ([] : List Loc) = locs at hS ⊢
  have hl := lv_entry [.ref (ad 0), .ref (ad b9), .int (xpar u9), .int (xpar v9)] (n := 7) (Nat.le_of_ble_eq_true rfl)
  rw [lg_entry_eq]
  generalize (lg_sl [.ref (ad 0), .ref (ad b9), .int (xpar u9), .int (xpar v9)] ++ List.replicate (7 - (lg_sl [.ref (ad 0), .ref (ad b9), .int (xpar u9), .int (xpar v9)]).length) Slot.unset).toArray = ls at hl ⊢
  have hl : lv_has ls 7 [(0, .ref (ad 0)), (1, .ref (ad b9)), (2, .int (xpar u9)), (3, .int (xpar v9))] := hl
  have hK := hK0
  obtain ⟨hO, hfb, hx0, ⟨td, hdr⟩, ⟨tc, nc, hch⟩, ⟨gs, ds, hsk⟩, hl9, ⟨f1, f2, hpr⟩, ⟨fr1, hr1⟩, ⟨fr2, hr2⟩, ⟨fr3, hr3⟩, hkp, hst⟩ := id hK0
  have hl0 := hl9.1.1
  have hx9 := hx0
  have hn20 := hW.1
  have hU9 := hW.2.2.2.2.1
  obtain ⟨hs7, hs8, hs9, hd7, nk1, nk2, nk3⟩ := id hsk
  obtain ⟨hq0, hq1, hq2, hq7, nq1, nq2, nq3, hq16⟩ := id hpp
  have hE : xE G < H.size := by obtain ⟨ce, h9, -⟩ := hC.2.2.2.2.2.2.2.1; rw [← hH]; exact (Array.getElem?_eq_some_iff.mp h9).1
  have h11 := hK0.lt hE 11 (by omega)
  have hsz0 := hS.1
  obtain ⟨nb0_0, nb0_7, nb0_9, nb0_10, nb0_11, nb1_0, nb1_7, nb1_9, nb1_10, nb1_11, nb2_0, nb2_7, nb2_9, nb2_10, nb2_11⟩ := knb hO hb9
  refine lv_aload_n hx hb dX4_keep_0 rfl (lv_at hl 0 rfl) ?_
  refine va_get (D := xD G) (ci := 5) (v := .ref (ad 10)) (C := RX4) (T := TX4) (N := 11) hx hb hts (by decide +kernel) hown hC.1 (x1 hx9) 0 rfl rfl 3 (by decide) (hts (.fieldLink RX4 29 "Bidwhistle" "strategies" "Ljava/util/ArrayList;") (by decide +kernel)) (fun _ h9 => h9) rfl dX4_keep_1 ?_
  refine x_intE (vx_runV (As := []) (rest := []) ⟨hx, hb, hml, hown, hts⟩ (c_Jx4a65c_size_8abf5 l hfl G (ad 10) (ad 11) (zN S) m9 H hl0) (cwV 0 hts gX4_keep_Jx4a65c_size_8abf5 rfl rfl rfl (by decide +kernel) ⟨(Nat.le_of_ble_eq_true rfl), (Nat.le_of_ble_eq_true rfl)⟩) (xPreV hC hS hl0 (q := (RJx4a65c, TJx4a65c, 3)) rfl) rfl rfl hl.1 rfl (lv_room (Nat.le_of_ble_eq_true rfl)) dX4_keep_4 ⟨(by first | exact Nat.le_of_ble_eq_true rfl | exact (show 0 + 0 ≤ 10 by omega)), (by first | exact Nat.le_of_ble_eq_true rfl | exact (show 0 + 0 ≤ 400 by omega))⟩) hS (fun locs hS => ?_)
  refine lv_istore (lv' := [(4, .int (nI (zN S))), (0, .ref (ad 0)), (1, .ref (ad b9)), (2, .int (xpar u9)), (3, .int (xpar v9))]) hx hb dX4_keep_7 hl (by decide) rfl (fun ls hl => ?_)
  have hsz := hS.1
  refine x_new (G := G) (ci := 4) (fs := [.int 0, .null, .int 0, .int 0, .null, .int 0, .int 0, .int 0]) (C := RX3) (T := TX3) (N := 8) hx hb hts (by decide +kernel) tyX3 tyX3_ok hown (hts (.classLink RX4 111 RX3) (by decide +kernel)) (hts (.instantiable RX3 8) (by decide +kernel)) (hts (.initialized RX3) (by decide +kernel)) hC hS rfl (fun j hj => by rcases (show j = 0 ∨ j = 1 ∨ j = 2 ∨ j = 3 ∨ j = 4 ∨ j = 5 ∨ j = 6 ∨ j = 7 by omega) with rfl | rfl | rfl | rfl | rfl | rfl | rfl | rfl <;> rfl) (by first | exact Nat.le_of_ble_eq_true rfl | exact (show 0 + 1 ≤ 10 by omega)) (by first | exact Nat.le_of_ble_eq_true rfl | exact (show 0 + 8 ≤ 400 by omega)) dX4_keep_9 (fun q_1 H_6 eq_4 ho_2 hc_3 hz_5 hS => ?_)
  have hA_q_1 : xA G q_1 := hC.2.2.1 _ (by rw [eq_4]; exact hsz)
  have ne_7 : (ad 0) ≠ q_1 := xlt hx9 eq_4
  have ne_8 : (ad 10) ≠ q_1 := xlt hl0 eq_4
  have ne_9 : (ad 7) ≠ q_1 := xlt hs7 eq_4
  have ne_10 : (ad 8) ≠ q_1 := xlt hs8 eq_4
  have ne_11 : (ad 9) ≠ q_1 := xlt hs9 eq_4
  have ne_12 : (ad b9) ≠ q_1 := xlt hq0 eq_4
  have ne_13 : (ad (b9 + 1)) ≠ q_1 := xlt hq1 eq_4
  have ne_14 : (ad (b9 + 2)) ≠ q_1 := xlt hq2 eq_4
  have hx9 := hc_3.at0 hx9
  have hl0 := hc_3.at0 hl0
  have hs7 := hc_3.at0 hs7
  have hs8 := hc_3.at0 hs8
  have hs9 := hc_3.at0 hs9
  have hq0 := hc_3.at0 hq0
  have hq1 := hc_3.at0 hq1
  have hq2 := hc_3.at0 hq2
  refine lv_dup hx hb dX4_keep_12 rfl ?_
  refine lv_iload hx hb dX4_keep_13 (lv_at hl 0 rfl) ?_
  refine lv_aload_n hx hb dX4_keep_15 rfl (lv_at hl 2 rfl) ?_
  have hsz := hS.1
  refine x_call (px := xNo) (vx_runV (As := []) (rest := [.int (nI (zN S)), .ref q_1, .ref q_1]) ⟨hx, hb, hml, hown, hts⟩ (c_X0_copy l hfl G (ad b9) (ad (b9 + 1)) (ad (b9 + 2)) n9 t8 H_6 ⟨hq0, hq1, hq2, hq7, nq1, nq2, nq3, hq16⟩) (cwV 0 hts gX4_keep_X0_copy rfl rfl rfl (by decide +kernel) ⟨(Nat.le_of_ble_eq_true rfl), (Nat.le_of_ble_eq_true rfl)⟩) (xPreV hC hS hq0 (q := (RX0, TX0, 3)) rfl) rfl rfl hl.1 rfl (lv_room (Nat.le_of_ble_eq_true rfl)) dX4_keep_16 ⟨(by first | exact Nat.le_of_ble_eq_true rfl | exact (show 0 + 1 + 3 ≤ 10 by omega)), (by first | exact Nat.le_of_ble_eq_true rfl | exact (show 0 + 8 + 104 ≤ 400 by omega))⟩) hS (fun _ h => h) (fun _ _ _ _ _ h => False.elim h) (fun v H_15 locs hp hz hk_16 hS => ?_)
  obtain ⟨cp17, cr17, ca17, ct17, hz117, hz217, hz317, rfl, hcp17, ctt17, hc17⟩ := hp
  obtain ⟨cpa17, cpb17, cpc17, cn17, m117, m217, m317, c1617⟩ := id hcp17
  have hA_cp17 : xA G cp17 := hC.2.2.1 _ (Nat.le_trans hsz hz117)
  have ne_18 : (ad 0) ≠ cp17 := xlt2 hx9 hz117
  have ne_19 : (ad 10) ≠ cp17 := xlt2 hl0 hz117
  have ne_20 : (ad 7) ≠ cp17 := xlt2 hs7 hz117
  have ne_21 : (ad 8) ≠ cp17 := xlt2 hs8 hz117
  have ne_22 : (ad 9) ≠ cp17 := xlt2 hs9 hz117
  have ne_23 : (ad b9) ≠ cp17 := xlt2 hq0 hz117
  have ne_24 : (ad (b9 + 1)) ≠ cp17 := xlt2 hq1 hz117
  have ne_25 : (ad (b9 + 2)) ≠ cp17 := xlt2 hq2 hz117
  have ne_26 : q_1 ≠ cp17 := xlt2 ho_2 hz117
  have hA_cr17 : xA G cr17 := hC.2.2.1 _ (Nat.le_trans hsz hz217)
  have ne_27 : (ad 0) ≠ cr17 := xlt2 hx9 hz217
  have ne_28 : (ad 10) ≠ cr17 := xlt2 hl0 hz217
  have ne_29 : (ad 7) ≠ cr17 := xlt2 hs7 hz217
  have ne_30 : (ad 8) ≠ cr17 := xlt2 hs8 hz217
  have ne_31 : (ad 9) ≠ cr17 := xlt2 hs9 hz217
  have ne_32 : (ad b9) ≠ cr17 := xlt2 hq0 hz217
  have ne_33 : (ad (b9 + 1)) ≠ cr17 := xlt2 hq1 hz217
  have ne_34 : (ad (b9 + 2)) ≠ cr17 := xlt2 hq2 hz217
  have ne_35 : q_1 ≠ cr17 := xlt2 ho_2 hz217
  have hA_ca17 : xA G ca17 := hC.2.2.1 _ (Nat.le_trans hsz hz317)
  have ne_36 : (ad 0) ≠ ca17 := xlt2 hx9 hz317
  have ne_37 : (ad 10) ≠ ca17 := xlt2 hl0 hz317
  have ne_38 : (ad 7) ≠ ca17 := xlt2 hs7 hz317
  have ne_39 : (ad 8) ≠ ca17 := xlt2 hs8 hz317
  have ne_40 : (ad 9) ≠ ca17 := xlt2 hs9 hz317
  have ne_41 : (ad b9) ≠ ca17 := xlt2 hq0 hz317
  have ne_42 : (ad (b9 + 1)) ≠ ca17 := xlt2 hq1 hz317
  have ne_43 : (ad (b9 + 2)) ≠ ca17 := xlt2 hq2 hz317
  have ne_44 : q_1 ≠ ca17 := xlt2 ho_2 hz317
  have hx9 := hc17.at0 hx9
  have hl0 := hc17.at0 hl0
  have hs7 := hc17.at0 hs7
  have hs8 := hc17.at0 hs8
  have hs9 := hc17.at0 hs9
  have hq0 := hc17.at0 hq0
  have hq1 := hc17.at0 hq1
  have hq2 := hc17.at0 hq2
  have ho_2 := hc17.at0 ho_2
  refine lv_iload_n hx hb dX4_keep_19 rfl (lv_at hl 3 rfl) ?_
  refine lv_iload_n hx hb dX4_keep_20 rfl (lv_at hl 4 rfl) ?_
  have hsz := hS.1
  refine x_call (px := xNo) (x_runOf (va_runI (b := q_1) (As := [.int (nI (zN S)), .ref cp17, .int (xpar u9), .int (xpar v9)]) (rest := [.ref q_1]) ⟨hx, hb, hml, hown, hts⟩ (x_met (c_X3_init l hfl G q_1 (zN S) cp17 (xpar u9) (xpar v9) H_15 ho_2 hA_q_1)) (cwI 4 hts gX4_keep_X3_init rfl rfl rfl (hts (.initialized RX3) (by decide +kernel)) (hts (.methodLink RX4 232 yX3_init) (by decide +kernel)) (hts (.instanceMethod yX3_init) (by decide +kernel)) rfl (by decide +kernel) ⟨(Nat.le_of_ble_eq_true rfl), (Nat.le_of_ble_eq_true rfl)⟩) (xPreS hC hS) rfl rfl hl.1 rfl (lv_room (Nat.le_of_ble_eq_true rfl)) dX4_keep_21 ⟨(by first | exact Nat.le_of_ble_eq_true rfl | exact (show 0 + 1 + 3 + 2 ≤ 10 by omega)), (by first | exact Nat.le_of_ble_eq_true rfl | exact (show 0 + 8 + 104 + 101 ≤ 400 by omega))⟩)) hS (fun _ h => h) (fun _ _ _ _ _ h => False.elim h) (fun v H_45 locs hp hz hk_46 hS => ?_)
  obtain ⟨rfl, bq47, ba47, hz147, hz247, bs47, bb47, bv47, k147, k247, k347, hc47⟩ := hp
  have hA_bq47 : xA G bq47 := hC.2.2.1 _ (Nat.le_trans hsz hz147)
  have ne_48 : (ad 0) ≠ bq47 := xlt2 hx9 hz147
  have ne_49 : (ad 10) ≠ bq47 := xlt2 hl0 hz147
  have ne_50 : (ad 7) ≠ bq47 := xlt2 hs7 hz147
  have ne_51 : (ad 8) ≠ bq47 := xlt2 hs8 hz147
  have ne_52 : (ad 9) ≠ bq47 := xlt2 hs9 hz147
  have ne_53 : (ad b9) ≠ bq47 := xlt2 hq0 hz147
  have ne_54 : (ad (b9 + 1)) ≠ bq47 := xlt2 hq1 hz147
  have ne_55 : (ad (b9 + 2)) ≠ bq47 := xlt2 hq2 hz147
  have ne_56 : q_1 ≠ bq47 := xlt2 ho_2 hz147
  have ne_57 : cp17 ≠ bq47 := xlt2 cpa17 hz147
  have ne_58 : cr17 ≠ bq47 := xlt2 cpb17 hz147
  have ne_59 : ca17 ≠ bq47 := xlt2 cpc17 hz147
  have hA_ba47 : xA G ba47 := hC.2.2.1 _ (Nat.le_trans hsz hz247)
  have ne_60 : (ad 0) ≠ ba47 := xlt2 hx9 hz247
  have ne_61 : (ad 10) ≠ ba47 := xlt2 hl0 hz247
  have ne_62 : (ad 7) ≠ ba47 := xlt2 hs7 hz247
  have ne_63 : (ad 8) ≠ ba47 := xlt2 hs8 hz247
  have ne_64 : (ad 9) ≠ ba47 := xlt2 hs9 hz247
  have ne_65 : (ad b9) ≠ ba47 := xlt2 hq0 hz247
  have ne_66 : (ad (b9 + 1)) ≠ ba47 := xlt2 hq1 hz247
  have ne_67 : (ad (b9 + 2)) ≠ ba47 := xlt2 hq2 hz247
  have ne_68 : q_1 ≠ ba47 := xlt2 ho_2 hz247
  have ne_69 : cp17 ≠ ba47 := xlt2 cpa17 hz247
  have ne_70 : cr17 ≠ ba47 := xlt2 cpb17 hz247
  have ne_71 : ca17 ≠ ba47 := xlt2 cpc17 hz247
  have hx9 := hc47.at hx9 (xn1 ne_7)
  have hl0 := hc47.at hl0 (xn1 ne_8)
  have hs7 := hc47.at hs7 (xn1 ne_9)
  have hs8 := hc47.at hs8 (xn1 ne_10)
  have hs9 := hc47.at hs9 (xn1 ne_11)
  have hq0 := hc47.at hq0 (xn1 ne_12)
  have hq1 := hc47.at hq1 (xn1 ne_13)
  have hq2 := hc47.at hq2 (xn1 ne_14)
  have cpa17 := hc47.at cpa17 (xn1 (Ne.symm ne_26))
  have cpb17 := hc47.at cpb17 (xn1 (Ne.symm ne_35))
  have cpc17 := hc47.at cpc17 (xn1 (Ne.symm ne_44))
  refine lv_astore (lv' := [(5, .ref q_1), (4, .int (nI (zN S))), (0, .ref (ad 0)), (1, .ref (ad b9)), (2, .int (xpar u9)), (3, .int (xpar v9))]) hx hb dX4_keep_24 hl (by decide) rfl (fun ls hl => ?_)
  have _ := hc_3.1
  have _ := hc17.1
  have _ := hc47.1
  have hcA : xC [] H H_45 := ((hc_3.tr (hc17.tr hc47)).mono (fun q hq => by simp only [List.mem_append, List.mem_cons, List.not_mem_nil, or_false, false_or] at hq ⊢; omega))
  have hK1 := hK.kept0 hcA
  refine lv_aload hx hb dX4_keep_26 (lv_at hl 0 rfl) ?_
  refine lv_aload_n hx hb dX4_keep_28 rfl (lv_at hl 3 rfl) ?_
  refine va_getN (D := xD G) (ci := 1) (v := .int (xbits t8 n9)) (C := RX0) (T := TX0) (N := 3) hx hb hts (by decide +kernel) hown hC.1 (x1 hq0) 0 rfl rfl 2 (by decide) (va_Nw.use rfl (hC.2.1 (.fieldLinkNest "Bidwhistle" 235 "Bidwhistle$Program" "stepBits" "I" "Bidwhistle") (by decide +kernel))) (fun _ h9 => h9) rfl dX4_keep_29 ?_
  refine lv_aload_n hx hb dX4_keep_32 rfl (lv_at hl 2 rfl) ?_
  refine lv_iload_n hx hb dX4_keep_33 rfl (lv_at hl 4 rfl) ?_
  have hsz := hS.1
  refine x_call (px := xNo) (vx_runV (As := [.int (xpar u9)]) (rest := [.int (xbits t8 n9), .ref q_1]) ⟨hx, hb, hml, hown, hts⟩ (c_X4_stepsOfLine l hfl G ad S kp m9 fb k9 a9 u9 H_45 hK1.x0 hK1.l hW hK1.st hu9) (cwV 1 hts gX4_keep_X4_stepsOfLine rfl rfl rfl (by decide +kernel) ⟨(Nat.le_of_ble_eq_true rfl), (Nat.le_of_ble_eq_true rfl)⟩) (xPreV hC hS hx9 (q := (RX4, TX4, 11)) rfl) rfl rfl hl.1 rfl (lv_room (Nat.le_of_ble_eq_true rfl)) dX4_keep_34 ⟨(by first | exact Nat.le_of_ble_eq_true rfl | exact (show 0 + 1 + 3 + 2 + 0 ≤ 10 by omega)), (by first | exact Nat.le_of_ble_eq_true rfl | exact (show 0 + 8 + 104 + 101 + 0 ≤ 400 by omega))⟩) hS (fun _ h => h) (fun _ _ _ _ _ h => False.elim h) (fun v H_72 locs hp hz hk_73 hS => ?_)
  obtain ⟨rfl, r1, rfl, r1z⟩ := hp
  refine lv_ior hx hb dX4_keep_37 ?_
  refine lv_aload_n hx hb dX4_keep_38 rfl (lv_at hl 2 rfl) ?_
  refine lv_iload_n hx hb dX4_keep_39 rfl (lv_at hl 5 rfl) ?_
  have hsz := hS.1
  refine x_call (px := xNo) (vx_runV (As := [.int (xpar v9)]) (rest := [.int ((xbits t8 n9) ||| r1), .ref q_1]) ⟨hx, hb, hml, hown, hts⟩ (c_X4_stepsOfLine l hfl G ad S kp m9 fb k9 a9 v9 H_45 hK1.x0 hK1.l hW hK1.st hv9) (cwV 1 hts gX4_keep_X4_stepsOfLine rfl rfl rfl (by decide +kernel) ⟨(Nat.le_of_ble_eq_true rfl), (Nat.le_of_ble_eq_true rfl)⟩) (xPreV hC hS hx9 (q := (RX4, TX4, 11)) rfl) rfl rfl hl.1 rfl (lv_room (Nat.le_of_ble_eq_true rfl)) dX4_keep_40 ⟨(by first | exact Nat.le_of_ble_eq_true rfl | exact (show 0 + 1 + 3 + 2 + 0 ≤ 10 by omega)), (by first | exact Nat.le_of_ble_eq_true rfl | exact (show 0 + 8 + 104 + 101 + 0 ≤ 400 by omega))⟩) hS (fun _ h => h) (fun _ _ _ _ _ h => False.elim h) (fun v H_74 locs hp hz hk_75 hS => ?_)
  obtain ⟨rfl, r2, rfl, r2z⟩ := hp
  refine lv_ior hx hb dX4_keep_43 ?_
  refine x_putN (G := G) (ci := 4) (v := .int (((xbits t8 n9) ||| r1) ||| r2)) (ty := .int) (C := RX3) (T := TX3) (N := 8) hx hb hts (by decide +kernel) tyX3 tyX3_ok nmX3 hown hC hS hA_q_1 bs47 rfl 5 (by decide) (hC.2.1 (.fieldLinkNest "Bidwhistle" 156 "Bidwhistle$Strategy" "stepsOfLine" "I" "Bidwhistle") (by decide +kernel)) (fun _ h9 => h9) rfl (by decide +kernel) rfl rfl (Nat.le_of_ble_eq_true rfl) dX4_keep_44 (fun H_77 locs bs47 hc_76 hS => ?_)
  have bs47 : oA G q_1 4 [.int (nI (zN S)), .ref cp17, .int (xpar u9), .int (xpar v9), .ref bq47, .int (((xbits t8 n9) ||| r1) ||| r2), .int (-1), .int (nI 0)] H_77 := bs47
  have hx9 := hc_76.at hx9 (xn1 ne_7)
  have hl0 := hc_76.at hl0 (xn1 ne_8)
  have hs7 := hc_76.at hs7 (xn1 ne_9)
  have hs8 := hc_76.at hs8 (xn1 ne_10)
  have hs9 := hc_76.at hs9 (xn1 ne_11)
  have hq0 := hc_76.at hq0 (xn1 ne_12)
  have hq1 := hc_76.at hq1 (xn1 ne_13)
  have hq2 := hc_76.at hq2 (xn1 ne_14)
  have cpa17 := hc_76.at cpa17 (xn1 (Ne.symm ne_26))
  have cpb17 := hc_76.at cpb17 (xn1 (Ne.symm ne_35))
  have cpc17 := hc_76.at cpc17 (xn1 (Ne.symm ne_44))
  have bb47 := hc_76.at bb47 (xn1 (Ne.symm k247))
  have bv47 := hc_76.at bv47 (xn1 (Ne.symm k347))
  refine lv_iconst (v := (nI 0)) hx hb dX4_keep_47 (by decide) ?_
  refine lv_istore (lv' := [(6, .int (nI 0)), (5, .ref q_1), (4, .int (nI (zN S))), (0, .ref (ad 0)), (1, .ref (ad b9)), (2, .int (xpar u9)), (3, .int (xpar v9))]) hx hb dX4_keep_48 hl (by decide) rfl (fun ls hl => ?_)
  have hskB : sA G (ad 7) (ad 8) (ad 9) gs ds H_77 := ⟨hs7, hs8, hs9, hd7, nk1, nk2, nk3⟩
  have _ := hc_3.1
  have _ := hc17.1
  have _ := hc47.1
  have _ := hc_76.1
  have hcB : xC [] H H_77 := ((hc_3.tr (hc17.tr (hc47.tr hc_76))).mono (fun q hq => by simp only [List.mem_append, List.mem_cons, List.not_mem_nil, or_false, false_or] at hq ⊢; omega))
  have L : ∀ (kL : Nat) (i : Nat) (f' : Nat → Int32), (i ≤ 100) → (∀ v, v < i → f' v = Int32.ofInt (xbid t8 n9 v)) → 100 - i < kL → ∀ (HL : Heap), (iA G ba47 100 f' HL) → (∃ g d, sA G (ad 7) (ad 8) (ad 9) g d HL) → (xC [ad 7, ad 9, ba47] H_77 HL) → ∀ (locs : List Loc), va_S (xA G) s.heap HL locs → ∀ ls : Array Slot, lv_has ls 7 [(0, .ref (ad 0)), (1, .ref (ad b9)), (4, .int (nI (zN S))), (5, .ref q_1), (6, .int (nI i))] → W Pg l Ev (headSpec wsX4_keep ({ frames := 7, cells := 10, slots := 400, locals := 301 } : Room)).room s m ([.ref (ad 0), .ref (ad b9), .int (xpar u9), .int (xpar v9)] : List Value).toArray below meth c HL locs (0 + 1 + 3 + 2) (0 + 8 + 104 + 101) (vx_MQ below (xQ G (fun v H1 => v = some (.int (nI (zN S))) ∧ ∃ ad', (∀ j, j < 22 + 6 * zN S → j ≠ 11 → ad' j = ad j) ∧ XS G ad' (zkept S t9 n9 u9 v9) H1)) (xX G (xNo)) ([.ref (ad 0), .ref (ad b9), .int (xpar u9), .int (xpar v9)] : List Value).toArray s ({ frames := 7, cells := 10, slots := 400, locals := 301 } : Room).cells ({ frames := 7, cells := 10, slots := 400, locals := 301 } : Room).slots (xA G)) (F0 m 50 ls []) := by
    intro kL
    induction kL with
    | zero => intro i f' hi hfs hk; exact absurd hk (Nat.not_lt_zero _)
    | succ kL ihL =>
      intro i f' hi hfs hk HL bv47 hskL hcc locs hS ls hl
      have hx9 := hcc.at hx9 (xn3 (hO.n22 (i := 0) (j := 7) (by decide) (by decide) (by decide)) (hO.n22 (i := 0) (j := 9) (by decide) (by decide) (by decide)) ne_60)
      have hl0 := hcc.at hl0 (xn3 (hO.n22 (i := 10) (j := 7) (by decide) (by decide) (by decide)) (hO.n22 (i := 10) (j := 9) (by decide) (by decide) (by decide)) ne_61)
      have hq0 := hcc.at hq0 (xn3 nb0_7 nb0_9 ne_65)
      have hq1 := hcc.at hq1 (xn3 nb1_7 nb1_9 ne_66)
      have hq2 := hcc.at hq2 (xn3 nb2_7 nb2_9 ne_67)
      have cpa17 := hcc.at cpa17 (xn3 (Ne.symm ne_20) (Ne.symm ne_22) ne_69)
      have cpb17 := hcc.at cpb17 (xn3 (Ne.symm ne_29) (Ne.symm ne_31) ne_70)
      have cpc17 := hcc.at cpc17 (xn3 (Ne.symm ne_38) (Ne.symm ne_40) ne_71)
      have bs47 := hcc.at bs47 (xn3 (Ne.symm ne_9) (Ne.symm ne_11) k347)
      have bb47 := hcc.at bb47 (xn3 (Ne.symm ne_50) (Ne.symm ne_52) k147)
      obtain ⟨gg, dd, hskk⟩ := hskL
      refine lv_iload hx hb dX4_keep_50 (lv_at hl 4 rfl) ?_
      refine lv_bipush (v := (nI 100)) hx hb dX4_keep_52 (by decide) ?_
      refine lv_icmp_ge (tgt := 83) hx hb dX4_keep_54 (by decide) (fun c_78 => ?_) (fun c_78 => ?_)
      · have _ := hx
        have c_78 : 100 ≤ i := (nI_leI (a := 100) (b := i) (by omega) (by omega)).mp c_78
        refine lv_aload hx hb dX4_keep_83 (lv_at hl 3 rfl) ?_
        refine lv_aload_n hx hb dX4_keep_85 rfl (lv_at hl 0 rfl) ?_
        refine lv_aload hx hb dX4_keep_86 (lv_at hl 3 rfl) ?_
        have _ := hcB.1
        have _ := hcc.1
        have hcea : xC [ad 7, ad 9] H HL := ((hcB.tr hcc).mono (fun q hq => by simp only [List.mem_append, List.mem_cons, List.not_mem_nil, or_false, false_or] at hq ⊢; omega))
        obtain ⟨q0a, q1a, q2a, q3a, q4a, q5a, q6a, q7a⟩ := zkeep (S := S) (ls := [7, 9]) hO hcea (by decide)
        have hx0a := q0a _ _ (by decide) hx0
        have hl9a := q4a _ _ _ _ (by decide) hl9
        have hsta := fun i hi => q7a _ _ i hi (hst i hi)
        have hi100 : i = 100 := by omega
        have hsz := hS.1
        refine x_call (px := xNo) (vx_runV (As := [.ref q_1]) (rest := [.ref q_1]) ⟨hx, hb, hml, hown, hts⟩ (c_X4_kindOf l hfl G ad S kp m9 fb k9 a9 q_1 cp17 bq47 ba47 (xpar u9) (xpar v9) _ (-1) (nI 0) f' (fun v => xbid t8 n9 v) HL hx0a hl9a hW hsta hkp bs47 bb47 bv47 (fun v hv => hfs v (by omega)) (fun v => xbd_in _)) (cwV 1 hts gX4_keep_X4_kindOf rfl rfl rfl (by decide +kernel) ⟨(Nat.le_of_ble_eq_true rfl), (Nat.le_of_ble_eq_true rfl)⟩) (xPreV hC hS hx9 (q := (RX4, TX4, 11)) rfl) rfl rfl hl.1 rfl (lv_room (Nat.le_of_ble_eq_true rfl)) dX4_keep_88 ⟨(by first | exact Nat.le_of_ble_eq_true rfl | exact (show 0 + 1 + 3 + 2 + 0 ≤ 10 by omega)), (by first | exact Nat.le_of_ble_eq_true rfl | exact (show 0 + 8 + 104 + 101 + 0 ≤ 400 by omega))⟩) hS (fun _ h => h) (fun _ _ _ _ _ h => False.elim h) (fun v H_79 locs hp hz hk_80 hS => ?_)
        obtain ⟨rfl, kq, rfl, hkq1, hkq2⟩ := hp
        refine x_putN (G := G) (ci := 4) (v := .int (nI kq)) (ty := .int) (C := RX3) (T := TX3) (N := 8) hx hb hts (by decide +kernel) tyX3 tyX3_ok nmX3 hown hC hS hA_q_1 bs47 rfl 6 (by decide) (hC.2.1 (.fieldLinkNest "Bidwhistle" 116 "Bidwhistle$Strategy" "kind" "I" "Bidwhistle") (by decide +kernel)) (fun _ h9 => h9) rfl (by decide +kernel) rfl rfl (Nat.le_of_ble_eq_true rfl) dX4_keep_91 (fun H_82 locs bs47 hc_81 hS => ?_)
        have bs47 : oA G q_1 4 [.int (nI (zN S)), .ref cp17, .int (xpar u9), .int (xpar v9), .ref bq47, .int (((xbits t8 n9) ||| r1) ||| r2), .int (nI kq), .int (nI 0)] H_82 := bs47
        have bv47 := hc_81.at bv47 (xn1 (Ne.symm k347))
        have hx9 := hc_81.at hx9 (xn1 ne_7)
        have hl0 := hc_81.at hl0 (xn1 ne_8)
        have hq0 := hc_81.at hq0 (xn1 ne_12)
        have hq1 := hc_81.at hq1 (xn1 ne_13)
        have hq2 := hc_81.at hq2 (xn1 ne_14)
        have cpa17 := hc_81.at cpa17 (xn1 (Ne.symm ne_26))
        have cpb17 := hc_81.at cpb17 (xn1 (Ne.symm ne_35))
        have cpc17 := hc_81.at cpc17 (xn1 (Ne.symm ne_44))
        have bb47 := hc_81.at bb47 (xn1 (Ne.symm k247))
        refine lv_aload_n hx hb dX4_keep_94 rfl (lv_at hl 0 rfl) ?_
        refine va_get (D := xD G) (ci := 5) (v := .ref (ad 10)) (C := RX4) (T := TX4) (N := 11) hx hb hts (by decide +kernel) hown hC.1 (x1 hx9) 0 rfl rfl 3 (by decide) (hts (.fieldLink RX4 29 "Bidwhistle" "strategies" "Ljava/util/ArrayList;") (by decide +kernel)) (fun _ h9 => h9) rfl dX4_keep_95 ?_
        refine lv_aload hx hb dX4_keep_98 (lv_at hl 3 rfl) ?_
        have _ := hcB.1
        have _ := hcc.1
        have _ := hc_81.1
        have hceb : xC [ad 7, ad 9] H H_82 := ((hcB.tr (hcc.tr hc_81)).mono (fun q hq => by simp only [List.mem_append, List.mem_cons, List.not_mem_nil, or_false, false_or] at hq ⊢; omega))
        obtain ⟨q0b, q1b, q2b, q3b, q4b, q5b, q6b, q7b⟩ := zkeep (S := S) (ls := [7, 9]) hO hceb (by decide)
        have hx0b := q0b _ _ (by decide) hx0
        have hl9b := q4b _ _ _ _ (by decide) hl9
        have hstb := fun i hi => q7b _ _ i hi (hst i hi)
        have n11c0 : q_1 ≠ ad 11 := by omega
        have n11c1 : cp17 ≠ ad 11 := by omega
        have n11c2 : cr17 ≠ ad 11 := by omega
        have n11c3 : ca17 ≠ ad 11 := by omega
        have n11c4 : bq47 ≠ ad 11 := by omega
        have n11c5 : ba47 ≠ ad 11 := by omega
        have ltc0 : q_1 < Array.size H_82 := va_at.lt bs47
        have ltc1 : cp17 < Array.size H_82 := va_at.lt cpa17
        have ltc2 : cr17 < Array.size H_82 := va_at.lt cpb17
        have ltc3 : ca17 < Array.size H_82 := va_at.lt cpc17
        have ltc4 : bq47 < Array.size H_82 := va_at.lt bb47
        have ltc5 : ba47 < Array.size H_82 := va_at.lt bv47
        have hsz := hS.1
        refine x_call (px := xNo) (vx_runV (As := [.ref q_1]) (rest := []) ⟨hx, hb, hml, hown, hts⟩ (c_list_add l hfl G (ad 10) (ad 11) (zN S) k9 q_1 m9 a9 _ H_82 hl9b.1 (hO.a22 (i := 10) (by decide) (by decide)) (Ne.symm ne_8) n11c0 bs47 (fun i hi y hy => by rw [hl9b.2 i hi] at hy; cases hy; obtain ⟨t, sl, f, h1, -⟩ := hstb i hi; exact ⟨_, h1⟩) (by omega) (fun i hi z => by rw [hl9b.2 i hi] at z; exact hO.ne (by omega) (by omega) (by omega) (Option.some.inj z))) (cwV 1 hts gX4_keep_Jx4a65c_add_9ea2d rfl rfl rfl (by decide +kernel) ⟨(Nat.le_of_ble_eq_true rfl), (Nat.le_of_ble_eq_true rfl)⟩) (xPreV hC hS hl0 (q := (RJx4a65c, TJx4a65c, 3)) rfl) rfl rfl hl.1 rfl (lv_room (Nat.le_of_ble_eq_true rfl)) dX4_keep_100 ⟨(by first | exact Nat.le_of_ble_eq_true rfl | exact (show 0 + 1 + 3 + 2 + 1 ≤ 10 by omega)), (by first | exact Nat.le_of_ble_eq_true rfl | exact (show 0 + 8 + 104 + 101 + 60 ≤ 400 by omega))⟩) hS (fun _ h => h) (fun _ _ _ _ _ h => False.elim h) (fun v H_83 locs hp hz hk_84 hS => ?_)
        obtain ⟨rfl, q85, k85, b85, hla85, hb185, hb285, hq85, hc85⟩ := hp
        have bv47 := hc85.at bv47 (xn2 (Ne.symm ne_61) n11c5)
        have hx9 := hc85.at hx9 (xn2 (hO.n22 (i := 0) (j := 10) (by decide) (by decide) (by decide)) (hO.n22 (i := 0) (j := 11) (by decide) (by decide) (by decide)))
        have hq0 := hc85.at hq0 (xn2 nb0_10 nb0_11)
        have hq1 := hc85.at hq1 (xn2 nb1_10 nb1_11)
        have hq2 := hc85.at hq2 (xn2 nb2_10 nb2_11)
        have cpa17 := hc85.at cpa17 (xn2 (Ne.symm ne_19) n11c1)
        have cpb17 := hc85.at cpb17 (xn2 (Ne.symm ne_28) n11c2)
        have cpc17 := hc85.at cpc17 (xn2 (Ne.symm ne_37) n11c3)
        have bs47 := hc85.at bs47 (xn2 (Ne.symm ne_8) n11c0)
        have bb47 := hc85.at bb47 (xn2 (Ne.symm ne_49) n11c4)
        refine lv_pop hx hb dX4_keep_103 rfl ?_
        refine lv_iload hx hb dX4_keep_104 (lv_at hl 2 rfl) ?_
        have _ := hcB.1
        have _ := hcc.1
        have _ := hc_81.1
        have _ := hc85.1
        have hce : xC [ad 7, ad 9, ad 10, ad 11] H H_83 := ((hcB.tr (hcc.tr (hc_81.tr hc85))).mono (fun q hq => by simp only [List.mem_append, List.mem_cons, List.not_mem_nil, or_false, false_or] at hq ⊢; omega))
        obtain ⟨q0, q1, q2, q3, q4, q5, q6, q7⟩ := zkeep (S := S) (ls := [7, 9, 10, 11]) hO hce (by decide)
        have hle := hK0.lt hE
        have hOz : zown G (zad ad (zN S) q85 q_1 cp17 cr17 ca17 bq47 ba47) (22 + 6 * (zN S + 1)) := zad_own hO hle (by omega) ⟨ne_26, ne_35, ne_44, k247, k347, m117, m217, ne_57, ne_69, m317, ne_58, ne_70, ne_59, ne_71, k147⟩ (by rcases hq85 with z | z; exact Or.inl z; exact Or.inr (by omega)) ⟨hA_q_1, hA_cp17, hA_cr17, hA_ca17, hA_bq47, hA_ba47⟩
        obtain ⟨kL, kP, kU, kV, kI⟩ := zkept_N (S := S) (t := t9) (n := n9) (u := u9) (v := v9)
        have hxb : xbid t8 n9 = xbid t9 n9 := by funext v; exact xbid_cong ht8
        rw [hxb] at hkq2
        have hfin : XS G (zad ad (zN S) q85 q_1 cp17 cr17 ca17 bq47 ba47) (zkept S t9 n9 u9 v9) H_83 := by
          refine XSgrow (kp := kp) (kp' := va_up kp (zN S) kq) (fun j hj h => zad_old hj h) hn hU9 hOz hfb (q0 _ _ (by decide) hx0) ⟨td, q1 _ _ (by decide) hdr⟩ ⟨tc, nc, q2 _ _ (by decide) hch⟩ ⟨gg, dd, ?_⟩ (by rw [zad_11]; exact hla85) (fun i hi => by rw [hb185 i hi]; exact hl9.2 i hi) (by rw [zad_0]; exact hb285) ⟨f1, f2, q5 _ _ _ (by decide) hpr⟩ ⟨fr1, q6 16 _ (by decide) (by decide) hr1⟩ ⟨fr2, q6 18 _ (by decide) (by decide) hr2⟩ ⟨fr3, q6 20 _ (by decide) (by decide) hr3⟩ (hkp.kept hkq1 hkq2) (fun i hi => va_up_ne _ _ (by omega)) (fun i hi => q7 _ _ i hi (hst i hi)) ?_
          · exact ((hskk.kept hc_81 (xn1 ne_9) (xn1 ne_10) (xn1 ne_11)).kept hc85 (xn2 (hO.n22 (i := 7) (j := 10) (by decide) (by decide) (by decide)) (hO.n22 (i := 7) (j := 11) (by decide) (by decide) (by decide))) (xn2 (hO.n22 (i := 8) (j := 10) (by decide) (by decide) (by decide)) (hO.n22 (i := 8) (j := 11) (by decide) (by decide) (by decide))) (xn2 (hO.n22 (i := 9) (j := 10) (by decide) (by decide) (by decide)) (hO.n22 (i := 9) (j := 11) (by decide) (by decide) (by decide))))
          · refine ⟨ct17, xbits t8 n9 ||| r1 ||| r2, f', ?_, ?_, ?_, ?_, ?_, ?_, ?_⟩
            · rw [zad_0, zad_1, zad_4, va_up_self, kU, kV, kI]; exact bs47
            · rw [zad_1, zad_2, zad_3, kL]; exact ⟨cpa17, cpb17, cpc17, cn17, m117, m217, m317, c1617⟩
            · rw [zad_4, zad_5]; exact bb47
            · rw [zad_5]; exact bv47
            · intro k hk; rw [kL] at hk; rw [kP, ctt17 k hk, ht8 k hk]
            · intro v hv; rw [kL, kP, hfs v (by omega), hxb]
            · refine zbits_ext (zbits_or (zbits_or (zbits_prog hq16 n9) r1z) r2z) (fun j hj => ?_)
              rw [zline_new hW hu9 hv9, xhas_cong ht8, Bool.or_assoc]
        exact x_iret (G := G) hx hb hr rfl dX4_keep_106 hlocks hS (by first | exact Nat.le_of_ble_eq_true rfl | exact (show 0 + 1 + 3 + 2 + 1 ≤ 10 by omega)) (by first | exact Nat.le_of_ble_eq_true rfl | exact (show 0 + 8 + 104 + 101 + 60 ≤ 400 by omega)) ⟨rfl, (zad ad (zN S) q85 q_1 cp17 cr17 ca17 bq47 ba47), fun j hj h => zad_old hj h, hfin⟩
      · have _ := hx
        have c_78 : ¬ (100 ≤ i) := fun z => c_78 ((nI_leI (a := 100) (b := i) (by omega) (by omega)).mpr z)
        refine lv_aload hx hb dX4_keep_57 (lv_at hl 3 rfl) ?_
        refine va_getN (D := xD G) (ci := 4) (v := .ref bq47) (C := RX3) (T := TX3) (N := 8) hx hb hts (by decide +kernel) hown hC.1 (x1 bs47) 0 rfl rfl 4 (by decide) (va_Nw.use rfl (hC.2.1 (.fieldLinkNest "Bidwhistle" 240 "Bidwhistle$Strategy" "bids" "LBidwhistle$Row;" "Bidwhistle") (by decide +kernel))) (fun _ h9 => h9) rfl dX4_keep_59 ?_
        refine lv_iload hx hb dX4_keep_62 (lv_at hl 4 rfl) ?_
        refine lv_aload_n hx hb dX4_keep_64 rfl (lv_at hl 1 rfl) ?_
        refine lv_iload hx hb dX4_keep_65 (lv_at hl 4 rfl) ?_
        refine lv_aload_n hx hb dX4_keep_67 rfl (lv_at hl 0 rfl) ?_
        refine va_get (D := xD G) (ci := 5) (v := .ref (ad 7)) (C := RX4) (T := TX4) (N := 11) hx hb hts (by decide +kernel) hown hC.1 (x1 hx9) 0 rfl rfl 2 (by decide) (hts (.fieldLink RX4 22 "Bidwhistle" "stack" "LBidwhistle$Stack;") (by decide +kernel)) (fun _ h9 => h9) rfl dX4_keep_68 ?_
        have hsz := hS.1
        refine x_call (px := xNo) (vx_runV (As := [.int (nI i), .ref (ad 7)]) (rest := [.int (nI i), .ref bq47]) ⟨hx, hb, hml, hown, hts⟩ (c_X0_bidFor l hfl G (ad b9) (ad (b9 + 1)) (ad (b9 + 2)) n9 (ad 7) (ad 8) (ad 9) dd i t8 gg HL ⟨hq0, hq1, hq2, hq7, nq1, nq2, nq3, hq16⟩ hskk (hO.a22 (i := 7) (by decide) (by decide)) (hO.a22 (i := 9) (by decide) (by decide)) nb0_7 nb0_9 nb1_7 nb1_9 nb2_7 nb2_9 hri (by omega)) (cwV 2 hts gX4_keep_X0_bidFor rfl rfl rfl (by decide +kernel) ⟨(Nat.le_of_ble_eq_true rfl), (Nat.le_of_ble_eq_true rfl)⟩) (xPreV hC hS hq0 (q := (RX0, TX0, 3)) rfl) rfl rfl hl.1 rfl (lv_room (Nat.le_of_ble_eq_true rfl)) dX4_keep_71 ⟨(by first | exact Nat.le_of_ble_eq_true rfl | exact (show 0 + 1 + 3 + 2 + 0 ≤ 10 by omega)), (by first | exact Nat.le_of_ble_eq_true rfl | exact (show 0 + 8 + 104 + 101 + 0 ≤ 400 by omega))⟩) hS (fun _ h => h) (fun _ _ _ _ _ h => False.elim h) (fun v H_86 locs hp hz hk_87 hS => ?_)
        obtain ⟨rfl, ⟨g288, d288, hs288⟩, hc88⟩ := hp
        have bv47 := hc88.at bv47 (xn2 (Ne.symm ne_62) (Ne.symm ne_64))
        have hx9 := hc88.at hx9 (xn2 (hO.n22 (i := 0) (j := 7) (by decide) (by decide) (by decide)) (hO.n22 (i := 0) (j := 9) (by decide) (by decide) (by decide)))
        have hl0 := hc88.at hl0 (xn2 (hO.n22 (i := 10) (j := 7) (by decide) (by decide) (by decide)) (hO.n22 (i := 10) (j := 9) (by decide) (by decide) (by decide)))
        have hq0 := hc88.at hq0 (xn2 nb0_7 nb0_9)
        have hq1 := hc88.at hq1 (xn2 nb1_7 nb1_9)
        have hq2 := hc88.at hq2 (xn2 nb2_7 nb2_9)
        have cpa17 := hc88.at cpa17 (xn2 (Ne.symm ne_20) (Ne.symm ne_22))
        have cpb17 := hc88.at cpb17 (xn2 (Ne.symm ne_29) (Ne.symm ne_31))
        have cpc17 := hc88.at cpc17 (xn2 (Ne.symm ne_38) (Ne.symm ne_40))
        have bs47 := hc88.at bs47 (xn2 (Ne.symm ne_9) (Ne.symm ne_11))
        have bb47 := hc88.at bb47 (xn2 (Ne.symm ne_50) (Ne.symm ne_52))
        have hsz := hS.1
        refine x_call (px := xNo) (vx_runV (As := [.int (nI i), .int (Int32.ofInt (xbid t8 n9 i))]) (rest := []) ⟨hx, hb, hml, hown, hts⟩ (c_X1_put l hfl G bq47 ba47 100 i f' (Int32.ofInt (xbid t8 n9 i)) H_86 bb47 bv47 (by omega) (by decide) hA_ba47 k147) (cwV 2 hts gX4_keep_X1_put rfl rfl rfl (by decide +kernel) ⟨(Nat.le_of_ble_eq_true rfl), (Nat.le_of_ble_eq_true rfl)⟩) (xPreV hC hS bb47 (q := (RX1, TX1, 1)) rfl) rfl rfl hl.1 rfl (lv_room (Nat.le_of_ble_eq_true rfl)) dX4_keep_74 ⟨(by first | exact Nat.le_of_ble_eq_true rfl | exact (show 0 + 1 + 3 + 2 + 0 ≤ 10 by omega)), (by first | exact Nat.le_of_ble_eq_true rfl | exact (show 0 + 8 + 104 + 101 + 0 ≤ 400 by omega))⟩) hS (fun _ h => h) (fun _ _ _ _ _ h => False.elim h) (fun v H_89 locs hp hz hk_90 hS => ?_)
        obtain ⟨rfl, hu91, hc91⟩ := hp
        have hx9 := hc91.at hx9 (xn1 ne_60)
        have hl0 := hc91.at hl0 (xn1 ne_61)
        have hq0 := hc91.at hq0 (xn1 ne_65)
        have hq1 := hc91.at hq1 (xn1 ne_66)
        have hq2 := hc91.at hq2 (xn1 ne_67)
        have cpa17 := hc91.at cpa17 (xn1 ne_69)
        have cpb17 := hc91.at cpb17 (xn1 ne_70)
        have cpc17 := hc91.at cpc17 (xn1 ne_71)
        have bs47 := hc91.at bs47 (xn1 k347)
        have bb47 := hc91.at bb47 (xn1 k147)
        refine lv_iinc (v := (nI (i + 1))) (lv' := [(6, .int (nI (i + 1))), (0, .ref (ad 0)), (1, .ref (ad b9)), (4, .int (nI (zN S))), (5, .ref q_1)]) hx hb dX4_keep_77 hl (k := 4) rfl (xinc (by decide)) (by decide) rfl (fun ls hl => ?_)
        refine lv_goto (tgt := 50) hx hb dX4_keep_80 (by decide) ?_
        have _ := hcc.1
        have _ := hc88.1
        have _ := hc91.1
        exact ihL (i + 1) (upd f' i (Int32.ofInt (xbid t8 n9 i))) (by omega) (fun v hv => by by_cases z : v = i; (subst z; exact pk_us); (rw [pk_un z]; exact hfs v (by omega))) (by omega) H_89 hu91 ⟨g288, d288, hs288.kept hc91 (xn1 ne_62) (xn1 ne_63) (xn1 ne_64)⟩ ((hcc.tr (hc88.tr hc91)).mono (fun q hq => by simp only [List.mem_append, List.mem_cons, List.not_mem_nil, or_false, false_or] at hq ⊢; omega)) _ hS ls (lv_sub hl [1, 2, 3, 4, 0] rfl)
  exact L _ (0) (fun _ => nI 0) (Nat.zero_le _) (fun v hv => absurd hv (Nat.not_lt_zero v)) (Nat.lt_succ_self _) H_77 bv47 ⟨gs, ds, hskB⟩ (xC.rf) _ hS ls (lv_sub hl [3, 4, 2, 1, 0] rfl)
