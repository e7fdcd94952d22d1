set_option maxHeartbeats 300000 in
set_option maxRecDepth 100000 in
/-- keeps(program, one, two) -/
theorem c_X5_keeps (l : Launch) (hfl : l.stackTraces = false) (G : xG) (ad : Nat → Nat) (S : zS) (tp th : Nat) (g : Nat → Int) (wo : Nat → Int32) (z : Nat → Bool) (p9 u9 v9 : Nat) (H : Heap) (hM : MX G ad S tp th g wo z H) (hW : zW S) (hp9 : p9 ≤ 20) (hn9 : zN S < 20) : xMet l G yX5_keeps wsX5_keeps ({ frames := 0, cells := 0, slots := 0, locals := 0 } : Room) [.ref (ad 0), .int (nI p9), .int (xpar u9), .int (xpar v9)] H (fun v H1 => v = none ∧ MX G ad (mkept S p9 u9 v9) tp th g wo z H1) (xNo) := by
  refine vx_ofW (cc := cX5_keeps) (maxL := 5) (ret := none) (by decide) rfl ?_
  intro Pg Ev s m args below meth c s₁ B hml hout hv
  obtain ⟨rfl, hH, hC⟩ := hv
  have hx := B.exec
  have hb := B.bytes
  have hr := B.returns
  have hts := atoms_spec (ws := wsX5_keeps) B.pre
  have hown : s.vm.findClass RX5 = some m.cls := findClass_of_methodNamed B.named
  have hlocks := B.notSynchronized
  rw [hH]
  have hS : va_S (xA G) s.heap H [] := by rw [← hH]; exact va_S.rf
  generalize ([] : List Loc) = locs at hS ⊢
  have hl := lv_entry [.ref (ad 0), .int (nI p9), .int (xpar u9), .int (xpar v9)] (n := 5) (Nat.le_of_ble_eq_true rfl)
  rw [lg_entry_eq]
  generalize (lg_sl [.ref (ad 0), .int (nI p9), .int (xpar u9), .int (xpar v9)] ++ List.replicate (5 - (lg_sl [.ref (ad 0), .int (nI p9), .int (xpar u9), .int (xpar v9)]).length) Slot.unset).toArray = ls at hl ⊢
  have hl : lv_has ls 5 [(0, .ref (ad 0)), (1, .int (nI p9)), (2, .int (xpar u9)), (3, .int (xpar v9))] := hl
  obtain ⟨hO, hm0, hm1, hm2, hm3, hm4, hm5, hm6, hm7, hm8, hm9, hm10⟩ := id hM
  have hn20 := hW.1
  have hL7 := hW.2.1 p9
  refine lv_aload_n hx hb dX5_keeps_0 rfl (lv_at hl 0 rfl) ?_
  refine va_get (D := xD G) (ci := 6) (v := .ref (ad 2)) (C := RX5) (T := TX5) (N := 14) hx hb hts (by decide +kernel) hown hC.1 (x1 hm0) 0 rfl rfl 1 (by decide) (hts (.fieldLink RX5 13 "BidwhistleModel" "lengths" "[I") (by decide +kernel)) (fun _ h9 => h9) rfl dX5_keeps_1 ?_
  refine lv_aload_n hx hb dX5_keeps_4 rfl (lv_at hl 0 rfl) ?_
  refine va_get (D := xD G) (ci := 6) (v := .int (nI (zN S))) (C := RX5) (T := TX5) (N := 14) hx hb hts (by decide +kernel) hown hC.1 (x1 hm0) 0 rfl rfl 2 (by decide) (hts (.fieldLink RX5 45 "BidwhistleModel" "stored" "I") (by decide +kernel)) (fun _ h9 => h9) rfl dX5_keeps_5 ?_
  refine lv_aload_n hx hb dX5_keeps_8 rfl (lv_at hl 0 rfl) ?_
  refine va_get (D := xD G) (ci := 6) (v := .ref (ad 2)) (C := RX5) (T := TX5) (N := 14) hx hb hts (by decide +kernel) hown hC.1 (x1 hm0) 0 rfl rfl 1 (by decide) (hts (.fieldLink RX5 13 "BidwhistleModel" "lengths" "[I") (by decide +kernel)) (fun _ h9 => h9) rfl dX5_keeps_9 ?_
  refine lv_iload_n hx hb dX5_keeps_12 rfl (lv_at hl 1 rfl) ?_
  refine x_iald (G := G) (j := p9) hx hb hC hm2 (by omega) (by first | decide | omega) dX5_keeps_13 ?_
  refine x_iastn (G := G) (j := (zN S)) hx hb hC hS (hO.2 2 (by omega) (by omega)) hm2 (by omega) (by first | decide | omega) dX5_keeps_14 (fun H_2 locs hm2 hc_1 hS => ?_)
  have hm0 := hc_1.at hm0 (xn1 (hO.ne (i := 0) (j := 2) (by omega) (by omega) (by omega)))
  have hm1 := hc_1.at hm1 (xn1 (hO.ne (i := 1) (j := 2) (by omega) (by omega) (by omega)))
  have hm3 := hc_1.at hm3 (xn1 (hO.ne (i := 3) (j := 2) (by omega) (by omega) (by omega)))
  have hm4 := hc_1.at hm4 (xn1 (hO.ne (i := 4) (j := 2) (by omega) (by omega) (by omega)))
  have hm5 := hc_1.at hm5 (xn1 (hO.ne (i := 5) (j := 2) (by omega) (by omega) (by omega)))
  have hm6 := hc_1.at hm6 (xn1 (hO.ne (i := 6) (j := 2) (by omega) (by omega) (by omega)))
  have hm7 := hc_1.at hm7 (xn1 (hO.ne (i := 7) (j := 2) (by omega) (by omega) (by omega)))
  have hm8 := hc_1.at hm8 (xn1 (hO.ne (i := 8) (j := 2) (by omega) (by omega) (by omega)))
  have hm9 := hc_1.at hm9 (xn1 (hO.ne (i := 9) (j := 2) (by omega) (by omega) (by omega)))
  have hm10 := hc_1.at hm10 (xn1 (hO.ne (i := 10) (j := 2) (by omega) (by omega) (by omega)))
  have hm2 : iA G (ad 2) 21 (fun j => nI (va_up (zL S) (zN S) (zL S p9) j)) H_2 := by rw [upd_nI] at hm2; exact hm2
  have hm1 : iA G (ad 1) 147 (mst (mrow (zP S) (zN S) 0 (zP S p9))) H_2 := by rw [mrow_0]; exact hm1
  refine lv_iconst (v := (nI 0)) hx hb dX5_keeps_15 (by decide) ?_
  refine lv_istore (lv' := [(4, .int (nI 0)), (0, .ref (ad 0)), (1, .int (nI p9)), (2, .int (xpar u9)), (3, .int (xpar v9))]) hx hb dX5_keeps_16 hl (by decide) rfl (fun ls hl => ?_)
  have L : ∀ (kL : Nat) (i : Nat), (i ≤ zL S p9) → zL S p9 - i < kL → ∀ (HL : Heap), (MX G ad (mcopy S p9 i) tp th g wo z HL) → ∀ (locs : List Loc), va_S (xA G) s.heap HL locs → ∀ ls : Array Slot, lv_has ls 5 [(0, .ref (ad 0)), (1, .int (nI p9)), (2, .int (xpar u9)), (3, .int (xpar v9)), (4, .int (nI i))] → W Pg l Ev (headSpec wsX5_keeps ({ frames := 0, cells := 0, slots := 0, locals := 0 } : Room)).room s m ([.ref (ad 0), .int (nI p9), .int (xpar u9), .int (xpar v9)] : List Value).toArray below meth c HL locs (0) (0) (vx_MQ below (xQ G (fun v H1 => v = none ∧ MX G ad (mkept S p9 u9 v9) tp th g wo z H1)) (xX G (xNo)) ([.ref (ad 0), .int (nI p9), .int (xpar u9), .int (xpar v9)] : List Value).toArray s ({ frames := 0, cells := 0, slots := 0, locals := 0 } : Room).cells ({ frames := 0, cells := 0, slots := 0, locals := 0 } : Room).slots (xA G)) (F0 m 18 ls []) := by
    intro kL
    induction kL with
    | zero => intro i hi hk; exact absurd hk (Nat.not_lt_zero _)
    | succ kL ihL =>
      intro i hi hk HL hM8 locs hS ls hl
      obtain ⟨-, hm0, hm1, hm2, hm3, hm4, hm5, hm6, hm7, hm8, hm9, hm10⟩ := (show MY G ad (zN S) (zK S) (mrow (zP S) (zN S) i (zP S p9)) (va_up (zL S) (zN S) (zL S p9)) (zU S) (zV S) (zI S) (zF S) (zO S) (zT S) tp th g wo z HL from (MX_Y (S := mcopy S p9 i)).mp hM8)
      refine lv_iload hx hb dX5_keeps_18 (lv_at hl 4 rfl) ?_
      refine lv_aload_n hx hb dX5_keeps_20 rfl (lv_at hl 0 rfl) ?_
      refine va_get (D := xD G) (ci := 6) (v := .ref (ad 2)) (C := RX5) (T := TX5) (N := 14) hx hb hts (by decide +kernel) hown hC.1 (x1 hm0) 0 rfl rfl 1 (by decide) (hts (.fieldLink RX5 13 "BidwhistleModel" "lengths" "[I") (by decide +kernel)) (fun _ h9 => h9) rfl dX5_keeps_21 ?_
      refine lv_iload_n hx hb dX5_keeps_24 rfl (lv_at hl 1 rfl) ?_
      refine x_iald (G := G) (j := p9) hx hb hC hm2 (by omega) (by first | decide | omega) dX5_keeps_25 ?_
      rw [show va_up (zL S) (zN S) (zL S p9) p9 = zL S p9 from mcopy_L]
      refine lv_icmp_ge (tgt := 62) hx hb dX5_keeps_26 (by decide) (fun c_3 => ?_) (fun c_3 => ?_)
      · have _ := hx
        have c_3 : (zL S p9) ≤ i := (nI_leI (a := (zL S p9)) (b := i) (by omega) (by omega)).mp c_3
        refine lv_aload_n hx hb dX5_keeps_62 rfl (lv_at hl 0 rfl) ?_
        refine va_get (D := xD G) (ci := 6) (v := .ref (ad 3)) (C := RX5) (T := TX5) (N := 14) hx hb hts (by decide +kernel) hown hC.1 (x1 hm0) 0 rfl rfl 3 (by decide) (hts (.fieldLink RX5 16 "BidwhistleModel" "parents" "[I") (by decide +kernel)) (fun _ h9 => h9) rfl dX5_keeps_63 ?_
        refine lv_iconst (v := (nI 2)) hx hb dX5_keeps_66 (by decide) ?_
        refine lv_aload_n hx hb dX5_keeps_67 rfl (lv_at hl 0 rfl) ?_
        refine va_get (D := xD G) (ci := 6) (v := .int (nI (zN S))) (C := RX5) (T := TX5) (N := 14) hx hb hts (by decide +kernel) hown hC.1 (x1 hm0) 0 rfl rfl 2 (by decide) (hts (.fieldLink RX5 45 "BidwhistleModel" "stored" "I") (by decide +kernel)) (fun _ h9 => h9) rfl dX5_keeps_68 ?_
        refine x_imuln (a := 2) (b := (zN S)) hx hb dX5_keeps_71 ?_
        refine lv_iload_n hx hb dX5_keeps_72 rfl (lv_at hl 2 rfl) ?_
        refine x_iastn (G := G) (j := (2 * ((zN S)))) hx hb hC hS (hO.2 3 (by omega) (by omega)) hm3 (by omega) (by first | decide | omega) dX5_keeps_73 (fun H_5 locs hm3 hc_4 hS => ?_)
        have hm0 := hc_4.at hm0 (xn1 (hO.ne (i := 0) (j := 3) (by omega) (by omega) (by omega)))
        have hm1 := hc_4.at hm1 (xn1 (hO.ne (i := 1) (j := 3) (by omega) (by omega) (by omega)))
        have hm2 := hc_4.at hm2 (xn1 (hO.ne (i := 2) (j := 3) (by omega) (by omega) (by omega)))
        have hm4 := hc_4.at hm4 (xn1 (hO.ne (i := 4) (j := 3) (by omega) (by omega) (by omega)))
        have hm5 := hc_4.at hm5 (xn1 (hO.ne (i := 5) (j := 3) (by omega) (by omega) (by omega)))
        have hm6 := hc_4.at hm6 (xn1 (hO.ne (i := 6) (j := 3) (by omega) (by omega) (by omega)))
        have hm7 := hc_4.at hm7 (xn1 (hO.ne (i := 7) (j := 3) (by omega) (by omega) (by omega)))
        have hm8 := hc_4.at hm8 (xn1 (hO.ne (i := 8) (j := 3) (by omega) (by omega) (by omega)))
        have hm9 := hc_4.at hm9 (xn1 (hO.ne (i := 9) (j := 3) (by omega) (by omega) (by omega)))
        have hm10 := hc_4.at hm10 (xn1 (hO.ne (i := 10) (j := 3) (by omega) (by omega) (by omega)))
        have hm3 : iA G (ad 3) 40 (mpa (va_up (zU S) (zN S) u9) (zV S)) H_5 := by rw [← mpa_up0]; exact hm3
        refine lv_aload_n hx hb dX5_keeps_74 rfl (lv_at hl 0 rfl) ?_
        refine va_get (D := xD G) (ci := 6) (v := .ref (ad 3)) (C := RX5) (T := TX5) (N := 14) hx hb hts (by decide +kernel) hown hC.1 (x1 hm0) 0 rfl rfl 3 (by decide) (hts (.fieldLink RX5 16 "BidwhistleModel" "parents" "[I") (by decide +kernel)) (fun _ h9 => h9) rfl dX5_keeps_75 ?_
        refine lv_iconst (v := (nI 2)) hx hb dX5_keeps_78 (by decide) ?_
        refine lv_aload_n hx hb dX5_keeps_79 rfl (lv_at hl 0 rfl) ?_
        refine va_get (D := xD G) (ci := 6) (v := .int (nI (zN S))) (C := RX5) (T := TX5) (N := 14) hx hb hts (by decide +kernel) hown hC.1 (x1 hm0) 0 rfl rfl 2 (by decide) (hts (.fieldLink RX5 45 "BidwhistleModel" "stored" "I") (by decide +kernel)) (fun _ h9 => h9) rfl dX5_keeps_80 ?_
        refine x_imuln (a := 2) (b := (zN S)) hx hb dX5_keeps_83 ?_
        refine lv_iconst (v := (nI 1)) hx hb dX5_keeps_84 (by decide) ?_
        refine x_iaddn (a := (2 * ((zN S)))) (b := 1) hx hb dX5_keeps_85 ?_
        refine lv_iload_n hx hb dX5_keeps_86 rfl (lv_at hl 3 rfl) ?_
        refine x_iastn (G := G) (j := (((2 * ((zN S)))) + 1)) hx hb hC hS (hO.2 3 (by omega) (by omega)) hm3 (by omega) (by first | decide | omega) dX5_keeps_87 (fun H_7 locs hm3 hc_6 hS => ?_)
        have hm0 := hc_6.at hm0 (xn1 (hO.ne (i := 0) (j := 3) (by omega) (by omega) (by omega)))
        have hm1 := hc_6.at hm1 (xn1 (hO.ne (i := 1) (j := 3) (by omega) (by omega) (by omega)))
        have hm2 := hc_6.at hm2 (xn1 (hO.ne (i := 2) (j := 3) (by omega) (by omega) (by omega)))
        have hm4 := hc_6.at hm4 (xn1 (hO.ne (i := 4) (j := 3) (by omega) (by omega) (by omega)))
        have hm5 := hc_6.at hm5 (xn1 (hO.ne (i := 5) (j := 3) (by omega) (by omega) (by omega)))
        have hm6 := hc_6.at hm6 (xn1 (hO.ne (i := 6) (j := 3) (by omega) (by omega) (by omega)))
        have hm7 := hc_6.at hm7 (xn1 (hO.ne (i := 7) (j := 3) (by omega) (by omega) (by omega)))
        have hm8 := hc_6.at hm8 (xn1 (hO.ne (i := 8) (j := 3) (by omega) (by omega) (by omega)))
        have hm9 := hc_6.at hm9 (xn1 (hO.ne (i := 9) (j := 3) (by omega) (by omega) (by omega)))
        have hm10 := hc_6.at hm10 (xn1 (hO.ne (i := 10) (j := 3) (by omega) (by omega) (by omega)))
        have hm3 : iA G (ad 3) 40 (mpa (va_up (zU S) (zN S) u9) (va_up (zV S) (zN S) v9)) H_7 := by rw [← mpa_up1]; exact hm3
        refine lv_aload_n hx hb dX5_keeps_88 rfl (lv_at hl 0 rfl) ?_
        refine lv_dup hx hb dX5_keeps_89 rfl ?_
        refine va_get (D := xD G) (ci := 6) (v := .int (nI (zN S))) (C := RX5) (T := TX5) (N := 14) hx hb hts (by decide +kernel) hown hC.1 (x1 hm0) 0 rfl rfl 2 (by decide) (hts (.fieldLink RX5 45 "BidwhistleModel" "stored" "I") (by decide +kernel)) (fun _ h9 => h9) rfl dX5_keeps_90 ?_
        refine lv_iconst (v := (nI 1)) hx hb dX5_keeps_93 (by decide) ?_
        refine x_iaddn (a := (zN S)) (b := 1) hx hb dX5_keeps_94 ?_
        refine x_put (G := G) (ci := 6) (v := .int (nI (((zN S)) + 1))) (ty := .int) (C := RX5) (T := TX5) (N := 14) hx hb hts (by decide +kernel) tyX5 tyX5_ok nmX5 hown hC hS (hO.2 0 (by omega) (by omega)) hm0 rfl 2 (by decide) (hts (.fieldLink RX5 45 "BidwhistleModel" "stored" "I") (by decide +kernel)) (fun _ h9 => h9) rfl (by decide +kernel) rfl rfl (Nat.le_of_ble_eq_true rfl) dX5_keeps_95 (fun H_9 locs hm0 hc_8 hS => ?_)
        have hm0 : oA G (ad 0) 6 [.ref (ad 1), .ref (ad 2), .int (nI (((zN S)) + 1)), .ref (ad 3), .ref (ad 4), .ref (ad 5), .int (nI (zK S)), .ref (ad 6), .ref (ad 7), .ref (ad 8), .int (nI tp), .ref (ad 9), .ref (ad 10), .int (nI th)] H_9 := hm0
        have hm1 := hc_8.at hm1 (xn1 (hO.ne (i := 1) (j := 0) (by omega) (by omega) (by omega)))
        have hm2 := hc_8.at hm2 (xn1 (hO.ne (i := 2) (j := 0) (by omega) (by omega) (by omega)))
        have hm3 := hc_8.at hm3 (xn1 (hO.ne (i := 3) (j := 0) (by omega) (by omega) (by omega)))
        have hm4 := hc_8.at hm4 (xn1 (hO.ne (i := 4) (j := 0) (by omega) (by omega) (by omega)))
        have hm5 := hc_8.at hm5 (xn1 (hO.ne (i := 5) (j := 0) (by omega) (by omega) (by omega)))
        have hm6 := hc_8.at hm6 (xn1 (hO.ne (i := 6) (j := 0) (by omega) (by omega) (by omega)))
        have hm7 := hc_8.at hm7 (xn1 (hO.ne (i := 7) (j := 0) (by omega) (by omega) (by omega)))
        have hm8 := hc_8.at hm8 (xn1 (hO.ne (i := 8) (j := 0) (by omega) (by omega) (by omega)))
        have hm9 := hc_8.at hm9 (xn1 (hO.ne (i := 9) (j := 0) (by omega) (by omega) (by omega)))
        have hm10 := hc_8.at hm10 (xn1 (hO.ne (i := 10) (j := 0) (by omega) (by omega) (by omega)))
        rw [show i = zL S p9 by omega] at hm1
        exact x_vret (G := G) hx hb hr dX5_keeps_98 hlocks hS (by first | exact Nat.le_of_ble_eq_true rfl | exact (show 0 ≤ 0 by omega)) (by first | exact Nat.le_of_ble_eq_true rfl | exact (show 0 ≤ 0 by omega)) ⟨rfl, (MX_Y.mpr (show MY G ad (zN S + 1) (zK S) (mrow (zP S) (zN S) (zL S p9) (zP S p9)) (va_up (zL S) (zN S) (zL S p9)) (va_up (zU S) (zN S) u9) (va_up (zV S) (zN S) v9) (zI S) (zF S) (zO S) (zT S) tp th g wo z H_9 from ⟨hO, hm0, hm1, hm2, hm3, hm4, hm5, hm6, hm7, hm8, hm9, hm10⟩))⟩
      · have _ := hx
        have c_3 : ¬ ((zL S p9) ≤ i) := fun z => c_3 ((nI_leI (a := (zL S p9)) (b := i) (by omega) (by omega)).mpr z)
        refine lv_aload_n hx hb dX5_keeps_29 rfl (lv_at hl 0 rfl) ?_
        refine va_get (D := xD G) (ci := 6) (v := .ref (ad 1)) (C := RX5) (T := TX5) (N := 14) hx hb hts (by decide +kernel) hown hC.1 (x1 hm0) 0 rfl rfl 0 (by decide) (hts (.fieldLink RX5 7 "BidwhistleModel" "steps" "[I") (by decide +kernel)) (fun _ h9 => h9) rfl dX5_keeps_30 ?_
        refine lv_bipush (v := (nI 7)) hx hb dX5_keeps_33 (by decide) ?_
        refine lv_aload_n hx hb dX5_keeps_35 rfl (lv_at hl 0 rfl) ?_
        refine va_get (D := xD G) (ci := 6) (v := .int (nI (zN S))) (C := RX5) (T := TX5) (N := 14) hx hb hts (by decide +kernel) hown hC.1 (x1 hm0) 0 rfl rfl 2 (by decide) (hts (.fieldLink RX5 45 "BidwhistleModel" "stored" "I") (by decide +kernel)) (fun _ h9 => h9) rfl dX5_keeps_36 ?_
        refine x_imuln (a := 7) (b := (zN S)) hx hb dX5_keeps_39 ?_
        refine lv_iload hx hb dX5_keeps_40 (lv_at hl 4 rfl) ?_
        refine x_iaddn (a := (7 * ((zN S)))) (b := i) hx hb dX5_keeps_42 ?_
        refine lv_aload_n hx hb dX5_keeps_43 rfl (lv_at hl 0 rfl) ?_
        refine va_get (D := xD G) (ci := 6) (v := .ref (ad 1)) (C := RX5) (T := TX5) (N := 14) hx hb hts (by decide +kernel) hown hC.1 (x1 hm0) 0 rfl rfl 0 (by decide) (hts (.fieldLink RX5 7 "BidwhistleModel" "steps" "[I") (by decide +kernel)) (fun _ h9 => h9) rfl dX5_keeps_44 ?_
        refine lv_bipush (v := (nI 7)) hx hb dX5_keeps_47 (by decide) ?_
        refine lv_iload_n hx hb dX5_keeps_49 rfl (lv_at hl 1 rfl) ?_
        refine x_imuln (a := 7) (b := p9) hx hb dX5_keeps_50 ?_
        refine lv_iload hx hb dX5_keeps_51 (lv_at hl 4 rfl) ?_
        refine x_iaddn (a := (7 * p9)) (b := i) hx hb dX5_keeps_53 ?_
        refine x_iald (G := G) (j := (((7 * p9)) + i)) hx hb hC hm1 (by omega) (by first | decide | omega) dX5_keeps_54 ?_
        rw [mst_at (P := (mrow (zP S) (zN S) i (zP S p9))) (q := (((7 * p9)) + i)) (i := p9) (k := i) (by omega) (by omega)]
        rw [show mrow (zP S) (zN S) i (zP S p9) p9 i = zP S p9 i from mrow_self]
        refine x_iastn (G := G) (j := (((7 * ((zN S)))) + i)) hx hb hC hS (hO.2 1 (by omega) (by omega)) hm1 (by omega) (by first | decide | omega) dX5_keeps_55 (fun H_11 locs hm1 hc_10 hS => ?_)
        have hm0 := hc_10.at hm0 (xn1 (hO.ne (i := 0) (j := 1) (by omega) (by omega) (by omega)))
        have hm2 := hc_10.at hm2 (xn1 (hO.ne (i := 2) (j := 1) (by omega) (by omega) (by omega)))
        have hm3 := hc_10.at hm3 (xn1 (hO.ne (i := 3) (j := 1) (by omega) (by omega) (by omega)))
        have hm4 := hc_10.at hm4 (xn1 (hO.ne (i := 4) (j := 1) (by omega) (by omega) (by omega)))
        have hm5 := hc_10.at hm5 (xn1 (hO.ne (i := 5) (j := 1) (by omega) (by omega) (by omega)))
        have hm6 := hc_10.at hm6 (xn1 (hO.ne (i := 6) (j := 1) (by omega) (by omega) (by omega)))
        have hm7 := hc_10.at hm7 (xn1 (hO.ne (i := 7) (j := 1) (by omega) (by omega) (by omega)))
        have hm8 := hc_10.at hm8 (xn1 (hO.ne (i := 8) (j := 1) (by omega) (by omega) (by omega)))
        have hm9 := hc_10.at hm9 (xn1 (hO.ne (i := 9) (j := 1) (by omega) (by omega) (by omega)))
        have hm10 := hc_10.at hm10 (xn1 (hO.ne (i := 10) (j := 1) (by omega) (by omega) (by omega)))
        have hm1 : iA G (ad 1) 147 (mst (mrow (zP S) (zN S) (i + 1) (zP S p9))) H_11 := by rw [← mrow_up, ← mst_up (q := 7 * zN S + i) (by omega) (by omega)]; exact hm1
        refine lv_iinc (v := (nI (i + 1))) (lv' := [(4, .int (nI (i + 1))), (0, .ref (ad 0)), (1, .int (nI p9)), (2, .int (xpar u9)), (3, .int (xpar v9))]) hx hb dX5_keeps_56 hl (k := 4) rfl (xinc (by decide)) (by decide) rfl (fun ls hl => ?_)
        refine lv_goto (tgt := 18) hx hb dX5_keeps_59 (by decide) ?_
        exact ihL (i + 1) (by omega) (by omega) H_11 (MX_Y.mpr (show MY G ad (zN S) (zK S) (mrow (zP S) (zN S) (i + 1) (zP S p9)) (va_up (zL S) (zN S) (zL S p9)) (zU S) (zV S) (zI S) (zF S) (zO S) (zT S) tp th g wo z H_11 from ⟨hO, hm0, hm1, hm2, hm3, hm4, hm5, hm6, hm7, hm8, hm9, hm10⟩)) _ hS ls (lv_sub hl [1, 2, 3, 4, 0] rfl)
  exact L _ (0) (Nat.zero_le _) (Nat.lt_succ_self _) H_2 (MX_Y.mpr (show MY G ad (zN S) (zK S) (mrow (zP S) (zN S) 0 (zP S p9)) (va_up (zL S) (zN S) (zL S p9)) (zU S) (zV S) (zI S) (zF S) (zO S) (zT S) tp th g wo z H_2 from ⟨hO, hm0, hm1, hm2, hm3, hm4, hm5, hm6, hm7, hm8, hm9, hm10⟩)) _ hS ls (lv_sub hl [1, 2, 3, 4, 0] rfl)

set_option maxHeartbeats 300000 in
set_option maxRecDepth 100000 in
/-- crosses(one, two) -/
theorem c_X5_crosses (l : Launch) (hfl : l.stackTraces = false) (G : xG) (ad : Nat → Nat) (S : zS) (tp th : Nat) (g : Nat → Int) (wo : Nat → Int32) (z : Nat → Bool) (i9 j9 : Nat) (H : Heap) (hM : MX G ad S tp th g wo z H) (hW : zW S) (hi9 : i9 < zN S) (hj9 : j9 < zN S) (hn9 : zN S < 20) : xMet l G yX5_crosses wsX5_crosses ({ frames := 0, cells := 0, slots := 0, locals := 0 } : Room) [.ref (ad 0), .int (nI i9), .int (nI j9)] H (fun v H1 => v = none ∧ MX G ad (mcross S i9 j9) tp th g wo z H1) (xNo) := by
  refine vx_ofW (cc := cX5_crosses) (maxL := 6) (ret := none) (by decide) rfl ?_
  intro Pg Ev s m args below meth c s₁ B hml hout hv
  obtain ⟨rfl, hH, hC⟩ := hv
  have hx := B.exec
  have hb := B.bytes
  have hr := B.returns
  have hts := atoms_spec (ws := wsX5_crosses) B.pre
  have hown : s.vm.findClass RX5 = some m.cls := findClass_of_methodNamed B.named
  have hlocks := B.notSynchronized
  rw [hH]
  have hS : va_S (xA G) s.heap H [] := by rw [← hH]; exact va_S.rf
  generalize ([] : List Loc) = locs at hS ⊢
  have hl := lv_entry [.ref (ad 0), .int (nI i9), .int (nI j9)] (n := 6) (Nat.le_of_ble_eq_true rfl)
  rw [lg_entry_eq]
  generalize (lg_sl [.ref (ad 0), .int (nI i9), .int (nI j9)] ++ List.replicate (6 - (lg_sl [.ref (ad 0), .int (nI i9), .int (nI j9)]).length) Slot.unset).toArray = ls at hl ⊢
  have hl : lv_has ls 6 [(0, .ref (ad 0)), (1, .int (nI i9)), (2, .int (nI j9))] := hl
  obtain ⟨hO, hm0, hm1, hm2, hm3, hm4, hm5, hm6, hm7, hm8, hm9, hm10⟩ := id hM
  have hn20 := hW.1
  have hLi := hW.2.1 i9
  have hLj := hW.2.1 j9
  refine lv_aload_n hx hb dX5_crosses_0 rfl (lv_at hl 0 rfl) ?_
  refine va_get (D := xD G) (ci := 6) (v := .ref (ad 2)) (C := RX5) (T := TX5) (N := 14) hx hb hts (by decide +kernel) hown hC.1 (x1 hm0) 0 rfl rfl 1 (by decide) (hts (.fieldLink RX5 13 "BidwhistleModel" "lengths" "[I") (by decide +kernel)) (fun _ h9 => h9) rfl dX5_crosses_1 ?_
  refine lv_iload_n hx hb dX5_crosses_4 rfl (lv_at hl 1 rfl) ?_
  refine x_iald (G := G) (j := i9) hx hb hC hm2 (by omega) (by first | decide | omega) dX5_crosses_5 ?_
  refine lv_iconst (v := (nI 1)) hx hb dX5_crosses_6 (by decide) ?_
  refine x_iaddn (a := (zL S i9)) (b := 1) hx hb dX5_crosses_7 ?_
  refine lv_iconst (v := (nI 2)) hx hb dX5_crosses_8 (by decide) ?_
  refine x_idivn (a := (((zL S i9)) + 1)) (b := 2) hx hb dX5_crosses_9 (by omega) (by omega) (by omega) ?_
  refine lv_istore_n (lv' := [(3, .int (nI (((((zL S i9)) + 1)) / 2))), (0, .ref (ad 0)), (1, .int (nI i9)), (2, .int (nI j9))]) hx hb dX5_crosses_10 rfl hl (by decide) rfl (fun ls hl => ?_)
  refine lv_aload_n hx hb dX5_crosses_11 rfl (lv_at hl 1 rfl) ?_
  refine va_get (D := xD G) (ci := 6) (v := .ref (ad 2)) (C := RX5) (T := TX5) (N := 14) hx hb hts (by decide +kernel) hown hC.1 (x1 hm0) 0 rfl rfl 1 (by decide) (hts (.fieldLink RX5 13 "BidwhistleModel" "lengths" "[I") (by decide +kernel)) (fun _ h9 => h9) rfl dX5_crosses_12 ?_
  refine lv_iload_n hx hb dX5_crosses_15 rfl (lv_at hl 3 rfl) ?_
  refine x_iald (G := G) (j := j9) hx hb hC hm2 (by omega) (by first | decide | omega) dX5_crosses_16 ?_
  refine lv_iconst (v := (nI 2)) hx hb dX5_crosses_17 (by decide) ?_
  refine x_idivn (a := (zL S j9)) (b := 2) hx hb dX5_crosses_18 (by omega) (by omega) (by omega) ?_
  refine lv_istore (lv' := [(4, .int (nI (((zL S j9)) / 2))), (3, .int (nI (((((zL S i9)) + 1)) / 2))), (0, .ref (ad 0)), (1, .int (nI i9)), (2, .int (nI j9))]) hx hb dX5_crosses_19 hl (by decide) rfl (fun ls hl => ?_)
  refine lv_iconst (v := (nI 0)) hx hb dX5_crosses_21 (by decide) ?_
  refine lv_istore (lv' := [(5, .int (nI 0)), (4, .int (nI (((zL S j9)) / 2))), (3, .int (nI (((((zL S i9)) + 1)) / 2))), (0, .ref (ad 0)), (1, .int (nI i9)), (2, .int (nI j9))]) hx hb dX5_crosses_22 hl (by decide) rfl (fun ls hl => ?_)
  have hm1 : iA G (ad 1) 147 (mst (mrow (zP S) (zN S) 0 (zchP S i9 j9))) H := by rw [mrow_0]; exact hm1
  have L : ∀ (kL : Nat) (k : Nat), (k ≤ ((zL S i9 + 1) / 2)) → ((zL S i9 + 1) / 2) - k < kL → ∀ (HL : Heap), (MX G ad (mchild S i9 j9 k) tp th g wo z HL) → ∀ (locs : List Loc), va_S (xA G) s.heap HL locs → ∀ ls : Array Slot, lv_has ls 6 [(0, .ref (ad 0)), (1, .int (nI i9)), (2, .int (nI j9)), (3, .int (nI ((zL S i9 + 1) / 2))), (4, .int (nI (zL S j9 / 2))), (5, .int (nI k))] → W Pg l Ev (headSpec wsX5_crosses ({ frames := 0, cells := 0, slots := 0, locals := 0 } : Room)).room s m ([.ref (ad 0), .int (nI i9), .int (nI j9)] : List Value).toArray below meth c HL locs (0) (0) (vx_MQ below (xQ G (fun v H1 => v = none ∧ MX G ad (mcross S i9 j9) tp th g wo z H1)) (xX G (xNo)) ([.ref (ad 0), .int (nI i9), .int (nI j9)] : List Value).toArray s ({ frames := 0, cells := 0, slots := 0, locals := 0 } : Room).cells ({ frames := 0, cells := 0, slots := 0, locals := 0 } : Room).slots (xA G)) (F0 m 24 ls []) := by
    intro kL
    induction kL with
    | zero => intro k hk hk; exact absurd hk (Nat.not_lt_zero _)
    | succ kL ihL =>
      intro k hk hk HL hM8 locs hS ls hl
      obtain ⟨-, hm0, hm1, hm2, hm3, hm4, hm5, hm6, hm7, hm8, hm9, hm10⟩ := (show MY G ad (zN S) (zK S) (mrow (zP S) (zN S) k (zchP S i9 j9)) (zL S) (zU S) (zV S) (zI S) (zF S) (zO S) (zT S) tp th g wo z HL from (MX_Y (S := mchild S i9 j9 k)).mp hM8)
      refine lv_iload hx hb dX5_crosses_24 (lv_at hl 5 rfl) ?_
      refine lv_iload_n hx hb dX5_crosses_26 rfl (lv_at hl 3 rfl) ?_
      refine lv_icmp_ge (tgt := 63) hx hb dX5_crosses_27 (by decide) (fun c_1 => ?_) (fun c_1 => ?_)
      · have _ := hx
        have c_1 : ((zL S i9 + 1) / 2) ≤ k := (nI_leI (a := ((zL S i9 + 1) / 2)) (b := k) (by omega) (by omega)).mp c_1
        refine lv_iconst (v := (nI 0)) hx hb dX5_crosses_63 (by decide) ?_
        refine lv_istore (lv' := [(5, .int (nI 0)), (0, .ref (ad 0)), (1, .int (nI i9)), (2, .int (nI j9)), (3, .int (nI ((zL S i9 + 1) / 2))), (4, .int (nI (zL S j9 / 2)))]) hx hb dX5_crosses_64 hl (by decide) rfl (fun ls hl => ?_)
        have hm1 : iA G (ad 1) 147 (mst (mrow (zP S) (zN S) (((zL S i9 + 1) / 2) + 0) (zchP S i9 j9))) HL := by rw [show k = ((zL S i9 + 1) / 2) by omega] at hm1; exact hm1
        have K : ∀ (kL : Nat) (k : Nat), (k ≤ (zL S j9 / 2)) → (zL S j9 / 2) - k < kL → ∀ (HL : Heap), (MX G ad (mchild S i9 j9 (((zL S i9 + 1) / 2) + k)) tp th g wo z HL) → ∀ (locs : List Loc), va_S (xA G) s.heap HL locs → ∀ ls : Array Slot, lv_has ls 6 [(0, .ref (ad 0)), (1, .int (nI i9)), (2, .int (nI j9)), (3, .int (nI ((zL S i9 + 1) / 2))), (4, .int (nI (zL S j9 / 2))), (5, .int (nI k))] → W Pg l Ev (headSpec wsX5_crosses ({ frames := 0, cells := 0, slots := 0, locals := 0 } : Room)).room s m ([.ref (ad 0), .int (nI i9), .int (nI j9)] : List Value).toArray below meth c HL locs (0) (0) (vx_MQ below (xQ G (fun v H1 => v = none ∧ MX G ad (mcross S i9 j9) tp th g wo z H1)) (xX G (xNo)) ([.ref (ad 0), .int (nI i9), .int (nI j9)] : List Value).toArray s ({ frames := 0, cells := 0, slots := 0, locals := 0 } : Room).cells ({ frames := 0, cells := 0, slots := 0, locals := 0 } : Room).slots (xA G)) (F0 m 66 ls []) := by
          intro kL
          induction kL with
          | zero => intro k hk hk; exact absurd hk (Nat.not_lt_zero _)
          | succ kL ihK =>
            intro k hk hk HL hM9 locs hS ls hl
            obtain ⟨-, hm0, hm1, hm2, hm3, hm4, hm5, hm6, hm7, hm8, hm9, hm10⟩ := (show MY G ad (zN S) (zK S) (mrow (zP S) (zN S) (((zL S i9 + 1) / 2) + k) (zchP S i9 j9)) (zL S) (zU S) (zV S) (zI S) (zF S) (zO S) (zT S) tp th g wo z HL from (MX_Y (S := mchild S i9 j9 (((zL S i9 + 1) / 2) + k))).mp hM9)
            refine lv_iload hx hb dX5_crosses_66 (lv_at hl 5 rfl) ?_
            refine lv_iload hx hb dX5_crosses_68 (lv_at hl 4 rfl) ?_
            refine lv_icmp_ge (tgt := 118) hx hb dX5_crosses_70 (by decide) (fun c_2 => ?_) (fun c_2 => ?_)
            · have _ := hx
              have c_2 : (zL S j9 / 2) ≤ k := (nI_leI (a := (zL S j9 / 2)) (b := k) (by omega) (by omega)).mp c_2
              refine lv_aload_n hx hb dX5_crosses_118 rfl (lv_at hl 0 rfl) ?_
              refine va_get (D := xD G) (ci := 6) (v := .ref (ad 2)) (C := RX5) (T := TX5) (N := 14) hx hb hts (by decide +kernel) hown hC.1 (x1 hm0) 0 rfl rfl 1 (by decide) (hts (.fieldLink RX5 13 "BidwhistleModel" "lengths" "[I") (by decide +kernel)) (fun _ h9 => h9) rfl dX5_crosses_119 ?_
              refine lv_aload_n hx hb dX5_crosses_122 rfl (lv_at hl 0 rfl) ?_
              refine va_get (D := xD G) (ci := 6) (v := .int (nI (zN S))) (C := RX5) (T := TX5) (N := 14) hx hb hts (by decide +kernel) hown hC.1 (x1 hm0) 0 rfl rfl 2 (by decide) (hts (.fieldLink RX5 45 "BidwhistleModel" "stored" "I") (by decide +kernel)) (fun _ h9 => h9) rfl dX5_crosses_123 ?_
              refine lv_iload_n hx hb dX5_crosses_126 rfl (lv_at hl 3 rfl) ?_
              refine lv_iload hx hb dX5_crosses_127 (lv_at hl 4 rfl) ?_
              refine x_iaddn (a := ((zL S i9 + 1) / 2)) (b := (zL S j9 / 2)) hx hb dX5_crosses_129 ?_
              refine x_iastn (G := G) (j := (zN S)) hx hb hC hS (hO.2 2 (by omega) (by omega)) hm2 (by omega) (by first | decide | omega) dX5_crosses_130 (fun H_4 locs hm2 hc_3 hS => ?_)
              have hm0 := hc_3.at hm0 (xn1 (hO.ne (i := 0) (j := 2) (by omega) (by omega) (by omega)))
              have hm1 := hc_3.at hm1 (xn1 (hO.ne (i := 1) (j := 2) (by omega) (by omega) (by omega)))
              have hm3 := hc_3.at hm3 (xn1 (hO.ne (i := 3) (j := 2) (by omega) (by omega) (by omega)))
              have hm4 := hc_3.at hm4 (xn1 (hO.ne (i := 4) (j := 2) (by omega) (by omega) (by omega)))
              have hm5 := hc_3.at hm5 (xn1 (hO.ne (i := 5) (j := 2) (by omega) (by omega) (by omega)))
              have hm6 := hc_3.at hm6 (xn1 (hO.ne (i := 6) (j := 2) (by omega) (by omega) (by omega)))
              have hm7 := hc_3.at hm7 (xn1 (hO.ne (i := 7) (j := 2) (by omega) (by omega) (by omega)))
              have hm8 := hc_3.at hm8 (xn1 (hO.ne (i := 8) (j := 2) (by omega) (by omega) (by omega)))
              have hm9 := hc_3.at hm9 (xn1 (hO.ne (i := 9) (j := 2) (by omega) (by omega) (by omega)))
              have hm10 := hc_3.at hm10 (xn1 (hO.ne (i := 10) (j := 2) (by omega) (by omega) (by omega)))
              have hm1 : iA G (ad 1) 147 (mst (mrow (zP S) (zN S) (((zL S i9 + 1) / 2) + (zL S j9 / 2)) (zchP S i9 j9))) H_4 := by rw [show k = (zL S j9 / 2) by omega] at hm1; exact hm1
              have hm2 : iA G (ad 2) 21 (fun j => nI (va_up (zL S) (zN S) (((zL S i9 + 1) / 2) + (zL S j9 / 2)) j)) H_4 := by rw [upd_nI] at hm2; exact hm2
              exact x_vret (G := G) hx hb hr dX5_crosses_131 hlocks hS (by first | exact Nat.le_of_ble_eq_true rfl | exact (show 0 ≤ 0 by omega)) (by first | exact Nat.le_of_ble_eq_true rfl | exact (show 0 ≤ 0 by omega)) ⟨rfl, (MX_Y.mpr (show MY G ad (zN S) (zK S) (mrow (zP S) (zN S) (((zL S i9 + 1) / 2) + (zL S j9 / 2)) (zchP S i9 j9)) (va_up (zL S) (zN S) (((zL S i9 + 1) / 2) + (zL S j9 / 2))) (zU S) (zV S) (zI S) (zF S) (zO S) (zT S) tp th g wo z H_4 from ⟨hO, hm0, hm1, hm2, hm3, hm4, hm5, hm6, hm7, hm8, hm9, hm10⟩))⟩
            · have _ := hx
              have c_2 : ¬ ((zL S j9 / 2) ≤ k) := fun z => c_2 ((nI_leI (a := (zL S j9 / 2)) (b := k) (by omega) (by omega)).mpr z)
              refine lv_aload_n hx hb dX5_crosses_73 rfl (lv_at hl 0 rfl) ?_
              refine va_get (D := xD G) (ci := 6) (v := .ref (ad 1)) (C := RX5) (T := TX5) (N := 14) hx hb hts (by decide +kernel) hown hC.1 (x1 hm0) 0 rfl rfl 0 (by decide) (hts (.fieldLink RX5 7 "BidwhistleModel" "steps" "[I") (by decide +kernel)) (fun _ h9 => h9) rfl dX5_crosses_74 ?_
              refine lv_bipush (v := (nI 7)) hx hb dX5_crosses_77 (by decide) ?_
              refine lv_aload_n hx hb dX5_crosses_79 rfl (lv_at hl 0 rfl) ?_
              refine va_get (D := xD G) (ci := 6) (v := .int (nI (zN S))) (C := RX5) (T := TX5) (N := 14) hx hb hts (by decide +kernel) hown hC.1 (x1 hm0) 0 rfl rfl 2 (by decide) (hts (.fieldLink RX5 45 "BidwhistleModel" "stored" "I") (by decide +kernel)) (fun _ h9 => h9) rfl dX5_crosses_80 ?_
              refine x_imuln (a := 7) (b := (zN S)) hx hb dX5_crosses_83 ?_
              refine lv_iload_n hx hb dX5_crosses_84 rfl (lv_at hl 3 rfl) ?_
              refine x_iaddn (a := (7 * ((zN S)))) (b := ((zL S i9 + 1) / 2)) hx hb dX5_crosses_85 ?_
              refine lv_iload hx hb dX5_crosses_86 (lv_at hl 5 rfl) ?_
              refine x_iaddn (a := (((7 * ((zN S)))) + (((zL S i9 + 1) / 2)))) (b := k) hx hb dX5_crosses_88 ?_
              refine lv_aload_n hx hb dX5_crosses_89 rfl (lv_at hl 0 rfl) ?_
              refine va_get (D := xD G) (ci := 6) (v := .ref (ad 1)) (C := RX5) (T := TX5) (N := 14) hx hb hts (by decide +kernel) hown hC.1 (x1 hm0) 0 rfl rfl 0 (by decide) (hts (.fieldLink RX5 7 "BidwhistleModel" "steps" "[I") (by decide +kernel)) (fun _ h9 => h9) rfl dX5_crosses_90 ?_
              refine lv_bipush (v := (nI 7)) hx hb dX5_crosses_93 (by decide) ?_
              refine lv_iload_n hx hb dX5_crosses_95 rfl (lv_at hl 2 rfl) ?_
              refine x_imuln (a := 7) (b := j9) hx hb dX5_crosses_96 ?_
              refine lv_aload_n hx hb dX5_crosses_97 rfl (lv_at hl 0 rfl) ?_
              refine va_get (D := xD G) (ci := 6) (v := .ref (ad 2)) (C := RX5) (T := TX5) (N := 14) hx hb hts (by decide +kernel) hown hC.1 (x1 hm0) 0 rfl rfl 1 (by decide) (hts (.fieldLink RX5 13 "BidwhistleModel" "lengths" "[I") (by decide +kernel)) (fun _ h9 => h9) rfl dX5_crosses_98 ?_
              refine lv_iload_n hx hb dX5_crosses_101 rfl (lv_at hl 2 rfl) ?_
              refine x_iald (G := G) (j := j9) hx hb hC hm2 (by omega) (by first | decide | omega) dX5_crosses_102 ?_
              refine x_iaddn (a := (7 * j9)) (b := (zL S j9)) hx hb dX5_crosses_103 ?_
              refine lv_iload hx hb dX5_crosses_104 (lv_at hl 4 rfl) ?_
              refine x_isubn (a := (((7 * j9)) + ((zL S j9)))) (b := (zL S j9 / 2)) hx hb dX5_crosses_106 (by omega) ?_
              refine lv_iload hx hb dX5_crosses_107 (lv_at hl 5 rfl) ?_
              refine x_iaddn (a := (((((7 * j9)) + ((zL S j9)))) - ((zL S j9 / 2)))) (b := k) hx hb dX5_crosses_109 ?_
              refine x_iald (G := G) (j := (((((((7 * j9)) + ((zL S j9)))) - ((zL S j9 / 2)))) + k)) hx hb hC hm1 (by omega) (by first | decide | omega) dX5_crosses_110 ?_
              rw [mst_at (P := (mrow (zP S) (zN S) (((zL S i9 + 1) / 2) + k) (zchP S i9 j9))) (q := (((((((7 * j9)) + ((zL S j9)))) - ((zL S j9 / 2)))) + k)) (i := j9) (k := ((zL S j9 - (zL S j9 / 2) + k))) (by omega) (by omega)]
              rw [show mrow (zP S) (zN S) (((zL S i9 + 1) / 2) + k) (zchP S i9 j9) j9 (zL S j9 - (zL S j9 / 2) + k) = zchP S i9 j9 (((zL S i9 + 1) / 2) + k) from by unfold zchP; rw [if_neg (by omega), show ((zL S i9 + 1) / 2) + k - ((zL S i9 + 1) / 2) = k by omega]; exact congrFun (mrow_ne (by omega)) _]
              refine x_iastn (G := G) (j := (((((7 * ((zN S)))) + (((zL S i9 + 1) / 2)))) + k)) hx hb hC hS (hO.2 1 (by omega) (by omega)) hm1 (by omega) (by first | decide | omega) dX5_crosses_111 (fun H_6 locs hm1 hc_5 hS => ?_)
              have hm0 := hc_5.at hm0 (xn1 (hO.ne (i := 0) (j := 1) (by omega) (by omega) (by omega)))
              have hm2 := hc_5.at hm2 (xn1 (hO.ne (i := 2) (j := 1) (by omega) (by omega) (by omega)))
              have hm3 := hc_5.at hm3 (xn1 (hO.ne (i := 3) (j := 1) (by omega) (by omega) (by omega)))
              have hm4 := hc_5.at hm4 (xn1 (hO.ne (i := 4) (j := 1) (by omega) (by omega) (by omega)))
              have hm5 := hc_5.at hm5 (xn1 (hO.ne (i := 5) (j := 1) (by omega) (by omega) (by omega)))
              have hm6 := hc_5.at hm6 (xn1 (hO.ne (i := 6) (j := 1) (by omega) (by omega) (by omega)))
              have hm7 := hc_5.at hm7 (xn1 (hO.ne (i := 7) (j := 1) (by omega) (by omega) (by omega)))
              have hm8 := hc_5.at hm8 (xn1 (hO.ne (i := 8) (j := 1) (by omega) (by omega) (by omega)))
              have hm9 := hc_5.at hm9 (xn1 (hO.ne (i := 9) (j := 1) (by omega) (by omega) (by omega)))
              have hm10 := hc_5.at hm10 (xn1 (hO.ne (i := 10) (j := 1) (by omega) (by omega) (by omega)))
              have hm1 : iA G (ad 1) 147 (mst (mrow (zP S) (zN S) (((zL S i9 + 1) / 2) + (k + 1)) (zchP S i9 j9))) H_6 := by show iA G (ad 1) 147 (mst (mrow (zP S) (zN S) (((zL S i9 + 1) / 2) + k + 1) (zchP S i9 j9))) _; rw [← mrow_up, ← mst_up (q := 7 * zN S + ((zL S i9 + 1) / 2) + k) (by omega) (by omega)]; exact hm1
              refine lv_iinc (v := (nI (k + 1))) (lv' := [(5, .int (nI (k + 1))), (0, .ref (ad 0)), (1, .int (nI i9)), (2, .int (nI j9)), (3, .int (nI ((zL S i9 + 1) / 2))), (4, .int (nI (zL S j9 / 2)))]) hx hb dX5_crosses_112 hl (k := 5) rfl (xinc (by decide)) (by decide) rfl (fun ls hl => ?_)
              refine lv_goto (tgt := 66) hx hb dX5_crosses_115 (by decide) ?_
              exact ihK (k + 1) (by omega) (by omega) H_6 (MX_Y.mpr (show MY G ad (zN S) (zK S) (mrow (zP S) (zN S) (((zL S i9 + 1) / 2) + (k + 1)) (zchP S i9 j9)) (zL S) (zU S) (zV S) (zI S) (zF S) (zO S) (zT S) tp th g wo z H_6 from ⟨hO, hm0, hm1, hm2, hm3, hm4, hm5, hm6, hm7, hm8, hm9, hm10⟩)) _ hS ls (lv_sub hl [1, 2, 3, 4, 5, 0] rfl)
        exact K _ (0) (Nat.zero_le _) (Nat.lt_succ_self _) HL (MX_Y.mpr (show MY G ad (zN S) (zK S) (mrow (zP S) (zN S) (((zL S i9 + 1) / 2) + 0) (zchP S i9 j9)) (zL S) (zU S) (zV S) (zI S) (zF S) (zO S) (zT S) tp th g wo z HL from ⟨hO, hm0, hm1, hm2, hm3, hm4, hm5, hm6, hm7, hm8, hm9, hm10⟩)) _ hS ls (lv_sub hl [1, 2, 3, 4, 5, 0] rfl)
      · have _ := hx
        have c_1 : ¬ (((zL S i9 + 1) / 2) ≤ k) := fun z => c_1 ((nI_leI (a := ((zL S i9 + 1) / 2)) (b := k) (by omega) (by omega)).mpr z)
        refine lv_aload_n hx hb dX5_crosses_30 rfl (lv_at hl 0 rfl) ?_
        refine va_get (D := xD G) (ci := 6) (v := .ref (ad 1)) (C := RX5) (T := TX5) (N := 14) hx hb hts (by decide +kernel) hown hC.1 (x1 hm0) 0 rfl rfl 0 (by decide) (hts (.fieldLink RX5 7 "BidwhistleModel" "steps" "[I") (by decide +kernel)) (fun _ h9 => h9) rfl dX5_crosses_31 ?_
        refine lv_bipush (v := (nI 7)) hx hb dX5_crosses_34 (by decide) ?_
        refine lv_aload_n hx hb dX5_crosses_36 rfl (lv_at hl 0 rfl) ?_
        refine va_get (D := xD G) (ci := 6) (v := .int (nI (zN S))) (C := RX5) (T := TX5) (N := 14) hx hb hts (by decide +kernel) hown hC.1 (x1 hm0) 0 rfl rfl 2 (by decide) (hts (.fieldLink RX5 45 "BidwhistleModel" "stored" "I") (by decide +kernel)) (fun _ h9 => h9) rfl dX5_crosses_37 ?_
        refine x_imuln (a := 7) (b := (zN S)) hx hb dX5_crosses_40 ?_
        refine lv_iload hx hb dX5_crosses_41 (lv_at hl 5 rfl) ?_
        refine x_iaddn (a := (7 * ((zN S)))) (b := k) hx hb dX5_crosses_43 ?_
        refine lv_aload_n hx hb dX5_crosses_44 rfl (lv_at hl 0 rfl) ?_
        refine va_get (D := xD G) (ci := 6) (v := .ref (ad 1)) (C := RX5) (T := TX5) (N := 14) hx hb hts (by decide +kernel) hown hC.1 (x1 hm0) 0 rfl rfl 0 (by decide) (hts (.fieldLink RX5 7 "BidwhistleModel" "steps" "[I") (by decide +kernel)) (fun _ h9 => h9) rfl dX5_crosses_45 ?_
        refine lv_bipush (v := (nI 7)) hx hb dX5_crosses_48 (by decide) ?_
        refine lv_iload_n hx hb dX5_crosses_50 rfl (lv_at hl 1 rfl) ?_
        refine x_imuln (a := 7) (b := i9) hx hb dX5_crosses_51 ?_
        refine lv_iload hx hb dX5_crosses_52 (lv_at hl 5 rfl) ?_
        refine x_iaddn (a := (7 * i9)) (b := k) hx hb dX5_crosses_54 ?_
        refine x_iald (G := G) (j := (((7 * i9)) + k)) hx hb hC hm1 (by omega) (by first | decide | omega) dX5_crosses_55 ?_
        rw [mst_at (P := (mrow (zP S) (zN S) k (zchP S i9 j9))) (q := (((7 * i9)) + k)) (i := i9) (k := k) (by omega) (by omega)]
        rw [show mrow (zP S) (zN S) k (zchP S i9 j9) i9 k = zchP S i9 j9 k from by unfold zchP; rw [if_pos (by omega)]; exact congrFun (mrow_ne (by omega)) k]
        refine x_iastn (G := G) (j := (((7 * ((zN S)))) + k)) hx hb hC hS (hO.2 1 (by omega) (by omega)) hm1 (by omega) (by first | decide | omega) dX5_crosses_56 (fun H_8 locs hm1 hc_7 hS => ?_)
        have hm0 := hc_7.at hm0 (xn1 (hO.ne (i := 0) (j := 1) (by omega) (by omega) (by omega)))
        have hm2 := hc_7.at hm2 (xn1 (hO.ne (i := 2) (j := 1) (by omega) (by omega) (by omega)))
        have hm3 := hc_7.at hm3 (xn1 (hO.ne (i := 3) (j := 1) (by omega) (by omega) (by omega)))
        have hm4 := hc_7.at hm4 (xn1 (hO.ne (i := 4) (j := 1) (by omega) (by omega) (by omega)))
        have hm5 := hc_7.at hm5 (xn1 (hO.ne (i := 5) (j := 1) (by omega) (by omega) (by omega)))
        have hm6 := hc_7.at hm6 (xn1 (hO.ne (i := 6) (j := 1) (by omega) (by omega) (by omega)))
        have hm7 := hc_7.at hm7 (xn1 (hO.ne (i := 7) (j := 1) (by omega) (by omega) (by omega)))
        have hm8 := hc_7.at hm8 (xn1 (hO.ne (i := 8) (j := 1) (by omega) (by omega) (by omega)))
        have hm9 := hc_7.at hm9 (xn1 (hO.ne (i := 9) (j := 1) (by omega) (by omega) (by omega)))
        have hm10 := hc_7.at hm10 (xn1 (hO.ne (i := 10) (j := 1) (by omega) (by omega) (by omega)))
        have hm1 : iA G (ad 1) 147 (mst (mrow (zP S) (zN S) (k + 1) (zchP S i9 j9))) H_8 := by rw [← mrow_up, ← mst_up (q := 7 * zN S + k) (by omega) (by omega)]; exact hm1
        refine lv_iinc (v := (nI (k + 1))) (lv' := [(5, .int (nI (k + 1))), (0, .ref (ad 0)), (1, .int (nI i9)), (2, .int (nI j9)), (3, .int (nI ((zL S i9 + 1) / 2))), (4, .int (nI (zL S j9 / 2)))]) hx hb dX5_crosses_57 hl (k := 5) rfl (xinc (by decide)) (by decide) rfl (fun ls hl => ?_)
        refine lv_goto (tgt := 24) hx hb dX5_crosses_60 (by decide) ?_
        exact ihL (k + 1) (by omega) (by omega) H_8 (MX_Y.mpr (show MY G ad (zN S) (zK S) (mrow (zP S) (zN S) (k + 1) (zchP S i9 j9)) (zL S) (zU S) (zV S) (zI S) (zF S) (zO S) (zT S) tp th g wo z H_8 from ⟨hO, hm0, hm1, hm2, hm3, hm4, hm5, hm6, hm7, hm8, hm9, hm10⟩)) _ hS ls (lv_sub hl [1, 2, 3, 4, 5, 0] rfl)
  exact L _ (0) (Nat.zero_le _) (Nat.lt_succ_self _) H (MX_Y.mpr (show MY G ad (zN S) (zK S) (mrow (zP S) (zN S) 0 (zchP S i9 j9)) (zL S) (zU S) (zV S) (zI S) (zF S) (zO S) (zT S) tp th g wo z H from ⟨hO, hm0, hm1, hm2, hm3, hm4, hm5, hm6, hm7, hm8, hm9, hm10⟩)) _ hS ls (lv_sub hl [3, 4, 5, 2, 1, 0] rfl)
