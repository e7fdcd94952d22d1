/-! the reference's calls -/
theorem kval_0 {p : Int32} (S : zS) (h : xok p 17 = false) : kval S p = 1 := by unfold kval; rw [h]; rfl
theorem kval_j {j : Nat} (S : zS) (h : j < 17) : kval S (nI j) = 0 := by unfold kval; rw [xok_nI h (by decide)]; rfl
theorem zbid_xbid {S : zS} {i j q : Nat} (h : zbid S i q = zbid S j q) : xbid (zP S i) (zL S i) q = xbid (zP S j) (zL S j) q := by
  have h1 := (xbd_in ((xrun (zP S i) q (fun _ => 0) (zL S i)).1 0)).1
  have h2 := (xbd_in ((xrun (zP S j) q (fun _ => 0) (zL S j)).1 0)).1
  unfold zbid xbid at h
  unfold xbid
  omega
set_option maxHeartbeats 200000 in
set_option maxRecDepth 100000 in
/-- step(step) -/
theorem c_X5_step (l : Launch) (hfl : l.stackTraces = false) (G : xG) (ad : Nat → Nat) (S : zS) (tp th : Nat) (g : Nat → Int) (wo : Nat → Int32) (z : Nat → Bool) (p9 : Int32) (H : Heap) (hM : MX G ad S tp th g wo z H) (hW : zW S) : xMet l G yX5_step wsX5_step ({ frames := 2, cells := 0, slots := 0, locals := 42 } : Room) [.ref (ad 0), .int p9] H (mPost G ad (kstep S p9) (nI (zL S 20 + 1)) S (zset S (zL S 20 + 1) (va_up (zP S 20) (zL S 20) p9.toNatClampNeg))) (xNo) := by
  refine vx_ofW (cc := cX5_step) (maxL := 2) (ret := (some .int)) (by decide) rfl ?_
  intro Pg Ev s m args below meth c s₁ B hml hout hv
  obtain ⟨rfl, hH, hC⟩ := hv
  have hx := B.exec
  have hb := B.bytes
  have hr := B.returns
  have hts := atoms_spec (ws := wsX5_step) B.pre
  have hown : s.vm.findClass RX5 = some m.cls := findClass_of_methodNamed B.named
  have hlocks := B.notSynchronized
  rw [hH]
  have hS : va_S (xA G) s.heap H [] := by rw [← hH]; exact va_S.rf
  generalize ([] : List Loc) = locs at hS ⊢
  have hl := lv_entry [.ref (ad 0), .int p9] (n := 2) (Nat.le_of_ble_eq_true rfl)
  rw [lg_entry_eq]
  generalize (lg_sl [.ref (ad 0), .int p9] ++ List.replicate (2 - (lg_sl [.ref (ad 0), .int p9]).length) Slot.unset).toArray = ls at hl ⊢
  have hl : lv_has ls 2 [(0, .ref (ad 0)), (1, .int p9)] := hl
  obtain ⟨hO, hm0, hm1, hm2, hm3, hm4, hm5, hm6, hm7, hm8, hm9, hm10⟩ := id hM
  have hn20 := hW.1
  have hL7 := hW.2.1 20
  refine lv_aload_n hx hb dX5_step_0 rfl (lv_at hl 0 rfl) ?_
  refine lv_iload_n hx hb dX5_step_1 rfl (lv_at hl 1 rfl) ?_
  refine x_intE (vx_runS (As := [.int p9]) (rest := [.ref (ad 0)]) ⟨hx, hb, hml, hown, hts⟩ (c_X5_isStep l hfl G p9 H) (va_cwS 1 hts gX5_step_X5_isStep rfl rfl rfl (by decide +kernel) ⟨(Nat.le_of_ble_eq_true rfl), (Nat.le_of_ble_eq_true rfl)⟩) (xPreS hC hS) rfl rfl hl.1 rfl (lv_room (Nat.le_of_ble_eq_true rfl)) dX5_step_2 ⟨(by first | exact Nat.le_of_ble_eq_true rfl | exact (show 0 + 0 ≤ 0 by omega)), (by first | exact Nat.le_of_ble_eq_true rfl | exact (show 0 + 0 ≤ 0 by omega))⟩) hS (fun locs hS => ?_)
  refine lv_if_ne (tgt := 12) hx hb dX5_step_5 (by decide) (fun c_1 => ?_) (fun c_1 => ?_)
  · have _ := hx
    obtain ⟨j9, hj9, rfl⟩ := xok_of (xb_1 (by first | exact c_1 | exact fun q => absurd q c_1)) (by omega)
    refine lv_aload_n hx hb dX5_step_12 rfl (lv_at hl 0 rfl) ?_
    refine va_get (D := xD G) (ci := 6) (v := .ref (ad 2)) (C := RX5) (T := TX5) (N := 14) hx hb hts (by decide +kernel) hown hC.1 (x1 hm0) 0 rfl rfl 1 (by decide) (hts (.fieldLink RX5 13 "BidwhistleModel" "lengths" "[I") (by decide +kernel)) (fun _ h9 => h9) rfl dX5_step_13 ?_
    refine lv_bipush (v := (nI 20)) hx hb dX5_step_16 (by decide) ?_
    refine x_iald (G := G) (j := 20) hx hb hC hm2 (by decide) (by first | decide | omega) dX5_step_18 ?_
    refine lv_bipush (v := (nI 7)) hx hb dX5_step_19 (by decide) ?_
    refine lv_icmp_ne (tgt := 28) hx hb dX5_step_21 (by decide) (fun c_2 => ?_) (fun c_2 => ?_)
    · have _ := hx
      have c_2 : ¬ ((zL S 20) = 7) := fun z => c_2 ((nI_eq (a := (zL S 20)) (b := 7) (by omega) (by omega)).mpr z)
      refine lv_iconst (v := (nI 0)) hx hb dX5_step_28 (by decide) ?_
      have hsz := hS.1
      refine x_call (px := xNo) (vx_runV (As := [.int (nI 0)]) (rest := []) ⟨hx, hb, hml, hown, hts⟩ (c_X5_goes0 l hfl G ad S tp th g wo z 0 H ⟨hO, hm0, hm1, hm2, hm3, hm4, hm5, hm6, hm7, hm8, hm9, hm10⟩ rfl) (cwV 1 hts gX5_step_X5_goes rfl rfl rfl (by decide +kernel) ⟨(Nat.le_of_ble_eq_true rfl), (Nat.le_of_ble_eq_true rfl)⟩) (xPreV hC hS hm0 (q := (RX5, TX5, 14)) rfl) rfl rfl hl.1 rfl (lv_room (Nat.le_of_ble_eq_true rfl)) dX5_step_29 ⟨(by first | exact Nat.le_of_ble_eq_true rfl | exact (show 0 + 0 ≤ 0 by omega)), (by first | exact Nat.le_of_ble_eq_true rfl | exact (show 0 + 0 ≤ 0 by omega))⟩) hS (fun _ h => h) (fun _ _ _ _ _ h => False.elim h) (fun v H_3 locs hp hz hk_4 hS => ?_)
      obtain ⟨rfl, hMM5⟩ := hp
      obtain ⟨-, hm0, hm1, hm2, hm3, hm4, hm5, hm6, hm7, hm8, hm9, hm10⟩ := id hMM5
      refine lv_if_ne (tgt := 37) hx hb dX5_step_32 (by decide) (fun c_6 => ?_) (fun c_6 => ?_)
      · have _ := hx
        have c_6 : ¬ (1 = 0) := fun z => c_6 ((nI_eq (a := 1) (b := 0) (by omega) (by omega)).mpr z)
        refine lv_aload_n hx hb dX5_step_37 rfl (lv_at hl 0 rfl) ?_
        refine va_get (D := xD G) (ci := 6) (v := .ref (ad 1)) (C := RX5) (T := TX5) (N := 14) hx hb hts (by decide +kernel) hown hC.1 (x1 hm0) 0 rfl rfl 0 (by decide) (hts (.fieldLink RX5 7 "BidwhistleModel" "steps" "[I") (by decide +kernel)) (fun _ h9 => h9) rfl dX5_step_38 ?_
        refine lv_sipush (v := (nI 140)) hx hb dX5_step_41 (by decide) ?_
        refine lv_aload_n hx hb dX5_step_44 rfl (lv_at hl 0 rfl) ?_
        refine va_get (D := xD G) (ci := 6) (v := .ref (ad 2)) (C := RX5) (T := TX5) (N := 14) hx hb hts (by decide +kernel) hown hC.1 (x1 hm0) 0 rfl rfl 1 (by decide) (hts (.fieldLink RX5 13 "BidwhistleModel" "lengths" "[I") (by decide +kernel)) (fun _ h9 => h9) rfl dX5_step_45 ?_
        refine lv_bipush (v := (nI 20)) hx hb dX5_step_48 (by decide) ?_
        refine x_iald (G := G) (j := 20) hx hb hC hm2 (by decide) (by first | decide | omega) dX5_step_50 ?_
        refine x_iaddn (a := 140) (b := (zL S 20)) hx hb dX5_step_51 ?_
        refine lv_iload_n hx hb dX5_step_52 rfl (lv_at hl 1 rfl) ?_
        refine x_iastn (G := G) (j := (140 + ((zL S 20)))) hx hb hC hS (hO.2 1 (by omega) (by omega)) hm1 (by omega) (by first | decide | omega) dX5_step_53 (fun H_8 locs hm1 hc_7 hS => ?_)
        have hm0 := hc_7.at hm0 (xn1 (hO.ne (i := 0) (j := 1) (by omega) (by omega) (by omega)))
        have hm2 := hc_7.at hm2 (xn1 (hO.ne (i := 2) (j := 1) (by omega) (by omega) (by omega)))
        have hm3 := hc_7.at hm3 (xn1 (hO.ne (i := 3) (j := 1) (by omega) (by omega) (by omega)))
        have hm4 := hc_7.at hm4 (xn1 (hO.ne (i := 4) (j := 1) (by omega) (by omega) (by omega)))
        have hm5 := hc_7.at hm5 (xn1 (hO.ne (i := 5) (j := 1) (by omega) (by omega) (by omega)))
        have hm6 := hc_7.at hm6 (xn1 (hO.ne (i := 6) (j := 1) (by omega) (by omega) (by omega)))
        have hm7 := hc_7.at hm7 (xn1 (hO.ne (i := 7) (j := 1) (by omega) (by omega) (by omega)))
        have hm8 := hc_7.at hm8 (xn1 (hO.ne (i := 8) (j := 1) (by omega) (by omega) (by omega)))
        have hm9 := hc_7.at hm9 (xn1 (hO.ne (i := 9) (j := 1) (by omega) (by omega) (by omega)))
        have hm10 := hc_7.at hm10 (xn1 (hO.ne (i := 10) (j := 1) (by omega) (by omega) (by omega)))
        have hm1 : iA G (ad 1) 147 (mst (va_up (zP S) 20 (va_up (zP S 20) (zL S 20) j9))) H_8 := by rw [← mst_up (q := 140 + zL S 20) (by omega) (by omega)]; exact hm1
        refine lv_aload_n hx hb dX5_step_54 rfl (lv_at hl 0 rfl) ?_
        refine va_get (D := xD G) (ci := 6) (v := .ref (ad 2)) (C := RX5) (T := TX5) (N := 14) hx hb hts (by decide +kernel) hown hC.1 (x1 hm0) 0 rfl rfl 1 (by decide) (hts (.fieldLink RX5 13 "BidwhistleModel" "lengths" "[I") (by decide +kernel)) (fun _ h9 => h9) rfl dX5_step_55 ?_
        refine lv_bipush (v := (nI 20)) hx hb dX5_step_58 (by decide) ?_
        refine lv_dup2_11 hx hb dX5_step_60 rfl rfl ?_
        refine x_iald (G := G) (j := 20) hx hb hC hm2 (by decide) (by first | decide | omega) dX5_step_61 ?_
        refine lv_iconst (v := (nI 1)) hx hb dX5_step_62 (by decide) ?_
        refine x_iaddn (a := (zL S 20)) (b := 1) hx hb dX5_step_63 ?_
        refine x_iastn (G := G) (j := 20) hx hb hC hS (hO.2 2 (by omega) (by omega)) hm2 (by decide) (by first | decide | omega) dX5_step_64 (fun H_10 locs hm2 hc_9 hS => ?_)
        have hm0 := hc_9.at hm0 (xn1 (hO.ne (i := 0) (j := 2) (by omega) (by omega) (by omega)))
        have hm1 := hc_9.at hm1 (xn1 (hO.ne (i := 1) (j := 2) (by omega) (by omega) (by omega)))
        have hm3 := hc_9.at hm3 (xn1 (hO.ne (i := 3) (j := 2) (by omega) (by omega) (by omega)))
        have hm4 := hc_9.at hm4 (xn1 (hO.ne (i := 4) (j := 2) (by omega) (by omega) (by omega)))
        have hm5 := hc_9.at hm5 (xn1 (hO.ne (i := 5) (j := 2) (by omega) (by omega) (by omega)))
        have hm6 := hc_9.at hm6 (xn1 (hO.ne (i := 6) (j := 2) (by omega) (by omega) (by omega)))
        have hm7 := hc_9.at hm7 (xn1 (hO.ne (i := 7) (j := 2) (by omega) (by omega) (by omega)))
        have hm8 := hc_9.at hm8 (xn1 (hO.ne (i := 8) (j := 2) (by omega) (by omega) (by omega)))
        have hm9 := hc_9.at hm9 (xn1 (hO.ne (i := 9) (j := 2) (by omega) (by omega) (by omega)))
        have hm10 := hc_9.at hm10 (xn1 (hO.ne (i := 10) (j := 2) (by omega) (by omega) (by omega)))
        have hm2 : iA G (ad 2) 21 (fun j => nI (va_up (zL S) 20 (zL S 20 + 1) j)) H_10 := by rw [upd_nI] at hm2; exact hm2
        refine lv_aload_n hx hb dX5_step_65 rfl (lv_at hl 0 rfl) ?_
        refine va_get (D := xD G) (ci := 6) (v := .ref (ad 2)) (C := RX5) (T := TX5) (N := 14) hx hb hts (by decide +kernel) hown hC.1 (x1 hm0) 0 rfl rfl 1 (by decide) (hts (.fieldLink RX5 13 "BidwhistleModel" "lengths" "[I") (by decide +kernel)) (fun _ h9 => h9) rfl dX5_step_66 ?_
        refine lv_bipush (v := (nI 20)) hx hb dX5_step_69 (by decide) ?_
        refine x_iald (G := G) (j := 20) hx hb hC hm2 (by decide) (by first | decide | omega) dX5_step_71 ?_
        exact x_iret (G := G) hx hb hr rfl dX5_step_72 hlocks hS (by first | exact Nat.le_of_ble_eq_true rfl | exact (show 0 ≤ 0 by omega)) (by first | exact Nat.le_of_ble_eq_true rfl | exact (show 0 ≤ 0 by omega)) (by exact (by rw [va_up_self]; exact mP0 (by rw [kstep_j hj9]; exact if_neg (by omega)) (by rw [nI_clamp (show j9 < 2 ^ 31 by omega)]; exact (MX_Y.mpr (show MY G ad (zN S) (zK S) (va_up (zP S) 20 (va_up (zP S 20) (zL S 20) j9)) (va_up (zL S) 20 (zL S 20 + 1)) (zU S) (zV S) (zI S) (zF S) (zO S) (zT S) tp 0 g wo z H_10 from ⟨hO, hm0, hm1, hm2, hm3, hm4, hm5, hm6, hm7, hm8, hm9, hm10⟩))) rfl))
      · have _ := hx
        have c_6 : 1 = 0 := (nI_eq (a := 1) (b := 0) (by omega) (by omega)).mp c_6
        exact absurd c_6 (by decide)
    · have _ := hx
      have c_2 : (zL S 20) = 7 := (nI_eq (a := (zL S 20)) (b := 7) (by omega) (by omega)).mp c_2
      refine lv_iconst (v := (nI 2)) hx hb dX5_step_24 (by decide) ?_
      refine lv_goto (tgt := 29) hx hb dX5_step_25 (by decide) ?_
      have hsz := hS.1
      refine x_call (px := xNo) (vx_runV (As := [.int (nI 2)]) (rest := []) ⟨hx, hb, hml, hown, hts⟩ (c_X5_goesk l hfl G ad S tp th g wo z 2 H ⟨hO, hm0, hm1, hm2, hm3, hm4, hm5, hm6, hm7, hm8, hm9, hm10⟩ (by decide)) (cwV 1 hts gX5_step_X5_goes rfl rfl rfl (by decide +kernel) ⟨(Nat.le_of_ble_eq_true rfl), (Nat.le_of_ble_eq_true rfl)⟩) (xPreV hC hS hm0 (q := (RX5, TX5, 14)) rfl) rfl rfl hl.1 rfl (lv_room (Nat.le_of_ble_eq_true rfl)) dX5_step_29 ⟨(by first | exact Nat.le_of_ble_eq_true rfl | exact (show 0 + 0 ≤ 0 by omega)), (by first | exact Nat.le_of_ble_eq_true rfl | exact (show 0 + 0 ≤ 0 by omega))⟩) hS (fun _ h => h) (fun _ _ _ _ _ h => False.elim h) (fun v H_11 locs hp hz hk_12 hS => ?_)
      obtain ⟨rfl, hMM13⟩ := hp
      obtain ⟨-, hm0, hm1, hm2, hm3, hm4, hm5, hm6, hm7, hm8, hm9, hm10⟩ := id hMM13
      refine lv_if_ne (tgt := 37) hx hb dX5_step_32 (by decide) (fun c_14 => ?_) (fun c_14 => ?_)
      · have _ := hx
        have c_14 : ¬ (0 = 0) := fun z => c_14 ((nI_eq (a := 0) (b := 0) (by omega) (by omega)).mpr z)
        exact absurd c_14 (by decide)
      · have _ := hx
        have c_14 : 0 = 0 := (nI_eq (a := 0) (b := 0) (by omega) (by omega)).mp c_14
        refine lv_iconst (v := (nI 0)) hx hb dX5_step_35 (by decide) ?_
        exact x_iret (G := G) hx hb hr rfl dX5_step_36 hlocks hS (by first | exact Nat.le_of_ble_eq_true rfl | exact (show 0 ≤ 0 by omega)) (by first | exact Nat.le_of_ble_eq_true rfl | exact (show 0 ≤ 0 by omega)) (by exact mP1 1 (by rw [kstep_j hj9]; exact if_pos (by omega)) ⟨hO, hm0, hm1, hm2, hm3, hm4, hm5, hm6, hm7, hm8, hm9, hm10⟩)
  · have _ := hx
    have hk_p9 : xok p9 17 = false := xb_0.mp (by first | exact c_1 | exact Classical.not_not.mp c_1)
    refine lv_iconst (v := (nI 1)) hx hb dX5_step_8 (by decide) ?_
    refine lv_goto (tgt := 29) hx hb dX5_step_9 (by decide) ?_
    have hsz := hS.1
    refine x_call (px := xNo) (vx_runV (As := [.int (nI 1)]) (rest := []) ⟨hx, hb, hml, hown, hts⟩ (c_X5_goesk l hfl G ad S tp th g wo z 1 H ⟨hO, hm0, hm1, hm2, hm3, hm4, hm5, hm6, hm7, hm8, hm9, hm10⟩ (by decide)) (cwV 1 hts gX5_step_X5_goes rfl rfl rfl (by decide +kernel) ⟨(Nat.le_of_ble_eq_true rfl), (Nat.le_of_ble_eq_true rfl)⟩) (xPreV hC hS hm0 (q := (RX5, TX5, 14)) rfl) rfl rfl hl.1 rfl (lv_room (Nat.le_of_ble_eq_true rfl)) dX5_step_29 ⟨(by first | exact Nat.le_of_ble_eq_true rfl | exact (show 0 + 0 ≤ 0 by omega)), (by first | exact Nat.le_of_ble_eq_true rfl | exact (show 0 + 0 ≤ 0 by omega))⟩) hS (fun _ h => h) (fun _ _ _ _ _ h => False.elim h) (fun v H_15 locs hp hz hk_16 hS => ?_)
    obtain ⟨rfl, hMM17⟩ := hp
    obtain ⟨-, hm0, hm1, hm2, hm3, hm4, hm5, hm6, hm7, hm8, hm9, hm10⟩ := id hMM17
    refine lv_if_ne (tgt := 37) hx hb dX5_step_32 (by decide) (fun c_18 => ?_) (fun c_18 => ?_)
    · have _ := hx
      have c_18 : ¬ (0 = 0) := fun z => c_18 ((nI_eq (a := 0) (b := 0) (by omega) (by omega)).mpr z)
      exact absurd c_18 (by decide)
    · have _ := hx
      have c_18 : 0 = 0 := (nI_eq (a := 0) (b := 0) (by omega) (by omega)).mp c_18
      refine lv_iconst (v := (nI 0)) hx hb dX5_step_35 (by decide) ?_
      exact x_iret (G := G) hx hb hr rfl dX5_step_36 hlocks hS (by first | exact Nat.le_of_ble_eq_true rfl | exact (show 0 ≤ 0 by omega)) (by first | exact Nat.le_of_ble_eq_true rfl | exact (show 0 ≤ 0 by omega)) (by exact mP1 0 (by unfold kstep; rw [hk_p9]; rfl) ⟨hO, hm0, hm1, hm2, hm3, hm4, hm5, hm6, hm7, hm8, hm9, hm10⟩)

set_option maxHeartbeats 200000 in
set_option maxRecDepth 100000 in
/-- scrap() -/
theorem c_X5_scrap (l : Launch) (hfl : l.stackTraces = false) (G : xG) (ad : Nat → Nat) (S : zS) (tp th : Nat) (g : Nat → Int) (wo : Nat → Int32) (z : Nat → Bool) (H : Heap) (hM : MX G ad S tp th g wo z H) (hW : zW S) : xMet l G yX5_scrap wsX5_scrap ({ frames := 0, cells := 0, slots := 0, locals := 0 } : Room) [.ref (ad 0)] H (mPost G ad (0) (nI (zL S 20)) S (zset S 0 (zP S 20))) (xNo) := by
  refine vx_ofW (cc := cX5_scrap) (maxL := 2) (ret := (some .int)) (by decide) rfl ?_
  intro Pg Ev s m args below meth c s₁ B hml hout hv
  obtain ⟨rfl, hH, hC⟩ := hv
  have hx := B.exec
  have hb := B.bytes
  have hr := B.returns
  have hts := atoms_spec (ws := wsX5_scrap) B.pre
  have hown : s.vm.findClass RX5 = some m.cls := findClass_of_methodNamed B.named
  have hlocks := B.notSynchronized
  rw [hH]
  have hS : va_S (xA G) s.heap H [] := by rw [← hH]; exact va_S.rf
  generalize ([] : List Loc) = locs at hS ⊢
  have hl := lv_entry [.ref (ad 0)] (n := 2) (Nat.le_of_ble_eq_true rfl)
  rw [lg_entry_eq]
  generalize (lg_sl [.ref (ad 0)] ++ List.replicate (2 - (lg_sl [.ref (ad 0)]).length) Slot.unset).toArray = ls at hl ⊢
  have hl : lv_has ls 2 [(0, .ref (ad 0))] := hl
  obtain ⟨hO, hm0, hm1, hm2, hm3, hm4, hm5, hm6, hm7, hm8, hm9, hm10⟩ := id hM
  have hn20 := hW.1
  have hL7 := hW.2.1 20
  refine lv_aload_n hx hb dX5_scrap_0 rfl (lv_at hl 0 rfl) ?_
  refine lv_iconst (v := (nI 0)) hx hb dX5_scrap_1 (by decide) ?_
  refine x_put (G := G) (ci := 6) (v := .int (nI 0)) (ty := .int) (C := RX5) (T := TX5) (N := 14) hx hb hts (by decide +kernel) tyX5 tyX5_ok nmX5 hown hC hS (hO.2 0 (by omega) (by omega)) hm0 rfl 13 (by decide) (hts (.fieldLink RX5 41 "BidwhistleModel" "thrown" "I") (by decide +kernel)) (fun _ h9 => h9) rfl (by decide +kernel) rfl rfl (Nat.le_of_ble_eq_true rfl) dX5_scrap_2 (fun H_2 locs hm0 hc_1 hS => ?_)
  have hm0 : oA G (ad 0) 6 [.ref (ad 1), .ref (ad 2), .int (nI (zN S)), .ref (ad 3), .ref (ad 4), .ref (ad 5), .int (nI (zK S)), .ref (ad 6), .ref (ad 7), .ref (ad 8), .int (nI tp), .ref (ad 9), .ref (ad 10), .int (nI 0)] H_2 := hm0
  have hm1 := hc_1.at hm1 (xn1 (hO.ne (i := 1) (j := 0) (by omega) (by omega) (by omega)))
  have hm2 := hc_1.at hm2 (xn1 (hO.ne (i := 2) (j := 0) (by omega) (by omega) (by omega)))
  have hm3 := hc_1.at hm3 (xn1 (hO.ne (i := 3) (j := 0) (by omega) (by omega) (by omega)))
  have hm4 := hc_1.at hm4 (xn1 (hO.ne (i := 4) (j := 0) (by omega) (by omega) (by omega)))
  have hm5 := hc_1.at hm5 (xn1 (hO.ne (i := 5) (j := 0) (by omega) (by omega) (by omega)))
  have hm6 := hc_1.at hm6 (xn1 (hO.ne (i := 6) (j := 0) (by omega) (by omega) (by omega)))
  have hm7 := hc_1.at hm7 (xn1 (hO.ne (i := 7) (j := 0) (by omega) (by omega) (by omega)))
  have hm8 := hc_1.at hm8 (xn1 (hO.ne (i := 8) (j := 0) (by omega) (by omega) (by omega)))
  have hm9 := hc_1.at hm9 (xn1 (hO.ne (i := 9) (j := 0) (by omega) (by omega) (by omega)))
  have hm10 := hc_1.at hm10 (xn1 (hO.ne (i := 10) (j := 0) (by omega) (by omega) (by omega)))
  refine lv_aload_n hx hb dX5_scrap_5 rfl (lv_at hl 0 rfl) ?_
  refine va_get (D := xD G) (ci := 6) (v := .ref (ad 2)) (C := RX5) (T := TX5) (N := 14) hx hb hts (by decide +kernel) hown hC.1 (x1 hm0) 0 rfl rfl 1 (by decide) (hts (.fieldLink RX5 13 "BidwhistleModel" "lengths" "[I") (by decide +kernel)) (fun _ h9 => h9) rfl dX5_scrap_6 ?_
  refine lv_bipush (v := (nI 20)) hx hb dX5_scrap_9 (by decide) ?_
  refine x_iald (G := G) (j := 20) hx hb hC hm2 (by decide) (by first | decide | omega) dX5_scrap_11 ?_
  refine lv_istore_n (lv' := [(1, .int (nI (zL S 20))), (0, .ref (ad 0))]) hx hb dX5_scrap_12 rfl hl (by decide) rfl (fun ls hl => ?_)
  refine lv_aload_n hx hb dX5_scrap_13 rfl (lv_at hl 1 rfl) ?_
  refine va_get (D := xD G) (ci := 6) (v := .ref (ad 2)) (C := RX5) (T := TX5) (N := 14) hx hb hts (by decide +kernel) hown hC.1 (x1 hm0) 0 rfl rfl 1 (by decide) (hts (.fieldLink RX5 13 "BidwhistleModel" "lengths" "[I") (by decide +kernel)) (fun _ h9 => h9) rfl dX5_scrap_14 ?_
  refine lv_bipush (v := (nI 20)) hx hb dX5_scrap_17 (by decide) ?_
  refine lv_iconst (v := (nI 0)) hx hb dX5_scrap_19 (by decide) ?_
  refine x_iastn (G := G) (j := 20) hx hb hC hS (hO.2 2 (by omega) (by omega)) hm2 (by decide) (by first | decide | omega) dX5_scrap_20 (fun H_4 locs hm2 hc_3 hS => ?_)
  have hm0 := hc_3.at hm0 (xn1 (hO.ne (i := 0) (j := 2) (by omega) (by omega) (by omega)))
  have hm1 := hc_3.at hm1 (xn1 (hO.ne (i := 1) (j := 2) (by omega) (by omega) (by omega)))
  have hm3 := hc_3.at hm3 (xn1 (hO.ne (i := 3) (j := 2) (by omega) (by omega) (by omega)))
  have hm4 := hc_3.at hm4 (xn1 (hO.ne (i := 4) (j := 2) (by omega) (by omega) (by omega)))
  have hm5 := hc_3.at hm5 (xn1 (hO.ne (i := 5) (j := 2) (by omega) (by omega) (by omega)))
  have hm6 := hc_3.at hm6 (xn1 (hO.ne (i := 6) (j := 2) (by omega) (by omega) (by omega)))
  have hm7 := hc_3.at hm7 (xn1 (hO.ne (i := 7) (j := 2) (by omega) (by omega) (by omega)))
  have hm8 := hc_3.at hm8 (xn1 (hO.ne (i := 8) (j := 2) (by omega) (by omega) (by omega)))
  have hm9 := hc_3.at hm9 (xn1 (hO.ne (i := 9) (j := 2) (by omega) (by omega) (by omega)))
  have hm10 := hc_3.at hm10 (xn1 (hO.ne (i := 10) (j := 2) (by omega) (by omega) (by omega)))
  have hm2 : iA G (ad 2) 21 (fun j => nI (va_up (zL S) 20 0 j)) H_4 := by rw [upd_nI] at hm2; exact hm2
  have hm1 : iA G (ad 1) 147 (mst (va_up (zP S) 20 (zP S 20))) H_4 := by rw [va_up_id]; exact hm1
  refine lv_iload_n hx hb dX5_scrap_21 rfl (lv_at hl 0 rfl) ?_
  exact x_iret (G := G) hx hb hr rfl dX5_scrap_22 hlocks hS (by first | exact Nat.le_of_ble_eq_true rfl | exact (show 0 ≤ 0 by omega)) (by first | exact Nat.le_of_ble_eq_true rfl | exact (show 0 ≤ 0 by omega)) (by exact mP0 rfl (MX_Y.mpr (show MY G ad (zN S) (zK S) (va_up (zP S) 20 (zP S 20)) (va_up (zL S) 20 0) (zU S) (zV S) (zI S) (zF S) (zO S) (zT S) tp 0 g wo z H_4 from ⟨hO, hm0, hm1, hm2, hm3, hm4, hm5, hm6, hm7, hm8, hm9, hm10⟩)) rfl)

set_option maxHeartbeats 200000 in
set_option maxRecDepth 100000 in
/-- stored() -/
theorem c_X5_stored (l : Launch) (hfl : l.stackTraces = false) (G : xG) (ad : Nat → Nat) (S : zS) (tp th : Nat) (g : Nat → Int) (wo : Nat → Int32) (z : Nat → Bool) (H : Heap) (hM : MX G ad S tp th g wo z H) (hW : zW S) : xMet l G yX5_stored wsX5_stored ({ frames := 0, cells := 0, slots := 0, locals := 0 } : Room) [.ref (ad 0)] H (mPost G ad (0) (nI (zN S)) S (S)) (xNo) := by
  refine vx_ofW (cc := cX5_stored) (maxL := 1) (ret := (some .int)) (by decide) rfl ?_
  intro Pg Ev s m args below meth c s₁ B hml hout hv
  obtain ⟨rfl, hH, hC⟩ := hv
  have hx := B.exec
  have hb := B.bytes
  have hr := B.returns
  have hts := atoms_spec (ws := wsX5_stored) B.pre
  have hown : s.vm.findClass RX5 = some m.cls := findClass_of_methodNamed B.named
  have hlocks := B.notSynchronized
  rw [hH]
  have hS : va_S (xA G) s.heap H [] := by rw [← hH]; exact va_S.rf
  generalize ([] : List Loc) = locs at hS ⊢
  have hl := lv_entry [.ref (ad 0)] (n := 1) (Nat.le_of_ble_eq_true rfl)
  rw [lg_entry_eq]
  generalize (lg_sl [.ref (ad 0)] ++ List.replicate (1 - (lg_sl [.ref (ad 0)]).length) Slot.unset).toArray = ls at hl ⊢
  have hl : lv_has ls 1 [(0, .ref (ad 0))] := hl
  obtain ⟨hO, hm0, hm1, hm2, hm3, hm4, hm5, hm6, hm7, hm8, hm9, hm10⟩ := id hM
  have hn20 := hW.1
  refine lv_aload_n hx hb dX5_stored_0 rfl (lv_at hl 0 rfl) ?_
  refine lv_iconst (v := (nI 0)) hx hb dX5_stored_1 (by decide) ?_
  refine x_put (G := G) (ci := 6) (v := .int (nI 0)) (ty := .int) (C := RX5) (T := TX5) (N := 14) hx hb hts (by decide +kernel) tyX5 tyX5_ok nmX5 hown hC hS (hO.2 0 (by omega) (by omega)) hm0 rfl 13 (by decide) (hts (.fieldLink RX5 41 "BidwhistleModel" "thrown" "I") (by decide +kernel)) (fun _ h9 => h9) rfl (by decide +kernel) rfl rfl (Nat.le_of_ble_eq_true rfl) dX5_stored_2 (fun H_2 locs hm0 hc_1 hS => ?_)
  have hm0 : oA G (ad 0) 6 [.ref (ad 1), .ref (ad 2), .int (nI (zN S)), .ref (ad 3), .ref (ad 4), .ref (ad 5), .int (nI (zK S)), .ref (ad 6), .ref (ad 7), .ref (ad 8), .int (nI tp), .ref (ad 9), .ref (ad 10), .int (nI 0)] H_2 := hm0
  have hm1 := hc_1.at hm1 (xn1 (hO.ne (i := 1) (j := 0) (by omega) (by omega) (by omega)))
  have hm2 := hc_1.at hm2 (xn1 (hO.ne (i := 2) (j := 0) (by omega) (by omega) (by omega)))
  have hm3 := hc_1.at hm3 (xn1 (hO.ne (i := 3) (j := 0) (by omega) (by omega) (by omega)))
  have hm4 := hc_1.at hm4 (xn1 (hO.ne (i := 4) (j := 0) (by omega) (by omega) (by omega)))
  have hm5 := hc_1.at hm5 (xn1 (hO.ne (i := 5) (j := 0) (by omega) (by omega) (by omega)))
  have hm6 := hc_1.at hm6 (xn1 (hO.ne (i := 6) (j := 0) (by omega) (by omega) (by omega)))
  have hm7 := hc_1.at hm7 (xn1 (hO.ne (i := 7) (j := 0) (by omega) (by omega) (by omega)))
  have hm8 := hc_1.at hm8 (xn1 (hO.ne (i := 8) (j := 0) (by omega) (by omega) (by omega)))
  have hm9 := hc_1.at hm9 (xn1 (hO.ne (i := 9) (j := 0) (by omega) (by omega) (by omega)))
  have hm10 := hc_1.at hm10 (xn1 (hO.ne (i := 10) (j := 0) (by omega) (by omega) (by omega)))
  refine lv_aload_n hx hb dX5_stored_5 rfl (lv_at hl 0 rfl) ?_
  refine va_get (D := xD G) (ci := 6) (v := .int (nI (zN S))) (C := RX5) (T := TX5) (N := 14) hx hb hts (by decide +kernel) hown hC.1 (x1 hm0) 0 rfl rfl 2 (by decide) (hts (.fieldLink RX5 45 "BidwhistleModel" "stored" "I") (by decide +kernel)) (fun _ h9 => h9) rfl dX5_stored_6 ?_
  exact x_iret (G := G) hx hb hr rfl dX5_stored_9 hlocks hS (by first | exact Nat.le_of_ble_eq_true rfl | exact (show 0 ≤ 0 by omega)) (by first | exact Nat.le_of_ble_eq_true rfl | exact (show 0 ≤ 0 by omega)) (by exact mP0 rfl ⟨hO, hm0, hm1, hm2, hm3, hm4, hm5, hm6, hm7, hm8, hm9, hm10⟩ rfl)

set_option maxHeartbeats 200000 in
set_option maxRecDepth 100000 in
/-- bid(strategy, value) -/
theorem c_X5_bid (l : Launch) (hfl : l.stackTraces = false) (G : xG) (ad : Nat → Nat) (S : zS) (tp th : Nat) (g : Nat → Int) (wo : Nat → Int32) (z : Nat → Bool) (p9 q9 : Int32) (H : Heap) (hM : MX G ad S tp th g wo z H) (hW : zW S) : xMet l G yX5_bid wsX5_bid ({ frames := 3, cells := 0, slots := 0, locals := 69 } : Room) [.ref (ad 0), .int p9, .int q9] H (mPost G ad (kbid S p9 q9) (nI (zbid S p9.toNatClampNeg q9.toNatClampNeg)) S (S)) (xNo) := by
  refine vx_ofW (cc := cX5_bid) (maxL := 3) (ret := (some .int)) (by decide) rfl ?_
  intro Pg Ev s m args below meth c s₁ B hml hout hv
  obtain ⟨rfl, hH, hC⟩ := hv
  have hx := B.exec
  have hb := B.bytes
  have hr := B.returns
  have hts := atoms_spec (ws := wsX5_bid) B.pre
  have hown : s.vm.findClass RX5 = some m.cls := findClass_of_methodNamed B.named
  have hlocks := B.notSynchronized
  rw [hH]
  have hS : va_S (xA G) s.heap H [] := by rw [← hH]; exact va_S.rf
  generalize ([] : List Loc) = locs at hS ⊢
  have hl := lv_entry [.ref (ad 0), .int p9, .int q9] (n := 3) (Nat.le_of_ble_eq_true rfl)
  rw [lg_entry_eq]
  generalize (lg_sl [.ref (ad 0), .int p9, .int q9] ++ List.replicate (3 - (lg_sl [.ref (ad 0), .int p9, .int q9]).length) Slot.unset).toArray = ls at hl ⊢
  have hl : lv_has ls 3 [(0, .ref (ad 0)), (1, .int p9), (2, .int q9)] := hl
  obtain ⟨hO, hm0, hm1, hm2, hm3, hm4, hm5, hm6, hm7, hm8, hm9, hm10⟩ := id hM
  have hn20 := hW.1
  refine lv_aload_n hx hb dX5_bid_0 rfl (lv_at hl 0 rfl) ?_
  refine lv_aload_n hx hb dX5_bid_1 rfl (lv_at hl 0 rfl) ?_
  refine lv_iload_n hx hb dX5_bid_2 rfl (lv_at hl 1 rfl) ?_
  refine x_intE (vx_runV (As := [.int p9]) (rest := [.ref (ad 0)]) ⟨hx, hb, hml, hown, hts⟩ (c_X5_isStrategy l hfl G ad S tp th g wo z p9 H ⟨hO, hm0, hm1, hm2, hm3, hm4, hm5, hm6, hm7, hm8, hm9, hm10⟩ hn20) (cwV 1 hts gX5_bid_X5_isStrategy rfl rfl rfl (by decide +kernel) ⟨(Nat.le_of_ble_eq_true rfl), (Nat.le_of_ble_eq_true rfl)⟩) (xPreV hC hS hm0 (q := (RX5, TX5, 14)) rfl) rfl rfl hl.1 rfl (lv_room (Nat.le_of_ble_eq_true rfl)) dX5_bid_3 ⟨(by first | exact Nat.le_of_ble_eq_true rfl | exact (show 0 + 0 ≤ 0 by omega)), (by first | exact Nat.le_of_ble_eq_true rfl | exact (show 0 + 0 ≤ 0 by omega))⟩) hS (fun locs hS => ?_)
  refine lv_if_ne (tgt := 13) hx hb dX5_bid_6 (by decide) (fun c_1 => ?_) (fun c_1 => ?_)
  · have _ := hx
    obtain ⟨j9, hj9, rfl⟩ := xok_of (xb_1 (by first | exact c_1 | exact fun q => absurd q c_1)) (by omega)
    refine lv_iload_n hx hb dX5_bid_13 rfl (lv_at hl 2 rfl) ?_
    refine x_intE (vx_runS (As := [.int q9]) (rest := [.ref (ad 0)]) ⟨hx, hb, hml, hown, hts⟩ (c_X5_isValue l hfl G q9 H) (va_cwS 1 hts gX5_bid_X5_isValue rfl rfl rfl (by decide +kernel) ⟨(Nat.le_of_ble_eq_true rfl), (Nat.le_of_ble_eq_true rfl)⟩) (xPreS hC hS) rfl rfl hl.1 rfl (lv_room (Nat.le_of_ble_eq_true rfl)) dX5_bid_14 ⟨(by first | exact Nat.le_of_ble_eq_true rfl | exact (show 0 + 0 ≤ 0 by omega)), (by first | exact Nat.le_of_ble_eq_true rfl | exact (show 0 + 0 ≤ 0 by omega))⟩) hS (fun locs hS => ?_)
    refine lv_if_eq (tgt := 24) hx hb dX5_bid_17 (by decide) (fun c_2 => ?_) (fun c_2 => ?_)
    · have _ := hx
      have hk_q9 : xok q9 100 = false := xb_0.mp (by first | exact c_2 | exact Classical.not_not.mp c_2)
      refine lv_iconst (v := (nI 2)) hx hb dX5_bid_24 (by decide) ?_
      have hsz := hS.1
      refine x_call (px := xNo) (vx_runV (As := [.int (nI 2)]) (rest := []) ⟨hx, hb, hml, hown, hts⟩ (c_X5_goesk l hfl G ad S tp th g wo z 2 H ⟨hO, hm0, hm1, hm2, hm3, hm4, hm5, hm6, hm7, hm8, hm9, hm10⟩ (by decide)) (cwV 1 hts gX5_bid_X5_goes rfl rfl rfl (by decide +kernel) ⟨(Nat.le_of_ble_eq_true rfl), (Nat.le_of_ble_eq_true rfl)⟩) (xPreV hC hS hm0 (q := (RX5, TX5, 14)) rfl) rfl rfl hl.1 rfl (lv_room (Nat.le_of_ble_eq_true rfl)) dX5_bid_25 ⟨(by first | exact Nat.le_of_ble_eq_true rfl | exact (show 0 + 0 ≤ 0 by omega)), (by first | exact Nat.le_of_ble_eq_true rfl | exact (show 0 + 0 ≤ 0 by omega))⟩) hS (fun _ h => h) (fun _ _ _ _ _ h => False.elim h) (fun v H_3 locs hp hz hk_4 hS => ?_)
      obtain ⟨rfl, hMM5⟩ := hp
      obtain ⟨-, hm0, hm1, hm2, hm3, hm4, hm5, hm6, hm7, hm8, hm9, hm10⟩ := id hMM5
      refine lv_if_eq (tgt := 40) hx hb dX5_bid_28 (by decide) (fun c_6 => ?_) (fun c_6 => ?_)
      · have _ := hx
        have c_6 : 0 = 0 := (nI_eq (a := 0) (b := 0) (by omega) (by omega)).mp c_6
        refine lv_iconst (v := (nI 0)) hx hb dX5_bid_40 (by decide) ?_
        exact x_iret (G := G) hx hb hr rfl dX5_bid_41 hlocks hS (by first | exact Nat.le_of_ble_eq_true rfl | exact (show 0 ≤ 0 by omega)) (by first | exact Nat.le_of_ble_eq_true rfl | exact (show 0 ≤ 0 by omega)) (by exact mP1 1 (by unfold kbid; rw [xok_nI hj9 (by omega), hk_q9]; rfl) ⟨hO, hm0, hm1, hm2, hm3, hm4, hm5, hm6, hm7, hm8, hm9, hm10⟩)
      · have _ := hx
        have c_6 : ¬ (0 = 0) := fun z => c_6 ((nI_eq (a := 0) (b := 0) (by omega) (by omega)).mpr z)
        exact absurd c_6 (by decide)
    · have _ := hx
      obtain ⟨v9, hv9, rfl⟩ := xok_of (xb_1 (by first | exact c_2 | exact fun q => absurd q c_2)) (by omega)
      refine lv_iconst (v := (nI 0)) hx hb dX5_bid_20 (by decide) ?_
      refine lv_goto (tgt := 25) hx hb dX5_bid_21 (by decide) ?_
      have hsz := hS.1
      refine x_call (px := xNo) (vx_runV (As := [.int (nI 0)]) (rest := []) ⟨hx, hb, hml, hown, hts⟩ (c_X5_goes0 l hfl G ad S tp th g wo z 0 H ⟨hO, hm0, hm1, hm2, hm3, hm4, hm5, hm6, hm7, hm8, hm9, hm10⟩ rfl) (cwV 1 hts gX5_bid_X5_goes rfl rfl rfl (by decide +kernel) ⟨(Nat.le_of_ble_eq_true rfl), (Nat.le_of_ble_eq_true rfl)⟩) (xPreV hC hS hm0 (q := (RX5, TX5, 14)) rfl) rfl rfl hl.1 rfl (lv_room (Nat.le_of_ble_eq_true rfl)) dX5_bid_25 ⟨(by first | exact Nat.le_of_ble_eq_true rfl | exact (show 0 + 0 ≤ 0 by omega)), (by first | exact Nat.le_of_ble_eq_true rfl | exact (show 0 + 0 ≤ 0 by omega))⟩) hS (fun _ h => h) (fun _ _ _ _ _ h => False.elim h) (fun v H_7 locs hp hz hk_8 hS => ?_)
      obtain ⟨rfl, hMM9⟩ := hp
      obtain ⟨-, hm0, hm1, hm2, hm3, hm4, hm5, hm6, hm7, hm8, hm9, hm10⟩ := id hMM9
      refine lv_if_eq (tgt := 40) hx hb dX5_bid_28 (by decide) (fun c_10 => ?_) (fun c_10 => ?_)
      · have _ := hx
        have c_10 : 1 = 0 := (nI_eq (a := 1) (b := 0) (by omega) (by omega)).mp c_10
        exact absurd c_10 (by decide)
      · have _ := hx
        have c_10 : ¬ (1 = 0) := fun z => c_10 ((nI_eq (a := 1) (b := 0) (by omega) (by omega)).mpr z)
        refine lv_aload_n hx hb dX5_bid_31 rfl (lv_at hl 0 rfl) ?_
        refine lv_iload_n hx hb dX5_bid_32 rfl (lv_at hl 1 rfl) ?_
        refine lv_iload_n hx hb dX5_bid_33 rfl (lv_at hl 2 rfl) ?_
        have hsz := hS.1
        refine x_call (px := xNo) (vx_runV (As := [.int (nI j9), .int (nI v9)]) (rest := []) ⟨hx, hb, hml, hown, hts⟩ (c_X5_bidOf l hfl G ad S tp 0 g wo z j9 v9 H_7 ⟨hO, hm0, hm1, hm2, hm3, hm4, hm5, hm6, hm7, hm8, hm9, hm10⟩ hW (by omega) (by omega)) (cwV 2 hts gX5_bid_X5_bidOf rfl rfl rfl (by decide +kernel) ⟨(Nat.le_of_ble_eq_true rfl), (Nat.le_of_ble_eq_true rfl)⟩) (xPreV hC hS hm0 (q := (RX5, TX5, 14)) rfl) rfl rfl hl.1 rfl (lv_room (Nat.le_of_ble_eq_true rfl)) dX5_bid_34 ⟨(by first | exact Nat.le_of_ble_eq_true rfl | exact (show 0 + 0 ≤ 0 by omega)), (by first | exact Nat.le_of_ble_eq_true rfl | exact (show 0 + 0 ≤ 0 by omega))⟩) hS (fun _ h => h) (fun _ _ _ _ _ h => False.elim h) (fun v H_11 locs hp hz hk_12 hS => ?_)
        obtain ⟨rfl, tp13, g13, hMM13⟩ := hp
        obtain ⟨-, hm0, hm1, hm2, hm3, hm4, hm5, hm6, hm7, hm8, hm9, hm10⟩ := id hMM13
        refine lv_goto (tgt := 41) hx hb dX5_bid_37 (by decide) ?_
        exact x_iret (G := G) hx hb hr rfl dX5_bid_41 hlocks hS (by first | exact Nat.le_of_ble_eq_true rfl | exact (show 0 ≤ 0 by omega)) (by first | exact Nat.le_of_ble_eq_true rfl | exact (show 0 ≤ 0 by omega)) (by exact mP0 (by unfold kbid; rw [xok_nI hj9 (by omega), xok_nI hv9 (by decide)]; rfl) ⟨hO, hm0, hm1, hm2, hm3, hm4, hm5, hm6, hm7, hm8, hm9, hm10⟩ (by rw [nI_clamp (show j9 < 2 ^ 31 by omega), nI_clamp (show v9 < 2 ^ 31 by omega)]))
  · have _ := hx
    have hk_p9 : xok p9 (zN S) = false := xb_0.mp (by first | exact c_1 | exact Classical.not_not.mp c_1)
    refine lv_iconst (v := (nI 1)) hx hb dX5_bid_9 (by decide) ?_
    refine lv_goto (tgt := 25) hx hb dX5_bid_10 (by decide) ?_
    have hsz := hS.1
    refine x_call (px := xNo) (vx_runV (As := [.int (nI 1)]) (rest := []) ⟨hx, hb, hml, hown, hts⟩ (c_X5_goesk l hfl G ad S tp th g wo z 1 H ⟨hO, hm0, hm1, hm2, hm3, hm4, hm5, hm6, hm7, hm8, hm9, hm10⟩ (by decide)) (cwV 1 hts gX5_bid_X5_goes rfl rfl rfl (by decide +kernel) ⟨(Nat.le_of_ble_eq_true rfl), (Nat.le_of_ble_eq_true rfl)⟩) (xPreV hC hS hm0 (q := (RX5, TX5, 14)) rfl) rfl rfl hl.1 rfl (lv_room (Nat.le_of_ble_eq_true rfl)) dX5_bid_25 ⟨(by first | exact Nat.le_of_ble_eq_true rfl | exact (show 0 + 0 ≤ 0 by omega)), (by first | exact Nat.le_of_ble_eq_true rfl | exact (show 0 + 0 ≤ 0 by omega))⟩) hS (fun _ h => h) (fun _ _ _ _ _ h => False.elim h) (fun v H_14 locs hp hz hk_15 hS => ?_)
    obtain ⟨rfl, hMM16⟩ := hp
    obtain ⟨-, hm0, hm1, hm2, hm3, hm4, hm5, hm6, hm7, hm8, hm9, hm10⟩ := id hMM16
    refine lv_if_eq (tgt := 40) hx hb dX5_bid_28 (by decide) (fun c_17 => ?_) (fun c_17 => ?_)
    · have _ := hx
      have c_17 : 0 = 0 := (nI_eq (a := 0) (b := 0) (by omega) (by omega)).mp c_17
      refine lv_iconst (v := (nI 0)) hx hb dX5_bid_40 (by decide) ?_
      exact x_iret (G := G) hx hb hr rfl dX5_bid_41 hlocks hS (by first | exact Nat.le_of_ble_eq_true rfl | exact (show 0 ≤ 0 by omega)) (by first | exact Nat.le_of_ble_eq_true rfl | exact (show 0 ≤ 0 by omega)) (by exact mP1 0 (by unfold kbid; rw [hk_p9]; rfl) ⟨hO, hm0, hm1, hm2, hm3, hm4, hm5, hm6, hm7, hm8, hm9, hm10⟩)
    · have _ := hx
      have c_17 : ¬ (0 = 0) := fun z => c_17 ((nI_eq (a := 0) (b := 0) (by omega) (by omega)).mpr z)
      exact absurd c_17 (by decide)

set_option maxHeartbeats 200000 in
set_option maxRecDepth 100000 in
/-- parent(strategy, isFirst) -/
theorem c_X5_parent (l : Launch) (hfl : l.stackTraces = false) (G : xG) (ad : Nat → Nat) (S : zS) (tp th : Nat) (g : Nat → Int) (wo : Nat → Int32) (z : Nat → Bool) (p9 : Int32) (b9 : Bool) (H : Heap) (hM : MX G ad S tp th g wo z H) (hW : zW S) : xMet l G yX5_parent wsX5_parent ({ frames := 2, cells := 0, slots := 0, locals := 43 } : Room) [.ref (ad 0), .int p9, .int (xb b9)] H (mPost G ad (kstrat S p9) (xpar (if b9 = true then zU S p9.toNatClampNeg else zV S p9.toNatClampNeg)) S (S)) (xNo) := by
  refine vx_ofW (cc := cX5_parent) (maxL := 3) (ret := (some .int)) (by decide) rfl ?_
  intro Pg Ev s m args below meth c s₁ B hml hout hv
  obtain ⟨rfl, hH, hC⟩ := hv
  have hx := B.exec
  have hb := B.bytes
  have hr := B.returns
  have hts := atoms_spec (ws := wsX5_parent) B.pre
  have hown : s.vm.findClass RX5 = some m.cls := findClass_of_methodNamed B.named
  have hlocks := B.notSynchronized
  rw [hH]
  have hS : va_S (xA G) s.heap H [] := by rw [← hH]; exact va_S.rf
  generalize ([] : List Loc) = locs at hS ⊢
  have hl := lv_entry [.ref (ad 0), .int p9, .int (xb b9)] (n := 3) (Nat.le_of_ble_eq_true rfl)
  rw [lg_entry_eq]
  generalize (lg_sl [.ref (ad 0), .int p9, .int (xb b9)] ++ List.replicate (3 - (lg_sl [.ref (ad 0), .int p9, .int (xb b9)]).length) Slot.unset).toArray = ls at hl ⊢
  have hl : lv_has ls 3 [(0, .ref (ad 0)), (1, .int p9), (2, .int (xb b9))] := hl
  obtain ⟨hO, hm0, hm1, hm2, hm3, hm4, hm5, hm6, hm7, hm8, hm9, hm10⟩ := id hM
  have hn20 := hW.1
  refine lv_aload_n hx hb dX5_parent_0 rfl (lv_at hl 0 rfl) ?_
  refine lv_aload_n hx hb dX5_parent_1 rfl (lv_at hl 0 rfl) ?_
  refine lv_iload_n hx hb dX5_parent_2 rfl (lv_at hl 1 rfl) ?_
  refine x_intE (vx_runV (As := [.int p9]) (rest := [.ref (ad 0)]) ⟨hx, hb, hml, hown, hts⟩ (c_X5_isStrategy l hfl G ad S tp th g wo z p9 H ⟨hO, hm0, hm1, hm2, hm3, hm4, hm5, hm6, hm7, hm8, hm9, hm10⟩ hn20) (cwV 1 hts gX5_parent_X5_isStrategy rfl rfl rfl (by decide +kernel) ⟨(Nat.le_of_ble_eq_true rfl), (Nat.le_of_ble_eq_true rfl)⟩) (xPreV hC hS hm0 (q := (RX5, TX5, 14)) rfl) rfl rfl hl.1 rfl (lv_room (Nat.le_of_ble_eq_true rfl)) dX5_parent_3 ⟨(by first | exact Nat.le_of_ble_eq_true rfl | exact (show 0 + 0 ≤ 0 by omega)), (by first | exact Nat.le_of_ble_eq_true rfl | exact (show 0 + 0 ≤ 0 by omega))⟩) hS (fun locs hS => ?_)
  refine lv_if_eq (tgt := 13) hx hb dX5_parent_6 (by decide) (fun c_1 => ?_) (fun c_1 => ?_)
  · have _ := hx
    have hk_p9 : xok p9 (zN S) = false := xb_0.mp (by first | exact c_1 | exact Classical.not_not.mp c_1)
    refine lv_iconst (v := (nI 1)) hx hb dX5_parent_13 (by decide) ?_
    have hsz := hS.1
    refine x_call (px := xNo) (vx_runV (As := [.int (nI 1)]) (rest := []) ⟨hx, hb, hml, hown, hts⟩ (c_X5_goesk l hfl G ad S tp th g wo z 1 H ⟨hO, hm0, hm1, hm2, hm3, hm4, hm5, hm6, hm7, hm8, hm9, hm10⟩ (by decide)) (cwV 1 hts gX5_parent_X5_goes rfl rfl rfl (by decide +kernel) ⟨(Nat.le_of_ble_eq_true rfl), (Nat.le_of_ble_eq_true rfl)⟩) (xPreV hC hS hm0 (q := (RX5, TX5, 14)) rfl) rfl rfl hl.1 rfl (lv_room (Nat.le_of_ble_eq_true rfl)) dX5_parent_14 ⟨(by first | exact Nat.le_of_ble_eq_true rfl | exact (show 0 + 0 ≤ 0 by omega)), (by first | exact Nat.le_of_ble_eq_true rfl | exact (show 0 + 0 ≤ 0 by omega))⟩) hS (fun _ h => h) (fun _ _ _ _ _ h => False.elim h) (fun v H_2 locs hp hz hk_3 hS => ?_)
    obtain ⟨rfl, hMM4⟩ := hp
    obtain ⟨-, hm0, hm1, hm2, hm3, hm4, hm5, hm6, hm7, hm8, hm9, hm10⟩ := id hMM4
    refine lv_if_eq (tgt := 41) hx hb dX5_parent_17 (by decide) (fun c_5 => ?_) (fun c_5 => ?_)
    · have _ := hx
      have c_5 : 0 = 0 := (nI_eq (a := 0) (b := 0) (by omega) (by omega)).mp c_5
      refine lv_iconst (v := (nI 0)) hx hb dX5_parent_41 (by decide) ?_
      exact x_iret (G := G) hx hb hr rfl dX5_parent_42 hlocks hS (by first | exact Nat.le_of_ble_eq_true rfl | exact (show 0 ≤ 0 by omega)) (by first | exact Nat.le_of_ble_eq_true rfl | exact (show 0 ≤ 0 by omega)) (by exact mP1 0 (by unfold kstrat; rw [hk_p9]; rfl) ⟨hO, hm0, hm1, hm2, hm3, hm4, hm5, hm6, hm7, hm8, hm9, hm10⟩)
    · have _ := hx
      have c_5 : ¬ (0 = 0) := fun z => c_5 ((nI_eq (a := 0) (b := 0) (by omega) (by omega)).mpr z)
      exact absurd c_5 (by decide)
  · have _ := hx
    obtain ⟨j9, hj9, rfl⟩ := xok_of (xb_1 (by first | exact c_1 | exact fun q => absurd q c_1)) (by omega)
    refine lv_iconst (v := (nI 0)) hx hb dX5_parent_9 (by decide) ?_
    refine lv_goto (tgt := 14) hx hb dX5_parent_10 (by decide) ?_
    have hsz := hS.1
    refine x_call (px := xNo) (vx_runV (As := [.int (nI 0)]) (rest := []) ⟨hx, hb, hml, hown, hts⟩ (c_X5_goes0 l hfl G ad S tp th g wo z 0 H ⟨hO, hm0, hm1, hm2, hm3, hm4, hm5, hm6, hm7, hm8, hm9, hm10⟩ rfl) (cwV 1 hts gX5_parent_X5_goes rfl rfl rfl (by decide +kernel) ⟨(Nat.le_of_ble_eq_true rfl), (Nat.le_of_ble_eq_true rfl)⟩) (xPreV hC hS hm0 (q := (RX5, TX5, 14)) rfl) rfl rfl hl.1 rfl (lv_room (Nat.le_of_ble_eq_true rfl)) dX5_parent_14 ⟨(by first | exact Nat.le_of_ble_eq_true rfl | exact (show 0 + 0 ≤ 0 by omega)), (by first | exact Nat.le_of_ble_eq_true rfl | exact (show 0 + 0 ≤ 0 by omega))⟩) hS (fun _ h => h) (fun _ _ _ _ _ h => False.elim h) (fun v H_6 locs hp hz hk_7 hS => ?_)
    obtain ⟨rfl, hMM8⟩ := hp
    obtain ⟨-, hm0, hm1, hm2, hm3, hm4, hm5, hm6, hm7, hm8, hm9, hm10⟩ := id hMM8
    refine lv_if_eq (tgt := 41) hx hb dX5_parent_17 (by decide) (fun c_9 => ?_) (fun c_9 => ?_)
    · have _ := hx
      have c_9 : 1 = 0 := (nI_eq (a := 1) (b := 0) (by omega) (by omega)).mp c_9
      exact absurd c_9 (by decide)
    · have _ := hx
      have c_9 : ¬ (1 = 0) := fun z => c_9 ((nI_eq (a := 1) (b := 0) (by omega) (by omega)).mpr z)
      refine lv_aload_n hx hb dX5_parent_20 rfl (lv_at hl 0 rfl) ?_
      refine va_get (D := xD G) (ci := 6) (v := .ref (ad 3)) (C := RX5) (T := TX5) (N := 14) hx hb hts (by decide +kernel) hown hC.1 (x1 hm0) 0 rfl rfl 3 (by decide) (hts (.fieldLink RX5 16 "BidwhistleModel" "parents" "[I") (by decide +kernel)) (fun _ h9 => h9) rfl dX5_parent_21 ?_
      refine lv_iconst (v := (nI 2)) hx hb dX5_parent_24 (by decide) ?_
      refine lv_iload_n hx hb dX5_parent_25 rfl (lv_at hl 1 rfl) ?_
      refine x_imuln (a := 2) (b := j9) hx hb dX5_parent_26 ?_
      refine lv_iload_n hx hb dX5_parent_27 rfl (lv_at hl 2 rfl) ?_
      refine lv_if_eq (tgt := 35) hx hb dX5_parent_28 (by decide) (fun c_10 => ?_) (fun c_10 => ?_)
      · have _ := hx
        refine lv_iconst (v := (nI 1)) hx hb dX5_parent_35 (by decide) ?_
        refine x_iaddn (a := (2 * j9)) (b := 1) hx hb dX5_parent_36 ?_
        refine x_iald (G := G) (j := (((2 * j9)) + 1)) hx hb hC hm3 (by omega) (by first | decide | omega) dX5_parent_37 ?_
        rw [mpa_1 (i := j9)]
        refine lv_goto (tgt := 42) hx hb dX5_parent_38 (by decide) ?_
        exact x_iret (G := G) hx hb hr rfl dX5_parent_42 hlocks hS (by first | exact Nat.le_of_ble_eq_true rfl | exact (show 0 ≤ 0 by omega)) (by first | exact Nat.le_of_ble_eq_true rfl | exact (show 0 ≤ 0 by omega)) (by exact mP0 (kstrat_j hn20 hj9) ⟨hO, hm0, hm1, hm2, hm3, hm4, hm5, hm6, hm7, hm8, hm9, hm10⟩ (by rw [nI_clamp (show j9 < 2 ^ 31 by omega), if_neg (by rw [xb_0.mp c_10]; decide)]))
      · have _ := hx
        refine lv_iconst (v := (nI 0)) hx hb dX5_parent_31 (by decide) ?_
        refine lv_goto (tgt := 36) hx hb dX5_parent_32 (by decide) ?_
        refine x_iaddn (a := (2 * j9)) (b := 0) hx hb dX5_parent_36 ?_
        refine x_iald (G := G) (j := (((2 * j9)) + 0)) hx hb hC hm3 (by omega) (by first | decide | omega) dX5_parent_37 ?_
        rw [show (((2 * j9)) + 0) = 2 * j9 from rfl]
        rw [mpa_0 (i := j9)]
        refine lv_goto (tgt := 42) hx hb dX5_parent_38 (by decide) ?_
        exact x_iret (G := G) hx hb hr rfl dX5_parent_42 hlocks hS (by first | exact Nat.le_of_ble_eq_true rfl | exact (show 0 ≤ 0 by omega)) (by first | exact Nat.le_of_ble_eq_true rfl | exact (show 0 ≤ 0 by omega)) (by exact mP0 (kstrat_j hn20 hj9) ⟨hO, hm0, hm1, hm2, hm3, hm4, hm5, hm6, hm7, hm8, hm9, hm10⟩ (by rw [nI_clamp (show j9 < 2 ^ 31 by omega), if_pos (xb_1 c_10)]))

set_option maxHeartbeats 200000 in
set_option maxRecDepth 100000 in
/-- isIn(strategy) -/
theorem c_X5_isIn (l : Launch) (hfl : l.stackTraces = false) (G : xG) (ad : Nat → Nat) (S : zS) (tp th : Nat) (g : Nat → Int) (wo : Nat → Int32) (z : Nat → Bool) (p9 : Int32) (H : Heap) (hM : MX G ad S tp th g wo z H) (hW : zW S) : xMet l G yX5_isIn wsX5_isIn ({ frames := 2, cells := 0, slots := 0, locals := 43 } : Room) [.ref (ad 0), .int p9] H (mPost G ad (kstrat S p9) (xb (zI S p9.toNatClampNeg)) S (S)) (xNo) := by
  refine vx_ofW (cc := cX5_isIn) (maxL := 2) (ret := (some .boolean)) (by decide) rfl ?_
  intro Pg Ev s m args below meth c s₁ B hml hout hv
  obtain ⟨rfl, hH, hC⟩ := hv
  have hx := B.exec
  have hb := B.bytes
  have hr := B.returns
  have hts := atoms_spec (ws := wsX5_isIn) B.pre
  have hown : s.vm.findClass RX5 = some m.cls := findClass_of_methodNamed B.named
  have hlocks := B.notSynchronized
  rw [hH]
  have hS : va_S (xA G) s.heap H [] := by rw [← hH]; exact va_S.rf
  generalize ([] : List Loc) = locs at hS ⊢
  have hl := lv_entry [.ref (ad 0), .int p9] (n := 2) (Nat.le_of_ble_eq_true rfl)
  rw [lg_entry_eq]
  generalize (lg_sl [.ref (ad 0), .int p9] ++ List.replicate (2 - (lg_sl [.ref (ad 0), .int p9]).length) Slot.unset).toArray = ls at hl ⊢
  have hl : lv_has ls 2 [(0, .ref (ad 0)), (1, .int p9)] := hl
  obtain ⟨hO, hm0, hm1, hm2, hm3, hm4, hm5, hm6, hm7, hm8, hm9, hm10⟩ := id hM
  have hn20 := hW.1
  refine lv_aload_n hx hb dX5_isIn_0 rfl (lv_at hl 0 rfl) ?_
  refine lv_aload_n hx hb dX5_isIn_1 rfl (lv_at hl 0 rfl) ?_
  refine lv_iload_n hx hb dX5_isIn_2 rfl (lv_at hl 1 rfl) ?_
  refine x_intE (vx_runV (As := [.int p9]) (rest := [.ref (ad 0)]) ⟨hx, hb, hml, hown, hts⟩ (c_X5_isStrategy l hfl G ad S tp th g wo z p9 H ⟨hO, hm0, hm1, hm2, hm3, hm4, hm5, hm6, hm7, hm8, hm9, hm10⟩ hn20) (cwV 1 hts gX5_isIn_X5_isStrategy rfl rfl rfl (by decide +kernel) ⟨(Nat.le_of_ble_eq_true rfl), (Nat.le_of_ble_eq_true rfl)⟩) (xPreV hC hS hm0 (q := (RX5, TX5, 14)) rfl) rfl rfl hl.1 rfl (lv_room (Nat.le_of_ble_eq_true rfl)) dX5_isIn_3 ⟨(by first | exact Nat.le_of_ble_eq_true rfl | exact (show 0 + 0 ≤ 0 by omega)), (by first | exact Nat.le_of_ble_eq_true rfl | exact (show 0 + 0 ≤ 0 by omega))⟩) hS (fun locs hS => ?_)
  refine lv_if_eq (tgt := 13) hx hb dX5_isIn_6 (by decide) (fun c_1 => ?_) (fun c_1 => ?_)
  · have _ := hx
    have hk_p9 : xok p9 (zN S) = false := xb_0.mp (by first | exact c_1 | exact Classical.not_not.mp c_1)
    refine lv_iconst (v := (nI 1)) hx hb dX5_isIn_13 (by decide) ?_
    have hsz := hS.1
    refine x_call (px := xNo) (vx_runV (As := [.int (nI 1)]) (rest := []) ⟨hx, hb, hml, hown, hts⟩ (c_X5_goesk l hfl G ad S tp th g wo z 1 H ⟨hO, hm0, hm1, hm2, hm3, hm4, hm5, hm6, hm7, hm8, hm9, hm10⟩ (by decide)) (cwV 1 hts gX5_isIn_X5_goes rfl rfl rfl (by decide +kernel) ⟨(Nat.le_of_ble_eq_true rfl), (Nat.le_of_ble_eq_true rfl)⟩) (xPreV hC hS hm0 (q := (RX5, TX5, 14)) rfl) rfl rfl hl.1 rfl (lv_room (Nat.le_of_ble_eq_true rfl)) dX5_isIn_14 ⟨(by first | exact Nat.le_of_ble_eq_true rfl | exact (show 0 + 0 ≤ 0 by omega)), (by first | exact Nat.le_of_ble_eq_true rfl | exact (show 0 + 0 ≤ 0 by omega))⟩) hS (fun _ h => h) (fun _ _ _ _ _ h => False.elim h) (fun v H_2 locs hp hz hk_3 hS => ?_)
    obtain ⟨rfl, hMM4⟩ := hp
    obtain ⟨-, hm0, hm1, hm2, hm3, hm4, hm5, hm6, hm7, hm8, hm9, hm10⟩ := id hMM4
    refine lv_if_eq (tgt := 33) hx hb dX5_isIn_17 (by decide) (fun c_5 => ?_) (fun c_5 => ?_)
    · have _ := hx
      have c_5 : 0 = 0 := (nI_eq (a := 0) (b := 0) (by omega) (by omega)).mp c_5
      refine lv_iconst (v := (nI 0)) hx hb dX5_isIn_33 (by decide) ?_
      exact x_iret (G := G) hx hb hr (by rfl) dX5_isIn_34 hlocks hS (by first | exact Nat.le_of_ble_eq_true rfl | exact (show 0 ≤ 0 by omega)) (by first | exact Nat.le_of_ble_eq_true rfl | exact (show 0 ≤ 0 by omega)) (by exact mP1 0 (by unfold kstrat; rw [hk_p9]; rfl) ⟨hO, hm0, hm1, hm2, hm3, hm4, hm5, hm6, hm7, hm8, hm9, hm10⟩)
    · have _ := hx
      have c_5 : ¬ (0 = 0) := fun z => c_5 ((nI_eq (a := 0) (b := 0) (by omega) (by omega)).mpr z)
      exact absurd c_5 (by decide)
  · have _ := hx
    obtain ⟨j9, hj9, rfl⟩ := xok_of (xb_1 (by first | exact c_1 | exact fun q => absurd q c_1)) (by omega)
    refine lv_iconst (v := (nI 0)) hx hb dX5_isIn_9 (by decide) ?_
    refine lv_goto (tgt := 14) hx hb dX5_isIn_10 (by decide) ?_
    have hsz := hS.1
    refine x_call (px := xNo) (vx_runV (As := [.int (nI 0)]) (rest := []) ⟨hx, hb, hml, hown, hts⟩ (c_X5_goes0 l hfl G ad S tp th g wo z 0 H ⟨hO, hm0, hm1, hm2, hm3, hm4, hm5, hm6, hm7, hm8, hm9, hm10⟩ rfl) (cwV 1 hts gX5_isIn_X5_goes rfl rfl rfl (by decide +kernel) ⟨(Nat.le_of_ble_eq_true rfl), (Nat.le_of_ble_eq_true rfl)⟩) (xPreV hC hS hm0 (q := (RX5, TX5, 14)) rfl) rfl rfl hl.1 rfl (lv_room (Nat.le_of_ble_eq_true rfl)) dX5_isIn_14 ⟨(by first | exact Nat.le_of_ble_eq_true rfl | exact (show 0 + 0 ≤ 0 by omega)), (by first | exact Nat.le_of_ble_eq_true rfl | exact (show 0 + 0 ≤ 0 by omega))⟩) hS (fun _ h => h) (fun _ _ _ _ _ h => False.elim h) (fun v H_6 locs hp hz hk_7 hS => ?_)
    obtain ⟨rfl, hMM8⟩ := hp
    obtain ⟨-, hm0, hm1, hm2, hm3, hm4, hm5, hm6, hm7, hm8, hm9, hm10⟩ := id hMM8
    refine lv_if_eq (tgt := 33) hx hb dX5_isIn_17 (by decide) (fun c_9 => ?_) (fun c_9 => ?_)
    · have _ := hx
      have c_9 : 1 = 0 := (nI_eq (a := 1) (b := 0) (by omega) (by omega)).mp c_9
      exact absurd c_9 (by decide)
    · have _ := hx
      have c_9 : ¬ (1 = 0) := fun z => c_9 ((nI_eq (a := 1) (b := 0) (by omega) (by omega)).mpr z)
      refine lv_aload_n hx hb dX5_isIn_20 rfl (lv_at hl 0 rfl) ?_
      refine va_get (D := xD G) (ci := 6) (v := .ref (ad 4)) (C := RX5) (T := TX5) (N := 14) hx hb hts (by decide +kernel) hown hC.1 (x1 hm0) 0 rfl rfl 4 (by decide) (hts (.fieldLink RX5 19 "BidwhistleModel" "isIn" "[Z") (by decide +kernel)) (fun _ h9 => h9) rfl dX5_isIn_21 ?_
      refine lv_iload_n hx hb dX5_isIn_24 rfl (lv_at hl 1 rfl) ?_
      refine x_zald (G := G) (j := j9) hx hb hC hm4 (by omega) (by first | decide | omega) dX5_isIn_25 ?_
      refine lv_if_eq (tgt := 33) hx hb dX5_isIn_26 (by decide) (fun c_10 => ?_) (fun c_10 => ?_)
      · have _ := hx
        refine lv_iconst (v := (nI 0)) hx hb dX5_isIn_33 (by decide) ?_
        exact x_iret (G := G) hx hb hr (by rfl) dX5_isIn_34 hlocks hS (by first | exact Nat.le_of_ble_eq_true rfl | exact (show 0 ≤ 0 by omega)) (by first | exact Nat.le_of_ble_eq_true rfl | exact (show 0 ≤ 0 by omega)) (by exact mP0 (kstrat_j hn20 hj9) ⟨hO, hm0, hm1, hm2, hm3, hm4, hm5, hm6, hm7, hm8, hm9, hm10⟩ (by rw [nI_clamp (show j9 < 2 ^ 31 by omega), xb_0.mp c_10]; rfl))
      · have _ := hx
        refine lv_iconst (v := (nI 1)) hx hb dX5_isIn_29 (by decide) ?_
        refine lv_goto (tgt := 34) hx hb dX5_isIn_30 (by decide) ?_
        exact x_iret (G := G) hx hb hr (by rfl) dX5_isIn_34 hlocks hS (by first | exact Nat.le_of_ble_eq_true rfl | exact (show 0 ≤ 0 by omega)) (by first | exact Nat.le_of_ble_eq_true rfl | exact (show 0 ≤ 0 by omega)) (by exact mP0 (kstrat_j hn20 hj9) ⟨hO, hm0, hm1, hm2, hm3, hm4, hm5, hm6, hm7, hm8, hm9, hm10⟩ (by rw [nI_clamp (show j9 < 2 ^ 31 by omega), xb_1 c_10]; rfl))

theorem msame_1 {S : zS} {i j q : Nat} (h : xsame (fun x y : Int => decide (x = y)) (xbid (zP S i) (zL S i)) (xbid (zP S j) (zL S j)) q = true) (h2 : zbid S i q = zbid S j q) : xsame (fun x y : Int => decide (x = y)) (xbid (zP S i) (zL S i)) (xbid (zP S j) (zL S j)) (q + 1) = true := by
  unfold xsame
  rw [h, decide_eq_true (zbid_xbid h2)]; rfl
theorem msame_0 {S : zS} {i j q : Nat} (h2 : ¬ zbid S i q = zbid S j q) : xsame (fun x y : Int => decide (x = y)) (xbid (zP S i) (zL S i)) (xbid (zP S j) (zL S j)) (q + 1) = false := by
  unfold xsame
  rw [decide_eq_false (fun z => h2 (by unfold zbid; rw [z])), Bool.and_false]
theorem msame_le {S : zS} {i j q : Nat} (h : xsame (fun x y : Int => decide (x = y)) (xbid (zP S i) (zL S i)) (xbid (zP S j) (zL S j)) q = false) (hq : q ≤ 100) : zalike S i j = false := by
  cases c : zalike S i j with
  | false => rfl
  | true =>
    unfold zalike at c
    rw [xsame_iff.mpr (fun k hk => xsame_iff.mp c k (by omega))] at h
    cases h
set_option maxHeartbeats 200000 in
set_option maxRecDepth 100000 in
/-- alike(strategy) -/
theorem c_X5_alike (l : Launch) (hfl : l.stackTraces = false) (G : xG) (ad : Nat → Nat) (S : zS) (tp th : Nat) (g : Nat → Int) (wo : Nat → Int32) (z : Nat → Bool) (p9 : Int32) (H : Heap) (hM : MX G ad S tp th g wo z H) (hW : zW S) : xMet l G yX5_alike wsX5_alike ({ frames := 3, cells := 0, slots := 0, locals := 69 } : Room) [.ref (ad 0), .int p9] H (mPost G ad (kstrat S p9) (nI (xct (fun j => zalike S j p9.toNatClampNeg) (zN S))) S (S)) (xNo) := by
  refine vx_ofW (cc := cX5_alike) (maxL := 6) (ret := (some .int)) (by decide) rfl ?_
  intro Pg Ev s m args below meth c s₁ B hml hout hv
  obtain ⟨rfl, hH, hC⟩ := hv
  have hx := B.exec
  have hb := B.bytes
  have hr := B.returns
  have hts := atoms_spec (ws := wsX5_alike) B.pre
  have hown : s.vm.findClass RX5 = some m.cls := findClass_of_methodNamed B.named
  have hlocks := B.notSynchronized
  rw [hH]
  have hS : va_S (xA G) s.heap H [] := by rw [← hH]; exact va_S.rf
  generalize ([] : List Loc) = locs at hS ⊢
  have hl := lv_entry [.ref (ad 0), .int p9] (n := 6) (Nat.le_of_ble_eq_true rfl)
  rw [lg_entry_eq]
  generalize (lg_sl [.ref (ad 0), .int p9] ++ List.replicate (6 - (lg_sl [.ref (ad 0), .int p9]).length) Slot.unset).toArray = ls at hl ⊢
  have hl : lv_has ls 6 [(0, .ref (ad 0)), (1, .int p9)] := hl
  obtain ⟨hO, hm0, hm1, hm2, hm3, hm4, hm5, hm6, hm7, hm8, hm9, hm10⟩ := id hM
  have hn20 := hW.1
  refine lv_aload_n hx hb dX5_alike_0 rfl (lv_at hl 0 rfl) ?_
  refine lv_aload_n hx hb dX5_alike_1 rfl (lv_at hl 0 rfl) ?_
  refine lv_iload_n hx hb dX5_alike_2 rfl (lv_at hl 1 rfl) ?_
  refine x_intE (vx_runV (As := [.int p9]) (rest := [.ref (ad 0)]) ⟨hx, hb, hml, hown, hts⟩ (c_X5_isStrategy l hfl G ad S tp th g wo z p9 H ⟨hO, hm0, hm1, hm2, hm3, hm4, hm5, hm6, hm7, hm8, hm9, hm10⟩ hn20) (cwV 1 hts gX5_alike_X5_isStrategy rfl rfl rfl (by decide +kernel) ⟨(Nat.le_of_ble_eq_true rfl), (Nat.le_of_ble_eq_true rfl)⟩) (xPreV hC hS hm0 (q := (RX5, TX5, 14)) rfl) rfl rfl hl.1 rfl (lv_room (Nat.le_of_ble_eq_true rfl)) dX5_alike_3 ⟨(by first | exact Nat.le_of_ble_eq_true rfl | exact (show 0 + 0 ≤ 0 by omega)), (by first | exact Nat.le_of_ble_eq_true rfl | exact (show 0 + 0 ≤ 0 by omega))⟩) hS (fun locs hS => ?_)
  refine lv_if_eq (tgt := 13) hx hb dX5_alike_6 (by decide) (fun c_1 => ?_) (fun c_1 => ?_)
  · have _ := hx
    have hk_p9 : xok p9 (zN S) = false := xb_0.mp (by first | exact c_1 | exact Classical.not_not.mp c_1)
    refine lv_iconst (v := (nI 1)) hx hb dX5_alike_13 (by decide) ?_
    have hsz := hS.1
    refine x_call (px := xNo) (vx_runV (As := [.int (nI 1)]) (rest := []) ⟨hx, hb, hml, hown, hts⟩ (c_X5_goesk l hfl G ad S tp th g wo z 1 H ⟨hO, hm0, hm1, hm2, hm3, hm4, hm5, hm6, hm7, hm8, hm9, hm10⟩ (by decide)) (cwV 1 hts gX5_alike_X5_goes rfl rfl rfl (by decide +kernel) ⟨(Nat.le_of_ble_eq_true rfl), (Nat.le_of_ble_eq_true rfl)⟩) (xPreV hC hS hm0 (q := (RX5, TX5, 14)) rfl) rfl rfl hl.1 rfl (lv_room (Nat.le_of_ble_eq_true rfl)) dX5_alike_14 ⟨(by first | exact Nat.le_of_ble_eq_true rfl | exact (show 0 + 0 ≤ 0 by omega)), (by first | exact Nat.le_of_ble_eq_true rfl | exact (show 0 + 0 ≤ 0 by omega))⟩) hS (fun _ h => h) (fun _ _ _ _ _ h => False.elim h) (fun v H_2 locs hp hz hk_3 hS => ?_)
    obtain ⟨rfl, hMM4⟩ := hp
    obtain ⟨-, hm0, hm1, hm2, hm3, hm4, hm5, hm6, hm7, hm8, hm9, hm10⟩ := id hMM4
    refine lv_if_ne (tgt := 22) hx hb dX5_alike_17 (by decide) (fun c_5 => ?_) (fun c_5 => ?_)
    · have _ := hx
      have c_5 : ¬ (0 = 0) := fun z => c_5 ((nI_eq (a := 0) (b := 0) (by omega) (by omega)).mpr z)
      exact absurd c_5 (by decide)
    · have _ := hx
      have c_5 : 0 = 0 := (nI_eq (a := 0) (b := 0) (by omega) (by omega)).mp c_5
      refine lv_iconst (v := (nI 0)) hx hb dX5_alike_20 (by decide) ?_
      exact x_iret (G := G) hx hb hr rfl dX5_alike_21 hlocks hS (by first | exact Nat.le_of_ble_eq_true rfl | exact (show 0 ≤ 0 by omega)) (by first | exact Nat.le_of_ble_eq_true rfl | exact (show 0 ≤ 0 by omega)) (by exact mP1 0 (by unfold kstrat; rw [hk_p9]; rfl) ⟨hO, hm0, hm1, hm2, hm3, hm4, hm5, hm6, hm7, hm8, hm9, hm10⟩)
  · have _ := hx
    obtain ⟨j9, hj9, rfl⟩ := xok_of (xb_1 (by first | exact c_1 | exact fun q => absurd q c_1)) (by omega)
    refine lv_iconst (v := (nI 0)) hx hb dX5_alike_9 (by decide) ?_
    refine lv_goto (tgt := 14) hx hb dX5_alike_10 (by decide) ?_
    have hsz := hS.1
    refine x_call (px := xNo) (vx_runV (As := [.int (nI 0)]) (rest := []) ⟨hx, hb, hml, hown, hts⟩ (c_X5_goes0 l hfl G ad S tp th g wo z 0 H ⟨hO, hm0, hm1, hm2, hm3, hm4, hm5, hm6, hm7, hm8, hm9, hm10⟩ rfl) (cwV 1 hts gX5_alike_X5_goes rfl rfl rfl (by decide +kernel) ⟨(Nat.le_of_ble_eq_true rfl), (Nat.le_of_ble_eq_true rfl)⟩) (xPreV hC hS hm0 (q := (RX5, TX5, 14)) rfl) rfl rfl hl.1 rfl (lv_room (Nat.le_of_ble_eq_true rfl)) dX5_alike_14 ⟨(by first | exact Nat.le_of_ble_eq_true rfl | exact (show 0 + 0 ≤ 0 by omega)), (by first | exact Nat.le_of_ble_eq_true rfl | exact (show 0 + 0 ≤ 0 by omega))⟩) hS (fun _ h => h) (fun _ _ _ _ _ h => False.elim h) (fun v H_6 locs hp hz hk_7 hS => ?_)
    obtain ⟨rfl, hMM8⟩ := hp
    obtain ⟨-, hm0, hm1, hm2, hm3, hm4, hm5, hm6, hm7, hm8, hm9, hm10⟩ := id hMM8
    refine lv_if_ne (tgt := 22) hx hb dX5_alike_17 (by decide) (fun c_9 => ?_) (fun c_9 => ?_)
    · have _ := hx
      have c_9 : ¬ (1 = 0) := fun z => c_9 ((nI_eq (a := 1) (b := 0) (by omega) (by omega)).mpr z)
      refine lv_iconst (v := (nI 0)) hx hb dX5_alike_22 (by decide) ?_
      refine lv_istore_n (lv' := [(2, .int (nI 0)), (0, .ref (ad 0)), (1, .int (nI j9))]) hx hb dX5_alike_23 rfl hl (by decide) rfl (fun ls hl => ?_)
      refine lv_iconst (v := (nI 0)) hx hb dX5_alike_24 (by decide) ?_
      refine lv_istore_n (lv' := [(3, .int (nI 0)), (2, .int (nI 0)), (0, .ref (ad 0)), (1, .int (nI j9))]) hx hb dX5_alike_25 rfl hl (by decide) rfl (fun ls hl => ?_)
      have L : ∀ (kL : Nat) (i : Nat) (e9 : Nat) (tp8 : Nat) (g8 : Nat → Int), (i ≤ zN S) → (e9 = xct (fun j => zalike S j j9) i) → zN S - i < kL → ∀ (HL : Heap), (MX G ad S tp8 0 g8 wo z HL) → ∀ (locs : List Loc), va_S (xA G) s.heap HL locs → ∀ ls : Array Slot, lv_has ls 6 [(0, .ref (ad 0)), (1, .int (nI j9)), (2, .int (nI e9)), (3, .int (nI i))] → W Pg l Ev (headSpec wsX5_alike ({ frames := 3, cells := 0, slots := 0, locals := 69 } : Room)).room s m ([.ref (ad 0), .int (nI j9)] : List Value).toArray below meth c HL locs (0) (0) (vx_MQ below (xQ G (mPost G ad (kstrat S (nI j9)) (nI (xct (fun j => zalike S j (nI j9).toNatClampNeg) (zN S))) S (S))) (xX G (xNo)) ([.ref (ad 0), .int (nI j9)] : List Value).toArray s ({ frames := 3, cells := 0, slots := 0, locals := 69 } : Room).cells ({ frames := 3, cells := 0, slots := 0, locals := 69 } : Room).slots (xA G)) (F0 m 26 ls []) := by
        intro kL
        induction kL with
        | zero => intro i e9 tp8 g8 hi he9 hk; exact absurd hk (Nat.not_lt_zero _)
        | succ kL ihL =>
          intro i e9 tp8 g8 hi he9 hk HL hM8 locs hS ls hl
          obtain ⟨-, hm0, hm1, hm2, hm3, hm4, hm5, hm6, hm7, hm8, hm9, hm10⟩ := id hM8
          refine lv_iload_n hx hb dX5_alike_26 rfl (lv_at hl 3 rfl) ?_
          refine lv_aload_n hx hb dX5_alike_27 rfl (lv_at hl 0 rfl) ?_
          refine va_get (D := xD G) (ci := 6) (v := .int (nI (zN S))) (C := RX5) (T := TX5) (N := 14) hx hb hts (by decide +kernel) hown hC.1 (x1 hm0) 0 rfl rfl 2 (by decide) (hts (.fieldLink RX5 45 "BidwhistleModel" "stored" "I") (by decide +kernel)) (fun _ h9 => h9) rfl dX5_alike_28 ?_
          refine lv_icmp_ge (tgt := 101) hx hb dX5_alike_31 (by decide) (fun c_10 => ?_) (fun c_10 => ?_)
          · have _ := hx
            have c_10 : (zN S) ≤ i := (nI_leI (a := (zN S)) (b := i) (by omega) (by omega)).mp c_10
            refine lv_iload_n hx hb dX5_alike_101 rfl (lv_at hl 2 rfl) ?_
            exact x_iret (G := G) hx hb hr rfl dX5_alike_102 hlocks hS (by first | exact Nat.le_of_ble_eq_true rfl | exact (show 0 ≤ 0 by omega)) (by first | exact Nat.le_of_ble_eq_true rfl | exact (show 0 ≤ 0 by omega)) (by exact mP0 (kstrat_j hn20 hj9) ⟨hO, hm0, hm1, hm2, hm3, hm4, hm5, hm6, hm7, hm8, hm9, hm10⟩ (by rw [nI_clamp (show j9 < 2 ^ 31 by omega), he9, show i = zN S by omega]))
          · have _ := hx
            have c_10 : ¬ ((zN S) ≤ i) := fun z => c_10 ((nI_leI (a := (zN S)) (b := i) (by omega) (by omega)).mpr z)
            refine lv_iconst (v := (nI 1)) hx hb dX5_alike_34 (by decide) ?_
            refine lv_istore (lv' := [(4, .int (nI 1)), (0, .ref (ad 0)), (1, .int (nI j9)), (2, .int (nI e9)), (3, .int (nI i))]) hx hb dX5_alike_35 hl (by decide) rfl (fun ls hl => ?_)
            refine lv_iconst (v := (nI 0)) hx hb dX5_alike_37 (by decide) ?_
            refine lv_istore (lv' := [(5, .int (nI 0)), (4, .int (nI 1)), (0, .ref (ad 0)), (1, .int (nI j9)), (2, .int (nI e9)), (3, .int (nI i))]) hx hb dX5_alike_38 hl (by decide) rfl (fun ls hl => ?_)
            have K : ∀ (kL : Nat) (q : Nat) (b9 : Bool) (tp7 : Nat) (g7 : Nat → Int), (q ≤ 100) → (b9 = xsame (fun x y : Int => decide (x = y)) (xbid (zP S i) (zL S i)) (xbid (zP S j9) (zL S j9)) q) → 100 - q < kL → ∀ (HL : Heap), (MX G ad S tp7 0 g7 wo z HL) → ∀ (locs : List Loc), va_S (xA G) s.heap HL locs → ∀ ls : Array Slot, lv_has ls 6 [(0, .ref (ad 0)), (1, .int (nI j9)), (2, .int (nI e9)), (3, .int (nI i)), (4, .int (xb b9)), (5, .int (nI q))] → W Pg l Ev (headSpec wsX5_alike ({ frames := 3, cells := 0, slots := 0, locals := 69 } : Room)).room s m ([.ref (ad 0), .int (nI j9)] : List Value).toArray below meth c HL locs (0) (0) (vx_MQ below (xQ G (mPost G ad (kstrat S (nI j9)) (nI (xct (fun j => zalike S j (nI j9).toNatClampNeg) (zN S))) S (S))) (xX G (xNo)) ([.ref (ad 0), .int (nI j9)] : List Value).toArray s ({ frames := 3, cells := 0, slots := 0, locals := 69 } : Room).cells ({ frames := 3, cells := 0, slots := 0, locals := 69 } : Room).slots (xA G)) (F0 m 40 ls []) := by
              intro kL
              induction kL with
              | zero => intro q b9 tp7 g7 hq hb9 hk; exact absurd hk (Nat.not_lt_zero _)
              | succ kL ihK =>
                intro q b9 tp7 g7 hq hb9 hk HL hM9 locs hS ls hl
                obtain ⟨-, hm0, hm1, hm2, hm3, hm4, hm5, hm6, hm7, hm8, hm9, hm10⟩ := id hM9
                refine lv_iload hx hb dX5_alike_40 (lv_at hl 5 rfl) ?_
                refine lv_bipush (v := (nI 100)) hx hb dX5_alike_42 (by decide) ?_
                refine lv_icmp_ge (tgt := 82) hx hb dX5_alike_44 (by decide) (fun c_11 => ?_) (fun c_11 => ?_)
                · have _ := hx
                  have c_11 : 100 ≤ q := (nI_leI (a := 100) (b := q) (by omega) (by omega)).mp c_11
                  refine lv_iload_n hx hb dX5_alike_82 rfl (lv_at hl 2 rfl) ?_
                  refine lv_iload hx hb dX5_alike_83 (lv_at hl 4 rfl) ?_
                  refine lv_if_eq (tgt := 92) hx hb dX5_alike_85 (by decide) (fun c_12 => ?_) (fun c_12 => ?_)
                  · have _ := hx
                    refine lv_iconst (v := (nI 0)) hx hb dX5_alike_92 (by decide) ?_
                    refine x_iaddn (a := e9) (b := 0) hx hb dX5_alike_93 ?_
                    refine lv_istore_n (lv' := [(2, .int (nI (e9 + 0))), (0, .ref (ad 0)), (1, .int (nI j9)), (3, .int (nI i)), (4, .int (xb b9)), (5, .int (nI q))]) hx hb dX5_alike_94 rfl hl (by decide) rfl (fun ls hl => ?_)
                    refine lv_iinc (v := (nI (i + 1))) (lv' := [(3, .int (nI (i + 1))), (2, .int (nI (e9 + 0))), (0, .ref (ad 0)), (1, .int (nI j9)), (4, .int (xb b9)), (5, .int (nI q))]) hx hb dX5_alike_95 hl (k := 3) rfl (xinc (by decide)) (by decide) rfl (fun ls hl => ?_)
                    refine lv_goto (tgt := 26) hx hb dX5_alike_98 (by decide) ?_
                    exact ihL (i + 1) (e9 + 0) (tp7) (g7) (by omega) (by rw [he9]; exact (xct_d0 (p := fun j => zalike S j j9) (fun z => by have e := (show zalike S i j9 = false from msame_le (hb9.symm.trans (xb_0.mp c_12)) hq); have z : zalike S i j9 = true := z; rw [e] at z; cases z)).symm) (by omega) HL ⟨hO, hm0, hm1, hm2, hm3, hm4, hm5, hm6, hm7, hm8, hm9, hm10⟩ _ hS ls (lv_sub hl [2, 3, 1, 0] rfl)
                  · have _ := hx
                    refine lv_iconst (v := (nI 1)) hx hb dX5_alike_88 (by decide) ?_
                    refine lv_goto (tgt := 93) hx hb dX5_alike_89 (by decide) ?_
                    refine x_iaddn (a := e9) (b := 1) hx hb dX5_alike_93 ?_
                    refine lv_istore_n (lv' := [(2, .int (nI (e9 + 1))), (0, .ref (ad 0)), (1, .int (nI j9)), (3, .int (nI i)), (4, .int (xb b9)), (5, .int (nI q))]) hx hb dX5_alike_94 rfl hl (by decide) rfl (fun ls hl => ?_)
                    refine lv_iinc (v := (nI (i + 1))) (lv' := [(3, .int (nI (i + 1))), (2, .int (nI (e9 + 1))), (0, .ref (ad 0)), (1, .int (nI j9)), (4, .int (xb b9)), (5, .int (nI q))]) hx hb dX5_alike_95 hl (k := 3) rfl (xinc (by decide)) (by decide) rfl (fun ls hl => ?_)
                    refine lv_goto (tgt := 26) hx hb dX5_alike_98 (by decide) ?_
                    exact ihL (i + 1) (e9 + 1) (tp7) (g7) (by omega) (by rw [he9]; exact (xct_d1 (p := fun j => zalike S j j9) (show zalike S i j9 = true from by have e := hb9.symm.trans (xb_1 c_12); rw [show q = 100 by omega] at e; exact e)).symm) (by omega) HL ⟨hO, hm0, hm1, hm2, hm3, hm4, hm5, hm6, hm7, hm8, hm9, hm10⟩ _ hS ls (lv_sub hl [2, 3, 1, 0] rfl)
                · have _ := hx
                  have c_11 : ¬ (100 ≤ q) := fun z => c_11 ((nI_leI (a := 100) (b := q) (by omega) (by omega)).mpr z)
                  refine lv_iload hx hb dX5_alike_47 (lv_at hl 4 rfl) ?_
                  refine lv_if_eq (tgt := 82) hx hb dX5_alike_49 (by decide) (fun c_13 => ?_) (fun c_13 => ?_)
                  · have _ := hx
                    refine lv_iload_n hx hb dX5_alike_82 rfl (lv_at hl 2 rfl) ?_
                    refine lv_iload hx hb dX5_alike_83 (lv_at hl 4 rfl) ?_
                    refine lv_if_eq (tgt := 92) hx hb dX5_alike_85 (by decide) (fun c_14 => ?_) (fun c_14 => ?_)
                    · have _ := hx
                      refine lv_iconst (v := (nI 0)) hx hb dX5_alike_92 (by decide) ?_
                      refine x_iaddn (a := e9) (b := 0) hx hb dX5_alike_93 ?_
                      refine lv_istore_n (lv' := [(2, .int (nI (e9 + 0))), (0, .ref (ad 0)), (1, .int (nI j9)), (3, .int (nI i)), (4, .int (xb b9)), (5, .int (nI q))]) hx hb dX5_alike_94 rfl hl (by decide) rfl (fun ls hl => ?_)
                      refine lv_iinc (v := (nI (i + 1))) (lv' := [(3, .int (nI (i + 1))), (2, .int (nI (e9 + 0))), (0, .ref (ad 0)), (1, .int (nI j9)), (4, .int (xb b9)), (5, .int (nI q))]) hx hb dX5_alike_95 hl (k := 3) rfl (xinc (by decide)) (by decide) rfl (fun ls hl => ?_)
                      refine lv_goto (tgt := 26) hx hb dX5_alike_98 (by decide) ?_
                      exact ihL (i + 1) (e9 + 0) (tp7) (g7) (by omega) (by rw [he9]; exact (xct_d0 (p := fun j => zalike S j j9) (fun z => by have e := (show zalike S i j9 = false from msame_le (hb9.symm.trans (xb_0.mp c_14)) hq); have z : zalike S i j9 = true := z; rw [e] at z; cases z)).symm) (by omega) HL ⟨hO, hm0, hm1, hm2, hm3, hm4, hm5, hm6, hm7, hm8, hm9, hm10⟩ _ hS ls (lv_sub hl [2, 3, 1, 0] rfl)
                    · have _ := hx
                      exact absurd (xb_0.mp c_13) (by rw [xb_1 c_14]; decide)
                  · have _ := hx
                    refine lv_aload_n hx hb dX5_alike_52 rfl (lv_at hl 0 rfl) ?_
                    refine lv_iload_n hx hb dX5_alike_53 rfl (lv_at hl 3 rfl) ?_
                    refine lv_iload hx hb dX5_alike_54 (lv_at hl 5 rfl) ?_
                    have hsz := hS.1
                    refine x_call (px := xNo) (vx_runV (As := [.int (nI i), .int (nI q)]) (rest := []) ⟨hx, hb, hml, hown, hts⟩ (c_X5_bidOf l hfl G ad S tp7 0 g7 wo z i q HL ⟨hO, hm0, hm1, hm2, hm3, hm4, hm5, hm6, hm7, hm8, hm9, hm10⟩ hW (by omega) (by omega)) (cwV 2 hts gX5_alike_X5_bidOf rfl rfl rfl (by decide +kernel) ⟨(Nat.le_of_ble_eq_true rfl), (Nat.le_of_ble_eq_true rfl)⟩) (xPreV hC hS hm0 (q := (RX5, TX5, 14)) rfl) rfl rfl hl.1 rfl (lv_room (Nat.le_of_ble_eq_true rfl)) dX5_alike_56 ⟨(by first | exact Nat.le_of_ble_eq_true rfl | exact (show 0 + 0 ≤ 0 by omega)), (by first | exact Nat.le_of_ble_eq_true rfl | exact (show 0 + 0 ≤ 0 by omega))⟩) hS (fun _ h => h) (fun _ _ _ _ _ h => False.elim h) (fun v H_15 locs hp hz hk_16 hS => ?_)
                    obtain ⟨rfl, tp17, g17, hMM17⟩ := hp
                    obtain ⟨-, hm0, hm1, hm2, hm3, hm4, hm5, hm6, hm7, hm8, hm9, hm10⟩ := id hMM17
                    refine lv_aload_n hx hb dX5_alike_59 rfl (lv_at hl 0 rfl) ?_
                    refine lv_iload_n hx hb dX5_alike_60 rfl (lv_at hl 1 rfl) ?_
                    refine lv_iload hx hb dX5_alike_61 (lv_at hl 5 rfl) ?_
                    have hsz := hS.1
                    refine x_call (px := xNo) (vx_runV (As := [.int (nI j9), .int (nI q)]) (rest := [.int (nI (zbid S i q))]) ⟨hx, hb, hml, hown, hts⟩ (c_X5_bidOf l hfl G ad S tp17 0 g17 wo z j9 q H_15 ⟨hO, hm0, hm1, hm2, hm3, hm4, hm5, hm6, hm7, hm8, hm9, hm10⟩ hW (by omega) (by omega)) (cwV 2 hts gX5_alike_X5_bidOf rfl rfl rfl (by decide +kernel) ⟨(Nat.le_of_ble_eq_true rfl), (Nat.le_of_ble_eq_true rfl)⟩) (xPreV hC hS hm0 (q := (RX5, TX5, 14)) rfl) rfl rfl hl.1 rfl (lv_room (Nat.le_of_ble_eq_true rfl)) dX5_alike_63 ⟨(by first | exact Nat.le_of_ble_eq_true rfl | exact (show 0 + 0 ≤ 0 by omega)), (by first | exact Nat.le_of_ble_eq_true rfl | exact (show 0 + 0 ≤ 0 by omega))⟩) hS (fun _ h => h) (fun _ _ _ _ _ h => False.elim h) (fun v H_18 locs hp hz hk_19 hS => ?_)
                    obtain ⟨rfl, tp20, g20, hMM20⟩ := hp
                    obtain ⟨-, hm0, hm1, hm2, hm3, hm4, hm5, hm6, hm7, hm8, hm9, hm10⟩ := id hMM20
                    refine lv_icmp_ne (tgt := 73) hx hb dX5_alike_66 (by decide) (fun c_21 => ?_) (fun c_21 => ?_)
                    · have _ := hx
                      have c_21 : ¬ ((zbid S i q) = (zbid S j9 q)) := fun z => c_21 ((nI_eq (a := (zbid S i q)) (b := (zbid S j9 q)) (by first | omega | (have h8 := zbid_in S i q; have h9 := zbid_in S j9 q; omega)) (by first | omega | (have h8 := zbid_in S i q; have h9 := zbid_in S j9 q; omega))).mpr z)
                      refine lv_iconst (v := (nI 0)) hx hb dX5_alike_73 (by decide) ?_
                      refine lv_istore (lv' := [(4, .int (nI 0)), (0, .ref (ad 0)), (1, .int (nI j9)), (2, .int (nI e9)), (3, .int (nI i)), (5, .int (nI q))]) hx hb dX5_alike_74 hl (by decide) rfl (fun ls hl => ?_)
                      refine lv_iinc (v := (nI (q + 1))) (lv' := [(5, .int (nI (q + 1))), (4, .int (nI 0)), (0, .ref (ad 0)), (1, .int (nI j9)), (2, .int (nI e9)), (3, .int (nI i))]) hx hb dX5_alike_76 hl (k := 5) rfl (xinc (by decide)) (by decide) rfl (fun ls hl => ?_)
                      refine lv_goto (tgt := 40) hx hb dX5_alike_79 (by decide) ?_
                      exact ihK (q + 1) (false) (tp20) (g20) (by omega) ((msame_0 c_21).symm) (by omega) H_18 ⟨hO, hm0, hm1, hm2, hm3, hm4, hm5, hm6, hm7, hm8, hm9, hm10⟩ _ hS ls (lv_sub hl [2, 3, 4, 5, 1, 0] rfl)
                    · have _ := hx
                      have c_21 : (zbid S i q) = (zbid S j9 q) := (nI_eq (a := (zbid S i q)) (b := (zbid S j9 q)) (by first | omega | (have h8 := zbid_in S i q; have h9 := zbid_in S j9 q; omega)) (by first | omega | (have h8 := zbid_in S i q; have h9 := zbid_in S j9 q; omega))).mp c_21
                      refine lv_iconst (v := (nI 1)) hx hb dX5_alike_69 (by decide) ?_
                      refine lv_goto (tgt := 74) hx hb dX5_alike_70 (by decide) ?_
                      refine lv_istore (lv' := [(4, .int (nI 1)), (0, .ref (ad 0)), (1, .int (nI j9)), (2, .int (nI e9)), (3, .int (nI i)), (5, .int (nI q))]) hx hb dX5_alike_74 hl (by decide) rfl (fun ls hl => ?_)
                      refine lv_iinc (v := (nI (q + 1))) (lv' := [(5, .int (nI (q + 1))), (4, .int (nI 1)), (0, .ref (ad 0)), (1, .int (nI j9)), (2, .int (nI e9)), (3, .int (nI i))]) hx hb dX5_alike_76 hl (k := 5) rfl (xinc (by decide)) (by decide) rfl (fun ls hl => ?_)
                      refine lv_goto (tgt := 40) hx hb dX5_alike_79 (by decide) ?_
                      exact ihK (q + 1) (true) (tp20) (g20) (by omega) ((msame_1 (hb9.symm.trans (xb_1 c_13)) (by first | exact c_21 | exact Classical.not_not.mp c_21)).symm) (by omega) H_18 ⟨hO, hm0, hm1, hm2, hm3, hm4, hm5, hm6, hm7, hm8, hm9, hm10⟩ _ hS ls (lv_sub hl [2, 3, 4, 5, 1, 0] rfl)
            exact K _ (0) (true) (tp8) (g8) (Nat.zero_le _) (rfl) (Nat.lt_succ_self _) HL ⟨hO, hm0, hm1, hm2, hm3, hm4, hm5, hm6, hm7, hm8, hm9, hm10⟩ _ hS ls (lv_sub hl [2, 3, 4, 5, 1, 0] rfl)
      exact L _ (0) (0) (tp) (g) (Nat.zero_le _) (rfl) (Nat.lt_succ_self _) H_6 ⟨hO, hm0, hm1, hm2, hm3, hm4, hm5, hm6, hm7, hm8, hm9, hm10⟩ _ hS ls (lv_sub hl [2, 3, 1, 0] rfl)
    · have _ := hx
      have c_9 : 1 = 0 := (nI_eq (a := 1) (b := 0) (by omega) (by omega)).mp c_9
      exact absurd c_9 (by decide)

set_option maxHeartbeats 200000 in
set_option maxRecDepth 100000 in
/-- join(strategy) -/
theorem c_X5_join (l : Launch) (hfl : l.stackTraces = false) (G : xG) (ad : Nat → Nat) (S : zS) (tp th : Nat) (g : Nat → Int) (wo : Nat → Int32) (z : Nat → Bool) (p9 : Int32) (H : Heap) (hM : MX G ad S tp th g wo z H) (hW : zW S) : xMet l G yX5_join wsX5_join ({ frames := 2, cells := 0, slots := 0, locals := 47 } : Room) [.ref (ad 0), .int p9] H (mPost G ad (kjoin S p9) (nI (xct (zI (zpool S p9.toNatClampNeg true)) (zN S))) S (zpool S p9.toNatClampNeg true)) (xNo) := by
  refine vx_ofW (cc := cX5_join) (maxL := 2) (ret := (some .int)) (by decide) rfl ?_
  intro Pg Ev s m args below meth c s₁ B hml hout hv
  obtain ⟨rfl, hH, hC⟩ := hv
  have hx := B.exec
  have hb := B.bytes
  have hr := B.returns
  have hts := atoms_spec (ws := wsX5_join) B.pre
  have hown : s.vm.findClass RX5 = some m.cls := findClass_of_methodNamed B.named
  have hlocks := B.notSynchronized
  rw [hH]
  have hS : va_S (xA G) s.heap H [] := by rw [← hH]; exact va_S.rf
  generalize ([] : List Loc) = locs at hS ⊢
  have hl := lv_entry [.ref (ad 0), .int p9] (n := 2) (Nat.le_of_ble_eq_true rfl)
  rw [lg_entry_eq]
  generalize (lg_sl [.ref (ad 0), .int p9] ++ List.replicate (2 - (lg_sl [.ref (ad 0), .int p9]).length) Slot.unset).toArray = ls at hl ⊢
  have hl : lv_has ls 2 [(0, .ref (ad 0)), (1, .int p9)] := hl
  obtain ⟨hO, hm0, hm1, hm2, hm3, hm4, hm5, hm6, hm7, hm8, hm9, hm10⟩ := id hM
  have hn20 := hW.1
  have hxl := xct_le (zI S) (zN S)
  refine lv_aload_n hx hb dX5_join_0 rfl (lv_at hl 0 rfl) ?_
  refine lv_aload_n hx hb dX5_join_1 rfl (lv_at hl 0 rfl) ?_
  refine lv_iload_n hx hb dX5_join_2 rfl (lv_at hl 1 rfl) ?_
  refine x_intE (vx_runV (As := [.int p9]) (rest := [.ref (ad 0)]) ⟨hx, hb, hml, hown, hts⟩ (c_X5_isStrategy l hfl G ad S tp th g wo z p9 H ⟨hO, hm0, hm1, hm2, hm3, hm4, hm5, hm6, hm7, hm8, hm9, hm10⟩ hn20) (cwV 1 hts gX5_join_X5_isStrategy rfl rfl rfl (by decide +kernel) ⟨(Nat.le_of_ble_eq_true rfl), (Nat.le_of_ble_eq_true rfl)⟩) (xPreV hC hS hm0 (q := (RX5, TX5, 14)) rfl) rfl rfl hl.1 rfl (lv_room (Nat.le_of_ble_eq_true rfl)) dX5_join_3 ⟨(by first | exact Nat.le_of_ble_eq_true rfl | exact (show 0 + 0 ≤ 0 by omega)), (by first | exact Nat.le_of_ble_eq_true rfl | exact (show 0 + 0 ≤ 0 by omega))⟩) hS (fun locs hS => ?_)
  refine lv_if_ne (tgt := 13) hx hb dX5_join_6 (by decide) (fun c_1 => ?_) (fun c_1 => ?_)
  · have _ := hx
    obtain ⟨j9, hj9, rfl⟩ := xok_of (xb_1 (by first | exact c_1 | exact fun q => absurd q c_1)) (by omega)
    refine lv_aload_n hx hb dX5_join_13 rfl (lv_at hl 0 rfl) ?_
    refine va_get (D := xD G) (ci := 6) (v := .ref (ad 4)) (C := RX5) (T := TX5) (N := 14) hx hb hts (by decide +kernel) hown hC.1 (x1 hm0) 0 rfl rfl 4 (by decide) (hts (.fieldLink RX5 19 "BidwhistleModel" "isIn" "[Z") (by decide +kernel)) (fun _ h9 => h9) rfl dX5_join_14 ?_
    refine lv_iload_n hx hb dX5_join_17 rfl (lv_at hl 1 rfl) ?_
    refine x_zald (G := G) (j := j9) hx hb hC hm4 (by omega) (by first | decide | omega) dX5_join_18 ?_
    refine lv_if_ne (tgt := 39) hx hb dX5_join_19 (by decide) (fun c_2 => ?_) (fun c_2 => ?_)
    · have _ := hx
      have hin : zI S j9 = true := xb_1 c_2
      refine lv_iconst (v := (nI 2)) hx hb dX5_join_39 (by decide) ?_
      refine lv_goto (tgt := 44) hx hb dX5_join_40 (by decide) ?_
      have hsz := hS.1
      refine x_call (px := xNo) (vx_runV (As := [.int (nI 2)]) (rest := []) ⟨hx, hb, hml, hown, hts⟩ (c_X5_goesk l hfl G ad S tp th g wo z 2 H ⟨hO, hm0, hm1, hm2, hm3, hm4, hm5, hm6, hm7, hm8, hm9, hm10⟩ (by decide)) (cwV 1 hts gX5_join_X5_goes rfl rfl rfl (by decide +kernel) ⟨(Nat.le_of_ble_eq_true rfl), (Nat.le_of_ble_eq_true rfl)⟩) (xPreV hC hS hm0 (q := (RX5, TX5, 14)) rfl) rfl rfl hl.1 rfl (lv_room (Nat.le_of_ble_eq_true rfl)) dX5_join_44 ⟨(by first | exact Nat.le_of_ble_eq_true rfl | exact (show 0 + 0 ≤ 0 by omega)), (by first | exact Nat.le_of_ble_eq_true rfl | exact (show 0 + 0 ≤ 0 by omega))⟩) hS (fun _ h => h) (fun _ _ _ _ _ h => False.elim h) (fun v H_3 locs hp hz hk_4 hS => ?_)
      obtain ⟨rfl, hMM5⟩ := hp
      obtain ⟨-, hm0, hm1, hm2, hm3, hm4, hm5, hm6, hm7, hm8, hm9, hm10⟩ := id hMM5
      refine lv_if_ne (tgt := 52) hx hb dX5_join_47 (by decide) (fun c_6 => ?_) (fun c_6 => ?_)
      · have _ := hx
        have c_6 : ¬ (0 = 0) := fun z => c_6 ((nI_eq (a := 0) (b := 0) (by omega) (by omega)).mpr z)
        exact absurd c_6 (by decide)
      · have _ := hx
        have c_6 : 0 = 0 := (nI_eq (a := 0) (b := 0) (by omega) (by omega)).mp c_6
        refine lv_iconst (v := (nI 0)) hx hb dX5_join_50 (by decide) ?_
        exact x_iret (G := G) hx hb hr rfl dX5_join_51 hlocks hS (by first | exact Nat.le_of_ble_eq_true rfl | exact (show 0 ≤ 0 by omega)) (by first | exact Nat.le_of_ble_eq_true rfl | exact (show 0 ≤ 0 by omega)) (by exact mP1 1 (by rw [kjoin_j hn20 hj9]; exact if_pos (Or.inl hin)) ⟨hO, hm0, hm1, hm2, hm3, hm4, hm5, hm6, hm7, hm8, hm9, hm10⟩)
    · have _ := hx
      have hin : zI S j9 = false := xb_0.mp c_2
      refine lv_aload_n hx hb dX5_join_22 rfl (lv_at hl 0 rfl) ?_
      refine lv_iload_n hx hb dX5_join_23 rfl (lv_at hl 1 rfl) ?_
      refine x_intE (vx_runV (As := [.int (nI j9)]) (rest := [.ref (ad 0)]) ⟨hx, hb, hml, hown, hts⟩ (c_X5_hasForbidden l hfl G ad S tp th g wo z j9 H ⟨hO, hm0, hm1, hm2, hm3, hm4, hm5, hm6, hm7, hm8, hm9, hm10⟩ hW (by omega)) (cwV 1 hts gX5_join_X5_hasForbidden rfl rfl rfl (by decide +kernel) ⟨(Nat.le_of_ble_eq_true rfl), (Nat.le_of_ble_eq_true rfl)⟩) (xPreV hC hS hm0 (q := (RX5, TX5, 14)) rfl) rfl rfl hl.1 rfl (lv_room (Nat.le_of_ble_eq_true rfl)) dX5_join_24 ⟨(by first | exact Nat.le_of_ble_eq_true rfl | exact (show 0 + 0 ≤ 0 by omega)), (by first | exact Nat.le_of_ble_eq_true rfl | exact (show 0 + 0 ≤ 0 by omega))⟩) hS (fun locs hS => ?_)
      refine lv_if_ne (tgt := 39) hx hb dX5_join_27 (by decide) (fun c_7 => ?_) (fun c_7 => ?_)
      · have _ := hx
        have hba : zbad S j9 = true := xb_1 c_7
        refine lv_iconst (v := (nI 2)) hx hb dX5_join_39 (by decide) ?_
        refine lv_goto (tgt := 44) hx hb dX5_join_40 (by decide) ?_
        have hsz := hS.1
        refine x_call (px := xNo) (vx_runV (As := [.int (nI 2)]) (rest := []) ⟨hx, hb, hml, hown, hts⟩ (c_X5_goesk l hfl G ad S tp th g wo z 2 H ⟨hO, hm0, hm1, hm2, hm3, hm4, hm5, hm6, hm7, hm8, hm9, hm10⟩ (by decide)) (cwV 1 hts gX5_join_X5_goes rfl rfl rfl (by decide +kernel) ⟨(Nat.le_of_ble_eq_true rfl), (Nat.le_of_ble_eq_true rfl)⟩) (xPreV hC hS hm0 (q := (RX5, TX5, 14)) rfl) rfl rfl hl.1 rfl (lv_room (Nat.le_of_ble_eq_true rfl)) dX5_join_44 ⟨(by first | exact Nat.le_of_ble_eq_true rfl | exact (show 0 + 0 ≤ 0 by omega)), (by first | exact Nat.le_of_ble_eq_true rfl | exact (show 0 + 0 ≤ 0 by omega))⟩) hS (fun _ h => h) (fun _ _ _ _ _ h => False.elim h) (fun v H_8 locs hp hz hk_9 hS => ?_)
        obtain ⟨rfl, hMM10⟩ := hp
        obtain ⟨-, hm0, hm1, hm2, hm3, hm4, hm5, hm6, hm7, hm8, hm9, hm10⟩ := id hMM10
        refine lv_if_ne (tgt := 52) hx hb dX5_join_47 (by decide) (fun c_11 => ?_) (fun c_11 => ?_)
        · have _ := hx
          have c_11 : ¬ (0 = 0) := fun z => c_11 ((nI_eq (a := 0) (b := 0) (by omega) (by omega)).mpr z)
          exact absurd c_11 (by decide)
        · have _ := hx
          have c_11 : 0 = 0 := (nI_eq (a := 0) (b := 0) (by omega) (by omega)).mp c_11
          refine lv_iconst (v := (nI 0)) hx hb dX5_join_50 (by decide) ?_
          exact x_iret (G := G) hx hb hr rfl dX5_join_51 hlocks hS (by first | exact Nat.le_of_ble_eq_true rfl | exact (show 0 ≤ 0 by omega)) (by first | exact Nat.le_of_ble_eq_true rfl | exact (show 0 ≤ 0 by omega)) (by exact mP1 1 (by rw [kjoin_j hn20 hj9]; exact if_pos (Or.inr (Or.inl hba))) ⟨hO, hm0, hm1, hm2, hm3, hm4, hm5, hm6, hm7, hm8, hm9, hm10⟩)
      · have _ := hx
        have hba : zbad S j9 = false := xb_0.mp c_7
        refine lv_aload_n hx hb dX5_join_30 rfl (lv_at hl 0 rfl) ?_
        refine x_intE (vx_runV (As := []) (rest := [.ref (ad 0)]) ⟨hx, hb, hml, hown, hts⟩ (c_X5_pooled l hfl G ad S tp th g wo z H ⟨hO, hm0, hm1, hm2, hm3, hm4, hm5, hm6, hm7, hm8, hm9, hm10⟩ hn20) (cwV 0 hts gX5_join_X5_pooled rfl rfl rfl (by decide +kernel) ⟨(Nat.le_of_ble_eq_true rfl), (Nat.le_of_ble_eq_true rfl)⟩) (xPreV hC hS hm0 (q := (RX5, TX5, 14)) rfl) rfl rfl hl.1 rfl (lv_room (Nat.le_of_ble_eq_true rfl)) dX5_join_31 ⟨(by first | exact Nat.le_of_ble_eq_true rfl | exact (show 0 + 0 ≤ 0 by omega)), (by first | exact Nat.le_of_ble_eq_true rfl | exact (show 0 + 0 ≤ 0 by omega))⟩) hS (fun locs hS => ?_)
        refine lv_bipush (v := (nI 8)) hx hb dX5_join_34 (by decide) ?_
        refine lv_icmp_ne (tgt := 43) hx hb dX5_join_36 (by decide) (fun c_12 => ?_) (fun c_12 => ?_)
        · have _ := hx
          have c_12 : ¬ ((xct (zI (S)) (zN (S))) = 8) := fun z => c_12 ((nI_eq (a := (xct (zI (S)) (zN (S)))) (b := 8) (by omega) (by omega)).mpr z)
          refine lv_iconst (v := (nI 0)) hx hb dX5_join_43 (by decide) ?_
          have hsz := hS.1
          refine x_call (px := xNo) (vx_runV (As := [.int (nI 0)]) (rest := []) ⟨hx, hb, hml, hown, hts⟩ (c_X5_goes0 l hfl G ad S tp th g wo z 0 H ⟨hO, hm0, hm1, hm2, hm3, hm4, hm5, hm6, hm7, hm8, hm9, hm10⟩ rfl) (cwV 1 hts gX5_join_X5_goes rfl rfl rfl (by decide +kernel) ⟨(Nat.le_of_ble_eq_true rfl), (Nat.le_of_ble_eq_true rfl)⟩) (xPreV hC hS hm0 (q := (RX5, TX5, 14)) rfl) rfl rfl hl.1 rfl (lv_room (Nat.le_of_ble_eq_true rfl)) dX5_join_44 ⟨(by first | exact Nat.le_of_ble_eq_true rfl | exact (show 0 + 0 ≤ 0 by omega)), (by first | exact Nat.le_of_ble_eq_true rfl | exact (show 0 + 0 ≤ 0 by omega))⟩) hS (fun _ h => h) (fun _ _ _ _ _ h => False.elim h) (fun v H_13 locs hp hz hk_14 hS => ?_)
          obtain ⟨rfl, hMM15⟩ := hp
          obtain ⟨-, hm0, hm1, hm2, hm3, hm4, hm5, hm6, hm7, hm8, hm9, hm10⟩ := id hMM15
          refine lv_if_ne (tgt := 52) hx hb dX5_join_47 (by decide) (fun c_16 => ?_) (fun c_16 => ?_)
          · have _ := hx
            have c_16 : ¬ (1 = 0) := fun z => c_16 ((nI_eq (a := 1) (b := 0) (by omega) (by omega)).mpr z)
            refine lv_aload_n hx hb dX5_join_52 rfl (lv_at hl 0 rfl) ?_
            refine va_get (D := xD G) (ci := 6) (v := .ref (ad 4)) (C := RX5) (T := TX5) (N := 14) hx hb hts (by decide +kernel) hown hC.1 (x1 hm0) 0 rfl rfl 4 (by decide) (hts (.fieldLink RX5 19 "BidwhistleModel" "isIn" "[Z") (by decide +kernel)) (fun _ h9 => h9) rfl dX5_join_53 ?_
            refine lv_iload_n hx hb dX5_join_56 rfl (lv_at hl 1 rfl) ?_
            refine lv_iconst (v := (nI 1)) hx hb dX5_join_57 (by decide) ?_
            refine x_zastn (G := G) (j := j9) hx hb hC hS (hO.2 4 (by omega) (by omega)) hm4 (by omega) (by first | decide | omega) (by rfl) dX5_join_58 (fun H_18 locs hm4 hc_17 hS => ?_)
            have hm0 := hc_17.at hm0 (xn1 (hO.ne (i := 0) (j := 4) (by omega) (by omega) (by omega)))
            have hm1 := hc_17.at hm1 (xn1 (hO.ne (i := 1) (j := 4) (by omega) (by omega) (by omega)))
            have hm2 := hc_17.at hm2 (xn1 (hO.ne (i := 2) (j := 4) (by omega) (by omega) (by omega)))
            have hm3 := hc_17.at hm3 (xn1 (hO.ne (i := 3) (j := 4) (by omega) (by omega) (by omega)))
            have hm5 := hc_17.at hm5 (xn1 (hO.ne (i := 5) (j := 4) (by omega) (by omega) (by omega)))
            have hm6 := hc_17.at hm6 (xn1 (hO.ne (i := 6) (j := 4) (by omega) (by omega) (by omega)))
            have hm7 := hc_17.at hm7 (xn1 (hO.ne (i := 7) (j := 4) (by omega) (by omega) (by omega)))
            have hm8 := hc_17.at hm8 (xn1 (hO.ne (i := 8) (j := 4) (by omega) (by omega) (by omega)))
            have hm9 := hc_17.at hm9 (xn1 (hO.ne (i := 9) (j := 4) (by omega) (by omega) (by omega)))
            have hm10 := hc_17.at hm10 (xn1 (hO.ne (i := 10) (j := 4) (by omega) (by omega) (by omega)))
            have hm4 : zA G (ad 4) 20 (fun j => xb (va_up (zI S) j9 true j)) H_18 := by rw [← mup_b]; exact hm4
            refine lv_aload_n hx hb dX5_join_59 rfl (lv_at hl 0 rfl) ?_
            refine x_intE (vx_runV (As := []) (rest := []) ⟨hx, hb, hml, hown, hts⟩ (c_X5_pooled l hfl G ad ((zpool S j9 true)) tp 0 g wo z H_18 ⟨hO, hm0, hm1, hm2, hm3, hm4, hm5, hm6, hm7, hm8, hm9, hm10⟩ hn20) (cwV 0 hts gX5_join_X5_pooled rfl rfl rfl (by decide +kernel) ⟨(Nat.le_of_ble_eq_true rfl), (Nat.le_of_ble_eq_true rfl)⟩) (xPreV hC hS hm0 (q := (RX5, TX5, 14)) rfl) rfl rfl hl.1 rfl (lv_room (Nat.le_of_ble_eq_true rfl)) dX5_join_60 ⟨(by first | exact Nat.le_of_ble_eq_true rfl | exact (show 0 + 0 ≤ 0 by omega)), (by first | exact Nat.le_of_ble_eq_true rfl | exact (show 0 + 0 ≤ 0 by omega))⟩) hS (fun locs hS => ?_)
            exact x_iret (G := G) hx hb hr rfl dX5_join_63 hlocks hS (by first | exact Nat.le_of_ble_eq_true rfl | exact (show 0 ≤ 0 by omega)) (by first | exact Nat.le_of_ble_eq_true rfl | exact (show 0 ≤ 0 by omega)) (by exact mP0 (by rw [kjoin_j hn20 hj9]; exact if_neg (fun q => by rcases q with q | q | q; (rw [hin] at q; cases q); (rw [hba] at q; cases q); omega)) (by rw [nI_clamp (show j9 < 2 ^ 31 by omega)]; exact (MX_Y.mpr (show MY G ad (zN S) (zK S) (zP S) (zL S) (zU S) (zV S) (va_up (zI S) j9 true) (zF S) (zO S) (zT S) tp 0 g wo z H_18 from ⟨hO, hm0, hm1, hm2, hm3, hm4, hm5, hm6, hm7, hm8, hm9, hm10⟩))) (by rw [nI_clamp (show j9 < 2 ^ 31 by omega)] <;> rfl))
          · have _ := hx
            have c_16 : 1 = 0 := (nI_eq (a := 1) (b := 0) (by omega) (by omega)).mp c_16
            exact absurd c_16 (by decide)
        · have _ := hx
          have c_12 : (xct (zI (S)) (zN (S))) = 8 := (nI_eq (a := (xct (zI (S)) (zN (S)))) (b := 8) (by omega) (by omega)).mp c_12
          refine lv_iconst (v := (nI 2)) hx hb dX5_join_39 (by decide) ?_
          refine lv_goto (tgt := 44) hx hb dX5_join_40 (by decide) ?_
          have hsz := hS.1
          refine x_call (px := xNo) (vx_runV (As := [.int (nI 2)]) (rest := []) ⟨hx, hb, hml, hown, hts⟩ (c_X5_goesk l hfl G ad S tp th g wo z 2 H ⟨hO, hm0, hm1, hm2, hm3, hm4, hm5, hm6, hm7, hm8, hm9, hm10⟩ (by decide)) (cwV 1 hts gX5_join_X5_goes rfl rfl rfl (by decide +kernel) ⟨(Nat.le_of_ble_eq_true rfl), (Nat.le_of_ble_eq_true rfl)⟩) (xPreV hC hS hm0 (q := (RX5, TX5, 14)) rfl) rfl rfl hl.1 rfl (lv_room (Nat.le_of_ble_eq_true rfl)) dX5_join_44 ⟨(by first | exact Nat.le_of_ble_eq_true rfl | exact (show 0 + 0 ≤ 0 by omega)), (by first | exact Nat.le_of_ble_eq_true rfl | exact (show 0 + 0 ≤ 0 by omega))⟩) hS (fun _ h => h) (fun _ _ _ _ _ h => False.elim h) (fun v H_19 locs hp hz hk_20 hS => ?_)
          obtain ⟨rfl, hMM21⟩ := hp
          obtain ⟨-, hm0, hm1, hm2, hm3, hm4, hm5, hm6, hm7, hm8, hm9, hm10⟩ := id hMM21
          refine lv_if_ne (tgt := 52) hx hb dX5_join_47 (by decide) (fun c_22 => ?_) (fun c_22 => ?_)
          · have _ := hx
            have c_22 : ¬ (0 = 0) := fun z => c_22 ((nI_eq (a := 0) (b := 0) (by omega) (by omega)).mpr z)
            exact absurd c_22 (by decide)
          · have _ := hx
            have c_22 : 0 = 0 := (nI_eq (a := 0) (b := 0) (by omega) (by omega)).mp c_22
            refine lv_iconst (v := (nI 0)) hx hb dX5_join_50 (by decide) ?_
            exact x_iret (G := G) hx hb hr rfl dX5_join_51 hlocks hS (by first | exact Nat.le_of_ble_eq_true rfl | exact (show 0 ≤ 0 by omega)) (by first | exact Nat.le_of_ble_eq_true rfl | exact (show 0 ≤ 0 by omega)) (by exact mP1 1 (by rw [kjoin_j hn20 hj9]; exact if_pos (Or.inr (Or.inr (by omega)))) ⟨hO, hm0, hm1, hm2, hm3, hm4, hm5, hm6, hm7, hm8, hm9, hm10⟩)
  · have _ := hx
    have hk_p9 : xok p9 (zN S) = false := xb_0.mp (by first | exact c_1 | exact Classical.not_not.mp c_1)
    refine lv_iconst (v := (nI 1)) hx hb dX5_join_9 (by decide) ?_
    refine lv_goto (tgt := 44) hx hb dX5_join_10 (by decide) ?_
    have hsz := hS.1
    refine x_call (px := xNo) (vx_runV (As := [.int (nI 1)]) (rest := []) ⟨hx, hb, hml, hown, hts⟩ (c_X5_goesk l hfl G ad S tp th g wo z 1 H ⟨hO, hm0, hm1, hm2, hm3, hm4, hm5, hm6, hm7, hm8, hm9, hm10⟩ (by decide)) (cwV 1 hts gX5_join_X5_goes rfl rfl rfl (by decide +kernel) ⟨(Nat.le_of_ble_eq_true rfl), (Nat.le_of_ble_eq_true rfl)⟩) (xPreV hC hS hm0 (q := (RX5, TX5, 14)) rfl) rfl rfl hl.1 rfl (lv_room (Nat.le_of_ble_eq_true rfl)) dX5_join_44 ⟨(by first | exact Nat.le_of_ble_eq_true rfl | exact (show 0 + 0 ≤ 0 by omega)), (by first | exact Nat.le_of_ble_eq_true rfl | exact (show 0 + 0 ≤ 0 by omega))⟩) hS (fun _ h => h) (fun _ _ _ _ _ h => False.elim h) (fun v H_23 locs hp hz hk_24 hS => ?_)
    obtain ⟨rfl, hMM25⟩ := hp
    obtain ⟨-, hm0, hm1, hm2, hm3, hm4, hm5, hm6, hm7, hm8, hm9, hm10⟩ := id hMM25
    refine lv_if_ne (tgt := 52) hx hb dX5_join_47 (by decide) (fun c_26 => ?_) (fun c_26 => ?_)
    · have _ := hx
      have c_26 : ¬ (0 = 0) := fun z => c_26 ((nI_eq (a := 0) (b := 0) (by omega) (by omega)).mpr z)
      exact absurd c_26 (by decide)
    · have _ := hx
      have c_26 : 0 = 0 := (nI_eq (a := 0) (b := 0) (by omega) (by omega)).mp c_26
      refine lv_iconst (v := (nI 0)) hx hb dX5_join_50 (by decide) ?_
      exact x_iret (G := G) hx hb hr rfl dX5_join_51 hlocks hS (by first | exact Nat.le_of_ble_eq_true rfl | exact (show 0 ≤ 0 by omega)) (by first | exact Nat.le_of_ble_eq_true rfl | exact (show 0 ≤ 0 by omega)) (by exact mP1 0 (by unfold kjoin; rw [hk_p9]; rfl) ⟨hO, hm0, hm1, hm2, hm3, hm4, hm5, hm6, hm7, hm8, hm9, hm10⟩)

set_option maxHeartbeats 200000 in
set_option maxRecDepth 100000 in
/-- leave(strategy) -/
theorem c_X5_leave (l : Launch) (hfl : l.stackTraces = false) (G : xG) (ad : Nat → Nat) (S : zS) (tp th : Nat) (g : Nat → Int) (wo : Nat → Int32) (z : Nat → Bool) (p9 : Int32) (H : Heap) (hM : MX G ad S tp th g wo z H) (hW : zW S) : xMet l G yX5_leave wsX5_leave ({ frames := 2, cells := 0, slots := 0, locals := 43 } : Room) [.ref (ad 0), .int p9] H (mPost G ad (kleave S p9) (nI (xct (zI (zpool S p9.toNatClampNeg false)) (zN S))) S (zpool S p9.toNatClampNeg false)) (xNo) := by
  refine vx_ofW (cc := cX5_leave) (maxL := 2) (ret := (some .int)) (by decide) rfl ?_
  intro Pg Ev s m args below meth c s₁ B hml hout hv
  obtain ⟨rfl, hH, hC⟩ := hv
  have hx := B.exec
  have hb := B.bytes
  have hr := B.returns
  have hts := atoms_spec (ws := wsX5_leave) B.pre
  have hown : s.vm.findClass RX5 = some m.cls := findClass_of_methodNamed B.named
  have hlocks := B.notSynchronized
  rw [hH]
  have hS : va_S (xA G) s.heap H [] := by rw [← hH]; exact va_S.rf
  generalize ([] : List Loc) = locs at hS ⊢
  have hl := lv_entry [.ref (ad 0), .int p9] (n := 2) (Nat.le_of_ble_eq_true rfl)
  rw [lg_entry_eq]
  generalize (lg_sl [.ref (ad 0), .int p9] ++ List.replicate (2 - (lg_sl [.ref (ad 0), .int p9]).length) Slot.unset).toArray = ls at hl ⊢
  have hl : lv_has ls 2 [(0, .ref (ad 0)), (1, .int p9)] := hl
  obtain ⟨hO, hm0, hm1, hm2, hm3, hm4, hm5, hm6, hm7, hm8, hm9, hm10⟩ := id hM
  have hn20 := hW.1
  refine lv_aload_n hx hb dX5_leave_0 rfl (lv_at hl 0 rfl) ?_
  refine lv_aload_n hx hb dX5_leave_1 rfl (lv_at hl 0 rfl) ?_
  refine lv_iload_n hx hb dX5_leave_2 rfl (lv_at hl 1 rfl) ?_
  refine x_intE (vx_runV (As := [.int p9]) (rest := [.ref (ad 0)]) ⟨hx, hb, hml, hown, hts⟩ (c_X5_isStrategy l hfl G ad S tp th g wo z p9 H ⟨hO, hm0, hm1, hm2, hm3, hm4, hm5, hm6, hm7, hm8, hm9, hm10⟩ hn20) (cwV 1 hts gX5_leave_X5_isStrategy rfl rfl rfl (by decide +kernel) ⟨(Nat.le_of_ble_eq_true rfl), (Nat.le_of_ble_eq_true rfl)⟩) (xPreV hC hS hm0 (q := (RX5, TX5, 14)) rfl) rfl rfl hl.1 rfl (lv_room (Nat.le_of_ble_eq_true rfl)) dX5_leave_3 ⟨(by first | exact Nat.le_of_ble_eq_true rfl | exact (show 0 + 0 ≤ 0 by omega)), (by first | exact Nat.le_of_ble_eq_true rfl | exact (show 0 + 0 ≤ 0 by omega))⟩) hS (fun locs hS => ?_)
  refine lv_if_ne (tgt := 13) hx hb dX5_leave_6 (by decide) (fun c_1 => ?_) (fun c_1 => ?_)
  · have _ := hx
    obtain ⟨j9, hj9, rfl⟩ := xok_of (xb_1 (by first | exact c_1 | exact fun q => absurd q c_1)) (by omega)
    refine lv_aload_n hx hb dX5_leave_13 rfl (lv_at hl 0 rfl) ?_
    refine va_get (D := xD G) (ci := 6) (v := .ref (ad 4)) (C := RX5) (T := TX5) (N := 14) hx hb hts (by decide +kernel) hown hC.1 (x1 hm0) 0 rfl rfl 4 (by decide) (hts (.fieldLink RX5 19 "BidwhistleModel" "isIn" "[Z") (by decide +kernel)) (fun _ h9 => h9) rfl dX5_leave_14 ?_
    refine lv_iload_n hx hb dX5_leave_17 rfl (lv_at hl 1 rfl) ?_
    refine x_zald (G := G) (j := j9) hx hb hC hm4 (by omega) (by first | decide | omega) dX5_leave_18 ?_
    refine lv_if_eq (tgt := 26) hx hb dX5_leave_19 (by decide) (fun c_2 => ?_) (fun c_2 => ?_)
    · have _ := hx
      have hin : zI S j9 = false := xb_0.mp c_2
      refine lv_iconst (v := (nI 2)) hx hb dX5_leave_26 (by decide) ?_
      have hsz := hS.1
      refine x_call (px := xNo) (vx_runV (As := [.int (nI 2)]) (rest := []) ⟨hx, hb, hml, hown, hts⟩ (c_X5_goesk l hfl G ad S tp th g wo z 2 H ⟨hO, hm0, hm1, hm2, hm3, hm4, hm5, hm6, hm7, hm8, hm9, hm10⟩ (by decide)) (cwV 1 hts gX5_leave_X5_goes rfl rfl rfl (by decide +kernel) ⟨(Nat.le_of_ble_eq_true rfl), (Nat.le_of_ble_eq_true rfl)⟩) (xPreV hC hS hm0 (q := (RX5, TX5, 14)) rfl) rfl rfl hl.1 rfl (lv_room (Nat.le_of_ble_eq_true rfl)) dX5_leave_27 ⟨(by first | exact Nat.le_of_ble_eq_true rfl | exact (show 0 + 0 ≤ 0 by omega)), (by first | exact Nat.le_of_ble_eq_true rfl | exact (show 0 + 0 ≤ 0 by omega))⟩) hS (fun _ h => h) (fun _ _ _ _ _ h => False.elim h) (fun v H_3 locs hp hz hk_4 hS => ?_)
      obtain ⟨rfl, hMM5⟩ := hp
      obtain ⟨-, hm0, hm1, hm2, hm3, hm4, hm5, hm6, hm7, hm8, hm9, hm10⟩ := id hMM5
      refine lv_if_ne (tgt := 35) hx hb dX5_leave_30 (by decide) (fun c_6 => ?_) (fun c_6 => ?_)
      · have _ := hx
        have c_6 : ¬ (0 = 0) := fun z => c_6 ((nI_eq (a := 0) (b := 0) (by omega) (by omega)).mpr z)
        exact absurd c_6 (by decide)
      · have _ := hx
        have c_6 : 0 = 0 := (nI_eq (a := 0) (b := 0) (by omega) (by omega)).mp c_6
        refine lv_iconst (v := (nI 0)) hx hb dX5_leave_33 (by decide) ?_
        exact x_iret (G := G) hx hb hr rfl dX5_leave_34 hlocks hS (by first | exact Nat.le_of_ble_eq_true rfl | exact (show 0 ≤ 0 by omega)) (by first | exact Nat.le_of_ble_eq_true rfl | exact (show 0 ≤ 0 by omega)) (by exact mP1 1 (by rw [kleave_j hn20 hj9]; exact if_neg (by rw [hin]; decide)) ⟨hO, hm0, hm1, hm2, hm3, hm4, hm5, hm6, hm7, hm8, hm9, hm10⟩)
    · have _ := hx
      have hin : zI S j9 = true := xb_1 c_2
      refine lv_iconst (v := (nI 0)) hx hb dX5_leave_22 (by decide) ?_
      refine lv_goto (tgt := 27) hx hb dX5_leave_23 (by decide) ?_
      have hsz := hS.1
      refine x_call (px := xNo) (vx_runV (As := [.int (nI 0)]) (rest := []) ⟨hx, hb, hml, hown, hts⟩ (c_X5_goes0 l hfl G ad S tp th g wo z 0 H ⟨hO, hm0, hm1, hm2, hm3, hm4, hm5, hm6, hm7, hm8, hm9, hm10⟩ rfl) (cwV 1 hts gX5_leave_X5_goes rfl rfl rfl (by decide +kernel) ⟨(Nat.le_of_ble_eq_true rfl), (Nat.le_of_ble_eq_true rfl)⟩) (xPreV hC hS hm0 (q := (RX5, TX5, 14)) rfl) rfl rfl hl.1 rfl (lv_room (Nat.le_of_ble_eq_true rfl)) dX5_leave_27 ⟨(by first | exact Nat.le_of_ble_eq_true rfl | exact (show 0 + 0 ≤ 0 by omega)), (by first | exact Nat.le_of_ble_eq_true rfl | exact (show 0 + 0 ≤ 0 by omega))⟩) hS (fun _ h => h) (fun _ _ _ _ _ h => False.elim h) (fun v H_7 locs hp hz hk_8 hS => ?_)
      obtain ⟨rfl, hMM9⟩ := hp
      obtain ⟨-, hm0, hm1, hm2, hm3, hm4, hm5, hm6, hm7, hm8, hm9, hm10⟩ := id hMM9
      refine lv_if_ne (tgt := 35) hx hb dX5_leave_30 (by decide) (fun c_10 => ?_) (fun c_10 => ?_)
      · have _ := hx
        have c_10 : ¬ (1 = 0) := fun z => c_10 ((nI_eq (a := 1) (b := 0) (by omega) (by omega)).mpr z)
        refine lv_aload_n hx hb dX5_leave_35 rfl (lv_at hl 0 rfl) ?_
        refine va_get (D := xD G) (ci := 6) (v := .ref (ad 4)) (C := RX5) (T := TX5) (N := 14) hx hb hts (by decide +kernel) hown hC.1 (x1 hm0) 0 rfl rfl 4 (by decide) (hts (.fieldLink RX5 19 "BidwhistleModel" "isIn" "[Z") (by decide +kernel)) (fun _ h9 => h9) rfl dX5_leave_36 ?_
        refine lv_iload_n hx hb dX5_leave_39 rfl (lv_at hl 1 rfl) ?_
        refine lv_iconst (v := (nI 0)) hx hb dX5_leave_40 (by decide) ?_
        refine x_zastn (G := G) (j := j9) hx hb hC hS (hO.2 4 (by omega) (by omega)) hm4 (by omega) (by first | decide | omega) (by rfl) dX5_leave_41 (fun H_12 locs hm4 hc_11 hS => ?_)
        have hm0 := hc_11.at hm0 (xn1 (hO.ne (i := 0) (j := 4) (by omega) (by omega) (by omega)))
        have hm1 := hc_11.at hm1 (xn1 (hO.ne (i := 1) (j := 4) (by omega) (by omega) (by omega)))
        have hm2 := hc_11.at hm2 (xn1 (hO.ne (i := 2) (j := 4) (by omega) (by omega) (by omega)))
        have hm3 := hc_11.at hm3 (xn1 (hO.ne (i := 3) (j := 4) (by omega) (by omega) (by omega)))
        have hm5 := hc_11.at hm5 (xn1 (hO.ne (i := 5) (j := 4) (by omega) (by omega) (by omega)))
        have hm6 := hc_11.at hm6 (xn1 (hO.ne (i := 6) (j := 4) (by omega) (by omega) (by omega)))
        have hm7 := hc_11.at hm7 (xn1 (hO.ne (i := 7) (j := 4) (by omega) (by omega) (by omega)))
        have hm8 := hc_11.at hm8 (xn1 (hO.ne (i := 8) (j := 4) (by omega) (by omega) (by omega)))
        have hm9 := hc_11.at hm9 (xn1 (hO.ne (i := 9) (j := 4) (by omega) (by omega) (by omega)))
        have hm10 := hc_11.at hm10 (xn1 (hO.ne (i := 10) (j := 4) (by omega) (by omega) (by omega)))
        have hm4 : zA G (ad 4) 20 (fun j => xb (va_up (zI S) j9 false j)) H_12 := by rw [← mup_b]; exact hm4
        refine lv_aload_n hx hb dX5_leave_42 rfl (lv_at hl 0 rfl) ?_
        refine x_intE (vx_runV (As := []) (rest := []) ⟨hx, hb, hml, hown, hts⟩ (c_X5_pooled l hfl G ad ((zpool S j9 false)) tp 0 g wo z H_12 ⟨hO, hm0, hm1, hm2, hm3, hm4, hm5, hm6, hm7, hm8, hm9, hm10⟩ hn20) (cwV 0 hts gX5_leave_X5_pooled rfl rfl rfl (by decide +kernel) ⟨(Nat.le_of_ble_eq_true rfl), (Nat.le_of_ble_eq_true rfl)⟩) (xPreV hC hS hm0 (q := (RX5, TX5, 14)) rfl) rfl rfl hl.1 rfl (lv_room (Nat.le_of_ble_eq_true rfl)) dX5_leave_43 ⟨(by first | exact Nat.le_of_ble_eq_true rfl | exact (show 0 + 0 ≤ 0 by omega)), (by first | exact Nat.le_of_ble_eq_true rfl | exact (show 0 + 0 ≤ 0 by omega))⟩) hS (fun locs hS => ?_)
        exact x_iret (G := G) hx hb hr rfl dX5_leave_46 hlocks hS (by first | exact Nat.le_of_ble_eq_true rfl | exact (show 0 ≤ 0 by omega)) (by first | exact Nat.le_of_ble_eq_true rfl | exact (show 0 ≤ 0 by omega)) (by exact mP0 (by rw [kleave_j hn20 hj9]; exact if_pos hin) (by rw [nI_clamp (show j9 < 2 ^ 31 by omega)]; exact (MX_Y.mpr (show MY G ad (zN S) (zK S) (zP S) (zL S) (zU S) (zV S) (va_up (zI S) j9 false) (zF S) (zO S) (zT S) tp 0 g wo z H_12 from ⟨hO, hm0, hm1, hm2, hm3, hm4, hm5, hm6, hm7, hm8, hm9, hm10⟩))) (by rw [nI_clamp (show j9 < 2 ^ 31 by omega)] <;> rfl))
      · have _ := hx
        have c_10 : 1 = 0 := (nI_eq (a := 1) (b := 0) (by omega) (by omega)).mp c_10
        exact absurd c_10 (by decide)
  · have _ := hx
    have hk_p9 : xok p9 (zN S) = false := xb_0.mp (by first | exact c_1 | exact Classical.not_not.mp c_1)
    refine lv_iconst (v := (nI 1)) hx hb dX5_leave_9 (by decide) ?_
    refine lv_goto (tgt := 27) hx hb dX5_leave_10 (by decide) ?_
    have hsz := hS.1
    refine x_call (px := xNo) (vx_runV (As := [.int (nI 1)]) (rest := []) ⟨hx, hb, hml, hown, hts⟩ (c_X5_goesk l hfl G ad S tp th g wo z 1 H ⟨hO, hm0, hm1, hm2, hm3, hm4, hm5, hm6, hm7, hm8, hm9, hm10⟩ (by decide)) (cwV 1 hts gX5_leave_X5_goes rfl rfl rfl (by decide +kernel) ⟨(Nat.le_of_ble_eq_true rfl), (Nat.le_of_ble_eq_true rfl)⟩) (xPreV hC hS hm0 (q := (RX5, TX5, 14)) rfl) rfl rfl hl.1 rfl (lv_room (Nat.le_of_ble_eq_true rfl)) dX5_leave_27 ⟨(by first | exact Nat.le_of_ble_eq_true rfl | exact (show 0 + 0 ≤ 0 by omega)), (by first | exact Nat.le_of_ble_eq_true rfl | exact (show 0 + 0 ≤ 0 by omega))⟩) hS (fun _ h => h) (fun _ _ _ _ _ h => False.elim h) (fun v H_13 locs hp hz hk_14 hS => ?_)
    obtain ⟨rfl, hMM15⟩ := hp
    obtain ⟨-, hm0, hm1, hm2, hm3, hm4, hm5, hm6, hm7, hm8, hm9, hm10⟩ := id hMM15
    refine lv_if_ne (tgt := 35) hx hb dX5_leave_30 (by decide) (fun c_16 => ?_) (fun c_16 => ?_)
    · have _ := hx
      have c_16 : ¬ (0 = 0) := fun z => c_16 ((nI_eq (a := 0) (b := 0) (by omega) (by omega)).mpr z)
      exact absurd c_16 (by decide)
    · have _ := hx
      have c_16 : 0 = 0 := (nI_eq (a := 0) (b := 0) (by omega) (by omega)).mp c_16
      refine lv_iconst (v := (nI 0)) hx hb dX5_leave_33 (by decide) ?_
      exact x_iret (G := G) hx hb hr rfl dX5_leave_34 hlocks hS (by first | exact Nat.le_of_ble_eq_true rfl | exact (show 0 ≤ 0 by omega)) (by first | exact Nat.le_of_ble_eq_true rfl | exact (show 0 ≤ 0 by omega)) (by exact mP1 0 (by unfold kleave; rw [hk_p9]; rfl) ⟨hO, hm0, hm1, hm2, hm3, hm4, hm5, hm6, hm7, hm8, hm9, hm10⟩)

set_option maxHeartbeats 200000 in
set_option maxRecDepth 100000 in
/-- allow(step) -/
theorem c_X5_allow (l : Launch) (hfl : l.stackTraces = false) (G : xG) (ad : Nat → Nat) (S : zS) (tp th : Nat) (g : Nat → Int) (wo : Nat → Int32) (z : Nat → Bool) (p9 : Int32) (H : Heap) (hM : MX G ad S tp th g wo z H) (hW : zW S) : xMet l G yX5_allow wsX5_allow ({ frames := 2, cells := 0, slots := 0, locals := 42 } : Room) [.ref (ad 0), .int p9] H (mPost G ad (kval S p9) (xb (zF S p9.toNatClampNeg)) S (zrule S p9.toNatClampNeg false)) (xNo) := by
  refine vx_ofW (cc := cX5_allow) (maxL := 3) (ret := (some .boolean)) (by decide) rfl ?_
  intro Pg Ev s m args below meth c s₁ B hml hout hv
  obtain ⟨rfl, hH, hC⟩ := hv
  have hx := B.exec
  have hb := B.bytes
  have hr := B.returns
  have hts := atoms_spec (ws := wsX5_allow) B.pre
  have hown : s.vm.findClass RX5 = some m.cls := findClass_of_methodNamed B.named
  have hlocks := B.notSynchronized
  rw [hH]
  have hS : va_S (xA G) s.heap H [] := by rw [← hH]; exact va_S.rf
  generalize ([] : List Loc) = locs at hS ⊢
  have hl := lv_entry [.ref (ad 0), .int p9] (n := 3) (Nat.le_of_ble_eq_true rfl)
  rw [lg_entry_eq]
  generalize (lg_sl [.ref (ad 0), .int p9] ++ List.replicate (3 - (lg_sl [.ref (ad 0), .int p9]).length) Slot.unset).toArray = ls at hl ⊢
  have hl : lv_has ls 3 [(0, .ref (ad 0)), (1, .int p9)] := hl
  obtain ⟨hO, hm0, hm1, hm2, hm3, hm4, hm5, hm6, hm7, hm8, hm9, hm10⟩ := id hM
  have hn20 := hW.1
  refine lv_aload_n hx hb dX5_allow_0 rfl (lv_at hl 0 rfl) ?_
  refine lv_iload_n hx hb dX5_allow_1 rfl (lv_at hl 1 rfl) ?_
  refine x_intE (vx_runS (As := [.int p9]) (rest := [.ref (ad 0)]) ⟨hx, hb, hml, hown, hts⟩ (c_X5_isStep l hfl G p9 H) (va_cwS 1 hts gX5_allow_X5_isStep rfl rfl rfl (by decide +kernel) ⟨(Nat.le_of_ble_eq_true rfl), (Nat.le_of_ble_eq_true rfl)⟩) (xPreS hC hS) rfl rfl hl.1 rfl (lv_room (Nat.le_of_ble_eq_true rfl)) dX5_allow_2 ⟨(by first | exact Nat.le_of_ble_eq_true rfl | exact (show 0 + 0 ≤ 0 by omega)), (by first | exact Nat.le_of_ble_eq_true rfl | exact (show 0 + 0 ≤ 0 by omega))⟩) hS (fun locs hS => ?_)
  refine lv_if_eq (tgt := 12) hx hb dX5_allow_5 (by decide) (fun c_1 => ?_) (fun c_1 => ?_)
  · have _ := hx
    have hk_p9 : xok p9 17 = false := xb_0.mp (by first | exact c_1 | exact Classical.not_not.mp c_1)
    refine lv_iconst (v := (nI 1)) hx hb dX5_allow_12 (by decide) ?_
    have hsz := hS.1
    refine x_call (px := xNo) (vx_runV (As := [.int (nI 1)]) (rest := []) ⟨hx, hb, hml, hown, hts⟩ (c_X5_goesk l hfl G ad S tp th g wo z 1 H ⟨hO, hm0, hm1, hm2, hm3, hm4, hm5, hm6, hm7, hm8, hm9, hm10⟩ (by decide)) (cwV 1 hts gX5_allow_X5_goes rfl rfl rfl (by decide +kernel) ⟨(Nat.le_of_ble_eq_true rfl), (Nat.le_of_ble_eq_true rfl)⟩) (xPreV hC hS hm0 (q := (RX5, TX5, 14)) rfl) rfl rfl hl.1 rfl (lv_room (Nat.le_of_ble_eq_true rfl)) dX5_allow_13 ⟨(by first | exact Nat.le_of_ble_eq_true rfl | exact (show 0 + 0 ≤ 0 by omega)), (by first | exact Nat.le_of_ble_eq_true rfl | exact (show 0 + 0 ≤ 0 by omega))⟩) hS (fun _ h => h) (fun _ _ _ _ _ h => False.elim h) (fun v H_2 locs hp hz hk_3 hS => ?_)
    obtain ⟨rfl, hMM4⟩ := hp
    obtain ⟨-, hm0, hm1, hm2, hm3, hm4, hm5, hm6, hm7, hm8, hm9, hm10⟩ := id hMM4
    refine lv_if_ne (tgt := 21) hx hb dX5_allow_16 (by decide) (fun c_5 => ?_) (fun c_5 => ?_)
    · have _ := hx
      have c_5 : ¬ (0 = 0) := fun z => c_5 ((nI_eq (a := 0) (b := 0) (by omega) (by omega)).mpr z)
      exact absurd c_5 (by decide)
    · have _ := hx
      have c_5 : 0 = 0 := (nI_eq (a := 0) (b := 0) (by omega) (by omega)).mp c_5
      refine lv_iconst (v := (nI 0)) hx hb dX5_allow_19 (by decide) ?_
      exact x_iret (G := G) hx hb hr (by rfl) dX5_allow_20 hlocks hS (by first | exact Nat.le_of_ble_eq_true rfl | exact (show 0 ≤ 0 by omega)) (by first | exact Nat.le_of_ble_eq_true rfl | exact (show 0 ≤ 0 by omega)) (by exact mP1 0 (kval_0 S hk_p9) ⟨hO, hm0, hm1, hm2, hm3, hm4, hm5, hm6, hm7, hm8, hm9, hm10⟩)
  · have _ := hx
    obtain ⟨j9, hj9, rfl⟩ := xok_of (xb_1 (by first | exact c_1 | exact fun q => absurd q c_1)) (by omega)
    refine lv_iconst (v := (nI 0)) hx hb dX5_allow_8 (by decide) ?_
    refine lv_goto (tgt := 13) hx hb dX5_allow_9 (by decide) ?_
    have hsz := hS.1
    refine x_call (px := xNo) (vx_runV (As := [.int (nI 0)]) (rest := []) ⟨hx, hb, hml, hown, hts⟩ (c_X5_goes0 l hfl G ad S tp th g wo z 0 H ⟨hO, hm0, hm1, hm2, hm3, hm4, hm5, hm6, hm7, hm8, hm9, hm10⟩ rfl) (cwV 1 hts gX5_allow_X5_goes rfl rfl rfl (by decide +kernel) ⟨(Nat.le_of_ble_eq_true rfl), (Nat.le_of_ble_eq_true rfl)⟩) (xPreV hC hS hm0 (q := (RX5, TX5, 14)) rfl) rfl rfl hl.1 rfl (lv_room (Nat.le_of_ble_eq_true rfl)) dX5_allow_13 ⟨(by first | exact Nat.le_of_ble_eq_true rfl | exact (show 0 + 0 ≤ 0 by omega)), (by first | exact Nat.le_of_ble_eq_true rfl | exact (show 0 + 0 ≤ 0 by omega))⟩) hS (fun _ h => h) (fun _ _ _ _ _ h => False.elim h) (fun v H_6 locs hp hz hk_7 hS => ?_)
    obtain ⟨rfl, hMM8⟩ := hp
    obtain ⟨-, hm0, hm1, hm2, hm3, hm4, hm5, hm6, hm7, hm8, hm9, hm10⟩ := id hMM8
    refine lv_if_ne (tgt := 21) hx hb dX5_allow_16 (by decide) (fun c_9 => ?_) (fun c_9 => ?_)
    · have _ := hx
      have c_9 : ¬ (1 = 0) := fun z => c_9 ((nI_eq (a := 1) (b := 0) (by omega) (by omega)).mpr z)
      refine lv_aload_n hx hb dX5_allow_21 rfl (lv_at hl 0 rfl) ?_
      refine va_get (D := xD G) (ci := 6) (v := .ref (ad 5)) (C := RX5) (T := TX5) (N := 14) hx hb hts (by decide +kernel) hown hC.1 (x1 hm0) 0 rfl rfl 5 (by decide) (hts (.fieldLink RX5 23 "BidwhistleModel" "isForbidden" "[Z") (by decide +kernel)) (fun _ h9 => h9) rfl dX5_allow_22 ?_
      refine lv_iload_n hx hb dX5_allow_25 rfl (lv_at hl 1 rfl) ?_
      refine x_zald (G := G) (j := j9) hx hb hC hm5 (by omega) (by first | decide | omega) dX5_allow_26 ?_
      refine lv_istore_n (lv' := [(2, .int (xb (zF S j9))), (0, .ref (ad 0)), (1, .int (nI j9))]) hx hb dX5_allow_27 rfl hl (by decide) rfl (fun ls hl => ?_)
      refine lv_aload_n hx hb dX5_allow_28 rfl (lv_at hl 1 rfl) ?_
      refine va_get (D := xD G) (ci := 6) (v := .ref (ad 5)) (C := RX5) (T := TX5) (N := 14) hx hb hts (by decide +kernel) hown hC.1 (x1 hm0) 0 rfl rfl 5 (by decide) (hts (.fieldLink RX5 23 "BidwhistleModel" "isForbidden" "[Z") (by decide +kernel)) (fun _ h9 => h9) rfl dX5_allow_29 ?_
      refine lv_iload_n hx hb dX5_allow_32 rfl (lv_at hl 2 rfl) ?_
      refine lv_iconst (v := (nI 0)) hx hb dX5_allow_33 (by decide) ?_
      refine x_zastn (G := G) (j := j9) hx hb hC hS (hO.2 5 (by omega) (by omega)) hm5 (by omega) (by first | decide | omega) (by rfl) dX5_allow_34 (fun H_11 locs hm5 hc_10 hS => ?_)
      have hm0 := hc_10.at hm0 (xn1 (hO.ne (i := 0) (j := 5) (by omega) (by omega) (by omega)))
      have hm1 := hc_10.at hm1 (xn1 (hO.ne (i := 1) (j := 5) (by omega) (by omega) (by omega)))
      have hm2 := hc_10.at hm2 (xn1 (hO.ne (i := 2) (j := 5) (by omega) (by omega) (by omega)))
      have hm3 := hc_10.at hm3 (xn1 (hO.ne (i := 3) (j := 5) (by omega) (by omega) (by omega)))
      have hm4 := hc_10.at hm4 (xn1 (hO.ne (i := 4) (j := 5) (by omega) (by omega) (by omega)))
      have hm6 := hc_10.at hm6 (xn1 (hO.ne (i := 6) (j := 5) (by omega) (by omega) (by omega)))
      have hm7 := hc_10.at hm7 (xn1 (hO.ne (i := 7) (j := 5) (by omega) (by omega) (by omega)))
      have hm8 := hc_10.at hm8 (xn1 (hO.ne (i := 8) (j := 5) (by omega) (by omega) (by omega)))
      have hm9 := hc_10.at hm9 (xn1 (hO.ne (i := 9) (j := 5) (by omega) (by omega) (by omega)))
      have hm10 := hc_10.at hm10 (xn1 (hO.ne (i := 10) (j := 5) (by omega) (by omega) (by omega)))
      have hm5 : zA G (ad 5) 17 (fun j => xb (va_up (zF S) j9 false j)) H_11 := by rw [← mup_b]; exact hm5
      refine lv_iload_n hx hb dX5_allow_35 rfl (lv_at hl 0 rfl) ?_
      exact x_iret (G := G) hx hb hr (xb_nar _) dX5_allow_36 hlocks hS (by first | exact Nat.le_of_ble_eq_true rfl | exact (show 0 ≤ 0 by omega)) (by first | exact Nat.le_of_ble_eq_true rfl | exact (show 0 ≤ 0 by omega)) (by exact mP0 (kval_j S hj9) (by rw [nI_clamp (show j9 < 2 ^ 31 by omega)]; exact (MX_Y.mpr (show MY G ad (zN S) (zK S) (zP S) (zL S) (zU S) (zV S) (zI S) (va_up (zF S) j9 false) (zO S) (zT S) tp 0 g wo z H_11 from ⟨hO, hm0, hm1, hm2, hm3, hm4, hm5, hm6, hm7, hm8, hm9, hm10⟩))) (by rw [nI_clamp (show j9 < 2 ^ 31 by omega)]))
    · have _ := hx
      have c_9 : 1 = 0 := (nI_eq (a := 1) (b := 0) (by omega) (by omega)).mp c_9
      exact absurd c_9 (by decide)

set_option maxHeartbeats 200000 in
set_option maxRecDepth 100000 in
/-- tell(one, two) -/
theorem c_X5_tell (l : Launch) (hfl : l.stackTraces = false) (G : xG) (ad : Nat → Nat) (S : zS) (tp th : Nat) (g : Nat → Int) (wo : Nat → Int32) (z : Nat → Bool) (p9 q9 : Int32) (H : Heap) (hM : MX G ad S tp th g wo z H) (hW : zW S) : xMet l G yX5_tell wsX5_tell ({ frames := 2, cells := 0, slots := 0, locals := 42 } : Room) [.ref (ad 0), .int p9, .int q9] H (mPost G ad (ktell S p9 q9) (nI (zK S + 1)) S (ztell S p9.toNatClampNeg q9.toNatClampNeg)) (xNo) := by
  refine vx_ofW (cc := cX5_tell) (maxL := 3) (ret := (some .int)) (by decide) rfl ?_
  intro Pg Ev s m args below meth c s₁ B hml hout hv
  obtain ⟨rfl, hH, hC⟩ := hv
  have hx := B.exec
  have hb := B.bytes
  have hr := B.returns
  have hts := atoms_spec (ws := wsX5_tell) B.pre
  have hown : s.vm.findClass RX5 = some m.cls := findClass_of_methodNamed B.named
  have hlocks := B.notSynchronized
  rw [hH]
  have hS : va_S (xA G) s.heap H [] := by rw [← hH]; exact va_S.rf
  generalize ([] : List Loc) = locs at hS ⊢
  have hl := lv_entry [.ref (ad 0), .int p9, .int q9] (n := 3) (Nat.le_of_ble_eq_true rfl)
  rw [lg_entry_eq]
  generalize (lg_sl [.ref (ad 0), .int p9, .int q9] ++ List.replicate (3 - (lg_sl [.ref (ad 0), .int p9, .int q9]).length) Slot.unset).toArray = ls at hl ⊢
  have hl : lv_has ls 3 [(0, .ref (ad 0)), (1, .int p9), (2, .int q9)] := hl
  obtain ⟨hO, hm0, hm1, hm2, hm3, hm4, hm5, hm6, hm7, hm8, hm9, hm10⟩ := id hM
  have hn20 := hW.1
  have hK6 : zK S ≤ 6 := hW.2.2.2.2.2.2.2.1
  refine lv_aload_n hx hb dX5_tell_0 rfl (lv_at hl 0 rfl) ?_
  refine lv_iload_n hx hb dX5_tell_1 rfl (lv_at hl 1 rfl) ?_
  refine x_intE (vx_runS (As := [.int p9]) (rest := [.ref (ad 0)]) ⟨hx, hb, hml, hown, hts⟩ (c_X5_isValue l hfl G p9 H) (va_cwS 1 hts gX5_tell_X5_isValue rfl rfl rfl (by decide +kernel) ⟨(Nat.le_of_ble_eq_true rfl), (Nat.le_of_ble_eq_true rfl)⟩) (xPreS hC hS) rfl rfl hl.1 rfl (lv_room (Nat.le_of_ble_eq_true rfl)) dX5_tell_2 ⟨(by first | exact Nat.le_of_ble_eq_true rfl | exact (show 0 + 0 ≤ 0 by omega)), (by first | exact Nat.le_of_ble_eq_true rfl | exact (show 0 + 0 ≤ 0 by omega))⟩) hS (fun locs hS => ?_)
  refine lv_if_eq (tgt := 15) hx hb dX5_tell_5 (by decide) (fun c_1 => ?_) (fun c_1 => ?_)
  · have _ := hx
    have hk_p9 : xok p9 100 = false := xb_0.mp (by first | exact c_1 | exact Classical.not_not.mp c_1)
    refine lv_iconst (v := (nI 1)) hx hb dX5_tell_15 (by decide) ?_
    refine lv_goto (tgt := 33) hx hb dX5_tell_16 (by decide) ?_
    have hsz := hS.1
    refine x_call (px := xNo) (vx_runV (As := [.int (nI 1)]) (rest := []) ⟨hx, hb, hml, hown, hts⟩ (c_X5_goesk l hfl G ad S tp th g wo z 1 H ⟨hO, hm0, hm1, hm2, hm3, hm4, hm5, hm6, hm7, hm8, hm9, hm10⟩ (by decide)) (cwV 1 hts gX5_tell_X5_goes rfl rfl rfl (by decide +kernel) ⟨(Nat.le_of_ble_eq_true rfl), (Nat.le_of_ble_eq_true rfl)⟩) (xPreV hC hS hm0 (q := (RX5, TX5, 14)) rfl) rfl rfl hl.1 rfl (lv_room (Nat.le_of_ble_eq_true rfl)) dX5_tell_33 ⟨(by first | exact Nat.le_of_ble_eq_true rfl | exact (show 0 + 0 ≤ 0 by omega)), (by first | exact Nat.le_of_ble_eq_true rfl | exact (show 0 + 0 ≤ 0 by omega))⟩) hS (fun _ h => h) (fun _ _ _ _ _ h => False.elim h) (fun v H_2 locs hp hz hk_3 hS => ?_)
    obtain ⟨rfl, hMM4⟩ := hp
    obtain ⟨-, hm0, hm1, hm2, hm3, hm4, hm5, hm6, hm7, hm8, hm9, hm10⟩ := id hMM4
    refine lv_if_ne (tgt := 41) hx hb dX5_tell_36 (by decide) (fun c_5 => ?_) (fun c_5 => ?_)
    · have _ := hx
      have c_5 : ¬ (0 = 0) := fun z => c_5 ((nI_eq (a := 0) (b := 0) (by omega) (by omega)).mpr z)
      exact absurd c_5 (by decide)
    · have _ := hx
      have c_5 : 0 = 0 := (nI_eq (a := 0) (b := 0) (by omega) (by omega)).mp c_5
      refine lv_iconst (v := (nI 0)) hx hb dX5_tell_39 (by decide) ?_
      exact x_iret (G := G) hx hb hr rfl dX5_tell_40 hlocks hS (by first | exact Nat.le_of_ble_eq_true rfl | exact (show 0 ≤ 0 by omega)) (by first | exact Nat.le_of_ble_eq_true rfl | exact (show 0 ≤ 0 by omega)) (by exact mP1 0 (by unfold ktell; rw [if_neg (fun q => by first | (rw [hk_p9] at q; cases q.1) | (rw [hk_q9] at q; cases q.2))]) ⟨hO, hm0, hm1, hm2, hm3, hm4, hm5, hm6, hm7, hm8, hm9, hm10⟩)
  · have _ := hx
    obtain ⟨v9, hv9, rfl⟩ := xok_of (xb_1 (by first | exact c_1 | exact fun q => absurd q c_1)) (by omega)
    refine lv_iload_n hx hb dX5_tell_8 rfl (lv_at hl 2 rfl) ?_
    refine x_intE (vx_runS (As := [.int q9]) (rest := [.ref (ad 0)]) ⟨hx, hb, hml, hown, hts⟩ (c_X5_isValue l hfl G q9 H) (va_cwS 1 hts gX5_tell_X5_isValue rfl rfl rfl (by decide +kernel) ⟨(Nat.le_of_ble_eq_true rfl), (Nat.le_of_ble_eq_true rfl)⟩) (xPreS hC hS) rfl rfl hl.1 rfl (lv_room (Nat.le_of_ble_eq_true rfl)) dX5_tell_9 ⟨(by first | exact Nat.le_of_ble_eq_true rfl | exact (show 0 + 0 ≤ 0 by omega)), (by first | exact Nat.le_of_ble_eq_true rfl | exact (show 0 + 0 ≤ 0 by omega))⟩) hS (fun locs hS => ?_)
    refine lv_if_ne (tgt := 19) hx hb dX5_tell_12 (by decide) (fun c_6 => ?_) (fun c_6 => ?_)
    · have _ := hx
      obtain ⟨w9, hw9, rfl⟩ := xok_of (xb_1 (by first | exact c_6 | exact fun q => absurd q c_6)) (by omega)
      refine lv_aload_n hx hb dX5_tell_19 rfl (lv_at hl 0 rfl) ?_
      refine va_get (D := xD G) (ci := 6) (v := .int (nI (zK S))) (C := RX5) (T := TX5) (N := 14) hx hb hts (by decide +kernel) hown hC.1 (x1 hm0) 0 rfl rfl 6 (by decide) (hts (.fieldLink RX5 105 "BidwhistleModel" "pairs" "I") (by decide +kernel)) (fun _ h9 => h9) rfl dX5_tell_20 ?_
      refine lv_bipush (v := (nI 6)) hx hb dX5_tell_23 (by decide) ?_
      refine lv_icmp_ne (tgt := 32) hx hb dX5_tell_25 (by decide) (fun c_7 => ?_) (fun c_7 => ?_)
      · have _ := hx
        have c_7 : ¬ ((zK S) = 6) := fun z => c_7 ((nI_eq (a := (zK S)) (b := 6) (by omega) (by omega)).mpr z)
        refine lv_iconst (v := (nI 0)) hx hb dX5_tell_32 (by decide) ?_
        have hsz := hS.1
        refine x_call (px := xNo) (vx_runV (As := [.int (nI 0)]) (rest := []) ⟨hx, hb, hml, hown, hts⟩ (c_X5_goes0 l hfl G ad S tp th g wo z 0 H ⟨hO, hm0, hm1, hm2, hm3, hm4, hm5, hm6, hm7, hm8, hm9, hm10⟩ rfl) (cwV 1 hts gX5_tell_X5_goes rfl rfl rfl (by decide +kernel) ⟨(Nat.le_of_ble_eq_true rfl), (Nat.le_of_ble_eq_true rfl)⟩) (xPreV hC hS hm0 (q := (RX5, TX5, 14)) rfl) rfl rfl hl.1 rfl (lv_room (Nat.le_of_ble_eq_true rfl)) dX5_tell_33 ⟨(by first | exact Nat.le_of_ble_eq_true rfl | exact (show 0 + 0 ≤ 0 by omega)), (by first | exact Nat.le_of_ble_eq_true rfl | exact (show 0 + 0 ≤ 0 by omega))⟩) hS (fun _ h => h) (fun _ _ _ _ _ h => False.elim h) (fun v H_8 locs hp hz hk_9 hS => ?_)
        obtain ⟨rfl, hMM10⟩ := hp
        obtain ⟨-, hm0, hm1, hm2, hm3, hm4, hm5, hm6, hm7, hm8, hm9, hm10⟩ := id hMM10
        refine lv_if_ne (tgt := 41) hx hb dX5_tell_36 (by decide) (fun c_11 => ?_) (fun c_11 => ?_)
        · have _ := hx
          have c_11 : ¬ (1 = 0) := fun z => c_11 ((nI_eq (a := 1) (b := 0) (by omega) (by omega)).mpr z)
          refine lv_aload_n hx hb dX5_tell_41 rfl (lv_at hl 0 rfl) ?_
          refine va_get (D := xD G) (ci := 6) (v := .ref (ad 6)) (C := RX5) (T := TX5) (N := 14) hx hb hts (by decide +kernel) hown hC.1 (x1 hm0) 0 rfl rfl 7 (by decide) (hts (.fieldLink RX5 26 "BidwhistleModel" "ones" "[I") (by decide +kernel)) (fun _ h9 => h9) rfl dX5_tell_42 ?_
          refine lv_aload_n hx hb dX5_tell_45 rfl (lv_at hl 0 rfl) ?_
          refine va_get (D := xD G) (ci := 6) (v := .int (nI (zK S))) (C := RX5) (T := TX5) (N := 14) hx hb hts (by decide +kernel) hown hC.1 (x1 hm0) 0 rfl rfl 6 (by decide) (hts (.fieldLink RX5 105 "BidwhistleModel" "pairs" "I") (by decide +kernel)) (fun _ h9 => h9) rfl dX5_tell_46 ?_
          refine lv_iload_n hx hb dX5_tell_49 rfl (lv_at hl 1 rfl) ?_
          refine x_iastn (G := G) (j := (zK S)) hx hb hC hS (hO.2 6 (by omega) (by omega)) hm6 (by omega) (by first | decide | omega) dX5_tell_50 (fun H_13 locs hm6 hc_12 hS => ?_)
          have hm0 := hc_12.at hm0 (xn1 (hO.ne (i := 0) (j := 6) (by omega) (by omega) (by omega)))
          have hm1 := hc_12.at hm1 (xn1 (hO.ne (i := 1) (j := 6) (by omega) (by omega) (by omega)))
          have hm2 := hc_12.at hm2 (xn1 (hO.ne (i := 2) (j := 6) (by omega) (by omega) (by omega)))
          have hm3 := hc_12.at hm3 (xn1 (hO.ne (i := 3) (j := 6) (by omega) (by omega) (by omega)))
          have hm4 := hc_12.at hm4 (xn1 (hO.ne (i := 4) (j := 6) (by omega) (by omega) (by omega)))
          have hm5 := hc_12.at hm5 (xn1 (hO.ne (i := 5) (j := 6) (by omega) (by omega) (by omega)))
          have hm7 := hc_12.at hm7 (xn1 (hO.ne (i := 7) (j := 6) (by omega) (by omega) (by omega)))
          have hm8 := hc_12.at hm8 (xn1 (hO.ne (i := 8) (j := 6) (by omega) (by omega) (by omega)))
          have hm9 := hc_12.at hm9 (xn1 (hO.ne (i := 9) (j := 6) (by omega) (by omega) (by omega)))
          have hm10 := hc_12.at hm10 (xn1 (hO.ne (i := 10) (j := 6) (by omega) (by omega) (by omega)))
          have hm6 : iA G (ad 6) 6 (fun j => nI (va_up (zO S) (zK S) v9 j)) H_13 := by rw [upd_nI] at hm6; exact hm6
          refine lv_aload_n hx hb dX5_tell_51 rfl (lv_at hl 0 rfl) ?_
          refine va_get (D := xD G) (ci := 6) (v := .ref (ad 7)) (C := RX5) (T := TX5) (N := 14) hx hb hts (by decide +kernel) hown hC.1 (x1 hm0) 0 rfl rfl 8 (by decide) (hts (.fieldLink RX5 29 "BidwhistleModel" "twos" "[I") (by decide +kernel)) (fun _ h9 => h9) rfl dX5_tell_52 ?_
          refine lv_aload_n hx hb dX5_tell_55 rfl (lv_at hl 0 rfl) ?_
          refine va_get (D := xD G) (ci := 6) (v := .int (nI (zK S))) (C := RX5) (T := TX5) (N := 14) hx hb hts (by decide +kernel) hown hC.1 (x1 hm0) 0 rfl rfl 6 (by decide) (hts (.fieldLink RX5 105 "BidwhistleModel" "pairs" "I") (by decide +kernel)) (fun _ h9 => h9) rfl dX5_tell_56 ?_
          refine lv_iload_n hx hb dX5_tell_59 rfl (lv_at hl 2 rfl) ?_
          refine x_iastn (G := G) (j := (zK S)) hx hb hC hS (hO.2 7 (by omega) (by omega)) hm7 (by omega) (by first | decide | omega) dX5_tell_60 (fun H_15 locs hm7 hc_14 hS => ?_)
          have hm0 := hc_14.at hm0 (xn1 (hO.ne (i := 0) (j := 7) (by omega) (by omega) (by omega)))
          have hm1 := hc_14.at hm1 (xn1 (hO.ne (i := 1) (j := 7) (by omega) (by omega) (by omega)))
          have hm2 := hc_14.at hm2 (xn1 (hO.ne (i := 2) (j := 7) (by omega) (by omega) (by omega)))
          have hm3 := hc_14.at hm3 (xn1 (hO.ne (i := 3) (j := 7) (by omega) (by omega) (by omega)))
          have hm4 := hc_14.at hm4 (xn1 (hO.ne (i := 4) (j := 7) (by omega) (by omega) (by omega)))
          have hm5 := hc_14.at hm5 (xn1 (hO.ne (i := 5) (j := 7) (by omega) (by omega) (by omega)))
          have hm6 := hc_14.at hm6 (xn1 (hO.ne (i := 6) (j := 7) (by omega) (by omega) (by omega)))
          have hm8 := hc_14.at hm8 (xn1 (hO.ne (i := 8) (j := 7) (by omega) (by omega) (by omega)))
          have hm9 := hc_14.at hm9 (xn1 (hO.ne (i := 9) (j := 7) (by omega) (by omega) (by omega)))
          have hm10 := hc_14.at hm10 (xn1 (hO.ne (i := 10) (j := 7) (by omega) (by omega) (by omega)))
          have hm7 : iA G (ad 7) 6 (fun j => nI (va_up (zT S) (zK S) w9 j)) H_15 := by rw [upd_nI] at hm7; exact hm7
          refine lv_aload_n hx hb dX5_tell_61 rfl (lv_at hl 0 rfl) ?_
          refine lv_dup hx hb dX5_tell_62 rfl ?_
          refine va_get (D := xD G) (ci := 6) (v := .int (nI (zK S))) (C := RX5) (T := TX5) (N := 14) hx hb hts (by decide +kernel) hown hC.1 (x1 hm0) 0 rfl rfl 6 (by decide) (hts (.fieldLink RX5 105 "BidwhistleModel" "pairs" "I") (by decide +kernel)) (fun _ h9 => h9) rfl dX5_tell_63 ?_
          refine lv_iconst (v := (nI 1)) hx hb dX5_tell_66 (by decide) ?_
          refine x_iaddn (a := (zK S)) (b := 1) hx hb dX5_tell_67 ?_
          refine x_put (G := G) (ci := 6) (v := .int (nI (((zK S)) + 1))) (ty := .int) (C := RX5) (T := TX5) (N := 14) hx hb hts (by decide +kernel) tyX5 tyX5_ok nmX5 hown hC hS (hO.2 0 (by omega) (by omega)) hm0 rfl 6 (by decide) (hts (.fieldLink RX5 105 "BidwhistleModel" "pairs" "I") (by decide +kernel)) (fun _ h9 => h9) rfl (by decide +kernel) rfl rfl (Nat.le_of_ble_eq_true rfl) dX5_tell_68 (fun H_17 locs hm0 hc_16 hS => ?_)
          have hm0 : oA G (ad 0) 6 [.ref (ad 1), .ref (ad 2), .int (nI (zN S)), .ref (ad 3), .ref (ad 4), .ref (ad 5), .int (nI (((zK S)) + 1)), .ref (ad 6), .ref (ad 7), .ref (ad 8), .int (nI tp), .ref (ad 9), .ref (ad 10), .int (nI 0)] H_17 := hm0
          have hm1 := hc_16.at hm1 (xn1 (hO.ne (i := 1) (j := 0) (by omega) (by omega) (by omega)))
          have hm2 := hc_16.at hm2 (xn1 (hO.ne (i := 2) (j := 0) (by omega) (by omega) (by omega)))
          have hm3 := hc_16.at hm3 (xn1 (hO.ne (i := 3) (j := 0) (by omega) (by omega) (by omega)))
          have hm4 := hc_16.at hm4 (xn1 (hO.ne (i := 4) (j := 0) (by omega) (by omega) (by omega)))
          have hm5 := hc_16.at hm5 (xn1 (hO.ne (i := 5) (j := 0) (by omega) (by omega) (by omega)))
          have hm6 := hc_16.at hm6 (xn1 (hO.ne (i := 6) (j := 0) (by omega) (by omega) (by omega)))
          have hm7 := hc_16.at hm7 (xn1 (hO.ne (i := 7) (j := 0) (by omega) (by omega) (by omega)))
          have hm8 := hc_16.at hm8 (xn1 (hO.ne (i := 8) (j := 0) (by omega) (by omega) (by omega)))
          have hm9 := hc_16.at hm9 (xn1 (hO.ne (i := 9) (j := 0) (by omega) (by omega) (by omega)))
          have hm10 := hc_16.at hm10 (xn1 (hO.ne (i := 10) (j := 0) (by omega) (by omega) (by omega)))
          refine lv_aload_n hx hb dX5_tell_71 rfl (lv_at hl 0 rfl) ?_
          refine va_get (D := xD G) (ci := 6) (v := .int (nI (((zK S)) + 1))) (C := RX5) (T := TX5) (N := 14) hx hb hts (by decide +kernel) hown hC.1 (x1 hm0) 0 rfl rfl 6 (by decide) (hts (.fieldLink RX5 105 "BidwhistleModel" "pairs" "I") (by decide +kernel)) (fun _ h9 => h9) rfl dX5_tell_72 ?_
          exact x_iret (G := G) hx hb hr rfl dX5_tell_75 hlocks hS (by first | exact Nat.le_of_ble_eq_true rfl | exact (show 0 ≤ 0 by omega)) (by first | exact Nat.le_of_ble_eq_true rfl | exact (show 0 ≤ 0 by omega)) (by exact mP0 (by rw [ktell_j hv9 hw9]; exact if_neg (by omega)) (by rw [nI_clamp (show v9 < 2 ^ 31 by omega), nI_clamp (show w9 < 2 ^ 31 by omega)]; exact (MX_Y.mpr (show MY G ad (zN S) (zK S + 1) (zP S) (zL S) (zU S) (zV S) (zI S) (zF S) (va_up (zO S) (zK S) v9) (va_up (zT S) (zK S) w9) tp 0 g wo z H_17 from ⟨hO, hm0, hm1, hm2, hm3, hm4, hm5, hm6, hm7, hm8, hm9, hm10⟩))) rfl)
        · have _ := hx
          have c_11 : 1 = 0 := (nI_eq (a := 1) (b := 0) (by omega) (by omega)).mp c_11
          exact absurd c_11 (by decide)
      · have _ := hx
        have c_7 : (zK S) = 6 := (nI_eq (a := (zK S)) (b := 6) (by omega) (by omega)).mp c_7
        refine lv_iconst (v := (nI 2)) hx hb dX5_tell_28 (by decide) ?_
        refine lv_goto (tgt := 33) hx hb dX5_tell_29 (by decide) ?_
        have hsz := hS.1
        refine x_call (px := xNo) (vx_runV (As := [.int (nI 2)]) (rest := []) ⟨hx, hb, hml, hown, hts⟩ (c_X5_goesk l hfl G ad S tp th g wo z 2 H ⟨hO, hm0, hm1, hm2, hm3, hm4, hm5, hm6, hm7, hm8, hm9, hm10⟩ (by decide)) (cwV 1 hts gX5_tell_X5_goes rfl rfl rfl (by decide +kernel) ⟨(Nat.le_of_ble_eq_true rfl), (Nat.le_of_ble_eq_true rfl)⟩) (xPreV hC hS hm0 (q := (RX5, TX5, 14)) rfl) rfl rfl hl.1 rfl (lv_room (Nat.le_of_ble_eq_true rfl)) dX5_tell_33 ⟨(by first | exact Nat.le_of_ble_eq_true rfl | exact (show 0 + 0 ≤ 0 by omega)), (by first | exact Nat.le_of_ble_eq_true rfl | exact (show 0 + 0 ≤ 0 by omega))⟩) hS (fun _ h => h) (fun _ _ _ _ _ h => False.elim h) (fun v H_18 locs hp hz hk_19 hS => ?_)
        obtain ⟨rfl, hMM20⟩ := hp
        obtain ⟨-, hm0, hm1, hm2, hm3, hm4, hm5, hm6, hm7, hm8, hm9, hm10⟩ := id hMM20
        refine lv_if_ne (tgt := 41) hx hb dX5_tell_36 (by decide) (fun c_21 => ?_) (fun c_21 => ?_)
        · have _ := hx
          have c_21 : ¬ (0 = 0) := fun z => c_21 ((nI_eq (a := 0) (b := 0) (by omega) (by omega)).mpr z)
          exact absurd c_21 (by decide)
        · have _ := hx
          have c_21 : 0 = 0 := (nI_eq (a := 0) (b := 0) (by omega) (by omega)).mp c_21
          refine lv_iconst (v := (nI 0)) hx hb dX5_tell_39 (by decide) ?_
          exact x_iret (G := G) hx hb hr rfl dX5_tell_40 hlocks hS (by first | exact Nat.le_of_ble_eq_true rfl | exact (show 0 ≤ 0 by omega)) (by first | exact Nat.le_of_ble_eq_true rfl | exact (show 0 ≤ 0 by omega)) (by exact mP1 1 (by rw [ktell_j hv9 hw9]; exact if_pos (by omega)) ⟨hO, hm0, hm1, hm2, hm3, hm4, hm5, hm6, hm7, hm8, hm9, hm10⟩)
    · have _ := hx
      have hk_q9 : xok q9 100 = false := xb_0.mp (by first | exact c_6 | exact Classical.not_not.mp c_6)
      refine lv_iconst (v := (nI 1)) hx hb dX5_tell_15 (by decide) ?_
      refine lv_goto (tgt := 33) hx hb dX5_tell_16 (by decide) ?_
      have hsz := hS.1
      refine x_call (px := xNo) (vx_runV (As := [.int (nI 1)]) (rest := []) ⟨hx, hb, hml, hown, hts⟩ (c_X5_goesk l hfl G ad S tp th g wo z 1 H ⟨hO, hm0, hm1, hm2, hm3, hm4, hm5, hm6, hm7, hm8, hm9, hm10⟩ (by decide)) (cwV 1 hts gX5_tell_X5_goes rfl rfl rfl (by decide +kernel) ⟨(Nat.le_of_ble_eq_true rfl), (Nat.le_of_ble_eq_true rfl)⟩) (xPreV hC hS hm0 (q := (RX5, TX5, 14)) rfl) rfl rfl hl.1 rfl (lv_room (Nat.le_of_ble_eq_true rfl)) dX5_tell_33 ⟨(by first | exact Nat.le_of_ble_eq_true rfl | exact (show 0 + 0 ≤ 0 by omega)), (by first | exact Nat.le_of_ble_eq_true rfl | exact (show 0 + 0 ≤ 0 by omega))⟩) hS (fun _ h => h) (fun _ _ _ _ _ h => False.elim h) (fun v H_22 locs hp hz hk_23 hS => ?_)
      obtain ⟨rfl, hMM24⟩ := hp
      obtain ⟨-, hm0, hm1, hm2, hm3, hm4, hm5, hm6, hm7, hm8, hm9, hm10⟩ := id hMM24
      refine lv_if_ne (tgt := 41) hx hb dX5_tell_36 (by decide) (fun c_25 => ?_) (fun c_25 => ?_)
      · have _ := hx
        have c_25 : ¬ (0 = 0) := fun z => c_25 ((nI_eq (a := 0) (b := 0) (by omega) (by omega)).mpr z)
        exact absurd c_25 (by decide)
      · have _ := hx
        have c_25 : 0 = 0 := (nI_eq (a := 0) (b := 0) (by omega) (by omega)).mp c_25
        refine lv_iconst (v := (nI 0)) hx hb dX5_tell_39 (by decide) ?_
        exact x_iret (G := G) hx hb hr rfl dX5_tell_40 hlocks hS (by first | exact Nat.le_of_ble_eq_true rfl | exact (show 0 ≤ 0 by omega)) (by first | exact Nat.le_of_ble_eq_true rfl | exact (show 0 ≤ 0 by omega)) (by exact mP1 0 (by unfold ktell; rw [if_neg (fun q => by first | (rw [hk_p9] at q; cases q.1) | (rw [hk_q9] at q; cases q.2))]) ⟨hO, hm0, hm1, hm2, hm3, hm4, hm5, hm6, hm7, hm8, hm9, hm10⟩)

set_option maxHeartbeats 200000 in
set_option maxRecDepth 100000 in
/-- forget() -/
theorem c_X5_forget (l : Launch) (hfl : l.stackTraces = false) (G : xG) (ad : Nat → Nat) (S : zS) (tp th : Nat) (g : Nat → Int) (wo : Nat → Int32) (z : Nat → Bool) (H : Heap) (hM : MX G ad S tp th g wo z H) (hW : zW S) : xMet l G yX5_forget wsX5_forget ({ frames := 0, cells := 0, slots := 0, locals := 0 } : Room) [.ref (ad 0)] H (mPost G ad (0) (nI (zK S)) S (zforget S)) (xNo) := by
  refine vx_ofW (cc := cX5_forget) (maxL := 2) (ret := (some .int)) (by decide) rfl ?_
  intro Pg Ev s m args below meth c s₁ B hml hout hv
  obtain ⟨rfl, hH, hC⟩ := hv
  have hx := B.exec
  have hb := B.bytes
  have hr := B.returns
  have hts := atoms_spec (ws := wsX5_forget) B.pre
  have hown : s.vm.findClass RX5 = some m.cls := findClass_of_methodNamed B.named
  have hlocks := B.notSynchronized
  rw [hH]
  have hS : va_S (xA G) s.heap H [] := by rw [← hH]; exact va_S.rf
  generalize ([] : List Loc) = locs at hS ⊢
  have hl := lv_entry [.ref (ad 0)] (n := 2) (Nat.le_of_ble_eq_true rfl)
  rw [lg_entry_eq]
  generalize (lg_sl [.ref (ad 0)] ++ List.replicate (2 - (lg_sl [.ref (ad 0)]).length) Slot.unset).toArray = ls at hl ⊢
  have hl : lv_has ls 2 [(0, .ref (ad 0))] := hl
  obtain ⟨hO, hm0, hm1, hm2, hm3, hm4, hm5, hm6, hm7, hm8, hm9, hm10⟩ := id hM
  have hn20 := hW.1
  have hK6 : zK S ≤ 6 := hW.2.2.2.2.2.2.2.1
  refine lv_aload_n hx hb dX5_forget_0 rfl (lv_at hl 0 rfl) ?_
  refine lv_iconst (v := (nI 0)) hx hb dX5_forget_1 (by decide) ?_
  refine x_put (G := G) (ci := 6) (v := .int (nI 0)) (ty := .int) (C := RX5) (T := TX5) (N := 14) hx hb hts (by decide +kernel) tyX5 tyX5_ok nmX5 hown hC hS (hO.2 0 (by omega) (by omega)) hm0 rfl 13 (by decide) (hts (.fieldLink RX5 41 "BidwhistleModel" "thrown" "I") (by decide +kernel)) (fun _ h9 => h9) rfl (by decide +kernel) rfl rfl (Nat.le_of_ble_eq_true rfl) dX5_forget_2 (fun H_2 locs hm0 hc_1 hS => ?_)
  have hm0 : oA G (ad 0) 6 [.ref (ad 1), .ref (ad 2), .int (nI (zN S)), .ref (ad 3), .ref (ad 4), .ref (ad 5), .int (nI (zK S)), .ref (ad 6), .ref (ad 7), .ref (ad 8), .int (nI tp), .ref (ad 9), .ref (ad 10), .int (nI 0)] H_2 := hm0
  have hm1 := hc_1.at hm1 (xn1 (hO.ne (i := 1) (j := 0) (by omega) (by omega) (by omega)))
  have hm2 := hc_1.at hm2 (xn1 (hO.ne (i := 2) (j := 0) (by omega) (by omega) (by omega)))
  have hm3 := hc_1.at hm3 (xn1 (hO.ne (i := 3) (j := 0) (by omega) (by omega) (by omega)))
  have hm4 := hc_1.at hm4 (xn1 (hO.ne (i := 4) (j := 0) (by omega) (by omega) (by omega)))
  have hm5 := hc_1.at hm5 (xn1 (hO.ne (i := 5) (j := 0) (by omega) (by omega) (by omega)))
  have hm6 := hc_1.at hm6 (xn1 (hO.ne (i := 6) (j := 0) (by omega) (by omega) (by omega)))
  have hm7 := hc_1.at hm7 (xn1 (hO.ne (i := 7) (j := 0) (by omega) (by omega) (by omega)))
  have hm8 := hc_1.at hm8 (xn1 (hO.ne (i := 8) (j := 0) (by omega) (by omega) (by omega)))
  have hm9 := hc_1.at hm9 (xn1 (hO.ne (i := 9) (j := 0) (by omega) (by omega) (by omega)))
  have hm10 := hc_1.at hm10 (xn1 (hO.ne (i := 10) (j := 0) (by omega) (by omega) (by omega)))
  refine lv_aload_n hx hb dX5_forget_5 rfl (lv_at hl 0 rfl) ?_
  refine va_get (D := xD G) (ci := 6) (v := .int (nI (zK S))) (C := RX5) (T := TX5) (N := 14) hx hb hts (by decide +kernel) hown hC.1 (x1 hm0) 0 rfl rfl 6 (by decide) (hts (.fieldLink RX5 105 "BidwhistleModel" "pairs" "I") (by decide +kernel)) (fun _ h9 => h9) rfl dX5_forget_6 ?_
  refine lv_istore_n (lv' := [(1, .int (nI (zK S))), (0, .ref (ad 0))]) hx hb dX5_forget_9 rfl hl (by decide) rfl (fun ls hl => ?_)
  refine lv_aload_n hx hb dX5_forget_10 rfl (lv_at hl 1 rfl) ?_
  refine lv_iconst (v := (nI 0)) hx hb dX5_forget_11 (by decide) ?_
  refine x_put (G := G) (ci := 6) (v := .int (nI 0)) (ty := .int) (C := RX5) (T := TX5) (N := 14) hx hb hts (by decide +kernel) tyX5 tyX5_ok nmX5 hown hC hS (hO.2 0 (by omega) (by omega)) hm0 rfl 6 (by decide) (hts (.fieldLink RX5 105 "BidwhistleModel" "pairs" "I") (by decide +kernel)) (fun _ h9 => h9) rfl (by decide +kernel) rfl rfl (Nat.le_of_ble_eq_true rfl) dX5_forget_12 (fun H_4 locs hm0 hc_3 hS => ?_)
  have hm0 : oA G (ad 0) 6 [.ref (ad 1), .ref (ad 2), .int (nI (zN S)), .ref (ad 3), .ref (ad 4), .ref (ad 5), .int (nI 0), .ref (ad 6), .ref (ad 7), .ref (ad 8), .int (nI tp), .ref (ad 9), .ref (ad 10), .int (nI 0)] H_4 := hm0
  have hm1 := hc_3.at hm1 (xn1 (hO.ne (i := 1) (j := 0) (by omega) (by omega) (by omega)))
  have hm2 := hc_3.at hm2 (xn1 (hO.ne (i := 2) (j := 0) (by omega) (by omega) (by omega)))
  have hm3 := hc_3.at hm3 (xn1 (hO.ne (i := 3) (j := 0) (by omega) (by omega) (by omega)))
  have hm4 := hc_3.at hm4 (xn1 (hO.ne (i := 4) (j := 0) (by omega) (by omega) (by omega)))
  have hm5 := hc_3.at hm5 (xn1 (hO.ne (i := 5) (j := 0) (by omega) (by omega) (by omega)))
  have hm6 := hc_3.at hm6 (xn1 (hO.ne (i := 6) (j := 0) (by omega) (by omega) (by omega)))
  have hm7 := hc_3.at hm7 (xn1 (hO.ne (i := 7) (j := 0) (by omega) (by omega) (by omega)))
  have hm8 := hc_3.at hm8 (xn1 (hO.ne (i := 8) (j := 0) (by omega) (by omega) (by omega)))
  have hm9 := hc_3.at hm9 (xn1 (hO.ne (i := 9) (j := 0) (by omega) (by omega) (by omega)))
  have hm10 := hc_3.at hm10 (xn1 (hO.ne (i := 10) (j := 0) (by omega) (by omega) (by omega)))
  refine lv_iload_n hx hb dX5_forget_15 rfl (lv_at hl 0 rfl) ?_
  exact x_iret (G := G) hx hb hr rfl dX5_forget_16 hlocks hS (by first | exact Nat.le_of_ble_eq_true rfl | exact (show 0 ≤ 0 by omega)) (by first | exact Nat.le_of_ble_eq_true rfl | exact (show 0 ≤ 0 by omega)) (by exact mP0 rfl (MX_Y.mpr (show MY G ad (zN S) 0 (zP S) (zL S) (zU S) (zV S) (zI S) (zF S) (zO S) (zT S) tp 0 g wo z H_4 from ⟨hO, hm0, hm1, hm2, hm3, hm4, hm5, hm6, hm7, hm8, hm9, hm10⟩)) rfl)
