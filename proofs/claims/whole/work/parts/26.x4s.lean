/-! store, evolve -/
theorem XS.emptied {G : xG} {ad : Nat → Nat} {S : zS} {H H1 : Heap} {t : Nat → Nat} (hX : XS G ad S H) (hn20 : zN S ≤ 20) (hU9 : ∀ i, i < zN S → zU S i ≤ i ∧ zV S i ≤ i) (hc : xC [ad 1] H H1) (hp : pA G (ad 1) (ad 2) (ad 3) t 0 H1) : XS G ad (zset S 0 (zP S 20)) H1 := by
  obtain ⟨hO, ⟨fb, hfb, hx0⟩, ⟨td, hdr⟩, ⟨tc, nc, hch⟩, ⟨gs, ds, hsk⟩, ⟨m9, k9, a9, hl9⟩, ⟨f1, f2, hpr⟩, ⟨fr1, hr1⟩, ⟨fr2, hr2⟩, ⟨fr3, hr3⟩, ⟨kp, hkp, hst⟩⟩ := id hX
  obtain ⟨q0, q1, q2, q3, q4, q5, q6, q7⟩ := zkeep (S := S) (ls := [1]) hO hc (by decide)
  refine ⟨hO, ⟨fb, hfb, q0 _ _ (by decide) hx0⟩, ⟨t, by rw [zset_L]; exact hp, fun k hk => ?_⟩, ⟨tc, nc, q2 _ _ (by decide) hch⟩, ⟨gs, ds, q3 _ _ (by decide) hsk⟩, ⟨m9, k9, a9, q4 _ _ _ _ (by decide) hl9⟩, ⟨f1, f2, q5 _ _ _ (by decide) hpr⟩, ⟨fr1, q6 16 _ (by decide) (by decide) hr1⟩, ⟨fr2, q6 18 _ (by decide) (by decide) hr2⟩, ⟨fr3, q6 20 _ (by decide) (by decide) hr3⟩, ⟨kp, hkp.to (zsEq_set hn20) rfl, fun i hi => (q7 _ _ i hi (hst i hi)).to (zsEq_set hn20) hU9 hi rfl⟩⟩
  rw [zset_L] at hk
  exact absurd hk (Nat.not_lt_zero k)
theorem zP_kept {S : zS} {t : Nat → Nat} {n u v : Nat} (hn : zN S < 20) : zP (zkept S t n u v) 20 = zP S 20 := va_up_ne _ _ (by omega)
theorem kstore_1 {S : zS} (h : xright (zP S 20) (zL S 20) = false) : kstore S = 1 := by unfold kstore; rw [h]; rfl
theorem kstore_2 {S : zS} (h : xright (zP S 20) (zL S 20) = true) (h2 : zfnd S (zP S 20) (zL S 20) (zN S) = 0) (h3 : zN S = 20) : kstore S = 2 := by unfold kstore; rw [if_pos h, if_pos ⟨h2, h3⟩]
theorem kstore_0 {S : zS} (h : xright (zP S 20) (zL S 20) = true) (h2 : ¬ (zfnd S (zP S 20) (zL S 20) (zN S) = 0 ∧ zN S = 20)) : kstore S = 0 := by unfold kstore; rw [if_pos h, if_neg h2]
theorem kevolve_2 {S : zS} {j : Nat} (hj : j < 4) (h : xct (zI S) (zN S) < 3 ∨ zN S = 20) : kevolve S (nI j) = 2 := by unfold kevolve; rw [if_pos (xok_nI hj (by decide)), if_pos h]
theorem kevolve_0 {S : zS} {j : Nat} (hj : j < 4) (h : ¬ (xct (zI S) (zN S) < 3 ∨ zN S = 20)) : kevolve S (nI j) = 0 := by unfold kevolve; rw [if_pos (xok_nI hj (by decide)), if_neg h]
theorem zlet_1 {S : zS} {t : Nat → Nat} {n u v : Nat} (h : xright t n = false ∨ xany t n (zF S) 17 = true) : zlet S t n u v = (-1, S) := if_pos h
theorem zlet_2 {S : zS} {t : Nat → Nat} {n u v : Nat} (h : ¬ (xright t n = false ∨ xany t n (zF S) 17 = true)) (h2 : zfnd S t n (zN S) ≠ 0) (h3 : zI S (zfnd S t n (zN S) - 1) = true) : zlet S t n u v = (-1, S) := by unfold zlet; rw [if_neg h, if_pos h2, if_pos h3]
theorem zlet_3 {S : zS} {t : Nat → Nat} {n u v : Nat} (h : ¬ (xright t n = false ∨ xany t n (zF S) 17 = true)) (h2 : zfnd S t n (zN S) ≠ 0) (h3 : zI S (zfnd S t n (zN S) - 1) = false) : zlet S t n u v = (nI (zfnd S t n (zN S) - 1), zpool S (zfnd S t n (zN S) - 1) true) := by unfold zlet; rw [if_neg h, if_pos h2, if_neg (by rw [h3]; decide)]
theorem zlet_4 {S : zS} {t : Nat → Nat} {n u v : Nat} (h : ¬ (xright t n = false ∨ xany t n (zF S) 17 = true)) (h2 : zfnd S t n (zN S) = 0) : zlet S t n u v = (nI (zN S), zpool (zkept S t n u v) (zN S) true) := by unfold zlet; rw [if_neg h, if_neg (fun z => z h2)]
set_option maxHeartbeats 4000000 in
set_option maxRecDepth 100000 in
/-- strategyAt(number) of a strategy -/
theorem c_X4_strat_ok (l : Launch) (hfl : l.stackTraces = false) (G : xG) (ad : Nat → Nat) (S : zS) (kp : Nat → Nat) (m9 fb : Int32) (k9 : Nat) (a9 : Nat → Option Nat) (j9 : Nat) (H : Heap) (hx0 : xB G ad fb (zK S) H) (hl9 : zList G ad (zN S) m9 k9 a9 H) (hW : zW S) (hst : ∀ i, i < zN S → zStrat G ad S kp i H) (hj9 : j9 < zN S) : xMet l G yX4_strategyAt wsX4_strategyAt ({ frames := 3, cells := 0, slots := 0, locals := 64 } : Room) [.ref (ad 0), .int (nI j9)] H (fun v H1 => H = H1 ∧ v = some (.ref (ad (22 + 6 * j9)))) (xNo) := by
  refine vx_ofW (cc := cX4_strategyAt) (maxL := 2) (ret := (some (.object "Bidwhistle$Strategy"))) (by decide) rfl ?_
  intro Pg Ev s m args below meth c s₁ B hml hout hv
  obtain ⟨rfl, hH, hC⟩ := hv
  have hx := B.exec
  have hb := B.bytes
  have hr := B.returns
  have hts := atoms_spec (ws := wsX4_strategyAt) B.pre
  have hown : s.vm.findClass RX4 = some m.cls := findClass_of_methodNamed B.named
  have hlocks := B.notSynchronized
  rw [hH]
  have hS : va_S (xA G) s.heap H [] := by rw [← hH]; exact va_S.rf
  generalize ([] : List Loc) = locs at hS ⊢
  have hl := lv_entry [.ref (ad 0), .int (nI j9)] (n := 2) (Nat.le_of_ble_eq_true rfl)
  rw [lg_entry_eq]
  generalize (lg_sl [.ref (ad 0), .int (nI j9)] ++ List.replicate (2 - (lg_sl [.ref (ad 0), .int (nI j9)]).length) Slot.unset).toArray = ls at hl ⊢
  have hl : lv_has ls 2 [(0, .ref (ad 0)), (1, .int (nI j9))] := hl
  have hl0 := hl9.1.1
  have hn20 := hW.1
  refine lv_iload_n hx hb dX4_strategyAt_0 rfl (lv_at hl 1 rfl) ?_
  refine lv_if_lt (tgt := 15) hx hb dX4_strategyAt_1 (by decide) (fun c_1 => ?_) (fun c_1 => ?_)
  · have _ := hx
    have c_1 : j9 < 0 := (nI_ltI (a := j9) (b := 0) (by omega) (by omega)).mp c_1
    exact absurd c_1 (by omega)
  · have _ := hx
    have c_1 : ¬ (j9 < 0) := fun z => c_1 ((nI_ltI (a := j9) (b := 0) (by omega) (by omega)).mpr z)
    refine lv_iload_n hx hb dX4_strategyAt_4 rfl (lv_at hl 1 rfl) ?_
    refine lv_aload_n hx hb dX4_strategyAt_5 rfl (lv_at hl 0 rfl) ?_
    refine va_get (D := xD G) (ci := 5) (v := .ref (ad 10)) (C := RX4) (T := TX4) (N := 11) hx hb hts (by decide +kernel) hown hC.1 (x1 hx0) 0 rfl rfl 3 (by decide) (hts (.fieldLink RX4 29 "Bidwhistle" "strategies" "Ljava/util/ArrayList;") (by decide +kernel)) (fun _ h9 => h9) rfl dX4_strategyAt_6 ?_
    refine x_intE (vx_runV (As := []) (rest := [.int (nI j9)]) ⟨hx, hb, hml, hown, hts⟩ (c_Jx4a65c_size_8abf5 l hfl G (ad 10) (ad 11) (zN S) m9 H hl0) (cwV 0 hts gX4_strategyAt_Jx4a65c_size_8abf5 rfl rfl rfl (by decide +kernel) ⟨(Nat.le_of_ble_eq_true rfl), (Nat.le_of_ble_eq_true rfl)⟩) (xPreV hC hS hl0 (q := (RJx4a65c, TJx4a65c, 3)) rfl) rfl rfl hl.1 rfl (lv_room (Nat.le_of_ble_eq_true rfl)) dX4_strategyAt_9 ⟨(by first | exact Nat.le_of_ble_eq_true rfl | exact (show 0 + 0 ≤ 0 by omega)), (by first | exact Nat.le_of_ble_eq_true rfl | exact (show 0 + 0 ≤ 0 by omega))⟩) hS (fun locs hS => ?_)
    refine lv_icmp_lt (tgt := 25) hx hb dX4_strategyAt_12 (by decide) (fun c_2 => ?_) (fun c_2 => ?_)
    · have _ := hx
      have c_2 : j9 < (zN S) := (nI_ltI (a := j9) (b := (zN S)) (by omega) (by omega)).mp c_2
      refine lv_aload_n hx hb dX4_strategyAt_25 rfl (lv_at hl 0 rfl) ?_
      refine va_get (D := xD G) (ci := 5) (v := .ref (ad 10)) (C := RX4) (T := TX4) (N := 11) hx hb hts (by decide +kernel) hown hC.1 (x1 hx0) 0 rfl rfl 3 (by decide) (hts (.fieldLink RX4 29 "Bidwhistle" "strategies" "Ljava/util/ArrayList;") (by decide +kernel)) (fun _ h9 => h9) rfl dX4_strategyAt_26 ?_
      refine lv_iload_n hx hb dX4_strategyAt_29 rfl (lv_at hl 1 rfl) ?_
      have hq := lA.q hl9.1 (show j9 < zN S by omega)
      refine x_refE (vx_runV (As := [.int (nI j9)]) (rest := []) ⟨hx, hb, hml, hown, hts⟩ (c_Jx4a65c_get_915e3 l hfl G (ad 10) (ad 11) (zN S) k9 j9 (ad (22 + 6 * j9)) m9 a9 H hl0 hq.1 (by omega) hq.2.1 hq.2.2 (hl9.2 j9 (by omega))) (cwV 1 hts gX4_strategyAt_Jx4a65c_get_915e3 rfl rfl rfl (by decide +kernel) ⟨(Nat.le_of_ble_eq_true rfl), (Nat.le_of_ble_eq_true rfl)⟩) (xPreV hC hS hl0 (q := (RJx4a65c, TJx4a65c, 3)) rfl) rfl rfl hl.1 rfl (lv_room (Nat.le_of_ble_eq_true rfl)) dX4_strategyAt_30 ⟨(by first | exact Nat.le_of_ble_eq_true rfl | exact (show 0 + 0 ≤ 0 by omega)), (by first | exact Nat.le_of_ble_eq_true rfl | exact (show 0 + 0 ≤ 0 by omega))⟩) hS (fun locs hS => ?_)
      obtain ⟨ts_3, sls_3, fs_3, hss_3, hps_3, hbs_3, hvs_3, hts_3, hfs_3, hzs_3⟩ := hst j9 (by omega)
      refine va_castY (C := "Bidwhistle$Strategy") hx hb hown (hts (.classLink RX4 111 "Bidwhistle$Strategy") (by decide +kernel)) (hC.2.1 _ (by decide +kernel)) (va_recv hC.1 (x1 hss_3) (q0 := 0) (ci := 4) (q := (RX3, TX3, 8)) rfl rfl) dX4_strategyAt_33 ?_
      exact x_aret (G := G) hx hb hr (Or.inl ⟨_, rfl⟩) dX4_strategyAt_36 hlocks hS (by first | exact Nat.le_of_ble_eq_true rfl | exact (show 0 ≤ 0 by omega)) (by first | exact Nat.le_of_ble_eq_true rfl | exact (show 0 ≤ 0 by omega)) ⟨rfl, rfl⟩
    · have _ := hx
      have c_2 : ¬ (j9 < (zN S)) := fun z => c_2 ((nI_ltI (a := j9) (b := (zN S)) (by omega) (by omega)).mpr z)
      exact absurd c_2 (by omega)

set_option maxHeartbeats 4000000 in
set_option maxRecDepth 100000 in
/-- store() -/
theorem c_X4_store (l : Launch) (hfl : l.stackTraces = false) (G : xG) (ad : Nat → Nat) (S : zS) (H : Heap) (hX : XS G ad S H) (hW : zW S) : xMet l G yX4_store wsX4_store ({ frames := 8, cells := 20, slots := 600, locals := 327 } : Room) [.ref (ad 0)] H (fun v H1 => kstore S = 0 ∧ v = some (.int (zstore S).1) ∧ ∃ ad', ad' 0 = ad 0 ∧ XS G ad' (zstore S).2 H1) (zx [zIS, zIS] (kstore S) H) := by
  refine vx_ofW (cc := cX4_store) (maxL := 2) (ret := (some .int)) (by decide) rfl ?_
  intro Pg Ev s m args below meth c s₁ B hml hout hv
  obtain ⟨rfl, hH, hC⟩ := hv
  have hx := B.exec
  have hb := B.bytes
  have hr := B.returns
  have hts := atoms_spec (ws := wsX4_store) B.pre
  have hown : s.vm.findClass RX4 = some m.cls := findClass_of_methodNamed B.named
  have hlocks := B.notSynchronized
  rw [hH]
  have hS : va_S (xA G) s.heap H [] := by rw [← hH]; exact va_S.rf
  generalize ([] : List Loc) = locs at hS ⊢
  have hl := lv_entry [.ref (ad 0)] (n := 2) (Nat.le_of_ble_eq_true rfl)
  rw [lg_entry_eq]
  generalize (lg_sl [.ref (ad 0)] ++ List.replicate (2 - (lg_sl [.ref (ad 0)]).length) Slot.unset).toArray = ls at hl ⊢
  have hl : lv_has ls 2 [(0, .ref (ad 0))] := hl
  obtain ⟨hO, ⟨fb, hfb, hx0⟩, ⟨td, hdr⟩, ⟨tc, nc, hch⟩, ⟨gs, ds, hsk⟩, ⟨m9, k9, a9, hl9⟩, ⟨f1, f2, hpr⟩, ⟨fr1, hr1⟩, ⟨fr2, hr2⟩, ⟨fr3, hr3⟩, ⟨kp, hkp, hst⟩⟩ := id hX
  have hl0 := hl9.1.1
  have hx9 := hx0
  have hn20 := hW.1
  have hU9 := hW.2.2.2.2.1
  obtain ⟨hd1, hd2, hd3, hd7, n12, n13, n23, hd16⟩ := id hdr.1
  have hK : XK G ad S kp fb m9 k9 a9 H := ⟨hO, hfb, hx0, ⟨td, hdr⟩, ⟨tc, nc, hch⟩, ⟨gs, ds, hsk⟩, hl9, ⟨f1, f2, hpr⟩, ⟨fr1, hr1⟩, ⟨fr2, hr2⟩, ⟨fr3, hr3⟩, hkp, hst⟩
  refine lv_aload_n hx hb dX4_store_0 rfl (lv_at hl 0 rfl) ?_
  refine va_get (D := xD G) (ci := 5) (v := .ref (ad 1)) (C := RX4) (T := TX4) (N := 11) hx hb hts (by decide +kernel) hown hC.1 (x1 hx9) 0 rfl rfl 0 (by decide) (hts (.fieldLink RX4 10 "Bidwhistle" "draft" "LBidwhistle$Program;") (by decide +kernel)) (fun _ h9 => h9) rfl dX4_store_1 ?_
  refine x_intE (vx_runV (As := []) (rest := []) ⟨hx, hb, hml, hown, hts⟩ (c_X0_isRight l hfl G (ad 1) (ad 2) (ad 3) (zL S 20) td H hdr.1) (cwV 0 hts gX4_store_X0_isRight rfl rfl rfl (by decide +kernel) ⟨(Nat.le_of_ble_eq_true rfl), (Nat.le_of_ble_eq_true rfl)⟩) (xPreV hC hS hd1 (q := (RX0, TX0, 3)) rfl) rfl rfl hl.1 rfl (lv_room (Nat.le_of_ble_eq_true rfl)) dX4_store_4 ⟨(by first | exact Nat.le_of_ble_eq_true rfl | exact (show 0 + 0 ≤ 20 by omega)), (by first | exact Nat.le_of_ble_eq_true rfl | exact (show 0 + 0 ≤ 600 by omega))⟩) hS (fun locs hS => ?_)
  rw [xright_cong hdr.2]
  refine lv_if_ne (tgt := 20) hx hb dX4_store_7 (by decide) (fun c_1 => ?_) (fun c_1 => ?_)
  · have _ := hx
    have hrt : xright (zP S 20) (zL S 20) = true := xb_1 c_1
    refine lv_aload_n hx hb dX4_store_20 rfl (lv_at hl 0 rfl) ?_
    refine lv_aload_n hx hb dX4_store_21 rfl (lv_at hl 0 rfl) ?_
    refine va_get (D := xD G) (ci := 5) (v := .ref (ad 1)) (C := RX4) (T := TX4) (N := 11) hx hb hts (by decide +kernel) hown hC.1 (x1 hx9) 0 rfl rfl 0 (by decide) (hts (.fieldLink RX4 10 "Bidwhistle" "draft" "LBidwhistle$Program;") (by decide +kernel)) (fun _ h9 => h9) rfl dX4_store_22 ?_
    refine x_intE (vx_runV (As := [.ref (ad 1)]) (rest := []) ⟨hx, hb, hml, hown, hts⟩ (c_X4_numberOf l hfl G ad S kp m9 fb k9 a9 (ad 1) (ad 2) (ad 3) (zL S 20) td H hx0 hl9 hW hst hdr.1) (cwV 1 hts gX4_store_X4_numberOf rfl rfl rfl (by decide +kernel) ⟨(Nat.le_of_ble_eq_true rfl), (Nat.le_of_ble_eq_true rfl)⟩) (xPreV hC hS hx9 (q := (RX4, TX4, 11)) rfl) rfl rfl hl.1 rfl (lv_room (Nat.le_of_ble_eq_true rfl)) dX4_store_25 ⟨(by first | exact Nat.le_of_ble_eq_true rfl | exact (show 0 + 0 ≤ 20 by omega)), (by first | exact Nat.le_of_ble_eq_true rfl | exact (show 0 + 0 ≤ 600 by omega))⟩) hS (fun locs hS => ?_)
    rw [zfnd_cong hdr.2]
    refine lv_istore_n (lv' := [(1, .int (xpar (zfnd S (zP S 20) (zL S 20) (zN S)))), (0, .ref (ad 0))]) hx hb dX4_store_28 rfl hl (by decide) rfl (fun ls hl => ?_)
    refine lv_iload_n hx hb dX4_store_29 rfl (lv_at hl 0 rfl) ?_
    refine lv_iconst (v := (-1)) hx hb dX4_store_30 (by decide) ?_
    refine lv_icmp_ne (tgt := 67) hx hb dX4_store_31 (by decide) (fun c_2 => ?_) (fun c_2 => ?_)
    · have _ := hx
      have hfle := zfnd_le (S := S) (t := zP S 20) (n := zL S 20) (zN S)
      have hfn : zfnd S (zP S 20) (zL S 20) (zN S) ≠ 0 := fun z => c_2 ((xpar_m1 (by omega)).mpr z)
      refine lv_aload_n hx hb dX4_store_67 rfl (lv_at hl 1 rfl) ?_
      refine va_get (D := xD G) (ci := 5) (v := .ref (ad 1)) (C := RX4) (T := TX4) (N := 11) hx hb hts (by decide +kernel) hown hC.1 (x1 hx9) 0 rfl rfl 0 (by decide) (hts (.fieldLink RX4 10 "Bidwhistle" "draft" "LBidwhistle$Program;") (by decide +kernel)) (fun _ h9 => h9) rfl dX4_store_68 ?_
      rw [xpar_pos hfn] at hl
      have hsz := hS.1
      refine x_call (px := xNo) (vx_runV (As := []) (rest := []) ⟨hx, hb, hml, hown, hts⟩ (c_X0_empty l hfl G (ad 1) (ad 2) (ad 3) (zL S 20) td H hdr.1 (hO.2 1 (by omega) (by omega))) (cwV 0 hts gX4_store_X0_empty rfl rfl rfl (by decide +kernel) ⟨(Nat.le_of_ble_eq_true rfl), (Nat.le_of_ble_eq_true rfl)⟩) (xPreV hC hS hd1 (q := (RX0, TX0, 3)) rfl) rfl rfl hl.1 rfl (lv_room (Nat.le_of_ble_eq_true rfl)) dX4_store_71 ⟨(by first | exact Nat.le_of_ble_eq_true rfl | exact (show 0 + 0 ≤ 20 by omega)), (by first | exact Nat.le_of_ble_eq_true rfl | exact (show 0 + 0 ≤ 600 by omega))⟩) hS (fun _ h => h) (fun _ _ _ _ _ h => False.elim h) (fun v H_3 locs hp hz hk_4 hS => ?_)
      obtain ⟨rfl, hpp5, hc5⟩ := hp
      obtain ⟨hda5, hdb5, hdc5, hdn5, -, -, -, hdt5⟩ := id hpp5
      have hx9 := hc5.at hx9 (xn1 (hO.ne (i := 0) (j := 1) (by omega) (by omega) (by omega)))
      have hl0 := hc5.at hl0 (xn1 (hO.ne (i := 10) (j := 1) (by omega) (by omega) (by omega)))
      refine lv_iload_n hx hb dX4_store_74 rfl (lv_at hl 0 rfl) ?_
      have hS2 := hX.emptied hn20 hU9 hc5 hpp5
      have hz : zstore S = (nI (zfnd S (zP S 20) (zL S 20) (zN S) - 1), zset S 0 (zP S 20)) := if_pos hfn
      exact x_iret (G := G) hx hb hr rfl dX4_store_75 hlocks hS (by first | exact Nat.le_of_ble_eq_true rfl | exact (show 0 ≤ 20 by omega)) (by first | exact Nat.le_of_ble_eq_true rfl | exact (show 0 ≤ 600 by omega)) ⟨kstore_0 hrt (fun z => hfn z.1), by rw [hz], ad, rfl, by rw [hz]; exact hS2⟩
    · have _ := hx
      have hfle := zfnd_le (S := S) (t := zP S 20) (n := zL S 20) (zN S)
      have hf0 : zfnd S (zP S 20) (zL S 20) (zN S) = 0 := (xpar_m1 (by omega)).mp (by first | exact c_2 | exact Classical.not_not.mp c_2)
      refine lv_aload_n hx hb dX4_store_34 rfl (lv_at hl 1 rfl) ?_
      refine va_get (D := xD G) (ci := 5) (v := .ref (ad 10)) (C := RX4) (T := TX4) (N := 11) hx hb hts (by decide +kernel) hown hC.1 (x1 hx9) 0 rfl rfl 3 (by decide) (hts (.fieldLink RX4 29 "Bidwhistle" "strategies" "Ljava/util/ArrayList;") (by decide +kernel)) (fun _ h9 => h9) rfl dX4_store_35 ?_
      refine x_intE (vx_runV (As := []) (rest := []) ⟨hx, hb, hml, hown, hts⟩ (c_Jx4a65c_size_8abf5 l hfl G (ad 10) (ad 11) (zN S) m9 H hl0) (cwV 0 hts gX4_store_Jx4a65c_size_8abf5 rfl rfl rfl (by decide +kernel) ⟨(Nat.le_of_ble_eq_true rfl), (Nat.le_of_ble_eq_true rfl)⟩) (xPreV hC hS hl0 (q := (RJx4a65c, TJx4a65c, 3)) rfl) rfl rfl hl.1 rfl (lv_room (Nat.le_of_ble_eq_true rfl)) dX4_store_38 ⟨(by first | exact Nat.le_of_ble_eq_true rfl | exact (show 0 + 0 ≤ 20 by omega)), (by first | exact Nat.le_of_ble_eq_true rfl | exact (show 0 + 0 ≤ 600 by omega))⟩) hS (fun locs hS => ?_)
      refine lv_bipush (v := (nI 20)) hx hb dX4_store_41 (by decide) ?_
      refine lv_icmp_lt (tgt := 56) hx hb dX4_store_43 (by decide) (fun c_6 => ?_) (fun c_6 => ?_)
      · have _ := hx
        have c_6 : (zN S) < 20 := (nI_ltI (a := (zN S)) (b := 20) (by omega) (by omega)).mp c_6
        refine lv_aload_n hx hb dX4_store_56 rfl (lv_at hl 1 rfl) ?_
        refine lv_aload_n hx hb dX4_store_57 rfl (lv_at hl 1 rfl) ?_
        refine va_get (D := xD G) (ci := 5) (v := .ref (ad 1)) (C := RX4) (T := TX4) (N := 11) hx hb hts (by decide +kernel) hown hC.1 (x1 hx9) 0 rfl rfl 0 (by decide) (hts (.fieldLink RX4 10 "Bidwhistle" "draft" "LBidwhistle$Program;") (by decide +kernel)) (fun _ h9 => h9) rfl dX4_store_58 ?_
        refine lv_iconst (v := (-1)) hx hb dX4_store_61 (by decide) ?_
        refine lv_iconst (v := (-1)) hx hb dX4_store_62 (by decide) ?_
        have hn19 : zN S < 20 := by omega
        have hsz := hS.1
        refine x_call (px := xNo) (vx_runV (As := [.ref (ad 1), .int (xpar 0), .int (xpar 0)]) (rest := []) ⟨hx, hb, hml, hown, hts⟩ (c_X4_keep l hfl G ad S kp m9 fb k9 a9 1 (zL S 20) 0 0 td (zP S 20) H hK hW hn19 (Or.inl rfl) hdr.1 hdr.2 (by rw [xright_cong hdr.2]; exact hrt) (Nat.zero_le _) (Nat.zero_le _)) (cwV 3 hts gX4_store_X4_keep rfl rfl rfl (by decide +kernel) ⟨(Nat.le_of_ble_eq_true rfl), (Nat.le_of_ble_eq_true rfl)⟩) (xPreV hC hS hx9 (q := (RX4, TX4, 11)) rfl) rfl rfl hl.1 rfl (lv_room (Nat.le_of_ble_eq_true rfl)) dX4_store_63 ⟨(by first | exact Nat.le_of_ble_eq_true rfl | exact (show 0 + 10 ≤ 20 by omega)), (by first | exact Nat.le_of_ble_eq_true rfl | exact (show 0 + 400 ≤ 600 by omega))⟩) hS (fun _ h => h) (fun _ _ _ _ _ h => False.elim h) (fun v H_7 locs hp hz hk_8 hS => ?_)
        obtain ⟨rfl, ad', hadj, hX'⟩ := hp
        obtain ⟨kp', fb', m9', k9', a9', hK'⟩ := hX'.K
        have hdrE : ∃ t, zDraft G ad' (zkept S (zP S 20) (zL S 20) 0 0) t H_7 := hK'.2.2.2.1
        obtain ⟨td', hd'⟩ := hdrE
        have e0 := hadj 0 (by omega) (by decide)
        have e1 := hadj 1 (by omega) (by decide)
        have e2 := hadj 2 (by omega) (by decide)
        have e3 := hadj 3 (by omega) (by decide)
        have e4 := hadj 4 (by omega) (by decide)
        have e5 := hadj 5 (by omega) (by decide)
        have e6 := hadj 6 (by omega) (by decide)
        have e7 := hadj 7 (by omega) (by decide)
        have e10 := hadj 10 (by omega) (by decide)
        have e12 := hadj 12 (by omega) (by decide)
        have e14 := hadj 14 (by omega) (by decide)
        have e16 := hadj 16 (by omega) (by decide)
        have e18 := hadj 18 (by omega) (by decide)
        have e20 := hadj 20 (by omega) (by decide)
        have hx9 : oA G (ad' 0) 5 [.ref (ad' 1), .ref (ad' 4), .ref (ad' 7), .ref (ad' 10), .int fb', .ref (ad' 12), .ref (ad' 14), .int (nI (zK (zkept S (zP S 20) (zL S 20) 0 0))), .ref (ad' 16), .ref (ad' 18), .ref (ad' 20)] H_7 := hK'.x0
        rw [e0, e1, e4, e7, e10, e12, e14, e16, e18, e20] at hx9
        have hdd := hd'.1
        rw [e1, e2, e3] at hdd
        obtain ⟨hd1, hd2, hd3, hd7', n12', n13', n23', hd16'⟩ := id hdd
        refine lv_istore_n (lv' := [(1, .int (nI (zN S))), (0, .ref (ad 0))]) hx hb dX4_store_66 rfl hl (by decide) rfl (fun ls hl => ?_)
        refine lv_aload_n hx hb dX4_store_67 rfl (lv_at hl 1 rfl) ?_
        refine va_get (D := xD G) (ci := 5) (v := .ref (ad 1)) (C := RX4) (T := TX4) (N := 11) hx hb hts (by decide +kernel) hown hC.1 (x1 hx9) 0 rfl rfl 0 (by decide) (hts (.fieldLink RX4 10 "Bidwhistle" "draft" "LBidwhistle$Program;") (by decide +kernel)) (fun _ h9 => h9) rfl dX4_store_68 ?_
        have hsz := hS.1
        refine x_call (px := xNo) (vx_runV (As := []) (rest := []) ⟨hx, hb, hml, hown, hts⟩ (c_X0_empty l hfl G (ad 1) (ad 2) (ad 3) (zL (zkept S (zP S 20) (zL S 20) 0 0) 20) td' H_7 hdd (hO.2 1 (by omega) (by omega))) (cwV 0 hts gX4_store_X0_empty rfl rfl rfl (by decide +kernel) ⟨(Nat.le_of_ble_eq_true rfl), (Nat.le_of_ble_eq_true rfl)⟩) (xPreV hC hS hd1 (q := (RX0, TX0, 3)) rfl) rfl rfl hl.1 rfl (lv_room (Nat.le_of_ble_eq_true rfl)) dX4_store_71 ⟨(by first | exact Nat.le_of_ble_eq_true rfl | exact (show 0 + 10 + 0 ≤ 20 by omega)), (by first | exact Nat.le_of_ble_eq_true rfl | exact (show 0 + 400 + 0 ≤ 600 by omega))⟩) hS (fun _ h => h) (fun _ _ _ _ _ h => False.elim h) (fun v H_9 locs hp hz hk_10 hS => ?_)
        obtain ⟨rfl, hpp11, hc11⟩ := hp
        obtain ⟨hda11, hdb11, hdc11, hdn11, -, -, -, hdt11⟩ := id hpp11
        have hx9 := hc11.at hx9 (xn1 (hO.ne (i := 0) (j := 1) (by omega) (by omega) (by omega)))
        refine lv_iload_n hx hb dX4_store_74 rfl (lv_at hl 0 rfl) ?_
        have hpp := hpp11
        rw [← e1, ← e2, ← e3] at hpp
        have hcc := hc11
        rw [← e1] at hcc
        have hS2 := hX'.emptied (by show zN S + 1 ≤ 20; omega) (hW.kept hn19 hrt (hW.2.1 20) (hW.2.2.1 20) (Nat.zero_le _) (Nat.zero_le _) hf0).2.2.2.2.1 hcc hpp
        rw [zP_kept hn19] at hS2
        have hz : zstore S = (nI (zN S), zset (zkept S (zP S 20) (zL S 20) 0 0) 0 (zP S 20)) := if_neg (fun z => z hf0)
        exact x_iret (G := G) hx hb hr rfl dX4_store_75 hlocks hS (by first | exact Nat.le_of_ble_eq_true rfl | exact (show 0 + 10 ≤ 20 by omega)) (by first | exact Nat.le_of_ble_eq_true rfl | exact (show 0 + 400 ≤ 600 by omega)) ⟨kstore_0 hrt (by omega), by rw [hz], ad', e0, by rw [hz]; exact hS2⟩
      · have _ := hx
        have c_6 : ¬ ((zN S) < 20) := fun z => c_6 ((nI_ltI (a := (zN S)) (b := 20) (by omega) (by omega)).mpr z)
        exact x_throw (G := G) (cls := "java/lang/IllegalStateException") (text := "20 strategies are stored") hx hb hfl hts hown (by decide +kernel) (by decide +kernel) (by decide +kernel) (by decide +kernel) (by decide +kernel) tbad_IS tgood_IS hC hS (by rw [hml]; exact hl.1) dX4_store_46 dX4_store_49 dX4_store_50 dX4_store_52 dX4_store_55 hout (Nat.le_of_ble_eq_true rfl) (Nat.le_of_ble_eq_true rfl) (by first | exact Nat.le_of_ble_eq_true rfl | exact (show 0 + 1 ≤ 20 by omega)) (by first | exact Nat.le_of_ble_eq_true rfl | exact (show 0 + 6 ≤ 600 by omega)) hlocks (fun H1 hcx => zx_mk 1 (kstore_2 hrt hf0 (by omega)) rfl hcx) (by first | exact Nat.le_of_ble_eq_true rfl | exact (show 0 + 1 ≤ 20 by omega)) (by first | exact Nat.le_of_ble_eq_true rfl | exact (show 0 + 6 ≤ 600 by omega))
  · have _ := hx
    have hrf : xright (zP S 20) (zL S 20) = false := xb_0.mp (by first | exact c_1 | exact Classical.not_not.mp c_1)
    exact x_throw (G := G) (cls := "java/lang/IllegalStateException") (text := "the draft is not right") hx hb hfl hts hown (by decide +kernel) (by decide +kernel) (by decide +kernel) (by decide +kernel) (by decide +kernel) tbad_IS tgood_IS hC hS (by rw [hml]; exact hl.1) dX4_store_10 dX4_store_13 dX4_store_14 dX4_store_16 dX4_store_19 hout (Nat.le_of_ble_eq_true rfl) (Nat.le_of_ble_eq_true rfl) (by first | exact Nat.le_of_ble_eq_true rfl | exact (show 0 + 1 ≤ 20 by omega)) (by first | exact Nat.le_of_ble_eq_true rfl | exact (show 0 + 6 ≤ 600 by omega)) hlocks (fun H1 hcx => zx_mk 0 (kstore_1 hrf) rfl hcx) (by first | exact Nat.le_of_ble_eq_true rfl | exact (show 0 + 1 ≤ 20 by omega)) (by first | exact Nat.le_of_ble_eq_true rfl | exact (show 0 + 6 ≤ 600 by omega))

set_option maxHeartbeats 4000000 in
set_option maxRecDepth 100000 in
/-- letChildJoin(first parent, second parent) -/
theorem c_X4_letChildJoin (l : Launch) (hfl : l.stackTraces = false) (G : xG) (ad : Nat → Nat) (S : zS) (kp : Nat → Nat) (m9 fb : Int32) (k9 : Nat) (a9 : Nat → Option Nat) (n9 u9 v9 : Nat) (t8 t9 : Nat → Nat) (H : Heap) (hK : XK G ad S kp fb m9 k9 a9 H) (hW : zW S) (hn : zN S < 20) (hpp : pA G (ad 4) (ad 5) (ad 6) t8 n9 H) (ht8 : ∀ k, k < n9 → t8 k = t9 k) (h16 : ∀ k, t9 k ≤ 16) (hu9 : u9 ≤ zN S) (hv9 : v9 ≤ zN S) : xMet l G yX4_letChildJoin wsX4_letChildJoin ({ frames := 8, cells := 20, slots := 600, locals := 327 } : Room) [.ref (ad 0), .int (xpar u9), .int (xpar v9)] H (fun v H1 => v = some (.int (zlet S t9 n9 u9 v9).1) ∧ ∃ ad', ad' 0 = ad 0 ∧ XS G ad' (zlet S t9 n9 u9 v9).2 H1) (xNo) := by
  refine vx_ofW (cc := cX4_letChildJoin) (maxL := 5) (ret := (some .int)) (by decide) rfl ?_
  intro Pg Ev s m args below meth c s₁ B hml hout hv
  obtain ⟨rfl, hH, hC⟩ := hv
  have hx := B.exec
  have hb := B.bytes
  have hr := B.returns
  have hts := atoms_spec (ws := wsX4_letChildJoin) B.pre
  have hown : s.vm.findClass RX4 = some m.cls := findClass_of_methodNamed B.named
  have hlocks := B.notSynchronized
  rw [hH]
  have hS : va_S (xA G) s.heap H [] := by rw [← hH]; exact va_S.rf
  generalize ([] : List Loc) = locs at hS ⊢
  have hl := lv_entry [.ref (ad 0), .int (xpar u9), .int (xpar v9)] (n := 5) (Nat.le_of_ble_eq_true rfl)
  rw [lg_entry_eq]
  generalize (lg_sl [.ref (ad 0), .int (xpar u9), .int (xpar v9)] ++ List.replicate (5 - (lg_sl [.ref (ad 0), .int (xpar u9), .int (xpar v9)]).length) Slot.unset).toArray = ls at hl ⊢
  have hl : lv_has ls 5 [(0, .ref (ad 0)), (1, .int (xpar u9)), (2, .int (xpar v9))] := hl
  obtain ⟨hO, hfb, hx0, ⟨td, hdr⟩, ⟨tc, nc, hch⟩, ⟨gs, ds, hsk⟩, hl9, ⟨f1, f2, hpr⟩, ⟨fr1, hr1⟩, ⟨fr2, hr2⟩, ⟨fr3, hr3⟩, hkp, hst⟩ := id hK
  have hl0 := hl9.1.1
  have hx9 := hx0
  have hn20 := hW.1
  have hU9 := hW.2.2.2.2.1
  obtain ⟨hq0, hq1, hq2, hq7, nq1, nq2, nq3, hq16⟩ := id hpp
  have hfle := zfnd_le (S := S) (t := t9) (n := n9) (zN S)
  refine lv_aload_n hx hb dX4_letChildJoin_0 rfl (lv_at hl 0 rfl) ?_
  refine va_get (D := xD G) (ci := 5) (v := .ref (ad 4)) (C := RX4) (T := TX4) (N := 11) hx hb hts (by decide +kernel) hown hC.1 (x1 hx9) 0 rfl rfl 1 (by decide) (hts (.fieldLink RX4 16 "Bidwhistle" "child" "LBidwhistle$Program;") (by decide +kernel)) (fun _ h9 => h9) rfl dX4_letChildJoin_1 ?_
  refine x_intE (vx_runV (As := []) (rest := []) ⟨hx, hb, hml, hown, hts⟩ (c_X0_isRight l hfl G (ad 4) (ad 5) (ad 6) n9 t8 H hpp) (cwV 0 hts gX4_letChildJoin_X0_isRight rfl rfl rfl (by decide +kernel) ⟨(Nat.le_of_ble_eq_true rfl), (Nat.le_of_ble_eq_true rfl)⟩) (xPreV hC hS hq0 (q := (RX0, TX0, 3)) rfl) rfl rfl hl.1 rfl (lv_room (Nat.le_of_ble_eq_true rfl)) dX4_letChildJoin_4 ⟨(by first | exact Nat.le_of_ble_eq_true rfl | exact (show 0 + 0 ≤ 20 by omega)), (by first | exact Nat.le_of_ble_eq_true rfl | exact (show 0 + 0 ≤ 600 by omega))⟩) hS (fun locs hS => ?_)
  rw [xright_cong ht8]
  refine lv_if_eq (tgt := 24) hx hb dX4_letChildJoin_7 (by decide) (fun c_1 => ?_) (fun c_1 => ?_)
  · have _ := hx
    have hrf : xright t9 n9 = false := xb_0.mp c_1
    refine lv_iconst (v := (-1)) hx hb dX4_letChildJoin_24 (by decide) ?_
    exact x_iret (G := G) hx hb hr rfl dX4_letChildJoin_25 hlocks hS (by first | exact Nat.le_of_ble_eq_true rfl | exact (show 0 ≤ 20 by omega)) (by first | exact Nat.le_of_ble_eq_true rfl | exact (show 0 ≤ 600 by omega)) ⟨by rw [zlet_1 (Or.inl hrf)], ad, rfl, by rw [zlet_1 (Or.inl hrf)]; exact hK.xs⟩
  · have _ := hx
    have hrt : xright t9 n9 = true := xb_1 c_1
    refine lv_aload_n hx hb dX4_letChildJoin_10 rfl (lv_at hl 0 rfl) ?_
    refine va_get (D := xD G) (ci := 5) (v := .ref (ad 4)) (C := RX4) (T := TX4) (N := 11) hx hb hts (by decide +kernel) hown hC.1 (x1 hx9) 0 rfl rfl 1 (by decide) (hts (.fieldLink RX4 16 "Bidwhistle" "child" "LBidwhistle$Program;") (by decide +kernel)) (fun _ h9 => h9) rfl dX4_letChildJoin_11 ?_
    refine lv_aload_n hx hb dX4_letChildJoin_14 rfl (lv_at hl 0 rfl) ?_
    refine va_get (D := xD G) (ci := 5) (v := .int fb) (C := RX4) (T := TX4) (N := 11) hx hb hts (by decide +kernel) hown hC.1 (x1 hx9) 0 rfl rfl 4 (by decide) (hts (.fieldLink RX4 33 "Bidwhistle" "forbiddenSteps" "I") (by decide +kernel)) (fun _ h9 => h9) rfl dX4_letChildJoin_15 ?_
    have hbad : decide (¬ (xbits t8 n9 &&& fb) = 0) = xany t9 n9 (zF S) 17 := by rw [zbits_any hq16 hfb, xany_cong ht8]
    refine x_intE (vx_runV (As := [.int fb]) (rest := []) ⟨hx, hb, hml, hown, hts⟩ (c_X0_hasAnyOf l hfl G (ad 4) (ad 5) (ad 6) n9 t8 fb H hpp) (cwV 1 hts gX4_letChildJoin_X0_hasAnyOf rfl rfl rfl (by decide +kernel) ⟨(Nat.le_of_ble_eq_true rfl), (Nat.le_of_ble_eq_true rfl)⟩) (xPreV hC hS hq0 (q := (RX0, TX0, 3)) rfl) rfl rfl hl.1 rfl (lv_room (Nat.le_of_ble_eq_true rfl)) dX4_letChildJoin_18 ⟨(by first | exact Nat.le_of_ble_eq_true rfl | exact (show 0 + 0 ≤ 20 by omega)), (by first | exact Nat.le_of_ble_eq_true rfl | exact (show 0 + 0 ≤ 600 by omega))⟩) hS (fun locs hS => ?_)
    rw [hbad]
    refine lv_if_eq (tgt := 26) hx hb dX4_letChildJoin_21 (by decide) (fun c_2 => ?_) (fun c_2 => ?_)
    · have _ := hx
      have hna : xany t9 n9 (zF S) 17 = false := xb_0.mp c_2
      refine lv_aload_n hx hb dX4_letChildJoin_26 rfl (lv_at hl 0 rfl) ?_
      refine lv_aload_n hx hb dX4_letChildJoin_27 rfl (lv_at hl 0 rfl) ?_
      refine va_get (D := xD G) (ci := 5) (v := .ref (ad 4)) (C := RX4) (T := TX4) (N := 11) hx hb hts (by decide +kernel) hown hC.1 (x1 hx9) 0 rfl rfl 1 (by decide) (hts (.fieldLink RX4 16 "Bidwhistle" "child" "LBidwhistle$Program;") (by decide +kernel)) (fun _ h9 => h9) rfl dX4_letChildJoin_28 ?_
      refine x_intE (vx_runV (As := [.ref (ad 4)]) (rest := []) ⟨hx, hb, hml, hown, hts⟩ (c_X4_numberOf l hfl G ad S kp m9 fb k9 a9 (ad 4) (ad 5) (ad 6) n9 t8 H hx0 hl9 hW hst hpp) (cwV 1 hts gX4_letChildJoin_X4_numberOf rfl rfl rfl (by decide +kernel) ⟨(Nat.le_of_ble_eq_true rfl), (Nat.le_of_ble_eq_true rfl)⟩) (xPreV hC hS hx9 (q := (RX4, TX4, 11)) rfl) rfl rfl hl.1 rfl (lv_room (Nat.le_of_ble_eq_true rfl)) dX4_letChildJoin_31 ⟨(by first | exact Nat.le_of_ble_eq_true rfl | exact (show 0 + 0 ≤ 20 by omega)), (by first | exact Nat.le_of_ble_eq_true rfl | exact (show 0 + 0 ≤ 600 by omega))⟩) hS (fun locs hS => ?_)
      rw [zfnd_cong ht8]
      refine lv_istore_n (lv' := [(3, .int (xpar (zfnd S t9 n9 (zN S)))), (0, .ref (ad 0)), (1, .int (xpar u9)), (2, .int (xpar v9))]) hx hb dX4_letChildJoin_34 rfl hl (by decide) rfl (fun ls hl => ?_)
      refine lv_iload_n hx hb dX4_letChildJoin_35 rfl (lv_at hl 0 rfl) ?_
      refine lv_iconst (v := (-1)) hx hb dX4_letChildJoin_36 (by decide) ?_
      refine lv_icmp_ne (tgt := 51) hx hb dX4_letChildJoin_37 (by decide) (fun c_3 => ?_) (fun c_3 => ?_)
      · have _ := hx
        have hnb : ¬ (xright t9 n9 = false ∨ xany t9 n9 (zF S) 17 = true) := fun z => by rcases z with z | z; (rw [hrt] at z; cases z); (rw [hna] at z; cases z)
        have hfn : zfnd S t9 n9 (zN S) ≠ 0 := fun z => c_3 ((xpar_m1 (by omega)).mpr z)
        refine lv_aload_n hx hb dX4_letChildJoin_51 rfl (lv_at hl 1 rfl) ?_
        refine lv_iload_n hx hb dX4_letChildJoin_52 rfl (lv_at hl 0 rfl) ?_
        rw [xpar_pos hfn] at hl ⊢
        have hsz := hS.1
        refine x_call (px := xNo) (vx_runV (As := [.int (nI (zfnd S t9 n9 (zN S) - 1))]) (rest := []) ⟨hx, hb, hml, hown, hts⟩ (c_X4_strat_ok l hfl G ad S kp m9 fb k9 a9 (zfnd S t9 n9 (zN S) - 1) H hx0 hl9 hW hst (by omega)) (cwV 1 hts gX4_letChildJoin_X4_strategyAt rfl rfl rfl (by decide +kernel) ⟨(Nat.le_of_ble_eq_true rfl), (Nat.le_of_ble_eq_true rfl)⟩) (xPreV hC hS hx9 (q := (RX4, TX4, 11)) rfl) rfl rfl hl.1 rfl (lv_room (Nat.le_of_ble_eq_true rfl)) dX4_letChildJoin_53 ⟨(by first | exact Nat.le_of_ble_eq_true rfl | exact (show 0 + 0 ≤ 20 by omega)), (by first | exact Nat.le_of_ble_eq_true rfl | exact (show 0 + 0 ≤ 600 by omega))⟩) hS (fun _ h => h) (fun _ _ _ _ _ h => False.elim h) (fun v H_4 locs hp hz hk_5 hS => ?_)
        obtain ⟨rfl, rfl⟩ := hp
        obtain ⟨ts_6, sls_6, fs_6, hss_6, hps_6, hbs_6, hvs_6, hts_6, hfs_6, hzs_6⟩ := hst (zfnd S t9 n9 (zN S) - 1) (by omega)
        refine lv_astore (lv' := [(4, .ref (ad (22 + 6 * (zfnd S t9 n9 (zN S) - 1)))), (3, .int (nI (zfnd S t9 n9 (zN S) - 1))), (0, .ref (ad 0)), (1, .int (xpar u9)), (2, .int (xpar v9))]) hx hb dX4_letChildJoin_56 hl (by decide) rfl (fun ls hl => ?_)
        refine lv_aload hx hb dX4_letChildJoin_58 (lv_at hl 0 rfl) ?_
        refine va_getN (D := xD G) (ci := 4) (v := .int (xb (zI S (zfnd S t9 n9 (zN S) - 1)))) (C := RX3) (T := TX3) (N := 8) hx hb hts (by decide +kernel) hown hC.1 (x1 hss_6) 0 rfl rfl 7 (by decide) (va_Nw.use rfl (hC.2.1 (.fieldLinkNest "Bidwhistle" 129 "Bidwhistle$Strategy" "inPool" "Z" "Bidwhistle") (by decide +kernel))) (fun _ h9 => h9) rfl dX4_letChildJoin_60 ?_
        refine lv_if_eq (tgt := 68) hx hb dX4_letChildJoin_63 (by decide) (fun c_7 => ?_) (fun c_7 => ?_)
        · have _ := hx
          have hni : zI (S) (zfnd S t9 n9 (zN S) - 1) = false := xb_0.mp c_7
          refine lv_aload hx hb dX4_letChildJoin_68 (lv_at hl 0 rfl) ?_
          refine lv_iconst (v := (nI 1)) hx hb dX4_letChildJoin_70 (by decide) ?_
          refine x_putN (G := G) (ci := 4) (v := .int (nI 1)) (ty := .boolean) (C := RX3) (T := TX3) (N := 8) hx hb hts (by decide +kernel) tyX3 tyX3_ok nmX3 hown hC hS (hO.2 (22 + 6 * (zfnd S t9 n9 (zN S) - 1)) (by omega) (by omega)) hss_6 rfl 7 (by decide) (hC.2.1 (.fieldLinkNest "Bidwhistle" 129 "Bidwhistle$Strategy" "inPool" "Z" "Bidwhistle") (by decide +kernel)) (fun _ h9 => h9) rfl (by decide +kernel) (by rfl) (by rfl) (Nat.le_of_ble_eq_true rfl) dX4_letChildJoin_71 (fun H_9 locs hss_6 hc_8 hS => ?_)
          have hss_6 : oA G (ad (22 + 6 * (zfnd S t9 n9 (zN S) - 1))) 4 [.int (nI (zfnd S t9 n9 (zN S) - 1)), .ref (ad (23 + 6 * (zfnd S t9 n9 (zN S) - 1))), .int (xpar (zU S (zfnd S t9 n9 (zN S) - 1))), .int (xpar (zV S (zfnd S t9 n9 (zN S) - 1))), .ref (ad (26 + 6 * (zfnd S t9 n9 (zN S) - 1))), .int sls_6, .int (nI (kp (zfnd S t9 n9 (zN S) - 1))), .int (nI 1)] H_9 := hss_6
          have hx9 := hc_8.at hx9 (xn1 (hO.ne (i := 0) (j := (22 + 6 * (zfnd S t9 n9 (zN S) - 1))) (by omega) (by omega) (by omega)))
          have hl0 := hc_8.at hl0 (xn1 (hO.ne (i := 10) (j := (22 + 6 * (zfnd S t9 n9 (zN S) - 1))) (by omega) (by omega) (by omega)))
          have hq0 := hc_8.at hq0 (xn1 (hO.ne (i := 4) (j := (22 + 6 * (zfnd S t9 n9 (zN S) - 1))) (by omega) (by omega) (by omega)))
          have hq1 := hc_8.at hq1 (xn1 (hO.ne (i := 5) (j := (22 + 6 * (zfnd S t9 n9 (zN S) - 1))) (by omega) (by omega) (by omega)))
          have hq2 := hc_8.at hq2 (xn1 (hO.ne (i := 6) (j := (22 + 6 * (zfnd S t9 n9 (zN S) - 1))) (by omega) (by omega) (by omega)))
          refine lv_iload_n hx hb dX4_letChildJoin_74 rfl (lv_at hl 1 rfl) ?_
          have hK2 := hK.pool (i := zfnd S t9 n9 (zN S) - 1) (b := true) hU9 (by omega) hc_8 hss_6 hzs_6
          exact x_iret (G := G) hx hb hr rfl dX4_letChildJoin_75 hlocks hS (by first | exact Nat.le_of_ble_eq_true rfl | exact (show 0 ≤ 20 by omega)) (by first | exact Nat.le_of_ble_eq_true rfl | exact (show 0 ≤ 600 by omega)) ⟨by rw [zlet_3 hnb hfn hni], ad, rfl, by rw [zlet_3 hnb hfn hni]; exact hK2.xs⟩
        · have _ := hx
          have hin : zI (S) (zfnd S t9 n9 (zN S) - 1) = true := xb_1 c_7
          refine lv_iconst (v := (-1)) hx hb dX4_letChildJoin_66 (by decide) ?_
          exact x_iret (G := G) hx hb hr rfl dX4_letChildJoin_67 hlocks hS (by first | exact Nat.le_of_ble_eq_true rfl | exact (show 0 ≤ 20 by omega)) (by first | exact Nat.le_of_ble_eq_true rfl | exact (show 0 ≤ 600 by omega)) ⟨by rw [zlet_2 hnb hfn hin], ad, rfl, by rw [zlet_2 hnb hfn hin]; exact hK.xs⟩
      · have _ := hx
        have hnb : ¬ (xright t9 n9 = false ∨ xany t9 n9 (zF S) 17 = true) := fun z => by rcases z with z | z; (rw [hrt] at z; cases z); (rw [hna] at z; cases z)
        have hf0 : zfnd S t9 n9 (zN S) = 0 := (xpar_m1 (by omega)).mp (by first | exact c_3 | exact Classical.not_not.mp c_3)
        refine lv_aload_n hx hb dX4_letChildJoin_40 rfl (lv_at hl 1 rfl) ?_
        refine lv_aload_n hx hb dX4_letChildJoin_41 rfl (lv_at hl 1 rfl) ?_
        refine va_get (D := xD G) (ci := 5) (v := .ref (ad 4)) (C := RX4) (T := TX4) (N := 11) hx hb hts (by decide +kernel) hown hC.1 (x1 hx9) 0 rfl rfl 1 (by decide) (hts (.fieldLink RX4 16 "Bidwhistle" "child" "LBidwhistle$Program;") (by decide +kernel)) (fun _ h9 => h9) rfl dX4_letChildJoin_42 ?_
        refine lv_iload_n hx hb dX4_letChildJoin_45 rfl (lv_at hl 2 rfl) ?_
        refine lv_iload_n hx hb dX4_letChildJoin_46 rfl (lv_at hl 3 rfl) ?_
        have hsz := hS.1
        refine x_call (px := xNo) (vx_runV (As := [.ref (ad 4), .int (xpar u9), .int (xpar v9)]) (rest := []) ⟨hx, hb, hml, hown, hts⟩ (c_X4_keep l hfl G ad S kp m9 fb k9 a9 4 n9 u9 v9 t8 t9 H hK hW hn (Or.inr rfl) hpp ht8 (by rw [xright_cong ht8]; exact hrt) hu9 hv9) (cwV 3 hts gX4_letChildJoin_X4_keep rfl rfl rfl (by decide +kernel) ⟨(Nat.le_of_ble_eq_true rfl), (Nat.le_of_ble_eq_true rfl)⟩) (xPreV hC hS hx9 (q := (RX4, TX4, 11)) rfl) rfl rfl hl.1 rfl (lv_room (Nat.le_of_ble_eq_true rfl)) dX4_letChildJoin_47 ⟨(by first | exact Nat.le_of_ble_eq_true rfl | exact (show 0 + 10 ≤ 20 by omega)), (by first | exact Nat.le_of_ble_eq_true rfl | exact (show 0 + 400 ≤ 600 by omega))⟩) hS (fun _ h => h) (fun _ _ _ _ _ h => False.elim h) (fun v H_10 locs hp hz hk_11 hS => ?_)
        obtain ⟨rfl, ad', hadj, hX'⟩ := hp
        obtain ⟨kp', fb', m9', k9', a9', hK'⟩ := hX'.K
        have hW' : zW (zkept S t9 n9 u9 v9) := hW.kept hn hrt (by omega) h16 hu9 hv9 hf0
        have e0 := hadj 0 (by omega) (by decide)
        have hx9' : oA G (ad' 0) 5 [.ref (ad' 1), .ref (ad' 4), .ref (ad' 7), .ref (ad' 10), .int fb', .ref (ad' 12), .ref (ad' 14), .int (nI (zK (zkept S t9 n9 u9 v9))), .ref (ad' 16), .ref (ad' 18), .ref (ad' 20)] H_10 := hK'.x0
        rw [e0] at hx9'
        refine lv_istore_n (lv' := [(3, .int (nI (zN S))), (0, .ref (ad 0)), (1, .int (xpar u9)), (2, .int (xpar v9))]) hx hb dX4_letChildJoin_50 rfl hl (by decide) rfl (fun ls hl => ?_)
        refine lv_aload_n hx hb dX4_letChildJoin_51 rfl (lv_at hl 1 rfl) ?_
        refine lv_iload_n hx hb dX4_letChildJoin_52 rfl (lv_at hl 0 rfl) ?_
        have hsz := hS.1
        refine x_call (px := xNo) (vx_runV (As := [.int (nI (zN S))]) (rest := []) ⟨hx, hb, hml, hown, hts⟩ ((by have h := c_X4_strat_ok l hfl G ad' (zkept S t9 n9 u9 v9) kp' m9' fb' k9' a9' (zN S) H_10 hK'.x0 hK'.l hW' hK'.st (by show zN S < zN S + 1; omega); rw [e0] at h; exact h)) (cwV 1 hts gX4_letChildJoin_X4_strategyAt rfl rfl rfl (by decide +kernel) ⟨(Nat.le_of_ble_eq_true rfl), (Nat.le_of_ble_eq_true rfl)⟩) (xPreV hC hS hx9' (q := (RX4, TX4, 11)) rfl) rfl rfl hl.1 rfl (lv_room (Nat.le_of_ble_eq_true rfl)) dX4_letChildJoin_53 ⟨(by first | exact Nat.le_of_ble_eq_true rfl | exact (show 0 + 10 + 0 ≤ 20 by omega)), (by first | exact Nat.le_of_ble_eq_true rfl | exact (show 0 + 400 + 0 ≤ 600 by omega))⟩) hS (fun _ h => h) (fun _ _ _ _ _ h => False.elim h) (fun v H_12 locs hp hz hk_13 hS => ?_)
        obtain ⟨rfl, rfl⟩ := hp
        obtain ⟨ts, sls, fs, hss, -, -, -, -, -, hzs⟩ := hK'.st (zN S) (by show zN S < zN S + 1; omega)
        obtain ⟨kL, kP, kU, kV, kI⟩ := zkept_N (S := S) (t := t9) (n := n9) (u := u9) (v := v9)
        refine lv_astore (lv' := [(4, .ref (ad' (22 + 6 * zN S))), (3, .int (nI (zN S))), (0, .ref (ad 0)), (1, .int (xpar u9)), (2, .int (xpar v9))]) hx hb dX4_letChildJoin_56 hl (by decide) rfl (fun ls hl => ?_)
        refine lv_aload hx hb dX4_letChildJoin_58 (lv_at hl 0 rfl) ?_
        refine va_getN (D := xD G) (ci := 4) (v := .int (xb (zI (zkept S t9 n9 u9 v9) (zN S)))) (C := RX3) (T := TX3) (N := 8) hx hb hts (by decide +kernel) hown hC.1 (x1 hss) 0 rfl rfl 7 (by decide) (va_Nw.use rfl (hC.2.1 (.fieldLinkNest "Bidwhistle" 129 "Bidwhistle$Strategy" "inPool" "Z" "Bidwhistle") (by decide +kernel))) (fun _ h9 => h9) rfl dX4_letChildJoin_60 ?_
        refine lv_if_eq (tgt := 68) hx hb dX4_letChildJoin_63 (by decide) (fun c_14 => ?_) (fun c_14 => ?_)
        · have _ := hx
          have hni : zI (zkept S t9 n9 u9 v9) (zN S) = false := xb_0.mp c_14
          refine lv_aload hx hb dX4_letChildJoin_68 (lv_at hl 0 rfl) ?_
          refine lv_iconst (v := (nI 1)) hx hb dX4_letChildJoin_70 (by decide) ?_
          refine x_putN (G := G) (ci := 4) (v := .int (nI 1)) (ty := .boolean) (C := RX3) (T := TX3) (N := 8) hx hb hts (by decide +kernel) tyX3 tyX3_ok nmX3 hown hC hS (hK'.1.2 _ (by show _ < 22 + 6 * (zN S + 1); omega) (by omega)) hss rfl 7 (by decide) (hC.2.1 (.fieldLinkNest "Bidwhistle" 129 "Bidwhistle$Strategy" "inPool" "Z" "Bidwhistle") (by decide +kernel)) (fun _ h9 => h9) rfl (by decide +kernel) (by rfl) (by rfl) (Nat.le_of_ble_eq_true rfl) dX4_letChildJoin_71 (fun H_16 locs hss hc_15 hS => ?_)
          have hss : oA G (ad' (22 + 6 * zN S)) 4 [.int (nI (zN S)), .ref (ad' (23 + 6 * zN S)), .int (xpar (zU (zkept S t9 n9 u9 v9) (zN S))), .int (xpar (zV (zkept S t9 n9 u9 v9) (zN S))), .ref (ad' (26 + 6 * zN S)), .int sls, (.int (nI (kp' (zN S)))), .int (nI 1)] H_16 := hss
          have hx9' := hc_15.at hx9' (xn1 (by rw [← e0]; exact hK'.1.ne (i := 0) (j := (22 + 6 * zN S)) (by show _ < 22 + 6 * (zN S + 1); omega) (by show _ < 22 + 6 * (zN S + 1); omega) (by omega)))
          refine lv_iload_n hx hb dX4_letChildJoin_74 rfl (lv_at hl 1 rfl) ?_
          have hK2 := hK'.pool (i := zN S) (b := true) hW'.2.2.2.2.1 (by show zN S < zN S + 1; omega) hc_15 hss hzs
          exact x_iret (G := G) hx hb hr rfl dX4_letChildJoin_75 hlocks hS (by first | exact Nat.le_of_ble_eq_true rfl | exact (show 0 + 10 ≤ 20 by omega)) (by first | exact Nat.le_of_ble_eq_true rfl | exact (show 0 + 400 ≤ 600 by omega)) ⟨by rw [zlet_4 hnb hf0], ad', e0, by rw [zlet_4 hnb hf0]; exact hK2.xs⟩
        · have _ := hx
          have hin : zI (zkept S t9 n9 u9 v9) (zN S) = true := xb_1 c_14
          refine lv_iconst (v := (-1)) hx hb dX4_letChildJoin_66 (by decide) ?_
          exfalso
          rw [kI] at hin
          exact absurd hin (by decide)
    · have _ := hx
      have hya : xany t9 n9 (zF S) 17 = true := xb_1 c_2
      refine lv_iconst (v := (-1)) hx hb dX4_letChildJoin_24 (by decide) ?_
      exact x_iret (G := G) hx hb hr rfl dX4_letChildJoin_25 hlocks hS (by first | exact Nat.le_of_ble_eq_true rfl | exact (show 0 ≤ 20 by omega)) (by first | exact Nat.le_of_ble_eq_true rfl | exact (show 0 ≤ 600 by omega)) ⟨by rw [zlet_1 (Or.inr hya)], ad, rfl, by rw [zlet_1 (Or.inr hya)]; exact hK.xs⟩

set_option maxHeartbeats 4000000 in
set_option maxRecDepth 100000 in
/-- evolve(auction) -/
theorem c_X4_evolve (l : Launch) (hfl : l.stackTraces = false) (G : xG) (ad : Nat → Nat) (S : zS) (u9 : Int32) (H : Heap) (hX : XS G ad S H) (hW : zW S) : xMet l G yX4_evolve wsX4_evolve ({ frames := 9, cells := 40, slots := 1000, locals := 351 } : Room) [.ref (ad 0), .int u9] H (fun v H1 => kevolve S u9 = 0 ∧ v = some (.int (zevolve S u9.toNatClampNeg).1) ∧ ∃ ad', ad' 0 = ad 0 ∧ XS G ad' (zevolve S u9.toNatClampNeg).2 H1) (zx [zIA, zIS] (kevolve S u9) H) := by
  refine vx_ofW (cc := cX4_evolve) (maxL := 4) (ret := (some .int)) (by decide) rfl ?_
  intro Pg Ev s m args below meth c s₁ B hml hout hv
  obtain ⟨rfl, hH, hC⟩ := hv
  have hx := B.exec
  have hb := B.bytes
  have hr := B.returns
  have hts := atoms_spec (ws := wsX4_evolve) B.pre
  have hown : s.vm.findClass RX4 = some m.cls := findClass_of_methodNamed B.named
  have hlocks := B.notSynchronized
  rw [hH]
  have hS : va_S (xA G) s.heap H [] := by rw [← hH]; exact va_S.rf
  generalize ([] : List Loc) = locs at hS ⊢
  have hl := lv_entry [.ref (ad 0), .int u9] (n := 4) (Nat.le_of_ble_eq_true rfl)
  rw [lg_entry_eq]
  generalize (lg_sl [.ref (ad 0), .int u9] ++ List.replicate (4 - (lg_sl [.ref (ad 0), .int u9]).length) Slot.unset).toArray = ls at hl ⊢
  have hl : lv_has ls 4 [(0, .ref (ad 0)), (1, .int u9)] := hl
  obtain ⟨hO, ⟨fb, hfb, hx0⟩, ⟨td, hdr⟩, ⟨tc, nc, hch⟩, ⟨gs, ds, hsk⟩, ⟨m9, k9, a9, hl9⟩, ⟨f1, f2, hpr⟩, ⟨fr1, hr1⟩, ⟨fr2, hr2⟩, ⟨fr3, hr3⟩, ⟨kp, hkp, hst⟩⟩ := id hX
  have hl0 := hl9.1.1
  have hx9 := hx0
  have hn20 := hW.1
  have hU9 := hW.2.2.2.2.1
  have hK : XK G ad S kp fb m9 k9 a9 H := ⟨hO, hfb, hx0, ⟨td, hdr⟩, ⟨tc, nc, hch⟩, ⟨gs, ds, hsk⟩, hl9, ⟨f1, f2, hpr⟩, ⟨fr1, hr1⟩, ⟨fr2, hr2⟩, ⟨fr3, hr3⟩, hkp, hst⟩
  have h8 := hW.2.2.2.2.2.2.1
  have hctn := xct_le (zI S) (zN S)
  refine lv_iload_n hx hb dX4_evolve_0 rfl (lv_at hl 1 rfl) ?_
  have hsz := hS.1
  refine x_call (vx_runS (As := [.int u9]) (rest := []) ⟨hx, hb, hml, hown, hts⟩ (c_X4_requireAuction l hfl G (u9) H) (va_cwS 1 hts gX4_evolve_X4_requireAuction rfl rfl rfl (by decide +kernel) ⟨(Nat.le_of_ble_eq_true rfl), (Nat.le_of_ble_eq_true rfl)⟩) (xPreS hC hS) rfl rfl hl.1 rfl (lv_room (Nat.le_of_ble_eq_true rfl)) dX4_evolve_1 ⟨(by first | exact Nat.le_of_ble_eq_true rfl | exact (show 0 + 1 ≤ 40 by omega)), (by first | exact Nat.le_of_ble_eq_true rfl | exact (show 0 + 6 ≤ 1000 by omega))⟩) hS (fun _ h => h) (fun E qx9 ce H_1 locs hp hz hk_2 hS hq1 hq2 hq3 => ?_) (fun v H_1 locs hp hz hk_2 hS => ?_)
  · have _ := hx
    obtain ⟨hkf, rfl, hcx⟩ := zx1 hp
    exact x_out (G := G) hout hlocks hq1 hq2 hq3 hS (by first | exact Nat.le_of_ble_eq_true rfl | exact (show 0 + 1 ≤ 40 by omega)) (by first | exact Nat.le_of_ble_eq_true rfl | exact (show 0 + 6 ≤ 1000 by omega)) (zx_mk 0 (show kevolve S u9 = 1 from by unfold kevolve; rw [hkf]; rfl) rfl hcx)
  · have _ := hx
    obtain ⟨hk_n9, rfl, rfl⟩ := hp
    obtain ⟨n9, hn9, rfl⟩ := xok_of hk_n9 (by omega)
    refine lv_aload_n hx hb dX4_evolve_4 rfl (lv_at hl 0 rfl) ?_
    refine x_intE (vx_runV (As := []) (rest := []) ⟨hx, hb, hml, hown, hts⟩ (c_X4_poolSize l hfl G ad (S) kp m9 fb k9 a9 H hK.x0 hK.l hW hK.st) (cwV 0 hts gX4_evolve_X4_poolSize rfl rfl rfl (by decide +kernel) ⟨(Nat.le_of_ble_eq_true rfl), (Nat.le_of_ble_eq_true rfl)⟩) (xPreV hC hS hx9 (q := (RX4, TX4, 11)) rfl) rfl rfl hl.1 rfl (lv_room (Nat.le_of_ble_eq_true rfl)) dX4_evolve_5 ⟨(by first | exact Nat.le_of_ble_eq_true rfl | exact (show 0 + 1 + 0 ≤ 40 by omega)), (by first | exact Nat.le_of_ble_eq_true rfl | exact (show 0 + 6 + 0 ≤ 1000 by omega))⟩) hS (fun locs hS => ?_)
    refine lv_iconst (v := (nI 3)) hx hb dX4_evolve_8 (by decide) ?_
    refine lv_icmp_ge (tgt := 22) hx hb dX4_evolve_9 (by decide) (fun c_3 => ?_) (fun c_3 => ?_)
    · have _ := hx
      have c_3 : 3 ≤ (xct (zI (S)) (zN (S))) := (nI_leI (a := 3) (b := (xct (zI (S)) (zN (S)))) (by omega) (by omega)).mp c_3
      refine lv_aload_n hx hb dX4_evolve_22 rfl (lv_at hl 0 rfl) ?_
      refine va_get (D := xD G) (ci := 5) (v := .ref (ad 10)) (C := RX4) (T := TX4) (N := 11) hx hb hts (by decide +kernel) hown hC.1 (x1 hx9) 0 rfl rfl 3 (by decide) (hts (.fieldLink RX4 29 "Bidwhistle" "strategies" "Ljava/util/ArrayList;") (by decide +kernel)) (fun _ h9 => h9) rfl dX4_evolve_23 ?_
      refine x_intE (vx_runV (As := []) (rest := []) ⟨hx, hb, hml, hown, hts⟩ (c_Jx4a65c_size_8abf5 l hfl G (ad 10) (ad 11) (zN S) m9 H hl0) (cwV 0 hts gX4_evolve_Jx4a65c_size_8abf5 rfl rfl rfl (by decide +kernel) ⟨(Nat.le_of_ble_eq_true rfl), (Nat.le_of_ble_eq_true rfl)⟩) (xPreV hC hS hl0 (q := (RJx4a65c, TJx4a65c, 3)) rfl) rfl rfl hl.1 rfl (lv_room (Nat.le_of_ble_eq_true rfl)) dX4_evolve_26 ⟨(by first | exact Nat.le_of_ble_eq_true rfl | exact (show 0 + 1 + 0 ≤ 40 by omega)), (by first | exact Nat.le_of_ble_eq_true rfl | exact (show 0 + 6 + 0 ≤ 1000 by omega))⟩) hS (fun locs hS => ?_)
      refine lv_bipush (v := (nI 20)) hx hb dX4_evolve_29 (by decide) ?_
      refine lv_icmp_lt (tgt := 44) hx hb dX4_evolve_31 (by decide) (fun c_4 => ?_) (fun c_4 => ?_)
      · have _ := hx
        have c_4 : (zN S) < 20 := (nI_ltI (a := (zN S)) (b := 20) (by omega) (by omega)).mp c_4
        refine lv_aload_n hx hb dX4_evolve_44 rfl (lv_at hl 0 rfl) ?_
        refine lv_iload_n hx hb dX4_evolve_45 rfl (lv_at hl 1 rfl) ?_
        have hsz := hS.1
        refine x_call (px := xNo) (vx_runV (As := [.int (nI n9)]) (rest := []) ⟨hx, hb, hml, hown, hts⟩ (c_X4_layWorths l hfl G ad S kp m9 fb k9 a9 n9 fr3 f1 f2 H hx0 hl9 hW hst hO hn9 hpr hr3) (cwV 1 hts gX4_evolve_X4_layWorths rfl rfl rfl (by decide +kernel) ⟨(Nat.le_of_ble_eq_true rfl), (Nat.le_of_ble_eq_true rfl)⟩) (xPreV hC hS hx9 (q := (RX4, TX4, 11)) rfl) rfl rfl hl.1 rfl (lv_room (Nat.le_of_ble_eq_true rfl)) dX4_evolve_46 ⟨(by first | exact Nat.le_of_ble_eq_true rfl | exact (show 0 + 1 + 0 ≤ 40 by omega)), (by first | exact Nat.le_of_ble_eq_true rfl | exact (show 0 + 6 + 0 ≤ 1000 by omega))⟩) hS (fun _ h => h) (fun _ _ _ _ _ h => False.elim h) (fun v H_5 locs hp hz hk_6 hS => ?_)
        obtain ⟨rfl, f'7, hrw7, hff7, hc7⟩ := hp
        have hx9 := hc7.at hx9 (xn1 (hO.ne (i := 0) (j := 21) (by omega) (by omega) (by omega)))
        have hl0 := hc7.at hl0 (xn1 (hO.ne (i := 10) (j := 21) (by omega) (by omega) (by omega)))
        obtain ⟨q0, q1, q2, q3, q4, q5, q6, q7⟩ := zkeep (S := S) (ls := [21]) hO hc7 (by decide)
        have hx07 := q0 _ _ (by decide) hx0
        have hl97 := q4 _ _ _ _ (by decide) hl9
        have hst7 := fun i hi => q7 _ _ i hi (hst i hi)
        refine lv_aload_n hx hb dX4_evolve_49 rfl (lv_at hl 0 rfl) ?_
        refine lv_aload_n hx hb dX4_evolve_50 rfl (lv_at hl 0 rfl) ?_
        refine x_intE (vx_runV (As := []) (rest := [.ref (ad 0)]) ⟨hx, hb, hml, hown, hts⟩ (c_X4_weakest l hfl G ad S kp m9 fb k9 a9 n9 f'7 H_5 hx07 hl97 hW hst7 hrw7 hff7) (cwV 0 hts gX4_evolve_X4_weakest rfl rfl rfl (by decide +kernel) ⟨(Nat.le_of_ble_eq_true rfl), (Nat.le_of_ble_eq_true rfl)⟩) (xPreV hC hS hx9 (q := (RX4, TX4, 11)) rfl) rfl rfl hl.1 rfl (lv_room (Nat.le_of_ble_eq_true rfl)) dX4_evolve_51 ⟨(by first | exact Nat.le_of_ble_eq_true rfl | exact (show 0 + 1 + 0 ≤ 40 by omega)), (by first | exact Nat.le_of_ble_eq_true rfl | exact (show 0 + 6 + 0 ≤ 1000 by omega))⟩) hS (fun locs hS => ?_)
        have hw0 := zleast_some (S := S) (u := n9) (n := zN S) (by omega)
        have hw1 := zleast_in hw0
        rw [xpar_pos hw0]
        have hsz := hS.1
        refine x_call (px := xNo) (vx_runV (As := [.int (nI (zleast S n9 (zN S) - 1))]) (rest := []) ⟨hx, hb, hml, hown, hts⟩ (c_X4_strat_ok l hfl G ad S kp m9 fb k9 a9 (zleast S n9 (zN S) - 1) H_5 hx07 hl97 hW hst7 (by omega)) (cwV 1 hts gX4_evolve_X4_strategyAt rfl rfl rfl (by decide +kernel) ⟨(Nat.le_of_ble_eq_true rfl), (Nat.le_of_ble_eq_true rfl)⟩) (xPreV hC hS hx9 (q := (RX4, TX4, 11)) rfl) rfl rfl hl.1 rfl (lv_room (Nat.le_of_ble_eq_true rfl)) dX4_evolve_54 ⟨(by first | exact Nat.le_of_ble_eq_true rfl | exact (show 0 + 1 + 0 ≤ 40 by omega)), (by first | exact Nat.le_of_ble_eq_true rfl | exact (show 0 + 6 + 0 ≤ 1000 by omega))⟩) hS (fun _ h => h) (fun _ _ _ _ _ h => False.elim h) (fun v H_8 locs hp hz hk_9 hS => ?_)
        obtain ⟨rfl, rfl⟩ := hp
        have hst := hst7
        obtain ⟨ts_10, sls_10, fs_10, hss_10, hps_10, hbs_10, hvs_10, hts_10, hfs_10, hzs_10⟩ := hst (zleast S n9 (zN S) - 1) (by omega)
        refine lv_iconst (v := (nI 0)) hx hb dX4_evolve_57 (by decide) ?_
        refine x_putN (G := G) (ci := 4) (v := .int (nI 0)) (ty := .boolean) (C := RX3) (T := TX3) (N := 8) hx hb hts (by decide +kernel) tyX3 tyX3_ok nmX3 hown hC hS (hO.2 (22 + 6 * (zleast S n9 (zN S) - 1)) (by omega) (by omega)) hss_10 rfl 7 (by decide) (hC.2.1 (.fieldLinkNest "Bidwhistle" 129 "Bidwhistle$Strategy" "inPool" "Z" "Bidwhistle") (by decide +kernel)) (fun _ h9 => h9) rfl (by decide +kernel) (by rfl) (by rfl) (Nat.le_of_ble_eq_true rfl) dX4_evolve_58 (fun H_12 locs hss_10 hc_11 hS => ?_)
        have hss_10 : oA G (ad (22 + 6 * (zleast S n9 (zN S) - 1))) 4 [.int (nI (zleast S n9 (zN S) - 1)), .ref (ad (23 + 6 * (zleast S n9 (zN S) - 1))), .int (xpar (zU S (zleast S n9 (zN S) - 1))), .int (xpar (zV S (zleast S n9 (zN S) - 1))), .ref (ad (26 + 6 * (zleast S n9 (zN S) - 1))), .int sls_10, .int (nI (kp (zleast S n9 (zN S) - 1))), .int (nI 0)] H_12 := hss_10
        have hx9 := hc_11.at hx9 (xn1 (hO.ne (i := 0) (j := (22 + 6 * (zleast S n9 (zN S) - 1))) (by omega) (by omega) (by omega)))
        have hl0 := hc_11.at hl0 (xn1 (hO.ne (i := 10) (j := (22 + 6 * (zleast S n9 (zN S) - 1))) (by omega) (by omega) (by omega)))
        have hKu : XK G ad S kp fb m9 k9 a9 H_5 := ⟨hO, hfb, hx07, ⟨td, q1 _ _ (by decide) hdr⟩, ⟨tc, nc, q2 _ _ (by decide) hch⟩, ⟨gs, ds, q3 _ _ (by decide) hsk⟩, hl97, ⟨f1, f2, q5 _ _ _ (by decide) hpr⟩, ⟨fr1, q6 16 _ (by decide) (by decide) hr1⟩, ⟨fr2, q6 18 _ (by decide) (by decide) hr2⟩, ⟨f'7, hrw7⟩, hkp, hst7⟩
        have hK1 : XK G ad (zev1 S n9) kp fb m9 k9 a9 H_12 := hKu.pool hU9 (by omega) hc_11 hss_10 hzs_10
        have h20 := hW.2.2.2.2.2.2.1
        have hup := xct_up0 hw1.1 (n := zN S) (by omega)
        have hW1 : zW (zev1 S n9) := hW.pool (by omega)
        have hrwE : zRow G ad 20 f'7 H_12 := hrw7.kept (ls := [22 + 6 * (zleast S n9 (zN S) - 1)]) hO hc_11 (by omega) (xl1 (by omega)) ⟨xn1 (by omega), xn1 (by omega)⟩
        have hffE : ∀ j, j < zN S → zI (zev1 S n9) j = true → f'7 j = Int32.ofInt (zworth S n9 j) := fun j hj h => hff7 j hj (by have h : va_up (zI S) (zleast S n9 (zN S) - 1) false j = true := h; by_cases c9 : j = (zleast S n9 (zN S) - 1); (rw [c9, va_up_self] at h; cases h); (rw [va_up_ne _ _ c9] at h; exact h))
        have hx9 := hK1.x0
        have h1c : 2 ≤ xct (zI (zev1 S n9)) (zN S) := by show 2 ≤ xct (va_up (zI S) (zleast S n9 (zN S) - 1) false) (zN S); omega
        have hf0 : zevf S n9 ≠ 0 := zmost_some (xct_two h1c)
        have hf1 := zmost_in hf0
        have hg0 : zevg S n9 ≠ 0 := zmost_some (xct_two h1c)
        have hg1 := zmost_in hg0
        have hfN : zevf S n9 ≤ zN S := hf1.2.1
        have hgN : zevg S n9 ≤ zN S := hg1.2.1
        have hhf : zmost (zI (zev1 S n9)) (zworth S n9) 0 (zN (zev1 S n9)) = zevf S n9 := rfl
        have hhg : zmost (zI (zev1 S n9)) (zworth S n9) (zevf S n9) (zN (zev1 S n9)) = zevg S n9 := rfl
        refine lv_aload_n hx hb dX4_evolve_61 rfl (lv_at hl 0 rfl) ?_
        refine lv_iconst (v := xpar 0) hx hb dX4_evolve_62 (by decide) ?_
        refine x_intE (vx_runV (As := [.int (xpar 0)]) (rest := []) ⟨hx, hb, hml, hown, hts⟩ (c_X4_strongestBut l hfl G ad (zev1 S n9) kp m9 fb k9 a9 0 (zworth S n9) f'7 H_12 hK1.x0 hK1.l hW1 hK1.st hrwE (fun j => by have := zworth_in hW n9 j; omega) hffE (by omega)) (cwV 1 hts gX4_evolve_X4_strongestBut rfl rfl rfl (by decide +kernel) ⟨(Nat.le_of_ble_eq_true rfl), (Nat.le_of_ble_eq_true rfl)⟩) (xPreV hC hS hx9 (q := (RX4, TX4, 11)) rfl) rfl rfl hl.1 rfl (lv_room (Nat.le_of_ble_eq_true rfl)) dX4_evolve_63 ⟨(by first | exact Nat.le_of_ble_eq_true rfl | exact (show 0 + 1 + 0 ≤ 40 by omega)), (by first | exact Nat.le_of_ble_eq_true rfl | exact (show 0 + 6 + 0 ≤ 1000 by omega))⟩) hS (fun locs hS => ?_)
        rw [hhf]
        refine lv_istore_n (lv' := [(2, .int (xpar (zevf S n9))), (0, .ref (ad 0)), (1, .int (nI n9))]) hx hb dX4_evolve_66 rfl hl (by decide) rfl (fun ls hl => ?_)
        refine lv_aload_n hx hb dX4_evolve_67 rfl (lv_at hl 1 rfl) ?_
        refine lv_iload_n hx hb dX4_evolve_68 rfl (lv_at hl 0 rfl) ?_
        refine x_intE (vx_runV (As := [.int (xpar (zevf S n9))]) (rest := []) ⟨hx, hb, hml, hown, hts⟩ (c_X4_strongestBut l hfl G ad (zev1 S n9) kp m9 fb k9 a9 (zevf S n9) (zworth S n9) f'7 H_12 hK1.x0 hK1.l hW1 hK1.st hrwE (fun j => by have := zworth_in hW n9 j; omega) hffE (by omega)) (cwV 1 hts gX4_evolve_X4_strongestBut rfl rfl rfl (by decide +kernel) ⟨(Nat.le_of_ble_eq_true rfl), (Nat.le_of_ble_eq_true rfl)⟩) (xPreV hC hS hx9 (q := (RX4, TX4, 11)) rfl) rfl rfl hl.1 rfl (lv_room (Nat.le_of_ble_eq_true rfl)) dX4_evolve_69 ⟨(by first | exact Nat.le_of_ble_eq_true rfl | exact (show 0 + 1 + 0 ≤ 40 by omega)), (by first | exact Nat.le_of_ble_eq_true rfl | exact (show 0 + 6 + 0 ≤ 1000 by omega))⟩) hS (fun locs hS => ?_)
        rw [hhg]
        refine lv_istore_n (lv' := [(3, .int (xpar (zevg S n9))), (2, .int (xpar (zevf S n9))), (0, .ref (ad 0)), (1, .int (nI n9))]) hx hb dX4_evolve_72 rfl hl (by decide) rfl (fun ls hl => ?_)
        refine lv_aload_n hx hb dX4_evolve_73 rfl (lv_at hl 2 rfl) ?_
        refine lv_aload_n hx hb dX4_evolve_74 rfl (lv_at hl 2 rfl) ?_
        refine lv_iload_n hx hb dX4_evolve_75 rfl (lv_at hl 1 rfl) ?_
        have hnef : xpar (zevf S n9) = nI (zevf S n9 - 1) := xpar_pos hf0
        have hsz := hS.1
        refine x_call (px := xNo) (vx_runV (As := [.int (xpar (zevf S n9))]) (rest := [.ref (ad 0)]) ⟨hx, hb, hml, hown, hts⟩ ((hnef ▸ c_X4_strat_ok l hfl G ad (zev1 S n9) kp m9 fb k9 a9 (zevf S n9 - 1) H_12 hK1.x0 hK1.l hW1 hK1.st (by show _ < zN S; omega))) (cwV 1 hts gX4_evolve_X4_strategyAt rfl rfl rfl (by decide +kernel) ⟨(Nat.le_of_ble_eq_true rfl), (Nat.le_of_ble_eq_true rfl)⟩) (xPreV hC hS hx9 (q := (RX4, TX4, 11)) rfl) rfl rfl hl.1 rfl (lv_room (Nat.le_of_ble_eq_true rfl)) dX4_evolve_76 ⟨(by first | exact Nat.le_of_ble_eq_true rfl | exact (show 0 + 1 + 0 ≤ 40 by omega)), (by first | exact Nat.le_of_ble_eq_true rfl | exact (show 0 + 6 + 0 ≤ 1000 by omega))⟩) hS (fun _ h => h) (fun _ _ _ _ _ h => False.elim h) (fun v H_13 locs hp hz hk_14 hS => ?_)
        obtain ⟨rfl, rfl⟩ := hp
        obtain ⟨tzf, szf, fzf, hzsf, hzpf, -⟩ := hK1.st (zevf S n9 - 1) (by show _ < zN S; omega)
        refine va_getN (D := xD G) (ci := 4) (v := .ref (ad (23 + 6 * (zevf S n9 - 1)))) (C := RX3) (T := TX3) (N := 8) hx hb hts (by decide +kernel) hown hC.1 (x1 hzsf) 0 rfl rfl 1 (by decide) (va_Nw.use rfl (hC.2.1 (.fieldLinkNest "Bidwhistle" 135 "Bidwhistle$Strategy" "program" "LBidwhistle$Program;" "Bidwhistle") (by decide +kernel))) (fun _ h9 => h9) rfl dX4_evolve_79 ?_
        refine lv_aload_n hx hb dX4_evolve_82 rfl (lv_at hl 2 rfl) ?_
        refine lv_iload_n hx hb dX4_evolve_83 rfl (lv_at hl 0 rfl) ?_
        have hneg : xpar (zevg S n9) = nI (zevg S n9 - 1) := xpar_pos hg0
        have hsz := hS.1
        refine x_call (px := xNo) (vx_runV (As := [.int (xpar (zevg S n9))]) (rest := [.ref (ad (23 + 6 * (zevf S n9 - 1))), .ref (ad 0)]) ⟨hx, hb, hml, hown, hts⟩ ((hneg ▸ c_X4_strat_ok l hfl G ad (zev1 S n9) kp m9 fb k9 a9 (zevg S n9 - 1) H_12 hK1.x0 hK1.l hW1 hK1.st (by show _ < zN S; omega))) (cwV 1 hts gX4_evolve_X4_strategyAt rfl rfl rfl (by decide +kernel) ⟨(Nat.le_of_ble_eq_true rfl), (Nat.le_of_ble_eq_true rfl)⟩) (xPreV hC hS hx9 (q := (RX4, TX4, 11)) rfl) rfl rfl hl.1 rfl (lv_room (Nat.le_of_ble_eq_true rfl)) dX4_evolve_84 ⟨(by first | exact Nat.le_of_ble_eq_true rfl | exact (show 0 + 1 + 0 ≤ 40 by omega)), (by first | exact Nat.le_of_ble_eq_true rfl | exact (show 0 + 6 + 0 ≤ 1000 by omega))⟩) hS (fun _ h => h) (fun _ _ _ _ _ h => False.elim h) (fun v H_15 locs hp hz hk_16 hS => ?_)
        obtain ⟨rfl, rfl⟩ := hp
        obtain ⟨tzg, szg, fzg, hzsg, hzpg, -⟩ := hK1.st (zevg S n9 - 1) (by show _ < zN S; omega)
        refine va_getN (D := xD G) (ci := 4) (v := .ref (ad (23 + 6 * (zevg S n9 - 1)))) (C := RX3) (T := TX3) (N := 8) hx hb hts (by decide +kernel) hown hC.1 (x1 hzsg) 0 rfl rfl 1 (by decide) (va_Nw.use rfl (hC.2.1 (.fieldLinkNest "Bidwhistle" 135 "Bidwhistle$Strategy" "program" "LBidwhistle$Program;" "Bidwhistle") (by decide +kernel))) (fun _ h9 => h9) rfl dX4_evolve_87 ?_
        obtain ⟨tcc, ncc, hchc⟩ := hK1.2.2.2.2.1
        have hsz := hS.1
        refine x_call (px := xNo) (vx_runV (As := [.ref (ad (23 + 6 * (zevf S n9 - 1))), .ref (ad (23 + 6 * (zevg S n9 - 1)))]) (rest := []) ⟨hx, hb, hml, hown, hts⟩ (c_X4_cross l hfl G ad (zev1 S n9) kp m9 fb k9 a9 (zevf S n9 - 1) (zevg S n9 - 1) ncc tcc H_12 hK1.x0 hK1.l hW1 hK1.st hK1.1 (by show _ < zN S; omega) (by show _ < zN S; omega) hchc) (cwV 2 hts gX4_evolve_X4_cross rfl rfl rfl (by decide +kernel) ⟨(Nat.le_of_ble_eq_true rfl), (Nat.le_of_ble_eq_true rfl)⟩) (xPreV hC hS hx9 (q := (RX4, TX4, 11)) rfl) rfl rfl hl.1 rfl (lv_room (Nat.le_of_ble_eq_true rfl)) dX4_evolve_90 ⟨(by first | exact Nat.le_of_ble_eq_true rfl | exact (show 0 + 1 + 0 ≤ 40 by omega)), (by first | exact Nat.le_of_ble_eq_true rfl | exact (show 0 + 6 + 0 ≤ 1000 by omega))⟩) hS (fun _ h => h) (fun _ _ _ _ _ h => False.elim h) (fun v H_17 locs hp hz hk_18 hS => ?_)
        obtain ⟨rfl, tb19, hpc19, htb19, hc19⟩ := hp
        have hK3 : XK G ad (zev1 S n9) kp fb m9 k9 a9 H_17 := by
          obtain ⟨gO, gfb, gx0, ⟨gtd, gdr⟩, -, ⟨ggs, gds, gsk⟩, gl9, ⟨gf1, gf2, gpr⟩, ⟨gr1, gr1h⟩, ⟨gr2, gr2h⟩, ⟨gr3, gr3h⟩, gkp, gst⟩ := id hK1
          obtain ⟨p0, p1, p2, p3, p4, p5, p6, p7⟩ := zkeep (S := zev1 S n9) (ls := [4, 6]) gO hc19 (by decide)
          exact ⟨gO, gfb, p0 _ _ (by decide) gx0, ⟨gtd, p1 _ _ (by decide) gdr⟩, ⟨_, _, hpc19⟩, ⟨ggs, gds, p3 _ _ (by decide) gsk⟩, p4 _ _ _ _ (by decide) gl9, ⟨gf1, gf2, p5 _ _ _ (by decide) gpr⟩, ⟨gr1, p6 16 _ (by decide) (by decide) gr1h⟩, ⟨gr2, p6 18 _ (by decide) (by decide) gr2h⟩, ⟨gr3, p6 20 _ (by decide) (by decide) gr3h⟩, gkp, fun i hi => p7 _ _ i hi (gst i hi)⟩
        have hx9 := hK3.x0
        refine lv_aload_n hx hb dX4_evolve_93 rfl (lv_at hl 2 rfl) ?_
        refine lv_iload_n hx hb dX4_evolve_94 rfl (lv_at hl 1 rfl) ?_
        refine lv_iload_n hx hb dX4_evolve_95 rfl (lv_at hl 0 rfl) ?_
        have hsz := hS.1
        refine x_call (px := xNo) (vx_runV (As := [.int (xpar (zevf S n9)), .int (xpar (zevg S n9))]) (rest := []) ⟨hx, hb, hml, hown, hts⟩ (c_X4_letChildJoin l hfl G ad (zev1 S n9) kp m9 fb k9 a9 (zchL (zev1 S n9) (zevf S n9 - 1) (zevg S n9 - 1)) (zevf S n9) (zevg S n9) tb19 (zchP (zev1 S n9) (zevf S n9 - 1) (zevg S n9 - 1)) H_17 hK3 hW1 (by show zN S < 20; omega) hpc19 htb19 (zchP_le hW1 _ _).2 hfN hgN) (cwV 2 hts gX4_evolve_X4_letChildJoin rfl rfl rfl (by decide +kernel) ⟨(Nat.le_of_ble_eq_true rfl), (Nat.le_of_ble_eq_true rfl)⟩) (xPreV hC hS hx9 (q := (RX4, TX4, 11)) rfl) rfl rfl hl.1 rfl (lv_room (Nat.le_of_ble_eq_true rfl)) dX4_evolve_96 ⟨(by first | exact Nat.le_of_ble_eq_true rfl | exact (show 0 + 1 + 20 ≤ 40 by omega)), (by first | exact Nat.le_of_ble_eq_true rfl | exact (show 0 + 6 + 600 ≤ 1000 by omega))⟩) hS (fun _ h => h) (fun _ _ _ _ _ h => False.elim h) (fun v H_20 locs hp hz hk_21 hS => ?_)
        obtain ⟨rfl, ad', had', hX'⟩ := hp
        exact x_iret (G := G) hx hb hr rfl dX4_evolve_99 hlocks hS (by first | exact Nat.le_of_ble_eq_true rfl | exact (show 0 + 1 + 20 ≤ 40 by omega)) (by first | exact Nat.le_of_ble_eq_true rfl | exact (show 0 + 6 + 600 ≤ 1000 by omega)) ⟨kevolve_0 hn9 (by omega), by rw [nI_clamp (show n9 < 2 ^ 31 by omega)] <;> rfl, ad', had', by rw [nI_clamp (show n9 < 2 ^ 31 by omega)]; exact hX'⟩
      · have _ := hx
        have c_4 : ¬ ((zN S) < 20) := fun z => c_4 ((nI_ltI (a := (zN S)) (b := 20) (by omega) (by omega)).mpr z)
        exact x_throw (G := G) (cls := "java/lang/IllegalStateException") (text := "20 strategies are stored") hx hb hfl hts hown (by decide +kernel) (by decide +kernel) (by decide +kernel) (by decide +kernel) (by decide +kernel) tbad_IS tgood_IS hC hS (by rw [hml]; exact hl.1) dX4_evolve_34 dX4_evolve_37 dX4_evolve_38 dX4_evolve_40 dX4_evolve_43 hout (Nat.le_of_ble_eq_true rfl) (Nat.le_of_ble_eq_true rfl) (by first | exact Nat.le_of_ble_eq_true rfl | exact (show 0 + 1 + 1 ≤ 40 by omega)) (by first | exact Nat.le_of_ble_eq_true rfl | exact (show 0 + 6 + 6 ≤ 1000 by omega)) hlocks (fun H1 hcx => zx_mk 1 (show kevolve S (nI n9) = 2 from kevolve_2 hn9 (Or.inr (by omega))) rfl hcx) (by first | exact Nat.le_of_ble_eq_true rfl | exact (show 0 + 1 + 1 ≤ 40 by omega)) (by first | exact Nat.le_of_ble_eq_true rfl | exact (show 0 + 6 + 6 ≤ 1000 by omega))
    · have _ := hx
      have c_3 : ¬ (3 ≤ (xct (zI (S)) (zN (S)))) := fun z => c_3 ((nI_leI (a := 3) (b := (xct (zI (S)) (zN (S)))) (by omega) (by omega)).mpr z)
      exact x_throw (G := G) (cls := "java/lang/IllegalStateException") (text := "fewer than 3 are in the pool") hx hb hfl hts hown (by decide +kernel) (by decide +kernel) (by decide +kernel) (by decide +kernel) (by decide +kernel) tbad_IS tgood_IS hC hS (by rw [hml]; exact hl.1) dX4_evolve_12 dX4_evolve_15 dX4_evolve_16 dX4_evolve_18 dX4_evolve_21 hout (Nat.le_of_ble_eq_true rfl) (Nat.le_of_ble_eq_true rfl) (by first | exact Nat.le_of_ble_eq_true rfl | exact (show 0 + 1 + 1 ≤ 40 by omega)) (by first | exact Nat.le_of_ble_eq_true rfl | exact (show 0 + 6 + 6 ≤ 1000 by omega)) hlocks (fun H1 hcx => zx_mk 1 (show kevolve S (nI n9) = 2 from kevolve_2 hn9 (Or.inl (by omega))) rfl hcx) (by first | exact Nat.le_of_ble_eq_true rfl | exact (show 0 + 1 + 1 ≤ 40 by omega)) (by first | exact Nat.le_of_ble_eq_true rfl | exact (show 0 + 6 + 6 ≤ 1000 by omega))
