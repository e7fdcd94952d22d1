set_option maxHeartbeats 4000000 in
set_option maxRecDepth 100000 in
/-- worthByValues(auction, strategy) -/
theorem c_X4_worthByValues (l : Launch) (hfl : l.stackTraces = false) (G : xG) (ad : Nat → Nat) (S : zS) (u9 p9 : Int32) (H : Heap) (hX : XS G ad S H) (hW : zW S) : xMet l G yX4_worthByValues wsX4_worthByValues ({ frames := 7, cells := 8, slots := 60, locals := 111 } : Room) [.ref (ad 0), .int u9, .int p9] H (fun v H1 => kworth S u9 p9 = 0 ∧ v = some (.int (Int32.ofInt (zworth S u9.toNatClampNeg p9.toNatClampNeg))) ∧ XS G ad S H1) (zx [zIO, zIA, zIS] (kworth S u9 p9) H) := by
  refine vx_ofW (cc := cX4_worthByValues) (maxL := 8) (ret := (some .int)) (by decide) rfl ?_
  intro Pg Ev s m args below meth c s₁ B hml hout hv
  obtain ⟨rfl, hH, hC⟩ := hv
  have hx := B.exec
  have hb := B.bytes
  have hr := B.returns
  have hts := atoms_spec (ws := wsX4_worthByValues) B.pre
  have hown : s.vm.findClass RX4 = some m.cls := findClass_of_methodNamed B.named
  have hlocks := B.notSynchronized
  rw [hH]
  have hS : va_S (xA G) s.heap H [] := by rw [← hH]; exact va_S.rf
  generalize ([] : List Loc) = locs at hS ⊢
  have hl := lv_entry [.ref (ad 0), .int u9, .int p9] (n := 8) (Nat.le_of_ble_eq_true rfl)
  rw [lg_entry_eq]
  generalize (lg_sl [.ref (ad 0), .int u9, .int p9] ++ List.replicate (8 - (lg_sl [.ref (ad 0), .int u9, .int p9]).length) Slot.unset).toArray = ls at hl ⊢
  have hl : lv_has ls 8 [(0, .ref (ad 0)), (1, .int u9), (2, .int p9)] := hl
  obtain ⟨hO, ⟨fb, hfb, hx0⟩, ⟨td, hdr⟩, ⟨tc, nc, hch⟩, ⟨gs, ds, hsk⟩, ⟨m9, k9, a9, hl9⟩, ⟨f1, f2, hpr⟩, ⟨fr1, hr1⟩, ⟨fr2, hr2⟩, ⟨fr3, hr3⟩, ⟨kp, hkp, hst⟩⟩ := id hX
  have hl0 := hl9.1.1
  have hx9 := hx0
  have hn20 := hW.1
  have hU9 := hW.2.2.2.2.1
  have hK6 : zK S ≤ 6 := hW.2.2.2.2.2.2.2.1
  have hOT : ∀ j, zO S j ≤ 99 ∧ zT S j ≤ 99 := hW.2.2.2.2.2.2.2.2
  obtain ⟨h12, h13, h14, h15, -⟩ := id hpr
  refine lv_aload_n hx hb dX4_worthByValues_0 rfl (lv_at hl 0 rfl) ?_
  refine lv_iload_n hx hb dX4_worthByValues_1 rfl (lv_at hl 2 rfl) ?_
  have hsz := hS.1
  refine x_call (vx_runV (As := [.int p9]) (rest := []) ⟨hx, hb, hml, hown, hts⟩ (c_X4_strategyAt l hfl G ad S kp m9 fb k9 a9 (p9) H hx0 hl9 hW hst) (cwV 1 hts gX4_worthByValues_X4_strategyAt rfl rfl rfl (by decide +kernel) ⟨(Nat.le_of_ble_eq_true rfl), (Nat.le_of_ble_eq_true rfl)⟩) (xPreV hC hS hx9 (q := (RX4, TX4, 11)) rfl) rfl rfl hl.1 rfl (lv_room (Nat.le_of_ble_eq_true rfl)) dX4_worthByValues_2 ⟨(by first | exact Nat.le_of_ble_eq_true rfl | exact (show 0 + 1 ≤ 8 by omega)), (by first | exact Nat.le_of_ble_eq_true rfl | exact (show 0 + 6 ≤ 60 by omega))⟩) hS (fun _ h => h) (fun E qx9 ce H_1 locs hp hz hk_2 hS hq1 hq2 hq3 => ?_) (fun v H_1 locs hp hz hk_2 hS => ?_)
  · have _ := hx
    obtain ⟨hkf, rfl, hcx⟩ := zx1 hp
    exact x_out (G := G) hout hlocks hq1 hq2 hq3 hS (by first | exact Nat.le_of_ble_eq_true rfl | exact (show 0 + 1 ≤ 8 by omega)) (by first | exact Nat.le_of_ble_eq_true rfl | exact (show 0 + 6 ≤ 60 by omega)) (zx_mk 0 (show kworth S u9 p9 = 1 from by unfold kworth; rw [hkf]; rfl) rfl hcx)
  · have _ := hx
    obtain ⟨i9, hi9, rfl, rfl, rfl⟩ := hp
    obtain ⟨ts_3, sls_3, fs_3, hss_3, hps_3, hbs_3, hvs_3, hts_3, hfs_3, hzs_3⟩ := hst i9 (by omega)
    refine lv_astore_n (lv' := [(3, .ref (ad (22 + 6 * i9))), (0, .ref (ad 0)), (1, .int u9), (2, .int (nI i9))]) hx hb dX4_worthByValues_5 rfl hl (by decide) rfl (fun ls hl => ?_)
    refine lv_iload_n hx hb dX4_worthByValues_6 rfl (lv_at hl 2 rfl) ?_
    have hsz := hS.1
    refine x_call (vx_runS (As := [.int u9]) (rest := []) ⟨hx, hb, hml, hown, hts⟩ (c_X4_requireAuction l hfl G (u9) H) (va_cwS 1 hts gX4_worthByValues_X4_requireAuction rfl rfl rfl (by decide +kernel) ⟨(Nat.le_of_ble_eq_true rfl), (Nat.le_of_ble_eq_true rfl)⟩) (xPreS hC hS) rfl rfl hl.1 rfl (lv_room (Nat.le_of_ble_eq_true rfl)) dX4_worthByValues_7 ⟨(by first | exact Nat.le_of_ble_eq_true rfl | exact (show 0 + 1 + 1 ≤ 8 by omega)), (by first | exact Nat.le_of_ble_eq_true rfl | exact (show 0 + 6 + 6 ≤ 60 by omega))⟩) hS (fun _ h => h) (fun E qx9 ce H_4 locs hp hz hk_5 hS hq1 hq2 hq3 => ?_) (fun v H_4 locs hp hz hk_5 hS => ?_)
    · have _ := hx
      obtain ⟨hkf, rfl, hcx⟩ := zx1 hp
      exact x_out (G := G) hout hlocks hq1 hq2 hq3 hS (by first | exact Nat.le_of_ble_eq_true rfl | exact (show 0 + 1 + 1 ≤ 8 by omega)) (by first | exact Nat.le_of_ble_eq_true rfl | exact (show 0 + 6 + 6 ≤ 60 by omega)) (zx_mk 1 (show kworth S u9 (nI i9) = 2 from by rw [kworth_j hn20 hi9, hkf]; rfl) rfl hcx)
    · have _ := hx
      obtain ⟨hk_n9, rfl, rfl⟩ := hp
      obtain ⟨n9, hn9, rfl⟩ := xok_of hk_n9 (by omega)
      refine lv_aload_n hx hb dX4_worthByValues_10 rfl (lv_at hl 0 rfl) ?_
      have hsz := hS.1
      refine x_call (vx_runS (As := [.ref (ad (22 + 6 * i9))]) (rest := []) ⟨hx, hb, hml, hown, hts⟩ (c_X4_requireInPool l hfl G (ad (22 + 6 * i9)) (ad (23 + 6 * i9)) (ad (26 + 6 * i9)) (nI i9) (xpar (zU S i9)) (xpar (zV S i9)) sls_3 (nI (kp i9)) (zI S i9) H hss_3) (va_cwS 1 hts gX4_worthByValues_X4_requireInPool rfl rfl rfl (by decide +kernel) ⟨(Nat.le_of_ble_eq_true rfl), (Nat.le_of_ble_eq_true rfl)⟩) (xPreS hC hS) rfl rfl hl.1 rfl (lv_room (Nat.le_of_ble_eq_true rfl)) dX4_worthByValues_11 ⟨(by first | exact Nat.le_of_ble_eq_true rfl | exact (show 0 + 1 + 1 + 1 ≤ 8 by omega)), (by first | exact Nat.le_of_ble_eq_true rfl | exact (show 0 + 6 + 6 + 6 ≤ 60 by omega))⟩) hS (fun _ h => h) (fun E qx9 ce H_6 locs hp hz hk_7 hS hq1 hq2 hq3 => ?_) (fun v H_6 locs hp hz hk_7 hS => ?_)
      · have _ := hx
        obtain ⟨hkf, rfl, hcx⟩ := zx1 hp
        exact x_out (G := G) hout hlocks hq1 hq2 hq3 hS (by first | exact Nat.le_of_ble_eq_true rfl | exact (show 0 + 1 + 1 + 1 ≤ 8 by omega)) (by first | exact Nat.le_of_ble_eq_true rfl | exact (show 0 + 6 + 6 + 6 ≤ 60 by omega)) (zx_mk 2 (show kworth S (nI n9) (nI i9) = 3 from by rw [kworth_j hn20 hi9, hkf, xok_nI hn9 (by decide)]; rfl) rfl hcx)
      · have _ := hx
        obtain ⟨hin, rfl, rfl⟩ := hp
        refine lv_iconst (v := (nI 0)) hx hb dX4_worthByValues_14 (by decide) ?_
        refine lv_istore (lv' := [(4, .int (nI 0)), (3, .ref (ad (22 + 6 * i9))), (0, .ref (ad 0)), (1, .int (nI n9)), (2, .int (nI i9))]) hx hb dX4_worthByValues_15 hl (by decide) rfl (fun ls hl => ?_)
        refine lv_iconst (v := (nI 0)) hx hb dX4_worthByValues_17 (by decide) ?_
        refine lv_istore (lv' := [(5, .int (nI 0)), (4, .int (nI 0)), (3, .ref (ad (22 + 6 * i9))), (0, .ref (ad 0)), (1, .int (nI n9)), (2, .int (nI i9))]) hx hb dX4_worthByValues_18 hl (by decide) rfl (fun ls hl => ?_)
        have L : ∀ (kL : Nat) (i : Nat) (s9 : Int32), (i ≤ zK S) → (s9 = Int32.ofInt (zvals S n9 i9 i)) → zK S - i < kL → ∀ (HL : Heap), (xC [ad 17, ad 19] H HL) → (∃ f, zRow G ad 16 f HL) → (∃ f, zRow G ad 18 f HL) → ∀ (locs : List Loc), va_S (xA G) s.heap HL locs → ∀ ls : Array Slot, lv_has ls 8 [(0, .ref (ad 0)), (1, .int (nI n9)), (2, .int (nI i9)), (4, .int s9), (5, .int (nI i))] → W Pg l Ev (headSpec wsX4_worthByValues ({ frames := 7, cells := 8, slots := 60, locals := 111 } : Room)).room s m ([.ref (ad 0), .int (nI n9), .int (nI i9)] : List Value).toArray below meth c HL locs (0 + 1 + 1 + 1) (0 + 6 + 6 + 6) (vx_MQ below (xQ G (fun v H1 => kworth S (nI n9) (nI i9) = 0 ∧ v = some (.int (Int32.ofInt (zworth S (nI n9).toNatClampNeg (nI i9).toNatClampNeg))) ∧ XS G ad S H1)) (xX G (zx [zIO, zIA, zIS] (kworth S (nI n9) (nI i9)) H)) ([.ref (ad 0), .int (nI n9), .int (nI i9)] : List Value).toArray s ({ frames := 7, cells := 8, slots := 60, locals := 111 } : Room).cells ({ frames := 7, cells := 8, slots := 60, locals := 111 } : Room).slots (xA G)) (F0 m 20 ls []) := by
          intro kL
          induction kL with
          | zero => intro i s9 hi hs9 hk; exact absurd hk (Nat.not_lt_zero _)
          | succ kL ihL =>
            intro i s9 hi hs9 hk HL hcc hrA hrB locs hS ls hl
            obtain ⟨q0L, q1L, q2L, q3L, q4L, q5L, q6L, q7L⟩ := zkeep (S := S) (ls := [17, 19]) hO hcc (by decide)
            have hx0L := q0L _ _ (by decide) hx0
            have hl9L := q4L _ _ _ _ (by decide) hl9
            have hstL := fun i hi => q7L _ _ i hi (hst i hi)
            have hprL := q5L _ _ _ (by decide) hpr
            obtain ⟨g1, hg1⟩ := hrA
            obtain ⟨g2, hg2⟩ := hrB
            have hx9 := hx0L
            obtain ⟨h12, h13, h14, h15, -⟩ := id hprL
            refine lv_iload hx hb dX4_worthByValues_20 (lv_at hl 4 rfl) ?_
            refine lv_aload_n hx hb dX4_worthByValues_22 rfl (lv_at hl 0 rfl) ?_
            refine va_get (D := xD G) (ci := 5) (v := .int (nI (zK S))) (C := RX4) (T := TX4) (N := 11) hx hb hts (by decide +kernel) hown hC.1 (x1 hx9) 0 rfl rfl 7 (by decide) (hts (.fieldLink RX4 49 "Bidwhistle" "pairsTold" "I") (by decide +kernel)) (fun _ h9 => h9) rfl dX4_worthByValues_23 ?_
            refine lv_icmp_ge (tgt := 119) hx hb dX4_worthByValues_26 (by decide) (fun c_8 => ?_) (fun c_8 => ?_)
            · have _ := hx
              have c_8 : (zK S) ≤ i := (nI_leI (a := (zK S)) (b := i) (by omega) (by omega)).mp c_8
              refine lv_iload hx hb dX4_worthByValues_119 (lv_at hl 3 rfl) ?_
              obtain ⟨q0, q1, q2, q3, q4, q5, q6, q7⟩ := zkeep (S := S) (ls := [17, 19]) hO hcc (by decide)
              exact x_iret (G := G) hx hb hr rfl dX4_worthByValues_121 hlocks hS (by first | exact Nat.le_of_ble_eq_true rfl | exact (show 0 + 1 + 1 + 1 ≤ 8 by omega)) (by first | exact Nat.le_of_ble_eq_true rfl | exact (show 0 + 6 + 6 + 6 ≤ 60 by omega)) ⟨by rw [kworth_j hn20 hi9, hin, xok_nI hn9 (by decide)]; rfl, by rw [nI_clamp (show n9 < 2 ^ 31 by omega), nI_clamp (show i9 < 2 ^ 31 by omega), hs9, show i = zK S by omega, zvals_worth], ⟨hO, ⟨fb, hfb, q0 _ _ (by decide) hx0⟩, ⟨td, q1 _ _ (by decide) hdr⟩, ⟨tc, nc, q2 _ _ (by decide) hch⟩, ⟨gs, ds, q3 _ _ (by decide) hsk⟩, ⟨m9, k9, a9, q4 _ _ _ _ (by decide) hl9⟩, ⟨f1, f2, q5 _ _ _ (by decide) hpr⟩, ⟨g1, hg1⟩, ⟨g2, hg2⟩, ⟨fr3, q6 20 _ (by decide) (by decide) hr3⟩, ⟨kp, hkp, fun i hi => q7 _ _ i hi (hst i hi)⟩⟩⟩
            · have _ := hx
              have c_8 : ¬ ((zK S) ≤ i) := fun z => c_8 ((nI_leI (a := (zK S)) (b := i) (by omega) (by omega)).mpr z)
              refine lv_aload_n hx hb dX4_worthByValues_29 rfl (lv_at hl 0 rfl) ?_
              refine va_get (D := xD G) (ci := 5) (v := .ref (ad 12)) (C := RX4) (T := TX4) (N := 11) hx hb hts (by decide +kernel) hown hC.1 (x1 hx9) 0 rfl rfl 5 (by decide) (hts (.fieldLink RX4 42 "Bidwhistle" "firstValues" "LBidwhistle$Row;") (by decide +kernel)) (fun _ h9 => h9) rfl dX4_worthByValues_30 ?_
              refine lv_iload hx hb dX4_worthByValues_33 (lv_at hl 4 rfl) ?_
              refine x_intE (vx_runV (As := [.int (nI i)]) (rest := []) ⟨hx, hb, hml, hown, hts⟩ (c_X1_at l hfl G (ad 12) (ad 13) 6 (i) f1 HL h12 h13 (by omega) (by decide)) (cwV 1 hts gX4_worthByValues_X1_at rfl rfl rfl (by decide +kernel) ⟨(Nat.le_of_ble_eq_true rfl), (Nat.le_of_ble_eq_true rfl)⟩) (xPreV hC hS h12 (q := (RX1, TX1, 1)) rfl) rfl rfl hl.1 rfl (lv_room (Nat.le_of_ble_eq_true rfl)) dX4_worthByValues_35 ⟨(by first | exact Nat.le_of_ble_eq_true rfl | exact (show 0 + 1 + 1 + 1 + 0 ≤ 8 by omega)), (by first | exact Nat.le_of_ble_eq_true rfl | exact (show 0 + 6 + 6 + 6 + 0 ≤ 60 by omega))⟩) hS (fun locs hS => ?_)
              rw [(hpr.2.2.2.2 i (by omega)).1]
              refine lv_istore (lv' := [(6, .int (nI (zO S i))), (0, .ref (ad 0)), (1, .int (nI n9)), (2, .int (nI i9)), (4, .int s9), (5, .int (nI i))]) hx hb dX4_worthByValues_38 hl (by decide) rfl (fun ls hl => ?_)
              refine lv_aload_n hx hb dX4_worthByValues_40 rfl (lv_at hl 1 rfl) ?_
              refine va_get (D := xD G) (ci := 5) (v := .ref (ad 14)) (C := RX4) (T := TX4) (N := 11) hx hb hts (by decide +kernel) hown hC.1 (x1 hx9) 0 rfl rfl 6 (by decide) (hts (.fieldLink RX4 46 "Bidwhistle" "secondValues" "LBidwhistle$Row;") (by decide +kernel)) (fun _ h9 => h9) rfl dX4_worthByValues_41 ?_
              refine lv_iload hx hb dX4_worthByValues_44 (lv_at hl 5 rfl) ?_
              refine x_intE (vx_runV (As := [.int (nI i)]) (rest := []) ⟨hx, hb, hml, hown, hts⟩ (c_X1_at l hfl G (ad 14) (ad 15) 6 (i) f2 HL h14 h15 (by omega) (by decide)) (cwV 1 hts gX4_worthByValues_X1_at rfl rfl rfl (by decide +kernel) ⟨(Nat.le_of_ble_eq_true rfl), (Nat.le_of_ble_eq_true rfl)⟩) (xPreV hC hS h14 (q := (RX1, TX1, 1)) rfl) rfl rfl hl.1 rfl (lv_room (Nat.le_of_ble_eq_true rfl)) dX4_worthByValues_46 ⟨(by first | exact Nat.le_of_ble_eq_true rfl | exact (show 0 + 1 + 1 + 1 + 0 ≤ 8 by omega)), (by first | exact Nat.le_of_ble_eq_true rfl | exact (show 0 + 6 + 6 + 6 + 0 ≤ 60 by omega))⟩) hS (fun locs hS => ?_)
              rw [(hpr.2.2.2.2 i (by omega)).2]
              refine lv_istore (lv' := [(7, .int (nI (zT S i))), (6, .int (nI (zO S i))), (0, .ref (ad 0)), (1, .int (nI n9)), (2, .int (nI i9)), (4, .int s9), (5, .int (nI i))]) hx hb dX4_worthByValues_49 hl (by decide) rfl (fun ls hl => ?_)
              refine lv_aload_n hx hb dX4_worthByValues_51 rfl (lv_at hl 2 rfl) ?_
              refine lv_iload hx hb dX4_worthByValues_52 (lv_at hl 1 rfl) ?_
              refine lv_aload_n hx hb dX4_worthByValues_54 rfl (lv_at hl 2 rfl) ?_
              refine va_get (D := xD G) (ci := 5) (v := .ref (ad 16)) (C := RX4) (T := TX4) (N := 11) hx hb hts (by decide +kernel) hown hC.1 (x1 hx9) 0 rfl rfl 8 (by decide) (hts (.fieldLink RX4 52 "Bidwhistle" "bidsForFirst" "LBidwhistle$Row;") (by decide +kernel)) (fun _ h9 => h9) rfl dX4_worthByValues_55 ?_
              have hsz := hS.1
              refine x_call (px := xNo) (vx_runV (As := [.int (nI (zO S i)), .ref (ad 16)]) (rest := []) ⟨hx, hb, hml, hown, hts⟩ (c_X4_layBids l hfl G ad S kp m9 fb k9 a9 (zO S i) 16 g1 HL hx0L hl9L hW hstL hO (by have := hOT i; omega) (Or.inl rfl) hg1) (cwV 2 hts gX4_worthByValues_X4_layBids rfl rfl rfl (by decide +kernel) ⟨(Nat.le_of_ble_eq_true rfl), (Nat.le_of_ble_eq_true rfl)⟩) (xPreV hC hS hx9 (q := (RX4, TX4, 11)) rfl) rfl rfl hl.1 rfl (lv_room (Nat.le_of_ble_eq_true rfl)) dX4_worthByValues_58 ⟨(by first | exact Nat.le_of_ble_eq_true rfl | exact (show 0 + 1 + 1 + 1 + 0 ≤ 8 by omega)), (by first | exact Nat.le_of_ble_eq_true rfl | exact (show 0 + 6 + 6 + 6 + 0 ≤ 60 by omega))⟩) hS (fun _ h => h) (fun _ _ _ _ _ h => False.elim h) (fun v H_9 locs hp hz hk_10 hS => ?_)
              obtain ⟨rfl, ga11, hga11, hgf11, hc11⟩ := hp
              have hx9 := hc11.at hx9 (xn1 (hO.ne (i := 0) (j := 17) (by omega) (by omega) (by omega)))
              have h12 := hc11.at h12 (xn1 (hO.ne (i := 12) (j := 17) (by omega) (by omega) (by omega)))
              have h13 := hc11.at h13 (xn1 (hO.ne (i := 13) (j := 17) (by omega) (by omega) (by omega)))
              have h14 := hc11.at h14 (xn1 (hO.ne (i := 14) (j := 17) (by omega) (by omega) (by omega)))
              have h15 := hc11.at h15 (xn1 (hO.ne (i := 15) (j := 17) (by omega) (by omega) (by omega)))
              have hc11 : xC [ad 17] _ _ := hc11
              obtain ⟨q0M, q1M, q2M, q3M, q4M, q5M, q6M, q7M⟩ := zkeep (S := S) (ls := [17]) hO hc11 (by decide)
              have hx0M := q0M _ _ (by decide) hx0L
              have hl9M := q4M _ _ _ _ (by decide) hl9L
              have hstM := fun i hi => q7M _ _ i hi (hstL i hi)
              have hprM := q5M _ _ _ (by decide) hprL
              have hg2M := q6M 18 _ (by decide) (by decide) hg2
              have hgaM := hga11
              have hfaM := hgf11
              refine lv_aload_n hx hb dX4_worthByValues_61 rfl (lv_at hl 2 rfl) ?_
              refine lv_iload hx hb dX4_worthByValues_62 (lv_at hl 0 rfl) ?_
              refine lv_aload_n hx hb dX4_worthByValues_64 rfl (lv_at hl 2 rfl) ?_
              refine va_get (D := xD G) (ci := 5) (v := .ref (ad 18)) (C := RX4) (T := TX4) (N := 11) hx hb hts (by decide +kernel) hown hC.1 (x1 hx9) 0 rfl rfl 9 (by decide) (hts (.fieldLink RX4 55 "Bidwhistle" "bidsForSecond" "LBidwhistle$Row;") (by decide +kernel)) (fun _ h9 => h9) rfl dX4_worthByValues_65 ?_
              have hsz := hS.1
              refine x_call (px := xNo) (vx_runV (As := [.int (nI (zT S i)), .ref (ad 18)]) (rest := []) ⟨hx, hb, hml, hown, hts⟩ (c_X4_layBids l hfl G ad S kp m9 fb k9 a9 (zT S i) 18 g2 H_9 hx0M hl9M hW hstM hO (by have := hOT i; omega) (Or.inr rfl) hg2M) (cwV 2 hts gX4_worthByValues_X4_layBids rfl rfl rfl (by decide +kernel) ⟨(Nat.le_of_ble_eq_true rfl), (Nat.le_of_ble_eq_true rfl)⟩) (xPreV hC hS hx9 (q := (RX4, TX4, 11)) rfl) rfl rfl hl.1 rfl (lv_room (Nat.le_of_ble_eq_true rfl)) dX4_worthByValues_68 ⟨(by first | exact Nat.le_of_ble_eq_true rfl | exact (show 0 + 1 + 1 + 1 + 0 ≤ 8 by omega)), (by first | exact Nat.le_of_ble_eq_true rfl | exact (show 0 + 6 + 6 + 6 + 0 ≤ 60 by omega))⟩) hS (fun _ h => h) (fun _ _ _ _ _ h => False.elim h) (fun v H_12 locs hp hz hk_13 hS => ?_)
              obtain ⟨rfl, ga14, hga14, hgf14, hc14⟩ := hp
              have hx9 := hc14.at hx9 (xn1 (hO.ne (i := 0) (j := 19) (by omega) (by omega) (by omega)))
              have h12 := hc14.at h12 (xn1 (hO.ne (i := 12) (j := 19) (by omega) (by omega) (by omega)))
              have h13 := hc14.at h13 (xn1 (hO.ne (i := 13) (j := 19) (by omega) (by omega) (by omega)))
              have h14 := hc14.at h14 (xn1 (hO.ne (i := 14) (j := 19) (by omega) (by omega) (by omega)))
              have h15 := hc14.at h15 (xn1 (hO.ne (i := 15) (j := 19) (by omega) (by omega) (by omega)))
              have hc14 : xC [ad 19] _ _ := hc14
              obtain ⟨q0N, q1N, q2N, q3N, q4N, q5N, q6N, q7N⟩ := zkeep (S := S) (ls := [19]) hO hc14 (by decide)
              have hx0N := q0N _ _ (by decide) hx0M
              have hl9N := q4N _ _ _ _ (by decide) hl9M
              have hstN := fun i hi => q7N _ _ i hi (hstM i hi)
              have hprN := q5N _ _ _ (by decide) hprM
              have hgaN := q6N 16 _ (by decide) (by decide) hgaM
              have hgbN := hga14
              have hfbN := hgf14
              refine lv_iload hx hb dX4_worthByValues_71 (lv_at hl 5 rfl) ?_
              refine lv_aload_n hx hb dX4_worthByValues_73 rfl (lv_at hl 2 rfl) ?_
              refine lv_iload_n hx hb dX4_worthByValues_74 rfl (lv_at hl 3 rfl) ?_
              refine lv_iload_n hx hb dX4_worthByValues_75 rfl (lv_at hl 4 rfl) ?_
              refine lv_iload hx hb dX4_worthByValues_76 (lv_at hl 1 rfl) ?_
              refine lv_aload_n hx hb dX4_worthByValues_78 rfl (lv_at hl 2 rfl) ?_
              refine va_get (D := xD G) (ci := 5) (v := .ref (ad 16)) (C := RX4) (T := TX4) (N := 11) hx hb hts (by decide +kernel) hown hC.1 (x1 hx9) 0 rfl rfl 8 (by decide) (hts (.fieldLink RX4 52 "Bidwhistle" "bidsForFirst" "LBidwhistle$Row;") (by decide +kernel)) (fun _ h9 => h9) rfl dX4_worthByValues_79 ?_
              refine lv_aload_n hx hb dX4_worthByValues_82 rfl (lv_at hl 2 rfl) ?_
              refine va_get (D := xD G) (ci := 5) (v := .ref (ad 18)) (C := RX4) (T := TX4) (N := 11) hx hb hts (by decide +kernel) hown hC.1 (x1 hx9) 0 rfl rfl 9 (by decide) (hts (.fieldLink RX4 55 "Bidwhistle" "bidsForSecond" "LBidwhistle$Row;") (by decide +kernel)) (fun _ h9 => h9) rfl dX4_worthByValues_83 ?_
              refine x_intE (vx_runV (As := [.int (nI n9), .int (nI i9), .int (nI (zO S i)), .ref (ad 16), .ref (ad 18)]) (rest := [.int s9]) ⟨hx, hb, hml, hown, hts⟩ (c_X4_profitInRows l hfl G ad S kp m9 fb k9 a9 n9 i9 (zO S i) (zT S i) 16 18 _ _ H_12 hx0N hl9N hW hstN hn9 hi9 hgaN hgbN (hfaM i9 hi9 hin) hfbN) (cwV 5 hts gX4_worthByValues_X4_profitInRows rfl rfl rfl (by decide +kernel) ⟨(Nat.le_of_ble_eq_true rfl), (Nat.le_of_ble_eq_true rfl)⟩) (xPreV hC hS hx9 (q := (RX4, TX4, 11)) rfl) rfl rfl hl.1 rfl (lv_room (Nat.le_of_ble_eq_true rfl)) dX4_worthByValues_86 ⟨(by first | exact Nat.le_of_ble_eq_true rfl | exact (show 0 + 1 + 1 + 1 + 0 ≤ 8 by omega)), (by first | exact Nat.le_of_ble_eq_true rfl | exact (show 0 + 6 + 6 + 6 + 0 ≤ 60 by omega))⟩) hS (fun locs hS => ?_)
              refine lv_iadd hx hb dX4_worthByValues_89 ?_
              refine lv_istore (lv' := [(4, .int (s9 + (Int32.ofInt (zrow S n9 i9 (zO S i) (zT S i) (zN S))))), (7, .int (nI (zT S i))), (6, .int (nI (zO S i))), (0, .ref (ad 0)), (1, .int (nI n9)), (2, .int (nI i9)), (5, .int (nI i))]) hx hb dX4_worthByValues_90 hl (by decide) rfl (fun ls hl => ?_)
              refine lv_iload hx hb dX4_worthByValues_92 (lv_at hl 0 rfl) ?_
              refine lv_aload_n hx hb dX4_worthByValues_94 rfl (lv_at hl 3 rfl) ?_
              refine lv_iload_n hx hb dX4_worthByValues_95 rfl (lv_at hl 4 rfl) ?_
              refine lv_iload_n hx hb dX4_worthByValues_96 rfl (lv_at hl 5 rfl) ?_
              refine lv_iload hx hb dX4_worthByValues_97 (lv_at hl 1 rfl) ?_
              refine lv_aload_n hx hb dX4_worthByValues_99 rfl (lv_at hl 3 rfl) ?_
              refine va_get (D := xD G) (ci := 5) (v := .ref (ad 18)) (C := RX4) (T := TX4) (N := 11) hx hb hts (by decide +kernel) hown hC.1 (x1 hx9) 0 rfl rfl 9 (by decide) (hts (.fieldLink RX4 55 "Bidwhistle" "bidsForSecond" "LBidwhistle$Row;") (by decide +kernel)) (fun _ h9 => h9) rfl dX4_worthByValues_100 ?_
              refine lv_aload_n hx hb dX4_worthByValues_103 rfl (lv_at hl 3 rfl) ?_
              refine va_get (D := xD G) (ci := 5) (v := .ref (ad 16)) (C := RX4) (T := TX4) (N := 11) hx hb hts (by decide +kernel) hown hC.1 (x1 hx9) 0 rfl rfl 8 (by decide) (hts (.fieldLink RX4 52 "Bidwhistle" "bidsForFirst" "LBidwhistle$Row;") (by decide +kernel)) (fun _ h9 => h9) rfl dX4_worthByValues_104 ?_
              refine x_intE (vx_runV (As := [.int (nI n9), .int (nI i9), .int (nI (zT S i)), .ref (ad 18), .ref (ad 16)]) (rest := [.int (s9 + (Int32.ofInt (zrow S n9 i9 (zO S i) (zT S i) (zN S))))]) ⟨hx, hb, hml, hown, hts⟩ (c_X4_profitInRows l hfl G ad S kp m9 fb k9 a9 n9 i9 (zT S i) (zO S i) 18 16 _ _ H_12 hx0N hl9N hW hstN hn9 hi9 hgbN hgaN (hfbN i9 hi9 hin) hfaM) (cwV 5 hts gX4_worthByValues_X4_profitInRows rfl rfl rfl (by decide +kernel) ⟨(Nat.le_of_ble_eq_true rfl), (Nat.le_of_ble_eq_true rfl)⟩) (xPreV hC hS hx9 (q := (RX4, TX4, 11)) rfl) rfl rfl hl.1 rfl (lv_room (Nat.le_of_ble_eq_true rfl)) dX4_worthByValues_107 ⟨(by first | exact Nat.le_of_ble_eq_true rfl | exact (show 0 + 1 + 1 + 1 + 0 ≤ 8 by omega)), (by first | exact Nat.le_of_ble_eq_true rfl | exact (show 0 + 6 + 6 + 6 + 0 ≤ 60 by omega))⟩) hS (fun locs hS => ?_)
              refine lv_iadd hx hb dX4_worthByValues_110 ?_
              refine lv_istore (lv' := [(4, .int ((s9 + (Int32.ofInt (zrow S n9 i9 (zO S i) (zT S i) (zN S)))) + (Int32.ofInt (zrow S n9 i9 (zT S i) (zO S i) (zN S))))), (7, .int (nI (zT S i))), (6, .int (nI (zO S i))), (0, .ref (ad 0)), (1, .int (nI n9)), (2, .int (nI i9)), (5, .int (nI i))]) hx hb dX4_worthByValues_111 hl (by decide) rfl (fun ls hl => ?_)
              refine lv_iinc (v := (nI (i + 1))) (lv' := [(5, .int (nI (i + 1))), (4, .int ((s9 + (Int32.ofInt (zrow S n9 i9 (zO S i) (zT S i) (zN S)))) + (Int32.ofInt (zrow S n9 i9 (zT S i) (zO S i) (zN S))))), (7, .int (nI (zT S i))), (6, .int (nI (zO S i))), (0, .ref (ad 0)), (1, .int (nI n9)), (2, .int (nI i9))]) hx hb dX4_worthByValues_113 hl (k := 6) rfl (xinc (by decide)) (by decide) rfl (fun ls hl => ?_)
              refine lv_goto (tgt := 20) hx hb dX4_worthByValues_116 (by decide) ?_
              have _ := hcc.1
              have _ := hc11.1
              have _ := hc14.1
              exact ihL (i + 1) (((s9 + (Int32.ofInt (zrow S n9 i9 (zO S i) (zT S i) (zN S)))) + (Int32.ofInt (zrow S n9 i9 (zT S i) (zO S i) (zN S))))) (by omega) (by rw [hs9, ← Int32.ofInt_add, ← Int32.ofInt_add]; rfl) (by omega) H_12 ((hcc.tr (hc11.tr hc14)).mono (fun q hq => by simp only [List.mem_append, List.mem_cons, List.not_mem_nil, or_false, false_or] at hq ⊢; omega)) ⟨_, hgaN⟩ ⟨_, hgbN⟩ _ hS ls (lv_sub hl [4, 5, 6, 1, 0] rfl)
        exact L _ (0) (nI 0) (Nat.zero_le _) (rfl) (Nat.lt_succ_self _) H (xC.rf) ⟨fr1, hr1⟩ ⟨fr2, hr2⟩ _ hS ls (lv_sub hl [3, 4, 5, 1, 0] rfl)
