/-! new Bidwhistle() -/
def z0 : zS := (0, fun _ => 0, fun _ _ => 0, fun _ => 0, fun _ => 0, fun _ => false, fun _ => false, 0, fun _ => 0, fun _ => 0)
def xne (a : Nat) : List Nat → Prop
  | [] => True
  | b :: l => a ≠ b ∧ xne a l
def xnd : List Nat → Prop
  | [] => True
  | a :: l => xne a l ∧ xnd l
theorem xne_get {a : Nat} : ∀ {l : List Nat} {j : Nat}, xne a l → j < l.length → a ≠ l.getD j 0
  | [], j, _, hj => absurd hj (Nat.not_lt_zero j)
  | b :: l, 0, h, _ => h.1
  | b :: l, j + 1, h, hj => xne_get (l := l) (j := j) h.2 (Nat.lt_of_succ_lt_succ hj)
theorem xnd_get : ∀ {l : List Nat} {i j : Nat}, xnd l → i < l.length → j < l.length → l.getD i 0 = l.getD j 0 → i = j
  | [], i, j, _, hi, _, _ => absurd hi (Nat.not_lt_zero i)
  | b :: l, 0, 0, _, _, _, _ => rfl
  | b :: l, 0, j + 1, h, _, hj, e => absurd e (xne_get (l := l) (j := j) h.1 (Nat.lt_of_succ_lt_succ hj))
  | b :: l, i + 1, 0, h, hi, _, e => absurd e.symm (xne_get (l := l) (j := i) h.1 (Nat.lt_of_succ_lt_succ hi))
  | b :: l, i + 1, j + 1, h, hi, hj, e => congrArg (· + 1) (xnd_get (l := l) (i := i) (j := j) h.2 (Nat.lt_of_succ_lt_succ hi) (Nat.lt_of_succ_lt_succ hj) e)
theorem xC.trn {L : List Nat} {q : Nat} {H H1 H2 : Heap} (h : xC L H H1) (h2 : xC [q] H1 H2) (hq : q ∈ L ∨ H.size ≤ q) : xC L H H2 := ⟨Nat.le_trans h.1 h2.1, fun r hr hn => (h2.2 r (Nat.lt_of_lt_of_le hr h.1) (xn1 (fun z => by subst z; rcases hq with c | c; exact hn c; omega))).trans (h.2 r hr hn)⟩
theorem xC.trz {L : List Nat} {H H1 H2 : Heap} (h : xC L H H1) (h2 : xC [] H1 H2) : xC L H H2 := ⟨Nat.le_trans h.1 h2.1, fun r hr hn => (h2.2 r (Nat.lt_of_lt_of_le hr h.1) (fun z => nomatch z)).trans (h.2 r hr hn)⟩
theorem zW_0 : zW z0 := ⟨Nat.zero_le _, fun _ => Nat.zero_le _, fun _ _ => Nat.zero_le _, fun _ h => absurd h (Nat.not_lt_zero _), fun _ h => absurd h (Nat.not_lt_zero _), fun _ _ _ h => absurd h (Nat.not_lt_zero _), Nat.zero_le _, Nat.zero_le _, fun _ => ⟨Nat.zero_le _, Nat.zero_le _⟩⟩
set_option maxHeartbeats 4000000 in
set_option maxRecDepth 100000 in
/-- new Bidwhistle() -/
theorem c_X4_init (l : Launch) (hfl : l.stackTraces = false) (G : xG) (h : Nat) (H : Heap) (hh0 : oA G h 5 [.null, .null, .null, .null, .int 0, .null, .null, .int 0, .null, .null, .null] H) (hA_h : xA G h) (neE : h ≠ xE G) : xMet l G yX4_init wsX4_init ({ frames := 4, cells := 60, slots := 1500, locals := 80 } : Room) [.ref h] H (fun v H1 => v = none ∧ ∃ ad : Nat → Nat, ad 0 = h ∧ XS G ad z0 H1 ∧ xC [h] H H1) (xNo) := by
  refine vx_ofW (cc := cX4_init) (maxL := 1) (ret := none) (by decide) rfl ?_
  intro Pg Ev s m args below meth c s₁ B hml hout hv
  obtain ⟨rfl, hH, hC⟩ := hv
  have hx := B.exec
  have hb := B.bytes
  have hr := B.returns
  have hts := atoms_spec (ws := wsX4_init) B.pre
  have hown : s.vm.findClass RX4 = some m.cls := findClass_of_methodNamed B.named
  have hlocks := B.notSynchronized
  have hin : meth.name = "<init>" := (name_of_methodNamed B.named B.method).1
  rw [hH]
  have hS : va_S (xA G) s.heap H [] := by rw [← hH]; exact va_S.rf
  generalize ([] : List Loc) = locs at hS ⊢
  have hl := lv_entry [.ref h] (n := 1) (Nat.le_of_ble_eq_true rfl)
  rw [lg_entry_eq]
  generalize (lg_sl [.ref h] ++ List.replicate (1 - (lg_sl [.ref h]).length) Slot.unset).toArray = ls at hl ⊢
  have hl : lv_has ls 1 [(0, .ref h)] := hl
  have hE : xE G < H.size := by obtain ⟨ce, h9, -⟩ := hC.2.2.2.2.2.2.2.1; rw [← hH]; exact (Array.getElem?_eq_some_iff.mp h9).1
  refine lv_aload_n hx hb dX4_init_0 rfl (lv_at hl 0 rfl) ?_
  refine W.objInit hx hb hown (hts (.methodLink RX4 1 objectInit) (by decide +kernel)) (hts (.instanceMethod objectInit) (by decide +kernel)) (hts (.code objectInit ⟨#[0xb1]⟩ 1 none) (by decide +kernel)) rfl (by rw [hml]; exact hl.1) rfl dX4_init_1 (Nat.le_of_ble_eq_true rfl) (Nat.le_of_ble_eq_true rfl) ?_
  refine W.eq (g2 := F0 m 4 ls []) rfl ?_
  refine lv_aload_n hx hb dX4_init_4 rfl (lv_at hl 0 rfl) ?_
  have hsz := hS.1
  refine x_new (G := G) (ci := 1) (fs := [.null, .int 0, .int 0]) (C := RX0) (T := TX0) (N := 3) hx hb hts (by decide +kernel) tyX0 tyX0_ok hown (hts (.classLink RX4 7 RX0) (by decide +kernel)) (hts (.instantiable RX0 3) (by decide +kernel)) (hts (.initialized RX0) (by decide +kernel)) hC hS rfl (fun j hj => by rcases (show j = 0 ∨ j = 1 ∨ j = 2 by omega) with rfl | rfl | rfl <;> rfl) (by first | exact Nat.le_of_ble_eq_true rfl | exact (show 0 + 1 ≤ 60 by omega)) (by first | exact Nat.le_of_ble_eq_true rfl | exact (show 0 + 3 ≤ 1500 by omega)) dX4_init_5 (fun q_1 H_6 eq_4 ho_2 hc_3 hz_5 hS => ?_)
  have hA_q_1 : xA G q_1 := hC.2.2.1 _ (by rw [eq_4]; exact hsz)
  have ne_7 : h ≠ q_1 := xlt hh0 eq_4
  have hh0 := hc_3.at0 hh0
  refine lv_dup hx hb dX4_init_8 rfl ?_
  have v_q_1 := (xC.rf : xC [h] H H)
  have geu_q_1 : H.size ≤ q_1 := Nat.le_trans v_q_1.1 (Nat.le_of_eq eq_4.symm)
  have u_q_1 := (v_q_1.trz hc_3)
  have hsz := hS.1
  refine x_call (px := xNo) (x_runOf (va_runIN (b := q_1) (As := []) (rest := [.ref q_1, .ref h]) ⟨hx, hb, hml, hown, hts⟩ (x_met (c_X0_init l hfl G q_1 H_6 ho_2 hA_q_1)) ⟨va_cnB (host := "Bidwhistle") 0 hts gX4_init_X0_init_n9 rfl rfl rfl (hC.2.1 _ (by decide +kernel)) (hts (.initialized RX0) (by decide +kernel)) (by decide +kernel) ⟨(Nat.le_of_ble_eq_true rfl), (Nat.le_of_ble_eq_true rfl)⟩, rfl, (hts (.instanceMethod yX0_init) (by decide +kernel))⟩ (xPreS hC hS) rfl rfl hl.1 rfl (lv_room (Nat.le_of_ble_eq_true rfl)) dX4_init_9 ⟨(by first | exact Nat.le_of_ble_eq_true rfl | exact (show 0 + 1 + 2 ≤ 60 by omega)), (by first | exact Nat.le_of_ble_eq_true rfl | exact (show 0 + 3 + 101 ≤ 1500 by omega))⟩)) hS (fun _ h => h) (fun _ _ _ _ _ h => False.elim h) (fun v H_8 locs hp hz hk_9 hS => ?_)
  obtain ⟨rfl, pr10, pa10, hz110, hz210, hpp10, hc10⟩ := hp
  obtain ⟨hpx10, hpy10, hpz10, hpn10, m110, m210, m310, pt10⟩ := id hpp10
  have hA_pr10 : xA G pr10 := hC.2.2.1 _ (Nat.le_trans hsz hz110)
  have ne_11 : h ≠ pr10 := xlt2 hh0 hz110
  have ne_12 : q_1 ≠ pr10 := xlt2 ho_2 hz110
  have hA_pa10 : xA G pa10 := hC.2.2.1 _ (Nat.le_trans hsz hz210)
  have ne_13 : h ≠ pa10 := xlt2 hh0 hz210
  have ne_14 : q_1 ≠ pa10 := xlt2 ho_2 hz210
  have hh0 := hc10.at hh0 (xn1 ne_7)
  refine x_putF (G := G) (ci := 5) (v := .ref q_1) (ty := (.object "Bidwhistle$Program")) (C := RX4) (T := TX4) (N := 11) hx hb hts (by decide +kernel) tyX4 tyX4_ok nmX4 hown hC hS hA_h hh0 rfl 0 (by decide) (hts (.fieldLink RX4 10 "Bidwhistle" "draft" "LBidwhistle$Program;") (by decide +kernel)) (fun _ h9 => h9) rfl hin rfl (by decide +kernel) rfl rfl (Nat.le_of_ble_eq_true rfl) dX4_init_12 (fun H_16 locs hh0 hc_15 hS => ?_)
  have hh0 : oA G h 5 [.ref q_1, .null, .null, .null, .int 0, .null, .null, .int 0, .null, .null, .null] H_16 := hh0
  have hpx10 := hc_15.at hpx10 (xn1 (Ne.symm ne_7))
  have hpy10 := hc_15.at hpy10 (xn1 (Ne.symm ne_11))
  have hpz10 := hc_15.at hpz10 (xn1 (Ne.symm ne_13))
  refine lv_aload_n hx hb dX4_init_15 rfl (lv_at hl 0 rfl) ?_
  have hsz := hS.1
  refine x_new (G := G) (ci := 1) (fs := [.null, .int 0, .int 0]) (C := RX0) (T := TX0) (N := 3) hx hb hts (by decide +kernel) tyX0 tyX0_ok hown (hts (.classLink RX4 7 RX0) (by decide +kernel)) (hts (.instantiable RX0 3) (by decide +kernel)) (hts (.initialized RX0) (by decide +kernel)) hC hS rfl (fun j hj => by rcases (show j = 0 ∨ j = 1 ∨ j = 2 by omega) with rfl | rfl | rfl <;> rfl) (by first | exact Nat.le_of_ble_eq_true rfl | exact (show 0 + 1 + 2 + 1 ≤ 60 by omega)) (by first | exact Nat.le_of_ble_eq_true rfl | exact (show 0 + 3 + 101 + 3 ≤ 1500 by omega)) dX4_init_16 (fun q_17 H_22 eq_20 ho_18 hc_19 hz_21 hS => ?_)
  have hA_q_17 : xA G q_17 := hC.2.2.1 _ (by rw [eq_20]; exact hsz)
  have ne_23 : h ≠ q_17 := xlt hh0 eq_20
  have ne_24 : q_1 ≠ q_17 := xlt hpx10 eq_20
  have ne_25 : pr10 ≠ q_17 := xlt hpy10 eq_20
  have ne_26 : pa10 ≠ q_17 := xlt hpz10 eq_20
  have hh0 := hc_19.at0 hh0
  have hpx10 := hc_19.at0 hpx10
  have hpy10 := hc_19.at0 hpy10
  have hpz10 := hc_19.at0 hpz10
  refine lv_dup hx hb dX4_init_19 rfl ?_
  have v_q_17 := ((u_q_1.trn hc10 (Or.inr geu_q_1)).trn hc_15 (Or.inl (List.mem_cons_self ..)))
  have geu_q_17 : H.size ≤ q_17 := Nat.le_trans v_q_17.1 (Nat.le_of_eq eq_20.symm)
  have u_q_17 := (v_q_17.trz hc_19)
  have hsz := hS.1
  refine x_call (px := xNo) (x_runOf (va_runIN (b := q_17) (As := []) (rest := [.ref q_17, .ref h]) ⟨hx, hb, hml, hown, hts⟩ (x_met (c_X0_init l hfl G q_17 H_22 ho_18 hA_q_17)) ⟨va_cnB (host := "Bidwhistle") 0 hts gX4_init_X0_init_n9 rfl rfl rfl (hC.2.1 _ (by decide +kernel)) (hts (.initialized RX0) (by decide +kernel)) (by decide +kernel) ⟨(Nat.le_of_ble_eq_true rfl), (Nat.le_of_ble_eq_true rfl)⟩, rfl, (hts (.instanceMethod yX0_init) (by decide +kernel))⟩ (xPreS hC hS) rfl rfl hl.1 rfl (lv_room (Nat.le_of_ble_eq_true rfl)) dX4_init_20 ⟨(by first | exact Nat.le_of_ble_eq_true rfl | exact (show 0 + 1 + 2 + 1 + 2 ≤ 60 by omega)), (by first | exact Nat.le_of_ble_eq_true rfl | exact (show 0 + 3 + 101 + 3 + 101 ≤ 1500 by omega))⟩)) hS (fun _ h => h) (fun _ _ _ _ _ h => False.elim h) (fun v H_27 locs hp hz hk_28 hS => ?_)
  obtain ⟨rfl, pr29, pa29, hz129, hz229, hpp29, hc29⟩ := hp
  obtain ⟨hpx29, hpy29, hpz29, hpn29, m129, m229, m329, pt29⟩ := id hpp29
  have hA_pr29 : xA G pr29 := hC.2.2.1 _ (Nat.le_trans hsz hz129)
  have ne_30 : h ≠ pr29 := xlt2 hh0 hz129
  have ne_31 : q_1 ≠ pr29 := xlt2 hpx10 hz129
  have ne_32 : pr10 ≠ pr29 := xlt2 hpy10 hz129
  have ne_33 : pa10 ≠ pr29 := xlt2 hpz10 hz129
  have ne_34 : q_17 ≠ pr29 := xlt2 ho_18 hz129
  have hA_pa29 : xA G pa29 := hC.2.2.1 _ (Nat.le_trans hsz hz229)
  have ne_35 : h ≠ pa29 := xlt2 hh0 hz229
  have ne_36 : q_1 ≠ pa29 := xlt2 hpx10 hz229
  have ne_37 : pr10 ≠ pa29 := xlt2 hpy10 hz229
  have ne_38 : pa10 ≠ pa29 := xlt2 hpz10 hz229
  have ne_39 : q_17 ≠ pa29 := xlt2 ho_18 hz229
  have hh0 := hc29.at hh0 (xn1 ne_23)
  have hpx10 := hc29.at hpx10 (xn1 ne_24)
  have hpy10 := hc29.at hpy10 (xn1 ne_25)
  have hpz10 := hc29.at hpz10 (xn1 ne_26)
  refine x_putF (G := G) (ci := 5) (v := .ref q_17) (ty := (.object "Bidwhistle$Program")) (C := RX4) (T := TX4) (N := 11) hx hb hts (by decide +kernel) tyX4 tyX4_ok nmX4 hown hC hS hA_h hh0 rfl 1 (by decide) (hts (.fieldLink RX4 16 "Bidwhistle" "child" "LBidwhistle$Program;") (by decide +kernel)) (fun _ h9 => h9) rfl hin rfl (by decide +kernel) rfl rfl (Nat.le_of_ble_eq_true rfl) dX4_init_23 (fun H_41 locs hh0 hc_40 hS => ?_)
  have hh0 : oA G h 5 [.ref q_1, .ref q_17, .null, .null, .int 0, .null, .null, .int 0, .null, .null, .null] H_41 := hh0
  have hpx10 := hc_40.at hpx10 (xn1 (Ne.symm ne_7))
  have hpy10 := hc_40.at hpy10 (xn1 (Ne.symm ne_11))
  have hpz10 := hc_40.at hpz10 (xn1 (Ne.symm ne_13))
  have hpx29 := hc_40.at hpx29 (xn1 (Ne.symm ne_23))
  have hpy29 := hc_40.at hpy29 (xn1 (Ne.symm ne_30))
  have hpz29 := hc_40.at hpz29 (xn1 (Ne.symm ne_35))
  refine lv_aload_n hx hb dX4_init_26 rfl (lv_at hl 0 rfl) ?_
  have hsz := hS.1
  refine x_new (G := G) (ci := 3) (fs := [.null, .int 0]) (C := RX2) (T := TX2) (N := 2) hx hb hts (by decide +kernel) tyX2 tyX2_ok hown (hts (.classLink RX4 19 RX2) (by decide +kernel)) (hts (.instantiable RX2 2) (by decide +kernel)) (hts (.initialized RX2) (by decide +kernel)) hC hS rfl (fun j hj => by rcases (show j = 0 ∨ j = 1 by omega) with rfl | rfl <;> rfl) (by first | exact Nat.le_of_ble_eq_true rfl | exact (show 0 + 1 + 2 + 1 + 2 + 1 ≤ 60 by omega)) (by first | exact Nat.le_of_ble_eq_true rfl | exact (show 0 + 3 + 101 + 3 + 101 + 2 ≤ 1500 by omega)) dX4_init_27 (fun q_42 H_47 eq_45 ho_43 hc_44 hz_46 hS => ?_)
  have hA_q_42 : xA G q_42 := hC.2.2.1 _ (by rw [eq_45]; exact hsz)
  have ne_48 : h ≠ q_42 := xlt hh0 eq_45
  have ne_49 : q_1 ≠ q_42 := xlt hpx10 eq_45
  have ne_50 : pr10 ≠ q_42 := xlt hpy10 eq_45
  have ne_51 : pa10 ≠ q_42 := xlt hpz10 eq_45
  have ne_52 : q_17 ≠ q_42 := xlt hpx29 eq_45
  have ne_53 : pr29 ≠ q_42 := xlt hpy29 eq_45
  have ne_54 : pa29 ≠ q_42 := xlt hpz29 eq_45
  have hh0 := hc_44.at0 hh0
  have hpx10 := hc_44.at0 hpx10
  have hpy10 := hc_44.at0 hpy10
  have hpz10 := hc_44.at0 hpz10
  have hpx29 := hc_44.at0 hpx29
  have hpy29 := hc_44.at0 hpy29
  have hpz29 := hc_44.at0 hpz29
  refine lv_dup hx hb dX4_init_30 rfl ?_
  have v_q_42 := ((u_q_17.trn hc29 (Or.inr geu_q_17)).trn hc_40 (Or.inl (List.mem_cons_self ..)))
  have geu_q_42 : H.size ≤ q_42 := Nat.le_trans v_q_42.1 (Nat.le_of_eq eq_45.symm)
  have u_q_42 := (v_q_42.trz hc_44)
  have hsz := hS.1
  refine x_call (px := xNo) (x_runOf (va_runIN (b := q_42) (As := []) (rest := [.ref q_42, .ref h]) ⟨hx, hb, hml, hown, hts⟩ (x_met (c_X2_init l hfl G q_42 H_47 ho_43 hA_q_42)) ⟨va_cnB (host := "Bidwhistle") 0 hts gX4_init_X2_init_n21 rfl rfl rfl (hC.2.1 _ (by decide +kernel)) (hts (.initialized RX2) (by decide +kernel)) (by decide +kernel) ⟨(Nat.le_of_ble_eq_true rfl), (Nat.le_of_ble_eq_true rfl)⟩, rfl, (hts (.instanceMethod yX2_init) (by decide +kernel))⟩ (xPreS hC hS) rfl rfl hl.1 rfl (lv_room (Nat.le_of_ble_eq_true rfl)) dX4_init_31 ⟨(by first | exact Nat.le_of_ble_eq_true rfl | exact (show 0 + 1 + 2 + 1 + 2 + 1 + 2 ≤ 60 by omega)), (by first | exact Nat.le_of_ble_eq_true rfl | exact (show 0 + 3 + 101 + 3 + 101 + 2 + 101 ≤ 1500 by omega))⟩)) hS (fun _ h => h) (fun _ _ _ _ _ h => False.elim h) (fun v H_55 locs hp hz hk_56 hS => ?_)
  obtain ⟨rfl, sr57, sa57, hz157, hz257, hss57, hc57⟩ := hp
  obtain ⟨hsx57, hsy57, hsz57, hsn57, m157, m257, m357⟩ := id hss57
  have hA_sr57 : xA G sr57 := hC.2.2.1 _ (Nat.le_trans hsz hz157)
  have ne_58 : h ≠ sr57 := xlt2 hh0 hz157
  have ne_59 : q_1 ≠ sr57 := xlt2 hpx10 hz157
  have ne_60 : pr10 ≠ sr57 := xlt2 hpy10 hz157
  have ne_61 : pa10 ≠ sr57 := xlt2 hpz10 hz157
  have ne_62 : q_17 ≠ sr57 := xlt2 hpx29 hz157
  have ne_63 : pr29 ≠ sr57 := xlt2 hpy29 hz157
  have ne_64 : pa29 ≠ sr57 := xlt2 hpz29 hz157
  have ne_65 : q_42 ≠ sr57 := xlt2 ho_43 hz157
  have hA_sa57 : xA G sa57 := hC.2.2.1 _ (Nat.le_trans hsz hz257)
  have ne_66 : h ≠ sa57 := xlt2 hh0 hz257
  have ne_67 : q_1 ≠ sa57 := xlt2 hpx10 hz257
  have ne_68 : pr10 ≠ sa57 := xlt2 hpy10 hz257
  have ne_69 : pa10 ≠ sa57 := xlt2 hpz10 hz257
  have ne_70 : q_17 ≠ sa57 := xlt2 hpx29 hz257
  have ne_71 : pr29 ≠ sa57 := xlt2 hpy29 hz257
  have ne_72 : pa29 ≠ sa57 := xlt2 hpz29 hz257
  have ne_73 : q_42 ≠ sa57 := xlt2 ho_43 hz257
  have hh0 := hc57.at hh0 (xn1 ne_48)
  have hpx10 := hc57.at hpx10 (xn1 ne_49)
  have hpy10 := hc57.at hpy10 (xn1 ne_50)
  have hpz10 := hc57.at hpz10 (xn1 ne_51)
  have hpx29 := hc57.at hpx29 (xn1 ne_52)
  have hpy29 := hc57.at hpy29 (xn1 ne_53)
  have hpz29 := hc57.at hpz29 (xn1 ne_54)
  refine x_putF (G := G) (ci := 5) (v := .ref q_42) (ty := (.object "Bidwhistle$Stack")) (C := RX4) (T := TX4) (N := 11) hx hb hts (by decide +kernel) tyX4 tyX4_ok nmX4 hown hC hS hA_h hh0 rfl 2 (by decide) (hts (.fieldLink RX4 22 "Bidwhistle" "stack" "LBidwhistle$Stack;") (by decide +kernel)) (fun _ h9 => h9) rfl hin rfl (by decide +kernel) rfl rfl (Nat.le_of_ble_eq_true rfl) dX4_init_34 (fun H_75 locs hh0 hc_74 hS => ?_)
  have hh0 : oA G h 5 [.ref q_1, .ref q_17, .ref q_42, .null, .int 0, .null, .null, .int 0, .null, .null, .null] H_75 := hh0
  have hpx10 := hc_74.at hpx10 (xn1 (Ne.symm ne_7))
  have hpy10 := hc_74.at hpy10 (xn1 (Ne.symm ne_11))
  have hpz10 := hc_74.at hpz10 (xn1 (Ne.symm ne_13))
  have hpx29 := hc_74.at hpx29 (xn1 (Ne.symm ne_23))
  have hpy29 := hc_74.at hpy29 (xn1 (Ne.symm ne_30))
  have hpz29 := hc_74.at hpz29 (xn1 (Ne.symm ne_35))
  have hsx57 := hc_74.at hsx57 (xn1 (Ne.symm ne_48))
  have hsy57 := hc_74.at hsy57 (xn1 (Ne.symm ne_58))
  have hsz57 := hc_74.at hsz57 (xn1 (Ne.symm ne_66))
  refine lv_aload_n hx hb dX4_init_37 rfl (lv_at hl 0 rfl) ?_
  have hsz := hS.1
  refine x_new (G := G) (ci := 0) (fs := [.int 0, .null, .int 0]) (C := RJx4a65c) (T := TJx4a65c) (N := 3) hx hb hts (by decide +kernel) tyJx4a65c tyJx4a65c_ok hown (hts (.classLink RX4 26 RJx4a65c) (by decide +kernel)) (hts (.instantiable RJx4a65c 3) (by decide +kernel)) (hts (.initialized RJx4a65c) (by decide +kernel)) hC hS rfl (fun j hj => by rcases (show j = 0 ∨ j = 1 ∨ j = 2 by omega) with rfl | rfl | rfl <;> rfl) (by first | exact Nat.le_of_ble_eq_true rfl | exact (show 0 + 1 + 2 + 1 + 2 + 1 + 2 + 1 ≤ 60 by omega)) (by first | exact Nat.le_of_ble_eq_true rfl | exact (show 0 + 3 + 101 + 3 + 101 + 2 + 101 + 3 ≤ 1500 by omega)) dX4_init_38 (fun q_76 H_81 eq_79 ho_77 hc_78 hz_80 hS => ?_)
  have hA_q_76 : xA G q_76 := hC.2.2.1 _ (by rw [eq_79]; exact hsz)
  have ne_82 : h ≠ q_76 := xlt hh0 eq_79
  have ne_83 : q_1 ≠ q_76 := xlt hpx10 eq_79
  have ne_84 : pr10 ≠ q_76 := xlt hpy10 eq_79
  have ne_85 : pa10 ≠ q_76 := xlt hpz10 eq_79
  have ne_86 : q_17 ≠ q_76 := xlt hpx29 eq_79
  have ne_87 : pr29 ≠ q_76 := xlt hpy29 eq_79
  have ne_88 : pa29 ≠ q_76 := xlt hpz29 eq_79
  have ne_89 : q_42 ≠ q_76 := xlt hsx57 eq_79
  have ne_90 : sr57 ≠ q_76 := xlt hsy57 eq_79
  have ne_91 : sa57 ≠ q_76 := xlt hsz57 eq_79
  have hh0 := hc_78.at0 hh0
  have hpx10 := hc_78.at0 hpx10
  have hpy10 := hc_78.at0 hpy10
  have hpz10 := hc_78.at0 hpz10
  have hpx29 := hc_78.at0 hpx29
  have hpy29 := hc_78.at0 hpy29
  have hpz29 := hc_78.at0 hpz29
  have hsx57 := hc_78.at0 hsx57
  have hsy57 := hc_78.at0 hsy57
  have hsz57 := hc_78.at0 hsz57
  refine lv_dup hx hb dX4_init_41 rfl ?_
  have v_q_76 := ((u_q_42.trn hc57 (Or.inr geu_q_42)).trn hc_74 (Or.inl (List.mem_cons_self ..)))
  have geu_q_76 : H.size ≤ q_76 := Nat.le_trans v_q_76.1 (Nat.le_of_eq eq_79.symm)
  have u_q_76 := (v_q_76.trz hc_78)
  have hsz := hS.1
  refine x_call (px := xNo) (x_runOf (va_runI (b := q_76) (As := []) (rest := [.ref q_76, .ref h]) ⟨hx, hb, hml, hown, hts⟩ (x_met (c_Jx4a65c_init_da8c8 l hfl G q_76 H_81 ho_77 hA_q_76)) (cwI 0 hts gX4_init_Jx4a65c_init_da8c8 rfl rfl rfl (hts (.initialized RJx4a65c) (by decide +kernel)) (hts (.methodLink RX4 28 yJx4a65c_init_da8c8) (by decide +kernel)) (hts (.instanceMethod yJx4a65c_init_da8c8) (by decide +kernel)) rfl (by decide +kernel) ⟨(Nat.le_of_ble_eq_true rfl), (Nat.le_of_ble_eq_true rfl)⟩) (xPreS hC hS) rfl rfl hl.1 rfl (lv_room (Nat.le_of_ble_eq_true rfl)) dX4_init_42 ⟨(by first | exact Nat.le_of_ble_eq_true rfl | exact (show 0 + 1 + 2 + 1 + 2 + 1 + 2 + 1 + 0 ≤ 60 by omega)), (by first | exact Nat.le_of_ble_eq_true rfl | exact (show 0 + 3 + 101 + 3 + 101 + 2 + 101 + 3 + 0 ≤ 1500 by omega))⟩)) hS (fun _ h => h) (fun _ _ _ _ _ h => False.elim h) (fun v H_92 locs hp hz hk_93 hS => ?_)
  obtain ⟨rfl, hl94, hc94⟩ := hp
  have hh0 := hc94.at hh0 (xn1 ne_82)
  have hpx10 := hc94.at hpx10 (xn1 ne_83)
  have hpy10 := hc94.at hpy10 (xn1 ne_84)
  have hpz10 := hc94.at hpz10 (xn1 ne_85)
  have hpx29 := hc94.at hpx29 (xn1 ne_86)
  have hpy29 := hc94.at hpy29 (xn1 ne_87)
  have hpz29 := hc94.at hpz29 (xn1 ne_88)
  have hsx57 := hc94.at hsx57 (xn1 ne_89)
  have hsy57 := hc94.at hsy57 (xn1 ne_90)
  have hsz57 := hc94.at hsz57 (xn1 ne_91)
  refine x_putF (G := G) (ci := 5) (v := .ref q_76) (ty := (.object "java/util/ArrayList")) (C := RX4) (T := TX4) (N := 11) hx hb hts (by decide +kernel) tyX4 tyX4_ok nmX4 hown hC hS hA_h hh0 rfl 3 (by decide) (hts (.fieldLink RX4 29 "Bidwhistle" "strategies" "Ljava/util/ArrayList;") (by decide +kernel)) (fun _ h9 => h9) rfl hin rfl (by decide +kernel) rfl rfl (Nat.le_of_ble_eq_true rfl) dX4_init_45 (fun H_96 locs hh0 hc_95 hS => ?_)
  have hh0 : oA G h 5 [.ref q_1, .ref q_17, .ref q_42, .ref q_76, .int 0, .null, .null, .int 0, .null, .null, .null] H_96 := hh0
  have hpx10 := hc_95.at hpx10 (xn1 (Ne.symm ne_7))
  have hpy10 := hc_95.at hpy10 (xn1 (Ne.symm ne_11))
  have hpz10 := hc_95.at hpz10 (xn1 (Ne.symm ne_13))
  have hpx29 := hc_95.at hpx29 (xn1 (Ne.symm ne_23))
  have hpy29 := hc_95.at hpy29 (xn1 (Ne.symm ne_30))
  have hpz29 := hc_95.at hpz29 (xn1 (Ne.symm ne_35))
  have hsx57 := hc_95.at hsx57 (xn1 (Ne.symm ne_48))
  have hsy57 := hc_95.at hsy57 (xn1 (Ne.symm ne_58))
  have hsz57 := hc_95.at hsz57 (xn1 (Ne.symm ne_66))
  have hl94 := hc_95.at hl94 (xn1 (Ne.symm ne_82))
  refine lv_aload_n hx hb dX4_init_48 rfl (lv_at hl 0 rfl) ?_
  refine lv_iconst (v := (nI 0)) hx hb dX4_init_49 (by decide) ?_
  refine x_put (G := G) (ci := 5) (v := .int (nI 0)) (ty := .int) (C := RX4) (T := TX4) (N := 11) hx hb hts (by decide +kernel) tyX4 tyX4_ok nmX4 hown hC hS hA_h hh0 rfl 4 (by decide) (hts (.fieldLink RX4 33 "Bidwhistle" "forbiddenSteps" "I") (by decide +kernel)) (fun _ h9 => h9) rfl (by decide +kernel) rfl rfl (Nat.le_of_ble_eq_true rfl) dX4_init_50 (fun H_98 locs hh0 hc_97 hS => ?_)
  have hh0 : oA G h 5 [.ref q_1, .ref q_17, .ref q_42, .ref q_76, .int (nI 0), .null, .null, .int 0, .null, .null, .null] H_98 := hh0
  have hpx10 := hc_97.at hpx10 (xn1 (Ne.symm ne_7))
  have hpy10 := hc_97.at hpy10 (xn1 (Ne.symm ne_11))
  have hpz10 := hc_97.at hpz10 (xn1 (Ne.symm ne_13))
  have hpx29 := hc_97.at hpx29 (xn1 (Ne.symm ne_23))
  have hpy29 := hc_97.at hpy29 (xn1 (Ne.symm ne_30))
  have hpz29 := hc_97.at hpz29 (xn1 (Ne.symm ne_35))
  have hsx57 := hc_97.at hsx57 (xn1 (Ne.symm ne_48))
  have hsy57 := hc_97.at hsy57 (xn1 (Ne.symm ne_58))
  have hsz57 := hc_97.at hsz57 (xn1 (Ne.symm ne_66))
  have hl94 := hc_97.at hl94 (xn1 (Ne.symm ne_82))
  refine lv_aload_n hx hb dX4_init_53 rfl (lv_at hl 0 rfl) ?_
  have hsz := hS.1
  refine x_new (G := G) (ci := 2) (fs := [.null]) (C := RX1) (T := TX1) (N := 1) hx hb hts (by decide +kernel) tyX1 tyX1_ok hown (hts (.classLink RX4 37 RX1) (by decide +kernel)) (hts (.instantiable RX1 1) (by decide +kernel)) (hts (.initialized RX1) (by decide +kernel)) hC hS rfl (fun j hj => by rcases (show j = 0 by omega) with rfl; rfl) (by first | exact Nat.le_of_ble_eq_true rfl | exact (show 0 + 1 + 2 + 1 + 2 + 1 + 2 + 1 + 1 ≤ 60 by omega)) (by first | exact Nat.le_of_ble_eq_true rfl | exact (show 0 + 3 + 101 + 3 + 101 + 2 + 101 + 3 + 1 ≤ 1500 by omega)) dX4_init_54 (fun q_99 H_104 eq_102 ho_100 hc_101 hz_103 hS => ?_)
  have hA_q_99 : xA G q_99 := hC.2.2.1 _ (by rw [eq_102]; exact hsz)
  have ne_105 : h ≠ q_99 := xlt hh0 eq_102
  have ne_106 : q_1 ≠ q_99 := xlt hpx10 eq_102
  have ne_107 : pr10 ≠ q_99 := xlt hpy10 eq_102
  have ne_108 : pa10 ≠ q_99 := xlt hpz10 eq_102
  have ne_109 : q_17 ≠ q_99 := xlt hpx29 eq_102
  have ne_110 : pr29 ≠ q_99 := xlt hpy29 eq_102
  have ne_111 : pa29 ≠ q_99 := xlt hpz29 eq_102
  have ne_112 : q_42 ≠ q_99 := xlt hsx57 eq_102
  have ne_113 : sr57 ≠ q_99 := xlt hsy57 eq_102
  have ne_114 : sa57 ≠ q_99 := xlt hsz57 eq_102
  have ne_115 : q_76 ≠ q_99 := xlt hl94 eq_102
  have hh0 := hc_101.at0 hh0
  have hpx10 := hc_101.at0 hpx10
  have hpy10 := hc_101.at0 hpy10
  have hpz10 := hc_101.at0 hpz10
  have hpx29 := hc_101.at0 hpx29
  have hpy29 := hc_101.at0 hpy29
  have hpz29 := hc_101.at0 hpz29
  have hsx57 := hc_101.at0 hsx57
  have hsy57 := hc_101.at0 hsy57
  have hsz57 := hc_101.at0 hsz57
  have hl94 := hc_101.at0 hl94
  refine lv_dup hx hb dX4_init_57 rfl ?_
  refine lv_bipush (v := (nI 6)) hx hb dX4_init_58 (by decide) ?_
  have v_q_99 := (((u_q_76.trn hc94 (Or.inr geu_q_76)).trn hc_95 (Or.inl (List.mem_cons_self ..))).trn hc_97 (Or.inl (List.mem_cons_self ..)))
  have geu_q_99 : H.size ≤ q_99 := Nat.le_trans v_q_99.1 (Nat.le_of_eq eq_102.symm)
  have u_q_99 := (v_q_99.trz hc_101)
  have hsz := hS.1
  refine x_call (px := xNo) (x_runOf (va_runI (b := q_99) (As := [.int (nI 6)]) (rest := [.ref q_99, .ref h]) ⟨hx, hb, hml, hown, hts⟩ (x_met (c_X1_init l hfl G q_99 6 H_104 ho_100 hA_q_99 (by decide))) (cwI 1 hts gX4_init_X1_init rfl rfl rfl (hts (.initialized RX1) (by decide +kernel)) (hts (.methodLink RX4 39 yX1_init) (by decide +kernel)) (hts (.instanceMethod yX1_init) (by decide +kernel)) rfl (by decide +kernel) ⟨(Nat.le_of_ble_eq_true rfl), (Nat.le_of_ble_eq_true rfl)⟩) (xPreS hC hS) rfl rfl hl.1 rfl (lv_room (Nat.le_of_ble_eq_true rfl)) dX4_init_60 ⟨(by first | exact Nat.le_of_ble_eq_true rfl | exact (show 0 + 1 + 2 + 1 + 2 + 1 + 2 + 1 + 1 + 1 ≤ 60 by omega)), (by first | exact Nat.le_of_ble_eq_true rfl | exact (show 0 + 3 + 101 + 3 + 101 + 2 + 101 + 3 + 1 + 100 ≤ 1500 by omega))⟩)) hS (fun _ h => h) (fun _ _ _ _ _ h => False.elim h) (fun v H_116 locs hp hz hk_117 hS => ?_)
  obtain ⟨rfl, qa118, hqa118, hn118, ha118, hc118⟩ := hp
  have hA_qa118 : xA G qa118 := hC.2.2.1 _ (Nat.le_trans hsz hqa118)
  have ne_119 : h ≠ qa118 := xlt2 hh0 hqa118
  have ne_120 : q_1 ≠ qa118 := xlt2 hpx10 hqa118
  have ne_121 : pr10 ≠ qa118 := xlt2 hpy10 hqa118
  have ne_122 : pa10 ≠ qa118 := xlt2 hpz10 hqa118
  have ne_123 : q_17 ≠ qa118 := xlt2 hpx29 hqa118
  have ne_124 : pr29 ≠ qa118 := xlt2 hpy29 hqa118
  have ne_125 : pa29 ≠ qa118 := xlt2 hpz29 hqa118
  have ne_126 : q_42 ≠ qa118 := xlt2 hsx57 hqa118
  have ne_127 : sr57 ≠ qa118 := xlt2 hsy57 hqa118
  have ne_128 : sa57 ≠ qa118 := xlt2 hsz57 hqa118
  have ne_129 : q_76 ≠ qa118 := xlt2 hl94 hqa118
  have ne_130 : q_99 ≠ qa118 := xlt2 ho_100 hqa118
  have hh0 := hc118.at hh0 (xn1 ne_105)
  have hpx10 := hc118.at hpx10 (xn1 ne_106)
  have hpy10 := hc118.at hpy10 (xn1 ne_107)
  have hpz10 := hc118.at hpz10 (xn1 ne_108)
  have hpx29 := hc118.at hpx29 (xn1 ne_109)
  have hpy29 := hc118.at hpy29 (xn1 ne_110)
  have hpz29 := hc118.at hpz29 (xn1 ne_111)
  have hsx57 := hc118.at hsx57 (xn1 ne_112)
  have hsy57 := hc118.at hsy57 (xn1 ne_113)
  have hsz57 := hc118.at hsz57 (xn1 ne_114)
  have hl94 := hc118.at hl94 (xn1 ne_115)
  refine x_putF (G := G) (ci := 5) (v := .ref q_99) (ty := (.object "Bidwhistle$Row")) (C := RX4) (T := TX4) (N := 11) hx hb hts (by decide +kernel) tyX4 tyX4_ok nmX4 hown hC hS hA_h hh0 rfl 5 (by decide) (hts (.fieldLink RX4 42 "Bidwhistle" "firstValues" "LBidwhistle$Row;") (by decide +kernel)) (fun _ h9 => h9) rfl hin rfl (by decide +kernel) rfl rfl (Nat.le_of_ble_eq_true rfl) dX4_init_63 (fun H_132 locs hh0 hc_131 hS => ?_)
  have hh0 : oA G h 5 [.ref q_1, .ref q_17, .ref q_42, .ref q_76, .int (nI 0), .ref q_99, .null, .int 0, .null, .null, .null] H_132 := hh0
  have hpx10 := hc_131.at hpx10 (xn1 (Ne.symm ne_7))
  have hpy10 := hc_131.at hpy10 (xn1 (Ne.symm ne_11))
  have hpz10 := hc_131.at hpz10 (xn1 (Ne.symm ne_13))
  have hpx29 := hc_131.at hpx29 (xn1 (Ne.symm ne_23))
  have hpy29 := hc_131.at hpy29 (xn1 (Ne.symm ne_30))
  have hpz29 := hc_131.at hpz29 (xn1 (Ne.symm ne_35))
  have hsx57 := hc_131.at hsx57 (xn1 (Ne.symm ne_48))
  have hsy57 := hc_131.at hsy57 (xn1 (Ne.symm ne_58))
  have hsz57 := hc_131.at hsz57 (xn1 (Ne.symm ne_66))
  have hl94 := hc_131.at hl94 (xn1 (Ne.symm ne_82))
  have hn118 := hc_131.at hn118 (xn1 (Ne.symm ne_105))
  have ha118 := hc_131.at ha118 (xn1 (Ne.symm ne_119))
  refine lv_aload_n hx hb dX4_init_66 rfl (lv_at hl 0 rfl) ?_
  have hsz := hS.1
  refine x_new (G := G) (ci := 2) (fs := [.null]) (C := RX1) (T := TX1) (N := 1) hx hb hts (by decide +kernel) tyX1 tyX1_ok hown (hts (.classLink RX4 37 RX1) (by decide +kernel)) (hts (.instantiable RX1 1) (by decide +kernel)) (hts (.initialized RX1) (by decide +kernel)) hC hS rfl (fun j hj => by rcases (show j = 0 by omega) with rfl; rfl) (by first | exact Nat.le_of_ble_eq_true rfl | exact (show 0 + 1 + 2 + 1 + 2 + 1 + 2 + 1 + 1 + 1 + 1 ≤ 60 by omega)) (by first | exact Nat.le_of_ble_eq_true rfl | exact (show 0 + 3 + 101 + 3 + 101 + 2 + 101 + 3 + 1 + 100 + 1 ≤ 1500 by omega)) dX4_init_67 (fun q_133 H_138 eq_136 ho_134 hc_135 hz_137 hS => ?_)
  have hA_q_133 : xA G q_133 := hC.2.2.1 _ (by rw [eq_136]; exact hsz)
  have ne_139 : h ≠ q_133 := xlt hh0 eq_136
  have ne_140 : q_1 ≠ q_133 := xlt hpx10 eq_136
  have ne_141 : pr10 ≠ q_133 := xlt hpy10 eq_136
  have ne_142 : pa10 ≠ q_133 := xlt hpz10 eq_136
  have ne_143 : q_17 ≠ q_133 := xlt hpx29 eq_136
  have ne_144 : pr29 ≠ q_133 := xlt hpy29 eq_136
  have ne_145 : pa29 ≠ q_133 := xlt hpz29 eq_136
  have ne_146 : q_42 ≠ q_133 := xlt hsx57 eq_136
  have ne_147 : sr57 ≠ q_133 := xlt hsy57 eq_136
  have ne_148 : sa57 ≠ q_133 := xlt hsz57 eq_136
  have ne_149 : q_76 ≠ q_133 := xlt hl94 eq_136
  have ne_150 : q_99 ≠ q_133 := xlt hn118 eq_136
  have ne_151 : qa118 ≠ q_133 := xlt ha118 eq_136
  have hh0 := hc_135.at0 hh0
  have hpx10 := hc_135.at0 hpx10
  have hpy10 := hc_135.at0 hpy10
  have hpz10 := hc_135.at0 hpz10
  have hpx29 := hc_135.at0 hpx29
  have hpy29 := hc_135.at0 hpy29
  have hpz29 := hc_135.at0 hpz29
  have hsx57 := hc_135.at0 hsx57
  have hsy57 := hc_135.at0 hsy57
  have hsz57 := hc_135.at0 hsz57
  have hl94 := hc_135.at0 hl94
  have hn118 := hc_135.at0 hn118
  have ha118 := hc_135.at0 ha118
  refine lv_dup hx hb dX4_init_70 rfl ?_
  refine lv_bipush (v := (nI 6)) hx hb dX4_init_71 (by decide) ?_
  have v_q_133 := ((u_q_99.trn hc118 (Or.inr geu_q_99)).trn hc_131 (Or.inl (List.mem_cons_self ..)))
  have geu_q_133 : H.size ≤ q_133 := Nat.le_trans v_q_133.1 (Nat.le_of_eq eq_136.symm)
  have u_q_133 := (v_q_133.trz hc_135)
  have hsz := hS.1
  refine x_call (px := xNo) (x_runOf (va_runI (b := q_133) (As := [.int (nI 6)]) (rest := [.ref q_133, .ref h]) ⟨hx, hb, hml, hown, hts⟩ (x_met (c_X1_init l hfl G q_133 6 H_138 ho_134 hA_q_133 (by decide))) (cwI 1 hts gX4_init_X1_init rfl rfl rfl (hts (.initialized RX1) (by decide +kernel)) (hts (.methodLink RX4 39 yX1_init) (by decide +kernel)) (hts (.instanceMethod yX1_init) (by decide +kernel)) rfl (by decide +kernel) ⟨(Nat.le_of_ble_eq_true rfl), (Nat.le_of_ble_eq_true rfl)⟩) (xPreS hC hS) rfl rfl hl.1 rfl (lv_room (Nat.le_of_ble_eq_true rfl)) dX4_init_73 ⟨(by first | exact Nat.le_of_ble_eq_true rfl | exact (show 0 + 1 + 2 + 1 + 2 + 1 + 2 + 1 + 1 + 1 + 1 + 1 ≤ 60 by omega)), (by first | exact Nat.le_of_ble_eq_true rfl | exact (show 0 + 3 + 101 + 3 + 101 + 2 + 101 + 3 + 1 + 100 + 1 + 100 ≤ 1500 by omega))⟩)) hS (fun _ h => h) (fun _ _ _ _ _ h => False.elim h) (fun v H_152 locs hp hz hk_153 hS => ?_)
  obtain ⟨rfl, qa154, hqa154, hn154, ha154, hc154⟩ := hp
  have hA_qa154 : xA G qa154 := hC.2.2.1 _ (Nat.le_trans hsz hqa154)
  have ne_155 : h ≠ qa154 := xlt2 hh0 hqa154
  have ne_156 : q_1 ≠ qa154 := xlt2 hpx10 hqa154
  have ne_157 : pr10 ≠ qa154 := xlt2 hpy10 hqa154
  have ne_158 : pa10 ≠ qa154 := xlt2 hpz10 hqa154
  have ne_159 : q_17 ≠ qa154 := xlt2 hpx29 hqa154
  have ne_160 : pr29 ≠ qa154 := xlt2 hpy29 hqa154
  have ne_161 : pa29 ≠ qa154 := xlt2 hpz29 hqa154
  have ne_162 : q_42 ≠ qa154 := xlt2 hsx57 hqa154
  have ne_163 : sr57 ≠ qa154 := xlt2 hsy57 hqa154
  have ne_164 : sa57 ≠ qa154 := xlt2 hsz57 hqa154
  have ne_165 : q_76 ≠ qa154 := xlt2 hl94 hqa154
  have ne_166 : q_99 ≠ qa154 := xlt2 hn118 hqa154
  have ne_167 : qa118 ≠ qa154 := xlt2 ha118 hqa154
  have ne_168 : q_133 ≠ qa154 := xlt2 ho_134 hqa154
  have hh0 := hc154.at hh0 (xn1 ne_139)
  have hpx10 := hc154.at hpx10 (xn1 ne_140)
  have hpy10 := hc154.at hpy10 (xn1 ne_141)
  have hpz10 := hc154.at hpz10 (xn1 ne_142)
  have hpx29 := hc154.at hpx29 (xn1 ne_143)
  have hpy29 := hc154.at hpy29 (xn1 ne_144)
  have hpz29 := hc154.at hpz29 (xn1 ne_145)
  have hsx57 := hc154.at hsx57 (xn1 ne_146)
  have hsy57 := hc154.at hsy57 (xn1 ne_147)
  have hsz57 := hc154.at hsz57 (xn1 ne_148)
  have hl94 := hc154.at hl94 (xn1 ne_149)
  have hn118 := hc154.at hn118 (xn1 ne_150)
  have ha118 := hc154.at ha118 (xn1 ne_151)
  refine x_putF (G := G) (ci := 5) (v := .ref q_133) (ty := (.object "Bidwhistle$Row")) (C := RX4) (T := TX4) (N := 11) hx hb hts (by decide +kernel) tyX4 tyX4_ok nmX4 hown hC hS hA_h hh0 rfl 6 (by decide) (hts (.fieldLink RX4 46 "Bidwhistle" "secondValues" "LBidwhistle$Row;") (by decide +kernel)) (fun _ h9 => h9) rfl hin rfl (by decide +kernel) rfl rfl (Nat.le_of_ble_eq_true rfl) dX4_init_76 (fun H_170 locs hh0 hc_169 hS => ?_)
  have hh0 : oA G h 5 [.ref q_1, .ref q_17, .ref q_42, .ref q_76, .int (nI 0), .ref q_99, .ref q_133, .int 0, .null, .null, .null] H_170 := hh0
  have hpx10 := hc_169.at hpx10 (xn1 (Ne.symm ne_7))
  have hpy10 := hc_169.at hpy10 (xn1 (Ne.symm ne_11))
  have hpz10 := hc_169.at hpz10 (xn1 (Ne.symm ne_13))
  have hpx29 := hc_169.at hpx29 (xn1 (Ne.symm ne_23))
  have hpy29 := hc_169.at hpy29 (xn1 (Ne.symm ne_30))
  have hpz29 := hc_169.at hpz29 (xn1 (Ne.symm ne_35))
  have hsx57 := hc_169.at hsx57 (xn1 (Ne.symm ne_48))
  have hsy57 := hc_169.at hsy57 (xn1 (Ne.symm ne_58))
  have hsz57 := hc_169.at hsz57 (xn1 (Ne.symm ne_66))
  have hl94 := hc_169.at hl94 (xn1 (Ne.symm ne_82))
  have hn118 := hc_169.at hn118 (xn1 (Ne.symm ne_105))
  have ha118 := hc_169.at ha118 (xn1 (Ne.symm ne_119))
  have hn154 := hc_169.at hn154 (xn1 (Ne.symm ne_139))
  have ha154 := hc_169.at ha154 (xn1 (Ne.symm ne_155))
  refine lv_aload_n hx hb dX4_init_79 rfl (lv_at hl 0 rfl) ?_
  refine lv_iconst (v := (nI 0)) hx hb dX4_init_80 (by decide) ?_
  refine x_put (G := G) (ci := 5) (v := .int (nI 0)) (ty := .int) (C := RX4) (T := TX4) (N := 11) hx hb hts (by decide +kernel) tyX4 tyX4_ok nmX4 hown hC hS hA_h hh0 rfl 7 (by decide) (hts (.fieldLink RX4 49 "Bidwhistle" "pairsTold" "I") (by decide +kernel)) (fun _ h9 => h9) rfl (by decide +kernel) rfl rfl (Nat.le_of_ble_eq_true rfl) dX4_init_81 (fun H_172 locs hh0 hc_171 hS => ?_)
  have hh0 : oA G h 5 [.ref q_1, .ref q_17, .ref q_42, .ref q_76, .int (nI 0), .ref q_99, .ref q_133, .int (nI 0), .null, .null, .null] H_172 := hh0
  have hpx10 := hc_171.at hpx10 (xn1 (Ne.symm ne_7))
  have hpy10 := hc_171.at hpy10 (xn1 (Ne.symm ne_11))
  have hpz10 := hc_171.at hpz10 (xn1 (Ne.symm ne_13))
  have hpx29 := hc_171.at hpx29 (xn1 (Ne.symm ne_23))
  have hpy29 := hc_171.at hpy29 (xn1 (Ne.symm ne_30))
  have hpz29 := hc_171.at hpz29 (xn1 (Ne.symm ne_35))
  have hsx57 := hc_171.at hsx57 (xn1 (Ne.symm ne_48))
  have hsy57 := hc_171.at hsy57 (xn1 (Ne.symm ne_58))
  have hsz57 := hc_171.at hsz57 (xn1 (Ne.symm ne_66))
  have hl94 := hc_171.at hl94 (xn1 (Ne.symm ne_82))
  have hn118 := hc_171.at hn118 (xn1 (Ne.symm ne_105))
  have ha118 := hc_171.at ha118 (xn1 (Ne.symm ne_119))
  have hn154 := hc_171.at hn154 (xn1 (Ne.symm ne_139))
  have ha154 := hc_171.at ha154 (xn1 (Ne.symm ne_155))
  refine lv_aload_n hx hb dX4_init_84 rfl (lv_at hl 0 rfl) ?_
  have hsz := hS.1
  refine x_new (G := G) (ci := 2) (fs := [.null]) (C := RX1) (T := TX1) (N := 1) hx hb hts (by decide +kernel) tyX1 tyX1_ok hown (hts (.classLink RX4 37 RX1) (by decide +kernel)) (hts (.instantiable RX1 1) (by decide +kernel)) (hts (.initialized RX1) (by decide +kernel)) hC hS rfl (fun j hj => by rcases (show j = 0 by omega) with rfl; rfl) (by first | exact Nat.le_of_ble_eq_true rfl | exact (show 0 + 1 + 2 + 1 + 2 + 1 + 2 + 1 + 1 + 1 + 1 + 1 + 1 ≤ 60 by omega)) (by first | exact Nat.le_of_ble_eq_true rfl | exact (show 0 + 3 + 101 + 3 + 101 + 2 + 101 + 3 + 1 + 100 + 1 + 100 + 1 ≤ 1500 by omega)) dX4_init_85 (fun q_173 H_178 eq_176 ho_174 hc_175 hz_177 hS => ?_)
  have hA_q_173 : xA G q_173 := hC.2.2.1 _ (by rw [eq_176]; exact hsz)
  have ne_179 : h ≠ q_173 := xlt hh0 eq_176
  have ne_180 : q_1 ≠ q_173 := xlt hpx10 eq_176
  have ne_181 : pr10 ≠ q_173 := xlt hpy10 eq_176
  have ne_182 : pa10 ≠ q_173 := xlt hpz10 eq_176
  have ne_183 : q_17 ≠ q_173 := xlt hpx29 eq_176
  have ne_184 : pr29 ≠ q_173 := xlt hpy29 eq_176
  have ne_185 : pa29 ≠ q_173 := xlt hpz29 eq_176
  have ne_186 : q_42 ≠ q_173 := xlt hsx57 eq_176
  have ne_187 : sr57 ≠ q_173 := xlt hsy57 eq_176
  have ne_188 : sa57 ≠ q_173 := xlt hsz57 eq_176
  have ne_189 : q_76 ≠ q_173 := xlt hl94 eq_176
  have ne_190 : q_99 ≠ q_173 := xlt hn118 eq_176
  have ne_191 : qa118 ≠ q_173 := xlt ha118 eq_176
  have ne_192 : q_133 ≠ q_173 := xlt hn154 eq_176
  have ne_193 : qa154 ≠ q_173 := xlt ha154 eq_176
  have hh0 := hc_175.at0 hh0
  have hpx10 := hc_175.at0 hpx10
  have hpy10 := hc_175.at0 hpy10
  have hpz10 := hc_175.at0 hpz10
  have hpx29 := hc_175.at0 hpx29
  have hpy29 := hc_175.at0 hpy29
  have hpz29 := hc_175.at0 hpz29
  have hsx57 := hc_175.at0 hsx57
  have hsy57 := hc_175.at0 hsy57
  have hsz57 := hc_175.at0 hsz57
  have hl94 := hc_175.at0 hl94
  have hn118 := hc_175.at0 hn118
  have ha118 := hc_175.at0 ha118
  have hn154 := hc_175.at0 hn154
  have ha154 := hc_175.at0 ha154
  refine lv_dup hx hb dX4_init_88 rfl ?_
  refine lv_bipush (v := (nI 20)) hx hb dX4_init_89 (by decide) ?_
  have v_q_173 := (((u_q_133.trn hc154 (Or.inr geu_q_133)).trn hc_169 (Or.inl (List.mem_cons_self ..))).trn hc_171 (Or.inl (List.mem_cons_self ..)))
  have geu_q_173 : H.size ≤ q_173 := Nat.le_trans v_q_173.1 (Nat.le_of_eq eq_176.symm)
  have u_q_173 := (v_q_173.trz hc_175)
  have hsz := hS.1
  refine x_call (px := xNo) (x_runOf (va_runI (b := q_173) (As := [.int (nI 20)]) (rest := [.ref q_173, .ref h]) ⟨hx, hb, hml, hown, hts⟩ (x_met (c_X1_init l hfl G q_173 20 H_178 ho_174 hA_q_173 (by decide))) (cwI 1 hts gX4_init_X1_init rfl rfl rfl (hts (.initialized RX1) (by decide +kernel)) (hts (.methodLink RX4 39 yX1_init) (by decide +kernel)) (hts (.instanceMethod yX1_init) (by decide +kernel)) rfl (by decide +kernel) ⟨(Nat.le_of_ble_eq_true rfl), (Nat.le_of_ble_eq_true rfl)⟩) (xPreS hC hS) rfl rfl hl.1 rfl (lv_room (Nat.le_of_ble_eq_true rfl)) dX4_init_91 ⟨(by first | exact Nat.le_of_ble_eq_true rfl | exact (show 0 + 1 + 2 + 1 + 2 + 1 + 2 + 1 + 1 + 1 + 1 + 1 + 1 + 1 ≤ 60 by omega)), (by first | exact Nat.le_of_ble_eq_true rfl | exact (show 0 + 3 + 101 + 3 + 101 + 2 + 101 + 3 + 1 + 100 + 1 + 100 + 1 + 100 ≤ 1500 by omega))⟩)) hS (fun _ h => h) (fun _ _ _ _ _ h => False.elim h) (fun v H_194 locs hp hz hk_195 hS => ?_)
  obtain ⟨rfl, qa196, hqa196, hn196, ha196, hc196⟩ := hp
  have hA_qa196 : xA G qa196 := hC.2.2.1 _ (Nat.le_trans hsz hqa196)
  have ne_197 : h ≠ qa196 := xlt2 hh0 hqa196
  have ne_198 : q_1 ≠ qa196 := xlt2 hpx10 hqa196
  have ne_199 : pr10 ≠ qa196 := xlt2 hpy10 hqa196
  have ne_200 : pa10 ≠ qa196 := xlt2 hpz10 hqa196
  have ne_201 : q_17 ≠ qa196 := xlt2 hpx29 hqa196
  have ne_202 : pr29 ≠ qa196 := xlt2 hpy29 hqa196
  have ne_203 : pa29 ≠ qa196 := xlt2 hpz29 hqa196
  have ne_204 : q_42 ≠ qa196 := xlt2 hsx57 hqa196
  have ne_205 : sr57 ≠ qa196 := xlt2 hsy57 hqa196
  have ne_206 : sa57 ≠ qa196 := xlt2 hsz57 hqa196
  have ne_207 : q_76 ≠ qa196 := xlt2 hl94 hqa196
  have ne_208 : q_99 ≠ qa196 := xlt2 hn118 hqa196
  have ne_209 : qa118 ≠ qa196 := xlt2 ha118 hqa196
  have ne_210 : q_133 ≠ qa196 := xlt2 hn154 hqa196
  have ne_211 : qa154 ≠ qa196 := xlt2 ha154 hqa196
  have ne_212 : q_173 ≠ qa196 := xlt2 ho_174 hqa196
  have hh0 := hc196.at hh0 (xn1 ne_179)
  have hpx10 := hc196.at hpx10 (xn1 ne_180)
  have hpy10 := hc196.at hpy10 (xn1 ne_181)
  have hpz10 := hc196.at hpz10 (xn1 ne_182)
  have hpx29 := hc196.at hpx29 (xn1 ne_183)
  have hpy29 := hc196.at hpy29 (xn1 ne_184)
  have hpz29 := hc196.at hpz29 (xn1 ne_185)
  have hsx57 := hc196.at hsx57 (xn1 ne_186)
  have hsy57 := hc196.at hsy57 (xn1 ne_187)
  have hsz57 := hc196.at hsz57 (xn1 ne_188)
  have hl94 := hc196.at hl94 (xn1 ne_189)
  have hn118 := hc196.at hn118 (xn1 ne_190)
  have ha118 := hc196.at ha118 (xn1 ne_191)
  have hn154 := hc196.at hn154 (xn1 ne_192)
  have ha154 := hc196.at ha154 (xn1 ne_193)
  refine x_putF (G := G) (ci := 5) (v := .ref q_173) (ty := (.object "Bidwhistle$Row")) (C := RX4) (T := TX4) (N := 11) hx hb hts (by decide +kernel) tyX4 tyX4_ok nmX4 hown hC hS hA_h hh0 rfl 8 (by decide) (hts (.fieldLink RX4 52 "Bidwhistle" "bidsForFirst" "LBidwhistle$Row;") (by decide +kernel)) (fun _ h9 => h9) rfl hin rfl (by decide +kernel) rfl rfl (Nat.le_of_ble_eq_true rfl) dX4_init_94 (fun H_214 locs hh0 hc_213 hS => ?_)
  have hh0 : oA G h 5 [.ref q_1, .ref q_17, .ref q_42, .ref q_76, .int (nI 0), .ref q_99, .ref q_133, .int (nI 0), .ref q_173, .null, .null] H_214 := hh0
  have hpx10 := hc_213.at hpx10 (xn1 (Ne.symm ne_7))
  have hpy10 := hc_213.at hpy10 (xn1 (Ne.symm ne_11))
  have hpz10 := hc_213.at hpz10 (xn1 (Ne.symm ne_13))
  have hpx29 := hc_213.at hpx29 (xn1 (Ne.symm ne_23))
  have hpy29 := hc_213.at hpy29 (xn1 (Ne.symm ne_30))
  have hpz29 := hc_213.at hpz29 (xn1 (Ne.symm ne_35))
  have hsx57 := hc_213.at hsx57 (xn1 (Ne.symm ne_48))
  have hsy57 := hc_213.at hsy57 (xn1 (Ne.symm ne_58))
  have hsz57 := hc_213.at hsz57 (xn1 (Ne.symm ne_66))
  have hl94 := hc_213.at hl94 (xn1 (Ne.symm ne_82))
  have hn118 := hc_213.at hn118 (xn1 (Ne.symm ne_105))
  have ha118 := hc_213.at ha118 (xn1 (Ne.symm ne_119))
  have hn154 := hc_213.at hn154 (xn1 (Ne.symm ne_139))
  have ha154 := hc_213.at ha154 (xn1 (Ne.symm ne_155))
  have hn196 := hc_213.at hn196 (xn1 (Ne.symm ne_179))
  have ha196 := hc_213.at ha196 (xn1 (Ne.symm ne_197))
  refine lv_aload_n hx hb dX4_init_97 rfl (lv_at hl 0 rfl) ?_
  have hsz := hS.1
  refine x_new (G := G) (ci := 2) (fs := [.null]) (C := RX1) (T := TX1) (N := 1) hx hb hts (by decide +kernel) tyX1 tyX1_ok hown (hts (.classLink RX4 37 RX1) (by decide +kernel)) (hts (.instantiable RX1 1) (by decide +kernel)) (hts (.initialized RX1) (by decide +kernel)) hC hS rfl (fun j hj => by rcases (show j = 0 by omega) with rfl; rfl) (by first | exact Nat.le_of_ble_eq_true rfl | exact (show 0 + 1 + 2 + 1 + 2 + 1 + 2 + 1 + 1 + 1 + 1 + 1 + 1 + 1 + 1 ≤ 60 by omega)) (by first | exact Nat.le_of_ble_eq_true rfl | exact (show 0 + 3 + 101 + 3 + 101 + 2 + 101 + 3 + 1 + 100 + 1 + 100 + 1 + 100 + 1 ≤ 1500 by omega)) dX4_init_98 (fun q_215 H_220 eq_218 ho_216 hc_217 hz_219 hS => ?_)
  have hA_q_215 : xA G q_215 := hC.2.2.1 _ (by rw [eq_218]; exact hsz)
  have ne_221 : h ≠ q_215 := xlt hh0 eq_218
  have ne_222 : q_1 ≠ q_215 := xlt hpx10 eq_218
  have ne_223 : pr10 ≠ q_215 := xlt hpy10 eq_218
  have ne_224 : pa10 ≠ q_215 := xlt hpz10 eq_218
  have ne_225 : q_17 ≠ q_215 := xlt hpx29 eq_218
  have ne_226 : pr29 ≠ q_215 := xlt hpy29 eq_218
  have ne_227 : pa29 ≠ q_215 := xlt hpz29 eq_218
  have ne_228 : q_42 ≠ q_215 := xlt hsx57 eq_218
  have ne_229 : sr57 ≠ q_215 := xlt hsy57 eq_218
  have ne_230 : sa57 ≠ q_215 := xlt hsz57 eq_218
  have ne_231 : q_76 ≠ q_215 := xlt hl94 eq_218
  have ne_232 : q_99 ≠ q_215 := xlt hn118 eq_218
  have ne_233 : qa118 ≠ q_215 := xlt ha118 eq_218
  have ne_234 : q_133 ≠ q_215 := xlt hn154 eq_218
  have ne_235 : qa154 ≠ q_215 := xlt ha154 eq_218
  have ne_236 : q_173 ≠ q_215 := xlt hn196 eq_218
  have ne_237 : qa196 ≠ q_215 := xlt ha196 eq_218
  have hh0 := hc_217.at0 hh0
  have hpx10 := hc_217.at0 hpx10
  have hpy10 := hc_217.at0 hpy10
  have hpz10 := hc_217.at0 hpz10
  have hpx29 := hc_217.at0 hpx29
  have hpy29 := hc_217.at0 hpy29
  have hpz29 := hc_217.at0 hpz29
  have hsx57 := hc_217.at0 hsx57
  have hsy57 := hc_217.at0 hsy57
  have hsz57 := hc_217.at0 hsz57
  have hl94 := hc_217.at0 hl94
  have hn118 := hc_217.at0 hn118
  have ha118 := hc_217.at0 ha118
  have hn154 := hc_217.at0 hn154
  have ha154 := hc_217.at0 ha154
  have hn196 := hc_217.at0 hn196
  have ha196 := hc_217.at0 ha196
  refine lv_dup hx hb dX4_init_101 rfl ?_
  refine lv_bipush (v := (nI 20)) hx hb dX4_init_102 (by decide) ?_
  have v_q_215 := ((u_q_173.trn hc196 (Or.inr geu_q_173)).trn hc_213 (Or.inl (List.mem_cons_self ..)))
  have geu_q_215 : H.size ≤ q_215 := Nat.le_trans v_q_215.1 (Nat.le_of_eq eq_218.symm)
  have u_q_215 := (v_q_215.trz hc_217)
  have hsz := hS.1
  refine x_call (px := xNo) (x_runOf (va_runI (b := q_215) (As := [.int (nI 20)]) (rest := [.ref q_215, .ref h]) ⟨hx, hb, hml, hown, hts⟩ (x_met (c_X1_init l hfl G q_215 20 H_220 ho_216 hA_q_215 (by decide))) (cwI 1 hts gX4_init_X1_init rfl rfl rfl (hts (.initialized RX1) (by decide +kernel)) (hts (.methodLink RX4 39 yX1_init) (by decide +kernel)) (hts (.instanceMethod yX1_init) (by decide +kernel)) rfl (by decide +kernel) ⟨(Nat.le_of_ble_eq_true rfl), (Nat.le_of_ble_eq_true rfl)⟩) (xPreS hC hS) rfl rfl hl.1 rfl (lv_room (Nat.le_of_ble_eq_true rfl)) dX4_init_104 ⟨(by first | exact Nat.le_of_ble_eq_true rfl | exact (show 0 + 1 + 2 + 1 + 2 + 1 + 2 + 1 + 1 + 1 + 1 + 1 + 1 + 1 + 1 + 1 ≤ 60 by omega)), (by first | exact Nat.le_of_ble_eq_true rfl | exact (show 0 + 3 + 101 + 3 + 101 + 2 + 101 + 3 + 1 + 100 + 1 + 100 + 1 + 100 + 1 + 100 ≤ 1500 by omega))⟩)) hS (fun _ h => h) (fun _ _ _ _ _ h => False.elim h) (fun v H_238 locs hp hz hk_239 hS => ?_)
  obtain ⟨rfl, qa240, hqa240, hn240, ha240, hc240⟩ := hp
  have hA_qa240 : xA G qa240 := hC.2.2.1 _ (Nat.le_trans hsz hqa240)
  have ne_241 : h ≠ qa240 := xlt2 hh0 hqa240
  have ne_242 : q_1 ≠ qa240 := xlt2 hpx10 hqa240
  have ne_243 : pr10 ≠ qa240 := xlt2 hpy10 hqa240
  have ne_244 : pa10 ≠ qa240 := xlt2 hpz10 hqa240
  have ne_245 : q_17 ≠ qa240 := xlt2 hpx29 hqa240
  have ne_246 : pr29 ≠ qa240 := xlt2 hpy29 hqa240
  have ne_247 : pa29 ≠ qa240 := xlt2 hpz29 hqa240
  have ne_248 : q_42 ≠ qa240 := xlt2 hsx57 hqa240
  have ne_249 : sr57 ≠ qa240 := xlt2 hsy57 hqa240
  have ne_250 : sa57 ≠ qa240 := xlt2 hsz57 hqa240
  have ne_251 : q_76 ≠ qa240 := xlt2 hl94 hqa240
  have ne_252 : q_99 ≠ qa240 := xlt2 hn118 hqa240
  have ne_253 : qa118 ≠ qa240 := xlt2 ha118 hqa240
  have ne_254 : q_133 ≠ qa240 := xlt2 hn154 hqa240
  have ne_255 : qa154 ≠ qa240 := xlt2 ha154 hqa240
  have ne_256 : q_173 ≠ qa240 := xlt2 hn196 hqa240
  have ne_257 : qa196 ≠ qa240 := xlt2 ha196 hqa240
  have ne_258 : q_215 ≠ qa240 := xlt2 ho_216 hqa240
  have hh0 := hc240.at hh0 (xn1 ne_221)
  have hpx10 := hc240.at hpx10 (xn1 ne_222)
  have hpy10 := hc240.at hpy10 (xn1 ne_223)
  have hpz10 := hc240.at hpz10 (xn1 ne_224)
  have hpx29 := hc240.at hpx29 (xn1 ne_225)
  have hpy29 := hc240.at hpy29 (xn1 ne_226)
  have hpz29 := hc240.at hpz29 (xn1 ne_227)
  have hsx57 := hc240.at hsx57 (xn1 ne_228)
  have hsy57 := hc240.at hsy57 (xn1 ne_229)
  have hsz57 := hc240.at hsz57 (xn1 ne_230)
  have hl94 := hc240.at hl94 (xn1 ne_231)
  have hn118 := hc240.at hn118 (xn1 ne_232)
  have ha118 := hc240.at ha118 (xn1 ne_233)
  have hn154 := hc240.at hn154 (xn1 ne_234)
  have ha154 := hc240.at ha154 (xn1 ne_235)
  have hn196 := hc240.at hn196 (xn1 ne_236)
  have ha196 := hc240.at ha196 (xn1 ne_237)
  refine x_putF (G := G) (ci := 5) (v := .ref q_215) (ty := (.object "Bidwhistle$Row")) (C := RX4) (T := TX4) (N := 11) hx hb hts (by decide +kernel) tyX4 tyX4_ok nmX4 hown hC hS hA_h hh0 rfl 9 (by decide) (hts (.fieldLink RX4 55 "Bidwhistle" "bidsForSecond" "LBidwhistle$Row;") (by decide +kernel)) (fun _ h9 => h9) rfl hin rfl (by decide +kernel) rfl rfl (Nat.le_of_ble_eq_true rfl) dX4_init_107 (fun H_260 locs hh0 hc_259 hS => ?_)
  have hh0 : oA G h 5 [.ref q_1, .ref q_17, .ref q_42, .ref q_76, .int (nI 0), .ref q_99, .ref q_133, .int (nI 0), .ref q_173, .ref q_215, .null] H_260 := hh0
  have hpx10 := hc_259.at hpx10 (xn1 (Ne.symm ne_7))
  have hpy10 := hc_259.at hpy10 (xn1 (Ne.symm ne_11))
  have hpz10 := hc_259.at hpz10 (xn1 (Ne.symm ne_13))
  have hpx29 := hc_259.at hpx29 (xn1 (Ne.symm ne_23))
  have hpy29 := hc_259.at hpy29 (xn1 (Ne.symm ne_30))
  have hpz29 := hc_259.at hpz29 (xn1 (Ne.symm ne_35))
  have hsx57 := hc_259.at hsx57 (xn1 (Ne.symm ne_48))
  have hsy57 := hc_259.at hsy57 (xn1 (Ne.symm ne_58))
  have hsz57 := hc_259.at hsz57 (xn1 (Ne.symm ne_66))
  have hl94 := hc_259.at hl94 (xn1 (Ne.symm ne_82))
  have hn118 := hc_259.at hn118 (xn1 (Ne.symm ne_105))
  have ha118 := hc_259.at ha118 (xn1 (Ne.symm ne_119))
  have hn154 := hc_259.at hn154 (xn1 (Ne.symm ne_139))
  have ha154 := hc_259.at ha154 (xn1 (Ne.symm ne_155))
  have hn196 := hc_259.at hn196 (xn1 (Ne.symm ne_179))
  have ha196 := hc_259.at ha196 (xn1 (Ne.symm ne_197))
  have hn240 := hc_259.at hn240 (xn1 (Ne.symm ne_221))
  have ha240 := hc_259.at ha240 (xn1 (Ne.symm ne_241))
  refine lv_aload_n hx hb dX4_init_110 rfl (lv_at hl 0 rfl) ?_
  have hsz := hS.1
  refine x_new (G := G) (ci := 2) (fs := [.null]) (C := RX1) (T := TX1) (N := 1) hx hb hts (by decide +kernel) tyX1 tyX1_ok hown (hts (.classLink RX4 37 RX1) (by decide +kernel)) (hts (.instantiable RX1 1) (by decide +kernel)) (hts (.initialized RX1) (by decide +kernel)) hC hS rfl (fun j hj => by rcases (show j = 0 by omega) with rfl; rfl) (by first | exact Nat.le_of_ble_eq_true rfl | exact (show 0 + 1 + 2 + 1 + 2 + 1 + 2 + 1 + 1 + 1 + 1 + 1 + 1 + 1 + 1 + 1 + 1 ≤ 60 by omega)) (by first | exact Nat.le_of_ble_eq_true rfl | exact (show 0 + 3 + 101 + 3 + 101 + 2 + 101 + 3 + 1 + 100 + 1 + 100 + 1 + 100 + 1 + 100 + 1 ≤ 1500 by omega)) dX4_init_111 (fun q_261 H_266 eq_264 ho_262 hc_263 hz_265 hS => ?_)
  have hA_q_261 : xA G q_261 := hC.2.2.1 _ (by rw [eq_264]; exact hsz)
  have ne_267 : h ≠ q_261 := xlt hh0 eq_264
  have ne_268 : q_1 ≠ q_261 := xlt hpx10 eq_264
  have ne_269 : pr10 ≠ q_261 := xlt hpy10 eq_264
  have ne_270 : pa10 ≠ q_261 := xlt hpz10 eq_264
  have ne_271 : q_17 ≠ q_261 := xlt hpx29 eq_264
  have ne_272 : pr29 ≠ q_261 := xlt hpy29 eq_264
  have ne_273 : pa29 ≠ q_261 := xlt hpz29 eq_264
  have ne_274 : q_42 ≠ q_261 := xlt hsx57 eq_264
  have ne_275 : sr57 ≠ q_261 := xlt hsy57 eq_264
  have ne_276 : sa57 ≠ q_261 := xlt hsz57 eq_264
  have ne_277 : q_76 ≠ q_261 := xlt hl94 eq_264
  have ne_278 : q_99 ≠ q_261 := xlt hn118 eq_264
  have ne_279 : qa118 ≠ q_261 := xlt ha118 eq_264
  have ne_280 : q_133 ≠ q_261 := xlt hn154 eq_264
  have ne_281 : qa154 ≠ q_261 := xlt ha154 eq_264
  have ne_282 : q_173 ≠ q_261 := xlt hn196 eq_264
  have ne_283 : qa196 ≠ q_261 := xlt ha196 eq_264
  have ne_284 : q_215 ≠ q_261 := xlt hn240 eq_264
  have ne_285 : qa240 ≠ q_261 := xlt ha240 eq_264
  have hh0 := hc_263.at0 hh0
  have hpx10 := hc_263.at0 hpx10
  have hpy10 := hc_263.at0 hpy10
  have hpz10 := hc_263.at0 hpz10
  have hpx29 := hc_263.at0 hpx29
  have hpy29 := hc_263.at0 hpy29
  have hpz29 := hc_263.at0 hpz29
  have hsx57 := hc_263.at0 hsx57
  have hsy57 := hc_263.at0 hsy57
  have hsz57 := hc_263.at0 hsz57
  have hl94 := hc_263.at0 hl94
  have hn118 := hc_263.at0 hn118
  have ha118 := hc_263.at0 ha118
  have hn154 := hc_263.at0 hn154
  have ha154 := hc_263.at0 ha154
  have hn196 := hc_263.at0 hn196
  have ha196 := hc_263.at0 ha196
  have hn240 := hc_263.at0 hn240
  have ha240 := hc_263.at0 ha240
  refine lv_dup hx hb dX4_init_114 rfl ?_
  refine lv_bipush (v := (nI 20)) hx hb dX4_init_115 (by decide) ?_
  have v_q_261 := ((u_q_215.trn hc240 (Or.inr geu_q_215)).trn hc_259 (Or.inl (List.mem_cons_self ..)))
  have geu_q_261 : H.size ≤ q_261 := Nat.le_trans v_q_261.1 (Nat.le_of_eq eq_264.symm)
  have u_q_261 := (v_q_261.trz hc_263)
  have hsz := hS.1
  refine x_call (px := xNo) (x_runOf (va_runI (b := q_261) (As := [.int (nI 20)]) (rest := [.ref q_261, .ref h]) ⟨hx, hb, hml, hown, hts⟩ (x_met (c_X1_init l hfl G q_261 20 H_266 ho_262 hA_q_261 (by decide))) (cwI 1 hts gX4_init_X1_init rfl rfl rfl (hts (.initialized RX1) (by decide +kernel)) (hts (.methodLink RX4 39 yX1_init) (by decide +kernel)) (hts (.instanceMethod yX1_init) (by decide +kernel)) rfl (by decide +kernel) ⟨(Nat.le_of_ble_eq_true rfl), (Nat.le_of_ble_eq_true rfl)⟩) (xPreS hC hS) rfl rfl hl.1 rfl (lv_room (Nat.le_of_ble_eq_true rfl)) dX4_init_117 ⟨(by first | exact Nat.le_of_ble_eq_true rfl | exact (show 0 + 1 + 2 + 1 + 2 + 1 + 2 + 1 + 1 + 1 + 1 + 1 + 1 + 1 + 1 + 1 + 1 + 1 ≤ 60 by omega)), (by first | exact Nat.le_of_ble_eq_true rfl | exact (show 0 + 3 + 101 + 3 + 101 + 2 + 101 + 3 + 1 + 100 + 1 + 100 + 1 + 100 + 1 + 100 + 1 + 100 ≤ 1500 by omega))⟩)) hS (fun _ h => h) (fun _ _ _ _ _ h => False.elim h) (fun v H_286 locs hp hz hk_287 hS => ?_)
  obtain ⟨rfl, qa288, hqa288, hn288, ha288, hc288⟩ := hp
  have hA_qa288 : xA G qa288 := hC.2.2.1 _ (Nat.le_trans hsz hqa288)
  have ne_289 : h ≠ qa288 := xlt2 hh0 hqa288
  have ne_290 : q_1 ≠ qa288 := xlt2 hpx10 hqa288
  have ne_291 : pr10 ≠ qa288 := xlt2 hpy10 hqa288
  have ne_292 : pa10 ≠ qa288 := xlt2 hpz10 hqa288
  have ne_293 : q_17 ≠ qa288 := xlt2 hpx29 hqa288
  have ne_294 : pr29 ≠ qa288 := xlt2 hpy29 hqa288
  have ne_295 : pa29 ≠ qa288 := xlt2 hpz29 hqa288
  have ne_296 : q_42 ≠ qa288 := xlt2 hsx57 hqa288
  have ne_297 : sr57 ≠ qa288 := xlt2 hsy57 hqa288
  have ne_298 : sa57 ≠ qa288 := xlt2 hsz57 hqa288
  have ne_299 : q_76 ≠ qa288 := xlt2 hl94 hqa288
  have ne_300 : q_99 ≠ qa288 := xlt2 hn118 hqa288
  have ne_301 : qa118 ≠ qa288 := xlt2 ha118 hqa288
  have ne_302 : q_133 ≠ qa288 := xlt2 hn154 hqa288
  have ne_303 : qa154 ≠ qa288 := xlt2 ha154 hqa288
  have ne_304 : q_173 ≠ qa288 := xlt2 hn196 hqa288
  have ne_305 : qa196 ≠ qa288 := xlt2 ha196 hqa288
  have ne_306 : q_215 ≠ qa288 := xlt2 hn240 hqa288
  have ne_307 : qa240 ≠ qa288 := xlt2 ha240 hqa288
  have ne_308 : q_261 ≠ qa288 := xlt2 ho_262 hqa288
  have hh0 := hc288.at hh0 (xn1 ne_267)
  have hpx10 := hc288.at hpx10 (xn1 ne_268)
  have hpy10 := hc288.at hpy10 (xn1 ne_269)
  have hpz10 := hc288.at hpz10 (xn1 ne_270)
  have hpx29 := hc288.at hpx29 (xn1 ne_271)
  have hpy29 := hc288.at hpy29 (xn1 ne_272)
  have hpz29 := hc288.at hpz29 (xn1 ne_273)
  have hsx57 := hc288.at hsx57 (xn1 ne_274)
  have hsy57 := hc288.at hsy57 (xn1 ne_275)
  have hsz57 := hc288.at hsz57 (xn1 ne_276)
  have hl94 := hc288.at hl94 (xn1 ne_277)
  have hn118 := hc288.at hn118 (xn1 ne_278)
  have ha118 := hc288.at ha118 (xn1 ne_279)
  have hn154 := hc288.at hn154 (xn1 ne_280)
  have ha154 := hc288.at ha154 (xn1 ne_281)
  have hn196 := hc288.at hn196 (xn1 ne_282)
  have ha196 := hc288.at ha196 (xn1 ne_283)
  have hn240 := hc288.at hn240 (xn1 ne_284)
  have ha240 := hc288.at ha240 (xn1 ne_285)
  refine x_putF (G := G) (ci := 5) (v := .ref q_261) (ty := (.object "Bidwhistle$Row")) (C := RX4) (T := TX4) (N := 11) hx hb hts (by decide +kernel) tyX4 tyX4_ok nmX4 hown hC hS hA_h hh0 rfl 10 (by decide) (hts (.fieldLink RX4 58 "Bidwhistle" "worths" "LBidwhistle$Row;") (by decide +kernel)) (fun _ h9 => h9) rfl hin rfl (by decide +kernel) rfl rfl (Nat.le_of_ble_eq_true rfl) dX4_init_120 (fun H_310 locs hh0 hc_309 hS => ?_)
  have hh0 : oA G h 5 [.ref q_1, .ref q_17, .ref q_42, .ref q_76, .int (nI 0), .ref q_99, .ref q_133, .int (nI 0), .ref q_173, .ref q_215, .ref q_261] H_310 := hh0
  have hpx10 := hc_309.at hpx10 (xn1 (Ne.symm ne_7))
  have hpy10 := hc_309.at hpy10 (xn1 (Ne.symm ne_11))
  have hpz10 := hc_309.at hpz10 (xn1 (Ne.symm ne_13))
  have hpx29 := hc_309.at hpx29 (xn1 (Ne.symm ne_23))
  have hpy29 := hc_309.at hpy29 (xn1 (Ne.symm ne_30))
  have hpz29 := hc_309.at hpz29 (xn1 (Ne.symm ne_35))
  have hsx57 := hc_309.at hsx57 (xn1 (Ne.symm ne_48))
  have hsy57 := hc_309.at hsy57 (xn1 (Ne.symm ne_58))
  have hsz57 := hc_309.at hsz57 (xn1 (Ne.symm ne_66))
  have hl94 := hc_309.at hl94 (xn1 (Ne.symm ne_82))
  have hn118 := hc_309.at hn118 (xn1 (Ne.symm ne_105))
  have ha118 := hc_309.at ha118 (xn1 (Ne.symm ne_119))
  have hn154 := hc_309.at hn154 (xn1 (Ne.symm ne_139))
  have ha154 := hc_309.at ha154 (xn1 (Ne.symm ne_155))
  have hn196 := hc_309.at hn196 (xn1 (Ne.symm ne_179))
  have ha196 := hc_309.at ha196 (xn1 (Ne.symm ne_197))
  have hn240 := hc_309.at hn240 (xn1 (Ne.symm ne_221))
  have ha240 := hc_309.at ha240 (xn1 (Ne.symm ne_241))
  have hn288 := hc_309.at hn288 (xn1 (Ne.symm ne_267))
  have ha288 := hc_309.at ha288 (xn1 (Ne.symm ne_289))
  have t0 : xC [h] H H := xC.rf
  have ge_q_1 : H.size ≤ q_1 := Nat.le_trans t0.1 (Nat.le_of_eq eq_4.symm)
  have t1 := t0.trz hc_3
  have t2 := t1.trn hc10 (Or.inr ge_q_1)
  have t3 := t2.trn hc_15 (Or.inl (List.mem_cons_self ..))
  have ge_q_17 : H.size ≤ q_17 := Nat.le_trans t3.1 (Nat.le_of_eq eq_20.symm)
  have t4 := t3.trz hc_19
  have t5 := t4.trn hc29 (Or.inr ge_q_17)
  have t6 := t5.trn hc_40 (Or.inl (List.mem_cons_self ..))
  have ge_q_42 : H.size ≤ q_42 := Nat.le_trans t6.1 (Nat.le_of_eq eq_45.symm)
  have t7 := t6.trz hc_44
  have t8 := t7.trn hc57 (Or.inr ge_q_42)
  have t9 := t8.trn hc_74 (Or.inl (List.mem_cons_self ..))
  have ge_q_76 : H.size ≤ q_76 := Nat.le_trans t9.1 (Nat.le_of_eq eq_79.symm)
  have t10 := t9.trz hc_78
  have t11 := t10.trn hc94 (Or.inr ge_q_76)
  have t12 := t11.trn hc_95 (Or.inl (List.mem_cons_self ..))
  have t13 := t12.trn hc_97 (Or.inl (List.mem_cons_self ..))
  have ge_q_99 : H.size ≤ q_99 := Nat.le_trans t13.1 (Nat.le_of_eq eq_102.symm)
  have t14 := t13.trz hc_101
  have t15 := t14.trn hc118 (Or.inr ge_q_99)
  have t16 := t15.trn hc_131 (Or.inl (List.mem_cons_self ..))
  have ge_q_133 : H.size ≤ q_133 := Nat.le_trans t16.1 (Nat.le_of_eq eq_136.symm)
  have t17 := t16.trz hc_135
  have t18 := t17.trn hc154 (Or.inr ge_q_133)
  have t19 := t18.trn hc_169 (Or.inl (List.mem_cons_self ..))
  have t20 := t19.trn hc_171 (Or.inl (List.mem_cons_self ..))
  have ge_q_173 : H.size ≤ q_173 := Nat.le_trans t20.1 (Nat.le_of_eq eq_176.symm)
  have t21 := t20.trz hc_175
  have t22 := t21.trn hc196 (Or.inr ge_q_173)
  have t23 := t22.trn hc_213 (Or.inl (List.mem_cons_self ..))
  have ge_q_215 : H.size ≤ q_215 := Nat.le_trans t23.1 (Nat.le_of_eq eq_218.symm)
  have t24 := t23.trz hc_217
  have t25 := t24.trn hc240 (Or.inr ge_q_215)
  have t26 := t25.trn hc_259 (Or.inl (List.mem_cons_self ..))
  have ge_q_261 : H.size ≤ q_261 := Nat.le_trans t26.1 (Nat.le_of_eq eq_264.symm)
  have t27 := t26.trz hc_263
  have t28 := t27.trn hc288 (Or.inr ge_q_261)
  have t29 := t28.trn hc_309 (Or.inl (List.mem_cons_self ..))
  have gen_pr10 : H.size ≤ pr10 := Nat.le_trans u_q_1.1 hz110
  have gen_pa10 : H.size ≤ pa10 := Nat.le_trans u_q_1.1 hz210
  have gen_pr29 : H.size ≤ pr29 := Nat.le_trans u_q_17.1 hz129
  have gen_pa29 : H.size ≤ pa29 := Nat.le_trans u_q_17.1 hz229
  have gen_sr57 : H.size ≤ sr57 := Nat.le_trans u_q_42.1 hz157
  have gen_sa57 : H.size ≤ sa57 := Nat.le_trans u_q_42.1 hz257
  have gen_qa118 : H.size ≤ qa118 := Nat.le_trans u_q_99.1 hqa118
  have gen_qa154 : H.size ≤ qa154 := Nat.le_trans u_q_133.1 hqa154
  have gen_qa196 : H.size ≤ qa196 := Nat.le_trans u_q_173.1 hqa196
  have gen_qa240 : H.size ≤ qa240 := Nat.le_trans u_q_215.1 hqa240
  have gen_qa288 : H.size ≤ qa288 := Nat.le_trans u_q_261.1 hqa288
  have neE_ : ∀ {q}, H.size ≤ q → q ≠ xE G := fun hq z => by have := hE; omega
  have hnd : xnd [h, q_1, pr10, pa10, q_17, pr29, pa29, q_42, sr57, sa57, q_76, (xE G), q_99, qa118, q_133, qa154, q_173, qa196, q_215, qa240, q_261, qa288] := ⟨⟨ne_7, ne_11, ne_13, ne_23, ne_30, ne_35, ne_48, ne_58, ne_66, ne_82, neE, ne_105, ne_119, ne_139, ne_155, ne_179, ne_197, ne_221, ne_241, ne_267, ne_289, trivial⟩, ⟨m110, m210, ne_24, ne_31, ne_36, ne_49, ne_59, ne_67, ne_83, (neE_ ge_q_1), ne_106, ne_120, ne_140, ne_156, ne_180, ne_198, ne_222, ne_242, ne_268, ne_290, trivial⟩, ⟨m310, ne_25, ne_32, ne_37, ne_50, ne_60, ne_68, ne_84, (neE_ gen_pr10), ne_107, ne_121, ne_141, ne_157, ne_181, ne_199, ne_223, ne_243, ne_269, ne_291, trivial⟩, ⟨ne_26, ne_33, ne_38, ne_51, ne_61, ne_69, ne_85, (neE_ gen_pa10), ne_108, ne_122, ne_142, ne_158, ne_182, ne_200, ne_224, ne_244, ne_270, ne_292, trivial⟩, ⟨m129, m229, ne_52, ne_62, ne_70, ne_86, (neE_ ge_q_17), ne_109, ne_123, ne_143, ne_159, ne_183, ne_201, ne_225, ne_245, ne_271, ne_293, trivial⟩, ⟨m329, ne_53, ne_63, ne_71, ne_87, (neE_ gen_pr29), ne_110, ne_124, ne_144, ne_160, ne_184, ne_202, ne_226, ne_246, ne_272, ne_294, trivial⟩, ⟨ne_54, ne_64, ne_72, ne_88, (neE_ gen_pa29), ne_111, ne_125, ne_145, ne_161, ne_185, ne_203, ne_227, ne_247, ne_273, ne_295, trivial⟩, ⟨m157, m257, ne_89, (neE_ ge_q_42), ne_112, ne_126, ne_146, ne_162, ne_186, ne_204, ne_228, ne_248, ne_274, ne_296, trivial⟩, ⟨m357, ne_90, (neE_ gen_sr57), ne_113, ne_127, ne_147, ne_163, ne_187, ne_205, ne_229, ne_249, ne_275, ne_297, trivial⟩, ⟨ne_91, (neE_ gen_sa57), ne_114, ne_128, ne_148, ne_164, ne_188, ne_206, ne_230, ne_250, ne_276, ne_298, trivial⟩, ⟨(neE_ ge_q_76), ne_115, ne_129, ne_149, ne_165, ne_189, ne_207, ne_231, ne_251, ne_277, ne_299, trivial⟩, ⟨(Ne.symm (neE_ ge_q_99)), (Ne.symm (neE_ gen_qa118)), (Ne.symm (neE_ ge_q_133)), (Ne.symm (neE_ gen_qa154)), (Ne.symm (neE_ ge_q_173)), (Ne.symm (neE_ gen_qa196)), (Ne.symm (neE_ ge_q_215)), (Ne.symm (neE_ gen_qa240)), (Ne.symm (neE_ ge_q_261)), (Ne.symm (neE_ gen_qa288)), trivial⟩, ⟨ne_130, ne_150, ne_166, ne_190, ne_208, ne_232, ne_252, ne_278, ne_300, trivial⟩, ⟨ne_151, ne_167, ne_191, ne_209, ne_233, ne_253, ne_279, ne_301, trivial⟩, ⟨ne_168, ne_192, ne_210, ne_234, ne_254, ne_280, ne_302, trivial⟩, ⟨ne_193, ne_211, ne_235, ne_255, ne_281, ne_303, trivial⟩, ⟨ne_212, ne_236, ne_256, ne_282, ne_304, trivial⟩, ⟨ne_237, ne_257, ne_283, ne_305, trivial⟩, ⟨ne_258, ne_284, ne_306, trivial⟩, ⟨ne_285, ne_307, trivial⟩, ⟨ne_308, trivial⟩, trivial, trivial⟩
  have hOz : zown G (fun j => ([h, q_1, pr10, pa10, q_17, pr29, pa29, q_42, sr57, sa57, q_76, (xE G), q_99, qa118, q_133, qa154, q_173, qa196, q_215, qa240, q_261, qa288] : List Nat).getD j 0) (22 + 6 * 0) := ⟨fun i j hi hj e => xnd_get hnd hi hj e, fun i hi h11 => by
    rcases (show i = 0 ∨ i = 1 ∨ i = 2 ∨ i = 3 ∨ i = 4 ∨ i = 5 ∨ i = 6 ∨ i = 7 ∨ i = 8 ∨ i = 9 ∨ i = 10 ∨ i = 11 ∨ i = 12 ∨ i = 13 ∨ i = 14 ∨ i = 15 ∨ i = 16 ∨ i = 17 ∨ i = 18 ∨ i = 19 ∨ i = 20 ∨ i = 21 by omega) with rfl | rfl | rfl | rfl | rfl | rfl | rfl | rfl | rfl | rfl | rfl | rfl | rfl | rfl | rfl | rfl | rfl | rfl | rfl | rfl | rfl | rfl
    · exact hA_h
    · exact hA_q_1
    · exact hA_pr10
    · exact hA_pa10
    · exact hA_q_17
    · exact hA_pr29
    · exact hA_pa29
    · exact hA_q_42
    · exact hA_sr57
    · exact hA_sa57
    · exact hA_q_76
    · exact absurd rfl h11
    · exact hA_q_99
    · exact hA_qa118
    · exact hA_q_133
    · exact hA_qa154
    · exact hA_q_173
    · exact hA_qa196
    · exact hA_q_215
    · exact hA_qa240
    · exact hA_q_261
    · exact hA_qa288⟩
  have hXS : XS G (fun j => ([h, q_1, pr10, pa10, q_17, pr29, pa29, q_42, sr57, sa57, q_76, (xE G), q_99, qa118, q_133, qa154, q_173, qa196, q_215, qa240, q_261, qa288] : List Nat).getD j 0) z0 H_310 := ⟨hOz, ⟨nI 0, zbits_zero, hh0⟩, ⟨fun _ => 0, ⟨hpx10, hpy10, hpz10, Nat.zero_le _, m110, m210, m310, fun _ => Nat.zero_le _⟩, fun k hk => absurd hk (Nat.not_lt_zero k)⟩, ⟨fun _ => 0, 0, ⟨hpx29, hpy29, hpz29, Nat.zero_le _, m129, m229, m329, fun _ => Nat.zero_le _⟩⟩, ⟨fun _ => 0, 0, ⟨hsx57, hsy57, hsz57, Nat.zero_le _, m157, m257, m357⟩⟩, ⟨nI 0, 0, fun _ => none, ⟨hl94, Nat.le_refl _, by decide, Or.inl ⟨rfl, rfl⟩⟩, fun i hi => absurd hi (Nat.not_lt_zero i)⟩, ⟨_, _, hn118, ha118, hn154, ha154, fun j hj => absurd hj (Nat.not_lt_zero j)⟩, ⟨_, hn196, ha196⟩, ⟨_, hn240, ha240⟩, ⟨_, hn288, ha288⟩, ⟨fun _ => 0, ⟨fun i hi => absurd hi (Nat.not_lt_zero i), fun i j hi => absurd hi (Nat.not_lt_zero i)⟩, fun i hi => absurd hi (Nat.not_lt_zero i)⟩⟩
  exact x_vret (G := G) hx hb hr dX4_init_123 hlocks hS (by first | exact Nat.le_of_ble_eq_true rfl | exact (show 0 + 1 + 2 + 1 + 2 + 1 + 2 + 1 + 1 + 1 + 1 + 1 + 1 + 1 + 1 + 1 + 1 + 1 ≤ 60 by omega)) (by first | exact Nat.le_of_ble_eq_true rfl | exact (show 0 + 3 + 101 + 3 + 101 + 2 + 101 + 3 + 1 + 100 + 1 + 100 + 1 + 100 + 1 + 100 + 1 + 100 ≤ 1500 by omega)) ⟨rfl, _, rfl, hXS, t29⟩
