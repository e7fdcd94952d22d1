/-! new BidwhistleModel() -/
def z1 : zS := (0, fun _ => 0, fun _ _ => 0, fun _ => 1, fun _ => 1, fun _ => false, fun _ => false, 0, fun _ => 0, fun _ => 0)
theorem zW_1 : zW z1 := ⟨Nat.zero_le _, fun _ => Nat.zero_le _, fun _ _ => Nat.zero_le _, fun _ h => absurd h (Nat.not_lt_zero _), fun _ h => absurd h (Nat.not_lt_zero _), fun _ _ _ h => absurd h (Nat.not_lt_zero _), Nat.zero_le _, Nat.zero_le _, fun _ => ⟨Nat.zero_le _, Nat.zero_le _⟩⟩
theorem mpa_z : mpa (zU z1) (zV z1) = fun _ => 0 := by funext k; unfold mpa; split <;> rfl
def zne (a : Nat) : List Nat → Prop
  | [] => True
  | b :: l => a ≠ b ∧ zne a l
def znd : List Nat → Prop
  | [] => True
  | a :: l => zne a l ∧ znd l
theorem zne_get {a : Nat} : ∀ {l : List Nat} {j : Nat}, zne a l → j < l.length → a ≠ l.getD j 0
  | [], j, _, hj => absurd hj (Nat.not_lt_zero j)
  | b :: l, 0, h, _ => h.1
  | b :: l, j + 1, h, hj => zne_get (l := l) (j := j) h.2 (Nat.lt_of_succ_lt_succ hj)
theorem znd_get : ∀ {l : List Nat} {i j : Nat}, znd l → i < l.length → j < l.length → l.getD i 0 = l.getD j 0 → i = j
  | [], i, j, _, hi, _, _ => absurd hi (Nat.not_lt_zero i)
  | b :: l, 0, 0, _, _, _, _ => rfl
  | b :: l, 0, j + 1, h, _, hj, e => absurd e (zne_get (l := l) (j := j) h.1 (Nat.lt_of_succ_lt_succ hj))
  | b :: l, i + 1, 0, h, hi, _, e => absurd e.symm (zne_get (l := l) (j := i) h.1 (Nat.lt_of_succ_lt_succ hi))
  | b :: l, i + 1, j + 1, h, hi, hj, e => congrArg (· + 1) (znd_get (l := l) (i := i) (j := j) h.2 (Nat.lt_of_succ_lt_succ hi) (Nat.lt_of_succ_lt_succ hj) e)
theorem xC.tro {L : List Nat} {q : Nat} {H H1 H2 : Heap} (h : xC L H H1) (h2 : xC [q] H1 H2) (hq : q ∈ L ∨ H.size ≤ q) : xC L H H2 := ⟨Nat.le_trans h.1 h2.1, fun r hr hn => (h2.2 r (Nat.lt_of_lt_of_le hr h.1) (xn1 (fun z => by subst z; rcases hq with c | c; exact hn c; omega))).trans (h.2 r hr hn)⟩
theorem xC.tr0 {L : List Nat} {H H1 H2 : Heap} (h : xC L H H1) (h2 : xC [] H1 H2) : xC L H H2 := ⟨Nat.le_trans h.1 h2.1, fun r hr hn => (h2.2 r (Nat.lt_of_lt_of_le hr h.1) (fun z => nomatch z)).trans (h.2 r hr hn)⟩
set_option maxHeartbeats 400000 in
set_option maxRecDepth 100000 in
/-- new BidwhistleModel() -/
theorem c_X5_init (l : Launch) (hfl : l.stackTraces = false) (G : xG) (h : Nat) (H : Heap) (hh0 : oA G h 6 [.null, .null, .int 0, .null, .null, .null, .int 0, .null, .null, .null, .int 0, .null, .null, .int 0] H) (hA_h : xA G h) : xMet l G yX5_init wsX5_init ({ frames := 1, cells := 10, slots := 305, locals := 20 } : Room) [.ref h] H (fun v H1 => v = none ∧ ∃ ad : Nat → Nat, ad 0 = h ∧ MX G ad z1 0 0 (fun _ => 0) (fun _ => 0) (fun _ => false) H1 ∧ (∀ i, i < 11 → ad i = h ∨ H.size ≤ ad i) ∧ xC [h] H H1) (xNo) := by
  refine vx_ofW (cc := cX5_init) (maxL := 1) (ret := none) (by decide) rfl ?_
  intro Pg Ev s m args below meth c s₁ B hml hout hv
  obtain ⟨rfl, hH, hC⟩ := hv
  have hx := B.exec
  have hb := B.bytes
  have hr := B.returns
  have hts := atoms_spec (ws := wsX5_init) B.pre
  have hown : s.vm.findClass RX5 = some m.cls := findClass_of_methodNamed B.named
  have hlocks := B.notSynchronized
  have hin : meth.name = "<init>" := (name_of_methodNamed B.named B.method).1
  rw [hH]
  have hS : va_S (xA G) s.heap H [] := by rw [← hH]; exact va_S.rf
  generalize ([] : List Loc) = locs at hS ⊢
  have hl := lv_entry [.ref h] (n := 1) (Nat.le_of_ble_eq_true rfl)
  rw [lg_entry_eq]
  generalize (lg_sl [.ref h] ++ List.replicate (1 - (lg_sl [.ref h]).length) Slot.unset).toArray = ls at hl ⊢
  have hl : lv_has ls 1 [(0, .ref h)] := hl
  refine lv_aload_n hx hb dX5_init_0 rfl (lv_at hl 0 rfl) ?_
  refine W.objInit hx hb hown (hts (.methodLink RX5 1 objectInit) (by decide +kernel)) (hts (.instanceMethod objectInit) (by decide +kernel)) (hts (.code objectInit ⟨#[0xb1]⟩ 1 none) (by decide +kernel)) rfl (by rw [hml]; exact hl.1) rfl dX5_init_1 (Nat.le_of_ble_eq_true rfl) (Nat.le_of_ble_eq_true rfl) ?_
  refine W.eq (g2 := F0 m 4 ls []) rfl ?_
  refine lv_aload_n hx hb dX5_init_4 rfl (lv_at hl 0 rfl) ?_
  refine lv_sipush (v := (nI 147)) hx hb dX5_init_5 (by decide) ?_
  have hsz := hS.1
  refine x_newI (G := G) (N' := 147) hx hb (hts (.arrayClass .int) (by decide +kernel)) hC hS (nI_pos (by omega)) (nI_clamp (by omega)) (by first | decide | (simp [componentBytes]; omega)) (by first | exact Nat.le_of_ble_eq_true rfl | exact (show 0 + 1 ≤ 10 by omega)) (by first | exact Nat.le_of_ble_eq_true rfl | exact (show 0 + 147 ≤ 305 by omega)) dX5_init_8 (fun q_1 H_6 eq_4 ha_2 hc_3 hz_5 hS => ?_)
  have hA_q_1 : xA G q_1 := hC.2.2.1 _ (by rw [eq_4]; exact hsz)
  have ne_7 : h ≠ q_1 := xlt hh0 eq_4
  have hh0 := hc_3.at0 hh0
  refine x_putF (G := G) (ci := 6) (v := .ref q_1) (ty := (.array .int)) (C := RX5) (T := TX5) (N := 14) hx hb hts (by decide +kernel) tyX5 tyX5_ok nmX5 hown hC hS hA_h hh0 rfl 0 (by decide) (hts (.fieldLink RX5 7 "BidwhistleModel" "steps" "[I") (by decide +kernel)) (fun _ h9 => h9) rfl hin rfl (by decide +kernel) rfl rfl (Nat.le_of_ble_eq_true rfl) dX5_init_10 (fun H_9 locs hh0 hc_8 hS => ?_)
  have hh0 : oA G h 6 [.ref q_1, .null, .int 0, .null, .null, .null, .int 0, .null, .null, .null, .int 0, .null, .null, .int 0] H_9 := hh0
  have ha_2 := hc_8.at ha_2 (xn1 (Ne.symm ne_7))
  refine lv_aload_n hx hb dX5_init_13 rfl (lv_at hl 0 rfl) ?_
  refine lv_bipush (v := (nI 21)) hx hb dX5_init_14 (by decide) ?_
  have hsz := hS.1
  refine x_newI (G := G) (N' := 21) hx hb (hts (.arrayClass .int) (by decide +kernel)) hC hS (nI_pos (by omega)) (nI_clamp (by omega)) (by first | decide | (simp [componentBytes]; omega)) (by first | exact Nat.le_of_ble_eq_true rfl | exact (show 0 + 1 + 1 ≤ 10 by omega)) (by first | exact Nat.le_of_ble_eq_true rfl | exact (show 0 + 147 + 21 ≤ 305 by omega)) dX5_init_16 (fun q_10 H_15 eq_13 ha_11 hc_12 hz_14 hS => ?_)
  have hA_q_10 : xA G q_10 := hC.2.2.1 _ (by rw [eq_13]; exact hsz)
  have ne_16 : h ≠ q_10 := xlt hh0 eq_13
  have ne_17 : q_1 ≠ q_10 := xlt ha_2 eq_13
  have hh0 := hc_12.at0 hh0
  have ha_2 := hc_12.at0 ha_2
  refine x_putF (G := G) (ci := 6) (v := .ref q_10) (ty := (.array .int)) (C := RX5) (T := TX5) (N := 14) hx hb hts (by decide +kernel) tyX5 tyX5_ok nmX5 hown hC hS hA_h hh0 rfl 1 (by decide) (hts (.fieldLink RX5 13 "BidwhistleModel" "lengths" "[I") (by decide +kernel)) (fun _ h9 => h9) rfl hin rfl (by decide +kernel) rfl rfl (Nat.le_of_ble_eq_true rfl) dX5_init_18 (fun H_19 locs hh0 hc_18 hS => ?_)
  have hh0 : oA G h 6 [.ref q_1, .ref q_10, .int 0, .null, .null, .null, .int 0, .null, .null, .null, .int 0, .null, .null, .int 0] H_19 := hh0
  have ha_2 := hc_18.at ha_2 (xn1 (Ne.symm ne_7))
  have ha_11 := hc_18.at ha_11 (xn1 (Ne.symm ne_16))
  refine lv_aload_n hx hb dX5_init_21 rfl (lv_at hl 0 rfl) ?_
  refine lv_bipush (v := (nI 40)) hx hb dX5_init_22 (by decide) ?_
  have hsz := hS.1
  refine x_newI (G := G) (N' := 40) hx hb (hts (.arrayClass .int) (by decide +kernel)) hC hS (nI_pos (by omega)) (nI_clamp (by omega)) (by first | decide | (simp [componentBytes]; omega)) (by first | exact Nat.le_of_ble_eq_true rfl | exact (show 0 + 1 + 1 + 1 ≤ 10 by omega)) (by first | exact Nat.le_of_ble_eq_true rfl | exact (show 0 + 147 + 21 + 40 ≤ 305 by omega)) dX5_init_24 (fun q_20 H_25 eq_23 ha_21 hc_22 hz_24 hS => ?_)
  have hA_q_20 : xA G q_20 := hC.2.2.1 _ (by rw [eq_23]; exact hsz)
  have ne_26 : h ≠ q_20 := xlt hh0 eq_23
  have ne_27 : q_1 ≠ q_20 := xlt ha_2 eq_23
  have ne_28 : q_10 ≠ q_20 := xlt ha_11 eq_23
  have hh0 := hc_22.at0 hh0
  have ha_2 := hc_22.at0 ha_2
  have ha_11 := hc_22.at0 ha_11
  refine x_putF (G := G) (ci := 6) (v := .ref q_20) (ty := (.array .int)) (C := RX5) (T := TX5) (N := 14) hx hb hts (by decide +kernel) tyX5 tyX5_ok nmX5 hown hC hS hA_h hh0 rfl 3 (by decide) (hts (.fieldLink RX5 16 "BidwhistleModel" "parents" "[I") (by decide +kernel)) (fun _ h9 => h9) rfl hin rfl (by decide +kernel) rfl rfl (Nat.le_of_ble_eq_true rfl) dX5_init_26 (fun H_30 locs hh0 hc_29 hS => ?_)
  have hh0 : oA G h 6 [.ref q_1, .ref q_10, .int 0, .ref q_20, .null, .null, .int 0, .null, .null, .null, .int 0, .null, .null, .int 0] H_30 := hh0
  have ha_2 := hc_29.at ha_2 (xn1 (Ne.symm ne_7))
  have ha_11 := hc_29.at ha_11 (xn1 (Ne.symm ne_16))
  have ha_21 := hc_29.at ha_21 (xn1 (Ne.symm ne_26))
  refine lv_aload_n hx hb dX5_init_29 rfl (lv_at hl 0 rfl) ?_
  refine lv_bipush (v := (nI 20)) hx hb dX5_init_30 (by decide) ?_
  have hsz := hS.1
  refine x_newZ (G := G) (N' := 20) hx hb (hts (.arrayClass .boolean) (by decide +kernel)) hC hS (nI_pos (by omega)) (nI_clamp (by omega)) (by first | decide | (simp [componentBytes]; omega)) (by first | exact Nat.le_of_ble_eq_true rfl | exact (show 0 + 1 + 1 + 1 + 1 ≤ 10 by omega)) (by first | exact Nat.le_of_ble_eq_true rfl | exact (show 0 + 147 + 21 + 40 + 20 ≤ 305 by omega)) dX5_init_32 (fun q_31 H_36 eq_34 ha_32 hc_33 hz_35 hS => ?_)
  have hA_q_31 : xA G q_31 := hC.2.2.1 _ (by rw [eq_34]; exact hsz)
  have ne_37 : h ≠ q_31 := xlt hh0 eq_34
  have ne_38 : q_1 ≠ q_31 := xlt ha_2 eq_34
  have ne_39 : q_10 ≠ q_31 := xlt ha_11 eq_34
  have ne_40 : q_20 ≠ q_31 := xlt ha_21 eq_34
  have hh0 := hc_33.at0 hh0
  have ha_2 := hc_33.at0 ha_2
  have ha_11 := hc_33.at0 ha_11
  have ha_21 := hc_33.at0 ha_21
  refine x_putF (G := G) (ci := 6) (v := .ref q_31) (ty := (.array .boolean)) (C := RX5) (T := TX5) (N := 14) hx hb hts (by decide +kernel) tyX5 tyX5_ok nmX5 hown hC hS hA_h hh0 rfl 4 (by decide) (hts (.fieldLink RX5 19 "BidwhistleModel" "isIn" "[Z") (by decide +kernel)) (fun _ h9 => h9) rfl hin rfl (by decide +kernel) rfl rfl (Nat.le_of_ble_eq_true rfl) dX5_init_34 (fun H_42 locs hh0 hc_41 hS => ?_)
  have hh0 : oA G h 6 [.ref q_1, .ref q_10, .int 0, .ref q_20, .ref q_31, .null, .int 0, .null, .null, .null, .int 0, .null, .null, .int 0] H_42 := hh0
  have ha_2 := hc_41.at ha_2 (xn1 (Ne.symm ne_7))
  have ha_11 := hc_41.at ha_11 (xn1 (Ne.symm ne_16))
  have ha_21 := hc_41.at ha_21 (xn1 (Ne.symm ne_26))
  have ha_32 := hc_41.at ha_32 (xn1 (Ne.symm ne_37))
  refine lv_aload_n hx hb dX5_init_37 rfl (lv_at hl 0 rfl) ?_
  refine lv_bipush (v := (nI 17)) hx hb dX5_init_38 (by decide) ?_
  have hsz := hS.1
  refine x_newZ (G := G) (N' := 17) hx hb (hts (.arrayClass .boolean) (by decide +kernel)) hC hS (nI_pos (by omega)) (nI_clamp (by omega)) (by first | decide | (simp [componentBytes]; omega)) (by first | exact Nat.le_of_ble_eq_true rfl | exact (show 0 + 1 + 1 + 1 + 1 + 1 ≤ 10 by omega)) (by first | exact Nat.le_of_ble_eq_true rfl | exact (show 0 + 147 + 21 + 40 + 20 + 17 ≤ 305 by omega)) dX5_init_40 (fun q_43 H_48 eq_46 ha_44 hc_45 hz_47 hS => ?_)
  have hA_q_43 : xA G q_43 := hC.2.2.1 _ (by rw [eq_46]; exact hsz)
  have ne_49 : h ≠ q_43 := xlt hh0 eq_46
  have ne_50 : q_1 ≠ q_43 := xlt ha_2 eq_46
  have ne_51 : q_10 ≠ q_43 := xlt ha_11 eq_46
  have ne_52 : q_20 ≠ q_43 := xlt ha_21 eq_46
  have ne_53 : q_31 ≠ q_43 := xlt ha_32 eq_46
  have hh0 := hc_45.at0 hh0
  have ha_2 := hc_45.at0 ha_2
  have ha_11 := hc_45.at0 ha_11
  have ha_21 := hc_45.at0 ha_21
  have ha_32 := hc_45.at0 ha_32
  refine x_putF (G := G) (ci := 6) (v := .ref q_43) (ty := (.array .boolean)) (C := RX5) (T := TX5) (N := 14) hx hb hts (by decide +kernel) tyX5 tyX5_ok nmX5 hown hC hS hA_h hh0 rfl 5 (by decide) (hts (.fieldLink RX5 23 "BidwhistleModel" "isForbidden" "[Z") (by decide +kernel)) (fun _ h9 => h9) rfl hin rfl (by decide +kernel) rfl rfl (Nat.le_of_ble_eq_true rfl) dX5_init_42 (fun H_55 locs hh0 hc_54 hS => ?_)
  have hh0 : oA G h 6 [.ref q_1, .ref q_10, .int 0, .ref q_20, .ref q_31, .ref q_43, .int 0, .null, .null, .null, .int 0, .null, .null, .int 0] H_55 := hh0
  have ha_2 := hc_54.at ha_2 (xn1 (Ne.symm ne_7))
  have ha_11 := hc_54.at ha_11 (xn1 (Ne.symm ne_16))
  have ha_21 := hc_54.at ha_21 (xn1 (Ne.symm ne_26))
  have ha_32 := hc_54.at ha_32 (xn1 (Ne.symm ne_37))
  have ha_44 := hc_54.at ha_44 (xn1 (Ne.symm ne_49))
  refine lv_aload_n hx hb dX5_init_45 rfl (lv_at hl 0 rfl) ?_
  refine lv_bipush (v := (nI 6)) hx hb dX5_init_46 (by decide) ?_
  have hsz := hS.1
  refine x_newI (G := G) (N' := 6) hx hb (hts (.arrayClass .int) (by decide +kernel)) hC hS (nI_pos (by omega)) (nI_clamp (by omega)) (by first | decide | (simp [componentBytes]; omega)) (by first | exact Nat.le_of_ble_eq_true rfl | exact (show 0 + 1 + 1 + 1 + 1 + 1 + 1 ≤ 10 by omega)) (by first | exact Nat.le_of_ble_eq_true rfl | exact (show 0 + 147 + 21 + 40 + 20 + 17 + 6 ≤ 305 by omega)) dX5_init_48 (fun q_56 H_61 eq_59 ha_57 hc_58 hz_60 hS => ?_)
  have hA_q_56 : xA G q_56 := hC.2.2.1 _ (by rw [eq_59]; exact hsz)
  have ne_62 : h ≠ q_56 := xlt hh0 eq_59
  have ne_63 : q_1 ≠ q_56 := xlt ha_2 eq_59
  have ne_64 : q_10 ≠ q_56 := xlt ha_11 eq_59
  have ne_65 : q_20 ≠ q_56 := xlt ha_21 eq_59
  have ne_66 : q_31 ≠ q_56 := xlt ha_32 eq_59
  have ne_67 : q_43 ≠ q_56 := xlt ha_44 eq_59
  have hh0 := hc_58.at0 hh0
  have ha_2 := hc_58.at0 ha_2
  have ha_11 := hc_58.at0 ha_11
  have ha_21 := hc_58.at0 ha_21
  have ha_32 := hc_58.at0 ha_32
  have ha_44 := hc_58.at0 ha_44
  refine x_putF (G := G) (ci := 6) (v := .ref q_56) (ty := (.array .int)) (C := RX5) (T := TX5) (N := 14) hx hb hts (by decide +kernel) tyX5 tyX5_ok nmX5 hown hC hS hA_h hh0 rfl 7 (by decide) (hts (.fieldLink RX5 26 "BidwhistleModel" "ones" "[I") (by decide +kernel)) (fun _ h9 => h9) rfl hin rfl (by decide +kernel) rfl rfl (Nat.le_of_ble_eq_true rfl) dX5_init_50 (fun H_69 locs hh0 hc_68 hS => ?_)
  have hh0 : oA G h 6 [.ref q_1, .ref q_10, .int 0, .ref q_20, .ref q_31, .ref q_43, .int 0, .ref q_56, .null, .null, .int 0, .null, .null, .int 0] H_69 := hh0
  have ha_2 := hc_68.at ha_2 (xn1 (Ne.symm ne_7))
  have ha_11 := hc_68.at ha_11 (xn1 (Ne.symm ne_16))
  have ha_21 := hc_68.at ha_21 (xn1 (Ne.symm ne_26))
  have ha_32 := hc_68.at ha_32 (xn1 (Ne.symm ne_37))
  have ha_44 := hc_68.at ha_44 (xn1 (Ne.symm ne_49))
  have ha_57 := hc_68.at ha_57 (xn1 (Ne.symm ne_62))
  refine lv_aload_n hx hb dX5_init_53 rfl (lv_at hl 0 rfl) ?_
  refine lv_bipush (v := (nI 6)) hx hb dX5_init_54 (by decide) ?_
  have hsz := hS.1
  refine x_newI (G := G) (N' := 6) hx hb (hts (.arrayClass .int) (by decide +kernel)) hC hS (nI_pos (by omega)) (nI_clamp (by omega)) (by first | decide | (simp [componentBytes]; omega)) (by first | exact Nat.le_of_ble_eq_true rfl | exact (show 0 + 1 + 1 + 1 + 1 + 1 + 1 + 1 ≤ 10 by omega)) (by first | exact Nat.le_of_ble_eq_true rfl | exact (show 0 + 147 + 21 + 40 + 20 + 17 + 6 + 6 ≤ 305 by omega)) dX5_init_56 (fun q_70 H_75 eq_73 ha_71 hc_72 hz_74 hS => ?_)
  have hA_q_70 : xA G q_70 := hC.2.2.1 _ (by rw [eq_73]; exact hsz)
  have ne_76 : h ≠ q_70 := xlt hh0 eq_73
  have ne_77 : q_1 ≠ q_70 := xlt ha_2 eq_73
  have ne_78 : q_10 ≠ q_70 := xlt ha_11 eq_73
  have ne_79 : q_20 ≠ q_70 := xlt ha_21 eq_73
  have ne_80 : q_31 ≠ q_70 := xlt ha_32 eq_73
  have ne_81 : q_43 ≠ q_70 := xlt ha_44 eq_73
  have ne_82 : q_56 ≠ q_70 := xlt ha_57 eq_73
  have hh0 := hc_72.at0 hh0
  have ha_2 := hc_72.at0 ha_2
  have ha_11 := hc_72.at0 ha_11
  have ha_21 := hc_72.at0 ha_21
  have ha_32 := hc_72.at0 ha_32
  have ha_44 := hc_72.at0 ha_44
  have ha_57 := hc_72.at0 ha_57
  refine x_putF (G := G) (ci := 6) (v := .ref q_70) (ty := (.array .int)) (C := RX5) (T := TX5) (N := 14) hx hb hts (by decide +kernel) tyX5 tyX5_ok nmX5 hown hC hS hA_h hh0 rfl 8 (by decide) (hts (.fieldLink RX5 29 "BidwhistleModel" "twos" "[I") (by decide +kernel)) (fun _ h9 => h9) rfl hin rfl (by decide +kernel) rfl rfl (Nat.le_of_ble_eq_true rfl) dX5_init_58 (fun H_84 locs hh0 hc_83 hS => ?_)
  have hh0 : oA G h 6 [.ref q_1, .ref q_10, .int 0, .ref q_20, .ref q_31, .ref q_43, .int 0, .ref q_56, .ref q_70, .null, .int 0, .null, .null, .int 0] H_84 := hh0
  have ha_2 := hc_83.at ha_2 (xn1 (Ne.symm ne_7))
  have ha_11 := hc_83.at ha_11 (xn1 (Ne.symm ne_16))
  have ha_21 := hc_83.at ha_21 (xn1 (Ne.symm ne_26))
  have ha_32 := hc_83.at ha_32 (xn1 (Ne.symm ne_37))
  have ha_44 := hc_83.at ha_44 (xn1 (Ne.symm ne_49))
  have ha_57 := hc_83.at ha_57 (xn1 (Ne.symm ne_62))
  have ha_71 := hc_83.at ha_71 (xn1 (Ne.symm ne_76))
  refine lv_aload_n hx hb dX5_init_61 rfl (lv_at hl 0 rfl) ?_
  refine lv_bipush (v := (nI 8)) hx hb dX5_init_62 (by decide) ?_
  have hsz := hS.1
  refine x_newI (G := G) (N' := 8) hx hb (hts (.arrayClass .int) (by decide +kernel)) hC hS (nI_pos (by omega)) (nI_clamp (by omega)) (by first | decide | (simp [componentBytes]; omega)) (by first | exact Nat.le_of_ble_eq_true rfl | exact (show 0 + 1 + 1 + 1 + 1 + 1 + 1 + 1 + 1 ≤ 10 by omega)) (by first | exact Nat.le_of_ble_eq_true rfl | exact (show 0 + 147 + 21 + 40 + 20 + 17 + 6 + 6 + 8 ≤ 305 by omega)) dX5_init_64 (fun q_85 H_90 eq_88 ha_86 hc_87 hz_89 hS => ?_)
  have hA_q_85 : xA G q_85 := hC.2.2.1 _ (by rw [eq_88]; exact hsz)
  have ne_91 : h ≠ q_85 := xlt hh0 eq_88
  have ne_92 : q_1 ≠ q_85 := xlt ha_2 eq_88
  have ne_93 : q_10 ≠ q_85 := xlt ha_11 eq_88
  have ne_94 : q_20 ≠ q_85 := xlt ha_21 eq_88
  have ne_95 : q_31 ≠ q_85 := xlt ha_32 eq_88
  have ne_96 : q_43 ≠ q_85 := xlt ha_44 eq_88
  have ne_97 : q_56 ≠ q_85 := xlt ha_57 eq_88
  have ne_98 : q_70 ≠ q_85 := xlt ha_71 eq_88
  have hh0 := hc_87.at0 hh0
  have ha_2 := hc_87.at0 ha_2
  have ha_11 := hc_87.at0 ha_11
  have ha_21 := hc_87.at0 ha_21
  have ha_32 := hc_87.at0 ha_32
  have ha_44 := hc_87.at0 ha_44
  have ha_57 := hc_87.at0 ha_57
  have ha_71 := hc_87.at0 ha_71
  refine x_putF (G := G) (ci := 6) (v := .ref q_85) (ty := (.array .int)) (C := RX5) (T := TX5) (N := 14) hx hb hts (by decide +kernel) tyX5 tyX5_ok nmX5 hown hC hS hA_h hh0 rfl 9 (by decide) (hts (.fieldLink RX5 32 "BidwhistleModel" "stack" "[I") (by decide +kernel)) (fun _ h9 => h9) rfl hin rfl (by decide +kernel) rfl rfl (Nat.le_of_ble_eq_true rfl) dX5_init_66 (fun H_100 locs hh0 hc_99 hS => ?_)
  have hh0 : oA G h 6 [.ref q_1, .ref q_10, .int 0, .ref q_20, .ref q_31, .ref q_43, .int 0, .ref q_56, .ref q_70, .ref q_85, .int 0, .null, .null, .int 0] H_100 := hh0
  have ha_2 := hc_99.at ha_2 (xn1 (Ne.symm ne_7))
  have ha_11 := hc_99.at ha_11 (xn1 (Ne.symm ne_16))
  have ha_21 := hc_99.at ha_21 (xn1 (Ne.symm ne_26))
  have ha_32 := hc_99.at ha_32 (xn1 (Ne.symm ne_37))
  have ha_44 := hc_99.at ha_44 (xn1 (Ne.symm ne_49))
  have ha_57 := hc_99.at ha_57 (xn1 (Ne.symm ne_62))
  have ha_71 := hc_99.at ha_71 (xn1 (Ne.symm ne_76))
  have ha_86 := hc_99.at ha_86 (xn1 (Ne.symm ne_91))
  refine lv_aload_n hx hb dX5_init_69 rfl (lv_at hl 0 rfl) ?_
  refine lv_bipush (v := (nI 20)) hx hb dX5_init_70 (by decide) ?_
  have hsz := hS.1
  refine x_newI (G := G) (N' := 20) hx hb (hts (.arrayClass .int) (by decide +kernel)) hC hS (nI_pos (by omega)) (nI_clamp (by omega)) (by first | decide | (simp [componentBytes]; omega)) (by first | exact Nat.le_of_ble_eq_true rfl | exact (show 0 + 1 + 1 + 1 + 1 + 1 + 1 + 1 + 1 + 1 ≤ 10 by omega)) (by first | exact Nat.le_of_ble_eq_true rfl | exact (show 0 + 147 + 21 + 40 + 20 + 17 + 6 + 6 + 8 + 20 ≤ 305 by omega)) dX5_init_72 (fun q_101 H_106 eq_104 ha_102 hc_103 hz_105 hS => ?_)
  have hA_q_101 : xA G q_101 := hC.2.2.1 _ (by rw [eq_104]; exact hsz)
  have ne_107 : h ≠ q_101 := xlt hh0 eq_104
  have ne_108 : q_1 ≠ q_101 := xlt ha_2 eq_104
  have ne_109 : q_10 ≠ q_101 := xlt ha_11 eq_104
  have ne_110 : q_20 ≠ q_101 := xlt ha_21 eq_104
  have ne_111 : q_31 ≠ q_101 := xlt ha_32 eq_104
  have ne_112 : q_43 ≠ q_101 := xlt ha_44 eq_104
  have ne_113 : q_56 ≠ q_101 := xlt ha_57 eq_104
  have ne_114 : q_70 ≠ q_101 := xlt ha_71 eq_104
  have ne_115 : q_85 ≠ q_101 := xlt ha_86 eq_104
  have hh0 := hc_103.at0 hh0
  have ha_2 := hc_103.at0 ha_2
  have ha_11 := hc_103.at0 ha_11
  have ha_21 := hc_103.at0 ha_21
  have ha_32 := hc_103.at0 ha_32
  have ha_44 := hc_103.at0 ha_44
  have ha_57 := hc_103.at0 ha_57
  have ha_71 := hc_103.at0 ha_71
  have ha_86 := hc_103.at0 ha_86
  refine x_putF (G := G) (ci := 6) (v := .ref q_101) (ty := (.array .int)) (C := RX5) (T := TX5) (N := 14) hx hb hts (by decide +kernel) tyX5 tyX5_ok nmX5 hown hC hS hA_h hh0 rfl 11 (by decide) (hts (.fieldLink RX5 35 "BidwhistleModel" "worths" "[I") (by decide +kernel)) (fun _ h9 => h9) rfl hin rfl (by decide +kernel) rfl rfl (Nat.le_of_ble_eq_true rfl) dX5_init_74 (fun H_117 locs hh0 hc_116 hS => ?_)
  have hh0 : oA G h 6 [.ref q_1, .ref q_10, .int 0, .ref q_20, .ref q_31, .ref q_43, .int 0, .ref q_56, .ref q_70, .ref q_85, .int 0, .ref q_101, .null, .int 0] H_117 := hh0
  have ha_2 := hc_116.at ha_2 (xn1 (Ne.symm ne_7))
  have ha_11 := hc_116.at ha_11 (xn1 (Ne.symm ne_16))
  have ha_21 := hc_116.at ha_21 (xn1 (Ne.symm ne_26))
  have ha_32 := hc_116.at ha_32 (xn1 (Ne.symm ne_37))
  have ha_44 := hc_116.at ha_44 (xn1 (Ne.symm ne_49))
  have ha_57 := hc_116.at ha_57 (xn1 (Ne.symm ne_62))
  have ha_71 := hc_116.at ha_71 (xn1 (Ne.symm ne_76))
  have ha_86 := hc_116.at ha_86 (xn1 (Ne.symm ne_91))
  have ha_102 := hc_116.at ha_102 (xn1 (Ne.symm ne_107))
  refine lv_aload_n hx hb dX5_init_77 rfl (lv_at hl 0 rfl) ?_
  refine lv_bipush (v := (nI 20)) hx hb dX5_init_78 (by decide) ?_
  have hsz := hS.1
  refine x_newZ (G := G) (N' := 20) hx hb (hts (.arrayClass .boolean) (by decide +kernel)) hC hS (nI_pos (by omega)) (nI_clamp (by omega)) (by first | decide | (simp [componentBytes]; omega)) (by first | exact Nat.le_of_ble_eq_true rfl | exact (show 0 + 1 + 1 + 1 + 1 + 1 + 1 + 1 + 1 + 1 + 1 ≤ 10 by omega)) (by first | exact Nat.le_of_ble_eq_true rfl | exact (show 0 + 147 + 21 + 40 + 20 + 17 + 6 + 6 + 8 + 20 + 20 ≤ 305 by omega)) dX5_init_80 (fun q_118 H_123 eq_121 ha_119 hc_120 hz_122 hS => ?_)
  have hA_q_118 : xA G q_118 := hC.2.2.1 _ (by rw [eq_121]; exact hsz)
  have ne_124 : h ≠ q_118 := xlt hh0 eq_121
  have ne_125 : q_1 ≠ q_118 := xlt ha_2 eq_121
  have ne_126 : q_10 ≠ q_118 := xlt ha_11 eq_121
  have ne_127 : q_20 ≠ q_118 := xlt ha_21 eq_121
  have ne_128 : q_31 ≠ q_118 := xlt ha_32 eq_121
  have ne_129 : q_43 ≠ q_118 := xlt ha_44 eq_121
  have ne_130 : q_56 ≠ q_118 := xlt ha_57 eq_121
  have ne_131 : q_70 ≠ q_118 := xlt ha_71 eq_121
  have ne_132 : q_85 ≠ q_118 := xlt ha_86 eq_121
  have ne_133 : q_101 ≠ q_118 := xlt ha_102 eq_121
  have hh0 := hc_120.at0 hh0
  have ha_2 := hc_120.at0 ha_2
  have ha_11 := hc_120.at0 ha_11
  have ha_21 := hc_120.at0 ha_21
  have ha_32 := hc_120.at0 ha_32
  have ha_44 := hc_120.at0 ha_44
  have ha_57 := hc_120.at0 ha_57
  have ha_71 := hc_120.at0 ha_71
  have ha_86 := hc_120.at0 ha_86
  have ha_102 := hc_120.at0 ha_102
  refine x_putF (G := G) (ci := 6) (v := .ref q_118) (ty := (.array .boolean)) (C := RX5) (T := TX5) (N := 14) hx hb hts (by decide +kernel) tyX5 tyX5_ok nmX5 hown hC hS hA_h hh0 rfl 12 (by decide) (hts (.fieldLink RX5 38 "BidwhistleModel" "isOfLine" "[Z") (by decide +kernel)) (fun _ h9 => h9) rfl hin rfl (by decide +kernel) rfl rfl (Nat.le_of_ble_eq_true rfl) dX5_init_82 (fun H_135 locs hh0 hc_134 hS => ?_)
  have hh0 : oA G h 6 [.ref q_1, .ref q_10, .int 0, .ref q_20, .ref q_31, .ref q_43, .int 0, .ref q_56, .ref q_70, .ref q_85, .int 0, .ref q_101, .ref q_118, .int 0] H_135 := hh0
  have ha_2 := hc_134.at ha_2 (xn1 (Ne.symm ne_7))
  have ha_11 := hc_134.at ha_11 (xn1 (Ne.symm ne_16))
  have ha_21 := hc_134.at ha_21 (xn1 (Ne.symm ne_26))
  have ha_32 := hc_134.at ha_32 (xn1 (Ne.symm ne_37))
  have ha_44 := hc_134.at ha_44 (xn1 (Ne.symm ne_49))
  have ha_57 := hc_134.at ha_57 (xn1 (Ne.symm ne_62))
  have ha_71 := hc_134.at ha_71 (xn1 (Ne.symm ne_76))
  have ha_86 := hc_134.at ha_86 (xn1 (Ne.symm ne_91))
  have ha_102 := hc_134.at ha_102 (xn1 (Ne.symm ne_107))
  have ha_119 := hc_134.at ha_119 (xn1 (Ne.symm ne_124))
  have t0 : xC [h] H H := xC.rf
  have ge_q_1 : H.size ≤ q_1 := Nat.le_trans t0.1 (Nat.le_of_eq eq_4.symm)
  have t1 := t0.tr0 hc_3
  have t2 := t1.tro hc_8 (Or.inl (List.mem_cons_self ..))
  have ge_q_10 : H.size ≤ q_10 := Nat.le_trans t2.1 (Nat.le_of_eq eq_13.symm)
  have t3 := t2.tr0 hc_12
  have t4 := t3.tro hc_18 (Or.inl (List.mem_cons_self ..))
  have ge_q_20 : H.size ≤ q_20 := Nat.le_trans t4.1 (Nat.le_of_eq eq_23.symm)
  have t5 := t4.tr0 hc_22
  have t6 := t5.tro hc_29 (Or.inl (List.mem_cons_self ..))
  have ge_q_31 : H.size ≤ q_31 := Nat.le_trans t6.1 (Nat.le_of_eq eq_34.symm)
  have t7 := t6.tr0 hc_33
  have t8 := t7.tro hc_41 (Or.inl (List.mem_cons_self ..))
  have ge_q_43 : H.size ≤ q_43 := Nat.le_trans t8.1 (Nat.le_of_eq eq_46.symm)
  have t9 := t8.tr0 hc_45
  have t10 := t9.tro hc_54 (Or.inl (List.mem_cons_self ..))
  have ge_q_56 : H.size ≤ q_56 := Nat.le_trans t10.1 (Nat.le_of_eq eq_59.symm)
  have t11 := t10.tr0 hc_58
  have t12 := t11.tro hc_68 (Or.inl (List.mem_cons_self ..))
  have ge_q_70 : H.size ≤ q_70 := Nat.le_trans t12.1 (Nat.le_of_eq eq_73.symm)
  have t13 := t12.tr0 hc_72
  have t14 := t13.tro hc_83 (Or.inl (List.mem_cons_self ..))
  have ge_q_85 : H.size ≤ q_85 := Nat.le_trans t14.1 (Nat.le_of_eq eq_88.symm)
  have t15 := t14.tr0 hc_87
  have t16 := t15.tro hc_99 (Or.inl (List.mem_cons_self ..))
  have ge_q_101 : H.size ≤ q_101 := Nat.le_trans t16.1 (Nat.le_of_eq eq_104.symm)
  have t17 := t16.tr0 hc_103
  have t18 := t17.tro hc_116 (Or.inl (List.mem_cons_self ..))
  have ge_q_118 : H.size ≤ q_118 := Nat.le_trans t18.1 (Nat.le_of_eq eq_121.symm)
  have t19 := t18.tr0 hc_120
  have t20 := t19.tro hc_134 (Or.inl (List.mem_cons_self ..))
  have hnd : znd [h, q_1, q_10, q_20, q_31, q_43, q_56, q_70, q_85, q_101, q_118] := ⟨⟨ne_7, ne_16, ne_26, ne_37, ne_49, ne_62, ne_76, ne_91, ne_107, ne_124, trivial⟩, ⟨ne_17, ne_27, ne_38, ne_50, ne_63, ne_77, ne_92, ne_108, ne_125, trivial⟩, ⟨ne_28, ne_39, ne_51, ne_64, ne_78, ne_93, ne_109, ne_126, trivial⟩, ⟨ne_40, ne_52, ne_65, ne_79, ne_94, ne_110, ne_127, trivial⟩, ⟨ne_53, ne_66, ne_80, ne_95, ne_111, ne_128, trivial⟩, ⟨ne_67, ne_81, ne_96, ne_112, ne_129, trivial⟩, ⟨ne_82, ne_97, ne_113, ne_130, trivial⟩, ⟨ne_98, ne_114, ne_131, trivial⟩, ⟨ne_115, ne_132, trivial⟩, ⟨ne_133, trivial⟩, trivial, trivial⟩
  have hOz : zown G (fun j => ([h, q_1, q_10, q_20, q_31, q_43, q_56, q_70, q_85, q_101, q_118] : List Nat).getD j 0) 11 := ⟨fun i j hi hj e => znd_get hnd hi hj e, fun i hi h11 => by
    rcases (show i = 0 ∨ i = 1 ∨ i = 2 ∨ i = 3 ∨ i = 4 ∨ i = 5 ∨ i = 6 ∨ i = 7 ∨ i = 8 ∨ i = 9 ∨ i = 10 by omega) with rfl | rfl | rfl | rfl | rfl | rfl | rfl | rfl | rfl | rfl | rfl
    · exact hA_h
    · exact hA_q_1
    · exact hA_q_10
    · exact hA_q_20
    · exact hA_q_31
    · exact hA_q_43
    · exact hA_q_56
    · exact hA_q_70
    · exact hA_q_85
    · exact hA_q_101
    · exact hA_q_118⟩
  have hge : ∀ i, i < 11 → (fun j => ([h, q_1, q_10, q_20, q_31, q_43, q_56, q_70, q_85, q_101, q_118] : List Nat).getD j 0) i = h ∨ H.size ≤ (fun j => ([h, q_1, q_10, q_20, q_31, q_43, q_56, q_70, q_85, q_101, q_118] : List Nat).getD j 0) i := fun i hi => by
    rcases (show i = 0 ∨ i = 1 ∨ i = 2 ∨ i = 3 ∨ i = 4 ∨ i = 5 ∨ i = 6 ∨ i = 7 ∨ i = 8 ∨ i = 9 ∨ i = 10 by omega) with rfl | rfl | rfl | rfl | rfl | rfl | rfl | rfl | rfl | rfl | rfl
    · exact Or.inl rfl
    · exact Or.inr ge_q_1
    · exact Or.inr ge_q_10
    · exact Or.inr ge_q_20
    · exact Or.inr ge_q_31
    · exact Or.inr ge_q_43
    · exact Or.inr ge_q_56
    · exact Or.inr ge_q_70
    · exact Or.inr ge_q_85
    · exact Or.inr ge_q_101
    · exact Or.inr ge_q_118
  have hm3 : iA G q_20 40 (mpa (zU z1) (zV z1)) H_135 := by rw [mpa_z]; exact ha_21
  have hMX : MX G (fun j => ([h, q_1, q_10, q_20, q_31, q_43, q_56, q_70, q_85, q_101, q_118] : List Nat).getD j 0) z1 0 0 (fun _ => 0) (fun _ => 0) (fun _ => false) H_135 := ⟨hOz, hh0, ha_2, ha_11, hm3, ha_32, ha_44, ha_57, ha_71, ha_86, ha_102, ha_119⟩
  exact x_vret (G := G) hx hb hr dX5_init_85 hlocks hS (by first | exact Nat.le_of_ble_eq_true rfl | exact (show 0 + 1 + 1 + 1 + 1 + 1 + 1 + 1 + 1 + 1 + 1 ≤ 10 by omega)) (by first | exact Nat.le_of_ble_eq_true rfl | exact (show 0 + 147 + 21 + 40 + 20 + 17 + 6 + 6 + 8 + 20 + 20 ≤ 305 by omega)) ⟨rfl, _, rfl, hMX, hge, t20⟩
