/-! the reference: store, evolve -/
def mz (S : zS) : zS := (zN S, va_up (zL S) 20 0, S.2.2)
def mstore (S : zS) : zS := if zfnd S (zP S 20) (zL S 20) (zN S) ≠ 0 then mz S else mz (mkept S 20 0 0)
def mlet (S1 S2 : zS) (t : Nat → Nat) (n u v : Nat) : zS :=
  if xright t n = false ∨ xany t n (zF S1) 17 = true then S2
  else if zfnd S1 t n (zN S1) ≠ 0 then (if zI S1 (zfnd S1 t n (zN S1) - 1) = true then S2 else zpool S2 (zfnd S1 t n (zN S1) - 1) true)
  else zpool (mkept S2 (zN S1) u v) (zN S1) true
def mevolve (S : zS) (u : Nat) : zS := mlet (zev1 S u) (mcross (zev1 S u) (zevf S u - 1) (zevg S u - 1)) (zchP S (zevf S u - 1) (zevg S u - 1)) (zchL S (zevf S u - 1) (zevg S u - 1)) (zevf S u) (zevg S u)
section ML
variable {S1 S2 : zS} {t : Nat → Nat} {n u v : Nat}
theorem mlet_bad (h : xright t n = false ∨ xany t n (zF S1) 17 = true) : (zlet S1 t n u v).1 = -1 ∧ mlet S1 S2 t n u v = S2 := by unfold zlet mlet; rw [if_pos h, if_pos h]; exact ⟨rfl, rfl⟩
theorem mlet_in (h : ¬ (xright t n = false ∨ xany t n (zF S1) 17 = true)) (hf : zfnd S1 t n (zN S1) ≠ 0) (hi : zI S1 (zfnd S1 t n (zN S1) - 1) = true) : (zlet S1 t n u v).1 = -1 ∧ mlet S1 S2 t n u v = S2 := by unfold zlet mlet; rw [if_neg h, if_neg h, if_pos hf, if_pos hf, if_pos hi, if_pos hi]; exact ⟨rfl, rfl⟩
theorem mlet_old (h : ¬ (xright t n = false ∨ xany t n (zF S1) 17 = true)) (hf : zfnd S1 t n (zN S1) ≠ 0) (hi : ¬ zI S1 (zfnd S1 t n (zN S1) - 1) = true) : (zlet S1 t n u v).1 = nI (zfnd S1 t n (zN S1) - 1) ∧ mlet S1 S2 t n u v = zpool S2 (zfnd S1 t n (zN S1) - 1) true := by unfold zlet mlet; rw [if_neg h, if_neg h, if_pos hf, if_pos hf, if_neg hi, if_neg hi]; exact ⟨rfl, rfl⟩
theorem mlet_new (h : ¬ (xright t n = false ∨ xany t n (zF S1) 17 = true)) (hf : ¬ zfnd S1 t n (zN S1) ≠ 0) : (zlet S1 t n u v).1 = nI (zN S1) ∧ mlet S1 S2 t n u v = zpool (mkept S2 (zN S1) u v) (zN S1) true := by unfold zlet mlet; rw [if_neg h, if_neg h, if_neg hf, if_neg hf]; exact ⟨rfl, rfl⟩
end ML
/-- rows below are the same -/
theorem mcross_P {S : zS} {i j k : Nat} (h : k ≠ zN S) : zP (mcross S i j) k = zP S k := mrow_ne h
theorem mcross_L {S : zS} {i j k : Nat} (h : k ≠ zN S) : zL (mcross S i j) k = zL S k := va_up_ne _ _ h
theorem mcross_LN {S : zS} {i j : Nat} : zL (mcross S i j) (zN S) = zchL S i j := va_up_self ..
theorem mcross_PN {S : zS} {i j k : Nat} (h : k < zchL S i j) : zP (mcross S i j) (zN S) k = zchP S i j k := by
  show mrow (zP S) (zN S) (zchL S i j) (zchP S i j) (zN S) k = _
  rw [mrow_at, if_pos h]
theorem mzsame {S S2 : zS} {i j : Nat} (h1 : zP S2 i = zP S i) (h2 : zL S2 i = zL S i) (h3 : zP S2 j = zP S j) (h4 : zL S2 j = zL S j) : zsame S2 i j = zsame S i j := by unfold zsame; rw [h1, h2, h3, h4]
theorem zW.cross {S : zS} {i j : Nat} (hW : zW S) : zW (mcross S i j) := by
  obtain ⟨w1, w2, w3, w4, w5, w6, w7⟩ := id hW
  obtain ⟨c1, c2⟩ := zchP_le hW i j
  refine ⟨w1, fun k => ?_, fun k q => ?_, fun k hk => ?_, w5, fun a b hab hb => ?_, w7⟩
  · by_cases c : k = zN S
    · rw [c, mcross_LN]; exact c1
    · rw [mcross_L c]; exact w2 k
  · by_cases c : k = zN S
    · rw [c]
      show mrow (zP S) (zN S) (zchL S i j) (zchP S i j) (zN S) q ≤ 16
      rw [mrow_at]
      split
      · exact c2 q
      · exact w3 _ q
    · rw [mcross_P c]; exact w3 k q
  · have hk : k < zN S := hk
    rw [mcross_P (by omega), mcross_L (by omega)]; exact w4 k hk
  · have hb : b < zN S := hb
    rw [mzsame (mcross_P (by omega)) (mcross_L (by omega)) (mcross_P (by omega)) (mcross_L (by omega))]; exact w6 a b hab hb
theorem mfnd_S {S S2 : zS} {t : Nat → Nat} {n : Nat} : ∀ {m : Nat}, (∀ k, k < m → zP S2 k = zP S k ∧ zL S2 k = zL S k) → zfnd S2 t n m = zfnd S t n m
  | 0, _ => rfl
  | m + 1, h => by
    have e : zpsame S2 t n m = zpsame S t n m := by unfold zpsame; rw [(h m (by omega)).1, (h m (by omega)).2]
    unfold zfnd
    rw [mfnd_S (fun k hk => h k (by omega)), e]
theorem mfnd {S : zS} {i j : Nat} : zfnd (mcross S i j) (zP (mcross S i j) (zN S)) (zL (mcross S i j) (zN S)) (zN S) = zfnd S (zchP S i j) (zchL S i j) (zN S) := by
  rw [mfnd_S (S := S) (fun k hk => ⟨mcross_P (by omega), mcross_L (by omega)⟩), mcross_LN]
  exact zfnd_cong (fun k hk => mcross_PN hk) _
theorem mright {S : zS} {i j : Nat} : xright (zP (mcross S i j) (zN S)) (zL (mcross S i j) (zN S)) = xright (zchP S i j) (zchL S i j) := by
  rw [mcross_LN]
  exact xright_cong (fun k hk => mcross_PN hk)
theorem mbad {S : zS} {i j : Nat} : zbad (mcross S i j) (zN S) = xany (zchP S i j) (zchL S i j) (zF S) 17 := by
  unfold zbad
  rw [mcross_LN]
  exact xany_cong (fun k hk => mcross_PN hk) _
theorem mev1_le {S : zS} {u j : Nat} (h : zI (zev1 S u) j = true) : zI S j = true := by
  have h : va_up (zI S) (zleast S u (zN S) - 1) false j = true := h
  by_cases c : j = zleast S u (zN S) - 1
  · rw [c, va_up_self] at h; cases h
  · rw [va_up_ne _ _ c] at h; exact h
/-- what evolve relies on -/
theorem mev_facts {S : zS} {u : Nat} (hW : zW S) (h3 : 3 ≤ xct (zI S) (zN S)) : zleast S u (zN S) ≠ 0 ∧ zleast S u (zN S) ≤ zN S ∧ zW (zev1 S u) ∧ zevf S u ≠ 0 ∧ zevf S u ≤ zN S ∧ zevg S u ≠ 0 ∧ zevg S u ≤ zN S := by
  have h0 := zleast_some (S := S) (u := u) (n := zN S) (by omega)
  have h1 := zleast_in h0
  have h2 := xct_up0 h1.1 (n := zN S) (by omega)
  have h8 := hW.2.2.2.2.2.2.1
  refine ⟨h0, h1.2, hW.pool (by omega), zmost_some ?_, zmost_le .., zmost_some (xct_two (b := zevf S u) (show 2 ≤ xct (zI (zev1 S u)) (zN S) by show 2 ≤ xct (va_up (zI S) _ false) (zN S); omega)), zmost_le ..⟩
  obtain ⟨k, hk, hp⟩ := xct_one (p := zI (zev1 S u)) (n := zN S) (by show 1 ≤ xct (va_up (zI S) _ false) (zN S); omega)
  exact ⟨k, hk, hp, by omega⟩
set_option maxHeartbeats 400000 in
set_option maxRecDepth 100000 in
/-- store() -/
theorem c_X5_store (l : Launch) (hfl : l.stackTraces = false) (G : xG) (ad : Nat → Nat) (S : zS) (tp th : Nat) (g : Nat → Int) (wo : Nat → Int32) (z : Nat → Bool) (H : Heap) (hM : MX G ad S tp th g wo z H) (hW : zW S) : xMet l G yX5_store wsX5_store ({ frames := 2, cells := 0, slots := 0, locals := 47 } : Room) [.ref (ad 0)] H (mPost G ad ((if kstore S = 0 then 0 else 1)) ((zstore S).1) S (mstore S)) (xNo) := by
  refine vx_ofW (cc := cX5_store) (maxL := 2) (ret := (some .int)) (by decide) rfl ?_
  intro Pg Ev s m args below meth c s₁ B hml hout hv
  obtain ⟨rfl, hH, hC⟩ := hv
  have hx := B.exec
  have hb := B.bytes
  have hr := B.returns
  have hts := atoms_spec (ws := wsX5_store) B.pre
  have hown : s.vm.findClass RX5 = some m.cls := findClass_of_methodNamed B.named
  have hlocks := B.notSynchronized
  rw [hH]
  have hS : va_S (xA G) s.heap H [] := by rw [← hH]; exact va_S.rf
  generalize ([] : List Loc) = locs at hS ⊢
  have hl := lv_entry [.ref (ad 0)] (n := 2) (Nat.le_of_ble_eq_true rfl)
  rw [lg_entry_eq]
  generalize (lg_sl [.ref (ad 0)] ++ List.replicate (2 - (lg_sl [.ref (ad 0)]).length) Slot.unset).toArray = ls at hl ⊢
  have hl : lv_has ls 2 [(0, .ref (ad 0))] := hl
  obtain ⟨hO, hm0, hm1, hm2, hm3, hm4, hm5, hm6, hm7, hm8, hm9, hm10⟩ := id hM
  have hn20 := hW.1
  have hL7 := hW.2.1 20
  have hfl9 := zfnd_le (S := S) (t := zP S 20) (n := zL S 20) (zN S)
  refine lv_aload_n hx hb dX5_store_0 rfl (lv_at hl 0 rfl) ?_
  refine lv_bipush (v := (nI 20)) hx hb dX5_store_1 (by decide) ?_
  refine x_intE (vx_runV (As := [.int (nI 20)]) (rest := []) ⟨hx, hb, hml, hown, hts⟩ (c_X5_found l hfl G ad S tp th g wo z 20 H ⟨hO, hm0, hm1, hm2, hm3, hm4, hm5, hm6, hm7, hm8, hm9, hm10⟩ hW (by omega)) (cwV 1 hts gX5_store_X5_found rfl rfl rfl (by decide +kernel) ⟨(Nat.le_of_ble_eq_true rfl), (Nat.le_of_ble_eq_true rfl)⟩) (xPreV hC hS hm0 (q := (RX5, TX5, 14)) rfl) rfl rfl hl.1 rfl (lv_room (Nat.le_of_ble_eq_true rfl)) dX5_store_3 ⟨(by first | exact Nat.le_of_ble_eq_true rfl | exact (show 0 + 0 ≤ 0 by omega)), (by first | exact Nat.le_of_ble_eq_true rfl | exact (show 0 + 0 ≤ 0 by omega))⟩) hS (fun locs hS => ?_)
  refine lv_istore_n (lv' := [(1, .int (xpar (zfnd S (zP S 20) (zL S 20) (zN S)))), (0, .ref (ad 0))]) hx hb dX5_store_6 rfl hl (by decide) rfl (fun ls hl => ?_)
  refine lv_aload_n hx hb dX5_store_7 rfl (lv_at hl 1 rfl) ?_
  refine lv_aload_n hx hb dX5_store_8 rfl (lv_at hl 1 rfl) ?_
  refine lv_bipush (v := (nI 20)) hx hb dX5_store_9 (by decide) ?_
  refine lv_iconst (v := (nI 0)) hx hb dX5_store_11 (by decide) ?_
  have hsz := hS.1
  refine x_call (px := xNo) (vx_runV (As := [.int (nI 20), .int (nI 0)]) (rest := [.ref (ad 0)]) ⟨hx, hb, hml, hown, hts⟩ (c_X5_runs l hfl G ad S tp th g wo z 20 0 H ⟨hO, hm0, hm1, hm2, hm3, hm4, hm5, hm6, hm7, hm8, hm9, hm10⟩ hW (by omega) (by omega)) (cwV 2 hts gX5_store_X5_runs rfl rfl rfl (by decide +kernel) ⟨(Nat.le_of_ble_eq_true rfl), (Nat.le_of_ble_eq_true rfl)⟩) (xPreV hC hS hm0 (q := (RX5, TX5, 14)) rfl) rfl rfl hl.1 rfl (lv_room (Nat.le_of_ble_eq_true rfl)) dX5_store_12 ⟨(by first | exact Nat.le_of_ble_eq_true rfl | exact (show 0 + 0 ≤ 0 by omega)), (by first | exact Nat.le_of_ble_eq_true rfl | exact (show 0 + 0 ≤ 0 by omega))⟩) hS (fun _ h => h) (fun _ _ _ _ _ h => False.elim h) (fun v H_1 locs hp hz hk_2 hS => ?_)
  obtain ⟨rfl, tp3, g3, hMM3, hg3⟩ := hp
  obtain ⟨-, hm0, hm1, hm2, hm3, hm4, hm5, hm6, hm7, hm8, hm9, hm10⟩ := id hMM3
  refine lv_if_eq (tgt := 32) hx hb dX5_store_15 (by decide) (fun c_4 => ?_) (fun c_4 => ?_)
  · have _ := hx
    have hri : xright (zP S 20) (zL S 20) = false := xb_0.mp c_4
    refine lv_iconst (v := (nI 1)) hx hb dX5_store_32 (by decide) ?_
    refine lv_goto (tgt := 37) hx hb dX5_store_33 (by decide) ?_
    have hsz := hS.1
    refine x_call (px := xNo) (vx_runV (As := [.int (nI 1)]) (rest := []) ⟨hx, hb, hml, hown, hts⟩ (c_X5_goesk l hfl G ad S tp3 th g3 wo z 1 H_1 ⟨hO, hm0, hm1, hm2, hm3, hm4, hm5, hm6, hm7, hm8, hm9, hm10⟩ (by decide)) (cwV 1 hts gX5_store_X5_goes rfl rfl rfl (by decide +kernel) ⟨(Nat.le_of_ble_eq_true rfl), (Nat.le_of_ble_eq_true rfl)⟩) (xPreV hC hS hm0 (q := (RX5, TX5, 14)) rfl) rfl rfl hl.1 rfl (lv_room (Nat.le_of_ble_eq_true rfl)) dX5_store_37 ⟨(by first | exact Nat.le_of_ble_eq_true rfl | exact (show 0 + 0 ≤ 0 by omega)), (by first | exact Nat.le_of_ble_eq_true rfl | exact (show 0 + 0 ≤ 0 by omega))⟩) hS (fun _ h => h) (fun _ _ _ _ _ h => False.elim h) (fun v H_5 locs hp hz hk_6 hS => ?_)
    obtain ⟨rfl, hMM7⟩ := hp
    obtain ⟨-, hm0, hm1, hm2, hm3, hm4, hm5, hm6, hm7, hm8, hm9, hm10⟩ := id hMM7
    refine lv_if_ne (tgt := 45) hx hb dX5_store_40 (by decide) (fun c_8 => ?_) (fun c_8 => ?_)
    · have _ := hx
      have c_8 : ¬ (0 = 0) := fun z => c_8 ((nI_eq (a := 0) (b := 0) (by omega) (by omega)).mpr z)
      exact absurd c_8 (by decide)
    · have _ := hx
      have c_8 : 0 = 0 := (nI_eq (a := 0) (b := 0) (by omega) (by omega)).mp c_8
      refine lv_iconst (v := (nI 0)) hx hb dX5_store_43 (by decide) ?_
      exact x_iret (G := G) hx hb hr rfl dX5_store_44 hlocks hS (by first | exact Nat.le_of_ble_eq_true rfl | exact (show 0 ≤ 0 by omega)) (by first | exact Nat.le_of_ble_eq_true rfl | exact (show 0 ≤ 0 by omega)) (by exact mP1 0 (by rw [if_neg (by unfold kstore; rw [if_neg (by rw [hri]; decide)]; decide)]) ⟨hO, hm0, hm1, hm2, hm3, hm4, hm5, hm6, hm7, hm8, hm9, hm10⟩)
  · have _ := hx
    have hri : xright (zP S 20) (zL S 20) = true := xb_1 c_4
    refine lv_iload_n hx hb dX5_store_18 rfl (lv_at hl 0 rfl) ?_
    refine lv_iconst (v := (-1)) hx hb dX5_store_19 (by decide) ?_
    refine lv_icmp_ne (tgt := 36) hx hb dX5_store_20 (by decide) (fun c_9 => ?_) (fun c_9 => ?_)
    · have _ := hx
      have hF : (zfnd S (zP S 20) (zL S 20) (zN S)) ≠ 0 := fun q => c_9 ((xpar_m1 (by omega)).mpr q)
      refine lv_iconst (v := (nI 0)) hx hb dX5_store_36 (by decide) ?_
      have hsz := hS.1
      refine x_call (px := xNo) (vx_runV (As := [.int (nI 0)]) (rest := []) ⟨hx, hb, hml, hown, hts⟩ (c_X5_goes0 l hfl G ad S tp3 th g3 wo z 0 H_1 ⟨hO, hm0, hm1, hm2, hm3, hm4, hm5, hm6, hm7, hm8, hm9, hm10⟩ rfl) (cwV 1 hts gX5_store_X5_goes rfl rfl rfl (by decide +kernel) ⟨(Nat.le_of_ble_eq_true rfl), (Nat.le_of_ble_eq_true rfl)⟩) (xPreV hC hS hm0 (q := (RX5, TX5, 14)) rfl) rfl rfl hl.1 rfl (lv_room (Nat.le_of_ble_eq_true rfl)) dX5_store_37 ⟨(by first | exact Nat.le_of_ble_eq_true rfl | exact (show 0 + 0 ≤ 0 by omega)), (by first | exact Nat.le_of_ble_eq_true rfl | exact (show 0 + 0 ≤ 0 by omega))⟩) hS (fun _ h => h) (fun _ _ _ _ _ h => False.elim h) (fun v H_10 locs hp hz hk_11 hS => ?_)
      obtain ⟨rfl, hMM12⟩ := hp
      obtain ⟨-, hm0, hm1, hm2, hm3, hm4, hm5, hm6, hm7, hm8, hm9, hm10⟩ := id hMM12
      refine lv_if_ne (tgt := 45) hx hb dX5_store_40 (by decide) (fun c_13 => ?_) (fun c_13 => ?_)
      · have _ := hx
        have c_13 : ¬ (1 = 0) := fun z => c_13 ((nI_eq (a := 1) (b := 0) (by omega) (by omega)).mpr z)
        refine lv_iload_n hx hb dX5_store_45 rfl (lv_at hl 0 rfl) ?_
        refine lv_iconst (v := (-1)) hx hb dX5_store_46 (by decide) ?_
        refine lv_icmp_ne (tgt := 63) hx hb dX5_store_47 (by decide) (fun c_14 => ?_) (fun c_14 => ?_)
        · have _ := hx
          refine lv_aload_n hx hb dX5_store_63 rfl (lv_at hl 1 rfl) ?_
          refine va_get (D := xD G) (ci := 6) (v := .ref (ad 2)) (C := RX5) (T := TX5) (N := 14) hx hb hts (by decide +kernel) hown hC.1 (x1 hm0) 0 rfl rfl 1 (by decide) (hts (.fieldLink RX5 13 "BidwhistleModel" "lengths" "[I") (by decide +kernel)) (fun _ h9 => h9) rfl dX5_store_64 ?_
          refine lv_bipush (v := (nI 20)) hx hb dX5_store_67 (by decide) ?_
          refine lv_iconst (v := (nI 0)) hx hb dX5_store_69 (by decide) ?_
          refine x_iastn (G := G) (j := 20) hx hb hC hS (hO.2 2 (by omega) (by omega)) hm2 (by decide) (by first | decide | omega) dX5_store_70 (fun H_16 locs hm2 hc_15 hS => ?_)
          have hm0 := hc_15.at hm0 (xn1 (hO.ne (i := 0) (j := 2) (by omega) (by omega) (by omega)))
          have hm1 := hc_15.at hm1 (xn1 (hO.ne (i := 1) (j := 2) (by omega) (by omega) (by omega)))
          have hm3 := hc_15.at hm3 (xn1 (hO.ne (i := 3) (j := 2) (by omega) (by omega) (by omega)))
          have hm4 := hc_15.at hm4 (xn1 (hO.ne (i := 4) (j := 2) (by omega) (by omega) (by omega)))
          have hm5 := hc_15.at hm5 (xn1 (hO.ne (i := 5) (j := 2) (by omega) (by omega) (by omega)))
          have hm6 := hc_15.at hm6 (xn1 (hO.ne (i := 6) (j := 2) (by omega) (by omega) (by omega)))
          have hm7 := hc_15.at hm7 (xn1 (hO.ne (i := 7) (j := 2) (by omega) (by omega) (by omega)))
          have hm8 := hc_15.at hm8 (xn1 (hO.ne (i := 8) (j := 2) (by omega) (by omega) (by omega)))
          have hm9 := hc_15.at hm9 (xn1 (hO.ne (i := 9) (j := 2) (by omega) (by omega) (by omega)))
          have hm10 := hc_15.at hm10 (xn1 (hO.ne (i := 10) (j := 2) (by omega) (by omega) (by omega)))
          have hm2 : iA G (ad 2) 21 (fun j => nI (va_up (zL S) 20 0 j)) H_16 := by rw [upd_nI] at hm2; exact hm2
          refine lv_iload_n hx hb dX5_store_71 rfl (lv_at hl 0 rfl) ?_
          exact x_iret (G := G) hx hb hr rfl dX5_store_72 hlocks hS (by first | exact Nat.le_of_ble_eq_true rfl | exact (show 0 ≤ 0 by omega)) (by first | exact Nat.le_of_ble_eq_true rfl | exact (show 0 ≤ 0 by omega)) (by exact mP0 (by rw [if_pos (by unfold kstore; rw [if_pos hri]; exact if_neg (fun q => hF q.1))]) (by unfold mstore; rw [if_pos hF]; exact (MX_Y.mpr (show MY G ad (zN S) (zK S) (zP S) (va_up (zL S) 20 0) (zU S) (zV S) (zI S) (zF S) (zO S) (zT S) tp3 0 g3 wo z H_16 from ⟨hO, hm0, hm1, hm2, hm3, hm4, hm5, hm6, hm7, hm8, hm9, hm10⟩))) (by unfold zstore; rw [if_pos hF, xpar_pos hF]))
        · have _ := hx
          exact absurd ((xpar_m1 (by omega)).mp (by first | exact c_14 | exact Classical.not_not.mp c_14)) hF
      · have _ := hx
        have c_13 : 1 = 0 := (nI_eq (a := 1) (b := 0) (by omega) (by omega)).mp c_13
        exact absurd c_13 (by decide)
    · have _ := hx
      have hF : (zfnd S (zP S 20) (zL S 20) (zN S)) = 0 := (xpar_m1 (by omega)).mp (by first | exact c_9 | exact Classical.not_not.mp c_9)
      refine lv_aload_n hx hb dX5_store_23 rfl (lv_at hl 1 rfl) ?_
      refine va_get (D := xD G) (ci := 6) (v := .int (nI (zN S))) (C := RX5) (T := TX5) (N := 14) hx hb hts (by decide +kernel) hown hC.1 (x1 hm0) 0 rfl rfl 2 (by decide) (hts (.fieldLink RX5 45 "BidwhistleModel" "stored" "I") (by decide +kernel)) (fun _ h9 => h9) rfl dX5_store_24 ?_
      refine lv_bipush (v := (nI 20)) hx hb dX5_store_27 (by decide) ?_
      refine lv_icmp_ne (tgt := 36) hx hb dX5_store_29 (by decide) (fun c_17 => ?_) (fun c_17 => ?_)
      · have _ := hx
        have c_17 : ¬ ((zN S) = 20) := fun z => c_17 ((nI_eq (a := (zN S)) (b := 20) (by omega) (by omega)).mpr z)
        have h20 : zN S ≠ 20 := c_17
        refine lv_iconst (v := (nI 0)) hx hb dX5_store_36 (by decide) ?_
        have hsz := hS.1
        refine x_call (px := xNo) (vx_runV (As := [.int (nI 0)]) (rest := []) ⟨hx, hb, hml, hown, hts⟩ (c_X5_goes0 l hfl G ad S tp3 th g3 wo z 0 H_1 ⟨hO, hm0, hm1, hm2, hm3, hm4, hm5, hm6, hm7, hm8, hm9, hm10⟩ rfl) (cwV 1 hts gX5_store_X5_goes rfl rfl rfl (by decide +kernel) ⟨(Nat.le_of_ble_eq_true rfl), (Nat.le_of_ble_eq_true rfl)⟩) (xPreV hC hS hm0 (q := (RX5, TX5, 14)) rfl) rfl rfl hl.1 rfl (lv_room (Nat.le_of_ble_eq_true rfl)) dX5_store_37 ⟨(by first | exact Nat.le_of_ble_eq_true rfl | exact (show 0 + 0 ≤ 0 by omega)), (by first | exact Nat.le_of_ble_eq_true rfl | exact (show 0 + 0 ≤ 0 by omega))⟩) hS (fun _ h => h) (fun _ _ _ _ _ h => False.elim h) (fun v H_18 locs hp hz hk_19 hS => ?_)
        obtain ⟨rfl, hMM20⟩ := hp
        obtain ⟨-, hm0, hm1, hm2, hm3, hm4, hm5, hm6, hm7, hm8, hm9, hm10⟩ := id hMM20
        refine lv_if_ne (tgt := 45) hx hb dX5_store_40 (by decide) (fun c_21 => ?_) (fun c_21 => ?_)
        · have _ := hx
          have c_21 : ¬ (1 = 0) := fun z => c_21 ((nI_eq (a := 1) (b := 0) (by omega) (by omega)).mpr z)
          refine lv_iload_n hx hb dX5_store_45 rfl (lv_at hl 0 rfl) ?_
          refine lv_iconst (v := (-1)) hx hb dX5_store_46 (by decide) ?_
          refine lv_icmp_ne (tgt := 63) hx hb dX5_store_47 (by decide) (fun c_22 => ?_) (fun c_22 => ?_)
          · have _ := hx
            exact absurd ((xpar_m1 (by omega)).mpr hF) c_22
          · have _ := hx
            refine lv_aload_n hx hb dX5_store_50 rfl (lv_at hl 1 rfl) ?_
            refine va_get (D := xD G) (ci := 6) (v := .int (nI (zN S))) (C := RX5) (T := TX5) (N := 14) hx hb hts (by decide +kernel) hown hC.1 (x1 hm0) 0 rfl rfl 2 (by decide) (hts (.fieldLink RX5 45 "BidwhistleModel" "stored" "I") (by decide +kernel)) (fun _ h9 => h9) rfl dX5_store_51 ?_
            refine lv_istore_n (lv' := [(1, .int (nI (zN S))), (0, .ref (ad 0))]) hx hb dX5_store_54 rfl hl (by decide) rfl (fun ls hl => ?_)
            refine lv_aload_n hx hb dX5_store_55 rfl (lv_at hl 1 rfl) ?_
            refine lv_bipush (v := (nI 20)) hx hb dX5_store_56 (by decide) ?_
            refine lv_iconst (v := xpar 0) hx hb dX5_store_58 (by decide) ?_
            refine lv_iconst (v := xpar 0) hx hb dX5_store_59 (by decide) ?_
            have hsz := hS.1
            refine x_call (px := xNo) (vx_runV (As := [.int (nI 20), .int (xpar 0), .int (xpar 0)]) (rest := []) ⟨hx, hb, hml, hown, hts⟩ (c_X5_keeps l hfl G ad S tp3 0 g3 wo z 20 0 0 H_18 ⟨hO, hm0, hm1, hm2, hm3, hm4, hm5, hm6, hm7, hm8, hm9, hm10⟩ hW (by omega) (by omega)) (cwV 3 hts gX5_store_X5_keeps rfl rfl rfl (by decide +kernel) ⟨(Nat.le_of_ble_eq_true rfl), (Nat.le_of_ble_eq_true rfl)⟩) (xPreV hC hS hm0 (q := (RX5, TX5, 14)) rfl) rfl rfl hl.1 rfl (lv_room (Nat.le_of_ble_eq_true rfl)) dX5_store_60 ⟨(by first | exact Nat.le_of_ble_eq_true rfl | exact (show 0 + 0 ≤ 0 by omega)), (by first | exact Nat.le_of_ble_eq_true rfl | exact (show 0 + 0 ≤ 0 by omega))⟩) hS (fun _ h => h) (fun _ _ _ _ _ h => False.elim h) (fun v H_23 locs hp hz hk_24 hS => ?_)
            obtain ⟨rfl, hMM25⟩ := hp
            obtain ⟨-, hm0, hm1, hm2, hm3, hm4, hm5, hm6, hm7, hm8, hm9, hm10⟩ := (show MY G ad (zN S + 1) (zK S) (mrow (zP S) (zN S) (zL S 20) (zP S 20)) (va_up (zL S) (zN S) (zL S 20)) (va_up (zU S) (zN S) 0) (va_up (zV S) (zN S) 0) (zI S) (zF S) (zO S) (zT S) tp3 0 g3 wo z H_23 from (MX_Y (S := (mkept S 20 0 0))).mp hMM25)
            refine lv_aload_n hx hb dX5_store_63 rfl (lv_at hl 1 rfl) ?_
            refine va_get (D := xD G) (ci := 6) (v := .ref (ad 2)) (C := RX5) (T := TX5) (N := 14) hx hb hts (by decide +kernel) hown hC.1 (x1 hm0) 0 rfl rfl 1 (by decide) (hts (.fieldLink RX5 13 "BidwhistleModel" "lengths" "[I") (by decide +kernel)) (fun _ h9 => h9) rfl dX5_store_64 ?_
            refine lv_bipush (v := (nI 20)) hx hb dX5_store_67 (by decide) ?_
            refine lv_iconst (v := (nI 0)) hx hb dX5_store_69 (by decide) ?_
            refine x_iastn (G := G) (j := 20) hx hb hC hS (hO.2 2 (by omega) (by omega)) hm2 (by decide) (by first | decide | omega) dX5_store_70 (fun H_27 locs hm2 hc_26 hS => ?_)
            have hm0 := hc_26.at hm0 (xn1 (hO.ne (i := 0) (j := 2) (by omega) (by omega) (by omega)))
            have hm1 := hc_26.at hm1 (xn1 (hO.ne (i := 1) (j := 2) (by omega) (by omega) (by omega)))
            have hm3 := hc_26.at hm3 (xn1 (hO.ne (i := 3) (j := 2) (by omega) (by omega) (by omega)))
            have hm4 := hc_26.at hm4 (xn1 (hO.ne (i := 4) (j := 2) (by omega) (by omega) (by omega)))
            have hm5 := hc_26.at hm5 (xn1 (hO.ne (i := 5) (j := 2) (by omega) (by omega) (by omega)))
            have hm6 := hc_26.at hm6 (xn1 (hO.ne (i := 6) (j := 2) (by omega) (by omega) (by omega)))
            have hm7 := hc_26.at hm7 (xn1 (hO.ne (i := 7) (j := 2) (by omega) (by omega) (by omega)))
            have hm8 := hc_26.at hm8 (xn1 (hO.ne (i := 8) (j := 2) (by omega) (by omega) (by omega)))
            have hm9 := hc_26.at hm9 (xn1 (hO.ne (i := 9) (j := 2) (by omega) (by omega) (by omega)))
            have hm10 := hc_26.at hm10 (xn1 (hO.ne (i := 10) (j := 2) (by omega) (by omega) (by omega)))
            have hm2 : iA G (ad 2) 21 (fun j => nI (va_up (va_up (zL S) (zN S) (zL S 20)) 20 0 j)) H_27 := by rw [upd_nI] at hm2; exact hm2
            refine lv_iload_n hx hb dX5_store_71 rfl (lv_at hl 0 rfl) ?_
            exact x_iret (G := G) hx hb hr rfl dX5_store_72 hlocks hS (by first | exact Nat.le_of_ble_eq_true rfl | exact (show 0 ≤ 0 by omega)) (by first | exact Nat.le_of_ble_eq_true rfl | exact (show 0 ≤ 0 by omega)) (by exact mP0 (by rw [if_pos (by unfold kstore; rw [if_pos hri]; exact if_neg (fun q => h20 q.2))]) (by unfold mstore; rw [if_neg (fun q => q hF)]; exact (MX_Y.mpr (show MY G ad (zN S + 1) (zK S) (mrow (zP S) (zN S) (zL S 20) (zP S 20)) (va_up (va_up (zL S) (zN S) (zL S 20)) 20 0) (va_up (zU S) (zN S) 0) (va_up (zV S) (zN S) 0) (zI S) (zF S) (zO S) (zT S) tp3 0 g3 wo z H_27 from ⟨hO, hm0, hm1, hm2, hm3, hm4, hm5, hm6, hm7, hm8, hm9, hm10⟩))) (by unfold zstore; rw [if_neg (fun q => q hF)]))
        · have _ := hx
          have c_21 : 1 = 0 := (nI_eq (a := 1) (b := 0) (by omega) (by omega)).mp c_21
          exact absurd c_21 (by decide)
      · have _ := hx
        have c_17 : (zN S) = 20 := (nI_eq (a := (zN S)) (b := 20) (by omega) (by omega)).mp c_17
        have h20 : zN S = 20 := by omega
        refine lv_iconst (v := (nI 1)) hx hb dX5_store_32 (by decide) ?_
        refine lv_goto (tgt := 37) hx hb dX5_store_33 (by decide) ?_
        have hsz := hS.1
        refine x_call (px := xNo) (vx_runV (As := [.int (nI 1)]) (rest := []) ⟨hx, hb, hml, hown, hts⟩ (c_X5_goesk l hfl G ad S tp3 th g3 wo z 1 H_1 ⟨hO, hm0, hm1, hm2, hm3, hm4, hm5, hm6, hm7, hm8, hm9, hm10⟩ (by decide)) (cwV 1 hts gX5_store_X5_goes rfl rfl rfl (by decide +kernel) ⟨(Nat.le_of_ble_eq_true rfl), (Nat.le_of_ble_eq_true rfl)⟩) (xPreV hC hS hm0 (q := (RX5, TX5, 14)) rfl) rfl rfl hl.1 rfl (lv_room (Nat.le_of_ble_eq_true rfl)) dX5_store_37 ⟨(by first | exact Nat.le_of_ble_eq_true rfl | exact (show 0 + 0 ≤ 0 by omega)), (by first | exact Nat.le_of_ble_eq_true rfl | exact (show 0 + 0 ≤ 0 by omega))⟩) hS (fun _ h => h) (fun _ _ _ _ _ h => False.elim h) (fun v H_28 locs hp hz hk_29 hS => ?_)
        obtain ⟨rfl, hMM30⟩ := hp
        obtain ⟨-, hm0, hm1, hm2, hm3, hm4, hm5, hm6, hm7, hm8, hm9, hm10⟩ := id hMM30
        refine lv_if_ne (tgt := 45) hx hb dX5_store_40 (by decide) (fun c_31 => ?_) (fun c_31 => ?_)
        · have _ := hx
          have c_31 : ¬ (0 = 0) := fun z => c_31 ((nI_eq (a := 0) (b := 0) (by omega) (by omega)).mpr z)
          exact absurd c_31 (by decide)
        · have _ := hx
          have c_31 : 0 = 0 := (nI_eq (a := 0) (b := 0) (by omega) (by omega)).mp c_31
          refine lv_iconst (v := (nI 0)) hx hb dX5_store_43 (by decide) ?_
          exact x_iret (G := G) hx hb hr rfl dX5_store_44 hlocks hS (by first | exact Nat.le_of_ble_eq_true rfl | exact (show 0 ≤ 0 by omega)) (by first | exact Nat.le_of_ble_eq_true rfl | exact (show 0 ≤ 0 by omega)) (by exact mP1 0 (by rw [if_neg (by unfold kstore; rw [(if_pos hri).trans (if_pos ⟨hF, h20⟩)]; decide)]) ⟨hO, hm0, hm1, hm2, hm3, hm4, hm5, hm6, hm7, hm8, hm9, hm10⟩)

set_option maxHeartbeats 400000 in
set_option maxRecDepth 100000 in
/-- evolve(auction) -/
theorem c_X5_evolve (l : Launch) (hfl : l.stackTraces = false) (G : xG) (ad : Nat → Nat) (S : zS) (tp th : Nat) (g : Nat → Int) (wo : Nat → Int32) (z : Nat → Bool) (u9 : Int32) (H : Heap) (hM : MX G ad S tp th g wo z H) (hW : zW S) : xMet l G yX5_evolve wsX5_evolve ({ frames := 6, cells := 0, slots := 0, locals := 145 } : Room) [.ref (ad 0), .int u9] H (mPost G ad (kevolve S u9) ((zevolve S u9.toNatClampNeg).1) S (mevolve S u9.toNatClampNeg)) (xNo) := by
  refine vx_ofW (cc := cX5_evolve) (maxL := 6) (ret := (some .int)) (by decide) rfl ?_
  intro Pg Ev s m args below meth c s₁ B hml hout hv
  obtain ⟨rfl, hH, hC⟩ := hv
  have hx := B.exec
  have hb := B.bytes
  have hr := B.returns
  have hts := atoms_spec (ws := wsX5_evolve) B.pre
  have hown : s.vm.findClass RX5 = some m.cls := findClass_of_methodNamed B.named
  have hlocks := B.notSynchronized
  rw [hH]
  have hS : va_S (xA G) s.heap H [] := by rw [← hH]; exact va_S.rf
  generalize ([] : List Loc) = locs at hS ⊢
  have hl := lv_entry [.ref (ad 0), .int u9] (n := 6) (Nat.le_of_ble_eq_true rfl)
  rw [lg_entry_eq]
  generalize (lg_sl [.ref (ad 0), .int u9] ++ List.replicate (6 - (lg_sl [.ref (ad 0), .int u9]).length) Slot.unset).toArray = ls at hl ⊢
  have hl : lv_has ls 6 [(0, .ref (ad 0)), (1, .int u9)] := hl
  obtain ⟨hO, hm0, hm1, hm2, hm3, hm4, hm5, hm6, hm7, hm8, hm9, hm10⟩ := id hM
  have hn20 := hW.1
  have hxl := xct_le (zI S) (zN S)
  refine lv_aload_n hx hb dX5_evolve_0 rfl (lv_at hl 0 rfl) ?_
  refine lv_iload_n hx hb dX5_evolve_1 rfl (lv_at hl 1 rfl) ?_
  refine x_intE (vx_runS (As := [.int u9]) (rest := [.ref (ad 0)]) ⟨hx, hb, hml, hown, hts⟩ (c_X5_isAuction l hfl G u9 H) (va_cwS 1 hts gX5_evolve_X5_isAuction rfl rfl rfl (by decide +kernel) ⟨(Nat.le_of_ble_eq_true rfl), (Nat.le_of_ble_eq_true rfl)⟩) (xPreS hC hS) rfl rfl hl.1 rfl (lv_room (Nat.le_of_ble_eq_true rfl)) dX5_evolve_2 ⟨(by first | exact Nat.le_of_ble_eq_true rfl | exact (show 0 + 0 ≤ 0 by omega)), (by first | exact Nat.le_of_ble_eq_true rfl | exact (show 0 + 0 ≤ 0 by omega))⟩) hS (fun locs hS => ?_)
  refine lv_if_ne (tgt := 12) hx hb dX5_evolve_5 (by decide) (fun c_1 => ?_) (fun c_1 => ?_)
  · have _ := hx
    obtain ⟨n9, hn9, rfl⟩ := xok_of (xb_1 (by first | exact c_1 | exact fun q => absurd q c_1)) (by omega)
    refine lv_aload_n hx hb dX5_evolve_12 rfl (lv_at hl 0 rfl) ?_
    refine x_intE (vx_runV (As := []) (rest := [.ref (ad 0)]) ⟨hx, hb, hml, hown, hts⟩ (c_X5_pooled l hfl G ad S tp th g wo z H ⟨hO, hm0, hm1, hm2, hm3, hm4, hm5, hm6, hm7, hm8, hm9, hm10⟩ hn20) (cwV 0 hts gX5_evolve_X5_pooled rfl rfl rfl (by decide +kernel) ⟨(Nat.le_of_ble_eq_true rfl), (Nat.le_of_ble_eq_true rfl)⟩) (xPreV hC hS hm0 (q := (RX5, TX5, 14)) rfl) rfl rfl hl.1 rfl (lv_room (Nat.le_of_ble_eq_true rfl)) dX5_evolve_13 ⟨(by first | exact Nat.le_of_ble_eq_true rfl | exact (show 0 + 0 ≤ 0 by omega)), (by first | exact Nat.le_of_ble_eq_true rfl | exact (show 0 + 0 ≤ 0 by omega))⟩) hS (fun locs hS => ?_)
    refine lv_iconst (v := (nI 3)) hx hb dX5_evolve_16 (by decide) ?_
    refine lv_icmp_lt (tgt := 29) hx hb dX5_evolve_17 (by decide) (fun c_2 => ?_) (fun c_2 => ?_)
    · have _ := hx
      have c_2 : (xct (zI (S)) (zN (S))) < 3 := (nI_ltI (a := (xct (zI (S)) (zN (S)))) (b := 3) (by omega) (by omega)).mp c_2
      refine lv_iconst (v := (nI 2)) hx hb dX5_evolve_29 (by decide) ?_
      refine lv_goto (tgt := 34) hx hb dX5_evolve_30 (by decide) ?_
      have hsz := hS.1
      refine x_call (px := xNo) (vx_runV (As := [.int (nI 2)]) (rest := []) ⟨hx, hb, hml, hown, hts⟩ (c_X5_goesk l hfl G ad S tp th g wo z 2 H ⟨hO, hm0, hm1, hm2, hm3, hm4, hm5, hm6, hm7, hm8, hm9, hm10⟩ (by decide)) (cwV 1 hts gX5_evolve_X5_goes rfl rfl rfl (by decide +kernel) ⟨(Nat.le_of_ble_eq_true rfl), (Nat.le_of_ble_eq_true rfl)⟩) (xPreV hC hS hm0 (q := (RX5, TX5, 14)) rfl) rfl rfl hl.1 rfl (lv_room (Nat.le_of_ble_eq_true rfl)) dX5_evolve_34 ⟨(by first | exact Nat.le_of_ble_eq_true rfl | exact (show 0 + 0 ≤ 0 by omega)), (by first | exact Nat.le_of_ble_eq_true rfl | exact (show 0 + 0 ≤ 0 by omega))⟩) hS (fun _ h => h) (fun _ _ _ _ _ h => False.elim h) (fun v H_3 locs hp hz hk_4 hS => ?_)
      obtain ⟨rfl, hMM5⟩ := hp
      obtain ⟨-, hm0, hm1, hm2, hm3, hm4, hm5, hm6, hm7, hm8, hm9, hm10⟩ := id hMM5
      refine lv_if_ne (tgt := 42) hx hb dX5_evolve_37 (by decide) (fun c_6 => ?_) (fun c_6 => ?_)
      · have _ := hx
        have c_6 : ¬ (0 = 0) := fun z => c_6 ((nI_eq (a := 0) (b := 0) (by omega) (by omega)).mpr z)
        exact absurd c_6 (by decide)
      · have _ := hx
        have c_6 : 0 = 0 := (nI_eq (a := 0) (b := 0) (by omega) (by omega)).mp c_6
        refine lv_iconst (v := (nI 0)) hx hb dX5_evolve_40 (by decide) ?_
        exact x_iret (G := G) hx hb hr rfl dX5_evolve_41 hlocks hS (by first | exact Nat.le_of_ble_eq_true rfl | exact (show 0 ≤ 0 by omega)) (by first | exact Nat.le_of_ble_eq_true rfl | exact (show 0 ≤ 0 by omega)) (by exact mP1 1 (by unfold kevolve; rw [xok_nI hn9 (by decide), if_pos rfl]; exact if_pos (by omega)) ⟨hO, hm0, hm1, hm2, hm3, hm4, hm5, hm6, hm7, hm8, hm9, hm10⟩)
    · have _ := hx
      have c_2 : ¬ ((xct (zI (S)) (zN (S))) < 3) := fun z => c_2 ((nI_ltI (a := (xct (zI (S)) (zN (S)))) (b := 3) (by omega) (by omega)).mpr z)
      refine lv_aload_n hx hb dX5_evolve_20 rfl (lv_at hl 0 rfl) ?_
      refine va_get (D := xD G) (ci := 6) (v := .int (nI (zN S))) (C := RX5) (T := TX5) (N := 14) hx hb hts (by decide +kernel) hown hC.1 (x1 hm0) 0 rfl rfl 2 (by decide) (hts (.fieldLink RX5 45 "BidwhistleModel" "stored" "I") (by decide +kernel)) (fun _ h9 => h9) rfl dX5_evolve_21 ?_
      refine lv_bipush (v := (nI 20)) hx hb dX5_evolve_24 (by decide) ?_
      refine lv_icmp_ne (tgt := 33) hx hb dX5_evolve_26 (by decide) (fun c_7 => ?_) (fun c_7 => ?_)
      · have _ := hx
        have c_7 : ¬ ((zN S) = 20) := fun z => c_7 ((nI_eq (a := (zN S)) (b := 20) (by omega) (by omega)).mpr z)
        refine lv_iconst (v := (nI 0)) hx hb dX5_evolve_33 (by decide) ?_
        have hsz := hS.1
        refine x_call (px := xNo) (vx_runV (As := [.int (nI 0)]) (rest := []) ⟨hx, hb, hml, hown, hts⟩ (c_X5_goes0 l hfl G ad S tp th g wo z 0 H ⟨hO, hm0, hm1, hm2, hm3, hm4, hm5, hm6, hm7, hm8, hm9, hm10⟩ rfl) (cwV 1 hts gX5_evolve_X5_goes rfl rfl rfl (by decide +kernel) ⟨(Nat.le_of_ble_eq_true rfl), (Nat.le_of_ble_eq_true rfl)⟩) (xPreV hC hS hm0 (q := (RX5, TX5, 14)) rfl) rfl rfl hl.1 rfl (lv_room (Nat.le_of_ble_eq_true rfl)) dX5_evolve_34 ⟨(by first | exact Nat.le_of_ble_eq_true rfl | exact (show 0 + 0 ≤ 0 by omega)), (by first | exact Nat.le_of_ble_eq_true rfl | exact (show 0 + 0 ≤ 0 by omega))⟩) hS (fun _ h => h) (fun _ _ _ _ _ h => False.elim h) (fun v H_8 locs hp hz hk_9 hS => ?_)
        obtain ⟨rfl, hMM10⟩ := hp
        obtain ⟨-, hm0, hm1, hm2, hm3, hm4, hm5, hm6, hm7, hm8, hm9, hm10⟩ := id hMM10
        refine lv_if_ne (tgt := 42) hx hb dX5_evolve_37 (by decide) (fun c_11 => ?_) (fun c_11 => ?_)
        · have _ := hx
          have c_11 : ¬ (1 = 0) := fun z => c_11 ((nI_eq (a := 1) (b := 0) (by omega) (by omega)).mpr z)
          refine lv_aload_n hx hb dX5_evolve_42 rfl (lv_at hl 0 rfl) ?_
          refine lv_iload_n hx hb dX5_evolve_43 rfl (lv_at hl 1 rfl) ?_
          have hsz := hS.1
          refine x_call (px := xNo) (vx_runV (As := [.int (nI n9)]) (rest := []) ⟨hx, hb, hml, hown, hts⟩ (c_X5_laysWorths l hfl G ad S tp 0 g wo z n9 H_8 ⟨hO, hm0, hm1, hm2, hm3, hm4, hm5, hm6, hm7, hm8, hm9, hm10⟩ hW (by omega)) (cwV 1 hts gX5_evolve_X5_laysWorths rfl rfl rfl (by decide +kernel) ⟨(Nat.le_of_ble_eq_true rfl), (Nat.le_of_ble_eq_true rfl)⟩) (xPreV hC hS hm0 (q := (RX5, TX5, 14)) rfl) rfl rfl hl.1 rfl (lv_room (Nat.le_of_ble_eq_true rfl)) dX5_evolve_44 ⟨(by first | exact Nat.le_of_ble_eq_true rfl | exact (show 0 + 0 ≤ 0 by omega)), (by first | exact Nat.le_of_ble_eq_true rfl | exact (show 0 + 0 ≤ 0 by omega))⟩) hS (fun _ h => h) (fun _ _ _ _ _ h => False.elim h) (fun v H_12 locs hp hz hk_13 hS => ?_)
          obtain ⟨rfl, tp14, g14, wo14, hMM14, hff14⟩ := hp
          obtain ⟨-, hm0, hm1, hm2, hm3, hm4, hm5, hm6, hm7, hm8, hm9, hm10⟩ := id hMM14
          obtain ⟨hz0, hzl, hW1, hf0, hfl8, hg0, hgl8⟩ := mev_facts (u := n9) hW (by omega)
          have hff := fun j (hj : j < zN S) (hjI : zI (zev1 S n9) j = true) => hff14 j hj (mev1_le hjI)
          refine lv_aload_n hx hb dX5_evolve_47 rfl (lv_at hl 0 rfl) ?_
          refine va_get (D := xD G) (ci := 6) (v := .ref (ad 4)) (C := RX5) (T := TX5) (N := 14) hx hb hts (by decide +kernel) hown hC.1 (x1 hm0) 0 rfl rfl 4 (by decide) (hts (.fieldLink RX5 19 "BidwhistleModel" "isIn" "[Z") (by decide +kernel)) (fun _ h9 => h9) rfl dX5_evolve_48 ?_
          refine lv_aload_n hx hb dX5_evolve_51 rfl (lv_at hl 0 rfl) ?_
          refine x_intE (vx_runV (As := []) (rest := [.ref (ad 4)]) ⟨hx, hb, hml, hown, hts⟩ (c_X5_weakest l hfl G ad S tp14 0 g14 wo14 z n9 H_12 ⟨hO, hm0, hm1, hm2, hm3, hm4, hm5, hm6, hm7, hm8, hm9, hm10⟩ hW hff14) (cwV 0 hts gX5_evolve_X5_weakest rfl rfl rfl (by decide +kernel) ⟨(Nat.le_of_ble_eq_true rfl), (Nat.le_of_ble_eq_true rfl)⟩) (xPreV hC hS hm0 (q := (RX5, TX5, 14)) rfl) rfl rfl hl.1 rfl (lv_room (Nat.le_of_ble_eq_true rfl)) dX5_evolve_52 ⟨(by first | exact Nat.le_of_ble_eq_true rfl | exact (show 0 + 0 ≤ 0 by omega)), (by first | exact Nat.le_of_ble_eq_true rfl | exact (show 0 + 0 ≤ 0 by omega))⟩) hS (fun locs hS => ?_)
          rw [xpar_pos hz0]
          refine lv_iconst (v := (nI 0)) hx hb dX5_evolve_55 (by decide) ?_
          refine x_zastn (G := G) (j := (zleast S n9 (zN S) - 1)) hx hb hC hS (hO.2 4 (by omega) (by omega)) hm4 (by omega) (by first | decide | omega) (by rfl) dX5_evolve_56 (fun H_16 locs hm4 hc_15 hS => ?_)
          have hm0 := hc_15.at hm0 (xn1 (hO.ne (i := 0) (j := 4) (by omega) (by omega) (by omega)))
          have hm1 := hc_15.at hm1 (xn1 (hO.ne (i := 1) (j := 4) (by omega) (by omega) (by omega)))
          have hm2 := hc_15.at hm2 (xn1 (hO.ne (i := 2) (j := 4) (by omega) (by omega) (by omega)))
          have hm3 := hc_15.at hm3 (xn1 (hO.ne (i := 3) (j := 4) (by omega) (by omega) (by omega)))
          have hm5 := hc_15.at hm5 (xn1 (hO.ne (i := 5) (j := 4) (by omega) (by omega) (by omega)))
          have hm6 := hc_15.at hm6 (xn1 (hO.ne (i := 6) (j := 4) (by omega) (by omega) (by omega)))
          have hm7 := hc_15.at hm7 (xn1 (hO.ne (i := 7) (j := 4) (by omega) (by omega) (by omega)))
          have hm8 := hc_15.at hm8 (xn1 (hO.ne (i := 8) (j := 4) (by omega) (by omega) (by omega)))
          have hm9 := hc_15.at hm9 (xn1 (hO.ne (i := 9) (j := 4) (by omega) (by omega) (by omega)))
          have hm10 := hc_15.at hm10 (xn1 (hO.ne (i := 10) (j := 4) (by omega) (by omega) (by omega)))
          have hm4 : zA G (ad 4) 20 (fun j => xb (zI (zev1 S n9) j)) H_16 := by show zA G (ad 4) 20 (fun j => xb (va_up (zI S) (zleast S n9 (zN S) - 1) false j)) _; rw [← mup_b]; exact hm4
          refine lv_aload_n hx hb dX5_evolve_57 rfl (lv_at hl 0 rfl) ?_
          refine lv_iconst (v := xpar 0) hx hb dX5_evolve_58 (by decide) ?_
          refine x_intE (vx_runV (As := [.int (xpar 0)]) (rest := []) ⟨hx, hb, hml, hown, hts⟩ (c_X5_greatest l hfl G ad ((zev1 S n9)) tp14 0 g14 wo14 z 0 (zworth S n9) H_16 (MX_Y.mpr (show MY G ad (zN S) (zK S) (zP S) (zL S) (zU S) (zV S) (zI (zev1 S n9)) (zF S) (zO S) (zT S) tp14 0 g14 wo14 z H_16 from ⟨hO, hm0, hm1, hm2, hm3, hm4, hm5, hm6, hm7, hm8, hm9, hm10⟩)) hW1 (fun j => by have := zworth_in hW n9 j; omega) hff (by omega)) (cwV 1 hts gX5_evolve_X5_greatest rfl rfl rfl (by decide +kernel) ⟨(Nat.le_of_ble_eq_true rfl), (Nat.le_of_ble_eq_true rfl)⟩) (xPreV hC hS hm0 (q := (RX5, TX5, 14)) rfl) rfl rfl hl.1 rfl (lv_room (Nat.le_of_ble_eq_true rfl)) dX5_evolve_59 ⟨(by first | exact Nat.le_of_ble_eq_true rfl | exact (show 0 + 0 ≤ 0 by omega)), (by first | exact Nat.le_of_ble_eq_true rfl | exact (show 0 + 0 ≤ 0 by omega))⟩) hS (fun locs hS => ?_)
          refine lv_istore_n (lv' := [(2, .int (xpar (zevf S n9))), (0, .ref (ad 0)), (1, .int (nI n9))]) hx hb dX5_evolve_62 rfl hl (by decide) rfl (fun ls hl => ?_)
          refine lv_aload_n hx hb dX5_evolve_63 rfl (lv_at hl 1 rfl) ?_
          refine lv_iload_n hx hb dX5_evolve_64 rfl (lv_at hl 0 rfl) ?_
          refine x_intE (vx_runV (As := [.int (xpar (zevf S n9))]) (rest := []) ⟨hx, hb, hml, hown, hts⟩ (c_X5_greatest l hfl G ad ((zev1 S n9)) tp14 0 g14 wo14 z (zevf S n9) (zworth S n9) H_16 (MX_Y.mpr (show MY G ad (zN S) (zK S) (zP S) (zL S) (zU S) (zV S) (zI (zev1 S n9)) (zF S) (zO S) (zT S) tp14 0 g14 wo14 z H_16 from ⟨hO, hm0, hm1, hm2, hm3, hm4, hm5, hm6, hm7, hm8, hm9, hm10⟩)) hW1 (fun j => by have := zworth_in hW n9 j; omega) hff (by omega)) (cwV 1 hts gX5_evolve_X5_greatest rfl rfl rfl (by decide +kernel) ⟨(Nat.le_of_ble_eq_true rfl), (Nat.le_of_ble_eq_true rfl)⟩) (xPreV hC hS hm0 (q := (RX5, TX5, 14)) rfl) rfl rfl hl.1 rfl (lv_room (Nat.le_of_ble_eq_true rfl)) dX5_evolve_65 ⟨(by first | exact Nat.le_of_ble_eq_true rfl | exact (show 0 + 0 ≤ 0 by omega)), (by first | exact Nat.le_of_ble_eq_true rfl | exact (show 0 + 0 ≤ 0 by omega))⟩) hS (fun locs hS => ?_)
          refine lv_istore_n (lv' := [(3, .int (xpar (zevg S n9))), (2, .int (xpar (zevf S n9))), (0, .ref (ad 0)), (1, .int (nI n9))]) hx hb dX5_evolve_68 rfl hl (by decide) rfl (fun ls hl => ?_)
          refine lv_aload_n hx hb dX5_evolve_69 rfl (lv_at hl 2 rfl) ?_
          refine lv_iload_n hx hb dX5_evolve_70 rfl (lv_at hl 1 rfl) ?_
          refine lv_iload_n hx hb dX5_evolve_71 rfl (lv_at hl 0 rfl) ?_
          rw [xpar_pos hf0, xpar_pos hg0]
          have hsz := hS.1
          refine x_call (px := xNo) (vx_runV (As := [.int (nI (zevf S n9 - 1)), .int (nI (zevg S n9 - 1))]) (rest := []) ⟨hx, hb, hml, hown, hts⟩ (c_X5_crosses l hfl G ad ((zev1 S n9)) tp14 0 g14 wo14 z (zevf S n9 - 1) (zevg S n9 - 1) H_16 (MX_Y.mpr (show MY G ad (zN S) (zK S) (zP S) (zL S) (zU S) (zV S) (zI (zev1 S n9)) (zF S) (zO S) (zT S) tp14 0 g14 wo14 z H_16 from ⟨hO, hm0, hm1, hm2, hm3, hm4, hm5, hm6, hm7, hm8, hm9, hm10⟩)) hW1 (show _ < zN S by omega) (show _ < zN S by omega) (show zN S < 20 by omega)) (cwV 2 hts gX5_evolve_X5_crosses rfl rfl rfl (by decide +kernel) ⟨(Nat.le_of_ble_eq_true rfl), (Nat.le_of_ble_eq_true rfl)⟩) (xPreV hC hS hm0 (q := (RX5, TX5, 14)) rfl) rfl rfl hl.1 rfl (lv_room (Nat.le_of_ble_eq_true rfl)) dX5_evolve_72 ⟨(by first | exact Nat.le_of_ble_eq_true rfl | exact (show 0 + 0 ≤ 0 by omega)), (by first | exact Nat.le_of_ble_eq_true rfl | exact (show 0 + 0 ≤ 0 by omega))⟩) hS (fun _ h => h) (fun _ _ _ _ _ h => False.elim h) (fun v H_17 locs hp hz hk_18 hS => ?_)
          obtain ⟨rfl, hMM19⟩ := hp
          obtain ⟨-, hm0, hm1, hm2, hm3, hm4, hm5, hm6, hm7, hm8, hm9, hm10⟩ := (show MY G ad (zN S) (zK S) (mrow (zP S) (zN S) (zchL (zev1 S n9) (zevf S n9 - 1) (zevg S n9 - 1)) (zchP (zev1 S n9) (zevf S n9 - 1) (zevg S n9 - 1))) (va_up (zL S) (zN S) (zchL (zev1 S n9) (zevf S n9 - 1) (zevg S n9 - 1))) (zU S) (zV S) (zI (zev1 S n9)) (zF S) (zO S) (zT S) tp14 0 g14 wo14 z H_17 from (MX_Y (S := (mcross (zev1 S n9) (zevf S n9 - 1) (zevg S n9 - 1)))).mp hMM19)
          have hW2 : zW (mcross (zev1 S n9) (zevf S n9 - 1) (zevg S n9 - 1)) := hW1.cross
          obtain ⟨F9, hF9⟩ : ∃ q : Nat, q = (zfnd (zev1 S n9) (zchP S (zevf S n9 - 1) (zevg S n9 - 1)) (zchL S (zevf S n9 - 1) (zevg S n9 - 1)) (zN (zev1 S n9))) := ⟨_, rfl⟩
          obtain ⟨R9, hR9⟩ : ∃ q : Bool, q = (xright (zchP S (zevf S n9 - 1) (zevg S n9 - 1)) (zchL S (zevf S n9 - 1) (zevg S n9 - 1))) := ⟨_, rfl⟩
          obtain ⟨B9, hB9⟩ : ∃ q : Bool, q = (xany (zchP S (zevf S n9 - 1) (zevg S n9 - 1)) (zchL S (zevf S n9 - 1) (zevg S n9 - 1)) (zF (zev1 S n9)) 17) := ⟨_, rfl⟩
          have hfle9 : F9 ≤ zN S := by rw [hF9]; exact zfnd_le _
          refine lv_aload_n hx hb dX5_evolve_75 rfl (lv_at hl 2 rfl) ?_
          refine lv_aload_n hx hb dX5_evolve_76 rfl (lv_at hl 2 rfl) ?_
          refine va_get (D := xD G) (ci := 6) (v := .int (nI (zN S))) (C := RX5) (T := TX5) (N := 14) hx hb hts (by decide +kernel) hown hC.1 (x1 hm0) 0 rfl rfl 2 (by decide) (hts (.fieldLink RX5 45 "BidwhistleModel" "stored" "I") (by decide +kernel)) (fun _ h9 => h9) rfl dX5_evolve_77 ?_
          refine x_intE (vx_runV (As := [.int (nI (zN S))]) (rest := []) ⟨hx, hb, hml, hown, hts⟩ (c_X5_found l hfl G ad ((mcross (zev1 S n9) (zevf S n9 - 1) (zevg S n9 - 1))) tp14 0 g14 wo14 z (zN S) H_17 (MX_Y.mpr (show MY G ad (zN S) (zK S) (mrow (zP S) (zN S) (zchL (zev1 S n9) (zevf S n9 - 1) (zevg S n9 - 1)) (zchP (zev1 S n9) (zevf S n9 - 1) (zevg S n9 - 1))) (va_up (zL S) (zN S) (zchL (zev1 S n9) (zevf S n9 - 1) (zevg S n9 - 1))) (zU S) (zV S) (zI (zev1 S n9)) (zF S) (zO S) (zT S) tp14 0 g14 wo14 z H_17 from ⟨hO, hm0, hm1, hm2, hm3, hm4, hm5, hm6, hm7, hm8, hm9, hm10⟩)) hW2 (by omega)) (cwV 1 hts gX5_evolve_X5_found rfl rfl rfl (by decide +kernel) ⟨(Nat.le_of_ble_eq_true rfl), (Nat.le_of_ble_eq_true rfl)⟩) (xPreV hC hS hm0 (q := (RX5, TX5, 14)) rfl) rfl rfl hl.1 rfl (lv_room (Nat.le_of_ble_eq_true rfl)) dX5_evolve_80 ⟨(by first | exact Nat.le_of_ble_eq_true rfl | exact (show 0 + 0 ≤ 0 by omega)), (by first | exact Nat.le_of_ble_eq_true rfl | exact (show 0 + 0 ≤ 0 by omega))⟩) hS (fun locs hS => ?_)
          rw [show zfnd (mcross (zev1 S n9) (zevf S n9 - 1) (zevg S n9 - 1)) (zP (mcross (zev1 S n9) (zevf S n9 - 1) (zevg S n9 - 1)) (zN S)) (zL (mcross (zev1 S n9) (zevf S n9 - 1) (zevg S n9 - 1)) (zN S)) (zN (mcross (zev1 S n9) (zevf S n9 - 1) (zevg S n9 - 1))) = F9 from (mfnd (S := (zev1 S n9))).trans hF9.symm]
          refine lv_istore (lv' := [(4, .int (xpar F9)), (3, .int (xpar (zevg S n9))), (2, .int (xpar (zevf S n9))), (0, .ref (ad 0)), (1, .int (nI n9))]) hx hb dX5_evolve_83 hl (by decide) rfl (fun ls hl => ?_)
          refine lv_aload_n hx hb dX5_evolve_85 rfl (lv_at hl 3 rfl) ?_
          refine lv_aload_n hx hb dX5_evolve_86 rfl (lv_at hl 3 rfl) ?_
          refine va_get (D := xD G) (ci := 6) (v := .int (nI (zN S))) (C := RX5) (T := TX5) (N := 14) hx hb hts (by decide +kernel) hown hC.1 (x1 hm0) 0 rfl rfl 2 (by decide) (hts (.fieldLink RX5 45 "BidwhistleModel" "stored" "I") (by decide +kernel)) (fun _ h9 => h9) rfl dX5_evolve_87 ?_
          refine lv_iconst (v := (nI 0)) hx hb dX5_evolve_90 (by decide) ?_
          have hsz := hS.1
          refine x_call (px := xNo) (vx_runV (As := [.int (nI (zN S)), .int (nI 0)]) (rest := []) ⟨hx, hb, hml, hown, hts⟩ (c_X5_runs l hfl G ad ((mcross (zev1 S n9) (zevf S n9 - 1) (zevg S n9 - 1))) tp14 0 g14 wo14 z (zN S) 0 H_17 (MX_Y.mpr (show MY G ad (zN S) (zK S) (mrow (zP S) (zN S) (zchL (zev1 S n9) (zevf S n9 - 1) (zevg S n9 - 1)) (zchP (zev1 S n9) (zevf S n9 - 1) (zevg S n9 - 1))) (va_up (zL S) (zN S) (zchL (zev1 S n9) (zevf S n9 - 1) (zevg S n9 - 1))) (zU S) (zV S) (zI (zev1 S n9)) (zF S) (zO S) (zT S) tp14 0 g14 wo14 z H_17 from ⟨hO, hm0, hm1, hm2, hm3, hm4, hm5, hm6, hm7, hm8, hm9, hm10⟩)) hW2 (by omega) (by omega)) (cwV 2 hts gX5_evolve_X5_runs rfl rfl rfl (by decide +kernel) ⟨(Nat.le_of_ble_eq_true rfl), (Nat.le_of_ble_eq_true rfl)⟩) (xPreV hC hS hm0 (q := (RX5, TX5, 14)) rfl) rfl rfl hl.1 rfl (lv_room (Nat.le_of_ble_eq_true rfl)) dX5_evolve_91 ⟨(by first | exact Nat.le_of_ble_eq_true rfl | exact (show 0 + 0 ≤ 0 by omega)), (by first | exact Nat.le_of_ble_eq_true rfl | exact (show 0 + 0 ≤ 0 by omega))⟩) hS (fun _ h => h) (fun _ _ _ _ _ h => False.elim h) (fun v H_20 locs hp hz hk_21 hS => ?_)
          obtain ⟨rfl, tp22, g22, hMM22, hg22⟩ := hp
          obtain ⟨-, hm0, hm1, hm2, hm3, hm4, hm5, hm6, hm7, hm8, hm9, hm10⟩ := (show MY G ad (zN S) (zK S) (mrow (zP S) (zN S) (zchL (zev1 S n9) (zevf S n9 - 1) (zevg S n9 - 1)) (zchP (zev1 S n9) (zevf S n9 - 1) (zevg S n9 - 1))) (va_up (zL S) (zN S) (zchL (zev1 S n9) (zevf S n9 - 1) (zevg S n9 - 1))) (zU S) (zV S) (zI (zev1 S n9)) (zF S) (zO S) (zT S) tp22 0 g22 wo14 z H_20 from (MX_Y (S := (mcross (zev1 S n9) (zevf S n9 - 1) (zevg S n9 - 1)))).mp hMM22)
          rw [show xright (zP (mcross (zev1 S n9) (zevf S n9 - 1) (zevg S n9 - 1)) (zN S)) (zL (mcross (zev1 S n9) (zevf S n9 - 1) (zevg S n9 - 1)) (zN S)) = R9 from (mright (S := (zev1 S n9))).trans hR9.symm]
          refine lv_if_eq (tgt := 128) hx hb dX5_evolve_94 (by decide) (fun c_23 => ?_) (fun c_23 => ?_)
          · have _ := hx
            have hr9 : R9 = false := xb_0.mp c_23
            refine lv_iconst (v := (nI 0)) hx hb dX5_evolve_128 (by decide) ?_
            refine lv_istore (lv' := [(5, .int (nI 0)), (4, .int (xpar F9)), (3, .int (xpar (zevg S n9))), (2, .int (xpar (zevf S n9))), (0, .ref (ad 0)), (1, .int (nI n9))]) hx hb dX5_evolve_129 hl (by decide) rfl (fun ls hl => ?_)
            refine lv_iload hx hb dX5_evolve_131 (lv_at hl 0 rfl) ?_
            refine lv_if_ne (tgt := 138) hx hb dX5_evolve_133 (by decide) (fun c_24 => ?_) (fun c_24 => ?_)
            · have _ := hx
              have c_24 : ¬ (0 = 0) := fun z => c_24 ((nI_eq (a := 0) (b := 0) (by omega) (by omega)).mpr z)
              exact absurd c_24 (by decide)
            · have _ := hx
              have c_24 : 0 = 0 := (nI_eq (a := 0) (b := 0) (by omega) (by omega)).mp c_24
              refine lv_iconst (v := (-1)) hx hb dX5_evolve_136 (by decide) ?_
              exact x_iret (G := G) hx hb hr rfl dX5_evolve_137 hlocks hS (by first | exact Nat.le_of_ble_eq_true rfl | exact (show 0 ≤ 0 by omega)) (by first | exact Nat.le_of_ble_eq_true rfl | exact (show 0 ≤ 0 by omega)) (by exact (by rw [nI_clamp (show n9 < 2 ^ 31 by omega)]; have e9 : (zevolve S n9).1 = -1 ∧ mevolve S n9 = (mcross (zev1 S n9) (zevf S n9 - 1) (zevg S n9 - 1)) := mlet_bad (Or.inl (hR9.symm.trans hr9)); exact mP0 (by unfold kevolve; rw [xok_nI hn9 (by decide), if_pos rfl]; exact if_neg (by omega)) (by rw [e9.2]; exact (MX_Y.mpr (show MY G ad (zN S) (zK S) (mrow (zP S) (zN S) (zchL (zev1 S n9) (zevf S n9 - 1) (zevg S n9 - 1)) (zchP (zev1 S n9) (zevf S n9 - 1) (zevg S n9 - 1))) (va_up (zL S) (zN S) (zchL (zev1 S n9) (zevf S n9 - 1) (zevg S n9 - 1))) (zU S) (zV S) (zI (zev1 S n9)) (zF S) (zO S) (zT S) tp22 0 g22 wo14 z H_20 from ⟨hO, hm0, hm1, hm2, hm3, hm4, hm5, hm6, hm7, hm8, hm9, hm10⟩))) e9.1.symm))
          · have _ := hx
            have hr9 : R9 = true := xb_1 c_23
            refine lv_aload_n hx hb dX5_evolve_97 rfl (lv_at hl 3 rfl) ?_
            refine lv_aload_n hx hb dX5_evolve_98 rfl (lv_at hl 3 rfl) ?_
            refine va_get (D := xD G) (ci := 6) (v := .int (nI (zN S))) (C := RX5) (T := TX5) (N := 14) hx hb hts (by decide +kernel) hown hC.1 (x1 hm0) 0 rfl rfl 2 (by decide) (hts (.fieldLink RX5 45 "BidwhistleModel" "stored" "I") (by decide +kernel)) (fun _ h9 => h9) rfl dX5_evolve_99 ?_
            refine x_intE (vx_runV (As := [.int (nI (zN S))]) (rest := []) ⟨hx, hb, hml, hown, hts⟩ (c_X5_hasForbidden l hfl G ad ((mcross (zev1 S n9) (zevf S n9 - 1) (zevg S n9 - 1))) tp22 0 g22 wo14 z (zN S) H_20 (MX_Y.mpr (show MY G ad (zN S) (zK S) (mrow (zP S) (zN S) (zchL (zev1 S n9) (zevf S n9 - 1) (zevg S n9 - 1)) (zchP (zev1 S n9) (zevf S n9 - 1) (zevg S n9 - 1))) (va_up (zL S) (zN S) (zchL (zev1 S n9) (zevf S n9 - 1) (zevg S n9 - 1))) (zU S) (zV S) (zI (zev1 S n9)) (zF S) (zO S) (zT S) tp22 0 g22 wo14 z H_20 from ⟨hO, hm0, hm1, hm2, hm3, hm4, hm5, hm6, hm7, hm8, hm9, hm10⟩)) hW2 (by omega)) (cwV 1 hts gX5_evolve_X5_hasForbidden rfl rfl rfl (by decide +kernel) ⟨(Nat.le_of_ble_eq_true rfl), (Nat.le_of_ble_eq_true rfl)⟩) (xPreV hC hS hm0 (q := (RX5, TX5, 14)) rfl) rfl rfl hl.1 rfl (lv_room (Nat.le_of_ble_eq_true rfl)) dX5_evolve_102 ⟨(by first | exact Nat.le_of_ble_eq_true rfl | exact (show 0 + 0 ≤ 0 by omega)), (by first | exact Nat.le_of_ble_eq_true rfl | exact (show 0 + 0 ≤ 0 by omega))⟩) hS (fun locs hS => ?_)
            rw [show zbad (mcross (zev1 S n9) (zevf S n9 - 1) (zevg S n9 - 1)) (zN S) = B9 from (mbad (S := (zev1 S n9))).trans hB9.symm]
            refine lv_if_ne (tgt := 128) hx hb dX5_evolve_105 (by decide) (fun c_25 => ?_) (fun c_25 => ?_)
            · have _ := hx
              have hb9 : B9 = true := xb_1 c_25
              refine lv_iconst (v := (nI 0)) hx hb dX5_evolve_128 (by decide) ?_
              refine lv_istore (lv' := [(5, .int (nI 0)), (4, .int (xpar F9)), (3, .int (xpar (zevg S n9))), (2, .int (xpar (zevf S n9))), (0, .ref (ad 0)), (1, .int (nI n9))]) hx hb dX5_evolve_129 hl (by decide) rfl (fun ls hl => ?_)
              refine lv_iload hx hb dX5_evolve_131 (lv_at hl 0 rfl) ?_
              refine lv_if_ne (tgt := 138) hx hb dX5_evolve_133 (by decide) (fun c_26 => ?_) (fun c_26 => ?_)
              · have _ := hx
                have c_26 : ¬ (0 = 0) := fun z => c_26 ((nI_eq (a := 0) (b := 0) (by omega) (by omega)).mpr z)
                exact absurd c_26 (by decide)
              · have _ := hx
                have c_26 : 0 = 0 := (nI_eq (a := 0) (b := 0) (by omega) (by omega)).mp c_26
                refine lv_iconst (v := (-1)) hx hb dX5_evolve_136 (by decide) ?_
                exact x_iret (G := G) hx hb hr rfl dX5_evolve_137 hlocks hS (by first | exact Nat.le_of_ble_eq_true rfl | exact (show 0 ≤ 0 by omega)) (by first | exact Nat.le_of_ble_eq_true rfl | exact (show 0 ≤ 0 by omega)) (by exact (by rw [nI_clamp (show n9 < 2 ^ 31 by omega)]; have e9 : (zevolve S n9).1 = -1 ∧ mevolve S n9 = (mcross (zev1 S n9) (zevf S n9 - 1) (zevg S n9 - 1)) := mlet_bad (Or.inr (hB9.symm.trans hb9)); exact mP0 (by unfold kevolve; rw [xok_nI hn9 (by decide), if_pos rfl]; exact if_neg (by omega)) (by rw [e9.2]; exact (MX_Y.mpr (show MY G ad (zN S) (zK S) (mrow (zP S) (zN S) (zchL (zev1 S n9) (zevf S n9 - 1) (zevg S n9 - 1)) (zchP (zev1 S n9) (zevf S n9 - 1) (zevg S n9 - 1))) (va_up (zL S) (zN S) (zchL (zev1 S n9) (zevf S n9 - 1) (zevg S n9 - 1))) (zU S) (zV S) (zI (zev1 S n9)) (zF S) (zO S) (zT S) tp22 0 g22 wo14 z H_20 from ⟨hO, hm0, hm1, hm2, hm3, hm4, hm5, hm6, hm7, hm8, hm9, hm10⟩))) e9.1.symm))
            · have _ := hx
              have hb9 : B9 = false := xb_0.mp c_25
              have hok : ¬ (xright (zchP S (zevf S n9 - 1) (zevg S n9 - 1)) (zchL S (zevf S n9 - 1) (zevg S n9 - 1)) = false ∨ xany (zchP S (zevf S n9 - 1) (zevg S n9 - 1)) (zchL S (zevf S n9 - 1) (zevg S n9 - 1)) (zF (zev1 S n9)) 17 = true) := fun q => by rw [← hR9, ← hB9, hr9, hb9] at q; rcases q with q | q <;> cases q
              refine lv_iload hx hb dX5_evolve_108 (lv_at hl 0 rfl) ?_
              refine lv_iconst (v := (-1)) hx hb dX5_evolve_110 (by decide) ?_
              refine lv_icmp_eq (tgt := 124) hx hb dX5_evolve_111 (by decide) (fun c_27 => ?_) (fun c_27 => ?_)
              · have _ := hx
                have hF : F9 = 0 := (xpar_m1 (by omega)).mp (by first | exact c_27 | exact Classical.not_not.mp c_27)
                refine lv_iconst (v := (nI 1)) hx hb dX5_evolve_124 (by decide) ?_
                refine lv_goto (tgt := 129) hx hb dX5_evolve_125 (by decide) ?_
                refine lv_istore (lv' := [(5, .int (nI 1)), (4, .int (xpar F9)), (3, .int (xpar (zevg S n9))), (2, .int (xpar (zevf S n9))), (0, .ref (ad 0)), (1, .int (nI n9))]) hx hb dX5_evolve_129 hl (by decide) rfl (fun ls hl => ?_)
                refine lv_iload hx hb dX5_evolve_131 (lv_at hl 0 rfl) ?_
                refine lv_if_ne (tgt := 138) hx hb dX5_evolve_133 (by decide) (fun c_28 => ?_) (fun c_28 => ?_)
                · have _ := hx
                  have c_28 : ¬ (1 = 0) := fun z => c_28 ((nI_eq (a := 1) (b := 0) (by omega) (by omega)).mpr z)
                  refine lv_iload hx hb dX5_evolve_138 (lv_at hl 1 rfl) ?_
                  refine lv_iconst (v := (-1)) hx hb dX5_evolve_140 (by decide) ?_
                  refine lv_icmp_ne (tgt := 160) hx hb dX5_evolve_141 (by decide) (fun c_29 => ?_) (fun c_29 => ?_)
                  · have _ := hx
                    exact absurd ((xpar_m1 (by omega)).mpr hF) c_29
                  · have _ := hx
                    refine lv_aload_n hx hb dX5_evolve_144 rfl (lv_at hl 4 rfl) ?_
                    refine va_get (D := xD G) (ci := 6) (v := .int (nI (zN S))) (C := RX5) (T := TX5) (N := 14) hx hb hts (by decide +kernel) hown hC.1 (x1 hm0) 0 rfl rfl 2 (by decide) (hts (.fieldLink RX5 45 "BidwhistleModel" "stored" "I") (by decide +kernel)) (fun _ h9 => h9) rfl dX5_evolve_145 ?_
                    refine lv_istore (lv' := [(4, .int (nI (zN S))), (5, .int (nI 1)), (3, .int (xpar (zevg S n9))), (2, .int (xpar (zevf S n9))), (0, .ref (ad 0)), (1, .int (nI n9))]) hx hb dX5_evolve_148 hl (by decide) rfl (fun ls hl => ?_)
                    refine lv_aload_n hx hb dX5_evolve_150 rfl (lv_at hl 4 rfl) ?_
                    refine lv_aload_n hx hb dX5_evolve_151 rfl (lv_at hl 4 rfl) ?_
                    refine va_get (D := xD G) (ci := 6) (v := .int (nI (zN S))) (C := RX5) (T := TX5) (N := 14) hx hb hts (by decide +kernel) hown hC.1 (x1 hm0) 0 rfl rfl 2 (by decide) (hts (.fieldLink RX5 45 "BidwhistleModel" "stored" "I") (by decide +kernel)) (fun _ h9 => h9) rfl dX5_evolve_152 ?_
                    refine lv_iload_n hx hb dX5_evolve_155 rfl (lv_at hl 3 rfl) ?_
                    refine lv_iload_n hx hb dX5_evolve_156 rfl (lv_at hl 2 rfl) ?_
                    have hsz := hS.1
                    refine x_call (px := xNo) (vx_runV (As := [.int (nI (zN S)), .int (xpar (zevf S n9)), .int (xpar (zevg S n9))]) (rest := []) ⟨hx, hb, hml, hown, hts⟩ (c_X5_keeps l hfl G ad ((mcross (zev1 S n9) (zevf S n9 - 1) (zevg S n9 - 1))) tp22 0 g22 wo14 z (zN S) (zevf S n9) (zevg S n9) H_20 (MX_Y.mpr (show MY G ad (zN S) (zK S) (mrow (zP S) (zN S) (zchL (zev1 S n9) (zevf S n9 - 1) (zevg S n9 - 1)) (zchP (zev1 S n9) (zevf S n9 - 1) (zevg S n9 - 1))) (va_up (zL S) (zN S) (zchL (zev1 S n9) (zevf S n9 - 1) (zevg S n9 - 1))) (zU S) (zV S) (zI (zev1 S n9)) (zF S) (zO S) (zT S) tp22 0 g22 wo14 z H_20 from ⟨hO, hm0, hm1, hm2, hm3, hm4, hm5, hm6, hm7, hm8, hm9, hm10⟩)) hW2 (by omega) (show zN S < 20 by omega)) (cwV 3 hts gX5_evolve_X5_keeps rfl rfl rfl (by decide +kernel) ⟨(Nat.le_of_ble_eq_true rfl), (Nat.le_of_ble_eq_true rfl)⟩) (xPreV hC hS hm0 (q := (RX5, TX5, 14)) rfl) rfl rfl hl.1 rfl (lv_room (Nat.le_of_ble_eq_true rfl)) dX5_evolve_157 ⟨(by first | exact Nat.le_of_ble_eq_true rfl | exact (show 0 + 0 ≤ 0 by omega)), (by first | exact Nat.le_of_ble_eq_true rfl | exact (show 0 + 0 ≤ 0 by omega))⟩) hS (fun _ h => h) (fun _ _ _ _ _ h => False.elim h) (fun v H_30 locs hp hz hk_31 hS => ?_)
                    obtain ⟨rfl, hMM32⟩ := hp
                    obtain ⟨-, hm0, hm1, hm2, hm3, hm4, hm5, hm6, hm7, hm8, hm9, hm10⟩ := (show MY G ad (zN S + 1) (zK S) (mrow (mrow (zP S) (zN S) (zchL (zev1 S n9) (zevf S n9 - 1) (zevg S n9 - 1)) (zchP (zev1 S n9) (zevf S n9 - 1) (zevg S n9 - 1))) (zN S) ((va_up (zL S) (zN S) (zchL (zev1 S n9) (zevf S n9 - 1) (zevg S n9 - 1))) (zN S)) ((mrow (zP S) (zN S) (zchL (zev1 S n9) (zevf S n9 - 1) (zevg S n9 - 1)) (zchP (zev1 S n9) (zevf S n9 - 1) (zevg S n9 - 1))) (zN S))) (va_up (va_up (zL S) (zN S) (zchL (zev1 S n9) (zevf S n9 - 1) (zevg S n9 - 1))) (zN S) ((va_up (zL S) (zN S) (zchL (zev1 S n9) (zevf S n9 - 1) (zevg S n9 - 1))) (zN S))) (va_up (zU S) (zN S) (zevf S n9)) (va_up (zV S) (zN S) (zevg S n9)) (zI (zev1 S n9)) (zF S) (zO S) (zT S) tp22 0 g22 wo14 z H_30 from (MX_Y (S := (mkept (mcross (zev1 S n9) (zevf S n9 - 1) (zevg S n9 - 1)) (zN S) (zevf S n9) (zevg S n9)))).mp hMM32)
                    refine lv_aload_n hx hb dX5_evolve_160 rfl (lv_at hl 4 rfl) ?_
                    refine va_get (D := xD G) (ci := 6) (v := .ref (ad 4)) (C := RX5) (T := TX5) (N := 14) hx hb hts (by decide +kernel) hown hC.1 (x1 hm0) 0 rfl rfl 4 (by decide) (hts (.fieldLink RX5 19 "BidwhistleModel" "isIn" "[Z") (by decide +kernel)) (fun _ h9 => h9) rfl dX5_evolve_161 ?_
                    refine lv_iload hx hb dX5_evolve_164 (lv_at hl 0 rfl) ?_
                    refine lv_iconst (v := (nI 1)) hx hb dX5_evolve_166 (by decide) ?_
                    refine x_zastn (G := G) (j := (zN S)) hx hb hC hS (hO.2 4 (by omega) (by omega)) hm4 (by omega) (by first | decide | omega) (by rfl) dX5_evolve_167 (fun H_34 locs hm4 hc_33 hS => ?_)
                    have hm0 := hc_33.at hm0 (xn1 (hO.ne (i := 0) (j := 4) (by omega) (by omega) (by omega)))
                    have hm1 := hc_33.at hm1 (xn1 (hO.ne (i := 1) (j := 4) (by omega) (by omega) (by omega)))
                    have hm2 := hc_33.at hm2 (xn1 (hO.ne (i := 2) (j := 4) (by omega) (by omega) (by omega)))
                    have hm3 := hc_33.at hm3 (xn1 (hO.ne (i := 3) (j := 4) (by omega) (by omega) (by omega)))
                    have hm5 := hc_33.at hm5 (xn1 (hO.ne (i := 5) (j := 4) (by omega) (by omega) (by omega)))
                    have hm6 := hc_33.at hm6 (xn1 (hO.ne (i := 6) (j := 4) (by omega) (by omega) (by omega)))
                    have hm7 := hc_33.at hm7 (xn1 (hO.ne (i := 7) (j := 4) (by omega) (by omega) (by omega)))
                    have hm8 := hc_33.at hm8 (xn1 (hO.ne (i := 8) (j := 4) (by omega) (by omega) (by omega)))
                    have hm9 := hc_33.at hm9 (xn1 (hO.ne (i := 9) (j := 4) (by omega) (by omega) (by omega)))
                    have hm10 := hc_33.at hm10 (xn1 (hO.ne (i := 10) (j := 4) (by omega) (by omega) (by omega)))
                    have hm4 : zA G (ad 4) 20 (fun j => xb (va_up (zI (zev1 S n9)) (zN S) true j)) H_34 := by rw [← mup_b]; exact hm4
                    refine lv_iload hx hb dX5_evolve_168 (lv_at hl 0 rfl) ?_
                    exact x_iret (G := G) hx hb hr rfl dX5_evolve_170 hlocks hS (by first | exact Nat.le_of_ble_eq_true rfl | exact (show 0 ≤ 0 by omega)) (by first | exact Nat.le_of_ble_eq_true rfl | exact (show 0 ≤ 0 by omega)) (by exact (by rw [nI_clamp (show n9 < 2 ^ 31 by omega)]; have e9 : (zevolve S n9).1 = nI (zN S) ∧ mevolve S n9 = zpool (mkept (mcross (zev1 S n9) (zevf S n9 - 1) (zevg S n9 - 1)) (zN S) (zevf S n9) (zevg S n9)) (zN S) true := mlet_new hok (by rw [← hF9, hF]; decide); exact mP0 (by unfold kevolve; rw [xok_nI hn9 (by decide), if_pos rfl]; exact if_neg (by omega)) (by rw [e9.2]; exact (MX_Y.mpr (show MY G ad (zN S + 1) (zK S) (mrow (mrow (zP S) (zN S) (zchL (zev1 S n9) (zevf S n9 - 1) (zevg S n9 - 1)) (zchP (zev1 S n9) (zevf S n9 - 1) (zevg S n9 - 1))) (zN S) ((va_up (zL S) (zN S) (zchL (zev1 S n9) (zevf S n9 - 1) (zevg S n9 - 1))) (zN S)) ((mrow (zP S) (zN S) (zchL (zev1 S n9) (zevf S n9 - 1) (zevg S n9 - 1)) (zchP (zev1 S n9) (zevf S n9 - 1) (zevg S n9 - 1))) (zN S))) (va_up (va_up (zL S) (zN S) (zchL (zev1 S n9) (zevf S n9 - 1) (zevg S n9 - 1))) (zN S) ((va_up (zL S) (zN S) (zchL (zev1 S n9) (zevf S n9 - 1) (zevg S n9 - 1))) (zN S))) (va_up (zU S) (zN S) (zevf S n9)) (va_up (zV S) (zN S) (zevg S n9)) (va_up (zI (zev1 S n9)) (zN S) true) (zF S) (zO S) (zT S) tp22 0 g22 wo14 z H_34 from ⟨hO, hm0, hm1, hm2, hm3, hm4, hm5, hm6, hm7, hm8, hm9, hm10⟩))) e9.1.symm))
                · have _ := hx
                  have c_28 : 1 = 0 := (nI_eq (a := 1) (b := 0) (by omega) (by omega)).mp c_28
                  exact absurd c_28 (by decide)
              · have _ := hx
                have hF : F9 ≠ 0 := fun q => c_27 ((xpar_m1 (by omega)).mpr q)
                refine lv_aload_n hx hb dX5_evolve_114 rfl (lv_at hl 3 rfl) ?_
                refine va_get (D := xD G) (ci := 6) (v := .ref (ad 4)) (C := RX5) (T := TX5) (N := 14) hx hb hts (by decide +kernel) hown hC.1 (x1 hm0) 0 rfl rfl 4 (by decide) (hts (.fieldLink RX5 19 "BidwhistleModel" "isIn" "[Z") (by decide +kernel)) (fun _ h9 => h9) rfl dX5_evolve_115 ?_
                refine lv_iload hx hb dX5_evolve_118 (lv_at hl 0 rfl) ?_
                rw [xpar_pos hF]
                refine x_zald (G := G) (j := (F9 - 1)) hx hb hC hm4 (by omega) (by first | decide | omega) dX5_evolve_120 ?_
                refine lv_if_ne (tgt := 128) hx hb dX5_evolve_121 (by decide) (fun c_35 => ?_) (fun c_35 => ?_)
                · have _ := hx
                  have hi9 : zI (zev1 S n9) (F9 - 1) = true := xb_1 c_35
                  refine lv_iconst (v := (nI 0)) hx hb dX5_evolve_128 (by decide) ?_
                  refine lv_istore (lv' := [(5, .int (nI 0)), (4, .int (xpar F9)), (3, .int (xpar (zevg S n9))), (2, .int (xpar (zevf S n9))), (0, .ref (ad 0)), (1, .int (nI n9))]) hx hb dX5_evolve_129 hl (by decide) rfl (fun ls hl => ?_)
                  refine lv_iload hx hb dX5_evolve_131 (lv_at hl 0 rfl) ?_
                  refine lv_if_ne (tgt := 138) hx hb dX5_evolve_133 (by decide) (fun c_36 => ?_) (fun c_36 => ?_)
                  · have _ := hx
                    have c_36 : ¬ (0 = 0) := fun z => c_36 ((nI_eq (a := 0) (b := 0) (by omega) (by omega)).mpr z)
                    exact absurd c_36 (by decide)
                  · have _ := hx
                    have c_36 : 0 = 0 := (nI_eq (a := 0) (b := 0) (by omega) (by omega)).mp c_36
                    refine lv_iconst (v := (-1)) hx hb dX5_evolve_136 (by decide) ?_
                    exact x_iret (G := G) hx hb hr rfl dX5_evolve_137 hlocks hS (by first | exact Nat.le_of_ble_eq_true rfl | exact (show 0 ≤ 0 by omega)) (by first | exact Nat.le_of_ble_eq_true rfl | exact (show 0 ≤ 0 by omega)) (by exact (by rw [nI_clamp (show n9 < 2 ^ 31 by omega)]; have e9 : (zevolve S n9).1 = -1 ∧ mevolve S n9 = (mcross (zev1 S n9) (zevf S n9 - 1) (zevg S n9 - 1)) := mlet_in hok (by rw [← hF9]; exact hF) (by rw [← hF9]; exact hi9); exact mP0 (by unfold kevolve; rw [xok_nI hn9 (by decide), if_pos rfl]; exact if_neg (by omega)) (by rw [e9.2]; exact (MX_Y.mpr (show MY G ad (zN S) (zK S) (mrow (zP S) (zN S) (zchL (zev1 S n9) (zevf S n9 - 1) (zevg S n9 - 1)) (zchP (zev1 S n9) (zevf S n9 - 1) (zevg S n9 - 1))) (va_up (zL S) (zN S) (zchL (zev1 S n9) (zevf S n9 - 1) (zevg S n9 - 1))) (zU S) (zV S) (zI (zev1 S n9)) (zF S) (zO S) (zT S) tp22 0 g22 wo14 z H_20 from ⟨hO, hm0, hm1, hm2, hm3, hm4, hm5, hm6, hm7, hm8, hm9, hm10⟩))) e9.1.symm))
                · have _ := hx
                  have hi9 : zI (zev1 S n9) (F9 - 1) = false := xb_0.mp c_35
                  refine lv_iconst (v := (nI 1)) hx hb dX5_evolve_124 (by decide) ?_
                  refine lv_goto (tgt := 129) hx hb dX5_evolve_125 (by decide) ?_
                  refine lv_istore (lv' := [(5, .int (nI 1)), (4, .int (xpar F9)), (3, .int (xpar (zevg S n9))), (2, .int (xpar (zevf S n9))), (0, .ref (ad 0)), (1, .int (nI n9))]) hx hb dX5_evolve_129 hl (by decide) rfl (fun ls hl => ?_)
                  refine lv_iload hx hb dX5_evolve_131 (lv_at hl 0 rfl) ?_
                  refine lv_if_ne (tgt := 138) hx hb dX5_evolve_133 (by decide) (fun c_37 => ?_) (fun c_37 => ?_)
                  · have _ := hx
                    have c_37 : ¬ (1 = 0) := fun z => c_37 ((nI_eq (a := 1) (b := 0) (by omega) (by omega)).mpr z)
                    refine lv_iload hx hb dX5_evolve_138 (lv_at hl 1 rfl) ?_
                    refine lv_iconst (v := (-1)) hx hb dX5_evolve_140 (by decide) ?_
                    refine lv_icmp_ne (tgt := 160) hx hb dX5_evolve_141 (by decide) (fun c_38 => ?_) (fun c_38 => ?_)
                    · have _ := hx
                      refine lv_aload_n hx hb dX5_evolve_160 rfl (lv_at hl 4 rfl) ?_
                      refine va_get (D := xD G) (ci := 6) (v := .ref (ad 4)) (C := RX5) (T := TX5) (N := 14) hx hb hts (by decide +kernel) hown hC.1 (x1 hm0) 0 rfl rfl 4 (by decide) (hts (.fieldLink RX5 19 "BidwhistleModel" "isIn" "[Z") (by decide +kernel)) (fun _ h9 => h9) rfl dX5_evolve_161 ?_
                      refine lv_iload hx hb dX5_evolve_164 (lv_at hl 1 rfl) ?_
                      rw [xpar_pos hF]
                      refine lv_iconst (v := (nI 1)) hx hb dX5_evolve_166 (by decide) ?_
                      refine x_zastn (G := G) (j := (F9 - 1)) hx hb hC hS (hO.2 4 (by omega) (by omega)) hm4 (by omega) (by first | decide | omega) (by rfl) dX5_evolve_167 (fun H_40 locs hm4 hc_39 hS => ?_)
                      have hm0 := hc_39.at hm0 (xn1 (hO.ne (i := 0) (j := 4) (by omega) (by omega) (by omega)))
                      have hm1 := hc_39.at hm1 (xn1 (hO.ne (i := 1) (j := 4) (by omega) (by omega) (by omega)))
                      have hm2 := hc_39.at hm2 (xn1 (hO.ne (i := 2) (j := 4) (by omega) (by omega) (by omega)))
                      have hm3 := hc_39.at hm3 (xn1 (hO.ne (i := 3) (j := 4) (by omega) (by omega) (by omega)))
                      have hm5 := hc_39.at hm5 (xn1 (hO.ne (i := 5) (j := 4) (by omega) (by omega) (by omega)))
                      have hm6 := hc_39.at hm6 (xn1 (hO.ne (i := 6) (j := 4) (by omega) (by omega) (by omega)))
                      have hm7 := hc_39.at hm7 (xn1 (hO.ne (i := 7) (j := 4) (by omega) (by omega) (by omega)))
                      have hm8 := hc_39.at hm8 (xn1 (hO.ne (i := 8) (j := 4) (by omega) (by omega) (by omega)))
                      have hm9 := hc_39.at hm9 (xn1 (hO.ne (i := 9) (j := 4) (by omega) (by omega) (by omega)))
                      have hm10 := hc_39.at hm10 (xn1 (hO.ne (i := 10) (j := 4) (by omega) (by omega) (by omega)))
                      have hm4 : zA G (ad 4) 20 (fun j => xb (va_up (zI (zev1 S n9)) (F9 - 1) true j)) H_40 := by rw [← mup_b]; exact hm4
                      refine lv_iload hx hb dX5_evolve_168 (lv_at hl 1 rfl) ?_
                      exact x_iret (G := G) hx hb hr rfl dX5_evolve_170 hlocks hS (by first | exact Nat.le_of_ble_eq_true rfl | exact (show 0 ≤ 0 by omega)) (by first | exact Nat.le_of_ble_eq_true rfl | exact (show 0 ≤ 0 by omega)) (by exact (by rw [nI_clamp (show n9 < 2 ^ 31 by omega)]; have e9 : (zevolve S n9).1 = nI (F9 - 1) ∧ mevolve S n9 = zpool (mcross (zev1 S n9) (zevf S n9 - 1) (zevg S n9 - 1)) (F9 - 1) true := (by rw [hF9]; exact mlet_old hok (by rw [← hF9]; exact hF) (by rw [← hF9, hi9]; decide)); exact mP0 (by unfold kevolve; rw [xok_nI hn9 (by decide), if_pos rfl]; exact if_neg (by omega)) (by rw [e9.2]; exact (MX_Y.mpr (show MY G ad (zN S) (zK S) (mrow (zP S) (zN S) (zchL (zev1 S n9) (zevf S n9 - 1) (zevg S n9 - 1)) (zchP (zev1 S n9) (zevf S n9 - 1) (zevg S n9 - 1))) (va_up (zL S) (zN S) (zchL (zev1 S n9) (zevf S n9 - 1) (zevg S n9 - 1))) (zU S) (zV S) (va_up (zI (zev1 S n9)) (F9 - 1) true) (zF S) (zO S) (zT S) tp22 0 g22 wo14 z H_40 from ⟨hO, hm0, hm1, hm2, hm3, hm4, hm5, hm6, hm7, hm8, hm9, hm10⟩))) (by rw [e9.1, xpar_pos hF])))
                    · have _ := hx
                      exact absurd ((xpar_m1 (by omega)).mp (by first | exact c_38 | exact Classical.not_not.mp c_38)) hF
                  · have _ := hx
                    have c_37 : 1 = 0 := (nI_eq (a := 1) (b := 0) (by omega) (by omega)).mp c_37
                    exact absurd c_37 (by decide)
        · have _ := hx
          have c_11 : 1 = 0 := (nI_eq (a := 1) (b := 0) (by omega) (by omega)).mp c_11
          exact absurd c_11 (by decide)
      · have _ := hx
        have c_7 : (zN S) = 20 := (nI_eq (a := (zN S)) (b := 20) (by omega) (by omega)).mp c_7
        refine lv_iconst (v := (nI 2)) hx hb dX5_evolve_29 (by decide) ?_
        refine lv_goto (tgt := 34) hx hb dX5_evolve_30 (by decide) ?_
        have hsz := hS.1
        refine x_call (px := xNo) (vx_runV (As := [.int (nI 2)]) (rest := []) ⟨hx, hb, hml, hown, hts⟩ (c_X5_goesk l hfl G ad S tp th g wo z 2 H ⟨hO, hm0, hm1, hm2, hm3, hm4, hm5, hm6, hm7, hm8, hm9, hm10⟩ (by decide)) (cwV 1 hts gX5_evolve_X5_goes rfl rfl rfl (by decide +kernel) ⟨(Nat.le_of_ble_eq_true rfl), (Nat.le_of_ble_eq_true rfl)⟩) (xPreV hC hS hm0 (q := (RX5, TX5, 14)) rfl) rfl rfl hl.1 rfl (lv_room (Nat.le_of_ble_eq_true rfl)) dX5_evolve_34 ⟨(by first | exact Nat.le_of_ble_eq_true rfl | exact (show 0 + 0 ≤ 0 by omega)), (by first | exact Nat.le_of_ble_eq_true rfl | exact (show 0 + 0 ≤ 0 by omega))⟩) hS (fun _ h => h) (fun _ _ _ _ _ h => False.elim h) (fun v H_41 locs hp hz hk_42 hS => ?_)
        obtain ⟨rfl, hMM43⟩ := hp
        obtain ⟨-, hm0, hm1, hm2, hm3, hm4, hm5, hm6, hm7, hm8, hm9, hm10⟩ := id hMM43
        refine lv_if_ne (tgt := 42) hx hb dX5_evolve_37 (by decide) (fun c_44 => ?_) (fun c_44 => ?_)
        · have _ := hx
          have c_44 : ¬ (0 = 0) := fun z => c_44 ((nI_eq (a := 0) (b := 0) (by omega) (by omega)).mpr z)
          exact absurd c_44 (by decide)
        · have _ := hx
          have c_44 : 0 = 0 := (nI_eq (a := 0) (b := 0) (by omega) (by omega)).mp c_44
          refine lv_iconst (v := (nI 0)) hx hb dX5_evolve_40 (by decide) ?_
          exact x_iret (G := G) hx hb hr rfl dX5_evolve_41 hlocks hS (by first | exact Nat.le_of_ble_eq_true rfl | exact (show 0 ≤ 0 by omega)) (by first | exact Nat.le_of_ble_eq_true rfl | exact (show 0 ≤ 0 by omega)) (by exact mP1 1 (by unfold kevolve; rw [xok_nI hn9 (by decide), if_pos rfl]; exact if_pos (by omega)) ⟨hO, hm0, hm1, hm2, hm3, hm4, hm5, hm6, hm7, hm8, hm9, hm10⟩)
  · have _ := hx
    have hk_u9 : xok u9 4 = false := xb_0.mp (by first | exact c_1 | exact Classical.not_not.mp c_1)
    refine lv_iconst (v := (nI 1)) hx hb dX5_evolve_8 (by decide) ?_
    refine lv_goto (tgt := 34) hx hb dX5_evolve_9 (by decide) ?_
    have hsz := hS.1
    refine x_call (px := xNo) (vx_runV (As := [.int (nI 1)]) (rest := []) ⟨hx, hb, hml, hown, hts⟩ (c_X5_goesk l hfl G ad S tp th g wo z 1 H ⟨hO, hm0, hm1, hm2, hm3, hm4, hm5, hm6, hm7, hm8, hm9, hm10⟩ (by decide)) (cwV 1 hts gX5_evolve_X5_goes rfl rfl rfl (by decide +kernel) ⟨(Nat.le_of_ble_eq_true rfl), (Nat.le_of_ble_eq_true rfl)⟩) (xPreV hC hS hm0 (q := (RX5, TX5, 14)) rfl) rfl rfl hl.1 rfl (lv_room (Nat.le_of_ble_eq_true rfl)) dX5_evolve_34 ⟨(by first | exact Nat.le_of_ble_eq_true rfl | exact (show 0 + 0 ≤ 0 by omega)), (by first | exact Nat.le_of_ble_eq_true rfl | exact (show 0 + 0 ≤ 0 by omega))⟩) hS (fun _ h => h) (fun _ _ _ _ _ h => False.elim h) (fun v H_45 locs hp hz hk_46 hS => ?_)
    obtain ⟨rfl, hMM47⟩ := hp
    obtain ⟨-, hm0, hm1, hm2, hm3, hm4, hm5, hm6, hm7, hm8, hm9, hm10⟩ := id hMM47
    refine lv_if_ne (tgt := 42) hx hb dX5_evolve_37 (by decide) (fun c_48 => ?_) (fun c_48 => ?_)
    · have _ := hx
      have c_48 : ¬ (0 = 0) := fun z => c_48 ((nI_eq (a := 0) (b := 0) (by omega) (by omega)).mpr z)
      exact absurd c_48 (by decide)
    · have _ := hx
      have c_48 : 0 = 0 := (nI_eq (a := 0) (b := 0) (by omega) (by omega)).mp c_48
      refine lv_iconst (v := (nI 0)) hx hb dX5_evolve_40 (by decide) ?_
      exact x_iret (G := G) hx hb hr rfl dX5_evolve_41 hlocks hS (by first | exact Nat.le_of_ble_eq_true rfl | exact (show 0 ≤ 0 by omega)) (by first | exact Nat.le_of_ble_eq_true rfl | exact (show 0 ≤ 0 by omega)) (by exact mP1 0 (by unfold kevolve; rw [hk_u9]; rfl) ⟨hO, hm0, hm1, hm2, hm3, hm4, hm5, hm6, hm7, hm8, hm9, hm10⟩)
