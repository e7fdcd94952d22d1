/-! the game: worths, rows, crossing -/
theorem xl1 {P : Nat → Prop} {a : Nat} (h : P a) : ∀ j ∈ [a], P j := fun j hj => by rcases List.mem_cons.mp hj with z | z; rw [z]; exact h; cases z
theorem xl2 {P : Nat → Prop} {a b : Nat} (h : P a) (h2 : P b) : ∀ j ∈ [a, b], P j := fun j hj => by rcases List.mem_cons.mp hj with z | z; rw [z]; exact h; exact xl1 h2 j z
theorem zwsum_no {S : zS} {u i j : Nat} (h : ¬ (zI S j = true ∧ j ≠ i)) : zwsum S u i (j + 1) = zwsum S u i j := by show zwsum S u i j + (if zI S j = true ∧ j ≠ i then zpairs S u i j (zK S) else 0) = _; rw [if_neg h, Int.add_zero]
theorem zwsum_yes {S : zS} {u i j : Nat} (h : zI S j = true ∧ j ≠ i) : zwsum S u i (j + 1) = zwsum S u i j + zpairs S u i j (zK S) := by show zwsum S u i j + (if zI S j = true ∧ j ≠ i then zpairs S u i j (zK S) else 0) = _; rw [if_pos h]
theorem zrow_no {S : zS} {u i v w j : Nat} (h : ¬ (zI S j = true ∧ j ≠ i)) : zrow S u i v w (j + 1) = zrow S u i v w j := by show zrow S u i v w j + (if zI S j = true ∧ j ≠ i then zprof S u i j v w else 0) = _; rw [if_neg h, Int.add_zero]
theorem zrow_yes {S : zS} {u i v w j : Nat} (h : zI S j = true ∧ j ≠ i) : zrow S u i v w (j + 1) = zrow S u i v w j + zprof S u i j v w := by show zrow S u i v w j + (if zI S j = true ∧ j ≠ i then zprof S u i j v w else 0) = _; rw [if_pos h]
theorem xpar_eq {i b : Nat} (hi : i ≤ 1000) (hb : b ≤ 1000) : nI i = xpar b ↔ i + 1 = b := by
  unfold xpar
  by_cases c : b = 0
  · rw [if_pos c]
    exact ⟨fun h => by have := congrArg Int32.toInt h; rw [nI_toInt (by omega), show (-1 : Int32).toInt = -1 from rfl] at this; omega, fun h => by omega⟩
  · rw [if_neg c, nI_eq (by omega) (by omega)]; omega
theorem xpar_m1 {b : Nat} (hb : b ≤ 1000) : xpar b = -1 ↔ b = 0 := by
  unfold xpar
  by_cases c : b = 0
  · rw [if_pos c]; exact ⟨fun _ => c, fun _ => rfl⟩
  · rw [if_neg c]
    exact ⟨fun h => by have := congrArg Int32.toInt h; rw [nI_toInt (by omega), show (-1 : Int32).toInt = -1 from rfl] at this; omega, fun h => absurd h c⟩
theorem xpar_pos {b : Nat} (h : b ≠ 0) : xpar b = nI (b - 1) := if_neg h
theorem zmost_yes {p : Nat → Bool} {W : Nat → Int} {b i : Nat} (h : p i = true ∧ i + 1 ≠ b ∧ (zmost p W b i = 0 ∨ W (zmost p W b i - 1) < W i)) : zmost p W b (i + 1) = i + 1 := if_pos h
theorem zmost_no {p : Nat → Bool} {W : Nat → Int} {b i : Nat} (h : ¬ (p i = true ∧ i + 1 ≠ b ∧ (zmost p W b i = 0 ∨ W (zmost p W b i - 1) < W i))) : zmost p W b (i + 1) = zmost p W b i := if_neg h
theorem zleast_yes {S : zS} {u i : Nat} (h : zI S i = true ∧ (zleast S u i = 0 ∨ zworth S u i ≤ zworth S u (zleast S u i - 1))) : zleast S u (i + 1) = i + 1 := if_pos h
theorem zleast_no {S : zS} {u i : Nat} (h : ¬ (zI S i = true ∧ (zleast S u i = 0 ∨ zworth S u i ≤ zworth S u (zleast S u i - 1)))) : zleast S u (i + 1) = zleast S u i := if_neg h
/-- the child of strategies i and j -/
def zchL (S : zS) (i j : Nat) : Nat := (zL S i + 1) / 2 + zL S j / 2
def zchP (S : zS) (i j : Nat) : Nat → Nat := fun k => if k < (zL S i + 1) / 2 then zP S i k else zP S j (zL S j - zL S j / 2 + (k - (zL S i + 1) / 2))
set_option maxHeartbeats 4000000 in
set_option maxRecDepth 100000 in
/-- profitOfRounds -/
theorem c_X4_profitOfRounds (l : Launch) (hfl : l.stackTraces = false) (G : xG) (ad : Nat → Nat) (S : zS) (kp : Nat → Nat) (m9 fb : Int32) (k9 : Nat) (a9 : Nat → Option Nat) (u9 i9 j9 : Nat) (f1 f2 : Nat → Int32) (H : Heap) (hx0 : xB G ad fb (zK S) H) (hl9 : zList G ad (zN S) m9 k9 a9 H) (hW : zW S) (hst : ∀ i, i < zN S → zStrat G ad S kp i H) (hu9 : u9 < 4) (hi9 : i9 < zN S) (hj9 : j9 < zN S) (hpr : zPairs G ad S f1 f2 H) : xMet l G yX4_profitOfRounds wsX4_profitOfRounds ({ frames := 3, cells := 0, slots := 0, locals := 73 } : Room) [.ref (ad 0), .int (nI u9), .ref (ad (22 + 6 * i9)), .ref (ad (22 + 6 * j9))] H (xi H (Int32.ofInt (zpairs S u9 i9 j9 (zK S)))) (xNo) := by
  refine vx_ofW (cc := cX4_profitOfRounds) (maxL := 8) (ret := (some .int)) (by decide) rfl ?_
  intro Pg Ev s m args below meth c s₁ B hml hout hv
  obtain ⟨rfl, hH, hC⟩ := hv
  have hx := B.exec
  have hb := B.bytes
  have hr := B.returns
  have hts := atoms_spec (ws := wsX4_profitOfRounds) B.pre
  have hown : s.vm.findClass RX4 = some m.cls := findClass_of_methodNamed B.named
  have hlocks := B.notSynchronized
  rw [hH]
  have hS : va_S (xA G) s.heap H [] := by rw [← hH]; exact va_S.rf
  generalize ([] : List Loc) = locs at hS ⊢
  have hl := lv_entry [.ref (ad 0), .int (nI u9), .ref (ad (22 + 6 * i9)), .ref (ad (22 + 6 * j9))] (n := 8) (Nat.le_of_ble_eq_true rfl)
  rw [lg_entry_eq]
  generalize (lg_sl [.ref (ad 0), .int (nI u9), .ref (ad (22 + 6 * i9)), .ref (ad (22 + 6 * j9))] ++ List.replicate (8 - (lg_sl [.ref (ad 0), .int (nI u9), .ref (ad (22 + 6 * i9)), .ref (ad (22 + 6 * j9))]).length) Slot.unset).toArray = ls at hl ⊢
  have hl : lv_has ls 8 [(0, .ref (ad 0)), (1, .int (nI u9)), (2, .ref (ad (22 + 6 * i9))), (3, .ref (ad (22 + 6 * j9)))] := hl
  have hl0 := hl9.1.1
  have hn20 := hW.1
  have hK6 : zK S ≤ 6 := hW.2.2.2.2.2.2.2.1
  have hOT : ∀ j, zO S j ≤ 99 ∧ zT S j ≤ 99 := hW.2.2.2.2.2.2.2.2
  obtain ⟨h12, h13, h14, h15, hq9⟩ := hpr
  refine lv_iconst (v := (nI 0)) hx hb dX4_profitOfRounds_0 (by decide) ?_
  refine lv_istore (lv' := [(4, .int (nI 0)), (0, .ref (ad 0)), (1, .int (nI u9)), (2, .ref (ad (22 + 6 * i9))), (3, .ref (ad (22 + 6 * j9)))]) hx hb dX4_profitOfRounds_1 hl (by decide) rfl (fun ls hl => ?_)
  refine lv_iconst (v := (nI 0)) hx hb dX4_profitOfRounds_3 (by decide) ?_
  refine lv_istore (lv' := [(5, .int (nI 0)), (4, .int (nI 0)), (0, .ref (ad 0)), (1, .int (nI u9)), (2, .ref (ad (22 + 6 * i9))), (3, .ref (ad (22 + 6 * j9)))]) hx hb dX4_profitOfRounds_4 hl (by decide) rfl (fun ls hl => ?_)
  have L : ∀ (kL : Nat) (q : Nat) (s9 : Int32), (q ≤ zK S) → (s9 = Int32.ofInt (zpairs S u9 i9 j9 q)) → zK S - q < kL → ∀ (locs : List Loc), va_S (xA G) s.heap H locs → ∀ ls : Array Slot, lv_has ls 8 [(0, .ref (ad 0)), (1, .int (nI u9)), (2, .ref (ad (22 + 6 * i9))), (3, .ref (ad (22 + 6 * j9))), (4, .int s9), (5, .int (nI q))] → W Pg l Ev (headSpec wsX4_profitOfRounds ({ frames := 3, cells := 0, slots := 0, locals := 73 } : Room)).room s m ([.ref (ad 0), .int (nI u9), .ref (ad (22 + 6 * i9)), .ref (ad (22 + 6 * j9))] : List Value).toArray below meth c H locs (0) (0) (vx_MQ below (xQ G (xi H (Int32.ofInt (zpairs S u9 i9 j9 (zK S))))) (xX G (xNo)) ([.ref (ad 0), .int (nI u9), .ref (ad (22 + 6 * i9)), .ref (ad (22 + 6 * j9))] : List Value).toArray s ({ frames := 3, cells := 0, slots := 0, locals := 73 } : Room).cells ({ frames := 3, cells := 0, slots := 0, locals := 73 } : Room).slots (xA G)) (F0 m 6 ls []) := by
    intro kL
    induction kL with
    | zero => intro q s9 hq hs9 hk; exact absurd hk (Nat.not_lt_zero _)
    | succ kL ihL =>
      intro q s9 hq hs9 hk locs hS ls hl
      refine lv_iload hx hb dX4_profitOfRounds_6 (lv_at hl 5 rfl) ?_
      refine lv_aload_n hx hb dX4_profitOfRounds_8 rfl (lv_at hl 0 rfl) ?_
      refine va_get (D := xD G) (ci := 5) (v := .int (nI (zK S))) (C := RX4) (T := TX4) (N := 11) hx hb hts (by decide +kernel) hown hC.1 (x1 hx0) 0 rfl rfl 7 (by decide) (hts (.fieldLink RX4 49 "Bidwhistle" "pairsTold" "I") (by decide +kernel)) (fun _ h9 => h9) rfl dX4_profitOfRounds_9 ?_
      refine lv_icmp_ge (tgt := 73) hx hb dX4_profitOfRounds_12 (by decide) (fun c_1 => ?_) (fun c_1 => ?_)
      · have _ := hx
        have c_1 : (zK S) ≤ q := (nI_leI (a := (zK S)) (b := q) (by omega) (by omega)).mp c_1
        refine lv_iload hx hb dX4_profitOfRounds_73 (lv_at hl 4 rfl) ?_
        exact x_iret (G := G) hx hb hr rfl dX4_profitOfRounds_75 hlocks hS (by first | exact Nat.le_of_ble_eq_true rfl | exact (show 0 ≤ 0 by omega)) (by first | exact Nat.le_of_ble_eq_true rfl | exact (show 0 ≤ 0 by omega)) ⟨rfl, by rw [hs9, show q = zK S by omega]⟩
      · have _ := hx
        have c_1 : ¬ ((zK S) ≤ q) := fun z => c_1 ((nI_leI (a := (zK S)) (b := q) (by omega) (by omega)).mpr z)
        refine lv_aload_n hx hb dX4_profitOfRounds_15 rfl (lv_at hl 0 rfl) ?_
        refine va_get (D := xD G) (ci := 5) (v := .ref (ad 12)) (C := RX4) (T := TX4) (N := 11) hx hb hts (by decide +kernel) hown hC.1 (x1 hx0) 0 rfl rfl 5 (by decide) (hts (.fieldLink RX4 42 "Bidwhistle" "firstValues" "LBidwhistle$Row;") (by decide +kernel)) (fun _ h9 => h9) rfl dX4_profitOfRounds_16 ?_
        refine lv_iload hx hb dX4_profitOfRounds_19 (lv_at hl 5 rfl) ?_
        refine x_intE (vx_runV (As := [.int (nI q)]) (rest := []) ⟨hx, hb, hml, hown, hts⟩ (c_X1_at l hfl G (ad 12) (ad 13) 6 (q) f1 H h12 h13 (by omega) (by decide)) (cwV 1 hts gX4_profitOfRounds_X1_at rfl rfl rfl (by decide +kernel) ⟨(Nat.le_of_ble_eq_true rfl), (Nat.le_of_ble_eq_true rfl)⟩) (xPreV hC hS h12 (q := (RX1, TX1, 1)) rfl) rfl rfl hl.1 rfl (lv_room (Nat.le_of_ble_eq_true rfl)) dX4_profitOfRounds_21 ⟨(by first | exact Nat.le_of_ble_eq_true rfl | exact (show 0 + 0 ≤ 0 by omega)), (by first | exact Nat.le_of_ble_eq_true rfl | exact (show 0 + 0 ≤ 0 by omega))⟩) hS (fun locs hS => ?_)
        rw [(hq9 q (by omega)).1]
        refine lv_istore (lv' := [(6, .int (nI (zO S q))), (0, .ref (ad 0)), (1, .int (nI u9)), (2, .ref (ad (22 + 6 * i9))), (3, .ref (ad (22 + 6 * j9))), (4, .int s9), (5, .int (nI q))]) hx hb dX4_profitOfRounds_24 hl (by decide) rfl (fun ls hl => ?_)
        refine lv_aload_n hx hb dX4_profitOfRounds_26 rfl (lv_at hl 1 rfl) ?_
        refine va_get (D := xD G) (ci := 5) (v := .ref (ad 14)) (C := RX4) (T := TX4) (N := 11) hx hb hts (by decide +kernel) hown hC.1 (x1 hx0) 0 rfl rfl 6 (by decide) (hts (.fieldLink RX4 46 "Bidwhistle" "secondValues" "LBidwhistle$Row;") (by decide +kernel)) (fun _ h9 => h9) rfl dX4_profitOfRounds_27 ?_
        refine lv_iload hx hb dX4_profitOfRounds_30 (lv_at hl 6 rfl) ?_
        refine x_intE (vx_runV (As := [.int (nI q)]) (rest := []) ⟨hx, hb, hml, hown, hts⟩ (c_X1_at l hfl G (ad 14) (ad 15) 6 (q) f2 H h14 h15 (by omega) (by decide)) (cwV 1 hts gX4_profitOfRounds_X1_at rfl rfl rfl (by decide +kernel) ⟨(Nat.le_of_ble_eq_true rfl), (Nat.le_of_ble_eq_true rfl)⟩) (xPreV hC hS h14 (q := (RX1, TX1, 1)) rfl) rfl rfl hl.1 rfl (lv_room (Nat.le_of_ble_eq_true rfl)) dX4_profitOfRounds_32 ⟨(by first | exact Nat.le_of_ble_eq_true rfl | exact (show 0 + 0 ≤ 0 by omega)), (by first | exact Nat.le_of_ble_eq_true rfl | exact (show 0 + 0 ≤ 0 by omega))⟩) hS (fun locs hS => ?_)
        rw [(hq9 q (by omega)).2]
        refine lv_istore (lv' := [(7, .int (nI (zT S q))), (6, .int (nI (zO S q))), (0, .ref (ad 0)), (1, .int (nI u9)), (2, .ref (ad (22 + 6 * i9))), (3, .ref (ad (22 + 6 * j9))), (4, .int s9), (5, .int (nI q))]) hx hb dX4_profitOfRounds_35 hl (by decide) rfl (fun ls hl => ?_)
        refine lv_iload hx hb dX4_profitOfRounds_37 (lv_at hl 6 rfl) ?_
        refine lv_iload_n hx hb dX4_profitOfRounds_39 rfl (lv_at hl 3 rfl) ?_
        refine lv_aload_n hx hb dX4_profitOfRounds_40 rfl (lv_at hl 4 rfl) ?_
        refine lv_aload_n hx hb dX4_profitOfRounds_41 rfl (lv_at hl 5 rfl) ?_
        refine lv_iload hx hb dX4_profitOfRounds_42 (lv_at hl 1 rfl) ?_
        refine lv_iload hx hb dX4_profitOfRounds_44 (lv_at hl 0 rfl) ?_
        refine x_intE (vx_runS (As := [.int (nI u9), .ref (ad (22 + 6 * i9)), .ref (ad (22 + 6 * j9)), .int (nI (zO S q)), .int (nI (zT S q))]) (rest := [.int s9]) ⟨hx, hb, hml, hown, hts⟩ (c_X4_profitAgainst l hfl G ad S kp u9 i9 j9 (zO S q) (zT S q) H hW hst hu9 (by omega) (by omega) (by have := hOT q; omega) (by have := hOT q; omega)) (va_cwS 5 hts gX4_profitOfRounds_X4_profitAgainst rfl rfl rfl (by decide +kernel) ⟨(Nat.le_of_ble_eq_true rfl), (Nat.le_of_ble_eq_true rfl)⟩) (xPreS hC hS) rfl rfl hl.1 rfl (lv_room (Nat.le_of_ble_eq_true rfl)) dX4_profitOfRounds_46 ⟨(by first | exact Nat.le_of_ble_eq_true rfl | exact (show 0 + 0 ≤ 0 by omega)), (by first | exact Nat.le_of_ble_eq_true rfl | exact (show 0 + 0 ≤ 0 by omega))⟩) hS (fun locs hS => ?_)
        refine lv_iadd hx hb dX4_profitOfRounds_49 ?_
        refine lv_istore (lv' := [(4, .int (s9 + (Int32.ofInt (zprof S u9 i9 j9 (zO S q) (zT S q))))), (7, .int (nI (zT S q))), (6, .int (nI (zO S q))), (0, .ref (ad 0)), (1, .int (nI u9)), (2, .ref (ad (22 + 6 * i9))), (3, .ref (ad (22 + 6 * j9))), (5, .int (nI q))]) hx hb dX4_profitOfRounds_50 hl (by decide) rfl (fun ls hl => ?_)
        refine lv_iload hx hb dX4_profitOfRounds_52 (lv_at hl 0 rfl) ?_
        refine lv_iload_n hx hb dX4_profitOfRounds_54 rfl (lv_at hl 4 rfl) ?_
        refine lv_aload_n hx hb dX4_profitOfRounds_55 rfl (lv_at hl 5 rfl) ?_
        refine lv_aload_n hx hb dX4_profitOfRounds_56 rfl (lv_at hl 6 rfl) ?_
        refine lv_iload hx hb dX4_profitOfRounds_57 (lv_at hl 1 rfl) ?_
        refine lv_iload hx hb dX4_profitOfRounds_59 (lv_at hl 2 rfl) ?_
        refine x_intE (vx_runS (As := [.int (nI u9), .ref (ad (22 + 6 * i9)), .ref (ad (22 + 6 * j9)), .int (nI (zT S q)), .int (nI (zO S q))]) (rest := [.int (s9 + (Int32.ofInt (zprof S u9 i9 j9 (zO S q) (zT S q))))]) ⟨hx, hb, hml, hown, hts⟩ (c_X4_profitAgainst l hfl G ad S kp u9 i9 j9 (zT S q) (zO S q) H hW hst hu9 (by omega) (by omega) (by have := hOT q; omega) (by have := hOT q; omega)) (va_cwS 5 hts gX4_profitOfRounds_X4_profitAgainst rfl rfl rfl (by decide +kernel) ⟨(Nat.le_of_ble_eq_true rfl), (Nat.le_of_ble_eq_true rfl)⟩) (xPreS hC hS) rfl rfl hl.1 rfl (lv_room (Nat.le_of_ble_eq_true rfl)) dX4_profitOfRounds_61 ⟨(by first | exact Nat.le_of_ble_eq_true rfl | exact (show 0 + 0 ≤ 0 by omega)), (by first | exact Nat.le_of_ble_eq_true rfl | exact (show 0 + 0 ≤ 0 by omega))⟩) hS (fun locs hS => ?_)
        refine lv_iadd hx hb dX4_profitOfRounds_64 ?_
        refine lv_istore (lv' := [(4, .int ((s9 + (Int32.ofInt (zprof S u9 i9 j9 (zO S q) (zT S q)))) + (Int32.ofInt (zprof S u9 i9 j9 (zT S q) (zO S q))))), (7, .int (nI (zT S q))), (6, .int (nI (zO S q))), (0, .ref (ad 0)), (1, .int (nI u9)), (2, .ref (ad (22 + 6 * i9))), (3, .ref (ad (22 + 6 * j9))), (5, .int (nI q))]) hx hb dX4_profitOfRounds_65 hl (by decide) rfl (fun ls hl => ?_)
        refine lv_iinc (v := (nI (q + 1))) (lv' := [(5, .int (nI (q + 1))), (4, .int ((s9 + (Int32.ofInt (zprof S u9 i9 j9 (zO S q) (zT S q)))) + (Int32.ofInt (zprof S u9 i9 j9 (zT S q) (zO S q))))), (7, .int (nI (zT S q))), (6, .int (nI (zO S q))), (0, .ref (ad 0)), (1, .int (nI u9)), (2, .ref (ad (22 + 6 * i9))), (3, .ref (ad (22 + 6 * j9)))]) hx hb dX4_profitOfRounds_67 hl (k := 7) rfl (xinc (by decide)) (by decide) rfl (fun ls hl => ?_)
        refine lv_goto (tgt := 6) hx hb dX4_profitOfRounds_70 (by decide) ?_
        exact ihL (q + 1) (((s9 + (Int32.ofInt (zprof S u9 i9 j9 (zO S q) (zT S q)))) + (Int32.ofInt (zprof S u9 i9 j9 (zT S q) (zO S q))))) (by omega) (by rw [hs9, ← Int32.ofInt_add, ← Int32.ofInt_add, Int.add_assoc]; rfl) (by omega) _ hS ls (lv_sub hl [4, 5, 6, 7, 1, 0] rfl)
  exact L _ (0) (nI 0) (Nat.zero_le _) (rfl) (Nat.lt_succ_self _) _ hS ls (lv_sub hl [2, 3, 4, 5, 1, 0] rfl)

set_option maxHeartbeats 4000000 in
set_option maxRecDepth 100000 in
/-- worthByStrategies -/
theorem c_X4_worthByStrategies (l : Launch) (hfl : l.stackTraces = false) (G : xG) (ad : Nat → Nat) (S : zS) (kp : Nat → Nat) (m9 fb : Int32) (k9 : Nat) (a9 : Nat → Option Nat) (u9 i9 : Nat) (f1 f2 : Nat → Int32) (H : Heap) (hx0 : xB G ad fb (zK S) H) (hl9 : zList G ad (zN S) m9 k9 a9 H) (hW : zW S) (hst : ∀ i, i < zN S → zStrat G ad S kp i H) (hu9 : u9 < 4) (hi9 : i9 < zN S) (hpr : zPairs G ad S f1 f2 H) : xMet l G yX4_worthByStrategies wsX4_worthByStrategies ({ frames := 4, cells := 0, slots := 0, locals := 100 } : Room) [.ref (ad 0), .int (nI u9), .ref (ad (22 + 6 * i9))] H (xi H (Int32.ofInt (zworth S u9 i9))) (xNo) := by
  refine vx_ofW (cc := cX4_worthByStrategies) (maxL := 6) (ret := (some .int)) (by decide) rfl ?_
  intro Pg Ev s m args below meth c s₁ B hml hout hv
  obtain ⟨rfl, hH, hC⟩ := hv
  have hx := B.exec
  have hb := B.bytes
  have hr := B.returns
  have hts := atoms_spec (ws := wsX4_worthByStrategies) B.pre
  have hown : s.vm.findClass RX4 = some m.cls := findClass_of_methodNamed B.named
  have hlocks := B.notSynchronized
  rw [hH]
  have hS : va_S (xA G) s.heap H [] := by rw [← hH]; exact va_S.rf
  generalize ([] : List Loc) = locs at hS ⊢
  have hl := lv_entry [.ref (ad 0), .int (nI u9), .ref (ad (22 + 6 * i9))] (n := 6) (Nat.le_of_ble_eq_true rfl)
  rw [lg_entry_eq]
  generalize (lg_sl [.ref (ad 0), .int (nI u9), .ref (ad (22 + 6 * i9))] ++ List.replicate (6 - (lg_sl [.ref (ad 0), .int (nI u9), .ref (ad (22 + 6 * i9))]).length) Slot.unset).toArray = ls at hl ⊢
  have hl : lv_has ls 6 [(0, .ref (ad 0)), (1, .int (nI u9)), (2, .ref (ad (22 + 6 * i9)))] := hl
  have hl0 := hl9.1.1
  have hn20 := hW.1
  obtain ⟨ts_1, sls_1, fs_1, hss_1, hps_1, hbs_1, hvs_1, hts_1, hfs_1, hzs_1⟩ := hst i9 (by omega)
  refine lv_iconst (v := (nI 0)) hx hb dX4_worthByStrategies_0 (by decide) ?_
  refine lv_istore_n (lv' := [(3, .int (nI 0)), (0, .ref (ad 0)), (1, .int (nI u9)), (2, .ref (ad (22 + 6 * i9)))]) hx hb dX4_worthByStrategies_1 rfl hl (by decide) rfl (fun ls hl => ?_)
  refine lv_iconst (v := (nI 0)) hx hb dX4_worthByStrategies_2 (by decide) ?_
  refine lv_istore (lv' := [(4, .int (nI 0)), (3, .int (nI 0)), (0, .ref (ad 0)), (1, .int (nI u9)), (2, .ref (ad (22 + 6 * i9)))]) hx hb dX4_worthByStrategies_3 hl (by decide) rfl (fun ls hl => ?_)
  have L : ∀ (kL : Nat) (i : Nat) (s9 : Int32), (i ≤ zN S) → (s9 = Int32.ofInt (zwsum S u9 i9 i)) → zN S - i < kL → ∀ (locs : List Loc), va_S (xA G) s.heap H locs → ∀ ls : Array Slot, lv_has ls 6 [(0, .ref (ad 0)), (1, .int (nI u9)), (2, .ref (ad (22 + 6 * i9))), (3, .int s9), (4, .int (nI i))] → W Pg l Ev (headSpec wsX4_worthByStrategies ({ frames := 4, cells := 0, slots := 0, locals := 100 } : Room)).room s m ([.ref (ad 0), .int (nI u9), .ref (ad (22 + 6 * i9))] : List Value).toArray below meth c H locs (0) (0) (vx_MQ below (xQ G (xi H (Int32.ofInt (zworth S u9 i9)))) (xX G (xNo)) ([.ref (ad 0), .int (nI u9), .ref (ad (22 + 6 * i9))] : List Value).toArray s ({ frames := 4, cells := 0, slots := 0, locals := 100 } : Room).cells ({ frames := 4, cells := 0, slots := 0, locals := 100 } : Room).slots (xA G)) (F0 m 5 ls []) := by
    intro kL
    induction kL with
    | zero => intro i s9 hi hs9 hk; exact absurd hk (Nat.not_lt_zero _)
    | succ kL ihL =>
      intro i s9 hi hs9 hk locs hS ls hl
      refine lv_iload hx hb dX4_worthByStrategies_5 (lv_at hl 4 rfl) ?_
      refine lv_aload_n hx hb dX4_worthByStrategies_7 rfl (lv_at hl 0 rfl) ?_
      refine va_get (D := xD G) (ci := 5) (v := .ref (ad 10)) (C := RX4) (T := TX4) (N := 11) hx hb hts (by decide +kernel) hown hC.1 (x1 hx0) 0 rfl rfl 3 (by decide) (hts (.fieldLink RX4 29 "Bidwhistle" "strategies" "Ljava/util/ArrayList;") (by decide +kernel)) (fun _ h9 => h9) rfl dX4_worthByStrategies_8 ?_
      refine x_intE (vx_runV (As := []) (rest := [.int (nI i)]) ⟨hx, hb, hml, hown, hts⟩ (c_Jx4a65c_size_8abf5 l hfl G (ad 10) (ad 11) (zN S) m9 H hl0) (cwV 0 hts gX4_worthByStrategies_Jx4a65c_size_8abf5 rfl rfl rfl (by decide +kernel) ⟨(Nat.le_of_ble_eq_true rfl), (Nat.le_of_ble_eq_true rfl)⟩) (xPreV hC hS hl0 (q := (RJx4a65c, TJx4a65c, 3)) rfl) rfl rfl hl.1 rfl (lv_room (Nat.le_of_ble_eq_true rfl)) dX4_worthByStrategies_11 ⟨(by first | exact Nat.le_of_ble_eq_true rfl | exact (show 0 + 0 ≤ 0 by omega)), (by first | exact Nat.le_of_ble_eq_true rfl | exact (show 0 + 0 ≤ 0 by omega))⟩) hS (fun locs hS => ?_)
      refine lv_icmp_ge (tgt := 68) hx hb dX4_worthByStrategies_14 (by decide) (fun c_2 => ?_) (fun c_2 => ?_)
      · have _ := hx
        have c_2 : (zN S) ≤ i := (nI_leI (a := (zN S)) (b := i) (by omega) (by omega)).mp c_2
        refine lv_iload_n hx hb dX4_worthByStrategies_68 rfl (lv_at hl 3 rfl) ?_
        exact x_iret (G := G) hx hb hr rfl dX4_worthByStrategies_69 hlocks hS (by first | exact Nat.le_of_ble_eq_true rfl | exact (show 0 ≤ 0 by omega)) (by first | exact Nat.le_of_ble_eq_true rfl | exact (show 0 ≤ 0 by omega)) ⟨rfl, by rw [hs9, show i = zN S by omega]; rfl⟩
      · have _ := hx
        have c_2 : ¬ ((zN S) ≤ i) := fun z => c_2 ((nI_leI (a := (zN S)) (b := i) (by omega) (by omega)).mpr z)
        refine lv_aload_n hx hb dX4_worthByStrategies_17 rfl (lv_at hl 0 rfl) ?_
        refine va_get (D := xD G) (ci := 5) (v := .ref (ad 10)) (C := RX4) (T := TX4) (N := 11) hx hb hts (by decide +kernel) hown hC.1 (x1 hx0) 0 rfl rfl 3 (by decide) (hts (.fieldLink RX4 29 "Bidwhistle" "strategies" "Ljava/util/ArrayList;") (by decide +kernel)) (fun _ h9 => h9) rfl dX4_worthByStrategies_18 ?_
        refine lv_iload hx hb dX4_worthByStrategies_21 (lv_at hl 4 rfl) ?_
        have hq := lA.q hl9.1 (show i < zN S by omega)
        refine x_refE (vx_runV (As := [.int (nI i)]) (rest := []) ⟨hx, hb, hml, hown, hts⟩ (c_Jx4a65c_get_915e3 l hfl G (ad 10) (ad 11) (zN S) k9 i (ad (22 + 6 * i)) m9 a9 H hl0 hq.1 (by omega) hq.2.1 hq.2.2 (hl9.2 i (by omega))) (cwV 1 hts gX4_worthByStrategies_Jx4a65c_get_915e3 rfl rfl rfl (by decide +kernel) ⟨(Nat.le_of_ble_eq_true rfl), (Nat.le_of_ble_eq_true rfl)⟩) (xPreV hC hS hl0 (q := (RJx4a65c, TJx4a65c, 3)) rfl) rfl rfl hl.1 rfl (lv_room (Nat.le_of_ble_eq_true rfl)) dX4_worthByStrategies_23 ⟨(by first | exact Nat.le_of_ble_eq_true rfl | exact (show 0 + 0 ≤ 0 by omega)), (by first | exact Nat.le_of_ble_eq_true rfl | exact (show 0 + 0 ≤ 0 by omega))⟩) hS (fun locs hS => ?_)
        obtain ⟨ts_3, sls_3, fs_3, hss_3, hps_3, hbs_3, hvs_3, hts_3, hfs_3, hzs_3⟩ := hst i (by omega)
        refine va_castY (C := "Bidwhistle$Strategy") hx hb hown (hts (.classLink RX4 111 "Bidwhistle$Strategy") (by decide +kernel)) (hC.2.1 _ (by decide +kernel)) (va_recv hC.1 (x1 hss_3) (q0 := 0) (ci := 4) (q := (RX3, TX3, 8)) rfl rfl) dX4_worthByStrategies_26 ?_
        refine lv_astore (lv' := [(5, .ref (ad (22 + 6 * i))), (0, .ref (ad 0)), (1, .int (nI u9)), (2, .ref (ad (22 + 6 * i9))), (3, .int s9), (4, .int (nI i))]) hx hb dX4_worthByStrategies_29 hl (by decide) rfl (fun ls hl => ?_)
        refine lv_aload hx hb dX4_worthByStrategies_31 (lv_at hl 0 rfl) ?_
        refine va_getN (D := xD G) (ci := 4) (v := .int (xb (zI S i))) (C := RX3) (T := TX3) (N := 8) hx hb hts (by decide +kernel) hown hC.1 (x1 hss_3) 0 rfl rfl 7 (by decide) (va_Nw.use rfl (hC.2.1 (.fieldLinkNest "Bidwhistle" 129 "Bidwhistle$Strategy" "inPool" "Z" "Bidwhistle") (by decide +kernel))) (fun _ h9 => h9) rfl dX4_worthByStrategies_33 ?_
        refine lv_if_eq (tgt := 62) hx hb dX4_worthByStrategies_36 (by decide) (fun c_4 => ?_) (fun c_4 => ?_)
        · have _ := hx
          have hcond : ¬ (zI S i = true ∧ i ≠ i9) := fun z => by rw [xb_0.mp c_4] at z; exact absurd z.1 (by decide)
          refine lv_iinc (v := (nI (i + 1))) (lv' := [(4, .int (nI (i + 1))), (5, .ref (ad (22 + 6 * i))), (0, .ref (ad 0)), (1, .int (nI u9)), (2, .ref (ad (22 + 6 * i9))), (3, .int s9)]) hx hb dX4_worthByStrategies_62 hl (k := 5) rfl (xinc (by decide)) (by decide) rfl (fun ls hl => ?_)
          refine lv_goto (tgt := 5) hx hb dX4_worthByStrategies_65 (by decide) ?_
          exact ihL (i + 1) (s9) (by omega) (by rw [hs9, zwsum_no hcond]) (by omega) _ hS ls (lv_sub hl [2, 3, 4, 5, 0] rfl)
        · have _ := hx
          have hin := xb_1 c_4
          refine lv_aload hx hb dX4_worthByStrategies_39 (lv_at hl 0 rfl) ?_
          refine va_getN (D := xD G) (ci := 4) (v := .int (nI i)) (C := RX3) (T := TX3) (N := 8) hx hb hts (by decide +kernel) hown hC.1 (x1 hss_3) 0 rfl rfl 0 (by decide) (va_Nw.use rfl (hC.2.1 (.fieldLinkNest "Bidwhistle" 256 "Bidwhistle$Strategy" "number" "I" "Bidwhistle") (by decide +kernel))) (fun _ h9 => h9) rfl dX4_worthByStrategies_41 ?_
          refine lv_aload_n hx hb dX4_worthByStrategies_44 rfl (lv_at hl 3 rfl) ?_
          refine va_getN (D := xD G) (ci := 4) (v := .int (nI i9)) (C := RX3) (T := TX3) (N := 8) hx hb hts (by decide +kernel) hown hC.1 (x1 hss_1) 0 rfl rfl 0 (by decide) (va_Nw.use rfl (hC.2.1 (.fieldLinkNest "Bidwhistle" 256 "Bidwhistle$Strategy" "number" "I" "Bidwhistle") (by decide +kernel))) (fun _ h9 => h9) rfl dX4_worthByStrategies_45 ?_
          refine lv_icmp_eq (tgt := 62) hx hb dX4_worthByStrategies_48 (by decide) (fun c_5 => ?_) (fun c_5 => ?_)
          · have _ := hx
            have c_5 : i = i9 := (nI_eq (a := i) (b := i9) (by omega) (by omega)).mp c_5
            have hcond : ¬ (zI S i = true ∧ i ≠ i9) := fun z => z.2 c_5
            refine lv_iinc (v := (nI (i + 1))) (lv' := [(4, .int (nI (i + 1))), (5, .ref (ad (22 + 6 * i))), (0, .ref (ad 0)), (1, .int (nI u9)), (2, .ref (ad (22 + 6 * i9))), (3, .int s9)]) hx hb dX4_worthByStrategies_62 hl (k := 5) rfl (xinc (by decide)) (by decide) rfl (fun ls hl => ?_)
            refine lv_goto (tgt := 5) hx hb dX4_worthByStrategies_65 (by decide) ?_
            exact ihL (i + 1) (s9) (by omega) (by rw [hs9, zwsum_no hcond]) (by omega) _ hS ls (lv_sub hl [2, 3, 4, 5, 0] rfl)
          · have _ := hx
            have c_5 : ¬ (i = i9) := fun z => c_5 ((nI_eq (a := i) (b := i9) (by omega) (by omega)).mpr z)
            have hcond : zI S i = true ∧ i ≠ i9 := ⟨hin, c_5⟩
            refine lv_iload_n hx hb dX4_worthByStrategies_51 rfl (lv_at hl 4 rfl) ?_
            refine lv_aload_n hx hb dX4_worthByStrategies_52 rfl (lv_at hl 1 rfl) ?_
            refine lv_iload_n hx hb dX4_worthByStrategies_53 rfl (lv_at hl 2 rfl) ?_
            refine lv_aload_n hx hb dX4_worthByStrategies_54 rfl (lv_at hl 3 rfl) ?_
            refine lv_aload hx hb dX4_worthByStrategies_55 (lv_at hl 0 rfl) ?_
            refine x_intE (vx_runV (As := [.int (nI u9), .ref (ad (22 + 6 * i9)), .ref (ad (22 + 6 * i))]) (rest := [.int s9]) ⟨hx, hb, hml, hown, hts⟩ (c_X4_profitOfRounds l hfl G ad S kp m9 fb k9 a9 u9 i9 i f1 f2 H hx0 hl9 hW hst hu9 hi9 (by omega) hpr) (cwV 3 hts gX4_worthByStrategies_X4_profitOfRounds rfl rfl rfl (by decide +kernel) ⟨(Nat.le_of_ble_eq_true rfl), (Nat.le_of_ble_eq_true rfl)⟩) (xPreV hC hS hx0 (q := (RX4, TX4, 11)) rfl) rfl rfl hl.1 rfl (lv_room (Nat.le_of_ble_eq_true rfl)) dX4_worthByStrategies_57 ⟨(by first | exact Nat.le_of_ble_eq_true rfl | exact (show 0 + 0 ≤ 0 by omega)), (by first | exact Nat.le_of_ble_eq_true rfl | exact (show 0 + 0 ≤ 0 by omega))⟩) hS (fun locs hS => ?_)
            refine lv_iadd hx hb dX4_worthByStrategies_60 ?_
            refine lv_istore_n (lv' := [(3, .int (s9 + (Int32.ofInt (zpairs S u9 i9 i (zK S))))), (5, .ref (ad (22 + 6 * i))), (0, .ref (ad 0)), (1, .int (nI u9)), (2, .ref (ad (22 + 6 * i9))), (4, .int (nI i))]) hx hb dX4_worthByStrategies_61 rfl hl (by decide) rfl (fun ls hl => ?_)
            refine lv_iinc (v := (nI (i + 1))) (lv' := [(4, .int (nI (i + 1))), (3, .int (s9 + (Int32.ofInt (zpairs S u9 i9 i (zK S))))), (5, .ref (ad (22 + 6 * i))), (0, .ref (ad 0)), (1, .int (nI u9)), (2, .ref (ad (22 + 6 * i9)))]) hx hb dX4_worthByStrategies_62 hl (k := 5) rfl (xinc (by decide)) (by decide) rfl (fun ls hl => ?_)
            refine lv_goto (tgt := 5) hx hb dX4_worthByStrategies_65 (by decide) ?_
            exact ihL (i + 1) ((s9 + (Int32.ofInt (zpairs S u9 i9 i (zK S))))) (by omega) (by rw [hs9, ← Int32.ofInt_add, zwsum_yes hcond]) (by omega) _ hS ls (lv_sub hl [3, 4, 5, 1, 0] rfl)
  exact L _ (0) (nI 0) (Nat.zero_le _) (rfl) (Nat.lt_succ_self _) _ hS ls (lv_sub hl [2, 3, 4, 1, 0] rfl)

set_option maxHeartbeats 4000000 in
set_option maxRecDepth 100000 in
/-- layBids(value, row) -/
theorem c_X4_layBids (l : Launch) (hfl : l.stackTraces = false) (G : xG) (ad : Nat → Nat) (S : zS) (kp : Nat → Nat) (m9 fb : Int32) (k9 : Nat) (a9 : Nat → Option Nat) (v9 r9 : Nat) (f0 : Nat → Int32) (H : Heap) (hx0 : xB G ad fb (zK S) H) (hl9 : zList G ad (zN S) m9 k9 a9 H) (hW : zW S) (hst : ∀ i, i < zN S → zStrat G ad S kp i H) (hO : zown G ad (22 + 6 * zN S)) (hv9 : v9 < 100) (hr9 : r9 = 16 ∨ r9 = 18) (hrow : zRow G ad r9 f0 H) : xMet l G yX4_layBids wsX4_layBids ({ frames := 3, cells := 0, slots := 0, locals := 64 } : Room) [.ref (ad 0), .int (nI v9), .ref (ad r9)] H (fun v H1 => v = none ∧ ∃ f', zRow G ad r9 f' H1 ∧ (∀ j, j < zN S → zI S j = true → f' j = nI (zbid S j v9)) ∧ xC [ad (r9 + 1)] H H1) (xNo) := by
  refine vx_ofW (cc := cX4_layBids) (maxL := 5) (ret := none) (by decide) rfl ?_
  intro Pg Ev s m args below meth c s₁ B hml hout hv
  obtain ⟨rfl, hH, hC⟩ := hv
  have hx := B.exec
  have hb := B.bytes
  have hr := B.returns
  have hts := atoms_spec (ws := wsX4_layBids) B.pre
  have hown : s.vm.findClass RX4 = some m.cls := findClass_of_methodNamed B.named
  have hlocks := B.notSynchronized
  rw [hH]
  have hS : va_S (xA G) s.heap H [] := by rw [← hH]; exact va_S.rf
  generalize ([] : List Loc) = locs at hS ⊢
  have hl := lv_entry [.ref (ad 0), .int (nI v9), .ref (ad r9)] (n := 5) (Nat.le_of_ble_eq_true rfl)
  rw [lg_entry_eq]
  generalize (lg_sl [.ref (ad 0), .int (nI v9), .ref (ad r9)] ++ List.replicate (5 - (lg_sl [.ref (ad 0), .int (nI v9), .ref (ad r9)]).length) Slot.unset).toArray = ls at hl ⊢
  have hl : lv_has ls 5 [(0, .ref (ad 0)), (1, .int (nI v9)), (2, .ref (ad r9))] := hl
  have hl0 := hl9.1.1
  have hn20 := hW.1
  obtain ⟨hrw, hra⟩ := hrow
  refine lv_iconst (v := (nI 0)) hx hb dX4_layBids_0 (by decide) ?_
  refine lv_istore_n (lv' := [(3, .int (nI 0)), (0, .ref (ad 0)), (1, .int (nI v9)), (2, .ref (ad r9))]) hx hb dX4_layBids_1 rfl hl (by decide) rfl (fun ls hl => ?_)
  have L : ∀ (kL : Nat) (i : Nat) (f' : Nat → Int32), (i ≤ zN S) → (∀ j, j < i → zI S j = true → f' j = nI (zbid S j v9)) → zN S - i < kL → ∀ (HL : Heap), (iA G (ad (r9 + 1)) 20 f' HL) → (xC [ad (r9 + 1)] H HL) → ∀ (locs : List Loc), va_S (xA G) s.heap HL locs → ∀ ls : Array Slot, lv_has ls 5 [(0, .ref (ad 0)), (1, .int (nI v9)), (2, .ref (ad r9)), (3, .int (nI i))] → W Pg l Ev (headSpec wsX4_layBids ({ frames := 3, cells := 0, slots := 0, locals := 64 } : Room)).room s m ([.ref (ad 0), .int (nI v9), .ref (ad r9)] : List Value).toArray below meth c HL locs (0) (0) (vx_MQ below (xQ G (fun v H1 => v = none ∧ ∃ f', zRow G ad r9 f' H1 ∧ (∀ j, j < zN S → zI S j = true → f' j = nI (zbid S j v9)) ∧ xC [ad (r9 + 1)] H H1)) (xX G (xNo)) ([.ref (ad 0), .int (nI v9), .ref (ad r9)] : List Value).toArray s ({ frames := 3, cells := 0, slots := 0, locals := 64 } : Room).cells ({ frames := 3, cells := 0, slots := 0, locals := 64 } : Room).slots (xA G)) (F0 m 2 ls []) := by
    intro kL
    induction kL with
    | zero => intro i f' hi hfs hk; exact absurd hk (Nat.not_lt_zero _)
    | succ kL ihL =>
      intro i f' hi hfs hk HL hra hcc locs hS ls hl
      have hx0 := xB.kept (ls := [r9 + 1]) hx0 hO hcc (by omega) (xl1 (by omega)) (xn1 (by omega))
      have hl9 := zList.kept (ls := [r9 + 1]) hl9 hO hcc (by omega) (xl1 (by omega)) ⟨xn1 (by omega), xn1 (by omega)⟩
      have hst := fun i (hi : i < zN S) => zStrat.kept (ls := [r9 + 1]) (hst i hi) hO hcc (by omega) (xl1 (by omega)) (fun j hj => xn1 (by omega))
      have hl0 := hl9.1.1
      have hrw := hcc.at hrw (xn1 (hO.ne (by omega) (by omega) (by omega)))
      refine lv_iload_n hx hb dX4_layBids_2 rfl (lv_at hl 3 rfl) ?_
      refine lv_aload_n hx hb dX4_layBids_3 rfl (lv_at hl 0 rfl) ?_
      refine va_get (D := xD G) (ci := 5) (v := .ref (ad 10)) (C := RX4) (T := TX4) (N := 11) hx hb hts (by decide +kernel) hown hC.1 (x1 hx0) 0 rfl rfl 3 (by decide) (hts (.fieldLink RX4 29 "Bidwhistle" "strategies" "Ljava/util/ArrayList;") (by decide +kernel)) (fun _ h9 => h9) rfl dX4_layBids_4 ?_
      refine x_intE (vx_runV (As := []) (rest := [.int (nI i)]) ⟨hx, hb, hml, hown, hts⟩ (c_Jx4a65c_size_8abf5 l hfl G (ad 10) (ad 11) (zN S) m9 HL hl0) (cwV 0 hts gX4_layBids_Jx4a65c_size_8abf5 rfl rfl rfl (by decide +kernel) ⟨(Nat.le_of_ble_eq_true rfl), (Nat.le_of_ble_eq_true rfl)⟩) (xPreV hC hS hl0 (q := (RJx4a65c, TJx4a65c, 3)) rfl) rfl rfl hl.1 rfl (lv_room (Nat.le_of_ble_eq_true rfl)) dX4_layBids_7 ⟨(by first | exact Nat.le_of_ble_eq_true rfl | exact (show 0 + 0 ≤ 0 by omega)), (by first | exact Nat.le_of_ble_eq_true rfl | exact (show 0 + 0 ≤ 0 by omega))⟩) hS (fun locs hS => ?_)
      refine lv_icmp_ge (tgt := 51) hx hb dX4_layBids_10 (by decide) (fun c_1 => ?_) (fun c_1 => ?_)
      · have _ := hx
        have c_1 : (zN S) ≤ i := (nI_leI (a := (zN S)) (b := i) (by omega) (by omega)).mp c_1
        exact x_vret (G := G) hx hb hr dX4_layBids_51 hlocks hS (by first | exact Nat.le_of_ble_eq_true rfl | exact (show 0 ≤ 0 by omega)) (by first | exact Nat.le_of_ble_eq_true rfl | exact (show 0 ≤ 0 by omega)) ⟨rfl, f', ⟨hrw, hra⟩, fun j hj => hfs j (by omega), hcc⟩
      · have _ := hx
        have c_1 : ¬ ((zN S) ≤ i) := fun z => c_1 ((nI_leI (a := (zN S)) (b := i) (by omega) (by omega)).mpr z)
        refine lv_aload_n hx hb dX4_layBids_13 rfl (lv_at hl 0 rfl) ?_
        refine va_get (D := xD G) (ci := 5) (v := .ref (ad 10)) (C := RX4) (T := TX4) (N := 11) hx hb hts (by decide +kernel) hown hC.1 (x1 hx0) 0 rfl rfl 3 (by decide) (hts (.fieldLink RX4 29 "Bidwhistle" "strategies" "Ljava/util/ArrayList;") (by decide +kernel)) (fun _ h9 => h9) rfl dX4_layBids_14 ?_
        refine lv_iload_n hx hb dX4_layBids_17 rfl (lv_at hl 3 rfl) ?_
        have hq := lA.q hl9.1 (show i < zN S by omega)
        refine x_refE (vx_runV (As := [.int (nI i)]) (rest := []) ⟨hx, hb, hml, hown, hts⟩ (c_Jx4a65c_get_915e3 l hfl G (ad 10) (ad 11) (zN S) k9 i (ad (22 + 6 * i)) m9 a9 HL hl0 hq.1 (by omega) hq.2.1 hq.2.2 (hl9.2 i (by omega))) (cwV 1 hts gX4_layBids_Jx4a65c_get_915e3 rfl rfl rfl (by decide +kernel) ⟨(Nat.le_of_ble_eq_true rfl), (Nat.le_of_ble_eq_true rfl)⟩) (xPreV hC hS hl0 (q := (RJx4a65c, TJx4a65c, 3)) rfl) rfl rfl hl.1 rfl (lv_room (Nat.le_of_ble_eq_true rfl)) dX4_layBids_18 ⟨(by first | exact Nat.le_of_ble_eq_true rfl | exact (show 0 + 0 ≤ 0 by omega)), (by first | exact Nat.le_of_ble_eq_true rfl | exact (show 0 + 0 ≤ 0 by omega))⟩) hS (fun locs hS => ?_)
        obtain ⟨ts_2, sls_2, fs_2, hss_2, hps_2, hbs_2, hvs_2, hts_2, hfs_2, hzs_2⟩ := hst i (by omega)
        refine va_castY (C := "Bidwhistle$Strategy") hx hb hown (hts (.classLink RX4 111 "Bidwhistle$Strategy") (by decide +kernel)) (hC.2.1 _ (by decide +kernel)) (va_recv hC.1 (x1 hss_2) (q0 := 0) (ci := 4) (q := (RX3, TX3, 8)) rfl rfl) dX4_layBids_21 ?_
        refine lv_astore (lv' := [(4, .ref (ad (22 + 6 * i))), (0, .ref (ad 0)), (1, .int (nI v9)), (2, .ref (ad r9)), (3, .int (nI i))]) hx hb dX4_layBids_24 hl (by decide) rfl (fun ls hl => ?_)
        refine lv_aload hx hb dX4_layBids_26 (lv_at hl 0 rfl) ?_
        refine va_getN (D := xD G) (ci := 4) (v := .int (xb (zI S i))) (C := RX3) (T := TX3) (N := 8) hx hb hts (by decide +kernel) hown hC.1 (x1 hss_2) 0 rfl rfl 7 (by decide) (va_Nw.use rfl (hC.2.1 (.fieldLinkNest "Bidwhistle" 129 "Bidwhistle$Strategy" "inPool" "Z" "Bidwhistle") (by decide +kernel))) (fun _ h9 => h9) rfl dX4_layBids_28 ?_
        refine lv_if_eq (tgt := 45) hx hb dX4_layBids_31 (by decide) (fun c_3 => ?_) (fun c_3 => ?_)
        · have _ := hx
          refine lv_iinc (v := (nI (i + 1))) (lv' := [(3, .int (nI (i + 1))), (4, .ref (ad (22 + 6 * i))), (0, .ref (ad 0)), (1, .int (nI v9)), (2, .ref (ad r9))]) hx hb dX4_layBids_45 hl (k := 4) rfl (xinc (by decide)) (by decide) rfl (fun ls hl => ?_)
          refine lv_goto (tgt := 2) hx hb dX4_layBids_48 (by decide) ?_
          have _ := hcc.1
          exact ihL (i + 1) (f') (by omega) (fun j hj hjI => by rcases Nat.lt_or_ge j i with z | z; exact hfs j z hjI; rw [show j = i by omega, xb_0.mp c_3] at hjI; cases hjI) (by omega) HL hra (hcc.mono (fun q hq => by simp only [List.mem_append, List.mem_cons, List.not_mem_nil, or_false, false_or] at hq ⊢; omega)) _ hS ls (lv_sub hl [2, 3, 4, 0] rfl)
        · have _ := hx
          refine lv_aload_n hx hb dX4_layBids_34 rfl (lv_at hl 3 rfl) ?_
          refine lv_iload_n hx hb dX4_layBids_35 rfl (lv_at hl 4 rfl) ?_
          refine lv_aload hx hb dX4_layBids_36 (lv_at hl 0 rfl) ?_
          refine lv_iload_n hx hb dX4_layBids_38 rfl (lv_at hl 2 rfl) ?_
          refine x_intE (vx_runV (As := [.int (nI v9)]) (rest := [.int (nI i), .ref (ad r9)]) ⟨hx, hb, hml, hown, hts⟩ (c_X3_bidFor l hfl G (ad (22 + 6 * i)) (ad (26 + 6 * i)) (ad (27 + 6 * i)) v9 (ad (23 + 6 * i)) fs_2 _ _ _ _ _ _ HL hss_2 hbs_2 hvs_2 (by omega)) (cwV 1 hts gX4_layBids_X3_bidFor rfl rfl rfl (by decide +kernel) ⟨(Nat.le_of_ble_eq_true rfl), (Nat.le_of_ble_eq_true rfl)⟩) (xPreV hC hS hss_2 (q := (RX3, TX3, 8)) rfl) rfl rfl hl.1 rfl (lv_room (Nat.le_of_ble_eq_true rfl)) dX4_layBids_39 ⟨(by first | exact Nat.le_of_ble_eq_true rfl | exact (show 0 + 0 ≤ 0 by omega)), (by first | exact Nat.le_of_ble_eq_true rfl | exact (show 0 + 0 ≤ 0 by omega))⟩) hS (fun locs hS => ?_)
          rw [hfs_2 v9 (by omega), zbid_I]
          have hsz := hS.1
          refine x_call (px := xNo) (vx_runV (As := [.int (nI i), .int (nI (zbid S i v9))]) (rest := []) ⟨hx, hb, hml, hown, hts⟩ (c_X1_put l hfl G (ad r9) (ad (r9 + 1)) 20 i f' (nI (zbid S i v9)) HL hrw hra (by omega) (by decide) (hO.2 _ (by omega) (by omega)) (hO.ne (by omega) (by omega) (by omega))) (cwV 2 hts gX4_layBids_X1_put rfl rfl rfl (by decide +kernel) ⟨(Nat.le_of_ble_eq_true rfl), (Nat.le_of_ble_eq_true rfl)⟩) (xPreV hC hS hrw (q := (RX1, TX1, 1)) rfl) rfl rfl hl.1 rfl (lv_room (Nat.le_of_ble_eq_true rfl)) dX4_layBids_42 ⟨(by first | exact Nat.le_of_ble_eq_true rfl | exact (show 0 + 0 ≤ 0 by omega)), (by first | exact Nat.le_of_ble_eq_true rfl | exact (show 0 + 0 ≤ 0 by omega))⟩) hS (fun _ h => h) (fun _ _ _ _ _ h => False.elim h) (fun v H_4 locs hp hz hk_5 hS => ?_)
          obtain ⟨rfl, hu6, hc6⟩ := hp
          have hx0 := hc6.at hx0 (xn1 (hO.ne (i := 0) (j := (r9 + 1)) (by omega) (by omega) (by omega)))
          have hl0 := hc6.at hl0 (xn1 (hO.ne (i := 10) (j := (r9 + 1)) (by omega) (by omega) (by omega)))
          have hrw := hc6.at hrw (xn1 (hO.ne (i := r9) (j := (r9 + 1)) (by omega) (by omega) (by omega)))
          have hss_2 := hc6.at hss_2 (xn1 (hO.ne (i := (22 + 6 * i)) (j := (r9 + 1)) (by omega) (by omega) (by omega)))
          have hbs_2 := hc6.at hbs_2 (xn1 (hO.ne (i := (26 + 6 * i)) (j := (r9 + 1)) (by omega) (by omega) (by omega)))
          have hvs_2 := hc6.at hvs_2 (xn1 (hO.ne (i := (27 + 6 * i)) (j := (r9 + 1)) (by omega) (by omega) (by omega)))
          refine lv_iinc (v := (nI (i + 1))) (lv' := [(3, .int (nI (i + 1))), (4, .ref (ad (22 + 6 * i))), (0, .ref (ad 0)), (1, .int (nI v9)), (2, .ref (ad r9))]) hx hb dX4_layBids_45 hl (k := 4) rfl (xinc (by decide)) (by decide) rfl (fun ls hl => ?_)
          refine lv_goto (tgt := 2) hx hb dX4_layBids_48 (by decide) ?_
          have _ := hcc.1
          have _ := hc6.1
          exact ihL (i + 1) (upd f' i (nI (zbid S i v9))) (by omega) (fun j hj hjI => by by_cases z : j = i; (subst z; exact pk_us); (rw [pk_un z]; exact hfs j (by omega) hjI)) (by omega) H_4 hu6 ((hcc.tr hc6).mono (fun q hq => by simp only [List.mem_append, List.mem_cons, List.not_mem_nil, or_false, false_or] at hq ⊢; omega)) _ hS ls (lv_sub hl [2, 3, 4, 0] rfl)
  exact L _ (0) (f0) (Nat.zero_le _) (fun j hj => absurd hj (Nat.not_lt_zero j)) (Nat.lt_succ_self _) H hra (xC.rf) _ hS ls (lv_sub hl [1, 2, 3, 0] rfl)

set_option maxHeartbeats 4000000 in
set_option maxRecDepth 100000 in
/-- profitInRows -/
theorem c_X4_profitInRows (l : Launch) (hfl : l.stackTraces = false) (G : xG) (ad : Nat → Nat) (S : zS) (kp : Nat → Nat) (m9 fb : Int32) (k9 : Nat) (a9 : Nat → Option Nat) (u9 i9 v9 w9 o9 r9 : Nat) (fo fr : Nat → Int32) (H : Heap) (hx0 : xB G ad fb (zK S) H) (hl9 : zList G ad (zN S) m9 k9 a9 H) (hW : zW S) (hst : ∀ i, i < zN S → zStrat G ad S kp i H) (hu9 : u9 < 4) (hi9 : i9 < zN S) (hro : zRow G ad o9 fo H) (hrr : zRow G ad r9 fr H) (hfo : fo i9 = nI (zbid S i9 v9)) (hfr : ∀ j, j < zN S → zI S j = true → fr j = nI (zbid S j w9)) : xMet l G yX4_profitInRows wsX4_profitInRows ({ frames := 3, cells := 0, slots := 0, locals := 64 } : Room) [.ref (ad 0), .int (nI u9), .int (nI i9), .int (nI v9), .ref (ad o9), .ref (ad r9)] H (xi H (Int32.ofInt (zrow S u9 i9 v9 w9 (zN S)))) (xNo) := by
  refine vx_ofW (cc := cX4_profitInRows) (maxL := 10) (ret := (some .int)) (by decide) rfl ?_
  intro Pg Ev s m args below meth c s₁ B hml hout hv
  obtain ⟨rfl, hH, hC⟩ := hv
  have hx := B.exec
  have hb := B.bytes
  have hr := B.returns
  have hts := atoms_spec (ws := wsX4_profitInRows) B.pre
  have hown : s.vm.findClass RX4 = some m.cls := findClass_of_methodNamed B.named
  have hlocks := B.notSynchronized
  rw [hH]
  have hS : va_S (xA G) s.heap H [] := by rw [← hH]; exact va_S.rf
  generalize ([] : List Loc) = locs at hS ⊢
  have hl := lv_entry [.ref (ad 0), .int (nI u9), .int (nI i9), .int (nI v9), .ref (ad o9), .ref (ad r9)] (n := 10) (Nat.le_of_ble_eq_true rfl)
  rw [lg_entry_eq]
  generalize (lg_sl [.ref (ad 0), .int (nI u9), .int (nI i9), .int (nI v9), .ref (ad o9), .ref (ad r9)] ++ List.replicate (10 - (lg_sl [.ref (ad 0), .int (nI u9), .int (nI i9), .int (nI v9), .ref (ad o9), .ref (ad r9)]).length) Slot.unset).toArray = ls at hl ⊢
  have hl : lv_has ls 10 [(0, .ref (ad 0)), (1, .int (nI u9)), (2, .int (nI i9)), (3, .int (nI v9)), (4, .ref (ad o9)), (5, .ref (ad r9))] := hl
  have hl0 := hl9.1.1
  have hn20 := hW.1
  obtain ⟨hro0, hro1⟩ := hro
  obtain ⟨hrr0, hrr1⟩ := hrr
  have hz1 := zbid_in S i9 v9
  refine lv_aload hx hb dX4_profitInRows_0 (lv_at hl 4 rfl) ?_
  refine lv_iload_n hx hb dX4_profitInRows_2 rfl (lv_at hl 2 rfl) ?_
  refine x_intE (vx_runV (As := [.int (nI i9)]) (rest := []) ⟨hx, hb, hml, hown, hts⟩ (c_X1_at l hfl G (ad o9) (ad (o9 + 1)) 20 (i9) fo H hro0 hro1 (by omega) (by decide)) (cwV 1 hts gX4_profitInRows_X1_at rfl rfl rfl (by decide +kernel) ⟨(Nat.le_of_ble_eq_true rfl), (Nat.le_of_ble_eq_true rfl)⟩) (xPreV hC hS hro0 (q := (RX1, TX1, 1)) rfl) rfl rfl hl.1 rfl (lv_room (Nat.le_of_ble_eq_true rfl)) dX4_profitInRows_3 ⟨(by first | exact Nat.le_of_ble_eq_true rfl | exact (show 0 + 0 ≤ 0 by omega)), (by first | exact Nat.le_of_ble_eq_true rfl | exact (show 0 + 0 ≤ 0 by omega))⟩) hS (fun locs hS => ?_)
  rw [hfo]
  refine lv_istore (lv' := [(6, .int (nI (zbid S i9 v9))), (0, .ref (ad 0)), (1, .int (nI u9)), (2, .int (nI i9)), (3, .int (nI v9)), (4, .ref (ad o9)), (5, .ref (ad r9))]) hx hb dX4_profitInRows_6 hl (by decide) rfl (fun ls hl => ?_)
  refine lv_iconst (v := (nI 0)) hx hb dX4_profitInRows_8 (by decide) ?_
  refine lv_istore (lv' := [(7, .int (nI 0)), (6, .int (nI (zbid S i9 v9))), (0, .ref (ad 0)), (1, .int (nI u9)), (2, .int (nI i9)), (3, .int (nI v9)), (4, .ref (ad o9)), (5, .ref (ad r9))]) hx hb dX4_profitInRows_9 hl (by decide) rfl (fun ls hl => ?_)
  refine lv_iconst (v := (nI 0)) hx hb dX4_profitInRows_11 (by decide) ?_
  refine lv_istore (lv' := [(8, .int (nI 0)), (7, .int (nI 0)), (6, .int (nI (zbid S i9 v9))), (0, .ref (ad 0)), (1, .int (nI u9)), (2, .int (nI i9)), (3, .int (nI v9)), (4, .ref (ad o9)), (5, .ref (ad r9))]) hx hb dX4_profitInRows_12 hl (by decide) rfl (fun ls hl => ?_)
  have L : ∀ (kL : Nat) (i : Nat) (s9 : Int32), (i ≤ zN S) → (s9 = Int32.ofInt (zrow S u9 i9 v9 w9 i)) → zN S - i < kL → ∀ (locs : List Loc), va_S (xA G) s.heap H locs → ∀ ls : Array Slot, lv_has ls 10 [(0, .ref (ad 0)), (1, .int (nI u9)), (2, .int (nI i9)), (3, .int (nI v9)), (4, .ref (ad o9)), (5, .ref (ad r9)), (6, .int (nI (zbid S i9 v9))), (7, .int s9), (8, .int (nI i))] → W Pg l Ev (headSpec wsX4_profitInRows ({ frames := 3, cells := 0, slots := 0, locals := 64 } : Room)).room s m ([.ref (ad 0), .int (nI u9), .int (nI i9), .int (nI v9), .ref (ad o9), .ref (ad r9)] : List Value).toArray below meth c H locs (0) (0) (vx_MQ below (xQ G (xi H (Int32.ofInt (zrow S u9 i9 v9 w9 (zN S))))) (xX G (xNo)) ([.ref (ad 0), .int (nI u9), .int (nI i9), .int (nI v9), .ref (ad o9), .ref (ad r9)] : List Value).toArray s ({ frames := 3, cells := 0, slots := 0, locals := 64 } : Room).cells ({ frames := 3, cells := 0, slots := 0, locals := 64 } : Room).slots (xA G)) (F0 m 14 ls []) := by
    intro kL
    induction kL with
    | zero => intro i s9 hi hs9 hk; exact absurd hk (Nat.not_lt_zero _)
    | succ kL ihL =>
      intro i s9 hi hs9 hk locs hS ls hl
      refine lv_iload hx hb dX4_profitInRows_14 (lv_at hl 8 rfl) ?_
      refine lv_aload_n hx hb dX4_profitInRows_16 rfl (lv_at hl 0 rfl) ?_
      refine va_get (D := xD G) (ci := 5) (v := .ref (ad 10)) (C := RX4) (T := TX4) (N := 11) hx hb hts (by decide +kernel) hown hC.1 (x1 hx0) 0 rfl rfl 3 (by decide) (hts (.fieldLink RX4 29 "Bidwhistle" "strategies" "Ljava/util/ArrayList;") (by decide +kernel)) (fun _ h9 => h9) rfl dX4_profitInRows_17 ?_
      refine x_intE (vx_runV (As := []) (rest := [.int (nI i)]) ⟨hx, hb, hml, hown, hts⟩ (c_Jx4a65c_size_8abf5 l hfl G (ad 10) (ad 11) (zN S) m9 H hl0) (cwV 0 hts gX4_profitInRows_Jx4a65c_size_8abf5 rfl rfl rfl (by decide +kernel) ⟨(Nat.le_of_ble_eq_true rfl), (Nat.le_of_ble_eq_true rfl)⟩) (xPreV hC hS hl0 (q := (RJx4a65c, TJx4a65c, 3)) rfl) rfl rfl hl.1 rfl (lv_room (Nat.le_of_ble_eq_true rfl)) dX4_profitInRows_20 ⟨(by first | exact Nat.le_of_ble_eq_true rfl | exact (show 0 + 0 ≤ 0 by omega)), (by first | exact Nat.le_of_ble_eq_true rfl | exact (show 0 + 0 ≤ 0 by omega))⟩) hS (fun locs hS => ?_)
      refine lv_icmp_ge (tgt := 89) hx hb dX4_profitInRows_23 (by decide) (fun c_1 => ?_) (fun c_1 => ?_)
      · have _ := hx
        have c_1 : (zN S) ≤ i := (nI_leI (a := (zN S)) (b := i) (by omega) (by omega)).mp c_1
        refine lv_iload hx hb dX4_profitInRows_89 (lv_at hl 7 rfl) ?_
        exact x_iret (G := G) hx hb hr rfl dX4_profitInRows_91 hlocks hS (by first | exact Nat.le_of_ble_eq_true rfl | exact (show 0 ≤ 0 by omega)) (by first | exact Nat.le_of_ble_eq_true rfl | exact (show 0 ≤ 0 by omega)) ⟨rfl, by rw [hs9, show i = zN S by omega]⟩
      · have _ := hx
        have c_1 : ¬ ((zN S) ≤ i) := fun z => c_1 ((nI_leI (a := (zN S)) (b := i) (by omega) (by omega)).mpr z)
        refine lv_aload_n hx hb dX4_profitInRows_26 rfl (lv_at hl 0 rfl) ?_
        refine va_get (D := xD G) (ci := 5) (v := .ref (ad 10)) (C := RX4) (T := TX4) (N := 11) hx hb hts (by decide +kernel) hown hC.1 (x1 hx0) 0 rfl rfl 3 (by decide) (hts (.fieldLink RX4 29 "Bidwhistle" "strategies" "Ljava/util/ArrayList;") (by decide +kernel)) (fun _ h9 => h9) rfl dX4_profitInRows_27 ?_
        refine lv_iload hx hb dX4_profitInRows_30 (lv_at hl 8 rfl) ?_
        have hq := lA.q hl9.1 (show i < zN S by omega)
        refine x_refE (vx_runV (As := [.int (nI i)]) (rest := []) ⟨hx, hb, hml, hown, hts⟩ (c_Jx4a65c_get_915e3 l hfl G (ad 10) (ad 11) (zN S) k9 i (ad (22 + 6 * i)) m9 a9 H hl0 hq.1 (by omega) hq.2.1 hq.2.2 (hl9.2 i (by omega))) (cwV 1 hts gX4_profitInRows_Jx4a65c_get_915e3 rfl rfl rfl (by decide +kernel) ⟨(Nat.le_of_ble_eq_true rfl), (Nat.le_of_ble_eq_true rfl)⟩) (xPreV hC hS hl0 (q := (RJx4a65c, TJx4a65c, 3)) rfl) rfl rfl hl.1 rfl (lv_room (Nat.le_of_ble_eq_true rfl)) dX4_profitInRows_32 ⟨(by first | exact Nat.le_of_ble_eq_true rfl | exact (show 0 + 0 ≤ 0 by omega)), (by first | exact Nat.le_of_ble_eq_true rfl | exact (show 0 + 0 ≤ 0 by omega))⟩) hS (fun locs hS => ?_)
        obtain ⟨ts_2, sls_2, fs_2, hss_2, hps_2, hbs_2, hvs_2, hts_2, hfs_2, hzs_2⟩ := hst i (by omega)
        refine va_castY (C := "Bidwhistle$Strategy") hx hb hown (hts (.classLink RX4 111 "Bidwhistle$Strategy") (by decide +kernel)) (hC.2.1 _ (by decide +kernel)) (va_recv hC.1 (x1 hss_2) (q0 := 0) (ci := 4) (q := (RX3, TX3, 8)) rfl rfl) dX4_profitInRows_35 ?_
        refine va_getN (D := xD G) (ci := 4) (v := .int (xb (zI S i))) (C := RX3) (T := TX3) (N := 8) hx hb hts (by decide +kernel) hown hC.1 (x1 hss_2) 0 rfl rfl 7 (by decide) (va_Nw.use rfl (hC.2.1 (.fieldLinkNest "Bidwhistle" 129 "Bidwhistle$Strategy" "inPool" "Z" "Bidwhistle") (by decide +kernel))) (fun _ h9 => h9) rfl dX4_profitInRows_38 ?_
        refine lv_if_eq (tgt := 83) hx hb dX4_profitInRows_41 (by decide) (fun c_3 => ?_) (fun c_3 => ?_)
        · have _ := hx
          have hcond : ¬ (zI S i = true ∧ i ≠ i9) := fun z => by rw [xb_0.mp c_3] at z; exact absurd z.1 (by decide)
          refine lv_iinc (v := (nI (i + 1))) (lv' := [(8, .int (nI (i + 1))), (0, .ref (ad 0)), (1, .int (nI u9)), (2, .int (nI i9)), (3, .int (nI v9)), (4, .ref (ad o9)), (5, .ref (ad r9)), (6, .int (nI (zbid S i9 v9))), (7, .int s9)]) hx hb dX4_profitInRows_83 hl (k := 8) rfl (xinc (by decide)) (by decide) rfl (fun ls hl => ?_)
          refine lv_goto (tgt := 14) hx hb dX4_profitInRows_86 (by decide) ?_
          exact ihL (i + 1) (s9) (by omega) (by rw [hs9, zrow_no hcond]) (by omega) _ hS ls (lv_sub hl [1, 2, 3, 4, 5, 6, 7, 8, 0] rfl)
        · have _ := hx
          have hin := xb_1 c_3
          refine lv_iload hx hb dX4_profitInRows_44 (lv_at hl 8 rfl) ?_
          refine lv_iload_n hx hb dX4_profitInRows_46 rfl (lv_at hl 2 rfl) ?_
          refine lv_icmp_eq (tgt := 83) hx hb dX4_profitInRows_47 (by decide) (fun c_4 => ?_) (fun c_4 => ?_)
          · have _ := hx
            have c_4 : i = i9 := (nI_eq (a := i) (b := i9) (by omega) (by omega)).mp c_4
            have hcond : ¬ (zI S i = true ∧ i ≠ i9) := fun z => z.2 c_4
            refine lv_iinc (v := (nI (i + 1))) (lv' := [(8, .int (nI (i + 1))), (0, .ref (ad 0)), (1, .int (nI u9)), (2, .int (nI i9)), (3, .int (nI v9)), (4, .ref (ad o9)), (5, .ref (ad r9)), (6, .int (nI (zbid S i9 v9))), (7, .int s9)]) hx hb dX4_profitInRows_83 hl (k := 8) rfl (xinc (by decide)) (by decide) rfl (fun ls hl => ?_)
            refine lv_goto (tgt := 14) hx hb dX4_profitInRows_86 (by decide) ?_
            exact ihL (i + 1) (s9) (by omega) (by rw [hs9, zrow_no hcond]) (by omega) _ hS ls (lv_sub hl [1, 2, 3, 4, 5, 6, 7, 8, 0] rfl)
          · have _ := hx
            have c_4 : ¬ (i = i9) := fun z => c_4 ((nI_eq (a := i) (b := i9) (by omega) (by omega)).mpr z)
            have hcond : zI S i = true ∧ i ≠ i9 := ⟨hin, c_4⟩
            refine lv_aload hx hb dX4_profitInRows_50 (lv_at hl 5 rfl) ?_
            refine lv_iload hx hb dX4_profitInRows_52 (lv_at hl 8 rfl) ?_
            refine x_intE (vx_runV (As := [.int (nI i)]) (rest := []) ⟨hx, hb, hml, hown, hts⟩ (c_X1_at l hfl G (ad r9) (ad (r9 + 1)) 20 (i) fr H hrr0 hrr1 (by omega) (by decide)) (cwV 1 hts gX4_profitInRows_X1_at rfl rfl rfl (by decide +kernel) ⟨(Nat.le_of_ble_eq_true rfl), (Nat.le_of_ble_eq_true rfl)⟩) (xPreV hC hS hrr0 (q := (RX1, TX1, 1)) rfl) rfl rfl hl.1 rfl (lv_room (Nat.le_of_ble_eq_true rfl)) dX4_profitInRows_54 ⟨(by first | exact Nat.le_of_ble_eq_true rfl | exact (show 0 + 0 ≤ 0 by omega)), (by first | exact Nat.le_of_ble_eq_true rfl | exact (show 0 + 0 ≤ 0 by omega))⟩) hS (fun locs hS => ?_)
            rw [hfr i (by omega) hin]
            refine lv_istore (lv' := [(9, .int (nI (zbid S i w9))), (0, .ref (ad 0)), (1, .int (nI u9)), (2, .int (nI i9)), (3, .int (nI v9)), (4, .ref (ad o9)), (5, .ref (ad r9)), (6, .int (nI (zbid S i9 v9))), (7, .int s9), (8, .int (nI i))]) hx hb dX4_profitInRows_57 hl (by decide) rfl (fun ls hl => ?_)
            refine lv_iload hx hb dX4_profitInRows_59 (lv_at hl 8 rfl) ?_
            refine lv_iload_n hx hb dX4_profitInRows_61 rfl (lv_at hl 2 rfl) ?_
            refine lv_iload_n hx hb dX4_profitInRows_62 rfl (lv_at hl 3 rfl) ?_
            refine lv_iload hx hb dX4_profitInRows_63 (lv_at hl 7 rfl) ?_
            refine lv_iload hx hb dX4_profitInRows_65 (lv_at hl 9 rfl) ?_
            refine lv_iload hx hb dX4_profitInRows_67 (lv_at hl 0 rfl) ?_
            have hz2 := zbid_in S i w9
            refine x_intE (vx_runS (As := [.int (nI i9), .int (nI (zbid S i9 v9)), .int (nI i), .int (nI (zbid S i w9))]) (rest := [.int (nI u9), .int s9]) ⟨hx, hb, hml, hown, hts⟩ (c_X4_wins l hfl G i9 (zbid S i9 v9) i (zbid S i w9) H (by omega) (by omega) (by omega) (by omega)) (va_cwS 4 hts gX4_profitInRows_X4_wins rfl rfl rfl (by decide +kernel) ⟨(Nat.le_of_ble_eq_true rfl), (Nat.le_of_ble_eq_true rfl)⟩) (xPreS hC hS) rfl rfl hl.1 rfl (lv_room (Nat.le_of_ble_eq_true rfl)) dX4_profitInRows_69 ⟨(by first | exact Nat.le_of_ble_eq_true rfl | exact (show 0 + 0 ≤ 0 by omega)), (by first | exact Nat.le_of_ble_eq_true rfl | exact (show 0 + 0 ≤ 0 by omega))⟩) hS (fun locs hS => ?_)
            refine lv_iload_n hx hb dX4_profitInRows_72 rfl (lv_at hl 4 rfl) ?_
            refine lv_iload hx hb dX4_profitInRows_73 (lv_at hl 7 rfl) ?_
            refine lv_iload hx hb dX4_profitInRows_75 (lv_at hl 0 rfl) ?_
            refine x_intE (vx_runS (As := [.int (nI u9), .int (xb (zwins i9 (zbid S i9 v9) i (zbid S i w9))), .int (nI v9), .int (nI (zbid S i9 v9)), .int (nI (zbid S i w9))]) (rest := [.int s9]) ⟨hx, hb, hml, hown, hts⟩ (c_X4_profitOf l hfl G u9 v9 (zbid S i9 v9) (zbid S i w9) (zwins i9 (zbid S i9 v9) i (zbid S i w9)) H hu9 (by omega) (by omega)) (va_cwS 5 hts gX4_profitInRows_X4_profitOf rfl rfl rfl (by decide +kernel) ⟨(Nat.le_of_ble_eq_true rfl), (Nat.le_of_ble_eq_true rfl)⟩) (xPreS hC hS) rfl rfl hl.1 rfl (lv_room (Nat.le_of_ble_eq_true rfl)) dX4_profitInRows_77 ⟨(by first | exact Nat.le_of_ble_eq_true rfl | exact (show 0 + 0 ≤ 0 by omega)), (by first | exact Nat.le_of_ble_eq_true rfl | exact (show 0 + 0 ≤ 0 by omega))⟩) hS (fun locs hS => ?_)
            refine lv_iadd hx hb dX4_profitInRows_80 ?_
            refine lv_istore (lv' := [(7, .int (s9 + (Int32.ofInt (zgain u9 (zwins i9 (zbid S i9 v9) i (zbid S i w9)) v9 (zbid S i9 v9) (zbid S i w9))))), (9, .int (nI (zbid S i w9))), (0, .ref (ad 0)), (1, .int (nI u9)), (2, .int (nI i9)), (3, .int (nI v9)), (4, .ref (ad o9)), (5, .ref (ad r9)), (6, .int (nI (zbid S i9 v9))), (8, .int (nI i))]) hx hb dX4_profitInRows_81 hl (by decide) rfl (fun ls hl => ?_)
            refine lv_iinc (v := (nI (i + 1))) (lv' := [(8, .int (nI (i + 1))), (7, .int (s9 + (Int32.ofInt (zgain u9 (zwins i9 (zbid S i9 v9) i (zbid S i w9)) v9 (zbid S i9 v9) (zbid S i w9))))), (9, .int (nI (zbid S i w9))), (0, .ref (ad 0)), (1, .int (nI u9)), (2, .int (nI i9)), (3, .int (nI v9)), (4, .ref (ad o9)), (5, .ref (ad r9)), (6, .int (nI (zbid S i9 v9)))]) hx hb dX4_profitInRows_83 hl (k := 9) rfl (xinc (by decide)) (by decide) rfl (fun ls hl => ?_)
            refine lv_goto (tgt := 14) hx hb dX4_profitInRows_86 (by decide) ?_
            exact ihL (i + 1) ((s9 + (Int32.ofInt (zgain u9 (zwins i9 (zbid S i9 v9) i (zbid S i w9)) v9 (zbid S i9 v9) (zbid S i w9))))) (by omega) (by rw [hs9, ← Int32.ofInt_add, zrow_yes hcond]; rfl) (by omega) _ hS ls (lv_sub hl [3, 4, 5, 6, 7, 8, 9, 1, 0] rfl)
  exact L _ (0) (nI 0) (Nat.zero_le _) (rfl) (Nat.lt_succ_self _) _ hS ls (lv_sub hl [3, 4, 5, 6, 7, 8, 2, 1, 0] rfl)

set_option maxHeartbeats 4000000 in
set_option maxRecDepth 100000 in
/-- layWorths(auction) -/
theorem c_X4_layWorths (l : Launch) (hfl : l.stackTraces = false) (G : xG) (ad : Nat → Nat) (S : zS) (kp : Nat → Nat) (m9 fb : Int32) (k9 : Nat) (a9 : Nat → Option Nat) (u9 : Nat) (f0 f1 f2 : Nat → Int32) (H : Heap) (hx0 : xB G ad fb (zK S) H) (hl9 : zList G ad (zN S) m9 k9 a9 H) (hW : zW S) (hst : ∀ i, i < zN S → zStrat G ad S kp i H) (hO : zown G ad (22 + 6 * zN S)) (hu9 : u9 < 4) (hpr : zPairs G ad S f1 f2 H) (hrow : zRow G ad 20 f0 H) : xMet l G yX4_layWorths wsX4_layWorths ({ frames := 5, cells := 0, slots := 0, locals := 125 } : Room) [.ref (ad 0), .int (nI u9)] H (fun v H1 => v = none ∧ ∃ f', zRow G ad 20 f' H1 ∧ (∀ j, j < zN S → zI S j = true → f' j = Int32.ofInt (zworth S u9 j)) ∧ xC [ad 21] H H1) (xNo) := by
  refine vx_ofW (cc := cX4_layWorths) (maxL := 4) (ret := none) (by decide) rfl ?_
  intro Pg Ev s m args below meth c s₁ B hml hout hv
  obtain ⟨rfl, hH, hC⟩ := hv
  have hx := B.exec
  have hb := B.bytes
  have hr := B.returns
  have hts := atoms_spec (ws := wsX4_layWorths) B.pre
  have hown : s.vm.findClass RX4 = some m.cls := findClass_of_methodNamed B.named
  have hlocks := B.notSynchronized
  rw [hH]
  have hS : va_S (xA G) s.heap H [] := by rw [← hH]; exact va_S.rf
  generalize ([] : List Loc) = locs at hS ⊢
  have hl := lv_entry [.ref (ad 0), .int (nI u9)] (n := 4) (Nat.le_of_ble_eq_true rfl)
  rw [lg_entry_eq]
  generalize (lg_sl [.ref (ad 0), .int (nI u9)] ++ List.replicate (4 - (lg_sl [.ref (ad 0), .int (nI u9)]).length) Slot.unset).toArray = ls at hl ⊢
  have hl : lv_has ls 4 [(0, .ref (ad 0)), (1, .int (nI u9))] := hl
  have hl0 := hl9.1.1
  have hn20 := hW.1
  obtain ⟨hrw, hra⟩ := hrow
  refine lv_iconst (v := (nI 0)) hx hb dX4_layWorths_0 (by decide) ?_
  refine lv_istore_n (lv' := [(2, .int (nI 0)), (0, .ref (ad 0)), (1, .int (nI u9))]) hx hb dX4_layWorths_1 rfl hl (by decide) rfl (fun ls hl => ?_)
  have L : ∀ (kL : Nat) (i : Nat) (f' : Nat → Int32), (i ≤ zN S) → (∀ j, j < i → zI S j = true → f' j = Int32.ofInt (zworth S u9 j)) → zN S - i < kL → ∀ (HL : Heap), (iA G (ad 21) 20 f' HL) → (xC [ad 21] H HL) → ∀ (locs : List Loc), va_S (xA G) s.heap HL locs → ∀ ls : Array Slot, lv_has ls 4 [(0, .ref (ad 0)), (1, .int (nI u9)), (2, .int (nI i))] → W Pg l Ev (headSpec wsX4_layWorths ({ frames := 5, cells := 0, slots := 0, locals := 125 } : Room)).room s m ([.ref (ad 0), .int (nI u9)] : List Value).toArray below meth c HL locs (0) (0) (vx_MQ below (xQ G (fun v H1 => v = none ∧ ∃ f', zRow G ad 20 f' H1 ∧ (∀ j, j < zN S → zI S j = true → f' j = Int32.ofInt (zworth S u9 j)) ∧ xC [ad 21] H H1)) (xX G (xNo)) ([.ref (ad 0), .int (nI u9)] : List Value).toArray s ({ frames := 5, cells := 0, slots := 0, locals := 125 } : Room).cells ({ frames := 5, cells := 0, slots := 0, locals := 125 } : Room).slots (xA G)) (F0 m 2 ls []) := by
    intro kL
    induction kL with
    | zero => intro i f' hi hfs hk; exact absurd hk (Nat.not_lt_zero _)
    | succ kL ihL =>
      intro i f' hi hfs hk HL hra hcc locs hS ls hl
      have hx0 := xB.kept (ls := [21]) hx0 hO hcc (by omega) (xl1 (by omega)) (xn1 (by omega))
      have hl9 := zList.kept (ls := [21]) hl9 hO hcc (by omega) (xl1 (by omega)) ⟨xn1 (by omega), xn1 (by omega)⟩
      have hst := fun i (hi : i < zN S) => zStrat.kept (ls := [21]) (hst i hi) hO hcc (by omega) (xl1 (by omega)) (fun j hj => xn1 (by omega))
      have hl0 := hl9.1.1
      have hrw := hcc.at hrw (xn1 (hO.ne (by omega) (by omega) (by omega)))
      have hpr := zPairs.kept (ls := [21]) hpr hO hcc (by omega) (xl1 (by omega)) (fun i h1 h2 => xn1 (by omega))
      refine lv_iload_n hx hb dX4_layWorths_2 rfl (lv_at hl 2 rfl) ?_
      refine lv_aload_n hx hb dX4_layWorths_3 rfl (lv_at hl 0 rfl) ?_
      refine va_get (D := xD G) (ci := 5) (v := .ref (ad 10)) (C := RX4) (T := TX4) (N := 11) hx hb hts (by decide +kernel) hown hC.1 (x1 hx0) 0 rfl rfl 3 (by decide) (hts (.fieldLink RX4 29 "Bidwhistle" "strategies" "Ljava/util/ArrayList;") (by decide +kernel)) (fun _ h9 => h9) rfl dX4_layWorths_4 ?_
      refine x_intE (vx_runV (As := []) (rest := [.int (nI i)]) ⟨hx, hb, hml, hown, hts⟩ (c_Jx4a65c_size_8abf5 l hfl G (ad 10) (ad 11) (zN S) m9 HL hl0) (cwV 0 hts gX4_layWorths_Jx4a65c_size_8abf5 rfl rfl rfl (by decide +kernel) ⟨(Nat.le_of_ble_eq_true rfl), (Nat.le_of_ble_eq_true rfl)⟩) (xPreV hC hS hl0 (q := (RJx4a65c, TJx4a65c, 3)) rfl) rfl rfl hl.1 rfl (lv_room (Nat.le_of_ble_eq_true rfl)) dX4_layWorths_7 ⟨(by first | exact Nat.le_of_ble_eq_true rfl | exact (show 0 + 0 ≤ 0 by omega)), (by first | exact Nat.le_of_ble_eq_true rfl | exact (show 0 + 0 ≤ 0 by omega))⟩) hS (fun locs hS => ?_)
      refine lv_icmp_ge (tgt := 52) hx hb dX4_layWorths_10 (by decide) (fun c_1 => ?_) (fun c_1 => ?_)
      · have _ := hx
        have c_1 : (zN S) ≤ i := (nI_leI (a := (zN S)) (b := i) (by omega) (by omega)).mp c_1
        exact x_vret (G := G) hx hb hr dX4_layWorths_52 hlocks hS (by first | exact Nat.le_of_ble_eq_true rfl | exact (show 0 ≤ 0 by omega)) (by first | exact Nat.le_of_ble_eq_true rfl | exact (show 0 ≤ 0 by omega)) ⟨rfl, f', ⟨hrw, hra⟩, fun j hj => hfs j (by omega), hcc⟩
      · have _ := hx
        have c_1 : ¬ ((zN S) ≤ i) := fun z => c_1 ((nI_leI (a := (zN S)) (b := i) (by omega) (by omega)).mpr z)
        refine lv_aload_n hx hb dX4_layWorths_13 rfl (lv_at hl 0 rfl) ?_
        refine va_get (D := xD G) (ci := 5) (v := .ref (ad 10)) (C := RX4) (T := TX4) (N := 11) hx hb hts (by decide +kernel) hown hC.1 (x1 hx0) 0 rfl rfl 3 (by decide) (hts (.fieldLink RX4 29 "Bidwhistle" "strategies" "Ljava/util/ArrayList;") (by decide +kernel)) (fun _ h9 => h9) rfl dX4_layWorths_14 ?_
        refine lv_iload_n hx hb dX4_layWorths_17 rfl (lv_at hl 2 rfl) ?_
        have hq := lA.q hl9.1 (show i < zN S by omega)
        refine x_refE (vx_runV (As := [.int (nI i)]) (rest := []) ⟨hx, hb, hml, hown, hts⟩ (c_Jx4a65c_get_915e3 l hfl G (ad 10) (ad 11) (zN S) k9 i (ad (22 + 6 * i)) m9 a9 HL hl0 hq.1 (by omega) hq.2.1 hq.2.2 (hl9.2 i (by omega))) (cwV 1 hts gX4_layWorths_Jx4a65c_get_915e3 rfl rfl rfl (by decide +kernel) ⟨(Nat.le_of_ble_eq_true rfl), (Nat.le_of_ble_eq_true rfl)⟩) (xPreV hC hS hl0 (q := (RJx4a65c, TJx4a65c, 3)) rfl) rfl rfl hl.1 rfl (lv_room (Nat.le_of_ble_eq_true rfl)) dX4_layWorths_18 ⟨(by first | exact Nat.le_of_ble_eq_true rfl | exact (show 0 + 0 ≤ 0 by omega)), (by first | exact Nat.le_of_ble_eq_true rfl | exact (show 0 + 0 ≤ 0 by omega))⟩) hS (fun locs hS => ?_)
        obtain ⟨ts_2, sls_2, fs_2, hss_2, hps_2, hbs_2, hvs_2, hts_2, hfs_2, hzs_2⟩ := hst i (by omega)
        refine va_castY (C := "Bidwhistle$Strategy") hx hb hown (hts (.classLink RX4 111 "Bidwhistle$Strategy") (by decide +kernel)) (hC.2.1 _ (by decide +kernel)) (va_recv hC.1 (x1 hss_2) (q0 := 0) (ci := 4) (q := (RX3, TX3, 8)) rfl rfl) dX4_layWorths_21 ?_
        refine lv_astore_n (lv' := [(3, .ref (ad (22 + 6 * i))), (0, .ref (ad 0)), (1, .int (nI u9)), (2, .int (nI i))]) hx hb dX4_layWorths_24 rfl hl (by decide) rfl (fun ls hl => ?_)
        refine lv_aload_n hx hb dX4_layWorths_25 rfl (lv_at hl 0 rfl) ?_
        refine va_getN (D := xD G) (ci := 4) (v := .int (xb (zI S i))) (C := RX3) (T := TX3) (N := 8) hx hb hts (by decide +kernel) hown hC.1 (x1 hss_2) 0 rfl rfl 7 (by decide) (va_Nw.use rfl (hC.2.1 (.fieldLinkNest "Bidwhistle" 129 "Bidwhistle$Strategy" "inPool" "Z" "Bidwhistle") (by decide +kernel))) (fun _ h9 => h9) rfl dX4_layWorths_26 ?_
        refine lv_if_eq (tgt := 46) hx hb dX4_layWorths_29 (by decide) (fun c_3 => ?_) (fun c_3 => ?_)
        · have _ := hx
          refine lv_iinc (v := (nI (i + 1))) (lv' := [(2, .int (nI (i + 1))), (3, .ref (ad (22 + 6 * i))), (0, .ref (ad 0)), (1, .int (nI u9))]) hx hb dX4_layWorths_46 hl (k := 3) rfl (xinc (by decide)) (by decide) rfl (fun ls hl => ?_)
          refine lv_goto (tgt := 2) hx hb dX4_layWorths_49 (by decide) ?_
          have _ := hcc.1
          exact ihL (i + 1) (f') (by omega) (fun j hj hjI => by rcases Nat.lt_or_ge j i with z | z; exact hfs j z hjI; rw [show j = i by omega, xb_0.mp c_3] at hjI; cases hjI) (by omega) HL hra (hcc.mono (fun q hq => by simp only [List.mem_append, List.mem_cons, List.not_mem_nil, or_false, false_or] at hq ⊢; omega)) _ hS ls (lv_sub hl [2, 3, 0] rfl)
        · have _ := hx
          refine lv_aload_n hx hb dX4_layWorths_32 rfl (lv_at hl 1 rfl) ?_
          refine va_get (D := xD G) (ci := 5) (v := .ref (ad 20)) (C := RX4) (T := TX4) (N := 11) hx hb hts (by decide +kernel) hown hC.1 (x1 hx0) 0 rfl rfl 10 (by decide) (hts (.fieldLink RX4 58 "Bidwhistle" "worths" "LBidwhistle$Row;") (by decide +kernel)) (fun _ h9 => h9) rfl dX4_layWorths_33 ?_
          refine lv_iload_n hx hb dX4_layWorths_36 rfl (lv_at hl 3 rfl) ?_
          refine lv_aload_n hx hb dX4_layWorths_37 rfl (lv_at hl 1 rfl) ?_
          refine lv_iload_n hx hb dX4_layWorths_38 rfl (lv_at hl 2 rfl) ?_
          refine lv_aload_n hx hb dX4_layWorths_39 rfl (lv_at hl 0 rfl) ?_
          refine x_intE (vx_runV (As := [.int (nI u9), .ref (ad (22 + 6 * i))]) (rest := [.int (nI i), .ref (ad 20)]) ⟨hx, hb, hml, hown, hts⟩ (c_X4_worthByStrategies l hfl G ad S kp m9 fb k9 a9 u9 i f1 f2 HL hx0 hl9 hW hst hu9 (by omega) hpr) (cwV 2 hts gX4_layWorths_X4_worthByStrategies rfl rfl rfl (by decide +kernel) ⟨(Nat.le_of_ble_eq_true rfl), (Nat.le_of_ble_eq_true rfl)⟩) (xPreV hC hS hx0 (q := (RX4, TX4, 11)) rfl) rfl rfl hl.1 rfl (lv_room (Nat.le_of_ble_eq_true rfl)) dX4_layWorths_40 ⟨(by first | exact Nat.le_of_ble_eq_true rfl | exact (show 0 + 0 ≤ 0 by omega)), (by first | exact Nat.le_of_ble_eq_true rfl | exact (show 0 + 0 ≤ 0 by omega))⟩) hS (fun locs hS => ?_)
          have hsz := hS.1
          refine x_call (px := xNo) (vx_runV (As := [.int (nI i), .int (Int32.ofInt (zworth S u9 i))]) (rest := []) ⟨hx, hb, hml, hown, hts⟩ (c_X1_put l hfl G (ad 20) (ad 21) 20 i f' (Int32.ofInt (zworth S u9 i)) HL hrw hra (by omega) (by decide) (hO.2 _ (by omega) (by omega)) (hO.ne (by omega) (by omega) (by omega))) (cwV 2 hts gX4_layWorths_X1_put rfl rfl rfl (by decide +kernel) ⟨(Nat.le_of_ble_eq_true rfl), (Nat.le_of_ble_eq_true rfl)⟩) (xPreV hC hS hrw (q := (RX1, TX1, 1)) rfl) rfl rfl hl.1 rfl (lv_room (Nat.le_of_ble_eq_true rfl)) dX4_layWorths_43 ⟨(by first | exact Nat.le_of_ble_eq_true rfl | exact (show 0 + 0 ≤ 0 by omega)), (by first | exact Nat.le_of_ble_eq_true rfl | exact (show 0 + 0 ≤ 0 by omega))⟩) hS (fun _ h => h) (fun _ _ _ _ _ h => False.elim h) (fun v H_4 locs hp hz hk_5 hS => ?_)
          obtain ⟨rfl, hu6, hc6⟩ := hp
          have hx0 := hc6.at hx0 (xn1 (hO.ne (i := 0) (j := 21) (by omega) (by omega) (by omega)))
          have hl0 := hc6.at hl0 (xn1 (hO.ne (i := 10) (j := 21) (by omega) (by omega) (by omega)))
          have hrw := hc6.at hrw (xn1 (hO.ne (i := 20) (j := 21) (by omega) (by omega) (by omega)))
          have hss_2 := hc6.at hss_2 (xn1 (hO.ne (i := (22 + 6 * i)) (j := 21) (by omega) (by omega) (by omega)))
          refine lv_iinc (v := (nI (i + 1))) (lv' := [(2, .int (nI (i + 1))), (3, .ref (ad (22 + 6 * i))), (0, .ref (ad 0)), (1, .int (nI u9))]) hx hb dX4_layWorths_46 hl (k := 3) rfl (xinc (by decide)) (by decide) rfl (fun ls hl => ?_)
          refine lv_goto (tgt := 2) hx hb dX4_layWorths_49 (by decide) ?_
          have _ := hcc.1
          have _ := hc6.1
          exact ihL (i + 1) (upd f' i (Int32.ofInt (zworth S u9 i))) (by omega) (fun j hj hjI => by by_cases z : j = i; (subst z; exact pk_us); (rw [pk_un z]; exact hfs j (by omega) hjI)) (by omega) H_4 hu6 ((hcc.tr hc6).mono (fun q hq => by simp only [List.mem_append, List.mem_cons, List.not_mem_nil, or_false, false_or] at hq ⊢; omega)) _ hS ls (lv_sub hl [2, 3, 0] rfl)
  exact L _ (0) (f0) (Nat.zero_le _) (fun j hj => absurd hj (Nat.not_lt_zero j)) (Nat.lt_succ_self _) H hra (xC.rf) _ hS ls (lv_sub hl [1, 2, 0] rfl)

theorem xpar_succ (i : Nat) : nI i = xpar (i + 1) := by unfold xpar; rw [if_neg (by omega)]; rfl
set_option maxHeartbeats 4000000 in
set_option maxRecDepth 100000 in
/-- strongestBut(except) -/
theorem c_X4_strongestBut (l : Launch) (hfl : l.stackTraces = false) (G : xG) (ad : Nat → Nat) (S : zS) (kp : Nat → Nat) (m9 fb : Int32) (k9 : Nat) (a9 : Nat → Option Nat) (b9 : Nat) (W9 : Nat → Int) (f9 : Nat → Int32) (H : Heap) (hx0 : xB G ad fb (zK S) H) (hl9 : zList G ad (zN S) m9 k9 a9 H) (hW : zW S) (hst : ∀ i, i < zN S → zStrat G ad S kp i H) (hrow : zRow G ad 20 f9 H) (hW9 : ∀ j, -1000000 ≤ W9 j ∧ W9 j ≤ 1000000) (hf9 : ∀ j, j < zN S → zI S j = true → f9 j = Int32.ofInt (W9 j)) (hb9 : b9 ≤ 1000) : xMet l G yX4_strongestBut wsX4_strongestBut ({ frames := 3, cells := 0, slots := 0, locals := 64 } : Room) [.ref (ad 0), .int (xpar b9)] H (xi H (xpar (zmost (zI S) W9 b9 (zN S)))) (xNo) := by
  refine vx_ofW (cc := cX4_strongestBut) (maxL := 4) (ret := (some .int)) (by decide) rfl ?_
  intro Pg Ev s m args below meth c s₁ B hml hout hv
  obtain ⟨rfl, hH, hC⟩ := hv
  have hx := B.exec
  have hb := B.bytes
  have hr := B.returns
  have hts := atoms_spec (ws := wsX4_strongestBut) B.pre
  have hown : s.vm.findClass RX4 = some m.cls := findClass_of_methodNamed B.named
  have hlocks := B.notSynchronized
  rw [hH]
  have hS : va_S (xA G) s.heap H [] := by rw [← hH]; exact va_S.rf
  generalize ([] : List Loc) = locs at hS ⊢
  have hl := lv_entry [.ref (ad 0), .int (xpar b9)] (n := 4) (Nat.le_of_ble_eq_true rfl)
  rw [lg_entry_eq]
  generalize (lg_sl [.ref (ad 0), .int (xpar b9)] ++ List.replicate (4 - (lg_sl [.ref (ad 0), .int (xpar b9)]).length) Slot.unset).toArray = ls at hl ⊢
  have hl : lv_has ls 4 [(0, .ref (ad 0)), (1, .int (xpar b9))] := hl
  have hl0 := hl9.1.1
  have hn20 := hW.1
  obtain ⟨hrw, hra⟩ := hrow
  refine lv_iconst (v := xpar 0) hx hb dX4_strongestBut_0 (by decide) ?_
  refine lv_istore_n (lv' := [(2, .int (xpar 0)), (0, .ref (ad 0)), (1, .int (xpar b9))]) hx hb dX4_strongestBut_1 rfl hl (by decide) rfl (fun ls hl => ?_)
  refine lv_iconst (v := (nI 0)) hx hb dX4_strongestBut_2 (by decide) ?_
  refine lv_istore_n (lv' := [(3, .int (nI 0)), (2, .int (xpar 0)), (0, .ref (ad 0)), (1, .int (xpar b9))]) hx hb dX4_strongestBut_3 rfl hl (by decide) rfl (fun ls hl => ?_)
  have L : ∀ (kL : Nat) (i : Nat) (e9 : Nat), (i ≤ zN S) → (e9 = zmost (zI S) W9 b9 i) → (e9 ≠ 0 → zI S (e9 - 1) = true ∧ e9 ≤ i) → zN S - i < kL → ∀ (locs : List Loc), va_S (xA G) s.heap H locs → ∀ ls : Array Slot, lv_has ls 4 [(0, .ref (ad 0)), (1, .int (xpar b9)), (2, .int (xpar e9)), (3, .int (nI i))] → W Pg l Ev (headSpec wsX4_strongestBut ({ frames := 3, cells := 0, slots := 0, locals := 64 } : Room)).room s m ([.ref (ad 0), .int (xpar b9)] : List Value).toArray below meth c H locs (0) (0) (vx_MQ below (xQ G (xi H (xpar (zmost (zI S) W9 b9 (zN S))))) (xX G (xNo)) ([.ref (ad 0), .int (xpar b9)] : List Value).toArray s ({ frames := 3, cells := 0, slots := 0, locals := 64 } : Room).cells ({ frames := 3, cells := 0, slots := 0, locals := 64 } : Room).slots (xA G)) (F0 m 4 ls []) := by
    intro kL
    induction kL with
    | zero => intro i e9 hi he9 hmI hk; exact absurd hk (Nat.not_lt_zero _)
    | succ kL ihL =>
      intro i e9 hi he9 hmI hk locs hS ls hl
      refine lv_iload_n hx hb dX4_strongestBut_4 rfl (lv_at hl 3 rfl) ?_
      refine lv_aload_n hx hb dX4_strongestBut_5 rfl (lv_at hl 0 rfl) ?_
      refine va_get (D := xD G) (ci := 5) (v := .ref (ad 10)) (C := RX4) (T := TX4) (N := 11) hx hb hts (by decide +kernel) hown hC.1 (x1 hx0) 0 rfl rfl 3 (by decide) (hts (.fieldLink RX4 29 "Bidwhistle" "strategies" "Ljava/util/ArrayList;") (by decide +kernel)) (fun _ h9 => h9) rfl dX4_strongestBut_6 ?_
      refine x_intE (vx_runV (As := []) (rest := [.int (nI i)]) ⟨hx, hb, hml, hown, hts⟩ (c_Jx4a65c_size_8abf5 l hfl G (ad 10) (ad 11) (zN S) m9 H hl0) (cwV 0 hts gX4_strongestBut_Jx4a65c_size_8abf5 rfl rfl rfl (by decide +kernel) ⟨(Nat.le_of_ble_eq_true rfl), (Nat.le_of_ble_eq_true rfl)⟩) (xPreV hC hS hl0 (q := (RJx4a65c, TJx4a65c, 3)) rfl) rfl rfl hl.1 rfl (lv_room (Nat.le_of_ble_eq_true rfl)) dX4_strongestBut_9 ⟨(by first | exact Nat.le_of_ble_eq_true rfl | exact (show 0 + 0 ≤ 0 by omega)), (by first | exact Nat.le_of_ble_eq_true rfl | exact (show 0 + 0 ≤ 0 by omega))⟩) hS (fun locs hS => ?_)
      refine lv_icmp_ge (tgt := 69) hx hb dX4_strongestBut_12 (by decide) (fun c_1 => ?_) (fun c_1 => ?_)
      · have _ := hx
        have c_1 : (zN S) ≤ i := (nI_leI (a := (zN S)) (b := i) (by omega) (by omega)).mp c_1
        refine lv_iload_n hx hb dX4_strongestBut_69 rfl (lv_at hl 2 rfl) ?_
        exact x_iret (G := G) hx hb hr rfl dX4_strongestBut_70 hlocks hS (by first | exact Nat.le_of_ble_eq_true rfl | exact (show 0 ≤ 0 by omega)) (by first | exact Nat.le_of_ble_eq_true rfl | exact (show 0 ≤ 0 by omega)) ⟨rfl, by rw [he9, show i = zN S by omega]⟩
      · have _ := hx
        have c_1 : ¬ ((zN S) ≤ i) := fun z => c_1 ((nI_leI (a := (zN S)) (b := i) (by omega) (by omega)).mpr z)
        refine lv_aload_n hx hb dX4_strongestBut_15 rfl (lv_at hl 0 rfl) ?_
        refine va_get (D := xD G) (ci := 5) (v := .ref (ad 10)) (C := RX4) (T := TX4) (N := 11) hx hb hts (by decide +kernel) hown hC.1 (x1 hx0) 0 rfl rfl 3 (by decide) (hts (.fieldLink RX4 29 "Bidwhistle" "strategies" "Ljava/util/ArrayList;") (by decide +kernel)) (fun _ h9 => h9) rfl dX4_strongestBut_16 ?_
        refine lv_iload_n hx hb dX4_strongestBut_19 rfl (lv_at hl 3 rfl) ?_
        have hq := lA.q hl9.1 (show i < zN S by omega)
        refine x_refE (vx_runV (As := [.int (nI i)]) (rest := []) ⟨hx, hb, hml, hown, hts⟩ (c_Jx4a65c_get_915e3 l hfl G (ad 10) (ad 11) (zN S) k9 i (ad (22 + 6 * i)) m9 a9 H hl0 hq.1 (by omega) hq.2.1 hq.2.2 (hl9.2 i (by omega))) (cwV 1 hts gX4_strongestBut_Jx4a65c_get_915e3 rfl rfl rfl (by decide +kernel) ⟨(Nat.le_of_ble_eq_true rfl), (Nat.le_of_ble_eq_true rfl)⟩) (xPreV hC hS hl0 (q := (RJx4a65c, TJx4a65c, 3)) rfl) rfl rfl hl.1 rfl (lv_room (Nat.le_of_ble_eq_true rfl)) dX4_strongestBut_20 ⟨(by first | exact Nat.le_of_ble_eq_true rfl | exact (show 0 + 0 ≤ 0 by omega)), (by first | exact Nat.le_of_ble_eq_true rfl | exact (show 0 + 0 ≤ 0 by omega))⟩) hS (fun locs hS => ?_)
        obtain ⟨ts_2, sls_2, fs_2, hss_2, hps_2, hbs_2, hvs_2, hts_2, hfs_2, hzs_2⟩ := hst i (by omega)
        refine va_castY (C := "Bidwhistle$Strategy") hx hb hown (hts (.classLink RX4 111 "Bidwhistle$Strategy") (by decide +kernel)) (hC.2.1 _ (by decide +kernel)) (va_recv hC.1 (x1 hss_2) (q0 := 0) (ci := 4) (q := (RX3, TX3, 8)) rfl rfl) dX4_strongestBut_23 ?_
        refine va_getN (D := xD G) (ci := 4) (v := .int (xb (zI S i))) (C := RX3) (T := TX3) (N := 8) hx hb hts (by decide +kernel) hown hC.1 (x1 hss_2) 0 rfl rfl 7 (by decide) (va_Nw.use rfl (hC.2.1 (.fieldLinkNest "Bidwhistle" 129 "Bidwhistle$Strategy" "inPool" "Z" "Bidwhistle") (by decide +kernel))) (fun _ h9 => h9) rfl dX4_strongestBut_26 ?_
        refine lv_if_eq (tgt := 63) hx hb dX4_strongestBut_29 (by decide) (fun c_3 => ?_) (fun c_3 => ?_)
        · have _ := hx
          have hcond : ¬ (zI S i = true ∧ i + 1 ≠ b9 ∧ (zmost (zI S) W9 b9 i = 0 ∨ W9 (zmost (zI S) W9 b9 i - 1) < W9 i)) := fun z => by rw [xb_0.mp c_3] at z; exact absurd z.1 (by decide)
          refine lv_iinc (v := (nI (i + 1))) (lv' := [(3, .int (nI (i + 1))), (0, .ref (ad 0)), (1, .int (xpar b9)), (2, .int (xpar e9))]) hx hb dX4_strongestBut_63 hl (k := 3) rfl (xinc (by decide)) (by decide) rfl (fun ls hl => ?_)
          refine lv_goto (tgt := 4) hx hb dX4_strongestBut_66 (by decide) ?_
          exact ihL (i + 1) (e9) (by omega) (by rw [zmost_no hcond]; exact he9) (fun z => ⟨(hmI z).1, by have := (hmI z).2; omega⟩) (by omega) _ hS ls (lv_sub hl [1, 2, 3, 0] rfl)
        · have _ := hx
          have hin := xb_1 c_3
          refine lv_iload_n hx hb dX4_strongestBut_32 rfl (lv_at hl 3 rfl) ?_
          refine lv_iload_n hx hb dX4_strongestBut_33 rfl (lv_at hl 1 rfl) ?_
          refine lv_icmp_eq (tgt := 63) hx hb dX4_strongestBut_34 (by decide) (fun c_4 => ?_) (fun c_4 => ?_)
          · have _ := hx
            have hcond : ¬ (zI S i = true ∧ i + 1 ≠ b9 ∧ (zmost (zI S) W9 b9 i = 0 ∨ W9 (zmost (zI S) W9 b9 i - 1) < W9 i)) := fun z => z.2.1 ((xpar_eq (by omega) (by omega)).mp c_4)
            refine lv_iinc (v := (nI (i + 1))) (lv' := [(3, .int (nI (i + 1))), (0, .ref (ad 0)), (1, .int (xpar b9)), (2, .int (xpar e9))]) hx hb dX4_strongestBut_63 hl (k := 3) rfl (xinc (by decide)) (by decide) rfl (fun ls hl => ?_)
            refine lv_goto (tgt := 4) hx hb dX4_strongestBut_66 (by decide) ?_
            exact ihL (i + 1) (e9) (by omega) (by rw [zmost_no hcond]; exact he9) (fun z => ⟨(hmI z).1, by have := (hmI z).2; omega⟩) (by omega) _ hS ls (lv_sub hl [1, 2, 3, 0] rfl)
          · have _ := hx
            have hne : i + 1 ≠ b9 := fun z => c_4 ((xpar_eq (by omega) (by omega)).mpr z)
            refine lv_iload_n hx hb dX4_strongestBut_37 rfl (lv_at hl 2 rfl) ?_
            refine lv_iconst (v := (-1)) hx hb dX4_strongestBut_38 (by decide) ?_
            refine lv_icmp_eq (tgt := 61) hx hb dX4_strongestBut_39 (by decide) (fun c_5 => ?_) (fun c_5 => ?_)
            · have _ := hx
              have hmle := zmost_le (zI S) W9 b9 i
              have hcond : zI S i = true ∧ i + 1 ≠ b9 ∧ (zmost (zI S) W9 b9 i = 0 ∨ W9 (zmost (zI S) W9 b9 i - 1) < W9 i) := ⟨hin, hne, Or.inl (by rw [← he9]; exact (xpar_m1 (by omega)).mp c_5)⟩
              refine lv_iload_n hx hb dX4_strongestBut_61 rfl (lv_at hl 3 rfl) ?_
              rw [xpar_succ i]
              refine lv_istore_n (lv' := [(2, .int (xpar (i + 1))), (0, .ref (ad 0)), (1, .int (xpar b9)), (3, .int (nI i))]) hx hb dX4_strongestBut_62 rfl hl (by decide) rfl (fun ls hl => ?_)
              refine lv_iinc (v := (nI (i + 1))) (lv' := [(3, .int (nI (i + 1))), (2, .int (xpar (i + 1))), (0, .ref (ad 0)), (1, .int (xpar b9))]) hx hb dX4_strongestBut_63 hl (k := 3) rfl (xinc (by decide)) (by decide) rfl (fun ls hl => ?_)
              refine lv_goto (tgt := 4) hx hb dX4_strongestBut_66 (by decide) ?_
              exact ihL (i + 1) (i + 1) (by omega) ((zmost_yes hcond).symm) (fun _ => ⟨hin, Nat.le_refl _⟩) (by omega) _ hS ls (lv_sub hl [2, 3, 1, 0] rfl)
            · have _ := hx
              have hmle := zmost_le (zI S) W9 b9 i
              have hm0 : e9 ≠ 0 := fun z => c_5 ((xpar_m1 (by omega)).mpr z)
              refine lv_aload_n hx hb dX4_strongestBut_42 rfl (lv_at hl 0 rfl) ?_
              refine va_get (D := xD G) (ci := 5) (v := .ref (ad 20)) (C := RX4) (T := TX4) (N := 11) hx hb hts (by decide +kernel) hown hC.1 (x1 hx0) 0 rfl rfl 10 (by decide) (hts (.fieldLink RX4 58 "Bidwhistle" "worths" "LBidwhistle$Row;") (by decide +kernel)) (fun _ h9 => h9) rfl dX4_strongestBut_43 ?_
              refine lv_iload_n hx hb dX4_strongestBut_46 rfl (lv_at hl 3 rfl) ?_
              refine x_intE (vx_runV (As := [.int (nI i)]) (rest := []) ⟨hx, hb, hml, hown, hts⟩ (c_X1_at l hfl G (ad 20) (ad 21) 20 (i) f9 H hrw hra (by omega) (by decide)) (cwV 1 hts gX4_strongestBut_X1_at rfl rfl rfl (by decide +kernel) ⟨(Nat.le_of_ble_eq_true rfl), (Nat.le_of_ble_eq_true rfl)⟩) (xPreV hC hS hrw (q := (RX1, TX1, 1)) rfl) rfl rfl hl.1 rfl (lv_room (Nat.le_of_ble_eq_true rfl)) dX4_strongestBut_47 ⟨(by first | exact Nat.le_of_ble_eq_true rfl | exact (show 0 + 0 ≤ 0 by omega)), (by first | exact Nat.le_of_ble_eq_true rfl | exact (show 0 + 0 ≤ 0 by omega))⟩) hS (fun locs hS => ?_)
              rw [hf9 i (by omega) hin]
              refine lv_aload_n hx hb dX4_strongestBut_50 rfl (lv_at hl 0 rfl) ?_
              refine va_get (D := xD G) (ci := 5) (v := .ref (ad 20)) (C := RX4) (T := TX4) (N := 11) hx hb hts (by decide +kernel) hown hC.1 (x1 hx0) 0 rfl rfl 10 (by decide) (hts (.fieldLink RX4 58 "Bidwhistle" "worths" "LBidwhistle$Row;") (by decide +kernel)) (fun _ h9 => h9) rfl dX4_strongestBut_51 ?_
              refine lv_iload_n hx hb dX4_strongestBut_54 rfl (lv_at hl 2 rfl) ?_
              obtain ⟨hmI1, hmI2⟩ := hmI hm0
              rw [xpar_pos hm0]
              refine x_intE (vx_runV (As := [.int (nI (e9 - 1))]) (rest := [.int (Int32.ofInt (W9 i))]) ⟨hx, hb, hml, hown, hts⟩ (c_X1_at l hfl G (ad 20) (ad 21) 20 (e9 - 1) f9 H hrw hra (by omega) (by decide)) (cwV 1 hts gX4_strongestBut_X1_at rfl rfl rfl (by decide +kernel) ⟨(Nat.le_of_ble_eq_true rfl), (Nat.le_of_ble_eq_true rfl)⟩) (xPreV hC hS hrw (q := (RX1, TX1, 1)) rfl) rfl rfl hl.1 rfl (lv_room (Nat.le_of_ble_eq_true rfl)) dX4_strongestBut_55 ⟨(by first | exact Nat.le_of_ble_eq_true rfl | exact (show 0 + 0 ≤ 0 by omega)), (by first | exact Nat.le_of_ble_eq_true rfl | exact (show 0 + 0 ≤ 0 by omega))⟩) hS (fun locs hS => ?_)
              rw [hf9 (e9 - 1) (by omega) hmI1]
              refine lv_icmp_le (tgt := 63) hx hb dX4_strongestBut_58 (by decide) (fun c_6 => ?_) (fun c_6 => ?_)
              · have _ := hx
                have hcond : ¬ (zI S i = true ∧ i + 1 ≠ b9 ∧ (zmost (zI S) W9 b9 i = 0 ∨ W9 (zmost (zI S) W9 b9 i - 1) < W9 i)) := fun z => by rw [← he9] at z; have h8 := (zI_le (by have := hW9 i; omega) (by have := hW9 (e9 - 1); omega)).mp c_6; rcases z.2.2 with z | z; exact hm0 z; omega
                refine lv_iinc (v := (nI (i + 1))) (lv' := [(3, .int (nI (i + 1))), (0, .ref (ad 0)), (1, .int (xpar b9)), (2, .int (xpar e9))]) hx hb dX4_strongestBut_63 hl (k := 3) rfl (xinc (by decide)) (by decide) rfl (fun ls hl => ?_)
                refine lv_goto (tgt := 4) hx hb dX4_strongestBut_66 (by decide) ?_
                exact ihL (i + 1) (e9) (by omega) (by rw [zmost_no hcond]; exact he9) (fun z => ⟨(hmI z).1, by have := (hmI z).2; omega⟩) (by omega) _ hS ls (lv_sub hl [1, 2, 3, 0] rfl)
              · have _ := hx
                have hcond : zI S i = true ∧ i + 1 ≠ b9 ∧ (zmost (zI S) W9 b9 i = 0 ∨ W9 (zmost (zI S) W9 b9 i - 1) < W9 i) := ⟨hin, hne, Or.inr (by rw [← he9]; exact Int.not_le.mp (fun q => c_6 ((zI_le (by have := hW9 i; omega) (by have := hW9 (e9 - 1); omega)).mpr q)))⟩
                refine lv_iload_n hx hb dX4_strongestBut_61 rfl (lv_at hl 3 rfl) ?_
                rw [xpar_succ i]
                refine lv_istore_n (lv' := [(2, .int (xpar (i + 1))), (0, .ref (ad 0)), (1, .int (xpar b9)), (3, .int (nI i))]) hx hb dX4_strongestBut_62 rfl hl (by decide) rfl (fun ls hl => ?_)
                refine lv_iinc (v := (nI (i + 1))) (lv' := [(3, .int (nI (i + 1))), (2, .int (xpar (i + 1))), (0, .ref (ad 0)), (1, .int (xpar b9))]) hx hb dX4_strongestBut_63 hl (k := 3) rfl (xinc (by decide)) (by decide) rfl (fun ls hl => ?_)
                refine lv_goto (tgt := 4) hx hb dX4_strongestBut_66 (by decide) ?_
                exact ihL (i + 1) (i + 1) (by omega) ((zmost_yes hcond).symm) (fun _ => ⟨hin, Nat.le_refl _⟩) (by omega) _ hS ls (lv_sub hl [2, 3, 1, 0] rfl)
  exact L _ (0) (0) (Nat.zero_le _) (rfl) (fun z => absurd rfl z) (Nat.lt_succ_self _) _ hS ls (lv_sub hl [2, 3, 1, 0] rfl)

set_option maxHeartbeats 4000000 in
set_option maxRecDepth 100000 in
/-- weakest() -/
theorem c_X4_weakest (l : Launch) (hfl : l.stackTraces = false) (G : xG) (ad : Nat → Nat) (S : zS) (kp : Nat → Nat) (m9 fb : Int32) (k9 : Nat) (a9 : Nat → Option Nat) (u9 : Nat) (f9 : Nat → Int32) (H : Heap) (hx0 : xB G ad fb (zK S) H) (hl9 : zList G ad (zN S) m9 k9 a9 H) (hW : zW S) (hst : ∀ i, i < zN S → zStrat G ad S kp i H) (hrow : zRow G ad 20 f9 H) (hf9 : ∀ j, j < zN S → zI S j = true → f9 j = Int32.ofInt (zworth S u9 j)) : xMet l G yX4_weakest wsX4_weakest ({ frames := 3, cells := 0, slots := 0, locals := 64 } : Room) [.ref (ad 0)] H (xi H (xpar (zleast S u9 (zN S)))) (xNo) := by
  refine vx_ofW (cc := cX4_weakest) (maxL := 3) (ret := (some .int)) (by decide) rfl ?_
  intro Pg Ev s m args below meth c s₁ B hml hout hv
  obtain ⟨rfl, hH, hC⟩ := hv
  have hx := B.exec
  have hb := B.bytes
  have hr := B.returns
  have hts := atoms_spec (ws := wsX4_weakest) B.pre
  have hown : s.vm.findClass RX4 = some m.cls := findClass_of_methodNamed B.named
  have hlocks := B.notSynchronized
  rw [hH]
  have hS : va_S (xA G) s.heap H [] := by rw [← hH]; exact va_S.rf
  generalize ([] : List Loc) = locs at hS ⊢
  have hl := lv_entry [.ref (ad 0)] (n := 3) (Nat.le_of_ble_eq_true rfl)
  rw [lg_entry_eq]
  generalize (lg_sl [.ref (ad 0)] ++ List.replicate (3 - (lg_sl [.ref (ad 0)]).length) Slot.unset).toArray = ls at hl ⊢
  have hl : lv_has ls 3 [(0, .ref (ad 0))] := hl
  have hl0 := hl9.1.1
  have hn20 := hW.1
  obtain ⟨hrw, hra⟩ := hrow
  refine lv_iconst (v := xpar 0) hx hb dX4_weakest_0 (by decide) ?_
  refine lv_istore_n (lv' := [(1, .int (xpar 0)), (0, .ref (ad 0))]) hx hb dX4_weakest_1 rfl hl (by decide) rfl (fun ls hl => ?_)
  refine lv_iconst (v := (nI 0)) hx hb dX4_weakest_2 (by decide) ?_
  refine lv_istore_n (lv' := [(2, .int (nI 0)), (1, .int (xpar 0)), (0, .ref (ad 0))]) hx hb dX4_weakest_3 rfl hl (by decide) rfl (fun ls hl => ?_)
  have L : ∀ (kL : Nat) (i : Nat) (e9 : Nat), (i ≤ zN S) → (e9 = zleast S u9 i) → (e9 ≠ 0 → zI S (e9 - 1) = true ∧ e9 ≤ i) → zN S - i < kL → ∀ (locs : List Loc), va_S (xA G) s.heap H locs → ∀ ls : Array Slot, lv_has ls 3 [(0, .ref (ad 0)), (1, .int (xpar e9)), (2, .int (nI i))] → W Pg l Ev (headSpec wsX4_weakest ({ frames := 3, cells := 0, slots := 0, locals := 64 } : Room)).room s m ([.ref (ad 0)] : List Value).toArray below meth c H locs (0) (0) (vx_MQ below (xQ G (xi H (xpar (zleast S u9 (zN S))))) (xX G (xNo)) ([.ref (ad 0)] : List Value).toArray s ({ frames := 3, cells := 0, slots := 0, locals := 64 } : Room).cells ({ frames := 3, cells := 0, slots := 0, locals := 64 } : Room).slots (xA G)) (F0 m 4 ls []) := by
    intro kL
    induction kL with
    | zero => intro i e9 hi he9 hmI hk; exact absurd hk (Nat.not_lt_zero _)
    | succ kL ihL =>
      intro i e9 hi he9 hmI hk locs hS ls hl
      refine lv_iload_n hx hb dX4_weakest_4 rfl (lv_at hl 2 rfl) ?_
      refine lv_aload_n hx hb dX4_weakest_5 rfl (lv_at hl 0 rfl) ?_
      refine va_get (D := xD G) (ci := 5) (v := .ref (ad 10)) (C := RX4) (T := TX4) (N := 11) hx hb hts (by decide +kernel) hown hC.1 (x1 hx0) 0 rfl rfl 3 (by decide) (hts (.fieldLink RX4 29 "Bidwhistle" "strategies" "Ljava/util/ArrayList;") (by decide +kernel)) (fun _ h9 => h9) rfl dX4_weakest_6 ?_
      refine x_intE (vx_runV (As := []) (rest := [.int (nI i)]) ⟨hx, hb, hml, hown, hts⟩ (c_Jx4a65c_size_8abf5 l hfl G (ad 10) (ad 11) (zN S) m9 H hl0) (cwV 0 hts gX4_weakest_Jx4a65c_size_8abf5 rfl rfl rfl (by decide +kernel) ⟨(Nat.le_of_ble_eq_true rfl), (Nat.le_of_ble_eq_true rfl)⟩) (xPreV hC hS hl0 (q := (RJx4a65c, TJx4a65c, 3)) rfl) rfl rfl hl.1 rfl (lv_room (Nat.le_of_ble_eq_true rfl)) dX4_weakest_9 ⟨(by first | exact Nat.le_of_ble_eq_true rfl | exact (show 0 + 0 ≤ 0 by omega)), (by first | exact Nat.le_of_ble_eq_true rfl | exact (show 0 + 0 ≤ 0 by omega))⟩) hS (fun locs hS => ?_)
      refine lv_icmp_ge (tgt := 64) hx hb dX4_weakest_12 (by decide) (fun c_1 => ?_) (fun c_1 => ?_)
      · have _ := hx
        have c_1 : (zN S) ≤ i := (nI_leI (a := (zN S)) (b := i) (by omega) (by omega)).mp c_1
        refine lv_iload_n hx hb dX4_weakest_64 rfl (lv_at hl 1 rfl) ?_
        exact x_iret (G := G) hx hb hr rfl dX4_weakest_65 hlocks hS (by first | exact Nat.le_of_ble_eq_true rfl | exact (show 0 ≤ 0 by omega)) (by first | exact Nat.le_of_ble_eq_true rfl | exact (show 0 ≤ 0 by omega)) ⟨rfl, by rw [he9, show i = zN S by omega]⟩
      · have _ := hx
        have c_1 : ¬ ((zN S) ≤ i) := fun z => c_1 ((nI_leI (a := (zN S)) (b := i) (by omega) (by omega)).mpr z)
        refine lv_aload_n hx hb dX4_weakest_15 rfl (lv_at hl 0 rfl) ?_
        refine va_get (D := xD G) (ci := 5) (v := .ref (ad 10)) (C := RX4) (T := TX4) (N := 11) hx hb hts (by decide +kernel) hown hC.1 (x1 hx0) 0 rfl rfl 3 (by decide) (hts (.fieldLink RX4 29 "Bidwhistle" "strategies" "Ljava/util/ArrayList;") (by decide +kernel)) (fun _ h9 => h9) rfl dX4_weakest_16 ?_
        refine lv_iload_n hx hb dX4_weakest_19 rfl (lv_at hl 2 rfl) ?_
        have hq := lA.q hl9.1 (show i < zN S by omega)
        refine x_refE (vx_runV (As := [.int (nI i)]) (rest := []) ⟨hx, hb, hml, hown, hts⟩ (c_Jx4a65c_get_915e3 l hfl G (ad 10) (ad 11) (zN S) k9 i (ad (22 + 6 * i)) m9 a9 H hl0 hq.1 (by omega) hq.2.1 hq.2.2 (hl9.2 i (by omega))) (cwV 1 hts gX4_weakest_Jx4a65c_get_915e3 rfl rfl rfl (by decide +kernel) ⟨(Nat.le_of_ble_eq_true rfl), (Nat.le_of_ble_eq_true rfl)⟩) (xPreV hC hS hl0 (q := (RJx4a65c, TJx4a65c, 3)) rfl) rfl rfl hl.1 rfl (lv_room (Nat.le_of_ble_eq_true rfl)) dX4_weakest_20 ⟨(by first | exact Nat.le_of_ble_eq_true rfl | exact (show 0 + 0 ≤ 0 by omega)), (by first | exact Nat.le_of_ble_eq_true rfl | exact (show 0 + 0 ≤ 0 by omega))⟩) hS (fun locs hS => ?_)
        obtain ⟨ts_2, sls_2, fs_2, hss_2, hps_2, hbs_2, hvs_2, hts_2, hfs_2, hzs_2⟩ := hst i (by omega)
        refine va_castY (C := "Bidwhistle$Strategy") hx hb hown (hts (.classLink RX4 111 "Bidwhistle$Strategy") (by decide +kernel)) (hC.2.1 _ (by decide +kernel)) (va_recv hC.1 (x1 hss_2) (q0 := 0) (ci := 4) (q := (RX3, TX3, 8)) rfl rfl) dX4_weakest_23 ?_
        refine va_getN (D := xD G) (ci := 4) (v := .int (xb (zI S i))) (C := RX3) (T := TX3) (N := 8) hx hb hts (by decide +kernel) hown hC.1 (x1 hss_2) 0 rfl rfl 7 (by decide) (va_Nw.use rfl (hC.2.1 (.fieldLinkNest "Bidwhistle" 129 "Bidwhistle$Strategy" "inPool" "Z" "Bidwhistle") (by decide +kernel))) (fun _ h9 => h9) rfl dX4_weakest_26 ?_
        refine lv_if_eq (tgt := 58) hx hb dX4_weakest_29 (by decide) (fun c_3 => ?_) (fun c_3 => ?_)
        · have _ := hx
          have hcond : ¬ (zI S i = true ∧ (zleast S u9 i = 0 ∨ zworth S u9 i ≤ zworth S u9 (zleast S u9 i - 1))) := fun z => by rw [xb_0.mp c_3] at z; exact absurd z.1 (by decide)
          refine lv_iinc (v := (nI (i + 1))) (lv' := [(2, .int (nI (i + 1))), (0, .ref (ad 0)), (1, .int (xpar e9))]) hx hb dX4_weakest_58 hl (k := 2) rfl (xinc (by decide)) (by decide) rfl (fun ls hl => ?_)
          refine lv_goto (tgt := 4) hx hb dX4_weakest_61 (by decide) ?_
          exact ihL (i + 1) (e9) (by omega) (by rw [zleast_no hcond]; exact he9) (fun z => ⟨(hmI z).1, by have := (hmI z).2; omega⟩) (by omega) _ hS ls (lv_sub hl [1, 2, 0] rfl)
        · have _ := hx
          have hin := xb_1 c_3
          refine lv_iload_n hx hb dX4_weakest_32 rfl (lv_at hl 1 rfl) ?_
          refine lv_iconst (v := (-1)) hx hb dX4_weakest_33 (by decide) ?_
          refine lv_icmp_eq (tgt := 56) hx hb dX4_weakest_34 (by decide) (fun c_4 => ?_) (fun c_4 => ?_)
          · have _ := hx
            have hmle := zleast_le S u9 i
            have hcond : (zI S i = true ∧ (zleast S u9 i = 0 ∨ zworth S u9 i ≤ zworth S u9 (zleast S u9 i - 1))) := ⟨hin, Or.inl (by rw [← he9]; exact (xpar_m1 (by omega)).mp c_4)⟩
            refine lv_iload_n hx hb dX4_weakest_56 rfl (lv_at hl 2 rfl) ?_
            rw [xpar_succ i]
            refine lv_istore_n (lv' := [(1, .int (xpar (i + 1))), (0, .ref (ad 0)), (2, .int (nI i))]) hx hb dX4_weakest_57 rfl hl (by decide) rfl (fun ls hl => ?_)
            refine lv_iinc (v := (nI (i + 1))) (lv' := [(2, .int (nI (i + 1))), (1, .int (xpar (i + 1))), (0, .ref (ad 0))]) hx hb dX4_weakest_58 hl (k := 2) rfl (xinc (by decide)) (by decide) rfl (fun ls hl => ?_)
            refine lv_goto (tgt := 4) hx hb dX4_weakest_61 (by decide) ?_
            exact ihL (i + 1) (i + 1) (by omega) ((zleast_yes hcond).symm) (fun _ => ⟨hin, Nat.le_refl _⟩) (by omega) _ hS ls (lv_sub hl [2, 1, 0] rfl)
          · have _ := hx
            have hmle := zleast_le S u9 i
            have hm0 : e9 ≠ 0 := fun z => c_4 ((xpar_m1 (by omega)).mpr z)
            refine lv_aload_n hx hb dX4_weakest_37 rfl (lv_at hl 0 rfl) ?_
            refine va_get (D := xD G) (ci := 5) (v := .ref (ad 20)) (C := RX4) (T := TX4) (N := 11) hx hb hts (by decide +kernel) hown hC.1 (x1 hx0) 0 rfl rfl 10 (by decide) (hts (.fieldLink RX4 58 "Bidwhistle" "worths" "LBidwhistle$Row;") (by decide +kernel)) (fun _ h9 => h9) rfl dX4_weakest_38 ?_
            refine lv_iload_n hx hb dX4_weakest_41 rfl (lv_at hl 2 rfl) ?_
            refine x_intE (vx_runV (As := [.int (nI i)]) (rest := []) ⟨hx, hb, hml, hown, hts⟩ (c_X1_at l hfl G (ad 20) (ad 21) 20 (i) f9 H hrw hra (by omega) (by decide)) (cwV 1 hts gX4_weakest_X1_at rfl rfl rfl (by decide +kernel) ⟨(Nat.le_of_ble_eq_true rfl), (Nat.le_of_ble_eq_true rfl)⟩) (xPreV hC hS hrw (q := (RX1, TX1, 1)) rfl) rfl rfl hl.1 rfl (lv_room (Nat.le_of_ble_eq_true rfl)) dX4_weakest_42 ⟨(by first | exact Nat.le_of_ble_eq_true rfl | exact (show 0 + 0 ≤ 0 by omega)), (by first | exact Nat.le_of_ble_eq_true rfl | exact (show 0 + 0 ≤ 0 by omega))⟩) hS (fun locs hS => ?_)
            rw [hf9 i (by omega) hin]
            refine lv_aload_n hx hb dX4_weakest_45 rfl (lv_at hl 0 rfl) ?_
            refine va_get (D := xD G) (ci := 5) (v := .ref (ad 20)) (C := RX4) (T := TX4) (N := 11) hx hb hts (by decide +kernel) hown hC.1 (x1 hx0) 0 rfl rfl 10 (by decide) (hts (.fieldLink RX4 58 "Bidwhistle" "worths" "LBidwhistle$Row;") (by decide +kernel)) (fun _ h9 => h9) rfl dX4_weakest_46 ?_
            refine lv_iload_n hx hb dX4_weakest_49 rfl (lv_at hl 1 rfl) ?_
            obtain ⟨hmI1, hmI2⟩ := hmI hm0
            rw [xpar_pos hm0]
            refine x_intE (vx_runV (As := [.int (nI (e9 - 1))]) (rest := [.int (Int32.ofInt (zworth S u9 i))]) ⟨hx, hb, hml, hown, hts⟩ (c_X1_at l hfl G (ad 20) (ad 21) 20 (e9 - 1) f9 H hrw hra (by omega) (by decide)) (cwV 1 hts gX4_weakest_X1_at rfl rfl rfl (by decide +kernel) ⟨(Nat.le_of_ble_eq_true rfl), (Nat.le_of_ble_eq_true rfl)⟩) (xPreV hC hS hrw (q := (RX1, TX1, 1)) rfl) rfl rfl hl.1 rfl (lv_room (Nat.le_of_ble_eq_true rfl)) dX4_weakest_50 ⟨(by first | exact Nat.le_of_ble_eq_true rfl | exact (show 0 + 0 ≤ 0 by omega)), (by first | exact Nat.le_of_ble_eq_true rfl | exact (show 0 + 0 ≤ 0 by omega))⟩) hS (fun locs hS => ?_)
            rw [hf9 (e9 - 1) (by omega) hmI1]
            refine lv_icmp_gt (tgt := 58) hx hb dX4_weakest_53 (by decide) (fun c_5 => ?_) (fun c_5 => ?_)
            · have _ := hx
              have hcond : ¬ (zI S i = true ∧ (zleast S u9 i = 0 ∨ zworth S u9 i ≤ zworth S u9 (zleast S u9 i - 1))) := fun z => by rw [← he9] at z; have h8 := (zI_lt (by have := zworth_in hW u9 (e9 - 1); omega) (by have := zworth_in hW u9 i; omega)).mp c_5; rcases z.2 with z | z; exact hm0 z; omega
              refine lv_iinc (v := (nI (i + 1))) (lv' := [(2, .int (nI (i + 1))), (0, .ref (ad 0)), (1, .int (xpar e9))]) hx hb dX4_weakest_58 hl (k := 2) rfl (xinc (by decide)) (by decide) rfl (fun ls hl => ?_)
              refine lv_goto (tgt := 4) hx hb dX4_weakest_61 (by decide) ?_
              exact ihL (i + 1) (e9) (by omega) (by rw [zleast_no hcond]; exact he9) (fun z => ⟨(hmI z).1, by have := (hmI z).2; omega⟩) (by omega) _ hS ls (lv_sub hl [1, 2, 0] rfl)
            · have _ := hx
              have hcond : (zI S i = true ∧ (zleast S u9 i = 0 ∨ zworth S u9 i ≤ zworth S u9 (zleast S u9 i - 1))) := ⟨hin, Or.inr (by rw [← he9]; exact Int.not_lt.mp (fun q => c_5 ((zI_lt (by have := zworth_in hW u9 (e9 - 1); omega) (by have := zworth_in hW u9 i; omega)).mpr q)))⟩
              refine lv_iload_n hx hb dX4_weakest_56 rfl (lv_at hl 2 rfl) ?_
              rw [xpar_succ i]
              refine lv_istore_n (lv' := [(1, .int (xpar (i + 1))), (0, .ref (ad 0)), (2, .int (nI i))]) hx hb dX4_weakest_57 rfl hl (by decide) rfl (fun ls hl => ?_)
              refine lv_iinc (v := (nI (i + 1))) (lv' := [(2, .int (nI (i + 1))), (1, .int (xpar (i + 1))), (0, .ref (ad 0))]) hx hb dX4_weakest_58 hl (k := 2) rfl (xinc (by decide)) (by decide) rfl (fun ls hl => ?_)
              refine lv_goto (tgt := 4) hx hb dX4_weakest_61 (by decide) ?_
              exact ihL (i + 1) (i + 1) (by omega) ((zleast_yes hcond).symm) (fun _ => ⟨hin, Nat.le_refl _⟩) (by omega) _ hS ls (lv_sub hl [2, 1, 0] rfl)
  exact L _ (0) (0) (Nat.zero_le _) (rfl) (fun z => absurd rfl z) (Nat.lt_succ_self _) _ hS ls (lv_sub hl [2, 1, 0] rfl)

set_option maxHeartbeats 4000000 in
set_option maxRecDepth 100000 in
/-- cross(first, second) -/
theorem c_X4_cross (l : Launch) (hfl : l.stackTraces = false) (G : xG) (ad : Nat → Nat) (S : zS) (kp : Nat → Nat) (m9 fb : Int32) (k9 : Nat) (a9 : Nat → Option Nat) (i9 j9 nc : Nat) (tc : Nat → Nat) (H : Heap) (hx0 : xB G ad fb (zK S) H) (hl9 : zList G ad (zN S) m9 k9 a9 H) (hW : zW S) (hst : ∀ i, i < zN S → zStrat G ad S kp i H) (hO : zown G ad (22 + 6 * zN S)) (hi9 : i9 < zN S) (hj9 : j9 < zN S) (hch : pA G (ad 4) (ad 5) (ad 6) tc nc H) : xMet l G yX4_cross wsX4_cross ({ frames := 3, cells := 0, slots := 0, locals := 67 } : Room) [.ref (ad 0), .ref (ad (23 + 6 * i9)), .ref (ad (23 + 6 * j9))] H (fun v H1 => v = none ∧ ∃ tb, pA G (ad 4) (ad 5) (ad 6) tb (zchL S i9 j9) H1 ∧ (∀ k, k < zchL S i9 j9 → tb k = zchP S i9 j9 k) ∧ xC [ad 4, ad 6] H H1) (xNo) := by
  refine vx_ofW (cc := cX4_cross) (maxL := 3) (ret := none) (by decide) rfl ?_
  intro Pg Ev s m args below meth c s₁ B hml hout hv
  obtain ⟨rfl, hH, hC⟩ := hv
  have hx := B.exec
  have hb := B.bytes
  have hr := B.returns
  have hts := atoms_spec (ws := wsX4_cross) B.pre
  have hown : s.vm.findClass RX4 = some m.cls := findClass_of_methodNamed B.named
  have hlocks := B.notSynchronized
  rw [hH]
  have hS : va_S (xA G) s.heap H [] := by rw [← hH]; exact va_S.rf
  generalize ([] : List Loc) = locs at hS ⊢
  have hl := lv_entry [.ref (ad 0), .ref (ad (23 + 6 * i9)), .ref (ad (23 + 6 * j9))] (n := 3) (Nat.le_of_ble_eq_true rfl)
  rw [lg_entry_eq]
  generalize (lg_sl [.ref (ad 0), .ref (ad (23 + 6 * i9)), .ref (ad (23 + 6 * j9))] ++ List.replicate (3 - (lg_sl [.ref (ad 0), .ref (ad (23 + 6 * i9)), .ref (ad (23 + 6 * j9))]).length) Slot.unset).toArray = ls at hl ⊢
  have hl : lv_has ls 3 [(0, .ref (ad 0)), (1, .ref (ad (23 + 6 * i9))), (2, .ref (ad (23 + 6 * j9)))] := hl
  have hl0 := hl9.1.1
  have hn20 := hW.1
  obtain ⟨hc4, hc5, hc6, hnc, -, -, -, htc⟩ := hch
  obtain ⟨tsi9, sli9, fsi9, hsi9, hpi9, hbi9, hvi9, htqi9, hfi9, hzi9⟩ := hst i9 (by omega)
  obtain ⟨hpai9, hpbi9, hpci9, hni99, -, -, -, htti9⟩ := hpi9
  obtain ⟨tsj9, slj9, fsj9, hsj9, hpj9, hbj9, hvj9, htqj9, hfj9, hzj9⟩ := hst j9 (by omega)
  obtain ⟨hpaj9, hpbj9, hpcj9, hnj99, -, -, -, httj9⟩ := hpj9
  have hLi := hW.2.1 i9
  have hLj := hW.2.1 j9
  refine lv_aload_n hx hb dX4_cross_0 rfl (lv_at hl 0 rfl) ?_
  refine va_get (D := xD G) (ci := 5) (v := .ref (ad 4)) (C := RX4) (T := TX4) (N := 11) hx hb hts (by decide +kernel) hown hC.1 (x1 hx0) 0 rfl rfl 1 (by decide) (hts (.fieldLink RX4 16 "Bidwhistle" "child" "LBidwhistle$Program;") (by decide +kernel)) (fun _ h9 => h9) rfl dX4_cross_1 ?_
  have hsz := hS.1
  refine x_call (px := xNo) (vx_runV (As := []) (rest := []) ⟨hx, hb, hml, hown, hts⟩ (c_X0_empty l hfl G (ad 4) (ad 5) (ad 6) nc tc H ⟨hc4, hc5, hc6, by omega, (hO.ne (i := 4) (j := 5) (by omega) (by omega) (by omega)), (hO.ne (i := 4) (j := 6) (by omega) (by omega) (by omega)), (hO.ne (i := 5) (j := 6) (by omega) (by omega) (by omega)), htc⟩ (hO.2 4 (by omega) (by omega))) (cwV 0 hts gX4_cross_X0_empty rfl rfl rfl (by decide +kernel) ⟨(Nat.le_of_ble_eq_true rfl), (Nat.le_of_ble_eq_true rfl)⟩) (xPreV hC hS hc4 (q := (RX0, TX0, 3)) rfl) rfl rfl hl.1 rfl (lv_room (Nat.le_of_ble_eq_true rfl)) dX4_cross_4 ⟨(by first | exact Nat.le_of_ble_eq_true rfl | exact (show 0 + 0 ≤ 0 by omega)), (by first | exact Nat.le_of_ble_eq_true rfl | exact (show 0 + 0 ≤ 0 by omega))⟩) hS (fun _ h => h) (fun _ _ _ _ _ h => False.elim h) (fun v H_1 locs hp hz hk_2 hS => ?_)
  obtain ⟨rfl, ⟨hp3, hr3, ha3, hn3, -, -, -, ht3⟩, hc3⟩ := hp
  have hx0 := hc3.at hx0 (xn1 (hO.ne (i := 0) (j := 4) (by omega) (by omega) (by omega)))
  have hpai9 := hc3.at hpai9 (xn1 (hO.ne (i := (23 + 6 * i9)) (j := 4) (by omega) (by omega) (by omega)))
  have hpbi9 := hc3.at hpbi9 (xn1 (hO.ne (i := (24 + 6 * i9)) (j := 4) (by omega) (by omega) (by omega)))
  have hpci9 := hc3.at hpci9 (xn1 (hO.ne (i := (25 + 6 * i9)) (j := 4) (by omega) (by omega) (by omega)))
  have hpaj9 := hc3.at hpaj9 (xn1 (hO.ne (i := (23 + 6 * j9)) (j := 4) (by omega) (by omega) (by omega)))
  have hpbj9 := hc3.at hpbj9 (xn1 (hO.ne (i := (24 + 6 * j9)) (j := 4) (by omega) (by omega) (by omega)))
  have hpcj9 := hc3.at hpcj9 (xn1 (hO.ne (i := (25 + 6 * j9)) (j := 4) (by omega) (by omega) (by omega)))
  refine lv_aload_n hx hb dX4_cross_7 rfl (lv_at hl 0 rfl) ?_
  refine va_get (D := xD G) (ci := 5) (v := .ref (ad 4)) (C := RX4) (T := TX4) (N := 11) hx hb hts (by decide +kernel) hown hC.1 (x1 hx0) 0 rfl rfl 1 (by decide) (hts (.fieldLink RX4 16 "Bidwhistle" "child" "LBidwhistle$Program;") (by decide +kernel)) (fun _ h9 => h9) rfl dX4_cross_8 ?_
  refine lv_aload_n hx hb dX4_cross_11 rfl (lv_at hl 1 rfl) ?_
  refine lv_iconst (v := (nI 0)) hx hb dX4_cross_12 (by decide) ?_
  refine lv_aload_n hx hb dX4_cross_13 rfl (lv_at hl 1 rfl) ?_
  refine x_intE (vx_runV (As := []) (rest := [.int (nI 0), .ref (ad (23 + 6 * i9)), .ref (ad 4)]) ⟨hx, hb, hml, hown, hts⟩ (c_X0_length l hfl G (ad (23 + 6 * i9)) (ad (24 + 6 * i9)) (ad (25 + 6 * i9)) (zL S i9) tsi9 H_1 ⟨hpai9, hpbi9, hpci9, hni99, (hO.ne (i := (23 + 6 * i9)) (j := (24 + 6 * i9)) (by omega) (by omega) (by omega)), (hO.ne (i := (23 + 6 * i9)) (j := (25 + 6 * i9)) (by omega) (by omega) (by omega)), (hO.ne (i := (24 + 6 * i9)) (j := (25 + 6 * i9)) (by omega) (by omega) (by omega)), htti9⟩) (cwV 0 hts gX4_cross_X0_length rfl rfl rfl (by decide +kernel) ⟨(Nat.le_of_ble_eq_true rfl), (Nat.le_of_ble_eq_true rfl)⟩) (xPreV hC hS hpai9 (q := (RX0, TX0, 3)) rfl) rfl rfl hl.1 rfl (lv_room (Nat.le_of_ble_eq_true rfl)) dX4_cross_14 ⟨(by first | exact Nat.le_of_ble_eq_true rfl | exact (show 0 + 0 ≤ 0 by omega)), (by first | exact Nat.le_of_ble_eq_true rfl | exact (show 0 + 0 ≤ 0 by omega))⟩) hS (fun locs hS => ?_)
  refine lv_iconst (v := (nI 1)) hx hb dX4_cross_17 (by decide) ?_
  refine x_iaddn (a := (zL S i9)) (b := 1) hx hb dX4_cross_18 ?_
  refine lv_iconst (v := (nI 2)) hx hb dX4_cross_19 (by decide) ?_
  refine x_idivn (a := (((zL S i9)) + 1)) (b := 2) hx hb dX4_cross_20 (by omega) (by omega) (by omega) ?_
  have hsz := hS.1
  refine x_call (px := xNo) (vx_runV (As := [.ref (ad (23 + 6 * i9)), .int (nI 0), .int (nI (((((zL S i9)) + 1)) / 2))]) (rest := []) ⟨hx, hb, hml, hown, hts⟩ (c_X0_addPart l hfl G (ad 4) (ad 5) (ad 6) 0 (ad (23 + 6 * i9)) (ad (24 + 6 * i9)) (ad (25 + 6 * i9)) (zL S i9) 0 ((zL S i9 + 1) / 2) tc tsi9 H_1 ⟨hp3, hr3, ha3, by omega, (hO.ne (i := 4) (j := 5) (by omega) (by omega) (by omega)), (hO.ne (i := 4) (j := 6) (by omega) (by omega) (by omega)), (hO.ne (i := 5) (j := 6) (by omega) (by omega) (by omega)), htc⟩ ⟨hpai9, hpbi9, hpci9, hni99, (hO.ne (i := (23 + 6 * i9)) (j := (24 + 6 * i9)) (by omega) (by omega) (by omega)), (hO.ne (i := (23 + 6 * i9)) (j := (25 + 6 * i9)) (by omega) (by omega) (by omega)), (hO.ne (i := (24 + 6 * i9)) (j := (25 + 6 * i9)) (by omega) (by omega) (by omega)), htti9⟩ (hO.2 4 (by omega) (by omega)) (hO.2 6 (by omega) (by omega)) (hO.ne (i := (23 + 6 * i9)) (j := 4) (by omega) (by omega) (by omega)) (hO.ne (i := (23 + 6 * i9)) (j := 6) (by omega) (by omega) (by omega)) (hO.ne (i := (24 + 6 * i9)) (j := 4) (by omega) (by omega) (by omega)) (hO.ne (i := (24 + 6 * i9)) (j := 6) (by omega) (by omega) (by omega)) (hO.ne (i := (25 + 6 * i9)) (j := 4) (by omega) (by omega) (by omega)) (hO.ne (i := (25 + 6 * i9)) (j := 6) (by omega) (by omega) (by omega)) (by omega) (by omega) (by omega)) (cwV 3 hts gX4_cross_X0_addPart rfl rfl rfl (by decide +kernel) ⟨(Nat.le_of_ble_eq_true rfl), (Nat.le_of_ble_eq_true rfl)⟩) (xPreV hC hS hp3 (q := (RX0, TX0, 3)) rfl) rfl rfl hl.1 rfl (lv_room (Nat.le_of_ble_eq_true rfl)) dX4_cross_21 ⟨(by first | exact Nat.le_of_ble_eq_true rfl | exact (show 0 + 0 ≤ 0 by omega)), (by first | exact Nat.le_of_ble_eq_true rfl | exact (show 0 + 0 ≤ 0 by omega))⟩) hS (fun _ h => h) (fun _ _ _ _ _ h => False.elim h) (fun v H_4 locs hp hz hk_5 hS => ?_)
  obtain ⟨rfl, ta, ⟨hp6, hr6, ha6, hn6, -, -, -, htta⟩, hlta, hmta, hc6⟩ := hp
  have hx0 := hc6.at hx0 (xn2 (hO.ne (i := 0) (j := 4) (by omega) (by omega) (by omega)) (hO.ne (i := 0) (j := 6) (by omega) (by omega) (by omega)))
  have hpai9 := hc6.at hpai9 (xn2 (hO.ne (i := (23 + 6 * i9)) (j := 4) (by omega) (by omega) (by omega)) (hO.ne (i := (23 + 6 * i9)) (j := 6) (by omega) (by omega) (by omega)))
  have hpbi9 := hc6.at hpbi9 (xn2 (hO.ne (i := (24 + 6 * i9)) (j := 4) (by omega) (by omega) (by omega)) (hO.ne (i := (24 + 6 * i9)) (j := 6) (by omega) (by omega) (by omega)))
  have hpci9 := hc6.at hpci9 (xn2 (hO.ne (i := (25 + 6 * i9)) (j := 4) (by omega) (by omega) (by omega)) (hO.ne (i := (25 + 6 * i9)) (j := 6) (by omega) (by omega) (by omega)))
  have hpaj9 := hc6.at hpaj9 (xn2 (hO.ne (i := (23 + 6 * j9)) (j := 4) (by omega) (by omega) (by omega)) (hO.ne (i := (23 + 6 * j9)) (j := 6) (by omega) (by omega) (by omega)))
  have hpbj9 := hc6.at hpbj9 (xn2 (hO.ne (i := (24 + 6 * j9)) (j := 4) (by omega) (by omega) (by omega)) (hO.ne (i := (24 + 6 * j9)) (j := 6) (by omega) (by omega) (by omega)))
  have hpcj9 := hc6.at hpcj9 (xn2 (hO.ne (i := (25 + 6 * j9)) (j := 4) (by omega) (by omega) (by omega)) (hO.ne (i := (25 + 6 * j9)) (j := 6) (by omega) (by omega) (by omega)))
  refine lv_aload_n hx hb dX4_cross_24 rfl (lv_at hl 0 rfl) ?_
  refine va_get (D := xD G) (ci := 5) (v := .ref (ad 4)) (C := RX4) (T := TX4) (N := 11) hx hb hts (by decide +kernel) hown hC.1 (x1 hx0) 0 rfl rfl 1 (by decide) (hts (.fieldLink RX4 16 "Bidwhistle" "child" "LBidwhistle$Program;") (by decide +kernel)) (fun _ h9 => h9) rfl dX4_cross_25 ?_
  refine lv_aload_n hx hb dX4_cross_28 rfl (lv_at hl 2 rfl) ?_
  refine lv_aload_n hx hb dX4_cross_29 rfl (lv_at hl 2 rfl) ?_
  refine x_intE (vx_runV (As := []) (rest := [.ref (ad (23 + 6 * j9)), .ref (ad 4)]) ⟨hx, hb, hml, hown, hts⟩ (c_X0_length l hfl G (ad (23 + 6 * j9)) (ad (24 + 6 * j9)) (ad (25 + 6 * j9)) (zL S j9) tsj9 H_4 ⟨hpaj9, hpbj9, hpcj9, hnj99, (hO.ne (i := (23 + 6 * j9)) (j := (24 + 6 * j9)) (by omega) (by omega) (by omega)), (hO.ne (i := (23 + 6 * j9)) (j := (25 + 6 * j9)) (by omega) (by omega) (by omega)), (hO.ne (i := (24 + 6 * j9)) (j := (25 + 6 * j9)) (by omega) (by omega) (by omega)), httj9⟩) (cwV 0 hts gX4_cross_X0_length rfl rfl rfl (by decide +kernel) ⟨(Nat.le_of_ble_eq_true rfl), (Nat.le_of_ble_eq_true rfl)⟩) (xPreV hC hS hpaj9 (q := (RX0, TX0, 3)) rfl) rfl rfl hl.1 rfl (lv_room (Nat.le_of_ble_eq_true rfl)) dX4_cross_30 ⟨(by first | exact Nat.le_of_ble_eq_true rfl | exact (show 0 + 0 ≤ 0 by omega)), (by first | exact Nat.le_of_ble_eq_true rfl | exact (show 0 + 0 ≤ 0 by omega))⟩) hS (fun locs hS => ?_)
  refine lv_aload_n hx hb dX4_cross_33 rfl (lv_at hl 2 rfl) ?_
  refine x_intE (vx_runV (As := []) (rest := [.int (nI (zL S j9)), .ref (ad (23 + 6 * j9)), .ref (ad 4)]) ⟨hx, hb, hml, hown, hts⟩ (c_X0_length l hfl G (ad (23 + 6 * j9)) (ad (24 + 6 * j9)) (ad (25 + 6 * j9)) (zL S j9) tsj9 H_4 ⟨hpaj9, hpbj9, hpcj9, hnj99, (hO.ne (i := (23 + 6 * j9)) (j := (24 + 6 * j9)) (by omega) (by omega) (by omega)), (hO.ne (i := (23 + 6 * j9)) (j := (25 + 6 * j9)) (by omega) (by omega) (by omega)), (hO.ne (i := (24 + 6 * j9)) (j := (25 + 6 * j9)) (by omega) (by omega) (by omega)), httj9⟩) (cwV 0 hts gX4_cross_X0_length rfl rfl rfl (by decide +kernel) ⟨(Nat.le_of_ble_eq_true rfl), (Nat.le_of_ble_eq_true rfl)⟩) (xPreV hC hS hpaj9 (q := (RX0, TX0, 3)) rfl) rfl rfl hl.1 rfl (lv_room (Nat.le_of_ble_eq_true rfl)) dX4_cross_34 ⟨(by first | exact Nat.le_of_ble_eq_true rfl | exact (show 0 + 0 ≤ 0 by omega)), (by first | exact Nat.le_of_ble_eq_true rfl | exact (show 0 + 0 ≤ 0 by omega))⟩) hS (fun locs hS => ?_)
  refine lv_iconst (v := (nI 2)) hx hb dX4_cross_37 (by decide) ?_
  refine x_idivn (a := (zL S j9)) (b := 2) hx hb dX4_cross_38 (by omega) (by omega) (by omega) ?_
  refine x_isubn (a := (zL S j9)) (b := (((zL S j9)) / 2)) hx hb dX4_cross_39 (by omega) ?_
  refine lv_aload_n hx hb dX4_cross_40 rfl (lv_at hl 2 rfl) ?_
  refine x_intE (vx_runV (As := []) (rest := [.int (nI (((zL S j9)) - ((((zL S j9)) / 2)))), .ref (ad (23 + 6 * j9)), .ref (ad 4)]) ⟨hx, hb, hml, hown, hts⟩ (c_X0_length l hfl G (ad (23 + 6 * j9)) (ad (24 + 6 * j9)) (ad (25 + 6 * j9)) (zL S j9) tsj9 H_4 ⟨hpaj9, hpbj9, hpcj9, hnj99, (hO.ne (i := (23 + 6 * j9)) (j := (24 + 6 * j9)) (by omega) (by omega) (by omega)), (hO.ne (i := (23 + 6 * j9)) (j := (25 + 6 * j9)) (by omega) (by omega) (by omega)), (hO.ne (i := (24 + 6 * j9)) (j := (25 + 6 * j9)) (by omega) (by omega) (by omega)), httj9⟩) (cwV 0 hts gX4_cross_X0_length rfl rfl rfl (by decide +kernel) ⟨(Nat.le_of_ble_eq_true rfl), (Nat.le_of_ble_eq_true rfl)⟩) (xPreV hC hS hpaj9 (q := (RX0, TX0, 3)) rfl) rfl rfl hl.1 rfl (lv_room (Nat.le_of_ble_eq_true rfl)) dX4_cross_41 ⟨(by first | exact Nat.le_of_ble_eq_true rfl | exact (show 0 + 0 ≤ 0 by omega)), (by first | exact Nat.le_of_ble_eq_true rfl | exact (show 0 + 0 ≤ 0 by omega))⟩) hS (fun locs hS => ?_)
  have hsz := hS.1
  refine x_call (px := xNo) (vx_runV (As := [.ref (ad (23 + 6 * j9)), .int (nI (((zL S j9)) - ((((zL S j9)) / 2)))), .int (nI (zL S j9))]) (rest := []) ⟨hx, hb, hml, hown, hts⟩ (c_X0_addPart l hfl G (ad 4) (ad 5) (ad 6) (0 + (((zL S i9 + 1) / 2) - 0)) (ad (23 + 6 * j9)) (ad (24 + 6 * j9)) (ad (25 + 6 * j9)) (zL S j9) (zL S j9 - zL S j9 / 2) (zL S j9) ta tsj9 H_4 ⟨hp6, hr6, ha6, by omega, (hO.ne (i := 4) (j := 5) (by omega) (by omega) (by omega)), (hO.ne (i := 4) (j := 6) (by omega) (by omega) (by omega)), (hO.ne (i := 5) (j := 6) (by omega) (by omega) (by omega)), htta⟩ ⟨hpaj9, hpbj9, hpcj9, hnj99, (hO.ne (i := (23 + 6 * j9)) (j := (24 + 6 * j9)) (by omega) (by omega) (by omega)), (hO.ne (i := (23 + 6 * j9)) (j := (25 + 6 * j9)) (by omega) (by omega) (by omega)), (hO.ne (i := (24 + 6 * j9)) (j := (25 + 6 * j9)) (by omega) (by omega) (by omega)), httj9⟩ (hO.2 4 (by omega) (by omega)) (hO.2 6 (by omega) (by omega)) (hO.ne (i := (23 + 6 * j9)) (j := 4) (by omega) (by omega) (by omega)) (hO.ne (i := (23 + 6 * j9)) (j := 6) (by omega) (by omega) (by omega)) (hO.ne (i := (24 + 6 * j9)) (j := 4) (by omega) (by omega) (by omega)) (hO.ne (i := (24 + 6 * j9)) (j := 6) (by omega) (by omega) (by omega)) (hO.ne (i := (25 + 6 * j9)) (j := 4) (by omega) (by omega) (by omega)) (hO.ne (i := (25 + 6 * j9)) (j := 6) (by omega) (by omega) (by omega)) (by omega) (by omega) (by omega)) (cwV 3 hts gX4_cross_X0_addPart rfl rfl rfl (by decide +kernel) ⟨(Nat.le_of_ble_eq_true rfl), (Nat.le_of_ble_eq_true rfl)⟩) (xPreV hC hS hp6 (q := (RX0, TX0, 3)) rfl) rfl rfl hl.1 rfl (lv_room (Nat.le_of_ble_eq_true rfl)) dX4_cross_44 ⟨(by first | exact Nat.le_of_ble_eq_true rfl | exact (show 0 + 0 ≤ 0 by omega)), (by first | exact Nat.le_of_ble_eq_true rfl | exact (show 0 + 0 ≤ 0 by omega))⟩) hS (fun _ h => h) (fun _ _ _ _ _ h => False.elim h) (fun v H_7 locs hp hz hk_8 hS => ?_)
  obtain ⟨rfl, tb, ⟨hp9, hr9, ha9, hn9, -, -, -, httb⟩, hltb, hmtb, hc9⟩ := hp
  have hx0 := hc9.at hx0 (xn2 (hO.ne (i := 0) (j := 4) (by omega) (by omega) (by omega)) (hO.ne (i := 0) (j := 6) (by omega) (by omega) (by omega)))
  have hpai9 := hc9.at hpai9 (xn2 (hO.ne (i := (23 + 6 * i9)) (j := 4) (by omega) (by omega) (by omega)) (hO.ne (i := (23 + 6 * i9)) (j := 6) (by omega) (by omega) (by omega)))
  have hpbi9 := hc9.at hpbi9 (xn2 (hO.ne (i := (24 + 6 * i9)) (j := 4) (by omega) (by omega) (by omega)) (hO.ne (i := (24 + 6 * i9)) (j := 6) (by omega) (by omega) (by omega)))
  have hpci9 := hc9.at hpci9 (xn2 (hO.ne (i := (25 + 6 * i9)) (j := 4) (by omega) (by omega) (by omega)) (hO.ne (i := (25 + 6 * i9)) (j := 6) (by omega) (by omega) (by omega)))
  have hpaj9 := hc9.at hpaj9 (xn2 (hO.ne (i := (23 + 6 * j9)) (j := 4) (by omega) (by omega) (by omega)) (hO.ne (i := (23 + 6 * j9)) (j := 6) (by omega) (by omega) (by omega)))
  have hpbj9 := hc9.at hpbj9 (xn2 (hO.ne (i := (24 + 6 * j9)) (j := 4) (by omega) (by omega) (by omega)) (hO.ne (i := (24 + 6 * j9)) (j := 6) (by omega) (by omega) (by omega)))
  have hpcj9 := hc9.at hpcj9 (xn2 (hO.ne (i := (25 + 6 * j9)) (j := 4) (by omega) (by omega) (by omega)) (hO.ne (i := (25 + 6 * j9)) (j := 6) (by omega) (by omega) (by omega)))
  have _ := hc3.1
  have _ := hc6.1
  have _ := hc9.1
  exact x_vret (G := G) hx hb hr dX4_cross_47 hlocks hS (by first | exact Nat.le_of_ble_eq_true rfl | exact (show 0 ≤ 0 by omega)) (by first | exact Nat.le_of_ble_eq_true rfl | exact (show 0 ≤ 0 by omega)) ⟨rfl, tb, by have e : ((0 + (((zL S i9 + 1) / 2) - 0)) + (zL S j9 - (zL S j9 - zL S j9 / 2))) = zchL S i9 j9 := (by unfold zchL; omega); have hh : pA G (ad 4) (ad 5) (ad 6) tb ((0 + (((zL S i9 + 1) / 2) - 0)) + (zL S j9 - (zL S j9 - zL S j9 / 2))) _ := ⟨hp9, hr9, ha9, by omega, (hO.ne (i := 4) (j := 5) (by omega) (by omega) (by omega)), (hO.ne (i := 4) (j := 6) (by omega) (by omega) (by omega)), (hO.ne (i := 5) (j := 6) (by omega) (by omega) (by omega)), httb⟩; rw [e] at hh; exact hh, fun k hk => by unfold zchL at hk; unfold zchP; by_cases c : k < (zL S i9 + 1) / 2; (rw [if_pos c, hltb k (by omega)]; have h9 := hmta k (by omega); rw [Nat.zero_add] at h9; rw [h9]; exact htqi9 k (by omega)); (rw [if_neg c]; have h9 := hmtb (k - (zL S i9 + 1) / 2) (by omega); rw [show (0 + (((zL S i9 + 1) / 2) - 0)) + (k - (zL S i9 + 1) / 2) = k by omega] at h9; rw [h9]; exact htqj9 _ (by omega)), ((hc3.tr (hc6.tr hc9)).mono (fun q hq => by simp only [List.mem_append, List.mem_cons, List.not_mem_nil, or_false, false_or] at hq ⊢; omega))⟩
