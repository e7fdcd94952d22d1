/-! the reference: profit, worth, best, forbid -/
theorem mline_1 {S : zS} {s i : Nat} (h : xhas (zP S i) s (zL S i) = true) : zline S s (i + 1) i = true := by unfold zline; rw [h]; rfl
theorem mline_2 {S : zS} {s i : Nat} (hW : zW S) (hi : i < zN S) (hu : zU S i ≠ 0) (h : zline S s (zU S i - 1 + 1) (zU S i - 1) = true) : zline S s (i + 1) i = true := by
  have hle := (hW.2.2.2.2.1 i hi).1
  rw [zline_fuel hW _ i _ (by omega) (by omega) (by omega)] at h
  unfold zline
  rw [h, decide_eq_true hu]; simp
theorem mline_3 {S : zS} {s i : Nat} (hW : zW S) (hi : i < zN S) (hu : zV S i ≠ 0) (h : zline S s (zV S i - 1 + 1) (zV S i - 1) = true) : zline S s (i + 1) i = true := by
  have hle := (hW.2.2.2.2.1 i hi).2
  rw [zline_fuel hW _ i _ (by omega) (by omega) (by omega)] at h
  unfold zline
  rw [h, decide_eq_true hu]; simp
theorem mline_0 {S : zS} {s i : Nat} (hW : zW S) (hi : i < zN S) (h1 : xhas (zP S i) s (zL S i) = false) (h2 : zU S i = 0 ∨ zline S s (zU S i - 1 + 1) (zU S i - 1) = false) (h3 : zV S i = 0 ∨ zline S s (zV S i - 1 + 1) (zV S i - 1) = false) : zline S s (i + 1) i = false := by
  have hle := hW.2.2.2.2.1 i hi
  unfold zline
  rw [h1, Bool.false_or, Bool.or_eq_false_iff]
  constructor
  · rcases h2 with h2 | h2
    · rw [decide_eq_false (fun z => z h2)]; rfl
    · by_cases c : zU S i = 0
      · rw [decide_eq_false (fun z => z c)]; rfl
      · rw [zline_fuel hW _ i _ (by omega) (by omega) (by omega)] at h2
        rw [h2, Bool.and_false]
  · rcases h3 with h3 | h3
    · rw [decide_eq_false (fun z => z h3)]; rfl
    · by_cases c : zV S i = 0
      · rw [decide_eq_false (fun z => z c)]; rfl
      · rw [zline_fuel hW _ i _ (by omega) (by omega) (by omega)] at h3
        rw [h3, Bool.and_false]
theorem mfor_at {S : zS} {s i : Nat} : zI (zforb S s i) i = zI S i := by
  show (zI S i && !(decide (i < i) && zline S s (i + 1) i)) = zI S i
  rw [decide_eq_false (Nat.lt_irrefl i)]; simp
theorem mfor_up {S : zS} {s i : Nat} {b : Bool} (hb : b = (zI S i && !zline S s (i + 1) i)) : va_up (zI (zforb S s i)) i b = zI (zforb S s (i + 1)) := by
  funext j
  show _ = (zI S j && !(decide (j < i + 1) && zline S s (j + 1) j))
  by_cases c : j = i
  · rw [c, va_up_self, hb, decide_eq_true (Nat.lt_succ_self i)]; simp
  · rw [va_up_ne _ _ c]
    show (zI S j && !(decide (j < i) && zline S s (j + 1) j)) = _
    rw [show decide (j < i + 1) = decide (j < i) from decide_eq_decide.mpr (by omega)]
set_option maxHeartbeats 200000 in
set_option maxRecDepth 100000 in
/-- profit(..) -/
theorem c_X5_profit (l : Launch) (hfl : l.stackTraces = false) (G : xG) (ad : Nat → Nat) (S : zS) (tp th : Nat) (g : Nat → Int) (wo : Nat → Int32) (z : Nat → Bool) (u9 p9 q9 v9 w9 : Int32) (H : Heap) (hM : MX G ad S tp th g wo z H) (hW : zW S) : xMet l G yX5_profit wsX5_profit ({ frames := 4, cells := 0, slots := 0, locals := 98 } : Room) [.ref (ad 0), .int u9, .int p9, .int q9, .int v9, .int w9] H (mPost G ad (kprofit S u9 p9 q9 v9 w9) (Int32.ofInt (zprof S u9.toNatClampNeg p9.toNatClampNeg q9.toNatClampNeg v9.toNatClampNeg w9.toNatClampNeg)) S (S)) (xNo) := by
  refine vx_ofW (cc := cX5_profit) (maxL := 7) (ret := (some .int)) (by decide) rfl ?_
  intro Pg Ev s m args below meth c s₁ B hml hout hv
  obtain ⟨rfl, hH, hC⟩ := hv
  have hx := B.exec
  have hb := B.bytes
  have hr := B.returns
  have hts := atoms_spec (ws := wsX5_profit) B.pre
  have hown : s.vm.findClass RX5 = some m.cls := findClass_of_methodNamed B.named
  have hlocks := B.notSynchronized
  rw [hH]
  have hS : va_S (xA G) s.heap H [] := by rw [← hH]; exact va_S.rf
  generalize ([] : List Loc) = locs at hS ⊢
  have hl := lv_entry [.ref (ad 0), .int u9, .int p9, .int q9, .int v9, .int w9] (n := 7) (Nat.le_of_ble_eq_true rfl)
  rw [lg_entry_eq]
  generalize (lg_sl [.ref (ad 0), .int u9, .int p9, .int q9, .int v9, .int w9] ++ List.replicate (7 - (lg_sl [.ref (ad 0), .int u9, .int p9, .int q9, .int v9, .int w9]).length) Slot.unset).toArray = ls at hl ⊢
  have hl : lv_has ls 7 [(0, .ref (ad 0)), (1, .int u9), (2, .int p9), (3, .int q9), (4, .int v9), (5, .int w9)] := hl
  obtain ⟨hO, hm0, hm1, hm2, hm3, hm4, hm5, hm6, hm7, hm8, hm9, hm10⟩ := id hM
  have hn20 := hW.1
  have J33 : ∀ (b9 : Bool), (b9 = decide (p9 ≠ q9 ∧ xok u9 4 = true ∧ xok v9 100 = true ∧ xok w9 100 = true)) → ∀ (locs : List Loc), va_S (xA G) s.heap H locs → ∀ ls : Array Slot, lv_has ls 7 [(0, .ref (ad 0)), (1, .int u9), (2, .int p9), (3, .int q9), (4, .int v9), (5, .int w9)] → W Pg l Ev (headSpec wsX5_profit ({ frames := 4, cells := 0, slots := 0, locals := 98 } : Room)).room s m ([.ref (ad 0), .int u9, .int p9, .int q9, .int v9, .int w9] : List Value).toArray below meth c H locs (0) (0) (vx_MQ below (xQ G (mPost G ad (kprofit S u9 p9 q9 v9 w9) (Int32.ofInt (zprof S u9.toNatClampNeg p9.toNatClampNeg q9.toNatClampNeg v9.toNatClampNeg w9.toNatClampNeg)) S (S))) (xX G (xNo)) ([.ref (ad 0), .int u9, .int p9, .int q9, .int v9, .int w9] : List Value).toArray s ({ frames := 4, cells := 0, slots := 0, locals := 98 } : Room).cells ({ frames := 4, cells := 0, slots := 0, locals := 98 } : Room).slots (xA G)) (F0 m 33 ls [.int (xb b9)]) := by
    intro b9 hb9 locs hS ls hl
    refine lv_istore (lv' := [(6, .int (xb b9)), (0, .ref (ad 0)), (1, .int u9), (2, .int p9), (3, .int q9), (4, .int v9), (5, .int w9)]) hx hb dX5_profit_33 hl (by decide) rfl (fun ls hl => ?_)
    refine lv_aload_n hx hb dX5_profit_35 rfl (lv_at hl 1 rfl) ?_
    refine lv_aload_n hx hb dX5_profit_36 rfl (lv_at hl 1 rfl) ?_
    refine lv_iload_n hx hb dX5_profit_37 rfl (lv_at hl 3 rfl) ?_
    refine x_intE (vx_runV (As := [.int p9]) (rest := [.ref (ad 0)]) ⟨hx, hb, hml, hown, hts⟩ (c_X5_isStrategy l hfl G ad S tp th g wo z p9 H ⟨hO, hm0, hm1, hm2, hm3, hm4, hm5, hm6, hm7, hm8, hm9, hm10⟩ hn20) (cwV 1 hts gX5_profit_X5_isStrategy rfl rfl rfl (by decide +kernel) ⟨(Nat.le_of_ble_eq_true rfl), (Nat.le_of_ble_eq_true rfl)⟩) (xPreV hC hS hm0 (q := (RX5, TX5, 14)) rfl) rfl rfl hl.1 rfl (lv_room (Nat.le_of_ble_eq_true rfl)) dX5_profit_38 ⟨(by first | exact Nat.le_of_ble_eq_true rfl | exact (show 0 + 0 ≤ 0 by omega)), (by first | exact Nat.le_of_ble_eq_true rfl | exact (show 0 + 0 ≤ 0 by omega))⟩) hS (fun locs hS => ?_)
    refine lv_if_eq (tgt := 52) hx hb dX5_profit_41 (by decide) (fun c_1 => ?_) (fun c_1 => ?_)
    · have _ := hx
      have hk_p9 : xok p9 (zN S) = false := xb_0.mp (by first | exact c_1 | exact Classical.not_not.mp c_1)
      refine lv_iconst (v := (nI 1)) hx hb dX5_profit_52 (by decide) ?_
      refine lv_goto (tgt := 66) hx hb dX5_profit_53 (by decide) ?_
      have hsz := hS.1
      refine x_call (px := xNo) (vx_runV (As := [.int (nI 1)]) (rest := []) ⟨hx, hb, hml, hown, hts⟩ (c_X5_goesk l hfl G ad S tp th g wo z 1 H ⟨hO, hm0, hm1, hm2, hm3, hm4, hm5, hm6, hm7, hm8, hm9, hm10⟩ (by decide)) (cwV 1 hts gX5_profit_X5_goes rfl rfl rfl (by decide +kernel) ⟨(Nat.le_of_ble_eq_true rfl), (Nat.le_of_ble_eq_true rfl)⟩) (xPreV hC hS hm0 (q := (RX5, TX5, 14)) rfl) rfl rfl hl.1 rfl (lv_room (Nat.le_of_ble_eq_true rfl)) dX5_profit_66 ⟨(by first | exact Nat.le_of_ble_eq_true rfl | exact (show 0 + 0 ≤ 0 by omega)), (by first | exact Nat.le_of_ble_eq_true rfl | exact (show 0 + 0 ≤ 0 by omega))⟩) hS (fun _ h => h) (fun _ _ _ _ _ h => False.elim h) (fun v H_2 locs hp hz hk_3 hS => ?_)
      obtain ⟨rfl, hMM4⟩ := hp
      obtain ⟨-, hm0, hm1, hm2, hm3, hm4, hm5, hm6, hm7, hm8, hm9, hm10⟩ := id hMM4
      refine lv_if_eq (tgt := 86) hx hb dX5_profit_69 (by decide) (fun c_5 => ?_) (fun c_5 => ?_)
      · have _ := hx
        have c_5 : 0 = 0 := (nI_eq (a := 0) (b := 0) (by omega) (by omega)).mp c_5
        refine lv_iconst (v := (nI 0)) hx hb dX5_profit_86 (by decide) ?_
        exact x_iret (G := G) hx hb hr rfl dX5_profit_87 hlocks hS (by first | exact Nat.le_of_ble_eq_true rfl | exact (show 0 ≤ 0 by omega)) (by first | exact Nat.le_of_ble_eq_true rfl | exact (show 0 ≤ 0 by omega)) (by exact mP1 0 (by unfold kprofit; rw [if_neg (fun q => by first | (rw [hk_p9] at q; cases q.1) | (rw [hk_q9] at q; cases q.2))]) ⟨hO, hm0, hm1, hm2, hm3, hm4, hm5, hm6, hm7, hm8, hm9, hm10⟩)
      · have _ := hx
        have c_5 : ¬ (0 = 0) := fun z => c_5 ((nI_eq (a := 0) (b := 0) (by omega) (by omega)).mpr z)
        exact absurd c_5 (by decide)
    · have _ := hx
      obtain ⟨i9, hi9, rfl⟩ := xok_of (xb_1 (by first | exact c_1 | exact fun q => absurd q c_1)) (by omega)
      refine lv_aload_n hx hb dX5_profit_44 rfl (lv_at hl 1 rfl) ?_
      refine lv_iload_n hx hb dX5_profit_45 rfl (lv_at hl 4 rfl) ?_
      refine x_intE (vx_runV (As := [.int q9]) (rest := [.ref (ad 0)]) ⟨hx, hb, hml, hown, hts⟩ (c_X5_isStrategy l hfl G ad S tp th g wo z q9 H ⟨hO, hm0, hm1, hm2, hm3, hm4, hm5, hm6, hm7, hm8, hm9, hm10⟩ hn20) (cwV 1 hts gX5_profit_X5_isStrategy rfl rfl rfl (by decide +kernel) ⟨(Nat.le_of_ble_eq_true rfl), (Nat.le_of_ble_eq_true rfl)⟩) (xPreV hC hS hm0 (q := (RX5, TX5, 14)) rfl) rfl rfl hl.1 rfl (lv_room (Nat.le_of_ble_eq_true rfl)) dX5_profit_46 ⟨(by first | exact Nat.le_of_ble_eq_true rfl | exact (show 0 + 0 ≤ 0 by omega)), (by first | exact Nat.le_of_ble_eq_true rfl | exact (show 0 + 0 ≤ 0 by omega))⟩) hS (fun locs hS => ?_)
      refine lv_if_ne (tgt := 56) hx hb dX5_profit_49 (by decide) (fun c_6 => ?_) (fun c_6 => ?_)
      · have _ := hx
        obtain ⟨j9, hj9, rfl⟩ := xok_of (xb_1 (by first | exact c_6 | exact fun q => absurd q c_6)) (by omega)
        refine lv_iload hx hb dX5_profit_56 (lv_at hl 0 rfl) ?_
        refine lv_if_eq (tgt := 65) hx hb dX5_profit_58 (by decide) (fun c_7 => ?_) (fun c_7 => ?_)
        · have _ := hx
          have hb8 := of_decide_eq_false (hb9.symm.trans (xb_0.mp c_7))
          refine lv_iconst (v := (nI 2)) hx hb dX5_profit_65 (by decide) ?_
          have hsz := hS.1
          refine x_call (px := xNo) (vx_runV (As := [.int (nI 2)]) (rest := []) ⟨hx, hb, hml, hown, hts⟩ (c_X5_goesk l hfl G ad S tp th g wo z 2 H ⟨hO, hm0, hm1, hm2, hm3, hm4, hm5, hm6, hm7, hm8, hm9, hm10⟩ (by decide)) (cwV 1 hts gX5_profit_X5_goes rfl rfl rfl (by decide +kernel) ⟨(Nat.le_of_ble_eq_true rfl), (Nat.le_of_ble_eq_true rfl)⟩) (xPreV hC hS hm0 (q := (RX5, TX5, 14)) rfl) rfl rfl hl.1 rfl (lv_room (Nat.le_of_ble_eq_true rfl)) dX5_profit_66 ⟨(by first | exact Nat.le_of_ble_eq_true rfl | exact (show 0 + 0 ≤ 0 by omega)), (by first | exact Nat.le_of_ble_eq_true rfl | exact (show 0 + 0 ≤ 0 by omega))⟩) hS (fun _ h => h) (fun _ _ _ _ _ h => False.elim h) (fun v H_8 locs hp hz hk_9 hS => ?_)
          obtain ⟨rfl, hMM10⟩ := hp
          obtain ⟨-, hm0, hm1, hm2, hm3, hm4, hm5, hm6, hm7, hm8, hm9, hm10⟩ := id hMM10
          refine lv_if_eq (tgt := 86) hx hb dX5_profit_69 (by decide) (fun c_11 => ?_) (fun c_11 => ?_)
          · have _ := hx
            have c_11 : 0 = 0 := (nI_eq (a := 0) (b := 0) (by omega) (by omega)).mp c_11
            refine lv_iconst (v := (nI 0)) hx hb dX5_profit_86 (by decide) ?_
            exact x_iret (G := G) hx hb hr rfl dX5_profit_87 hlocks hS (by first | exact Nat.le_of_ble_eq_true rfl | exact (show 0 ≤ 0 by omega)) (by first | exact Nat.le_of_ble_eq_true rfl | exact (show 0 ≤ 0 by omega)) (by exact mP1 1 (by rw [kprofit_j hn20 hi9 hj9]; exact if_neg hb8) ⟨hO, hm0, hm1, hm2, hm3, hm4, hm5, hm6, hm7, hm8, hm9, hm10⟩)
          · have _ := hx
            have c_11 : ¬ (0 = 0) := fun z => c_11 ((nI_eq (a := 0) (b := 0) (by omega) (by omega)).mpr z)
            exact absurd c_11 (by decide)
        · have _ := hx
          obtain ⟨hb8, hb7, hb6, hb5⟩ := of_decide_eq_true (hb9.symm.trans (xb_1 c_7))
          obtain ⟨n9, hn9, rfl⟩ := xok_of hb7 (by omega)
          obtain ⟨o9, ho9, rfl⟩ := xok_of hb6 (by omega)
          obtain ⟨r9, hr9, rfl⟩ := xok_of hb5 (by omega)
          refine lv_iconst (v := (nI 0)) hx hb dX5_profit_61 (by decide) ?_
          refine lv_goto (tgt := 66) hx hb dX5_profit_62 (by decide) ?_
          have hsz := hS.1
          refine x_call (px := xNo) (vx_runV (As := [.int (nI 0)]) (rest := []) ⟨hx, hb, hml, hown, hts⟩ (c_X5_goes0 l hfl G ad S tp th g wo z 0 H ⟨hO, hm0, hm1, hm2, hm3, hm4, hm5, hm6, hm7, hm8, hm9, hm10⟩ rfl) (cwV 1 hts gX5_profit_X5_goes rfl rfl rfl (by decide +kernel) ⟨(Nat.le_of_ble_eq_true rfl), (Nat.le_of_ble_eq_true rfl)⟩) (xPreV hC hS hm0 (q := (RX5, TX5, 14)) rfl) rfl rfl hl.1 rfl (lv_room (Nat.le_of_ble_eq_true rfl)) dX5_profit_66 ⟨(by first | exact Nat.le_of_ble_eq_true rfl | exact (show 0 + 0 ≤ 0 by omega)), (by first | exact Nat.le_of_ble_eq_true rfl | exact (show 0 + 0 ≤ 0 by omega))⟩) hS (fun _ h => h) (fun _ _ _ _ _ h => False.elim h) (fun v H_12 locs hp hz hk_13 hS => ?_)
          obtain ⟨rfl, hMM14⟩ := hp
          obtain ⟨-, hm0, hm1, hm2, hm3, hm4, hm5, hm6, hm7, hm8, hm9, hm10⟩ := id hMM14
          refine lv_if_eq (tgt := 86) hx hb dX5_profit_69 (by decide) (fun c_15 => ?_) (fun c_15 => ?_)
          · have _ := hx
            have c_15 : 1 = 0 := (nI_eq (a := 1) (b := 0) (by omega) (by omega)).mp c_15
            exact absurd c_15 (by decide)
          · have _ := hx
            have c_15 : ¬ (1 = 0) := fun z => c_15 ((nI_eq (a := 1) (b := 0) (by omega) (by omega)).mpr z)
            refine lv_aload_n hx hb dX5_profit_72 rfl (lv_at hl 1 rfl) ?_
            refine lv_iload_n hx hb dX5_profit_73 rfl (lv_at hl 2 rfl) ?_
            refine lv_iload_n hx hb dX5_profit_74 rfl (lv_at hl 3 rfl) ?_
            refine lv_iload_n hx hb dX5_profit_75 rfl (lv_at hl 4 rfl) ?_
            refine lv_iload hx hb dX5_profit_76 (lv_at hl 5 rfl) ?_
            refine lv_iload hx hb dX5_profit_78 (lv_at hl 6 rfl) ?_
            have hsz := hS.1
            refine x_call (px := xNo) (vx_runV (As := [.int (nI n9), .int (nI i9), .int (nI j9), .int (nI o9), .int (nI r9)]) (rest := []) ⟨hx, hb, hml, hown, hts⟩ (c_X5_profitOf l hfl G ad S tp 0 g wo z n9 i9 j9 (o9) (r9) H_12 ⟨hO, hm0, hm1, hm2, hm3, hm4, hm5, hm6, hm7, hm8, hm9, hm10⟩ hW (by omega) (by omega) (by omega) (by omega) (by omega)) (cwV 5 hts gX5_profit_X5_profitOf rfl rfl rfl (by decide +kernel) ⟨(Nat.le_of_ble_eq_true rfl), (Nat.le_of_ble_eq_true rfl)⟩) (xPreV hC hS hm0 (q := (RX5, TX5, 14)) rfl) rfl rfl hl.1 rfl (lv_room (Nat.le_of_ble_eq_true rfl)) dX5_profit_80 ⟨(by first | exact Nat.le_of_ble_eq_true rfl | exact (show 0 + 0 ≤ 0 by omega)), (by first | exact Nat.le_of_ble_eq_true rfl | exact (show 0 + 0 ≤ 0 by omega))⟩) hS (fun _ h => h) (fun _ _ _ _ _ h => False.elim h) (fun v H_16 locs hp hz hk_17 hS => ?_)
            obtain ⟨rfl, tp18, g18, hMM18⟩ := hp
            obtain ⟨-, hm0, hm1, hm2, hm3, hm4, hm5, hm6, hm7, hm8, hm9, hm10⟩ := id hMM18
            refine lv_goto (tgt := 87) hx hb dX5_profit_83 (by decide) ?_
            exact x_iret (G := G) hx hb hr rfl dX5_profit_87 hlocks hS (by first | exact Nat.le_of_ble_eq_true rfl | exact (show 0 ≤ 0 by omega)) (by first | exact Nat.le_of_ble_eq_true rfl | exact (show 0 ≤ 0 by omega)) (by exact mP0 (by rw [kprofit_j hn20 hi9 hj9]; exact if_pos ⟨hb8, hb7, hb6, hb5⟩) ⟨hO, hm0, hm1, hm2, hm3, hm4, hm5, hm6, hm7, hm8, hm9, hm10⟩ (by rw [nI_clamp (show n9 < 2 ^ 31 by omega), nI_clamp (show i9 < 2 ^ 31 by omega), nI_clamp (show j9 < 2 ^ 31 by omega), nI_clamp (show o9 < 2 ^ 31 by omega), nI_clamp (show r9 < 2 ^ 31 by omega)]))
      · have _ := hx
        have hk_q9 : xok q9 (zN S) = false := xb_0.mp (by first | exact c_6 | exact Classical.not_not.mp c_6)
        refine lv_iconst (v := (nI 1)) hx hb dX5_profit_52 (by decide) ?_
        refine lv_goto (tgt := 66) hx hb dX5_profit_53 (by decide) ?_
        have hsz := hS.1
        refine x_call (px := xNo) (vx_runV (As := [.int (nI 1)]) (rest := []) ⟨hx, hb, hml, hown, hts⟩ (c_X5_goesk l hfl G ad S tp th g wo z 1 H ⟨hO, hm0, hm1, hm2, hm3, hm4, hm5, hm6, hm7, hm8, hm9, hm10⟩ (by decide)) (cwV 1 hts gX5_profit_X5_goes rfl rfl rfl (by decide +kernel) ⟨(Nat.le_of_ble_eq_true rfl), (Nat.le_of_ble_eq_true rfl)⟩) (xPreV hC hS hm0 (q := (RX5, TX5, 14)) rfl) rfl rfl hl.1 rfl (lv_room (Nat.le_of_ble_eq_true rfl)) dX5_profit_66 ⟨(by first | exact Nat.le_of_ble_eq_true rfl | exact (show 0 + 0 ≤ 0 by omega)), (by first | exact Nat.le_of_ble_eq_true rfl | exact (show 0 + 0 ≤ 0 by omega))⟩) hS (fun _ h => h) (fun _ _ _ _ _ h => False.elim h) (fun v H_19 locs hp hz hk_20 hS => ?_)
        obtain ⟨rfl, hMM21⟩ := hp
        obtain ⟨-, hm0, hm1, hm2, hm3, hm4, hm5, hm6, hm7, hm8, hm9, hm10⟩ := id hMM21
        refine lv_if_eq (tgt := 86) hx hb dX5_profit_69 (by decide) (fun c_22 => ?_) (fun c_22 => ?_)
        · have _ := hx
          have c_22 : 0 = 0 := (nI_eq (a := 0) (b := 0) (by omega) (by omega)).mp c_22
          refine lv_iconst (v := (nI 0)) hx hb dX5_profit_86 (by decide) ?_
          exact x_iret (G := G) hx hb hr rfl dX5_profit_87 hlocks hS (by first | exact Nat.le_of_ble_eq_true rfl | exact (show 0 ≤ 0 by omega)) (by first | exact Nat.le_of_ble_eq_true rfl | exact (show 0 ≤ 0 by omega)) (by exact mP1 0 (by unfold kprofit; rw [if_neg (fun q => by first | (rw [hk_p9] at q; cases q.1) | (rw [hk_q9] at q; cases q.2))]) ⟨hO, hm0, hm1, hm2, hm3, hm4, hm5, hm6, hm7, hm8, hm9, hm10⟩)
        · have _ := hx
          have c_22 : ¬ (0 = 0) := fun z => c_22 ((nI_eq (a := 0) (b := 0) (by omega) (by omega)).mpr z)
          exact absurd c_22 (by decide)
  refine lv_iload_n hx hb dX5_profit_0 rfl (lv_at hl 2 rfl) ?_
  refine lv_iload_n hx hb dX5_profit_1 rfl (lv_at hl 3 rfl) ?_
  refine lv_icmp_eq (tgt := 32) hx hb dX5_profit_2 (by decide) (fun c_23 => ?_) (fun c_23 => ?_)
  · have _ := hx
    refine lv_iconst (v := (nI 0)) hx hb dX5_profit_32 (by decide) ?_
    exact J33 (false) ((decide_eq_false (fun q => q.1 (by first | exact c_23 | exact Classical.not_not.mp c_23))).symm) _ hS ls (lv_sub hl [0, 1, 2, 3, 4, 5] rfl)
  · have _ := hx
    refine lv_iload_n hx hb dX5_profit_5 rfl (lv_at hl 1 rfl) ?_
    refine x_intE (vx_runS (As := [.int u9]) (rest := []) ⟨hx, hb, hml, hown, hts⟩ (c_X5_isAuction l hfl G u9 H) (va_cwS 1 hts gX5_profit_X5_isAuction rfl rfl rfl (by decide +kernel) ⟨(Nat.le_of_ble_eq_true rfl), (Nat.le_of_ble_eq_true rfl)⟩) (xPreS hC hS) rfl rfl hl.1 rfl (lv_room (Nat.le_of_ble_eq_true rfl)) dX5_profit_6 ⟨(by first | exact Nat.le_of_ble_eq_true rfl | exact (show 0 + 0 ≤ 0 by omega)), (by first | exact Nat.le_of_ble_eq_true rfl | exact (show 0 + 0 ≤ 0 by omega))⟩) hS (fun locs hS => ?_)
    refine lv_if_eq (tgt := 32) hx hb dX5_profit_9 (by decide) (fun c_24 => ?_) (fun c_24 => ?_)
    · have _ := hx
      refine lv_iconst (v := (nI 0)) hx hb dX5_profit_32 (by decide) ?_
      exact J33 (false) ((decide_eq_false (fun q => by rw [xb_0.mp c_24] at q; cases q.2.1)).symm) _ hS ls (lv_sub hl [0, 1, 2, 3, 4, 5] rfl)
    · have _ := hx
      refine lv_iload hx hb dX5_profit_12 (lv_at hl 4 rfl) ?_
      refine x_intE (vx_runS (As := [.int v9]) (rest := []) ⟨hx, hb, hml, hown, hts⟩ (c_X5_isValue l hfl G v9 H) (va_cwS 1 hts gX5_profit_X5_isValue rfl rfl rfl (by decide +kernel) ⟨(Nat.le_of_ble_eq_true rfl), (Nat.le_of_ble_eq_true rfl)⟩) (xPreS hC hS) rfl rfl hl.1 rfl (lv_room (Nat.le_of_ble_eq_true rfl)) dX5_profit_14 ⟨(by first | exact Nat.le_of_ble_eq_true rfl | exact (show 0 + 0 ≤ 0 by omega)), (by first | exact Nat.le_of_ble_eq_true rfl | exact (show 0 + 0 ≤ 0 by omega))⟩) hS (fun locs hS => ?_)
      refine lv_if_eq (tgt := 32) hx hb dX5_profit_17 (by decide) (fun c_25 => ?_) (fun c_25 => ?_)
      · have _ := hx
        refine lv_iconst (v := (nI 0)) hx hb dX5_profit_32 (by decide) ?_
        exact J33 (false) ((decide_eq_false (fun q => by rw [xb_0.mp c_25] at q; cases q.2.2.1)).symm) _ hS ls (lv_sub hl [0, 1, 2, 3, 4, 5] rfl)
      · have _ := hx
        refine lv_iload hx hb dX5_profit_20 (lv_at hl 5 rfl) ?_
        refine x_intE (vx_runS (As := [.int w9]) (rest := []) ⟨hx, hb, hml, hown, hts⟩ (c_X5_isValue l hfl G w9 H) (va_cwS 1 hts gX5_profit_X5_isValue rfl rfl rfl (by decide +kernel) ⟨(Nat.le_of_ble_eq_true rfl), (Nat.le_of_ble_eq_true rfl)⟩) (xPreS hC hS) rfl rfl hl.1 rfl (lv_room (Nat.le_of_ble_eq_true rfl)) dX5_profit_22 ⟨(by first | exact Nat.le_of_ble_eq_true rfl | exact (show 0 + 0 ≤ 0 by omega)), (by first | exact Nat.le_of_ble_eq_true rfl | exact (show 0 + 0 ≤ 0 by omega))⟩) hS (fun locs hS => ?_)
        refine lv_if_eq (tgt := 32) hx hb dX5_profit_25 (by decide) (fun c_26 => ?_) (fun c_26 => ?_)
        · have _ := hx
          refine lv_iconst (v := (nI 0)) hx hb dX5_profit_32 (by decide) ?_
          exact J33 (false) ((decide_eq_false (fun q => by rw [xb_0.mp c_26] at q; cases q.2.2.2)).symm) _ hS ls (lv_sub hl [0, 1, 2, 3, 4, 5] rfl)
        · have _ := hx
          refine lv_iconst (v := (nI 1)) hx hb dX5_profit_28 (by decide) ?_
          refine lv_goto (tgt := 33) hx hb dX5_profit_29 (by decide) ?_
          exact J33 (true) ((decide_eq_true ⟨c_23, xb_1 c_24, xb_1 c_25, xb_1 c_26⟩).symm) _ hS ls (lv_sub hl [0, 1, 2, 3, 4, 5] rfl)

set_option maxHeartbeats 200000 in
set_option maxRecDepth 100000 in
/-- worthIn(auction, strategy) -/
theorem c_X5_worthIn (l : Launch) (hfl : l.stackTraces = false) (G : xG) (ad : Nat → Nat) (S : zS) (tp th : Nat) (g : Nat → Int) (wo : Nat → Int32) (z : Nat → Bool) (u9 p9 : Int32) (H : Heap) (hM : MX G ad S tp th g wo z H) (hW : zW S) : xMet l G yX5_worthIn wsX5_worthIn ({ frames := 5, cells := 0, slots := 0, locals := 123 } : Room) [.ref (ad 0), .int u9, .int p9] H (mPost G ad (kworth S u9 p9) (Int32.ofInt (zworth S u9.toNatClampNeg p9.toNatClampNeg)) S (S)) (xNo) := by
  refine vx_ofW (cc := cX5_worthIn) (maxL := 3) (ret := (some .int)) (by decide) rfl ?_
  intro Pg Ev s m args below meth c s₁ B hml hout hv
  obtain ⟨rfl, hH, hC⟩ := hv
  have hx := B.exec
  have hb := B.bytes
  have hr := B.returns
  have hts := atoms_spec (ws := wsX5_worthIn) B.pre
  have hown : s.vm.findClass RX5 = some m.cls := findClass_of_methodNamed B.named
  have hlocks := B.notSynchronized
  rw [hH]
  have hS : va_S (xA G) s.heap H [] := by rw [← hH]; exact va_S.rf
  generalize ([] : List Loc) = locs at hS ⊢
  have hl := lv_entry [.ref (ad 0), .int u9, .int p9] (n := 3) (Nat.le_of_ble_eq_true rfl)
  rw [lg_entry_eq]
  generalize (lg_sl [.ref (ad 0), .int u9, .int p9] ++ List.replicate (3 - (lg_sl [.ref (ad 0), .int u9, .int p9]).length) Slot.unset).toArray = ls at hl ⊢
  have hl : lv_has ls 3 [(0, .ref (ad 0)), (1, .int u9), (2, .int p9)] := hl
  obtain ⟨hO, hm0, hm1, hm2, hm3, hm4, hm5, hm6, hm7, hm8, hm9, hm10⟩ := id hM
  have hn20 := hW.1
  refine lv_aload_n hx hb dX5_worthIn_0 rfl (lv_at hl 0 rfl) ?_
  refine lv_aload_n hx hb dX5_worthIn_1 rfl (lv_at hl 0 rfl) ?_
  refine lv_iload_n hx hb dX5_worthIn_2 rfl (lv_at hl 2 rfl) ?_
  refine x_intE (vx_runV (As := [.int p9]) (rest := [.ref (ad 0)]) ⟨hx, hb, hml, hown, hts⟩ (c_X5_isStrategy l hfl G ad S tp th g wo z p9 H ⟨hO, hm0, hm1, hm2, hm3, hm4, hm5, hm6, hm7, hm8, hm9, hm10⟩ hn20) (cwV 1 hts gX5_worthIn_X5_isStrategy rfl rfl rfl (by decide +kernel) ⟨(Nat.le_of_ble_eq_true rfl), (Nat.le_of_ble_eq_true rfl)⟩) (xPreV hC hS hm0 (q := (RX5, TX5, 14)) rfl) rfl rfl hl.1 rfl (lv_room (Nat.le_of_ble_eq_true rfl)) dX5_worthIn_3 ⟨(by first | exact Nat.le_of_ble_eq_true rfl | exact (show 0 + 0 ≤ 0 by omega)), (by first | exact Nat.le_of_ble_eq_true rfl | exact (show 0 + 0 ≤ 0 by omega))⟩) hS (fun locs hS => ?_)
  refine lv_if_ne (tgt := 13) hx hb dX5_worthIn_6 (by decide) (fun c_1 => ?_) (fun c_1 => ?_)
  · have _ := hx
    obtain ⟨i9, hi9, rfl⟩ := xok_of (xb_1 (by first | exact c_1 | exact fun q => absurd q c_1)) (by omega)
    refine lv_iload_n hx hb dX5_worthIn_13 rfl (lv_at hl 1 rfl) ?_
    refine x_intE (vx_runS (As := [.int u9]) (rest := [.ref (ad 0)]) ⟨hx, hb, hml, hown, hts⟩ (c_X5_isAuction l hfl G u9 H) (va_cwS 1 hts gX5_worthIn_X5_isAuction rfl rfl rfl (by decide +kernel) ⟨(Nat.le_of_ble_eq_true rfl), (Nat.le_of_ble_eq_true rfl)⟩) (xPreS hC hS) rfl rfl hl.1 rfl (lv_room (Nat.le_of_ble_eq_true rfl)) dX5_worthIn_14 ⟨(by first | exact Nat.le_of_ble_eq_true rfl | exact (show 0 + 0 ≤ 0 by omega)), (by first | exact Nat.le_of_ble_eq_true rfl | exact (show 0 + 0 ≤ 0 by omega))⟩) hS (fun locs hS => ?_)
    refine lv_if_ne (tgt := 24) hx hb dX5_worthIn_17 (by decide) (fun c_2 => ?_) (fun c_2 => ?_)
    · have _ := hx
      obtain ⟨n9, hn9, rfl⟩ := xok_of (xb_1 (by first | exact c_2 | exact fun q => absurd q c_2)) (by omega)
      refine lv_aload_n hx hb dX5_worthIn_24 rfl (lv_at hl 0 rfl) ?_
      refine va_get (D := xD G) (ci := 6) (v := .ref (ad 4)) (C := RX5) (T := TX5) (N := 14) hx hb hts (by decide +kernel) hown hC.1 (x1 hm0) 0 rfl rfl 4 (by decide) (hts (.fieldLink RX5 19 "BidwhistleModel" "isIn" "[Z") (by decide +kernel)) (fun _ h9 => h9) rfl dX5_worthIn_25 ?_
      refine lv_iload_n hx hb dX5_worthIn_28 rfl (lv_at hl 2 rfl) ?_
      refine x_zald (G := G) (j := i9) hx hb hC hm4 (by omega) (by first | decide | omega) dX5_worthIn_29 ?_
      refine lv_if_eq (tgt := 37) hx hb dX5_worthIn_30 (by decide) (fun c_3 => ?_) (fun c_3 => ?_)
      · have _ := hx
        have hin : zI S i9 = false := xb_0.mp c_3
        refine lv_iconst (v := (nI 3)) hx hb dX5_worthIn_37 (by decide) ?_
        have hsz := hS.1
        refine x_call (px := xNo) (vx_runV (As := [.int (nI 3)]) (rest := []) ⟨hx, hb, hml, hown, hts⟩ (c_X5_goesk l hfl G ad S tp th g wo z 3 H ⟨hO, hm0, hm1, hm2, hm3, hm4, hm5, hm6, hm7, hm8, hm9, hm10⟩ (by decide)) (cwV 1 hts gX5_worthIn_X5_goes rfl rfl rfl (by decide +kernel) ⟨(Nat.le_of_ble_eq_true rfl), (Nat.le_of_ble_eq_true rfl)⟩) (xPreV hC hS hm0 (q := (RX5, TX5, 14)) rfl) rfl rfl hl.1 rfl (lv_room (Nat.le_of_ble_eq_true rfl)) dX5_worthIn_38 ⟨(by first | exact Nat.le_of_ble_eq_true rfl | exact (show 0 + 0 ≤ 0 by omega)), (by first | exact Nat.le_of_ble_eq_true rfl | exact (show 0 + 0 ≤ 0 by omega))⟩) hS (fun _ h => h) (fun _ _ _ _ _ h => False.elim h) (fun v H_4 locs hp hz hk_5 hS => ?_)
        obtain ⟨rfl, hMM6⟩ := hp
        obtain ⟨-, hm0, hm1, hm2, hm3, hm4, hm5, hm6, hm7, hm8, hm9, hm10⟩ := id hMM6
        refine lv_if_eq (tgt := 53) hx hb dX5_worthIn_41 (by decide) (fun c_7 => ?_) (fun c_7 => ?_)
        · have _ := hx
          have c_7 : 0 = 0 := (nI_eq (a := 0) (b := 0) (by omega) (by omega)).mp c_7
          refine lv_iconst (v := (nI 0)) hx hb dX5_worthIn_53 (by decide) ?_
          exact x_iret (G := G) hx hb hr rfl dX5_worthIn_54 hlocks hS (by first | exact Nat.le_of_ble_eq_true rfl | exact (show 0 ≤ 0 by omega)) (by first | exact Nat.le_of_ble_eq_true rfl | exact (show 0 ≤ 0 by omega)) (by exact mP1 2 (by rw [kworth_j hn20 hi9, hin, xok_nI hn9 (by decide)]; rfl) ⟨hO, hm0, hm1, hm2, hm3, hm4, hm5, hm6, hm7, hm8, hm9, hm10⟩)
        · have _ := hx
          have c_7 : ¬ (0 = 0) := fun z => c_7 ((nI_eq (a := 0) (b := 0) (by omega) (by omega)).mpr z)
          exact absurd c_7 (by decide)
      · have _ := hx
        have hin : zI S i9 = true := xb_1 c_3
        refine lv_iconst (v := (nI 0)) hx hb dX5_worthIn_33 (by decide) ?_
        refine lv_goto (tgt := 38) hx hb dX5_worthIn_34 (by decide) ?_
        have hsz := hS.1
        refine x_call (px := xNo) (vx_runV (As := [.int (nI 0)]) (rest := []) ⟨hx, hb, hml, hown, hts⟩ (c_X5_goes0 l hfl G ad S tp th g wo z 0 H ⟨hO, hm0, hm1, hm2, hm3, hm4, hm5, hm6, hm7, hm8, hm9, hm10⟩ rfl) (cwV 1 hts gX5_worthIn_X5_goes rfl rfl rfl (by decide +kernel) ⟨(Nat.le_of_ble_eq_true rfl), (Nat.le_of_ble_eq_true rfl)⟩) (xPreV hC hS hm0 (q := (RX5, TX5, 14)) rfl) rfl rfl hl.1 rfl (lv_room (Nat.le_of_ble_eq_true rfl)) dX5_worthIn_38 ⟨(by first | exact Nat.le_of_ble_eq_true rfl | exact (show 0 + 0 ≤ 0 by omega)), (by first | exact Nat.le_of_ble_eq_true rfl | exact (show 0 + 0 ≤ 0 by omega))⟩) hS (fun _ h => h) (fun _ _ _ _ _ h => False.elim h) (fun v H_8 locs hp hz hk_9 hS => ?_)
        obtain ⟨rfl, hMM10⟩ := hp
        obtain ⟨-, hm0, hm1, hm2, hm3, hm4, hm5, hm6, hm7, hm8, hm9, hm10⟩ := id hMM10
        refine lv_if_eq (tgt := 53) hx hb dX5_worthIn_41 (by decide) (fun c_11 => ?_) (fun c_11 => ?_)
        · have _ := hx
          have c_11 : 1 = 0 := (nI_eq (a := 1) (b := 0) (by omega) (by omega)).mp c_11
          exact absurd c_11 (by decide)
        · have _ := hx
          have c_11 : ¬ (1 = 0) := fun z => c_11 ((nI_eq (a := 1) (b := 0) (by omega) (by omega)).mpr z)
          refine lv_aload_n hx hb dX5_worthIn_44 rfl (lv_at hl 0 rfl) ?_
          refine lv_iload_n hx hb dX5_worthIn_45 rfl (lv_at hl 1 rfl) ?_
          refine lv_iload_n hx hb dX5_worthIn_46 rfl (lv_at hl 2 rfl) ?_
          have hsz := hS.1
          refine x_call (px := xNo) (vx_runV (As := [.int (nI n9), .int (nI i9)]) (rest := []) ⟨hx, hb, hml, hown, hts⟩ (c_X5_worthOf l hfl G ad S tp 0 g wo z n9 i9 H_8 ⟨hO, hm0, hm1, hm2, hm3, hm4, hm5, hm6, hm7, hm8, hm9, hm10⟩ hW (by omega) (by omega)) (cwV 2 hts gX5_worthIn_X5_worthOf rfl rfl rfl (by decide +kernel) ⟨(Nat.le_of_ble_eq_true rfl), (Nat.le_of_ble_eq_true rfl)⟩) (xPreV hC hS hm0 (q := (RX5, TX5, 14)) rfl) rfl rfl hl.1 rfl (lv_room (Nat.le_of_ble_eq_true rfl)) dX5_worthIn_47 ⟨(by first | exact Nat.le_of_ble_eq_true rfl | exact (show 0 + 0 ≤ 0 by omega)), (by first | exact Nat.le_of_ble_eq_true rfl | exact (show 0 + 0 ≤ 0 by omega))⟩) hS (fun _ h => h) (fun _ _ _ _ _ h => False.elim h) (fun v H_12 locs hp hz hk_13 hS => ?_)
          obtain ⟨rfl, tp14, g14, hMM14⟩ := hp
          obtain ⟨-, hm0, hm1, hm2, hm3, hm4, hm5, hm6, hm7, hm8, hm9, hm10⟩ := id hMM14
          refine lv_goto (tgt := 54) hx hb dX5_worthIn_50 (by decide) ?_
          exact x_iret (G := G) hx hb hr rfl dX5_worthIn_54 hlocks hS (by first | exact Nat.le_of_ble_eq_true rfl | exact (show 0 ≤ 0 by omega)) (by first | exact Nat.le_of_ble_eq_true rfl | exact (show 0 ≤ 0 by omega)) (by exact mP0 (by rw [kworth_j hn20 hi9, hin, xok_nI hn9 (by decide)]; rfl) ⟨hO, hm0, hm1, hm2, hm3, hm4, hm5, hm6, hm7, hm8, hm9, hm10⟩ (by rw [nI_clamp (show n9 < 2 ^ 31 by omega), nI_clamp (show i9 < 2 ^ 31 by omega)]))
    · have _ := hx
      have hk_u9 : xok u9 4 = false := xb_0.mp (by first | exact c_2 | exact Classical.not_not.mp c_2)
      refine lv_iconst (v := (nI 2)) hx hb dX5_worthIn_20 (by decide) ?_
      refine lv_goto (tgt := 38) hx hb dX5_worthIn_21 (by decide) ?_
      have hsz := hS.1
      refine x_call (px := xNo) (vx_runV (As := [.int (nI 2)]) (rest := []) ⟨hx, hb, hml, hown, hts⟩ (c_X5_goesk l hfl G ad S tp th g wo z 2 H ⟨hO, hm0, hm1, hm2, hm3, hm4, hm5, hm6, hm7, hm8, hm9, hm10⟩ (by decide)) (cwV 1 hts gX5_worthIn_X5_goes rfl rfl rfl (by decide +kernel) ⟨(Nat.le_of_ble_eq_true rfl), (Nat.le_of_ble_eq_true rfl)⟩) (xPreV hC hS hm0 (q := (RX5, TX5, 14)) rfl) rfl rfl hl.1 rfl (lv_room (Nat.le_of_ble_eq_true rfl)) dX5_worthIn_38 ⟨(by first | exact Nat.le_of_ble_eq_true rfl | exact (show 0 + 0 ≤ 0 by omega)), (by first | exact Nat.le_of_ble_eq_true rfl | exact (show 0 + 0 ≤ 0 by omega))⟩) hS (fun _ h => h) (fun _ _ _ _ _ h => False.elim h) (fun v H_15 locs hp hz hk_16 hS => ?_)
      obtain ⟨rfl, hMM17⟩ := hp
      obtain ⟨-, hm0, hm1, hm2, hm3, hm4, hm5, hm6, hm7, hm8, hm9, hm10⟩ := id hMM17
      refine lv_if_eq (tgt := 53) hx hb dX5_worthIn_41 (by decide) (fun c_18 => ?_) (fun c_18 => ?_)
      · have _ := hx
        have c_18 : 0 = 0 := (nI_eq (a := 0) (b := 0) (by omega) (by omega)).mp c_18
        refine lv_iconst (v := (nI 0)) hx hb dX5_worthIn_53 (by decide) ?_
        exact x_iret (G := G) hx hb hr rfl dX5_worthIn_54 hlocks hS (by first | exact Nat.le_of_ble_eq_true rfl | exact (show 0 ≤ 0 by omega)) (by first | exact Nat.le_of_ble_eq_true rfl | exact (show 0 ≤ 0 by omega)) (by exact mP1 1 (by rw [kworth_j hn20 hi9, hk_u9]; rfl) ⟨hO, hm0, hm1, hm2, hm3, hm4, hm5, hm6, hm7, hm8, hm9, hm10⟩)
      · have _ := hx
        have c_18 : ¬ (0 = 0) := fun z => c_18 ((nI_eq (a := 0) (b := 0) (by omega) (by omega)).mpr z)
        exact absurd c_18 (by decide)
  · have _ := hx
    have hk_p9 : xok p9 (zN S) = false := xb_0.mp (by first | exact c_1 | exact Classical.not_not.mp c_1)
    refine lv_iconst (v := (nI 1)) hx hb dX5_worthIn_9 (by decide) ?_
    refine lv_goto (tgt := 38) hx hb dX5_worthIn_10 (by decide) ?_
    have hsz := hS.1
    refine x_call (px := xNo) (vx_runV (As := [.int (nI 1)]) (rest := []) ⟨hx, hb, hml, hown, hts⟩ (c_X5_goesk l hfl G ad S tp th g wo z 1 H ⟨hO, hm0, hm1, hm2, hm3, hm4, hm5, hm6, hm7, hm8, hm9, hm10⟩ (by decide)) (cwV 1 hts gX5_worthIn_X5_goes rfl rfl rfl (by decide +kernel) ⟨(Nat.le_of_ble_eq_true rfl), (Nat.le_of_ble_eq_true rfl)⟩) (xPreV hC hS hm0 (q := (RX5, TX5, 14)) rfl) rfl rfl hl.1 rfl (lv_room (Nat.le_of_ble_eq_true rfl)) dX5_worthIn_38 ⟨(by first | exact Nat.le_of_ble_eq_true rfl | exact (show 0 + 0 ≤ 0 by omega)), (by first | exact Nat.le_of_ble_eq_true rfl | exact (show 0 + 0 ≤ 0 by omega))⟩) hS (fun _ h => h) (fun _ _ _ _ _ h => False.elim h) (fun v H_19 locs hp hz hk_20 hS => ?_)
    obtain ⟨rfl, hMM21⟩ := hp
    obtain ⟨-, hm0, hm1, hm2, hm3, hm4, hm5, hm6, hm7, hm8, hm9, hm10⟩ := id hMM21
    refine lv_if_eq (tgt := 53) hx hb dX5_worthIn_41 (by decide) (fun c_22 => ?_) (fun c_22 => ?_)
    · have _ := hx
      have c_22 : 0 = 0 := (nI_eq (a := 0) (b := 0) (by omega) (by omega)).mp c_22
      refine lv_iconst (v := (nI 0)) hx hb dX5_worthIn_53 (by decide) ?_
      exact x_iret (G := G) hx hb hr rfl dX5_worthIn_54 hlocks hS (by first | exact Nat.le_of_ble_eq_true rfl | exact (show 0 ≤ 0 by omega)) (by first | exact Nat.le_of_ble_eq_true rfl | exact (show 0 ≤ 0 by omega)) (by exact mP1 0 (by unfold kworth; rw [hk_p9]; rfl) ⟨hO, hm0, hm1, hm2, hm3, hm4, hm5, hm6, hm7, hm8, hm9, hm10⟩)
    · have _ := hx
      have c_22 : ¬ (0 = 0) := fun z => c_22 ((nI_eq (a := 0) (b := 0) (by omega) (by omega)).mpr z)
      exact absurd c_22 (by decide)

set_option maxHeartbeats 200000 in
set_option maxRecDepth 100000 in
/-- worth(auction, strategy) -/
theorem c_X5_worth (l : Launch) (hfl : l.stackTraces = false) (G : xG) (ad : Nat → Nat) (S : zS) (tp th : Nat) (g : Nat → Int) (wo : Nat → Int32) (z : Nat → Bool) (u9 p9 : Int32) (H : Heap) (hM : MX G ad S tp th g wo z H) (hW : zW S) : xMet l G yX5_worth wsX5_worth ({ frames := 6, cells := 0, slots := 0, locals := 145 } : Room) [.ref (ad 0), .int u9, .int p9] H (mPost G ad (kworth S u9 p9) (Int32.ofInt (zworth S u9.toNatClampNeg p9.toNatClampNeg)) S (S)) (xNo) := by
  refine vx_ofW (cc := cX5_worth) (maxL := 3) (ret := (some .int)) (by decide) rfl ?_
  intro Pg Ev s m args below meth c s₁ B hml hout hv
  obtain ⟨rfl, hH, hC⟩ := hv
  have hx := B.exec
  have hb := B.bytes
  have hr := B.returns
  have hts := atoms_spec (ws := wsX5_worth) B.pre
  have hown : s.vm.findClass RX5 = some m.cls := findClass_of_methodNamed B.named
  have hlocks := B.notSynchronized
  rw [hH]
  have hS : va_S (xA G) s.heap H [] := by rw [← hH]; exact va_S.rf
  generalize ([] : List Loc) = locs at hS ⊢
  have hl := lv_entry [.ref (ad 0), .int u9, .int p9] (n := 3) (Nat.le_of_ble_eq_true rfl)
  rw [lg_entry_eq]
  generalize (lg_sl [.ref (ad 0), .int u9, .int p9] ++ List.replicate (3 - (lg_sl [.ref (ad 0), .int u9, .int p9]).length) Slot.unset).toArray = ls at hl ⊢
  have hl : lv_has ls 3 [(0, .ref (ad 0)), (1, .int u9), (2, .int p9)] := hl
  obtain ⟨hO, hm0, hm1, hm2, hm3, hm4, hm5, hm6, hm7, hm8, hm9, hm10⟩ := id hM
  have hn20 := hW.1
  refine lv_aload_n hx hb dX5_worth_0 rfl (lv_at hl 0 rfl) ?_
  refine lv_iload_n hx hb dX5_worth_1 rfl (lv_at hl 1 rfl) ?_
  refine lv_iload_n hx hb dX5_worth_2 rfl (lv_at hl 2 rfl) ?_
  have hsz := hS.1
  refine x_call (px := xNo) (vx_runV (As := [.int u9, .int p9]) (rest := []) ⟨hx, hb, hml, hown, hts⟩ (c_X5_worthIn l hfl G ad S tp th g wo z u9 p9 H ⟨hO, hm0, hm1, hm2, hm3, hm4, hm5, hm6, hm7, hm8, hm9, hm10⟩ hW) (cwV 2 hts gX5_worth_X5_worthIn rfl rfl rfl (by decide +kernel) ⟨(Nat.le_of_ble_eq_true rfl), (Nat.le_of_ble_eq_true rfl)⟩) (xPreV hC hS hm0 (q := (RX5, TX5, 14)) rfl) rfl rfl hl.1 rfl (lv_room (Nat.le_of_ble_eq_true rfl)) dX5_worth_3 ⟨(by first | exact Nat.le_of_ble_eq_true rfl | exact (show 0 + 0 ≤ 0 by omega)), (by first | exact Nat.le_of_ble_eq_true rfl | exact (show 0 + 0 ≤ 0 by omega))⟩) hS (fun _ h => h) (fun _ _ _ _ _ h => False.elim h) (fun v H_1 locs hp hz hk_2 hS => ?_)
  obtain ⟨r, rfl, hA9, tp2, g2, wo2, z2, hMM⟩ := hp
  exact x_iret (G := G) hx hb hr rfl dX5_worth_6 hlocks hS (by first | exact Nat.le_of_ble_eq_true rfl | exact (show 0 ≤ 0 by omega)) (by first | exact Nat.le_of_ble_eq_true rfl | exact (show 0 ≤ 0 by omega)) ⟨r, rfl, hA9, tp2, g2, wo2, z2, hMM⟩

set_option maxHeartbeats 200000 in
set_option maxRecDepth 100000 in
/-- worthByValues(auction, strategy) -/
theorem c_X5_worthByValues (l : Launch) (hfl : l.stackTraces = false) (G : xG) (ad : Nat → Nat) (S : zS) (tp th : Nat) (g : Nat → Int) (wo : Nat → Int32) (z : Nat → Bool) (u9 p9 : Int32) (H : Heap) (hM : MX G ad S tp th g wo z H) (hW : zW S) : xMet l G yX5_worthByValues wsX5_worthByValues ({ frames := 6, cells := 0, slots := 0, locals := 145 } : Room) [.ref (ad 0), .int u9, .int p9] H (mPost G ad (kworth S u9 p9) (Int32.ofInt (zworth S u9.toNatClampNeg p9.toNatClampNeg)) S (S)) (xNo) := by
  refine vx_ofW (cc := cX5_worthByValues) (maxL := 3) (ret := (some .int)) (by decide) rfl ?_
  intro Pg Ev s m args below meth c s₁ B hml hout hv
  obtain ⟨rfl, hH, hC⟩ := hv
  have hx := B.exec
  have hb := B.bytes
  have hr := B.returns
  have hts := atoms_spec (ws := wsX5_worthByValues) B.pre
  have hown : s.vm.findClass RX5 = some m.cls := findClass_of_methodNamed B.named
  have hlocks := B.notSynchronized
  rw [hH]
  have hS : va_S (xA G) s.heap H [] := by rw [← hH]; exact va_S.rf
  generalize ([] : List Loc) = locs at hS ⊢
  have hl := lv_entry [.ref (ad 0), .int u9, .int p9] (n := 3) (Nat.le_of_ble_eq_true rfl)
  rw [lg_entry_eq]
  generalize (lg_sl [.ref (ad 0), .int u9, .int p9] ++ List.replicate (3 - (lg_sl [.ref (ad 0), .int u9, .int p9]).length) Slot.unset).toArray = ls at hl ⊢
  have hl : lv_has ls 3 [(0, .ref (ad 0)), (1, .int u9), (2, .int p9)] := hl
  obtain ⟨hO, hm0, hm1, hm2, hm3, hm4, hm5, hm6, hm7, hm8, hm9, hm10⟩ := id hM
  have hn20 := hW.1
  refine lv_aload_n hx hb dX5_worthByValues_0 rfl (lv_at hl 0 rfl) ?_
  refine lv_iload_n hx hb dX5_worthByValues_1 rfl (lv_at hl 1 rfl) ?_
  refine lv_iload_n hx hb dX5_worthByValues_2 rfl (lv_at hl 2 rfl) ?_
  have hsz := hS.1
  refine x_call (px := xNo) (vx_runV (As := [.int u9, .int p9]) (rest := []) ⟨hx, hb, hml, hown, hts⟩ (c_X5_worthIn l hfl G ad S tp th g wo z u9 p9 H ⟨hO, hm0, hm1, hm2, hm3, hm4, hm5, hm6, hm7, hm8, hm9, hm10⟩ hW) (cwV 2 hts gX5_worthByValues_X5_worthIn rfl rfl rfl (by decide +kernel) ⟨(Nat.le_of_ble_eq_true rfl), (Nat.le_of_ble_eq_true rfl)⟩) (xPreV hC hS hm0 (q := (RX5, TX5, 14)) rfl) rfl rfl hl.1 rfl (lv_room (Nat.le_of_ble_eq_true rfl)) dX5_worthByValues_3 ⟨(by first | exact Nat.le_of_ble_eq_true rfl | exact (show 0 + 0 ≤ 0 by omega)), (by first | exact Nat.le_of_ble_eq_true rfl | exact (show 0 + 0 ≤ 0 by omega))⟩) hS (fun _ h => h) (fun _ _ _ _ _ h => False.elim h) (fun v H_1 locs hp hz hk_2 hS => ?_)
  obtain ⟨r, rfl, hA9, tp2, g2, wo2, z2, hMM⟩ := hp
  exact x_iret (G := G) hx hb hr rfl dX5_worthByValues_6 hlocks hS (by first | exact Nat.le_of_ble_eq_true rfl | exact (show 0 ≤ 0 by omega)) (by first | exact Nat.le_of_ble_eq_true rfl | exact (show 0 ≤ 0 by omega)) ⟨r, rfl, hA9, tp2, g2, wo2, z2, hMM⟩

set_option maxHeartbeats 200000 in
set_option maxRecDepth 100000 in
/-- best(auction) -/
theorem c_X5_best (l : Launch) (hfl : l.stackTraces = false) (G : xG) (ad : Nat → Nat) (S : zS) (tp th : Nat) (g : Nat → Int) (wo : Nat → Int32) (z : Nat → Bool) (u9 : Int32) (H : Heap) (hM : MX G ad S tp th g wo z H) (hW : zW S) : xMet l G yX5_best wsX5_best ({ frames := 6, cells := 0, slots := 0, locals := 145 } : Room) [.ref (ad 0), .int u9] H (mPost G ad (kbest S u9) (xpar (zmost (zI S) (zworth S u9.toNatClampNeg) 0 (zN S))) S (S)) (xNo) := by
  refine vx_ofW (cc := cX5_best) (maxL := 2) (ret := (some .int)) (by decide) rfl ?_
  intro Pg Ev s m args below meth c s₁ B hml hout hv
  obtain ⟨rfl, hH, hC⟩ := hv
  have hx := B.exec
  have hb := B.bytes
  have hr := B.returns
  have hts := atoms_spec (ws := wsX5_best) B.pre
  have hown : s.vm.findClass RX5 = some m.cls := findClass_of_methodNamed B.named
  have hlocks := B.notSynchronized
  rw [hH]
  have hS : va_S (xA G) s.heap H [] := by rw [← hH]; exact va_S.rf
  generalize ([] : List Loc) = locs at hS ⊢
  have hl := lv_entry [.ref (ad 0), .int u9] (n := 2) (Nat.le_of_ble_eq_true rfl)
  rw [lg_entry_eq]
  generalize (lg_sl [.ref (ad 0), .int u9] ++ List.replicate (2 - (lg_sl [.ref (ad 0), .int u9]).length) Slot.unset).toArray = ls at hl ⊢
  have hl : lv_has ls 2 [(0, .ref (ad 0)), (1, .int u9)] := hl
  obtain ⟨hO, hm0, hm1, hm2, hm3, hm4, hm5, hm6, hm7, hm8, hm9, hm10⟩ := id hM
  have hn20 := hW.1
  refine lv_aload_n hx hb dX5_best_0 rfl (lv_at hl 0 rfl) ?_
  refine lv_iload_n hx hb dX5_best_1 rfl (lv_at hl 1 rfl) ?_
  refine x_intE (vx_runS (As := [.int u9]) (rest := [.ref (ad 0)]) ⟨hx, hb, hml, hown, hts⟩ (c_X5_isAuction l hfl G u9 H) (va_cwS 1 hts gX5_best_X5_isAuction rfl rfl rfl (by decide +kernel) ⟨(Nat.le_of_ble_eq_true rfl), (Nat.le_of_ble_eq_true rfl)⟩) (xPreS hC hS) rfl rfl hl.1 rfl (lv_room (Nat.le_of_ble_eq_true rfl)) dX5_best_2 ⟨(by first | exact Nat.le_of_ble_eq_true rfl | exact (show 0 + 0 ≤ 0 by omega)), (by first | exact Nat.le_of_ble_eq_true rfl | exact (show 0 + 0 ≤ 0 by omega))⟩) hS (fun locs hS => ?_)
  refine lv_if_eq (tgt := 12) hx hb dX5_best_5 (by decide) (fun c_1 => ?_) (fun c_1 => ?_)
  · have _ := hx
    have hk_u9 : xok u9 4 = false := xb_0.mp (by first | exact c_1 | exact Classical.not_not.mp c_1)
    refine lv_iconst (v := (nI 1)) hx hb dX5_best_12 (by decide) ?_
    have hsz := hS.1
    refine x_call (px := xNo) (vx_runV (As := [.int (nI 1)]) (rest := []) ⟨hx, hb, hml, hown, hts⟩ (c_X5_goesk l hfl G ad S tp th g wo z 1 H ⟨hO, hm0, hm1, hm2, hm3, hm4, hm5, hm6, hm7, hm8, hm9, hm10⟩ (by decide)) (cwV 1 hts gX5_best_X5_goes rfl rfl rfl (by decide +kernel) ⟨(Nat.le_of_ble_eq_true rfl), (Nat.le_of_ble_eq_true rfl)⟩) (xPreV hC hS hm0 (q := (RX5, TX5, 14)) rfl) rfl rfl hl.1 rfl (lv_room (Nat.le_of_ble_eq_true rfl)) dX5_best_13 ⟨(by first | exact Nat.le_of_ble_eq_true rfl | exact (show 0 + 0 ≤ 0 by omega)), (by first | exact Nat.le_of_ble_eq_true rfl | exact (show 0 + 0 ≤ 0 by omega))⟩) hS (fun _ h => h) (fun _ _ _ _ _ h => False.elim h) (fun v H_2 locs hp hz hk_3 hS => ?_)
    obtain ⟨rfl, hMM4⟩ := hp
    obtain ⟨-, hm0, hm1, hm2, hm3, hm4, hm5, hm6, hm7, hm8, hm9, hm10⟩ := id hMM4
    refine lv_if_ne (tgt := 21) hx hb dX5_best_16 (by decide) (fun c_5 => ?_) (fun c_5 => ?_)
    · have _ := hx
      have c_5 : ¬ (0 = 0) := fun z => c_5 ((nI_eq (a := 0) (b := 0) (by omega) (by omega)).mpr z)
      exact absurd c_5 (by decide)
    · have _ := hx
      have c_5 : 0 = 0 := (nI_eq (a := 0) (b := 0) (by omega) (by omega)).mp c_5
      refine lv_iconst (v := (nI 0)) hx hb dX5_best_19 (by decide) ?_
      exact x_iret (G := G) hx hb hr rfl dX5_best_20 hlocks hS (by first | exact Nat.le_of_ble_eq_true rfl | exact (show 0 ≤ 0 by omega)) (by first | exact Nat.le_of_ble_eq_true rfl | exact (show 0 ≤ 0 by omega)) (by exact mP1 0 (by unfold kbest; rw [hk_u9]; rfl) ⟨hO, hm0, hm1, hm2, hm3, hm4, hm5, hm6, hm7, hm8, hm9, hm10⟩)
  · have _ := hx
    obtain ⟨n9, hn9, rfl⟩ := xok_of (xb_1 (by first | exact c_1 | exact fun q => absurd q c_1)) (by omega)
    refine lv_iconst (v := (nI 0)) hx hb dX5_best_8 (by decide) ?_
    refine lv_goto (tgt := 13) hx hb dX5_best_9 (by decide) ?_
    have hsz := hS.1
    refine x_call (px := xNo) (vx_runV (As := [.int (nI 0)]) (rest := []) ⟨hx, hb, hml, hown, hts⟩ (c_X5_goes0 l hfl G ad S tp th g wo z 0 H ⟨hO, hm0, hm1, hm2, hm3, hm4, hm5, hm6, hm7, hm8, hm9, hm10⟩ rfl) (cwV 1 hts gX5_best_X5_goes rfl rfl rfl (by decide +kernel) ⟨(Nat.le_of_ble_eq_true rfl), (Nat.le_of_ble_eq_true rfl)⟩) (xPreV hC hS hm0 (q := (RX5, TX5, 14)) rfl) rfl rfl hl.1 rfl (lv_room (Nat.le_of_ble_eq_true rfl)) dX5_best_13 ⟨(by first | exact Nat.le_of_ble_eq_true rfl | exact (show 0 + 0 ≤ 0 by omega)), (by first | exact Nat.le_of_ble_eq_true rfl | exact (show 0 + 0 ≤ 0 by omega))⟩) hS (fun _ h => h) (fun _ _ _ _ _ h => False.elim h) (fun v H_6 locs hp hz hk_7 hS => ?_)
    obtain ⟨rfl, hMM8⟩ := hp
    obtain ⟨-, hm0, hm1, hm2, hm3, hm4, hm5, hm6, hm7, hm8, hm9, hm10⟩ := id hMM8
    refine lv_if_ne (tgt := 21) hx hb dX5_best_16 (by decide) (fun c_9 => ?_) (fun c_9 => ?_)
    · have _ := hx
      have c_9 : ¬ (1 = 0) := fun z => c_9 ((nI_eq (a := 1) (b := 0) (by omega) (by omega)).mpr z)
      refine lv_aload_n hx hb dX5_best_21 rfl (lv_at hl 0 rfl) ?_
      refine lv_iload_n hx hb dX5_best_22 rfl (lv_at hl 1 rfl) ?_
      have hsz := hS.1
      refine x_call (px := xNo) (vx_runV (As := [.int (nI n9)]) (rest := []) ⟨hx, hb, hml, hown, hts⟩ (c_X5_laysWorths l hfl G ad S tp 0 g wo z n9 H_6 ⟨hO, hm0, hm1, hm2, hm3, hm4, hm5, hm6, hm7, hm8, hm9, hm10⟩ hW (by omega)) (cwV 1 hts gX5_best_X5_laysWorths rfl rfl rfl (by decide +kernel) ⟨(Nat.le_of_ble_eq_true rfl), (Nat.le_of_ble_eq_true rfl)⟩) (xPreV hC hS hm0 (q := (RX5, TX5, 14)) rfl) rfl rfl hl.1 rfl (lv_room (Nat.le_of_ble_eq_true rfl)) dX5_best_23 ⟨(by first | exact Nat.le_of_ble_eq_true rfl | exact (show 0 + 0 ≤ 0 by omega)), (by first | exact Nat.le_of_ble_eq_true rfl | exact (show 0 + 0 ≤ 0 by omega))⟩) hS (fun _ h => h) (fun _ _ _ _ _ h => False.elim h) (fun v H_10 locs hp hz hk_11 hS => ?_)
      obtain ⟨rfl, tp12, g12, wo12, hMM12, hff12⟩ := hp
      obtain ⟨-, hm0, hm1, hm2, hm3, hm4, hm5, hm6, hm7, hm8, hm9, hm10⟩ := id hMM12
      refine lv_aload_n hx hb dX5_best_26 rfl (lv_at hl 0 rfl) ?_
      refine lv_iconst (v := xpar 0) hx hb dX5_best_27 (by decide) ?_
      refine x_intE (vx_runV (As := [.int (xpar 0)]) (rest := []) ⟨hx, hb, hml, hown, hts⟩ (c_X5_greatest l hfl G ad S tp12 0 g12 wo12 z 0 (zworth S n9) H_10 ⟨hO, hm0, hm1, hm2, hm3, hm4, hm5, hm6, hm7, hm8, hm9, hm10⟩ hW (fun j => by have := zworth_in hW n9 j; omega) hff12 (by omega)) (cwV 1 hts gX5_best_X5_greatest rfl rfl rfl (by decide +kernel) ⟨(Nat.le_of_ble_eq_true rfl), (Nat.le_of_ble_eq_true rfl)⟩) (xPreV hC hS hm0 (q := (RX5, TX5, 14)) rfl) rfl rfl hl.1 rfl (lv_room (Nat.le_of_ble_eq_true rfl)) dX5_best_28 ⟨(by first | exact Nat.le_of_ble_eq_true rfl | exact (show 0 + 0 ≤ 0 by omega)), (by first | exact Nat.le_of_ble_eq_true rfl | exact (show 0 + 0 ≤ 0 by omega))⟩) hS (fun locs hS => ?_)
      exact x_iret (G := G) hx hb hr rfl dX5_best_31 hlocks hS (by first | exact Nat.le_of_ble_eq_true rfl | exact (show 0 ≤ 0 by omega)) (by first | exact Nat.le_of_ble_eq_true rfl | exact (show 0 ≤ 0 by omega)) (by exact mP0 (by unfold kbest; rw [xok_nI hn9 (by decide)]; rfl) ⟨hO, hm0, hm1, hm2, hm3, hm4, hm5, hm6, hm7, hm8, hm9, hm10⟩ (by rw [nI_clamp (show n9 < 2 ^ 31 by omega)]))
    · have _ := hx
      have c_9 : 1 = 0 := (nI_eq (a := 1) (b := 0) (by omega) (by omega)).mp c_9
      exact absurd c_9 (by decide)

set_option maxHeartbeats 200000 in
set_option maxRecDepth 100000 in
/-- forbid(step) -/
theorem c_X5_forbid (l : Launch) (hfl : l.stackTraces = false) (G : xG) (ad : Nat → Nat) (S : zS) (tp th : Nat) (g : Nat → Int) (wo : Nat → Int32) (z : Nat → Bool) (p9 : Int32) (H : Heap) (hM : MX G ad S tp th g wo z H) (hW : zW S) : xMet l G yX5_forbid wsX5_forbid ({ frames := 2, cells := 0, slots := 0, locals := 42 } : Room) [.ref (ad 0), .int p9] H (mPost G ad (kval S p9) (nI (xct (fun j => zI S j && zline S p9.toNatClampNeg (j + 1) j) (zN S))) S (zforb S p9.toNatClampNeg (zN S))) (xNo) := by
  refine vx_ofW (cc := cX5_forbid) (maxL := 6) (ret := (some .int)) (by decide) rfl ?_
  intro Pg Ev s m args below meth c s₁ B hml hout hv
  obtain ⟨rfl, hH, hC⟩ := hv
  have hx := B.exec
  have hb := B.bytes
  have hr := B.returns
  have hts := atoms_spec (ws := wsX5_forbid) B.pre
  have hown : s.vm.findClass RX5 = some m.cls := findClass_of_methodNamed B.named
  have hlocks := B.notSynchronized
  rw [hH]
  have hS : va_S (xA G) s.heap H [] := by rw [← hH]; exact va_S.rf
  generalize ([] : List Loc) = locs at hS ⊢
  have hl := lv_entry [.ref (ad 0), .int p9] (n := 6) (Nat.le_of_ble_eq_true rfl)
  rw [lg_entry_eq]
  generalize (lg_sl [.ref (ad 0), .int p9] ++ List.replicate (6 - (lg_sl [.ref (ad 0), .int p9]).length) Slot.unset).toArray = ls at hl ⊢
  have hl : lv_has ls 6 [(0, .ref (ad 0)), (1, .int p9)] := hl
  obtain ⟨hO, hm0, hm1, hm2, hm3, hm4, hm5, hm6, hm7, hm8, hm9, hm10⟩ := id hM
  have hn20 := hW.1
  refine lv_aload_n hx hb dX5_forbid_0 rfl (lv_at hl 0 rfl) ?_
  refine lv_iload_n hx hb dX5_forbid_1 rfl (lv_at hl 1 rfl) ?_
  refine x_intE (vx_runS (As := [.int p9]) (rest := [.ref (ad 0)]) ⟨hx, hb, hml, hown, hts⟩ (c_X5_isStep l hfl G p9 H) (va_cwS 1 hts gX5_forbid_X5_isStep rfl rfl rfl (by decide +kernel) ⟨(Nat.le_of_ble_eq_true rfl), (Nat.le_of_ble_eq_true rfl)⟩) (xPreS hC hS) rfl rfl hl.1 rfl (lv_room (Nat.le_of_ble_eq_true rfl)) dX5_forbid_2 ⟨(by first | exact Nat.le_of_ble_eq_true rfl | exact (show 0 + 0 ≤ 0 by omega)), (by first | exact Nat.le_of_ble_eq_true rfl | exact (show 0 + 0 ≤ 0 by omega))⟩) hS (fun locs hS => ?_)
  refine lv_if_eq (tgt := 12) hx hb dX5_forbid_5 (by decide) (fun c_1 => ?_) (fun c_1 => ?_)
  · have _ := hx
    have hk_p9 : xok p9 17 = false := xb_0.mp (by first | exact c_1 | exact Classical.not_not.mp c_1)
    refine lv_iconst (v := (nI 1)) hx hb dX5_forbid_12 (by decide) ?_
    have hsz := hS.1
    refine x_call (px := xNo) (vx_runV (As := [.int (nI 1)]) (rest := []) ⟨hx, hb, hml, hown, hts⟩ (c_X5_goesk l hfl G ad S tp th g wo z 1 H ⟨hO, hm0, hm1, hm2, hm3, hm4, hm5, hm6, hm7, hm8, hm9, hm10⟩ (by decide)) (cwV 1 hts gX5_forbid_X5_goes rfl rfl rfl (by decide +kernel) ⟨(Nat.le_of_ble_eq_true rfl), (Nat.le_of_ble_eq_true rfl)⟩) (xPreV hC hS hm0 (q := (RX5, TX5, 14)) rfl) rfl rfl hl.1 rfl (lv_room (Nat.le_of_ble_eq_true rfl)) dX5_forbid_13 ⟨(by first | exact Nat.le_of_ble_eq_true rfl | exact (show 0 + 0 ≤ 0 by omega)), (by first | exact Nat.le_of_ble_eq_true rfl | exact (show 0 + 0 ≤ 0 by omega))⟩) hS (fun _ h => h) (fun _ _ _ _ _ h => False.elim h) (fun v H_2 locs hp hz hk_3 hS => ?_)
    obtain ⟨rfl, hMM4⟩ := hp
    obtain ⟨-, hm0, hm1, hm2, hm3, hm4, hm5, hm6, hm7, hm8, hm9, hm10⟩ := id hMM4
    refine lv_if_ne (tgt := 21) hx hb dX5_forbid_16 (by decide) (fun c_5 => ?_) (fun c_5 => ?_)
    · have _ := hx
      have c_5 : ¬ (0 = 0) := fun z => c_5 ((nI_eq (a := 0) (b := 0) (by omega) (by omega)).mpr z)
      exact absurd c_5 (by decide)
    · have _ := hx
      have c_5 : 0 = 0 := (nI_eq (a := 0) (b := 0) (by omega) (by omega)).mp c_5
      refine lv_iconst (v := (nI 0)) hx hb dX5_forbid_19 (by decide) ?_
      exact x_iret (G := G) hx hb hr rfl dX5_forbid_20 hlocks hS (by first | exact Nat.le_of_ble_eq_true rfl | exact (show 0 ≤ 0 by omega)) (by first | exact Nat.le_of_ble_eq_true rfl | exact (show 0 ≤ 0 by omega)) (by exact mP1 0 (kval_0 S hk_p9) ⟨hO, hm0, hm1, hm2, hm3, hm4, hm5, hm6, hm7, hm8, hm9, hm10⟩)
  · have _ := hx
    obtain ⟨s9, hs9, rfl⟩ := xok_of (xb_1 (by first | exact c_1 | exact fun q => absurd q c_1)) (by omega)
    refine lv_iconst (v := (nI 0)) hx hb dX5_forbid_8 (by decide) ?_
    refine lv_goto (tgt := 13) hx hb dX5_forbid_9 (by decide) ?_
    have hsz := hS.1
    refine x_call (px := xNo) (vx_runV (As := [.int (nI 0)]) (rest := []) ⟨hx, hb, hml, hown, hts⟩ (c_X5_goes0 l hfl G ad S tp th g wo z 0 H ⟨hO, hm0, hm1, hm2, hm3, hm4, hm5, hm6, hm7, hm8, hm9, hm10⟩ rfl) (cwV 1 hts gX5_forbid_X5_goes rfl rfl rfl (by decide +kernel) ⟨(Nat.le_of_ble_eq_true rfl), (Nat.le_of_ble_eq_true rfl)⟩) (xPreV hC hS hm0 (q := (RX5, TX5, 14)) rfl) rfl rfl hl.1 rfl (lv_room (Nat.le_of_ble_eq_true rfl)) dX5_forbid_13 ⟨(by first | exact Nat.le_of_ble_eq_true rfl | exact (show 0 + 0 ≤ 0 by omega)), (by first | exact Nat.le_of_ble_eq_true rfl | exact (show 0 + 0 ≤ 0 by omega))⟩) hS (fun _ h => h) (fun _ _ _ _ _ h => False.elim h) (fun v H_6 locs hp hz hk_7 hS => ?_)
    obtain ⟨rfl, hMM8⟩ := hp
    obtain ⟨-, hm0, hm1, hm2, hm3, hm4, hm5, hm6, hm7, hm8, hm9, hm10⟩ := id hMM8
    refine lv_if_ne (tgt := 21) hx hb dX5_forbid_16 (by decide) (fun c_9 => ?_) (fun c_9 => ?_)
    · have _ := hx
      have c_9 : ¬ (1 = 0) := fun z => c_9 ((nI_eq (a := 1) (b := 0) (by omega) (by omega)).mpr z)
      refine lv_aload_n hx hb dX5_forbid_21 rfl (lv_at hl 0 rfl) ?_
      refine va_get (D := xD G) (ci := 6) (v := .ref (ad 5)) (C := RX5) (T := TX5) (N := 14) hx hb hts (by decide +kernel) hown hC.1 (x1 hm0) 0 rfl rfl 5 (by decide) (hts (.fieldLink RX5 23 "BidwhistleModel" "isForbidden" "[Z") (by decide +kernel)) (fun _ h9 => h9) rfl dX5_forbid_22 ?_
      refine lv_iload_n hx hb dX5_forbid_25 rfl (lv_at hl 1 rfl) ?_
      refine lv_iconst (v := (nI 1)) hx hb dX5_forbid_26 (by decide) ?_
      refine x_zastn (G := G) (j := s9) hx hb hC hS (hO.2 5 (by omega) (by omega)) hm5 (by omega) (by first | decide | omega) (by rfl) dX5_forbid_27 (fun H_11 locs hm5 hc_10 hS => ?_)
      have hm0 := hc_10.at hm0 (xn1 (hO.ne (i := 0) (j := 5) (by omega) (by omega) (by omega)))
      have hm1 := hc_10.at hm1 (xn1 (hO.ne (i := 1) (j := 5) (by omega) (by omega) (by omega)))
      have hm2 := hc_10.at hm2 (xn1 (hO.ne (i := 2) (j := 5) (by omega) (by omega) (by omega)))
      have hm3 := hc_10.at hm3 (xn1 (hO.ne (i := 3) (j := 5) (by omega) (by omega) (by omega)))
      have hm4 := hc_10.at hm4 (xn1 (hO.ne (i := 4) (j := 5) (by omega) (by omega) (by omega)))
      have hm6 := hc_10.at hm6 (xn1 (hO.ne (i := 6) (j := 5) (by omega) (by omega) (by omega)))
      have hm7 := hc_10.at hm7 (xn1 (hO.ne (i := 7) (j := 5) (by omega) (by omega) (by omega)))
      have hm8 := hc_10.at hm8 (xn1 (hO.ne (i := 8) (j := 5) (by omega) (by omega) (by omega)))
      have hm9 := hc_10.at hm9 (xn1 (hO.ne (i := 9) (j := 5) (by omega) (by omega) (by omega)))
      have hm10 := hc_10.at hm10 (xn1 (hO.ne (i := 10) (j := 5) (by omega) (by omega) (by omega)))
      have hm5 : zA G (ad 5) 17 (fun j => xb (va_up (zF S) s9 true j)) H_11 := by rw [← mup_b]; exact hm5
      refine lv_iconst (v := (nI 0)) hx hb dX5_forbid_28 (by decide) ?_
      refine lv_istore_n (lv' := [(2, .int (nI 0)), (0, .ref (ad 0)), (1, .int (nI s9))]) hx hb dX5_forbid_29 rfl hl (by decide) rfl (fun ls hl => ?_)
      refine lv_iconst (v := (nI 0)) hx hb dX5_forbid_30 (by decide) ?_
      refine lv_istore_n (lv' := [(3, .int (nI 0)), (2, .int (nI 0)), (0, .ref (ad 0)), (1, .int (nI s9))]) hx hb dX5_forbid_31 rfl hl (by decide) rfl (fun ls hl => ?_)
      have L : ∀ (kL : Nat) (i : Nat) (e9 : Nat) (z8 : Nat → Bool), (i ≤ zN S) → (e9 = xct (fun j => zI S j && zline S s9 (j + 1) j) i) → (∀ j, j < i → z8 j = zline S s9 (j + 1) j) → zN S - i < kL → ∀ (HL : Heap), (MX G ad (zforb S s9 i) tp 0 g wo z8 HL) → ∀ (locs : List Loc), va_S (xA G) s.heap HL locs → ∀ ls : Array Slot, lv_has ls 6 [(0, .ref (ad 0)), (1, .int (nI s9)), (2, .int (nI e9)), (3, .int (nI i))] → W Pg l Ev (headSpec wsX5_forbid ({ frames := 2, cells := 0, slots := 0, locals := 42 } : Room)).room s m ([.ref (ad 0), .int (nI s9)] : List Value).toArray below meth c HL locs (0) (0) (vx_MQ below (xQ G (mPost G ad (kval S (nI s9)) (nI (xct (fun j => zI S j && zline S (nI s9).toNatClampNeg (j + 1) j) (zN S))) S (zforb S (nI s9).toNatClampNeg (zN S)))) (xX G (xNo)) ([.ref (ad 0), .int (nI s9)] : List Value).toArray s ({ frames := 2, cells := 0, slots := 0, locals := 42 } : Room).cells ({ frames := 2, cells := 0, slots := 0, locals := 42 } : Room).slots (xA G)) (F0 m 32 ls []) := by
        intro kL
        induction kL with
        | zero => intro i e9 z8 hi he9 hz8 hk; exact absurd hk (Nat.not_lt_zero _)
        | succ kL ihL =>
          intro i e9 z8 hi he9 hz8 hk HL hM8 locs hS ls hl
          obtain ⟨-, hm0, hm1, hm2, hm3, hm4, hm5, hm6, hm7, hm8, hm9, hm10⟩ := (show MY G ad (zN S) (zK S) (zP S) (zL S) (zU S) (zV S) (zI (zforb S s9 i)) (va_up (zF S) s9 true) (zO S) (zT S) tp 0 g wo z8 HL from (MX_Y (S := (zforb S s9 i))).mp hM8)
          have hW8 : zW (zforb S s9 i) := hW.forb
          refine lv_iload_n hx hb dX5_forbid_32 rfl (lv_at hl 3 rfl) ?_
          refine lv_aload_n hx hb dX5_forbid_33 rfl (lv_at hl 0 rfl) ?_
          refine va_get (D := xD G) (ci := 6) (v := .int (nI (zN S))) (C := RX5) (T := TX5) (N := 14) hx hb hts (by decide +kernel) hown hC.1 (x1 hm0) 0 rfl rfl 2 (by decide) (hts (.fieldLink RX5 45 "BidwhistleModel" "stored" "I") (by decide +kernel)) (fun _ h9 => h9) rfl dX5_forbid_34 ?_
          refine lv_icmp_ge (tgt := 175) hx hb dX5_forbid_37 (by decide) (fun c_12 => ?_) (fun c_12 => ?_)
          · have _ := hx
            have c_12 : (zN S) ≤ i := (nI_leI (a := (zN S)) (b := i) (by omega) (by omega)).mp c_12
            refine lv_iload_n hx hb dX5_forbid_175 rfl (lv_at hl 2 rfl) ?_
            exact x_iret (G := G) hx hb hr rfl dX5_forbid_176 hlocks hS (by first | exact Nat.le_of_ble_eq_true rfl | exact (show 0 ≤ 0 by omega)) (by first | exact Nat.le_of_ble_eq_true rfl | exact (show 0 ≤ 0 by omega)) (by exact mP0 (kval_j S hs9) (by rw [nI_clamp (show s9 < 2 ^ 31 by omega)]; have h9 := hM8; rw [show i = zN S by omega] at h9; exact h9) (by rw [nI_clamp (show s9 < 2 ^ 31 by omega), he9, show i = zN S by omega]))
          · have _ := hx
            have c_12 : ¬ ((zN S) ≤ i) := fun z => c_12 ((nI_leI (a := (zN S)) (b := i) (by omega) (by omega)).mpr z)
            have hUi := hW.2.2.2.2.1 i (by omega)
            refine lv_aload_n hx hb dX5_forbid_40 rfl (lv_at hl 0 rfl) ?_
            refine va_get (D := xD G) (ci := 6) (v := .ref (ad 3)) (C := RX5) (T := TX5) (N := 14) hx hb hts (by decide +kernel) hown hC.1 (x1 hm0) 0 rfl rfl 3 (by decide) (hts (.fieldLink RX5 16 "BidwhistleModel" "parents" "[I") (by decide +kernel)) (fun _ h9 => h9) rfl dX5_forbid_41 ?_
            refine lv_iconst (v := (nI 2)) hx hb dX5_forbid_44 (by decide) ?_
            refine lv_iload_n hx hb dX5_forbid_45 rfl (lv_at hl 3 rfl) ?_
            refine x_imuln (a := 2) (b := i) hx hb dX5_forbid_46 ?_
            refine x_iald (G := G) (j := (2 * i)) hx hb hC hm3 (by omega) (by first | decide | omega) dX5_forbid_47 ?_
            rw [mpa_0 (i := i)]
            refine lv_istore (lv' := [(4, .int (xpar (zU S i))), (0, .ref (ad 0)), (1, .int (nI s9)), (2, .int (nI e9)), (3, .int (nI i))]) hx hb dX5_forbid_48 hl (by decide) rfl (fun ls hl => ?_)
            refine lv_aload_n hx hb dX5_forbid_50 rfl (lv_at hl 1 rfl) ?_
            refine va_get (D := xD G) (ci := 6) (v := .ref (ad 3)) (C := RX5) (T := TX5) (N := 14) hx hb hts (by decide +kernel) hown hC.1 (x1 hm0) 0 rfl rfl 3 (by decide) (hts (.fieldLink RX5 16 "BidwhistleModel" "parents" "[I") (by decide +kernel)) (fun _ h9 => h9) rfl dX5_forbid_51 ?_
            refine lv_iconst (v := (nI 2)) hx hb dX5_forbid_54 (by decide) ?_
            refine lv_iload_n hx hb dX5_forbid_55 rfl (lv_at hl 4 rfl) ?_
            refine x_imuln (a := 2) (b := i) hx hb dX5_forbid_56 ?_
            refine lv_iconst (v := (nI 1)) hx hb dX5_forbid_57 (by decide) ?_
            refine x_iaddn (a := (2 * i)) (b := 1) hx hb dX5_forbid_58 ?_
            refine x_iald (G := G) (j := (((2 * i)) + 1)) hx hb hC hm3 (by omega) (by first | decide | omega) dX5_forbid_59 ?_
            rw [mpa_1 (i := i)]
            refine lv_istore (lv' := [(5, .int (xpar (zV S i))), (4, .int (xpar (zU S i))), (0, .ref (ad 0)), (1, .int (nI s9)), (2, .int (nI e9)), (3, .int (nI i))]) hx hb dX5_forbid_60 hl (by decide) rfl (fun ls hl => ?_)
            have J113 : ∀ (b9 : Bool), (b9 = zline S s9 (i + 1) i) → ∀ (locs : List Loc), va_S (xA G) s.heap HL locs → ∀ ls : Array Slot, lv_has ls 6 [(5, .int (xpar (zV S i))), (4, .int (xpar (zU S i))), (0, .ref (ad 0)), (1, .int (nI s9)), (2, .int (nI e9)), (3, .int (nI i))] → W Pg l Ev (headSpec wsX5_forbid ({ frames := 2, cells := 0, slots := 0, locals := 42 } : Room)).room s m ([.ref (ad 0), .int (nI s9)] : List Value).toArray below meth c HL locs (0) (0) (vx_MQ below (xQ G (mPost G ad (kval S (nI s9)) (nI (xct (fun j => zI S j && zline S (nI s9).toNatClampNeg (j + 1) j) (zN S))) S (zforb S (nI s9).toNatClampNeg (zN S)))) (xX G (xNo)) ([.ref (ad 0), .int (nI s9)] : List Value).toArray s ({ frames := 2, cells := 0, slots := 0, locals := 42 } : Room).cells ({ frames := 2, cells := 0, slots := 0, locals := 42 } : Room).slots (xA G)) (F0 m 113 ls [.int (xb b9), .int (nI i), .ref (ad 10)]) := by
              intro b9 hb9 locs hS ls hl
              refine x_zastn (G := G) (j := i) hx hb hC hS (hO.2 10 (by omega) (by omega)) hm10 (by omega) (by first | decide | omega) (xb_nar _) dX5_forbid_113 (fun H_14 locs hm10 hc_13 hS => ?_)
              have hm0 := hc_13.at hm0 (xn1 (hO.ne (i := 0) (j := 10) (by omega) (by omega) (by omega)))
              have hm1 := hc_13.at hm1 (xn1 (hO.ne (i := 1) (j := 10) (by omega) (by omega) (by omega)))
              have hm2 := hc_13.at hm2 (xn1 (hO.ne (i := 2) (j := 10) (by omega) (by omega) (by omega)))
              have hm3 := hc_13.at hm3 (xn1 (hO.ne (i := 3) (j := 10) (by omega) (by omega) (by omega)))
              have hm4 := hc_13.at hm4 (xn1 (hO.ne (i := 4) (j := 10) (by omega) (by omega) (by omega)))
              have hm5 := hc_13.at hm5 (xn1 (hO.ne (i := 5) (j := 10) (by omega) (by omega) (by omega)))
              have hm6 := hc_13.at hm6 (xn1 (hO.ne (i := 6) (j := 10) (by omega) (by omega) (by omega)))
              have hm7 := hc_13.at hm7 (xn1 (hO.ne (i := 7) (j := 10) (by omega) (by omega) (by omega)))
              have hm8 := hc_13.at hm8 (xn1 (hO.ne (i := 8) (j := 10) (by omega) (by omega) (by omega)))
              have hm9 := hc_13.at hm9 (xn1 (hO.ne (i := 9) (j := 10) (by omega) (by omega) (by omega)))
              have hbz := hb9
              have hm10 : zA G (ad 10) 20 (fun j => xb (va_up z8 i b9 j)) H_14 := by rw [← mup_b]; exact hm10
              have J138 : ∀ (k9 : Nat), (k9 = if (zI S i && b9) = true then 1 else 0) → ∀ (locs : List Loc), va_S (xA G) s.heap H_14 locs → ∀ ls : Array Slot, lv_has ls 6 [(5, .int (xpar (zV S i))), (4, .int (xpar (zU S i))), (0, .ref (ad 0)), (1, .int (nI s9)), (2, .int (nI e9)), (3, .int (nI i))] → W Pg l Ev (headSpec wsX5_forbid ({ frames := 2, cells := 0, slots := 0, locals := 42 } : Room)).room s m ([.ref (ad 0), .int (nI s9)] : List Value).toArray below meth c H_14 locs (0) (0) (vx_MQ below (xQ G (mPost G ad (kval S (nI s9)) (nI (xct (fun j => zI S j && zline S (nI s9).toNatClampNeg (j + 1) j) (zN S))) S (zforb S (nI s9).toNatClampNeg (zN S)))) (xX G (xNo)) ([.ref (ad 0), .int (nI s9)] : List Value).toArray s ({ frames := 2, cells := 0, slots := 0, locals := 42 } : Room).cells ({ frames := 2, cells := 0, slots := 0, locals := 42 } : Room).slots (xA G)) (F0 m 138 ls [.int (nI k9), .int (nI e9)]) := by
                intro k9 hk9 locs hS ls hl
                refine x_iaddn (a := e9) (b := k9) hx hb dX5_forbid_138 ?_
                refine lv_istore_n (lv' := [(2, .int (nI (e9 + k9))), (5, .int (xpar (zV S i))), (4, .int (xpar (zU S i))), (0, .ref (ad 0)), (1, .int (nI s9)), (3, .int (nI i))]) hx hb dX5_forbid_139 rfl hl (by decide) rfl (fun ls hl => ?_)
                have J168 : ∀ (d9 : Bool), (d9 = (zI S i && !b9)) → ∀ (locs : List Loc), va_S (xA G) s.heap H_14 locs → ∀ ls : Array Slot, lv_has ls 6 [(2, .int (nI (e9 + k9))), (5, .int (xpar (zV S i))), (4, .int (xpar (zU S i))), (0, .ref (ad 0)), (1, .int (nI s9)), (3, .int (nI i))] → W Pg l Ev (headSpec wsX5_forbid ({ frames := 2, cells := 0, slots := 0, locals := 42 } : Room)).room s m ([.ref (ad 0), .int (nI s9)] : List Value).toArray below meth c H_14 locs (0) (0) (vx_MQ below (xQ G (mPost G ad (kval S (nI s9)) (nI (xct (fun j => zI S j && zline S (nI s9).toNatClampNeg (j + 1) j) (zN S))) S (zforb S (nI s9).toNatClampNeg (zN S)))) (xX G (xNo)) ([.ref (ad 0), .int (nI s9)] : List Value).toArray s ({ frames := 2, cells := 0, slots := 0, locals := 42 } : Room).cells ({ frames := 2, cells := 0, slots := 0, locals := 42 } : Room).slots (xA G)) (F0 m 168 ls [.int (xb d9), .int (nI i), .ref (ad 4)]) := by
                  intro d9 hd9 locs hS ls hl
                  refine x_zastn (G := G) (j := i) hx hb hC hS (hO.2 4 (by omega) (by omega)) hm4 (by omega) (by first | decide | omega) (xb_nar _) dX5_forbid_168 (fun H_16 locs hm4 hc_15 hS => ?_)
                  have hm0 := hc_15.at hm0 (xn1 (hO.ne (i := 0) (j := 4) (by omega) (by omega) (by omega)))
                  have hm1 := hc_15.at hm1 (xn1 (hO.ne (i := 1) (j := 4) (by omega) (by omega) (by omega)))
                  have hm2 := hc_15.at hm2 (xn1 (hO.ne (i := 2) (j := 4) (by omega) (by omega) (by omega)))
                  have hm3 := hc_15.at hm3 (xn1 (hO.ne (i := 3) (j := 4) (by omega) (by omega) (by omega)))
                  have hm5 := hc_15.at hm5 (xn1 (hO.ne (i := 5) (j := 4) (by omega) (by omega) (by omega)))
                  have hm6 := hc_15.at hm6 (xn1 (hO.ne (i := 6) (j := 4) (by omega) (by omega) (by omega)))
                  have hm7 := hc_15.at hm7 (xn1 (hO.ne (i := 7) (j := 4) (by omega) (by omega) (by omega)))
                  have hm8 := hc_15.at hm8 (xn1 (hO.ne (i := 8) (j := 4) (by omega) (by omega) (by omega)))
                  have hm9 := hc_15.at hm9 (xn1 (hO.ne (i := 9) (j := 4) (by omega) (by omega) (by omega)))
                  have hm10 := hc_15.at hm10 (xn1 (hO.ne (i := 10) (j := 4) (by omega) (by omega) (by omega)))
                  have hm4 : zA G (ad 4) 20 (fun j => xb (zI (zforb S s9 (i + 1)) j)) H_16 := by rw [← mfor_up (b := d9) (by rw [hd9, hb9]), ← mup_b]; exact hm4
                  refine lv_iinc (v := (nI (i + 1))) (lv' := [(3, .int (nI (i + 1))), (2, .int (nI (e9 + k9))), (5, .int (xpar (zV S i))), (4, .int (xpar (zU S i))), (0, .ref (ad 0)), (1, .int (nI s9))]) hx hb dX5_forbid_169 hl (k := 5) rfl (xinc (by decide)) (by decide) rfl (fun ls hl => ?_)
                  refine lv_goto (tgt := 32) hx hb dX5_forbid_172 (by decide) ?_
                  exact ihL (i + 1) (e9 + k9) (va_up z8 i b9) (by omega) (by rw [he9, hk9, hb9]; rfl) (fun j hj => by by_cases q : j = i; (rw [q, va_up_self]; exact hb9); (rw [va_up_ne _ _ q]; exact hz8 j (by omega))) (by omega) H_16 (MX_Y.mpr (show MY G ad (zN S) (zK S) (zP S) (zL S) (zU S) (zV S) (zI (zforb S s9 (i + 1))) (va_up (zF S) s9 true) (zO S) (zT S) tp 0 g wo ((va_up z8 i b9)) H_16 from ⟨hO, hm0, hm1, hm2, hm3, hm4, hm5, hm6, hm7, hm8, hm9, hm10⟩)) _ hS ls (lv_sub hl [4, 5, 1, 0] rfl)
                refine lv_aload_n hx hb dX5_forbid_140 rfl (lv_at hl 3 rfl) ?_
                refine va_get (D := xD G) (ci := 6) (v := .ref (ad 4)) (C := RX5) (T := TX5) (N := 14) hx hb hts (by decide +kernel) hown hC.1 (x1 hm0) 0 rfl rfl 4 (by decide) (hts (.fieldLink RX5 19 "BidwhistleModel" "isIn" "[Z") (by decide +kernel)) (fun _ h9 => h9) rfl dX5_forbid_141 ?_
                refine lv_iload_n hx hb dX5_forbid_144 rfl (lv_at hl 5 rfl) ?_
                refine lv_aload_n hx hb dX5_forbid_145 rfl (lv_at hl 3 rfl) ?_
                refine va_get (D := xD G) (ci := 6) (v := .ref (ad 4)) (C := RX5) (T := TX5) (N := 14) hx hb hts (by decide +kernel) hown hC.1 (x1 hm0) 0 rfl rfl 4 (by decide) (hts (.fieldLink RX5 19 "BidwhistleModel" "isIn" "[Z") (by decide +kernel)) (fun _ h9 => h9) rfl dX5_forbid_146 ?_
                refine lv_iload_n hx hb dX5_forbid_149 rfl (lv_at hl 5 rfl) ?_
                refine x_zald (G := G) (j := i) hx hb hC hm4 (by omega) (by first | decide | omega) dX5_forbid_150 ?_
                rw [mfor_at]
                refine lv_if_eq (tgt := 167) hx hb dX5_forbid_151 (by decide) (fun c_17 => ?_) (fun c_17 => ?_)
                · have _ := hx
                  refine lv_iconst (v := (nI 0)) hx hb dX5_forbid_167 (by decide) ?_
                  exact J168 (false) (by rw [xb_0.mp c_17]; rfl) _ hS ls (lv_sub hl [0, 1, 2, 3, 4, 5] rfl)
                · have _ := hx
                  refine lv_aload_n hx hb dX5_forbid_154 rfl (lv_at hl 3 rfl) ?_
                  refine va_get (D := xD G) (ci := 6) (v := .ref (ad 10)) (C := RX5) (T := TX5) (N := 14) hx hb hts (by decide +kernel) hown hC.1 (x1 hm0) 0 rfl rfl 12 (by decide) (hts (.fieldLink RX5 38 "BidwhistleModel" "isOfLine" "[Z") (by decide +kernel)) (fun _ h9 => h9) rfl dX5_forbid_155 ?_
                  refine lv_iload_n hx hb dX5_forbid_158 rfl (lv_at hl 5 rfl) ?_
                  refine x_zald (G := G) (j := i) hx hb hC hm10 (by omega) (by first | decide | omega) dX5_forbid_159 ?_
                  rw [va_up_self z8 i b9]
                  refine lv_if_ne (tgt := 167) hx hb dX5_forbid_160 (by decide) (fun c_18 => ?_) (fun c_18 => ?_)
                  · have _ := hx
                    refine lv_iconst (v := (nI 0)) hx hb dX5_forbid_167 (by decide) ?_
                    exact J168 (false) (by rw [xb_1 c_18]; simp) _ hS ls (lv_sub hl [0, 1, 2, 3, 4, 5] rfl)
                  · have _ := hx
                    refine lv_iconst (v := (nI 1)) hx hb dX5_forbid_163 (by decide) ?_
                    refine lv_goto (tgt := 168) hx hb dX5_forbid_164 (by decide) ?_
                    exact J168 (true) (by rw [xb_1 c_17, xb_0.mp c_18]; rfl) _ hS ls (lv_sub hl [0, 1, 2, 3, 4, 5] rfl)
              refine lv_iload_n hx hb dX5_forbid_114 rfl (lv_at hl 4 rfl) ?_
              refine lv_aload_n hx hb dX5_forbid_115 rfl (lv_at hl 2 rfl) ?_
              refine va_get (D := xD G) (ci := 6) (v := .ref (ad 10)) (C := RX5) (T := TX5) (N := 14) hx hb hts (by decide +kernel) hown hC.1 (x1 hm0) 0 rfl rfl 12 (by decide) (hts (.fieldLink RX5 38 "BidwhistleModel" "isOfLine" "[Z") (by decide +kernel)) (fun _ h9 => h9) rfl dX5_forbid_116 ?_
              refine lv_iload_n hx hb dX5_forbid_119 rfl (lv_at hl 5 rfl) ?_
              refine x_zald (G := G) (j := i) hx hb hC hm10 (by omega) (by first | decide | omega) dX5_forbid_120 ?_
              rw [va_up_self z8 i b9]
              refine lv_if_eq (tgt := 137) hx hb dX5_forbid_121 (by decide) (fun c_19 => ?_) (fun c_19 => ?_)
              · have _ := hx
                refine lv_iconst (v := (nI 0)) hx hb dX5_forbid_137 (by decide) ?_
                exact J138 (0) (by rw [xb_0.mp c_19, Bool.and_false]; rfl) _ hS ls (lv_sub hl [0, 1, 2, 3, 4, 5] rfl)
              · have _ := hx
                refine lv_aload_n hx hb dX5_forbid_124 rfl (lv_at hl 2 rfl) ?_
                refine va_get (D := xD G) (ci := 6) (v := .ref (ad 4)) (C := RX5) (T := TX5) (N := 14) hx hb hts (by decide +kernel) hown hC.1 (x1 hm0) 0 rfl rfl 4 (by decide) (hts (.fieldLink RX5 19 "BidwhistleModel" "isIn" "[Z") (by decide +kernel)) (fun _ h9 => h9) rfl dX5_forbid_125 ?_
                refine lv_iload_n hx hb dX5_forbid_128 rfl (lv_at hl 5 rfl) ?_
                refine x_zald (G := G) (j := i) hx hb hC hm4 (by omega) (by first | decide | omega) dX5_forbid_129 ?_
                rw [mfor_at]
                refine lv_if_eq (tgt := 137) hx hb dX5_forbid_130 (by decide) (fun c_20 => ?_) (fun c_20 => ?_)
                · have _ := hx
                  refine lv_iconst (v := (nI 0)) hx hb dX5_forbid_137 (by decide) ?_
                  exact J138 (0) (by rw [xb_0.mp c_20]; rfl) _ hS ls (lv_sub hl [0, 1, 2, 3, 4, 5] rfl)
                · have _ := hx
                  refine lv_iconst (v := (nI 1)) hx hb dX5_forbid_133 (by decide) ?_
                  refine lv_goto (tgt := 138) hx hb dX5_forbid_134 (by decide) ?_
                  exact J138 (1) (by rw [xb_1 c_20, xb_1 c_19]; rfl) _ hS ls (lv_sub hl [0, 1, 2, 3, 4, 5] rfl)
            refine lv_aload_n hx hb dX5_forbid_62 rfl (lv_at hl 2 rfl) ?_
            refine va_get (D := xD G) (ci := 6) (v := .ref (ad 10)) (C := RX5) (T := TX5) (N := 14) hx hb hts (by decide +kernel) hown hC.1 (x1 hm0) 0 rfl rfl 12 (by decide) (hts (.fieldLink RX5 38 "BidwhistleModel" "isOfLine" "[Z") (by decide +kernel)) (fun _ h9 => h9) rfl dX5_forbid_63 ?_
            refine lv_iload_n hx hb dX5_forbid_66 rfl (lv_at hl 5 rfl) ?_
            refine lv_aload_n hx hb dX5_forbid_67 rfl (lv_at hl 2 rfl) ?_
            refine lv_iload_n hx hb dX5_forbid_68 rfl (lv_at hl 5 rfl) ?_
            refine lv_iload_n hx hb dX5_forbid_69 rfl (lv_at hl 3 rfl) ?_
            refine x_intE (vx_runV (As := [.int (nI i), .int (nI s9)]) (rest := [.int (nI i), .ref (ad 10)]) ⟨hx, hb, hml, hown, hts⟩ (c_X5_hasStep l hfl G ad ((zforb S s9 i)) tp 0 g wo z8 i s9 HL (MX_Y.mpr (show MY G ad (zN S) (zK S) (zP S) (zL S) (zU S) (zV S) (zI (zforb S s9 i)) (va_up (zF S) s9 true) (zO S) (zT S) tp 0 g wo z8 HL from ⟨hO, hm0, hm1, hm2, hm3, hm4, hm5, hm6, hm7, hm8, hm9, hm10⟩)) hW8 (by omega) (by omega)) (cwV 2 hts gX5_forbid_X5_hasStep rfl rfl rfl (by decide +kernel) ⟨(Nat.le_of_ble_eq_true rfl), (Nat.le_of_ble_eq_true rfl)⟩) (xPreV hC hS hm0 (q := (RX5, TX5, 14)) rfl) rfl rfl hl.1 rfl (lv_room (Nat.le_of_ble_eq_true rfl)) dX5_forbid_70 ⟨(by first | exact Nat.le_of_ble_eq_true rfl | exact (show 0 + 0 ≤ 0 by omega)), (by first | exact Nat.le_of_ble_eq_true rfl | exact (show 0 + 0 ≤ 0 by omega))⟩) hS (fun locs hS => ?_)
            refine lv_if_ne (tgt := 108) hx hb dX5_forbid_73 (by decide) (fun c_21 => ?_) (fun c_21 => ?_)
            · have _ := hx
              refine lv_iconst (v := (nI 1)) hx hb dX5_forbid_108 (by decide) ?_
              refine lv_goto (tgt := 113) hx hb dX5_forbid_109 (by decide) ?_
              exact J113 (true) ((mline_1 (S := S) (xb_1 c_21)).symm) _ hS ls (lv_sub hl [0, 1, 2, 3, 4, 5] rfl)
            · have _ := hx
              refine lv_iload hx hb dX5_forbid_76 (lv_at hl 1 rfl) ?_
              refine lv_iconst (v := (-1)) hx hb dX5_forbid_78 (by decide) ?_
              refine lv_icmp_eq (tgt := 92) hx hb dX5_forbid_79 (by decide) (fun c_22 => ?_) (fun c_22 => ?_)
              · have _ := hx
                have hnzU : zU S i = 0 := (xpar_m1 (by omega)).mp (by first | exact c_22 | exact Classical.not_not.mp c_22)
                refine lv_iload hx hb dX5_forbid_92 (lv_at hl 0 rfl) ?_
                refine lv_iconst (v := (-1)) hx hb dX5_forbid_94 (by decide) ?_
                refine lv_icmp_eq (tgt := 112) hx hb dX5_forbid_95 (by decide) (fun c_23 => ?_) (fun c_23 => ?_)
                · have _ := hx
                  have hnzV : zV S i = 0 := (xpar_m1 (by omega)).mp (by first | exact c_23 | exact Classical.not_not.mp c_23)
                  refine lv_iconst (v := (nI 0)) hx hb dX5_forbid_112 (by decide) ?_
                  exact J113 (false) ((mline_0 (S := S) hW (by omega) (xb_0.mp c_21) (Or.inl hnzU) (Or.inl hnzV)).symm) _ hS ls (lv_sub hl [0, 1, 2, 3, 4, 5] rfl)
                · have _ := hx
                  have hnzV : zV S i ≠ 0 := fun q => c_23 ((xpar_m1 (by omega)).mpr q)
                  refine lv_aload_n hx hb dX5_forbid_98 rfl (lv_at hl 2 rfl) ?_
                  refine va_get (D := xD G) (ci := 6) (v := .ref (ad 10)) (C := RX5) (T := TX5) (N := 14) hx hb hts (by decide +kernel) hown hC.1 (x1 hm0) 0 rfl rfl 12 (by decide) (hts (.fieldLink RX5 38 "BidwhistleModel" "isOfLine" "[Z") (by decide +kernel)) (fun _ h9 => h9) rfl dX5_forbid_99 ?_
                  refine lv_iload hx hb dX5_forbid_102 (lv_at hl 0 rfl) ?_
                  rw [xpar_pos hnzV]
                  refine x_zald (G := G) (j := (zV S i - 1)) hx hb hC hm10 (by omega) (by first | decide | omega) dX5_forbid_104 ?_
                  refine lv_if_eq (tgt := 112) hx hb dX5_forbid_105 (by decide) (fun c_24 => ?_) (fun c_24 => ?_)
                  · have _ := hx
                    refine lv_iconst (v := (nI 0)) hx hb dX5_forbid_112 (by decide) ?_
                    exact J113 (false) ((mline_0 (S := S) hW (by omega) (xb_0.mp c_21) (Or.inl hnzU) (Or.inr ((hz8 _ (by omega)).symm.trans (xb_0.mp c_24)))).symm) _ hS ls (lv_sub hl [0, 1, 2, 3, 4, 5] rfl)
                  · have _ := hx
                    refine lv_iconst (v := (nI 1)) hx hb dX5_forbid_108 (by decide) ?_
                    refine lv_goto (tgt := 113) hx hb dX5_forbid_109 (by decide) ?_
                    exact J113 (true) ((mline_3 (S := S) hW (by omega) hnzV ((hz8 _ (by omega)).symm.trans (xb_1 c_24))).symm) _ hS ls (lv_sub hl [0, 1, 2, 3, 4, 5] rfl)
              · have _ := hx
                have hnzU : zU S i ≠ 0 := fun q => c_22 ((xpar_m1 (by omega)).mpr q)
                refine lv_aload_n hx hb dX5_forbid_82 rfl (lv_at hl 2 rfl) ?_
                refine va_get (D := xD G) (ci := 6) (v := .ref (ad 10)) (C := RX5) (T := TX5) (N := 14) hx hb hts (by decide +kernel) hown hC.1 (x1 hm0) 0 rfl rfl 12 (by decide) (hts (.fieldLink RX5 38 "BidwhistleModel" "isOfLine" "[Z") (by decide +kernel)) (fun _ h9 => h9) rfl dX5_forbid_83 ?_
                refine lv_iload hx hb dX5_forbid_86 (lv_at hl 1 rfl) ?_
                rw [xpar_pos hnzU]
                refine x_zald (G := G) (j := (zU S i - 1)) hx hb hC hm10 (by omega) (by first | decide | omega) dX5_forbid_88 ?_
                refine lv_if_ne (tgt := 108) hx hb dX5_forbid_89 (by decide) (fun c_25 => ?_) (fun c_25 => ?_)
                · have _ := hx
                  refine lv_iconst (v := (nI 1)) hx hb dX5_forbid_108 (by decide) ?_
                  refine lv_goto (tgt := 113) hx hb dX5_forbid_109 (by decide) ?_
                  exact J113 (true) ((mline_2 (S := S) hW (by omega) hnzU ((hz8 _ (by omega)).symm.trans (xb_1 c_25))).symm) _ hS ls (lv_sub hl [0, 1, 2, 3, 4, 5] rfl)
                · have _ := hx
                  refine lv_iload hx hb dX5_forbid_92 (lv_at hl 0 rfl) ?_
                  refine lv_iconst (v := (-1)) hx hb dX5_forbid_94 (by decide) ?_
                  refine lv_icmp_eq (tgt := 112) hx hb dX5_forbid_95 (by decide) (fun c_26 => ?_) (fun c_26 => ?_)
                  · have _ := hx
                    have hnzV : zV S i = 0 := (xpar_m1 (by omega)).mp (by first | exact c_26 | exact Classical.not_not.mp c_26)
                    refine lv_iconst (v := (nI 0)) hx hb dX5_forbid_112 (by decide) ?_
                    exact J113 (false) ((mline_0 (S := S) hW (by omega) (xb_0.mp c_21) (Or.inr ((hz8 _ (by omega)).symm.trans (xb_0.mp c_25))) (Or.inl hnzV)).symm) _ hS ls (lv_sub hl [0, 1, 2, 3, 4, 5] rfl)
                  · have _ := hx
                    have hnzV : zV S i ≠ 0 := fun q => c_26 ((xpar_m1 (by omega)).mpr q)
                    refine lv_aload_n hx hb dX5_forbid_98 rfl (lv_at hl 2 rfl) ?_
                    refine va_get (D := xD G) (ci := 6) (v := .ref (ad 10)) (C := RX5) (T := TX5) (N := 14) hx hb hts (by decide +kernel) hown hC.1 (x1 hm0) 0 rfl rfl 12 (by decide) (hts (.fieldLink RX5 38 "BidwhistleModel" "isOfLine" "[Z") (by decide +kernel)) (fun _ h9 => h9) rfl dX5_forbid_99 ?_
                    refine lv_iload hx hb dX5_forbid_102 (lv_at hl 0 rfl) ?_
                    rw [xpar_pos hnzV]
                    refine x_zald (G := G) (j := (zV S i - 1)) hx hb hC hm10 (by omega) (by first | decide | omega) dX5_forbid_104 ?_
                    refine lv_if_eq (tgt := 112) hx hb dX5_forbid_105 (by decide) (fun c_27 => ?_) (fun c_27 => ?_)
                    · have _ := hx
                      refine lv_iconst (v := (nI 0)) hx hb dX5_forbid_112 (by decide) ?_
                      exact J113 (false) ((mline_0 (S := S) hW (by omega) (xb_0.mp c_21) (Or.inr ((hz8 _ (by omega)).symm.trans (xb_0.mp c_25))) (Or.inr ((hz8 _ (by omega)).symm.trans (xb_0.mp c_27)))).symm) _ hS ls (lv_sub hl [0, 1, 2, 3, 4, 5] rfl)
                    · have _ := hx
                      refine lv_iconst (v := (nI 1)) hx hb dX5_forbid_108 (by decide) ?_
                      refine lv_goto (tgt := 113) hx hb dX5_forbid_109 (by decide) ?_
                      exact J113 (true) ((mline_3 (S := S) hW (by omega) hnzV ((hz8 _ (by omega)).symm.trans (xb_1 c_27))).symm) _ hS ls (lv_sub hl [0, 1, 2, 3, 4, 5] rfl)
      exact L _ (0) (0) (z) (Nat.zero_le _) (rfl) (fun j hj => absurd hj (Nat.not_lt_zero j)) (Nat.lt_succ_self _) H_11 (by rw [zforb_0]; exact (MX_Y.mpr (show MY G ad (zN S) (zK S) (zP S) (zL S) (zU S) (zV S) (zI S) (va_up (zF S) s9 true) (zO S) (zT S) tp 0 g wo z H_11 from ⟨hO, hm0, hm1, hm2, hm3, hm4, hm5, hm6, hm7, hm8, hm9, hm10⟩))) _ hS ls (lv_sub hl [2, 3, 1, 0] rfl)
    · have _ := hx
      have c_9 : 1 = 0 := (nI_eq (a := 1) (b := 0) (by omega) (by omega)).mp c_9
      exact absurd c_9 (by decide)
