/-! the reference: worths, the child, what is kept -/
/-- strategy N: a copy of program p, with parents u, v (+ 1) -/
def mkept (S : zS) (p u v : Nat) : zS := (zN S + 1, va_up (zL S) (zN S) (zL S p), mrow (zP S) (zN S) (zL S p) (zP S p), va_up (zU S) (zN S) u, va_up (zV S) (zN S) v, S.2.2.2.2.2)
/-- the child of i and j lies in row N -/
def mcross (S : zS) (i j : Nat) : zS := (zN S, va_up (zL S) (zN S) (zchL S i j), mrow (zP S) (zN S) (zchL S i j) (zchP S i j), S.2.2.2)
/-- row N has p's length, and n of p's steps -/
def mcopy (S : zS) (p n : Nat) : zS := (zN S, va_up (zL S) (zN S) (zL S p), mrow (zP S) (zN S) n (zP S p), S.2.2.2)
/-- row N has n of the child's steps -/
def mchild (S : zS) (i j n : Nat) : zS := (zN S, zL S, mrow (zP S) (zN S) n (zchP S i j), S.2.2.2)
/-- the same, part by part -/
def MY (G : xG) (ad : Nat → Nat) (N K : Nat) (P : Nat → Nat → Nat) (L U V : Nat → Nat) (I F : Nat → Bool) (O T : Nat → Nat) (tp th : Nat) (g : Nat → Int) (W : Nat → Int32) (z : Nat → Bool) (H : Heap) : Prop := zown G ad 11 ∧
  oA G (ad 0) 6 [.ref (ad 1), .ref (ad 2), .int (nI N), .ref (ad 3), .ref (ad 4), .ref (ad 5), .int (nI K), .ref (ad 6), .ref (ad 7), .ref (ad 8), .int (nI tp), .ref (ad 9), .ref (ad 10), .int (nI th)] H ∧
  iA G (ad 1) 147 (mst P) H ∧ iA G (ad 2) 21 (fun j => nI (L j)) H ∧ iA G (ad 3) 40 (mpa U V) H ∧ zA G (ad 4) 20 (fun j => xb (I j)) H ∧ zA G (ad 5) 17 (fun j => xb (F j)) H ∧
  iA G (ad 6) 6 (fun j => nI (O j)) H ∧ iA G (ad 7) 6 (fun j => nI (T j)) H ∧ iA G (ad 8) 8 (fun j => Int32.ofInt (g j)) H ∧ iA G (ad 9) 20 W H ∧ zA G (ad 10) 20 (fun j => xb (z j)) H
theorem MX_Y {G : xG} {ad : Nat → Nat} {S : zS} {tp th : Nat} {g : Nat → Int} {W : Nat → Int32} {z : Nat → Bool} {H : Heap} : MX G ad S tp th g W z H ↔ MY G ad (zN S) (zK S) (zP S) (zL S) (zU S) (zV S) (zI S) (zF S) (zO S) (zT S) tp th g W z H := Iff.rfl
theorem mcopy_L {S : zS} {p : Nat} : va_up (zL S) (zN S) (zL S p) p = zL S p := by
  by_cases c : p = zN S
  · rw [← c, va_up_self]
  · rw [va_up_ne _ _ c]
theorem mpaid_in {b1 b2 : Nat} {x u : Nat} (h1 : b1 ≤ 999) (h2 : b2 ≤ 999) (hx : x = if u = 1 then b2 else if u = 2 then (b1 + b2) / 2 else b1) : x ≤ 999 := by
  rw [hx]; split; omega
  split <;> omega
theorem mgain {u v b1 b2 x : Nat} {w9 : Bool} (hx : x = if u = 1 then b2 else if u = 2 then (b1 + b2) / 2 else b1) : zgain u w9 v b1 b2 = (((if w9 = true then v else 0 : Nat) : Int)) - (((if w9 = true ∨ u = 3 then x else 0 : Nat) : Int)) := by
  unfold zgain zpaid
  congr 2
  by_cases c : u = 3
  · subst c
    rw [if_pos rfl, if_pos (Or.inr rfl), hx, if_neg (by decide), if_neg (by decide)]
  · rw [if_neg c]
    cases w9 with
    | true => rw [if_neg (by decide), if_pos (Or.inl rfl), hx]
    | false => rw [if_pos rfl, if_neg (fun z => by rcases z with z | z; cases z; exact c z)]
set_option maxHeartbeats 4000000 in
set_option maxRecDepth 100000 in
/-- profitOf(..) -/
theorem c_X5_profitOf (l : Launch) (hfl : l.stackTraces = false) (G : xG) (ad : Nat → Nat) (S : zS) (tp th : Nat) (g : Nat → Int) (wo : Nat → Int32) (z : Nat → Bool) (u9 i9 j9 v9 w9 : Nat) (H : Heap) (hM : MX G ad S tp th g wo z H) (hW : zW S) (hu9 : u9 < 4) (hi9 : i9 < zN S) (hj9 : j9 < zN S) (hv9 : v9 < 100) (hw9 : w9 < 100) : xMet l G yX5_profitOf wsX5_profitOf ({ frames := 3, cells := 0, slots := 0, locals := 69 } : Room) [.ref (ad 0), .int (nI u9), .int (nI i9), .int (nI j9), .int (nI v9), .int (nI w9)] H (fun v H1 => v = some (.int (Int32.ofInt (zprof S u9 i9 j9 v9 w9))) ∧ ∃ tp2 g2, MX G ad S tp2 th g2 wo z H1) (xNo) := by
  refine vx_ofW (cc := cX5_profitOf) (maxL := 10) (ret := (some .int)) (by decide) rfl ?_
  intro Pg Ev s m args below meth c s₁ B hml hout hv
  obtain ⟨rfl, hH, hC⟩ := hv
  have hx := B.exec
  have hb := B.bytes
  have hr := B.returns
  have hts := atoms_spec (ws := wsX5_profitOf) B.pre
  have hown : s.vm.findClass RX5 = some m.cls := findClass_of_methodNamed B.named
  have hlocks := B.notSynchronized
  rw [hH]
  have hS : va_S (xA G) s.heap H [] := by rw [← hH]; exact va_S.rf
  generalize ([] : List Loc) = locs at hS ⊢
  have hl := lv_entry [.ref (ad 0), .int (nI u9), .int (nI i9), .int (nI j9), .int (nI v9), .int (nI w9)] (n := 10) (Nat.le_of_ble_eq_true rfl)
  rw [lg_entry_eq]
  generalize (lg_sl [.ref (ad 0), .int (nI u9), .int (nI i9), .int (nI j9), .int (nI v9), .int (nI w9)] ++ List.replicate (10 - (lg_sl [.ref (ad 0), .int (nI u9), .int (nI i9), .int (nI j9), .int (nI v9), .int (nI w9)]).length) Slot.unset).toArray = ls at hl ⊢
  have hl : lv_has ls 10 [(0, .ref (ad 0)), (1, .int (nI u9)), (2, .int (nI i9)), (3, .int (nI j9)), (4, .int (nI v9)), (5, .int (nI w9))] := hl
  obtain ⟨hO, hm0, hm1, hm2, hm3, hm4, hm5, hm6, hm7, hm8, hm9, hm10⟩ := id hM
  have hn20 := hW.1
  have hz1 := zbid_in S i9 v9
  have hz2 := zbid_in S j9 w9
  refine lv_aload_n hx hb dX5_profitOf_0 rfl (lv_at hl 0 rfl) ?_
  refine lv_iload_n hx hb dX5_profitOf_1 rfl (lv_at hl 2 rfl) ?_
  refine lv_iload hx hb dX5_profitOf_2 (lv_at hl 4 rfl) ?_
  have hsz := hS.1
  refine x_call (px := xNo) (vx_runV (As := [.int (nI i9), .int (nI v9)]) (rest := []) ⟨hx, hb, hml, hown, hts⟩ (c_X5_bidOf l hfl G ad S tp th g wo z i9 v9 H ⟨hO, hm0, hm1, hm2, hm3, hm4, hm5, hm6, hm7, hm8, hm9, hm10⟩ hW (by omega) (by omega)) (cwV 2 hts gX5_profitOf_X5_bidOf rfl rfl rfl (by decide +kernel) ⟨(Nat.le_of_ble_eq_true rfl), (Nat.le_of_ble_eq_true rfl)⟩) (xPreV hC hS hm0 (q := (RX5, TX5, 14)) rfl) rfl rfl hl.1 rfl (lv_room (Nat.le_of_ble_eq_true rfl)) dX5_profitOf_4 ⟨(by first | exact Nat.le_of_ble_eq_true rfl | exact (show 0 + 0 ≤ 0 by omega)), (by first | exact Nat.le_of_ble_eq_true rfl | exact (show 0 + 0 ≤ 0 by omega))⟩) hS (fun _ h => h) (fun _ _ _ _ _ h => False.elim h) (fun v H_1 locs hp hz hk_2 hS => ?_)
  obtain ⟨rfl, tp3, g3, hMM3⟩ := hp
  obtain ⟨-, hm0, hm1, hm2, hm3, hm4, hm5, hm6, hm7, hm8, hm9, hm10⟩ := id hMM3
  refine lv_istore (lv' := [(6, .int (nI (zbid S i9 v9))), (0, .ref (ad 0)), (1, .int (nI u9)), (2, .int (nI i9)), (3, .int (nI j9)), (4, .int (nI v9)), (5, .int (nI w9))]) hx hb dX5_profitOf_7 hl (by decide) rfl (fun ls hl => ?_)
  refine lv_aload_n hx hb dX5_profitOf_9 rfl (lv_at hl 1 rfl) ?_
  refine lv_iload_n hx hb dX5_profitOf_10 rfl (lv_at hl 4 rfl) ?_
  refine lv_iload hx hb dX5_profitOf_11 (lv_at hl 6 rfl) ?_
  have hsz := hS.1
  refine x_call (px := xNo) (vx_runV (As := [.int (nI j9), .int (nI w9)]) (rest := []) ⟨hx, hb, hml, hown, hts⟩ (c_X5_bidOf l hfl G ad S tp3 th g3 wo z j9 w9 H_1 ⟨hO, hm0, hm1, hm2, hm3, hm4, hm5, hm6, hm7, hm8, hm9, hm10⟩ hW (by omega) (by omega)) (cwV 2 hts gX5_profitOf_X5_bidOf rfl rfl rfl (by decide +kernel) ⟨(Nat.le_of_ble_eq_true rfl), (Nat.le_of_ble_eq_true rfl)⟩) (xPreV hC hS hm0 (q := (RX5, TX5, 14)) rfl) rfl rfl hl.1 rfl (lv_room (Nat.le_of_ble_eq_true rfl)) dX5_profitOf_13 ⟨(by first | exact Nat.le_of_ble_eq_true rfl | exact (show 0 + 0 ≤ 0 by omega)), (by first | exact Nat.le_of_ble_eq_true rfl | exact (show 0 + 0 ≤ 0 by omega))⟩) hS (fun _ h => h) (fun _ _ _ _ _ h => False.elim h) (fun v H_4 locs hp hz hk_5 hS => ?_)
  obtain ⟨rfl, tp6, g6, hMM6⟩ := hp
  obtain ⟨-, hm0, hm1, hm2, hm3, hm4, hm5, hm6, hm7, hm8, hm9, hm10⟩ := id hMM6
  refine lv_istore (lv' := [(7, .int (nI (zbid S j9 w9))), (6, .int (nI (zbid S i9 v9))), (0, .ref (ad 0)), (1, .int (nI u9)), (2, .int (nI i9)), (3, .int (nI j9)), (4, .int (nI v9)), (5, .int (nI w9))]) hx hb dX5_profitOf_16 hl (by decide) rfl (fun ls hl => ?_)
  have J42 : ∀ (b9 : Bool), (b9 = (zwins i9 (zbid S i9 v9) j9 (zbid S j9 w9))) → ∀ (locs : List Loc), va_S (xA G) s.heap H_4 locs → ∀ ls : Array Slot, lv_has ls 10 [(7, .int (nI (zbid S j9 w9))), (6, .int (nI (zbid S i9 v9))), (0, .ref (ad 0)), (1, .int (nI u9)), (2, .int (nI i9)), (3, .int (nI j9)), (4, .int (nI v9)), (5, .int (nI w9))] → W Pg l Ev (headSpec wsX5_profitOf ({ frames := 3, cells := 0, slots := 0, locals := 69 } : Room)).room s m ([.ref (ad 0), .int (nI u9), .int (nI i9), .int (nI j9), .int (nI v9), .int (nI w9)] : List Value).toArray below meth c H_4 locs (0) (0) (vx_MQ below (xQ G (fun v H1 => v = some (.int (Int32.ofInt (zprof S u9 i9 j9 v9 w9))) ∧ ∃ tp2 g2, MX G ad S tp2 th g2 wo z H1)) (xX G (xNo)) ([.ref (ad 0), .int (nI u9), .int (nI i9), .int (nI j9), .int (nI v9), .int (nI w9)] : List Value).toArray s ({ frames := 3, cells := 0, slots := 0, locals := 69 } : Room).cells ({ frames := 3, cells := 0, slots := 0, locals := 69 } : Room).slots (xA G)) (F0 m 42 ls [.int (xb b9)]) := by
    intro b9 hb9 locs hS ls hl
    refine lv_istore (lv' := [(8, .int (xb b9)), (7, .int (nI (zbid S j9 w9))), (6, .int (nI (zbid S i9 v9))), (0, .ref (ad 0)), (1, .int (nI u9)), (2, .int (nI i9)), (3, .int (nI j9)), (4, .int (nI v9)), (5, .int (nI w9))]) hx hb dX5_profitOf_42 hl (by decide) rfl (fun ls hl => ?_)
    have J71 : ∀ (x9 : Nat), (x9 = (if u9 = 1 then (zbid S j9 w9) else if u9 = 2 then ((zbid S i9 v9) + (zbid S j9 w9)) / 2 else (zbid S i9 v9))) → ∀ (locs : List Loc), va_S (xA G) s.heap H_4 locs → ∀ ls : Array Slot, lv_has ls 10 [(8, .int (xb b9)), (7, .int (nI (zbid S j9 w9))), (6, .int (nI (zbid S i9 v9))), (0, .ref (ad 0)), (1, .int (nI u9)), (2, .int (nI i9)), (3, .int (nI j9)), (4, .int (nI v9)), (5, .int (nI w9))] → W Pg l Ev (headSpec wsX5_profitOf ({ frames := 3, cells := 0, slots := 0, locals := 69 } : Room)).room s m ([.ref (ad 0), .int (nI u9), .int (nI i9), .int (nI j9), .int (nI v9), .int (nI w9)] : List Value).toArray below meth c H_4 locs (0) (0) (vx_MQ below (xQ G (fun v H1 => v = some (.int (Int32.ofInt (zprof S u9 i9 j9 v9 w9))) ∧ ∃ tp2 g2, MX G ad S tp2 th g2 wo z H1)) (xX G (xNo)) ([.ref (ad 0), .int (nI u9), .int (nI i9), .int (nI j9), .int (nI v9), .int (nI w9)] : List Value).toArray s ({ frames := 3, cells := 0, slots := 0, locals := 69 } : Room).cells ({ frames := 3, cells := 0, slots := 0, locals := 69 } : Room).slots (xA G)) (F0 m 71 ls [.int (nI x9)]) := by
      intro x9 hx9 locs hS ls hl
      refine lv_istore (lv' := [(9, .int (nI x9)), (8, .int (xb b9)), (7, .int (nI (zbid S j9 w9))), (6, .int (nI (zbid S i9 v9))), (0, .ref (ad 0)), (1, .int (nI u9)), (2, .int (nI i9)), (3, .int (nI j9)), (4, .int (nI v9)), (5, .int (nI w9))]) hx hb dX5_profitOf_71 hl (by decide) rfl (fun ls hl => ?_)
      refine lv_iload hx hb dX5_profitOf_73 (lv_at hl 1 rfl) ?_
      refine lv_if_eq (tgt := 83) hx hb dX5_profitOf_75 (by decide) (fun c_7 => ?_) (fun c_7 => ?_)
      · have _ := hx
        have hwb : b9 = false := xb_0.mp c_7
        refine lv_iconst (v := (nI 0)) hx hb dX5_profitOf_83 (by decide) ?_
        refine lv_iload hx hb dX5_profitOf_84 (lv_at hl 1 rfl) ?_
        refine lv_if_ne (tgt := 94) hx hb dX5_profitOf_86 (by decide) (fun c_8 => ?_) (fun c_8 => ?_)
        · have _ := hx
          exfalso
          rw [hwb] at c_8
          revert c_8; decide
        · have _ := hx
          refine lv_iload_n hx hb dX5_profitOf_89 rfl (lv_at hl 5 rfl) ?_
          refine lv_iconst (v := (nI 3)) hx hb dX5_profitOf_90 (by decide) ?_
          refine lv_icmp_ne (tgt := 99) hx hb dX5_profitOf_91 (by decide) (fun c_9 => ?_) (fun c_9 => ?_)
          · have _ := hx
            have c_9 : ¬ (u9 = 3) := fun z => c_9 ((nI_eq (a := u9) (b := 3) (by omega) (by omega)).mpr z)
            refine lv_iconst (v := (nI 0)) hx hb dX5_profitOf_99 (by decide) ?_
            refine lv_isub hx hb dX5_profitOf_100 ?_
            rw [zofI_sub]
            exact x_iret (G := G) hx hb hr rfl dX5_profitOf_101 hlocks hS (by first | exact Nat.le_of_ble_eq_true rfl | exact (show 0 ≤ 0 by omega)) (by first | exact Nat.le_of_ble_eq_true rfl | exact (show 0 ≤ 0 by omega)) ⟨by unfold zprof; rw [← hb9, mgain hx9, hwb, if_neg (by decide), if_neg (fun q => by rcases q with q | q; cases q; omega)] <;> rfl, _, _, ⟨hO, hm0, hm1, hm2, hm3, hm4, hm5, hm6, hm7, hm8, hm9, hm10⟩⟩
          · have _ := hx
            have c_9 : u9 = 3 := (nI_eq (a := u9) (b := 3) (by omega) (by omega)).mp c_9
            refine lv_iload hx hb dX5_profitOf_94 (lv_at hl 0 rfl) ?_
            refine lv_goto (tgt := 100) hx hb dX5_profitOf_96 (by decide) ?_
            refine lv_isub hx hb dX5_profitOf_100 ?_
            rw [zofI_sub]
            exact x_iret (G := G) hx hb hr rfl dX5_profitOf_101 hlocks hS (by first | exact Nat.le_of_ble_eq_true rfl | exact (show 0 ≤ 0 by omega)) (by first | exact Nat.le_of_ble_eq_true rfl | exact (show 0 ≤ 0 by omega)) ⟨by unfold zprof; rw [← hb9, mgain hx9, hwb, if_neg (by decide), if_pos (Or.inr (by omega))] <;> rfl, _, _, ⟨hO, hm0, hm1, hm2, hm3, hm4, hm5, hm6, hm7, hm8, hm9, hm10⟩⟩
      · have _ := hx
        have hwb : b9 = true := xb_1 c_7
        refine lv_iload hx hb dX5_profitOf_78 (lv_at hl 8 rfl) ?_
        refine lv_goto (tgt := 84) hx hb dX5_profitOf_80 (by decide) ?_
        refine lv_iload hx hb dX5_profitOf_84 (lv_at hl 1 rfl) ?_
        refine lv_if_ne (tgt := 94) hx hb dX5_profitOf_86 (by decide) (fun c_10 => ?_) (fun c_10 => ?_)
        · have _ := hx
          refine lv_iload hx hb dX5_profitOf_94 (lv_at hl 0 rfl) ?_
          refine lv_goto (tgt := 100) hx hb dX5_profitOf_96 (by decide) ?_
          refine lv_isub hx hb dX5_profitOf_100 ?_
          rw [zofI_sub]
          exact x_iret (G := G) hx hb hr rfl dX5_profitOf_101 hlocks hS (by first | exact Nat.le_of_ble_eq_true rfl | exact (show 0 ≤ 0 by omega)) (by first | exact Nat.le_of_ble_eq_true rfl | exact (show 0 ≤ 0 by omega)) ⟨by unfold zprof; rw [← hb9, mgain hx9, hwb, if_pos rfl, if_pos (Or.inl rfl)] <;> rfl, _, _, ⟨hO, hm0, hm1, hm2, hm3, hm4, hm5, hm6, hm7, hm8, hm9, hm10⟩⟩
        · have _ := hx
          exfalso
          rw [hwb] at c_10
          revert c_10; decide
    refine lv_iload_n hx hb dX5_profitOf_44 rfl (lv_at hl 4 rfl) ?_
    refine lv_iconst (v := (nI 1)) hx hb dX5_profitOf_45 (by decide) ?_
    refine lv_icmp_ne (tgt := 54) hx hb dX5_profitOf_46 (by decide) (fun c_11 => ?_) (fun c_11 => ?_)
    · have _ := hx
      have c_11 : ¬ (u9 = 1) := fun z => c_11 ((nI_eq (a := u9) (b := 1) (by omega) (by omega)).mpr z)
      refine lv_iload_n hx hb dX5_profitOf_54 rfl (lv_at hl 4 rfl) ?_
      refine lv_iconst (v := (nI 2)) hx hb dX5_profitOf_55 (by decide) ?_
      refine lv_icmp_ne (tgt := 69) hx hb dX5_profitOf_56 (by decide) (fun c_12 => ?_) (fun c_12 => ?_)
      · have _ := hx
        have c_12 : ¬ (u9 = 2) := fun z => c_12 ((nI_eq (a := u9) (b := 2) (by omega) (by omega)).mpr z)
        refine lv_iload hx hb dX5_profitOf_69 (lv_at hl 2 rfl) ?_
        exact J71 ((zbid S i9 v9)) (by rw [if_neg (by omega), if_neg (by omega)]) _ hS ls (lv_sub hl [0, 1, 2, 3, 4, 5, 6, 7, 8] rfl)
      · have _ := hx
        have c_12 : u9 = 2 := (nI_eq (a := u9) (b := 2) (by omega) (by omega)).mp c_12
        refine lv_iload hx hb dX5_profitOf_59 (lv_at hl 2 rfl) ?_
        refine lv_iload hx hb dX5_profitOf_61 (lv_at hl 1 rfl) ?_
        refine x_iaddn (a := (zbid S i9 v9)) (b := (zbid S j9 w9)) hx hb dX5_profitOf_63 ?_
        refine lv_iconst (v := (nI 2)) hx hb dX5_profitOf_64 (by decide) ?_
        refine x_idivn (a := (((zbid S i9 v9)) + ((zbid S j9 w9)))) (b := 2) hx hb dX5_profitOf_65 (by omega) (by omega) (by omega) ?_
        refine lv_goto (tgt := 71) hx hb dX5_profitOf_66 (by decide) ?_
        exact J71 ((((((zbid S i9 v9)) + ((zbid S j9 w9)))) / 2)) (by rw [if_neg (by omega), if_pos (by omega)]) _ hS ls (lv_sub hl [0, 1, 2, 3, 4, 5, 6, 7, 8] rfl)
    · have _ := hx
      have c_11 : u9 = 1 := (nI_eq (a := u9) (b := 1) (by omega) (by omega)).mp c_11
      refine lv_iload hx hb dX5_profitOf_49 (lv_at hl 1 rfl) ?_
      refine lv_goto (tgt := 71) hx hb dX5_profitOf_51 (by decide) ?_
      exact J71 ((zbid S j9 w9)) ((if_pos (by omega)).symm) _ hS ls (lv_sub hl [0, 1, 2, 3, 4, 5, 6, 7, 8] rfl)
  refine lv_iload hx hb dX5_profitOf_18 (lv_at hl 1 rfl) ?_
  refine lv_iload hx hb dX5_profitOf_20 (lv_at hl 0 rfl) ?_
  refine lv_icmp_gt (tgt := 37) hx hb dX5_profitOf_22 (by decide) (fun c_13 => ?_) (fun c_13 => ?_)
  · have _ := hx
    have c_13 : (zbid S j9 w9) < (zbid S i9 v9) := (nI_ltI (a := (zbid S j9 w9)) (b := (zbid S i9 v9)) (by omega) (by omega)).mp c_13
    refine lv_iconst (v := (nI 1)) hx hb dX5_profitOf_37 (by decide) ?_
    refine lv_goto (tgt := 42) hx hb dX5_profitOf_38 (by decide) ?_
    exact J42 (true) (by unfold zwins; rw [decide_eq_true (show (zbid S j9 w9) < (zbid S i9 v9) by omega)] <;> simp) _ hS ls (lv_sub hl [0, 1, 2, 3, 4, 5, 6, 7] rfl)
  · have _ := hx
    have c_13 : ¬ ((zbid S j9 w9) < (zbid S i9 v9)) := fun z => c_13 ((nI_ltI (a := (zbid S j9 w9)) (b := (zbid S i9 v9)) (by omega) (by omega)).mpr z)
    refine lv_iload hx hb dX5_profitOf_25 (lv_at hl 1 rfl) ?_
    refine lv_iload hx hb dX5_profitOf_27 (lv_at hl 0 rfl) ?_
    refine lv_icmp_ne (tgt := 41) hx hb dX5_profitOf_29 (by decide) (fun c_14 => ?_) (fun c_14 => ?_)
    · have _ := hx
      have c_14 : ¬ ((zbid S i9 v9) = (zbid S j9 w9)) := fun z => c_14 ((nI_eq (a := (zbid S i9 v9)) (b := (zbid S j9 w9)) (by omega) (by omega)).mpr z)
      refine lv_iconst (v := (nI 0)) hx hb dX5_profitOf_41 (by decide) ?_
      exact J42 (false) (by unfold zwins; rw [decide_eq_false (show ¬ (zbid S j9 w9) < (zbid S i9 v9) by omega), decide_eq_false (show ¬ (zbid S i9 v9) = (zbid S j9 w9) by omega)] <;> simp) _ hS ls (lv_sub hl [0, 1, 2, 3, 4, 5, 6, 7] rfl)
    · have _ := hx
      have c_14 : (zbid S i9 v9) = (zbid S j9 w9) := (nI_eq (a := (zbid S i9 v9)) (b := (zbid S j9 w9)) (by omega) (by omega)).mp c_14
      refine lv_iload_n hx hb dX5_profitOf_32 rfl (lv_at hl 4 rfl) ?_
      refine lv_iload_n hx hb dX5_profitOf_33 rfl (lv_at hl 5 rfl) ?_
      refine lv_icmp_ge (tgt := 41) hx hb dX5_profitOf_34 (by decide) (fun c_15 => ?_) (fun c_15 => ?_)
      · have _ := hx
        have c_15 : j9 ≤ i9 := (nI_leI (a := j9) (b := i9) (by omega) (by omega)).mp c_15
        refine lv_iconst (v := (nI 0)) hx hb dX5_profitOf_41 (by decide) ?_
        exact J42 (false) (by unfold zwins; rw [decide_eq_false (show ¬ (zbid S j9 w9) < (zbid S i9 v9) by omega), decide_eq_false (show ¬ i9 < j9 by omega)] <;> simp) _ hS ls (lv_sub hl [0, 1, 2, 3, 4, 5, 6, 7] rfl)
      · have _ := hx
        have c_15 : ¬ (j9 ≤ i9) := fun z => c_15 ((nI_leI (a := j9) (b := i9) (by omega) (by omega)).mpr z)
        refine lv_iconst (v := (nI 1)) hx hb dX5_profitOf_37 (by decide) ?_
        refine lv_goto (tgt := 42) hx hb dX5_profitOf_38 (by decide) ?_
        exact J42 (true) (by unfold zwins; rw [decide_eq_true (show (zbid S i9 v9) = (zbid S j9 w9) by omega), decide_eq_true (show i9 < j9 by omega)] <;> simp) _ hS ls (lv_sub hl [0, 1, 2, 3, 4, 5, 6, 7] rfl)

set_option maxHeartbeats 4000000 in
set_option maxRecDepth 100000 in
/-- worthOf(auction, strategy) -/
theorem c_X5_worthOf (l : Launch) (hfl : l.stackTraces = false) (G : xG) (ad : Nat → Nat) (S : zS) (tp th : Nat) (g : Nat → Int) (wo : Nat → Int32) (z : Nat → Bool) (u9 i9 : Nat) (H : Heap) (hM : MX G ad S tp th g wo z H) (hW : zW S) (hu9 : u9 < 4) (hi9 : i9 < zN S) : xMet l G yX5_worthOf wsX5_worthOf ({ frames := 4, cells := 0, slots := 0, locals := 98 } : Room) [.ref (ad 0), .int (nI u9), .int (nI i9)] H (fun v H1 => v = some (.int (Int32.ofInt (zworth S u9 i9))) ∧ ∃ tp2 g2, MX G ad S tp2 th g2 wo z H1) (xNo) := by
  refine vx_ofW (cc := cX5_worthOf) (maxL := 6) (ret := (some .int)) (by decide) rfl ?_
  intro Pg Ev s m args below meth c s₁ B hml hout hv
  obtain ⟨rfl, hH, hC⟩ := hv
  have hx := B.exec
  have hb := B.bytes
  have hr := B.returns
  have hts := atoms_spec (ws := wsX5_worthOf) B.pre
  have hown : s.vm.findClass RX5 = some m.cls := findClass_of_methodNamed B.named
  have hlocks := B.notSynchronized
  rw [hH]
  have hS : va_S (xA G) s.heap H [] := by rw [← hH]; exact va_S.rf
  generalize ([] : List Loc) = locs at hS ⊢
  have hl := lv_entry [.ref (ad 0), .int (nI u9), .int (nI i9)] (n := 6) (Nat.le_of_ble_eq_true rfl)
  rw [lg_entry_eq]
  generalize (lg_sl [.ref (ad 0), .int (nI u9), .int (nI i9)] ++ List.replicate (6 - (lg_sl [.ref (ad 0), .int (nI u9), .int (nI i9)]).length) Slot.unset).toArray = ls at hl ⊢
  have hl : lv_has ls 6 [(0, .ref (ad 0)), (1, .int (nI u9)), (2, .int (nI i9))] := hl
  obtain ⟨hO, hm0, hm1, hm2, hm3, hm4, hm5, hm6, hm7, hm8, hm9, hm10⟩ := id hM
  have hn20 := hW.1
  have hK6 : zK S ≤ 6 := hW.2.2.2.2.2.2.2.1
  have hOT : ∀ j, zO S j ≤ 99 ∧ zT S j ≤ 99 := hW.2.2.2.2.2.2.2.2
  refine lv_iconst (v := (nI 0)) hx hb dX5_worthOf_0 (by decide) ?_
  refine lv_istore_n (lv' := [(3, .int (nI 0)), (0, .ref (ad 0)), (1, .int (nI u9)), (2, .int (nI i9))]) hx hb dX5_worthOf_1 rfl hl (by decide) rfl (fun ls hl => ?_)
  refine lv_iconst (v := (nI 0)) hx hb dX5_worthOf_2 (by decide) ?_
  refine lv_istore (lv' := [(4, .int (nI 0)), (3, .int (nI 0)), (0, .ref (ad 0)), (1, .int (nI u9)), (2, .int (nI i9))]) hx hb dX5_worthOf_3 hl (by decide) rfl (fun ls hl => ?_)
  have L : ∀ (kL : Nat) (i : Nat) (s9 : Int32) (tp8 : Nat) (g8 : Nat → Int), (i ≤ zN S) → (s9 = Int32.ofInt (zwsum S u9 i9 i)) → zN S - i < kL → ∀ (HL : Heap), (MX G ad S tp8 th g8 wo z HL) → ∀ (locs : List Loc), va_S (xA G) s.heap HL locs → ∀ ls : Array Slot, lv_has ls 6 [(0, .ref (ad 0)), (1, .int (nI u9)), (2, .int (nI i9)), (3, .int s9), (4, .int (nI i))] → W Pg l Ev (headSpec wsX5_worthOf ({ frames := 4, cells := 0, slots := 0, locals := 98 } : Room)).room s m ([.ref (ad 0), .int (nI u9), .int (nI i9)] : List Value).toArray below meth c HL locs (0) (0) (vx_MQ below (xQ G (fun v H1 => v = some (.int (Int32.ofInt (zworth S u9 i9))) ∧ ∃ tp2 g2, MX G ad S tp2 th g2 wo z H1)) (xX G (xNo)) ([.ref (ad 0), .int (nI u9), .int (nI i9)] : List Value).toArray s ({ frames := 4, cells := 0, slots := 0, locals := 98 } : Room).cells ({ frames := 4, cells := 0, slots := 0, locals := 98 } : Room).slots (xA G)) (F0 m 5 ls []) := by
    intro kL
    induction kL with
    | zero => intro i s9 tp8 g8 hi hs9 hk; exact absurd hk (Nat.not_lt_zero _)
    | succ kL ihL =>
      intro i s9 tp8 g8 hi hs9 hk HL hM8 locs hS ls hl
      obtain ⟨-, hm0, hm1, hm2, hm3, hm4, hm5, hm6, hm7, hm8, hm9, hm10⟩ := id hM8
      refine lv_iload hx hb dX5_worthOf_5 (lv_at hl 4 rfl) ?_
      refine lv_aload_n hx hb dX5_worthOf_7 rfl (lv_at hl 0 rfl) ?_
      refine va_get (D := xD G) (ci := 6) (v := .int (nI (zN S))) (C := RX5) (T := TX5) (N := 14) hx hb hts (by decide +kernel) hown hC.1 (x1 hm0) 0 rfl rfl 2 (by decide) (hts (.fieldLink RX5 45 "BidwhistleModel" "stored" "I") (by decide +kernel)) (fun _ h9 => h9) rfl dX5_worthOf_8 ?_
      refine lv_icmp_ge (tgt := 102) hx hb dX5_worthOf_11 (by decide) (fun c_1 => ?_) (fun c_1 => ?_)
      · have _ := hx
        have c_1 : (zN S) ≤ i := (nI_leI (a := (zN S)) (b := i) (by omega) (by omega)).mp c_1
        refine lv_iload_n hx hb dX5_worthOf_102 rfl (lv_at hl 3 rfl) ?_
        exact x_iret (G := G) hx hb hr rfl dX5_worthOf_103 hlocks hS (by first | exact Nat.le_of_ble_eq_true rfl | exact (show 0 ≤ 0 by omega)) (by first | exact Nat.le_of_ble_eq_true rfl | exact (show 0 ≤ 0 by omega)) ⟨by rw [hs9, show i = zN S by omega]; rfl, _, _, ⟨hO, hm0, hm1, hm2, hm3, hm4, hm5, hm6, hm7, hm8, hm9, hm10⟩⟩
      · have _ := hx
        have c_1 : ¬ ((zN S) ≤ i) := fun z => c_1 ((nI_leI (a := (zN S)) (b := i) (by omega) (by omega)).mpr z)
        refine lv_iconst (v := (nI 0)) hx hb dX5_worthOf_14 (by decide) ?_
        refine lv_istore (lv' := [(5, .int (nI 0)), (0, .ref (ad 0)), (1, .int (nI u9)), (2, .int (nI i9)), (3, .int s9), (4, .int (nI i))]) hx hb dX5_worthOf_15 hl (by decide) rfl (fun ls hl => ?_)
        have K : ∀ (kL : Nat) (q : Nat) (s8 : Int32) (tp7 : Nat) (g7 : Nat → Int), (q ≤ zK S) → (q = 0 ∨ (zI S i = true ∧ i ≠ i9)) → (s8 = Int32.ofInt (zwsum S u9 i9 i + zpairs S u9 i9 i q)) → zK S - q < kL → ∀ (HL : Heap), (MX G ad S tp7 th g7 wo z HL) → ∀ (locs : List Loc), va_S (xA G) s.heap HL locs → ∀ ls : Array Slot, lv_has ls 6 [(0, .ref (ad 0)), (1, .int (nI u9)), (2, .int (nI i9)), (3, .int s8), (4, .int (nI i)), (5, .int (nI q))] → W Pg l Ev (headSpec wsX5_worthOf ({ frames := 4, cells := 0, slots := 0, locals := 98 } : Room)).room s m ([.ref (ad 0), .int (nI u9), .int (nI i9)] : List Value).toArray below meth c HL locs (0) (0) (vx_MQ below (xQ G (fun v H1 => v = some (.int (Int32.ofInt (zworth S u9 i9))) ∧ ∃ tp2 g2, MX G ad S tp2 th g2 wo z H1)) (xX G (xNo)) ([.ref (ad 0), .int (nI u9), .int (nI i9)] : List Value).toArray s ({ frames := 4, cells := 0, slots := 0, locals := 98 } : Room).cells ({ frames := 4, cells := 0, slots := 0, locals := 98 } : Room).slots (xA G)) (F0 m 17 ls []) := by
          intro kL
          induction kL with
          | zero => intro q s8 tp7 g7 hq hq2 hs8 hk; exact absurd hk (Nat.not_lt_zero _)
          | succ kL ihK =>
            intro q s8 tp7 g7 hq hq2 hs8 hk HL hM9 locs hS ls hl
            obtain ⟨-, hm0, hm1, hm2, hm3, hm4, hm5, hm6, hm7, hm8, hm9, hm10⟩ := id hM9
            refine lv_iload hx hb dX5_worthOf_17 (lv_at hl 5 rfl) ?_
            refine lv_aload_n hx hb dX5_worthOf_19 rfl (lv_at hl 0 rfl) ?_
            refine va_get (D := xD G) (ci := 6) (v := .int (nI (zK S))) (C := RX5) (T := TX5) (N := 14) hx hb hts (by decide +kernel) hown hC.1 (x1 hm0) 0 rfl rfl 6 (by decide) (hts (.fieldLink RX5 105 "BidwhistleModel" "pairs" "I") (by decide +kernel)) (fun _ h9 => h9) rfl dX5_worthOf_20 ?_
            refine lv_icmp_ge (tgt := 96) hx hb dX5_worthOf_23 (by decide) (fun c_2 => ?_) (fun c_2 => ?_)
            · have _ := hx
              have c_2 : (zK S) ≤ q := (nI_leI (a := (zK S)) (b := q) (by omega) (by omega)).mp c_2
              refine lv_iinc (v := (nI (i + 1))) (lv' := [(4, .int (nI (i + 1))), (0, .ref (ad 0)), (1, .int (nI u9)), (2, .int (nI i9)), (3, .int s8), (5, .int (nI q))]) hx hb dX5_worthOf_96 hl (k := 4) rfl (xinc (by decide)) (by decide) rfl (fun ls hl => ?_)
              refine lv_goto (tgt := 5) hx hb dX5_worthOf_99 (by decide) ?_
              exact ihL (i + 1) (s8) (tp7) (g7) (by omega) (by have hqK : q = zK S := (by omega); rw [hs8, hqK]; show Int32.ofInt (zwsum S u9 i9 i + zpairs S u9 i9 i (zK S)) = Int32.ofInt (zwsum S u9 i9 i + (if zI S i = true ∧ i ≠ i9 then zpairs S u9 i9 i (zK S) else 0)); by_cases hc : zI S i = true ∧ i ≠ i9; (rw [if_pos hc]); (rw [if_neg hc]; rcases hq2 with hq2 | hq2; (rw [← hqK, hq2]; rfl); exact absurd hq2 hc)) (by omega) HL ⟨hO, hm0, hm1, hm2, hm3, hm4, hm5, hm6, hm7, hm8, hm9, hm10⟩ _ hS ls (lv_sub hl [1, 2, 3, 4, 0] rfl)
            · have _ := hx
              have c_2 : ¬ ((zK S) ≤ q) := fun z => c_2 ((nI_leI (a := (zK S)) (b := q) (by omega) (by omega)).mpr z)
              refine lv_aload_n hx hb dX5_worthOf_26 rfl (lv_at hl 0 rfl) ?_
              refine va_get (D := xD G) (ci := 6) (v := .ref (ad 4)) (C := RX5) (T := TX5) (N := 14) hx hb hts (by decide +kernel) hown hC.1 (x1 hm0) 0 rfl rfl 4 (by decide) (hts (.fieldLink RX5 19 "BidwhistleModel" "isIn" "[Z") (by decide +kernel)) (fun _ h9 => h9) rfl dX5_worthOf_27 ?_
              refine lv_iload hx hb dX5_worthOf_30 (lv_at hl 4 rfl) ?_
              refine x_zald (G := G) (j := i) hx hb hC hm4 (by omega) (by first | decide | omega) dX5_worthOf_32 ?_
              refine lv_if_eq (tgt := 96) hx hb dX5_worthOf_33 (by decide) (fun c_3 => ?_) (fun c_3 => ?_)
              · have _ := hx
                refine lv_iinc (v := (nI (i + 1))) (lv' := [(4, .int (nI (i + 1))), (0, .ref (ad 0)), (1, .int (nI u9)), (2, .int (nI i9)), (3, .int s8), (5, .int (nI q))]) hx hb dX5_worthOf_96 hl (k := 4) rfl (xinc (by decide)) (by decide) rfl (fun ls hl => ?_)
                refine lv_goto (tgt := 5) hx hb dX5_worthOf_99 (by decide) ?_
                exact ihL (i + 1) (s8) (tp7) (g7) (by omega) (by rw [zwsum_no (fun q => by rw [xb_0.mp c_3] at q; exact absurd q.1 (by decide))]; rcases hq2 with hq2 | hq2; (rw [hs8, hq2]; exact congrArg _ (Int.add_zero _)); (rw [xb_0.mp c_3] at hq2; exact absurd hq2.1 (by decide))) (by omega) HL ⟨hO, hm0, hm1, hm2, hm3, hm4, hm5, hm6, hm7, hm8, hm9, hm10⟩ _ hS ls (lv_sub hl [1, 2, 3, 4, 0] rfl)
              · have _ := hx
                refine lv_iload hx hb dX5_worthOf_36 (lv_at hl 4 rfl) ?_
                refine lv_iload_n hx hb dX5_worthOf_38 rfl (lv_at hl 2 rfl) ?_
                refine lv_icmp_eq (tgt := 96) hx hb dX5_worthOf_39 (by decide) (fun c_4 => ?_) (fun c_4 => ?_)
                · have _ := hx
                  have c_4 : i = i9 := (nI_eq (a := i) (b := i9) (by omega) (by omega)).mp c_4
                  refine lv_iinc (v := (nI (i + 1))) (lv' := [(4, .int (nI (i + 1))), (0, .ref (ad 0)), (1, .int (nI u9)), (2, .int (nI i9)), (3, .int s8), (5, .int (nI q))]) hx hb dX5_worthOf_96 hl (k := 4) rfl (xinc (by decide)) (by decide) rfl (fun ls hl => ?_)
                  refine lv_goto (tgt := 5) hx hb dX5_worthOf_99 (by decide) ?_
                  exact ihL (i + 1) (s8) (tp7) (g7) (by omega) (by rw [zwsum_no (fun q => q.2 c_4)]; rcases hq2 with hq2 | hq2; (rw [hs8, hq2]; exact congrArg _ (Int.add_zero _)); exact absurd c_4 hq2.2) (by omega) HL ⟨hO, hm0, hm1, hm2, hm3, hm4, hm5, hm6, hm7, hm8, hm9, hm10⟩ _ hS ls (lv_sub hl [1, 2, 3, 4, 0] rfl)
                · have _ := hx
                  have c_4 : ¬ (i = i9) := fun z => c_4 ((nI_eq (a := i) (b := i9) (by omega) (by omega)).mpr z)
                  refine lv_iload_n hx hb dX5_worthOf_42 rfl (lv_at hl 3 rfl) ?_
                  refine lv_aload_n hx hb dX5_worthOf_43 rfl (lv_at hl 0 rfl) ?_
                  refine lv_iload_n hx hb dX5_worthOf_44 rfl (lv_at hl 1 rfl) ?_
                  refine lv_iload_n hx hb dX5_worthOf_45 rfl (lv_at hl 2 rfl) ?_
                  refine lv_iload hx hb dX5_worthOf_46 (lv_at hl 4 rfl) ?_
                  refine lv_aload_n hx hb dX5_worthOf_48 rfl (lv_at hl 0 rfl) ?_
                  refine va_get (D := xD G) (ci := 6) (v := .ref (ad 6)) (C := RX5) (T := TX5) (N := 14) hx hb hts (by decide +kernel) hown hC.1 (x1 hm0) 0 rfl rfl 7 (by decide) (hts (.fieldLink RX5 26 "BidwhistleModel" "ones" "[I") (by decide +kernel)) (fun _ h9 => h9) rfl dX5_worthOf_49 ?_
                  refine lv_iload hx hb dX5_worthOf_52 (lv_at hl 5 rfl) ?_
                  refine x_iald (G := G) (j := q) hx hb hC hm6 (by omega) (by first | decide | omega) dX5_worthOf_54 ?_
                  refine lv_aload_n hx hb dX5_worthOf_55 rfl (lv_at hl 0 rfl) ?_
                  refine va_get (D := xD G) (ci := 6) (v := .ref (ad 7)) (C := RX5) (T := TX5) (N := 14) hx hb hts (by decide +kernel) hown hC.1 (x1 hm0) 0 rfl rfl 8 (by decide) (hts (.fieldLink RX5 29 "BidwhistleModel" "twos" "[I") (by decide +kernel)) (fun _ h9 => h9) rfl dX5_worthOf_56 ?_
                  refine lv_iload hx hb dX5_worthOf_59 (lv_at hl 5 rfl) ?_
                  refine x_iald (G := G) (j := q) hx hb hC hm7 (by omega) (by first | decide | omega) dX5_worthOf_61 ?_
                  have hsz := hS.1
                  refine x_call (px := xNo) (vx_runV (As := [.int (nI u9), .int (nI i9), .int (nI i), .int (nI (zO S q)), .int (nI (zT S q))]) (rest := [.int s8]) ⟨hx, hb, hml, hown, hts⟩ (c_X5_profitOf l hfl G ad S tp7 th g7 wo z u9 i9 i (zO S q) (zT S q) HL ⟨hO, hm0, hm1, hm2, hm3, hm4, hm5, hm6, hm7, hm8, hm9, hm10⟩ hW (by omega) (by omega) (by omega) (by have := hOT q; omega) (by have := hOT q; omega)) (cwV 5 hts gX5_worthOf_X5_profitOf rfl rfl rfl (by decide +kernel) ⟨(Nat.le_of_ble_eq_true rfl), (Nat.le_of_ble_eq_true rfl)⟩) (xPreV hC hS hm0 (q := (RX5, TX5, 14)) rfl) rfl rfl hl.1 rfl (lv_room (Nat.le_of_ble_eq_true rfl)) dX5_worthOf_62 ⟨(by first | exact Nat.le_of_ble_eq_true rfl | exact (show 0 + 0 ≤ 0 by omega)), (by first | exact Nat.le_of_ble_eq_true rfl | exact (show 0 + 0 ≤ 0 by omega))⟩) hS (fun _ h => h) (fun _ _ _ _ _ h => False.elim h) (fun v H_5 locs hp hz hk_6 hS => ?_)
                  obtain ⟨rfl, tp7, g7, hMM7⟩ := hp
                  obtain ⟨-, hm0, hm1, hm2, hm3, hm4, hm5, hm6, hm7, hm8, hm9, hm10⟩ := id hMM7
                  refine lv_aload_n hx hb dX5_worthOf_65 rfl (lv_at hl 0 rfl) ?_
                  refine lv_iload_n hx hb dX5_worthOf_66 rfl (lv_at hl 1 rfl) ?_
                  refine lv_iload_n hx hb dX5_worthOf_67 rfl (lv_at hl 2 rfl) ?_
                  refine lv_iload hx hb dX5_worthOf_68 (lv_at hl 4 rfl) ?_
                  refine lv_aload_n hx hb dX5_worthOf_70 rfl (lv_at hl 0 rfl) ?_
                  refine va_get (D := xD G) (ci := 6) (v := .ref (ad 7)) (C := RX5) (T := TX5) (N := 14) hx hb hts (by decide +kernel) hown hC.1 (x1 hm0) 0 rfl rfl 8 (by decide) (hts (.fieldLink RX5 29 "BidwhistleModel" "twos" "[I") (by decide +kernel)) (fun _ h9 => h9) rfl dX5_worthOf_71 ?_
                  refine lv_iload hx hb dX5_worthOf_74 (lv_at hl 5 rfl) ?_
                  refine x_iald (G := G) (j := q) hx hb hC hm7 (by omega) (by first | decide | omega) dX5_worthOf_76 ?_
                  refine lv_aload_n hx hb dX5_worthOf_77 rfl (lv_at hl 0 rfl) ?_
                  refine va_get (D := xD G) (ci := 6) (v := .ref (ad 6)) (C := RX5) (T := TX5) (N := 14) hx hb hts (by decide +kernel) hown hC.1 (x1 hm0) 0 rfl rfl 7 (by decide) (hts (.fieldLink RX5 26 "BidwhistleModel" "ones" "[I") (by decide +kernel)) (fun _ h9 => h9) rfl dX5_worthOf_78 ?_
                  refine lv_iload hx hb dX5_worthOf_81 (lv_at hl 5 rfl) ?_
                  refine x_iald (G := G) (j := q) hx hb hC hm6 (by omega) (by first | decide | omega) dX5_worthOf_83 ?_
                  have hsz := hS.1
                  refine x_call (px := xNo) (vx_runV (As := [.int (nI u9), .int (nI i9), .int (nI i), .int (nI (zT S q)), .int (nI (zO S q))]) (rest := [.int (Int32.ofInt (zprof S u9 i9 i (zO S q) (zT S q))), .int s8]) ⟨hx, hb, hml, hown, hts⟩ (c_X5_profitOf l hfl G ad S tp7 th g7 wo z u9 i9 i (zT S q) (zO S q) H_5 ⟨hO, hm0, hm1, hm2, hm3, hm4, hm5, hm6, hm7, hm8, hm9, hm10⟩ hW (by omega) (by omega) (by omega) (by have := hOT q; omega) (by have := hOT q; omega)) (cwV 5 hts gX5_worthOf_X5_profitOf rfl rfl rfl (by decide +kernel) ⟨(Nat.le_of_ble_eq_true rfl), (Nat.le_of_ble_eq_true rfl)⟩) (xPreV hC hS hm0 (q := (RX5, TX5, 14)) rfl) rfl rfl hl.1 rfl (lv_room (Nat.le_of_ble_eq_true rfl)) dX5_worthOf_84 ⟨(by first | exact Nat.le_of_ble_eq_true rfl | exact (show 0 + 0 ≤ 0 by omega)), (by first | exact Nat.le_of_ble_eq_true rfl | exact (show 0 + 0 ≤ 0 by omega))⟩) hS (fun _ h => h) (fun _ _ _ _ _ h => False.elim h) (fun v H_8 locs hp hz hk_9 hS => ?_)
                  obtain ⟨rfl, tp10, g10, hMM10⟩ := hp
                  obtain ⟨-, hm0, hm1, hm2, hm3, hm4, hm5, hm6, hm7, hm8, hm9, hm10⟩ := id hMM10
                  refine lv_iadd hx hb dX5_worthOf_87 ?_
                  refine lv_iadd hx hb dX5_worthOf_88 ?_
                  refine lv_istore_n (lv' := [(3, .int (s8 + ((Int32.ofInt (zprof S u9 i9 i (zO S q) (zT S q))) + (Int32.ofInt (zprof S u9 i9 i (zT S q) (zO S q)))))), (0, .ref (ad 0)), (1, .int (nI u9)), (2, .int (nI i9)), (4, .int (nI i)), (5, .int (nI q))]) hx hb dX5_worthOf_89 rfl hl (by decide) rfl (fun ls hl => ?_)
                  refine lv_iinc (v := (nI (q + 1))) (lv' := [(5, .int (nI (q + 1))), (3, .int (s8 + ((Int32.ofInt (zprof S u9 i9 i (zO S q) (zT S q))) + (Int32.ofInt (zprof S u9 i9 i (zT S q) (zO S q)))))), (0, .ref (ad 0)), (1, .int (nI u9)), (2, .int (nI i9)), (4, .int (nI i))]) hx hb dX5_worthOf_90 hl (k := 5) rfl (xinc (by decide)) (by decide) rfl (fun ls hl => ?_)
                  refine lv_goto (tgt := 17) hx hb dX5_worthOf_93 (by decide) ?_
                  exact ihK (q + 1) ((s8 + ((Int32.ofInt (zprof S u9 i9 i (zO S q) (zT S q))) + (Int32.ofInt (zprof S u9 i9 i (zT S q) (zO S q)))))) (tp10) (g10) (by omega) (Or.inr ⟨xb_1 c_3, c_4⟩) (by rw [hs8, ← Int32.ofInt_add, ← Int32.ofInt_add, Int.add_assoc]; rfl) (by omega) H_8 ⟨hO, hm0, hm1, hm2, hm3, hm4, hm5, hm6, hm7, hm8, hm9, hm10⟩ _ hS ls (lv_sub hl [2, 3, 4, 1, 5, 0] rfl)
        exact K _ (0) (s9) (tp8) (g8) (Nat.zero_le _) (Or.inl rfl) (by rw [hs9]; exact congrArg _ (Int.add_zero _).symm) (Nat.lt_succ_self _) HL ⟨hO, hm0, hm1, hm2, hm3, hm4, hm5, hm6, hm7, hm8, hm9, hm10⟩ _ hS ls (lv_sub hl [1, 2, 3, 4, 5, 0] rfl)
  exact L _ (0) (nI 0) (tp) (g) (Nat.zero_le _) (rfl) (Nat.lt_succ_self _) H ⟨hO, hm0, hm1, hm2, hm3, hm4, hm5, hm6, hm7, hm8, hm9, hm10⟩ _ hS ls (lv_sub hl [2, 3, 4, 1, 0] rfl)

set_option maxHeartbeats 4000000 in
set_option maxRecDepth 100000 in
/-- laysWorths(auction) -/
theorem c_X5_laysWorths (l : Launch) (hfl : l.stackTraces = false) (G : xG) (ad : Nat → Nat) (S : zS) (tp th : Nat) (g : Nat → Int) (wo : Nat → Int32) (z : Nat → Bool) (u9 : Nat) (H : Heap) (hM : MX G ad S tp th g wo z H) (hW : zW S) (hu9 : u9 < 4) : xMet l G yX5_laysWorths wsX5_laysWorths ({ frames := 5, cells := 0, slots := 0, locals := 123 } : Room) [.ref (ad 0), .int (nI u9)] H (fun v H1 => v = none ∧ ∃ tp2 g2 wo2, MX G ad S tp2 th g2 wo2 z H1 ∧ ∀ j, j < zN S → zI S j = true → wo2 j = Int32.ofInt (zworth S u9 j)) (xNo) := by
  refine vx_ofW (cc := cX5_laysWorths) (maxL := 3) (ret := none) (by decide) rfl ?_
  intro Pg Ev s m args below meth c s₁ B hml hout hv
  obtain ⟨rfl, hH, hC⟩ := hv
  have hx := B.exec
  have hb := B.bytes
  have hr := B.returns
  have hts := atoms_spec (ws := wsX5_laysWorths) B.pre
  have hown : s.vm.findClass RX5 = some m.cls := findClass_of_methodNamed B.named
  have hlocks := B.notSynchronized
  rw [hH]
  have hS : va_S (xA G) s.heap H [] := by rw [← hH]; exact va_S.rf
  generalize ([] : List Loc) = locs at hS ⊢
  have hl := lv_entry [.ref (ad 0), .int (nI u9)] (n := 3) (Nat.le_of_ble_eq_true rfl)
  rw [lg_entry_eq]
  generalize (lg_sl [.ref (ad 0), .int (nI u9)] ++ List.replicate (3 - (lg_sl [.ref (ad 0), .int (nI u9)]).length) Slot.unset).toArray = ls at hl ⊢
  have hl : lv_has ls 3 [(0, .ref (ad 0)), (1, .int (nI u9))] := hl
  obtain ⟨hO, hm0, hm1, hm2, hm3, hm4, hm5, hm6, hm7, hm8, hm9, hm10⟩ := id hM
  have hn20 := hW.1
  refine lv_iconst (v := (nI 0)) hx hb dX5_laysWorths_0 (by decide) ?_
  refine lv_istore_n (lv' := [(2, .int (nI 0)), (0, .ref (ad 0)), (1, .int (nI u9))]) hx hb dX5_laysWorths_1 rfl hl (by decide) rfl (fun ls hl => ?_)
  have L : ∀ (kL : Nat) (i : Nat) (tp8 : Nat) (g8 : Nat → Int) (wo8 : Nat → Int32), (i ≤ zN S) → (∀ j, j < i → zI S j = true → wo8 j = Int32.ofInt (zworth S u9 j)) → zN S - i < kL → ∀ (HL : Heap), (MX G ad S tp8 th g8 wo8 z HL) → ∀ (locs : List Loc), va_S (xA G) s.heap HL locs → ∀ ls : Array Slot, lv_has ls 3 [(0, .ref (ad 0)), (1, .int (nI u9)), (2, .int (nI i))] → W Pg l Ev (headSpec wsX5_laysWorths ({ frames := 5, cells := 0, slots := 0, locals := 123 } : Room)).room s m ([.ref (ad 0), .int (nI u9)] : List Value).toArray below meth c HL locs (0) (0) (vx_MQ below (xQ G (fun v H1 => v = none ∧ ∃ tp2 g2 wo2, MX G ad S tp2 th g2 wo2 z H1 ∧ ∀ j, j < zN S → zI S j = true → wo2 j = Int32.ofInt (zworth S u9 j))) (xX G (xNo)) ([.ref (ad 0), .int (nI u9)] : List Value).toArray s ({ frames := 5, cells := 0, slots := 0, locals := 123 } : Room).cells ({ frames := 5, cells := 0, slots := 0, locals := 123 } : Room).slots (xA G)) (F0 m 2 ls []) := by
    intro kL
    induction kL with
    | zero => intro i tp8 g8 wo8 hi hfs hk; exact absurd hk (Nat.not_lt_zero _)
    | succ kL ihL =>
      intro i tp8 g8 wo8 hi hfs hk HL hM8 locs hS ls hl
      obtain ⟨-, hm0, hm1, hm2, hm3, hm4, hm5, hm6, hm7, hm8, hm9, hm10⟩ := id hM8
      refine lv_iload_n hx hb dX5_laysWorths_2 rfl (lv_at hl 2 rfl) ?_
      refine lv_aload_n hx hb dX5_laysWorths_3 rfl (lv_at hl 0 rfl) ?_
      refine va_get (D := xD G) (ci := 6) (v := .int (nI (zN S))) (C := RX5) (T := TX5) (N := 14) hx hb hts (by decide +kernel) hown hC.1 (x1 hm0) 0 rfl rfl 2 (by decide) (hts (.fieldLink RX5 45 "BidwhistleModel" "stored" "I") (by decide +kernel)) (fun _ h9 => h9) rfl dX5_laysWorths_4 ?_
      refine lv_icmp_ge (tgt := 41) hx hb dX5_laysWorths_7 (by decide) (fun c_1 => ?_) (fun c_1 => ?_)
      · have _ := hx
        have c_1 : (zN S) ≤ i := (nI_leI (a := (zN S)) (b := i) (by omega) (by omega)).mp c_1
        exact x_vret (G := G) hx hb hr dX5_laysWorths_41 hlocks hS (by first | exact Nat.le_of_ble_eq_true rfl | exact (show 0 ≤ 0 by omega)) (by first | exact Nat.le_of_ble_eq_true rfl | exact (show 0 ≤ 0 by omega)) ⟨rfl, _, _, _, ⟨hO, hm0, hm1, hm2, hm3, hm4, hm5, hm6, hm7, hm8, hm9, hm10⟩, fun j hj => hfs j (by omega)⟩
      · have _ := hx
        have c_1 : ¬ ((zN S) ≤ i) := fun z => c_1 ((nI_leI (a := (zN S)) (b := i) (by omega) (by omega)).mpr z)
        refine lv_aload_n hx hb dX5_laysWorths_10 rfl (lv_at hl 0 rfl) ?_
        refine va_get (D := xD G) (ci := 6) (v := .ref (ad 9)) (C := RX5) (T := TX5) (N := 14) hx hb hts (by decide +kernel) hown hC.1 (x1 hm0) 0 rfl rfl 11 (by decide) (hts (.fieldLink RX5 35 "BidwhistleModel" "worths" "[I") (by decide +kernel)) (fun _ h9 => h9) rfl dX5_laysWorths_11 ?_
        refine lv_iload_n hx hb dX5_laysWorths_14 rfl (lv_at hl 2 rfl) ?_
        refine lv_aload_n hx hb dX5_laysWorths_15 rfl (lv_at hl 0 rfl) ?_
        refine va_get (D := xD G) (ci := 6) (v := .ref (ad 4)) (C := RX5) (T := TX5) (N := 14) hx hb hts (by decide +kernel) hown hC.1 (x1 hm0) 0 rfl rfl 4 (by decide) (hts (.fieldLink RX5 19 "BidwhistleModel" "isIn" "[Z") (by decide +kernel)) (fun _ h9 => h9) rfl dX5_laysWorths_16 ?_
        refine lv_iload_n hx hb dX5_laysWorths_19 rfl (lv_at hl 2 rfl) ?_
        refine x_zald (G := G) (j := i) hx hb hC hm4 (by omega) (by first | decide | omega) dX5_laysWorths_20 ?_
        refine lv_if_eq (tgt := 33) hx hb dX5_laysWorths_21 (by decide) (fun c_2 => ?_) (fun c_2 => ?_)
        · have _ := hx
          refine lv_iconst (v := (nI 0)) hx hb dX5_laysWorths_33 (by decide) ?_
          refine x_iastn (G := G) (j := i) hx hb hC hS (hO.2 9 (by omega) (by omega)) hm9 (by omega) (by first | decide | omega) dX5_laysWorths_34 (fun H_4 locs hm9 hc_3 hS => ?_)
          have hm0 := hc_3.at hm0 (xn1 (hO.ne (i := 0) (j := 9) (by omega) (by omega) (by omega)))
          have hm1 := hc_3.at hm1 (xn1 (hO.ne (i := 1) (j := 9) (by omega) (by omega) (by omega)))
          have hm2 := hc_3.at hm2 (xn1 (hO.ne (i := 2) (j := 9) (by omega) (by omega) (by omega)))
          have hm3 := hc_3.at hm3 (xn1 (hO.ne (i := 3) (j := 9) (by omega) (by omega) (by omega)))
          have hm4 := hc_3.at hm4 (xn1 (hO.ne (i := 4) (j := 9) (by omega) (by omega) (by omega)))
          have hm5 := hc_3.at hm5 (xn1 (hO.ne (i := 5) (j := 9) (by omega) (by omega) (by omega)))
          have hm6 := hc_3.at hm6 (xn1 (hO.ne (i := 6) (j := 9) (by omega) (by omega) (by omega)))
          have hm7 := hc_3.at hm7 (xn1 (hO.ne (i := 7) (j := 9) (by omega) (by omega) (by omega)))
          have hm8 := hc_3.at hm8 (xn1 (hO.ne (i := 8) (j := 9) (by omega) (by omega) (by omega)))
          have hm10 := hc_3.at hm10 (xn1 (hO.ne (i := 10) (j := 9) (by omega) (by omega) (by omega)))
          refine lv_iinc (v := (nI (i + 1))) (lv' := [(2, .int (nI (i + 1))), (0, .ref (ad 0)), (1, .int (nI u9))]) hx hb dX5_laysWorths_35 hl (k := 2) rfl (xinc (by decide)) (by decide) rfl (fun ls hl => ?_)
          refine lv_goto (tgt := 2) hx hb dX5_laysWorths_38 (by decide) ?_
          exact ihL (i + 1) (tp8) (g8) ((upd wo8 i (nI 0))) (by omega) (fun j hj hjI => by by_cases q : j = i; (rw [q, xb_0.mp c_2] at hjI; cases hjI); (rw [pk_un q]; exact hfs j (by omega) hjI)) (by omega) H_4 ⟨hO, hm0, hm1, hm2, hm3, hm4, hm5, hm6, hm7, hm8, hm9, hm10⟩ _ hS ls (lv_sub hl [1, 2, 0] rfl)
        · have _ := hx
          refine lv_aload_n hx hb dX5_laysWorths_24 rfl (lv_at hl 0 rfl) ?_
          refine lv_iload_n hx hb dX5_laysWorths_25 rfl (lv_at hl 1 rfl) ?_
          refine lv_iload_n hx hb dX5_laysWorths_26 rfl (lv_at hl 2 rfl) ?_
          have hsz := hS.1
          refine x_call (px := xNo) (vx_runV (As := [.int (nI u9), .int (nI i)]) (rest := [.int (nI i), .ref (ad 9)]) ⟨hx, hb, hml, hown, hts⟩ (c_X5_worthOf l hfl G ad S tp8 th g8 wo8 z u9 i HL ⟨hO, hm0, hm1, hm2, hm3, hm4, hm5, hm6, hm7, hm8, hm9, hm10⟩ hW (by omega) (by omega)) (cwV 2 hts gX5_laysWorths_X5_worthOf rfl rfl rfl (by decide +kernel) ⟨(Nat.le_of_ble_eq_true rfl), (Nat.le_of_ble_eq_true rfl)⟩) (xPreV hC hS hm0 (q := (RX5, TX5, 14)) rfl) rfl rfl hl.1 rfl (lv_room (Nat.le_of_ble_eq_true rfl)) dX5_laysWorths_27 ⟨(by first | exact Nat.le_of_ble_eq_true rfl | exact (show 0 + 0 ≤ 0 by omega)), (by first | exact Nat.le_of_ble_eq_true rfl | exact (show 0 + 0 ≤ 0 by omega))⟩) hS (fun _ h => h) (fun _ _ _ _ _ h => False.elim h) (fun v H_5 locs hp hz hk_6 hS => ?_)
          obtain ⟨rfl, tp7, g7, hMM7⟩ := hp
          obtain ⟨-, hm0, hm1, hm2, hm3, hm4, hm5, hm6, hm7, hm8, hm9, hm10⟩ := id hMM7
          refine lv_goto (tgt := 34) hx hb dX5_laysWorths_30 (by decide) ?_
          refine x_iastn (G := G) (j := i) hx hb hC hS (hO.2 9 (by omega) (by omega)) hm9 (by omega) (by first | decide | omega) dX5_laysWorths_34 (fun H_9 locs hm9 hc_8 hS => ?_)
          have hm0 := hc_8.at hm0 (xn1 (hO.ne (i := 0) (j := 9) (by omega) (by omega) (by omega)))
          have hm1 := hc_8.at hm1 (xn1 (hO.ne (i := 1) (j := 9) (by omega) (by omega) (by omega)))
          have hm2 := hc_8.at hm2 (xn1 (hO.ne (i := 2) (j := 9) (by omega) (by omega) (by omega)))
          have hm3 := hc_8.at hm3 (xn1 (hO.ne (i := 3) (j := 9) (by omega) (by omega) (by omega)))
          have hm4 := hc_8.at hm4 (xn1 (hO.ne (i := 4) (j := 9) (by omega) (by omega) (by omega)))
          have hm5 := hc_8.at hm5 (xn1 (hO.ne (i := 5) (j := 9) (by omega) (by omega) (by omega)))
          have hm6 := hc_8.at hm6 (xn1 (hO.ne (i := 6) (j := 9) (by omega) (by omega) (by omega)))
          have hm7 := hc_8.at hm7 (xn1 (hO.ne (i := 7) (j := 9) (by omega) (by omega) (by omega)))
          have hm8 := hc_8.at hm8 (xn1 (hO.ne (i := 8) (j := 9) (by omega) (by omega) (by omega)))
          have hm10 := hc_8.at hm10 (xn1 (hO.ne (i := 10) (j := 9) (by omega) (by omega) (by omega)))
          refine lv_iinc (v := (nI (i + 1))) (lv' := [(2, .int (nI (i + 1))), (0, .ref (ad 0)), (1, .int (nI u9))]) hx hb dX5_laysWorths_35 hl (k := 2) rfl (xinc (by decide)) (by decide) rfl (fun ls hl => ?_)
          refine lv_goto (tgt := 2) hx hb dX5_laysWorths_38 (by decide) ?_
          exact ihL (i + 1) (tp7) (g7) ((upd wo8 i (Int32.ofInt (zworth S u9 i)))) (by omega) (fun j hj hjI => by by_cases q : j = i; (subst q; exact pk_us); (rw [pk_un q]; exact hfs j (by omega) hjI)) (by omega) H_9 ⟨hO, hm0, hm1, hm2, hm3, hm4, hm5, hm6, hm7, hm8, hm9, hm10⟩ _ hS ls (lv_sub hl [1, 2, 0] rfl)
  exact L _ (0) (tp) (g) (wo) (Nat.zero_le _) (fun j hj => absurd hj (Nat.not_lt_zero j)) (Nat.lt_succ_self _) H ⟨hO, hm0, hm1, hm2, hm3, hm4, hm5, hm6, hm7, hm8, hm9, hm10⟩ _ hS ls (lv_sub hl [1, 2, 0] rfl)

set_option maxHeartbeats 4000000 in
set_option maxRecDepth 100000 in
/-- greatest(but) -/
theorem c_X5_greatest (l : Launch) (hfl : l.stackTraces = false) (G : xG) (ad : Nat → Nat) (S : zS) (tp th : Nat) (g : Nat → Int) (wo : Nat → Int32) (z : Nat → Bool) (b9 : Nat) (W9 : Nat → Int) (H : Heap) (hM : MX G ad S tp th g wo z H) (hW : zW S) (hW9 : ∀ j, -1000000 ≤ W9 j ∧ W9 j ≤ 1000000) (hf9 : ∀ j, j < zN S → zI S j = true → wo j = Int32.ofInt (W9 j)) (hb9 : b9 ≤ 1000) : xMet l G yX5_greatest wsX5_greatest ({ frames := 0, cells := 0, slots := 0, locals := 0 } : Room) [.ref (ad 0), .int (xpar b9)] H (xi H (xpar (zmost (zI S) W9 b9 (zN S)))) (xNo) := by
  refine vx_ofW (cc := cX5_greatest) (maxL := 5) (ret := (some .int)) (by decide) rfl ?_
  intro Pg Ev s m args below meth c s₁ B hml hout hv
  obtain ⟨rfl, hH, hC⟩ := hv
  have hx := B.exec
  have hb := B.bytes
  have hr := B.returns
  have hts := atoms_spec (ws := wsX5_greatest) B.pre
  have hown : s.vm.findClass RX5 = some m.cls := findClass_of_methodNamed B.named
  have hlocks := B.notSynchronized
  rw [hH]
  have hS : va_S (xA G) s.heap H [] := by rw [← hH]; exact va_S.rf
  generalize ([] : List Loc) = locs at hS ⊢
  have hl := lv_entry [.ref (ad 0), .int (xpar b9)] (n := 5) (Nat.le_of_ble_eq_true rfl)
  rw [lg_entry_eq]
  generalize (lg_sl [.ref (ad 0), .int (xpar b9)] ++ List.replicate (5 - (lg_sl [.ref (ad 0), .int (xpar b9)]).length) Slot.unset).toArray = ls at hl ⊢
  have hl : lv_has ls 5 [(0, .ref (ad 0)), (1, .int (xpar b9))] := hl
  obtain ⟨hO, hm0, hm1, hm2, hm3, hm4, hm5, hm6, hm7, hm8, hm9, hm10⟩ := id hM
  have hn20 := hW.1
  refine lv_iconst (v := xpar 0) hx hb dX5_greatest_0 (by decide) ?_
  refine lv_istore_n (lv' := [(2, .int (xpar 0)), (0, .ref (ad 0)), (1, .int (xpar b9))]) hx hb dX5_greatest_1 rfl hl (by decide) rfl (fun ls hl => ?_)
  refine lv_iconst (v := (nI 0)) hx hb dX5_greatest_2 (by decide) ?_
  refine lv_istore_n (lv' := [(3, .int (nI 0)), (2, .int (xpar 0)), (0, .ref (ad 0)), (1, .int (xpar b9))]) hx hb dX5_greatest_3 rfl hl (by decide) rfl (fun ls hl => ?_)
  have L : ∀ (kL : Nat) (i : Nat) (e9 : Nat), (i ≤ zN S) → (e9 = zmost (zI S) W9 b9 i) → (e9 ≠ 0 → zI S (e9 - 1) = true ∧ e9 ≤ i) → zN S - i < kL → ∀ (locs : List Loc), va_S (xA G) s.heap H locs → ∀ ls : Array Slot, lv_has ls 5 [(0, .ref (ad 0)), (1, .int (xpar b9)), (2, .int (xpar e9)), (3, .int (nI i))] → W Pg l Ev (headSpec wsX5_greatest ({ frames := 0, cells := 0, slots := 0, locals := 0 } : Room)).room s m ([.ref (ad 0), .int (xpar b9)] : List Value).toArray below meth c H locs (0) (0) (vx_MQ below (xQ G (xi H (xpar (zmost (zI S) W9 b9 (zN S))))) (xX G (xNo)) ([.ref (ad 0), .int (xpar b9)] : List Value).toArray s ({ frames := 0, cells := 0, slots := 0, locals := 0 } : Room).cells ({ frames := 0, cells := 0, slots := 0, locals := 0 } : Room).slots (xA G)) (F0 m 4 ls []) := by
    intro kL
    induction kL with
    | zero => intro i e9 hi he9 hmI hk; exact absurd hk (Nat.not_lt_zero _)
    | succ kL ihL =>
      intro i e9 hi he9 hmI hk locs hS ls hl
      refine lv_iload_n hx hb dX5_greatest_4 rfl (lv_at hl 3 rfl) ?_
      refine lv_aload_n hx hb dX5_greatest_5 rfl (lv_at hl 0 rfl) ?_
      refine va_get (D := xD G) (ci := 6) (v := .int (nI (zN S))) (C := RX5) (T := TX5) (N := 14) hx hb hts (by decide +kernel) hown hC.1 (x1 hm0) 0 rfl rfl 2 (by decide) (hts (.fieldLink RX5 45 "BidwhistleModel" "stored" "I") (by decide +kernel)) (fun _ h9 => h9) rfl dX5_greatest_6 ?_
      refine lv_icmp_ge (tgt := 70) hx hb dX5_greatest_9 (by decide) (fun c_1 => ?_) (fun c_1 => ?_)
      · have _ := hx
        have c_1 : (zN S) ≤ i := (nI_leI (a := (zN S)) (b := i) (by omega) (by omega)).mp c_1
        refine lv_iload_n hx hb dX5_greatest_70 rfl (lv_at hl 2 rfl) ?_
        exact x_iret (G := G) hx hb hr rfl dX5_greatest_71 hlocks hS (by first | exact Nat.le_of_ble_eq_true rfl | exact (show 0 ≤ 0 by omega)) (by first | exact Nat.le_of_ble_eq_true rfl | exact (show 0 ≤ 0 by omega)) ⟨rfl, by rw [he9, show i = zN S by omega]⟩
      · have _ := hx
        have c_1 : ¬ ((zN S) ≤ i) := fun z => c_1 ((nI_leI (a := (zN S)) (b := i) (by omega) (by omega)).mpr z)
        refine lv_aload_n hx hb dX5_greatest_12 rfl (lv_at hl 0 rfl) ?_
        refine va_get (D := xD G) (ci := 6) (v := .ref (ad 4)) (C := RX5) (T := TX5) (N := 14) hx hb hts (by decide +kernel) hown hC.1 (x1 hm0) 0 rfl rfl 4 (by decide) (hts (.fieldLink RX5 19 "BidwhistleModel" "isIn" "[Z") (by decide +kernel)) (fun _ h9 => h9) rfl dX5_greatest_13 ?_
        refine lv_iload_n hx hb dX5_greatest_16 rfl (lv_at hl 3 rfl) ?_
        refine x_zald (G := G) (j := i) hx hb hC hm4 (by omega) (by first | decide | omega) dX5_greatest_17 ?_
        refine lv_if_eq (tgt := 30) hx hb dX5_greatest_18 (by decide) (fun c_2 => ?_) (fun c_2 => ?_)
        · have _ := hx
          have hcond : ¬ (zI S i = true ∧ i + 1 ≠ b9 ∧ (zmost (zI S) W9 b9 i = 0 ∨ W9 (zmost (zI S) W9 b9 i - 1) < W9 i)) := fun q => by rw [xb_0.mp c_2] at q; exact absurd q.1 (by decide)
          refine lv_iconst (v := (nI 0)) hx hb dX5_greatest_30 (by decide) ?_
          refine lv_istore (lv' := [(4, .int (nI 0)), (0, .ref (ad 0)), (1, .int (xpar b9)), (2, .int (xpar e9)), (3, .int (nI i))]) hx hb dX5_greatest_31 hl (by decide) rfl (fun ls hl => ?_)
          refine lv_iload hx hb dX5_greatest_33 (lv_at hl 0 rfl) ?_
          refine lv_if_eq (tgt := 62) hx hb dX5_greatest_35 (by decide) (fun c_3 => ?_) (fun c_3 => ?_)
          · have _ := hx
            have c_3 : 0 = 0 := (nI_eq (a := 0) (b := 0) (by omega) (by omega)).mp c_3
            refine lv_iload_n hx hb dX5_greatest_62 rfl (lv_at hl 3 rfl) ?_
            refine lv_istore_n (lv' := [(2, .int (xpar e9)), (4, .int (nI 0)), (0, .ref (ad 0)), (1, .int (xpar b9)), (3, .int (nI i))]) hx hb dX5_greatest_63 rfl hl (by decide) rfl (fun ls hl => ?_)
            refine lv_iinc (v := (nI (i + 1))) (lv' := [(3, .int (nI (i + 1))), (2, .int (xpar e9)), (4, .int (nI 0)), (0, .ref (ad 0)), (1, .int (xpar b9))]) hx hb dX5_greatest_64 hl (k := 4) rfl (xinc (by decide)) (by decide) rfl (fun ls hl => ?_)
            refine lv_goto (tgt := 4) hx hb dX5_greatest_67 (by decide) ?_
            exact ihL (i + 1) (e9) (by omega) (by rw [zmost_no hcond]; exact he9) (fun q => ⟨(hmI q).1, by have := (hmI q).2; omega⟩) (by omega) _ hS ls (lv_sub hl [3, 4, 1, 0] rfl)
          · have _ := hx
            have c_3 : ¬ (0 = 0) := fun z => c_3 ((nI_eq (a := 0) (b := 0) (by omega) (by omega)).mpr z)
            exact absurd c_3 (by decide)
        · have _ := hx
          have hin := xb_1 c_2
          refine lv_iload_n hx hb dX5_greatest_21 rfl (lv_at hl 3 rfl) ?_
          refine lv_iload_n hx hb dX5_greatest_22 rfl (lv_at hl 1 rfl) ?_
          refine lv_icmp_eq (tgt := 30) hx hb dX5_greatest_23 (by decide) (fun c_4 => ?_) (fun c_4 => ?_)
          · have _ := hx
            have hcond : ¬ (zI S i = true ∧ i + 1 ≠ b9 ∧ (zmost (zI S) W9 b9 i = 0 ∨ W9 (zmost (zI S) W9 b9 i - 1) < W9 i)) := fun q => q.2.1 ((xpar_eq (by omega) (by omega)).mp (by first | exact c_4 | exact Classical.not_not.mp c_4))
            refine lv_iconst (v := (nI 0)) hx hb dX5_greatest_30 (by decide) ?_
            refine lv_istore (lv' := [(4, .int (nI 0)), (0, .ref (ad 0)), (1, .int (xpar b9)), (2, .int (xpar e9)), (3, .int (nI i))]) hx hb dX5_greatest_31 hl (by decide) rfl (fun ls hl => ?_)
            refine lv_iload hx hb dX5_greatest_33 (lv_at hl 0 rfl) ?_
            refine lv_if_eq (tgt := 62) hx hb dX5_greatest_35 (by decide) (fun c_5 => ?_) (fun c_5 => ?_)
            · have _ := hx
              have c_5 : 0 = 0 := (nI_eq (a := 0) (b := 0) (by omega) (by omega)).mp c_5
              refine lv_iload_n hx hb dX5_greatest_62 rfl (lv_at hl 3 rfl) ?_
              refine lv_istore_n (lv' := [(2, .int (xpar e9)), (4, .int (nI 0)), (0, .ref (ad 0)), (1, .int (xpar b9)), (3, .int (nI i))]) hx hb dX5_greatest_63 rfl hl (by decide) rfl (fun ls hl => ?_)
              refine lv_iinc (v := (nI (i + 1))) (lv' := [(3, .int (nI (i + 1))), (2, .int (xpar e9)), (4, .int (nI 0)), (0, .ref (ad 0)), (1, .int (xpar b9))]) hx hb dX5_greatest_64 hl (k := 4) rfl (xinc (by decide)) (by decide) rfl (fun ls hl => ?_)
              refine lv_goto (tgt := 4) hx hb dX5_greatest_67 (by decide) ?_
              exact ihL (i + 1) (e9) (by omega) (by rw [zmost_no hcond]; exact he9) (fun q => ⟨(hmI q).1, by have := (hmI q).2; omega⟩) (by omega) _ hS ls (lv_sub hl [3, 4, 1, 0] rfl)
            · have _ := hx
              have c_5 : ¬ (0 = 0) := fun z => c_5 ((nI_eq (a := 0) (b := 0) (by omega) (by omega)).mpr z)
              exact absurd c_5 (by decide)
          · have _ := hx
            have hne : i + 1 ≠ b9 := fun q => c_4 ((xpar_eq (by omega) (by omega)).mpr q)
            refine lv_iconst (v := (nI 1)) hx hb dX5_greatest_26 (by decide) ?_
            refine lv_goto (tgt := 31) hx hb dX5_greatest_27 (by decide) ?_
            refine lv_istore (lv' := [(4, .int (nI 1)), (0, .ref (ad 0)), (1, .int (xpar b9)), (2, .int (xpar e9)), (3, .int (nI i))]) hx hb dX5_greatest_31 hl (by decide) rfl (fun ls hl => ?_)
            refine lv_iload hx hb dX5_greatest_33 (lv_at hl 0 rfl) ?_
            refine lv_if_eq (tgt := 62) hx hb dX5_greatest_35 (by decide) (fun c_6 => ?_) (fun c_6 => ?_)
            · have _ := hx
              have c_6 : 1 = 0 := (nI_eq (a := 1) (b := 0) (by omega) (by omega)).mp c_6
              exact absurd c_6 (by decide)
            · have _ := hx
              have c_6 : ¬ (1 = 0) := fun z => c_6 ((nI_eq (a := 1) (b := 0) (by omega) (by omega)).mpr z)
              refine lv_iload_n hx hb dX5_greatest_38 rfl (lv_at hl 3 rfl) ?_
              refine lv_iconst (v := (-1)) hx hb dX5_greatest_39 (by decide) ?_
              refine lv_icmp_eq (tgt := 58) hx hb dX5_greatest_40 (by decide) (fun c_7 => ?_) (fun c_7 => ?_)
              · have _ := hx
                have hmle := zmost_le (zI S) W9 b9 i
                have hcond : (zI S i = true ∧ i + 1 ≠ b9 ∧ (zmost (zI S) W9 b9 i = 0 ∨ W9 (zmost (zI S) W9 b9 i - 1) < W9 i)) := ⟨hin, hne, Or.inl (by rw [← he9]; exact (xpar_m1 (by omega)).mp c_7)⟩
                refine lv_iload_n hx hb dX5_greatest_58 rfl (lv_at hl 4 rfl) ?_
                refine lv_goto (tgt := 63) hx hb dX5_greatest_59 (by decide) ?_
                rw [xpar_succ i]
                refine lv_istore_n (lv' := [(2, .int (xpar (i + 1))), (4, .int (nI 1)), (0, .ref (ad 0)), (1, .int (xpar b9)), (3, .int (nI i))]) hx hb dX5_greatest_63 rfl hl (by decide) rfl (fun ls hl => ?_)
                refine lv_iinc (v := (nI (i + 1))) (lv' := [(3, .int (nI (i + 1))), (2, .int (xpar (i + 1))), (4, .int (nI 1)), (0, .ref (ad 0)), (1, .int (xpar b9))]) hx hb dX5_greatest_64 hl (k := 4) rfl (xinc (by decide)) (by decide) rfl (fun ls hl => ?_)
                refine lv_goto (tgt := 4) hx hb dX5_greatest_67 (by decide) ?_
                exact ihL (i + 1) (i + 1) (by omega) ((zmost_yes hcond).symm) (fun _ => ⟨hin, Nat.le_refl _⟩) (by omega) _ hS ls (lv_sub hl [3, 4, 1, 0] rfl)
              · have _ := hx
                have hmle := zmost_le (zI S) W9 b9 i
                have hz0 : e9 ≠ 0 := fun q => c_7 ((xpar_m1 (by omega)).mpr q)
                refine lv_aload_n hx hb dX5_greatest_43 rfl (lv_at hl 1 rfl) ?_
                refine va_get (D := xD G) (ci := 6) (v := .ref (ad 9)) (C := RX5) (T := TX5) (N := 14) hx hb hts (by decide +kernel) hown hC.1 (x1 hm0) 0 rfl rfl 11 (by decide) (hts (.fieldLink RX5 35 "BidwhistleModel" "worths" "[I") (by decide +kernel)) (fun _ h9 => h9) rfl dX5_greatest_44 ?_
                refine lv_iload_n hx hb dX5_greatest_47 rfl (lv_at hl 4 rfl) ?_
                refine x_iald (G := G) (j := i) hx hb hC hm9 (by omega) (by first | decide | omega) dX5_greatest_48 ?_
                rw [hf9 i (by omega) hin]
                refine lv_aload_n hx hb dX5_greatest_49 rfl (lv_at hl 1 rfl) ?_
                refine va_get (D := xD G) (ci := 6) (v := .ref (ad 9)) (C := RX5) (T := TX5) (N := 14) hx hb hts (by decide +kernel) hown hC.1 (x1 hm0) 0 rfl rfl 11 (by decide) (hts (.fieldLink RX5 35 "BidwhistleModel" "worths" "[I") (by decide +kernel)) (fun _ h9 => h9) rfl dX5_greatest_50 ?_
                refine lv_iload_n hx hb dX5_greatest_53 rfl (lv_at hl 3 rfl) ?_
                obtain ⟨hmI1, hmI2⟩ := hmI hz0
                rw [xpar_pos hz0]
                refine x_iald (G := G) (j := (e9 - 1)) hx hb hC hm9 (by omega) (by first | decide | omega) dX5_greatest_54 ?_
                rw [hf9 (e9 - 1) (by omega) hmI1]
                refine lv_icmp_le (tgt := 62) hx hb dX5_greatest_55 (by decide) (fun c_8 => ?_) (fun c_8 => ?_)
                · have _ := hx
                  have hcond : ¬ (zI S i = true ∧ i + 1 ≠ b9 ∧ (zmost (zI S) W9 b9 i = 0 ∨ W9 (zmost (zI S) W9 b9 i - 1) < W9 i)) := fun q => by rw [← he9] at q; have h8 := (zI_le (by have := hW9 i; omega) (by have := hW9 (e9 - 1); omega)).mp c_8; rcases q.2.2 with q | q; exact hz0 q; omega
                  refine lv_iload_n hx hb dX5_greatest_62 rfl (lv_at hl 3 rfl) ?_
                  refine lv_istore_n (lv' := [(2, .int (xpar e9)), (4, .int (nI 1)), (0, .ref (ad 0)), (1, .int (xpar b9)), (3, .int (nI i))]) hx hb dX5_greatest_63 rfl hl (by decide) rfl (fun ls hl => ?_)
                  refine lv_iinc (v := (nI (i + 1))) (lv' := [(3, .int (nI (i + 1))), (2, .int (xpar e9)), (4, .int (nI 1)), (0, .ref (ad 0)), (1, .int (xpar b9))]) hx hb dX5_greatest_64 hl (k := 4) rfl (xinc (by decide)) (by decide) rfl (fun ls hl => ?_)
                  refine lv_goto (tgt := 4) hx hb dX5_greatest_67 (by decide) ?_
                  exact ihL (i + 1) (e9) (by omega) (by rw [zmost_no hcond]; exact he9) (fun q => ⟨(hmI q).1, by have := (hmI q).2; omega⟩) (by omega) _ hS ls (lv_sub hl [3, 4, 1, 0] rfl)
                · have _ := hx
                  have hcond : (zI S i = true ∧ i + 1 ≠ b9 ∧ (zmost (zI S) W9 b9 i = 0 ∨ W9 (zmost (zI S) W9 b9 i - 1) < W9 i)) := ⟨hin, hne, Or.inr (by rw [← he9]; exact Int.not_le.mp (fun q => c_8 ((zI_le (by have := hW9 i; omega) (by have := hW9 (e9 - 1); omega)).mpr q)))⟩
                  refine lv_iload_n hx hb dX5_greatest_58 rfl (lv_at hl 4 rfl) ?_
                  refine lv_goto (tgt := 63) hx hb dX5_greatest_59 (by decide) ?_
                  rw [xpar_succ i]
                  refine lv_istore_n (lv' := [(2, .int (xpar (i + 1))), (4, .int (nI 1)), (0, .ref (ad 0)), (1, .int (xpar b9)), (3, .int (nI i))]) hx hb dX5_greatest_63 rfl hl (by decide) rfl (fun ls hl => ?_)
                  refine lv_iinc (v := (nI (i + 1))) (lv' := [(3, .int (nI (i + 1))), (2, .int (xpar (i + 1))), (4, .int (nI 1)), (0, .ref (ad 0)), (1, .int (xpar b9))]) hx hb dX5_greatest_64 hl (k := 4) rfl (xinc (by decide)) (by decide) rfl (fun ls hl => ?_)
                  refine lv_goto (tgt := 4) hx hb dX5_greatest_67 (by decide) ?_
                  exact ihL (i + 1) (i + 1) (by omega) ((zmost_yes hcond).symm) (fun _ => ⟨hin, Nat.le_refl _⟩) (by omega) _ hS ls (lv_sub hl [3, 4, 1, 0] rfl)
  exact L _ (0) (0) (Nat.zero_le _) (rfl) (fun q => absurd rfl q) (Nat.lt_succ_self _) _ hS ls (lv_sub hl [2, 3, 1, 0] rfl)

set_option maxHeartbeats 4000000 in
set_option maxRecDepth 100000 in
/-- weakest() -/
theorem c_X5_weakest (l : Launch) (hfl : l.stackTraces = false) (G : xG) (ad : Nat → Nat) (S : zS) (tp th : Nat) (g : Nat → Int) (wo : Nat → Int32) (z : Nat → Bool) (u9 : Nat) (H : Heap) (hM : MX G ad S tp th g wo z H) (hW : zW S) (hf9 : ∀ j, j < zN S → zI S j = true → wo j = Int32.ofInt (zworth S u9 j)) : xMet l G yX5_weakest wsX5_weakest ({ frames := 0, cells := 0, slots := 0, locals := 0 } : Room) [.ref (ad 0)] H (xi H (xpar (zleast S u9 (zN S)))) (xNo) := by
  refine vx_ofW (cc := cX5_weakest) (maxL := 3) (ret := (some .int)) (by decide) rfl ?_
  intro Pg Ev s m args below meth c s₁ B hml hout hv
  obtain ⟨rfl, hH, hC⟩ := hv
  have hx := B.exec
  have hb := B.bytes
  have hr := B.returns
  have hts := atoms_spec (ws := wsX5_weakest) B.pre
  have hown : s.vm.findClass RX5 = some m.cls := findClass_of_methodNamed B.named
  have hlocks := B.notSynchronized
  rw [hH]
  have hS : va_S (xA G) s.heap H [] := by rw [← hH]; exact va_S.rf
  generalize ([] : List Loc) = locs at hS ⊢
  have hl := lv_entry [.ref (ad 0)] (n := 3) (Nat.le_of_ble_eq_true rfl)
  rw [lg_entry_eq]
  generalize (lg_sl [.ref (ad 0)] ++ List.replicate (3 - (lg_sl [.ref (ad 0)]).length) Slot.unset).toArray = ls at hl ⊢
  have hl : lv_has ls 3 [(0, .ref (ad 0))] := hl
  obtain ⟨hO, hm0, hm1, hm2, hm3, hm4, hm5, hm6, hm7, hm8, hm9, hm10⟩ := id hM
  have hn20 := hW.1
  refine lv_iconst (v := xpar 0) hx hb dX5_weakest_0 (by decide) ?_
  refine lv_istore_n (lv' := [(1, .int (xpar 0)), (0, .ref (ad 0))]) hx hb dX5_weakest_1 rfl hl (by decide) rfl (fun ls hl => ?_)
  refine lv_iconst (v := (nI 0)) hx hb dX5_weakest_2 (by decide) ?_
  refine lv_istore_n (lv' := [(2, .int (nI 0)), (1, .int (xpar 0)), (0, .ref (ad 0))]) hx hb dX5_weakest_3 rfl hl (by decide) rfl (fun ls hl => ?_)
  have L : ∀ (kL : Nat) (i : Nat) (e9 : Nat), (i ≤ zN S) → (e9 = zleast S u9 i) → (e9 ≠ 0 → zI S (e9 - 1) = true ∧ e9 ≤ i) → zN S - i < kL → ∀ (locs : List Loc), va_S (xA G) s.heap H locs → ∀ ls : Array Slot, lv_has ls 3 [(0, .ref (ad 0)), (1, .int (xpar e9)), (2, .int (nI i))] → W Pg l Ev (headSpec wsX5_weakest ({ frames := 0, cells := 0, slots := 0, locals := 0 } : Room)).room s m ([.ref (ad 0)] : List Value).toArray below meth c H locs (0) (0) (vx_MQ below (xQ G (xi H (xpar (zleast S u9 (zN S))))) (xX G (xNo)) ([.ref (ad 0)] : List Value).toArray s ({ frames := 0, cells := 0, slots := 0, locals := 0 } : Room).cells ({ frames := 0, cells := 0, slots := 0, locals := 0 } : Room).slots (xA G)) (F0 m 4 ls []) := by
    intro kL
    induction kL with
    | zero => intro i e9 hi he9 hmI hk; exact absurd hk (Nat.not_lt_zero _)
    | succ kL ihL =>
      intro i e9 hi he9 hmI hk locs hS ls hl
      refine lv_iload_n hx hb dX5_weakest_4 rfl (lv_at hl 2 rfl) ?_
      refine lv_aload_n hx hb dX5_weakest_5 rfl (lv_at hl 0 rfl) ?_
      refine va_get (D := xD G) (ci := 6) (v := .int (nI (zN S))) (C := RX5) (T := TX5) (N := 14) hx hb hts (by decide +kernel) hown hC.1 (x1 hm0) 0 rfl rfl 2 (by decide) (hts (.fieldLink RX5 45 "BidwhistleModel" "stored" "I") (by decide +kernel)) (fun _ h9 => h9) rfl dX5_weakest_6 ?_
      refine lv_icmp_ge (tgt := 53) hx hb dX5_weakest_9 (by decide) (fun c_1 => ?_) (fun c_1 => ?_)
      · have _ := hx
        have c_1 : (zN S) ≤ i := (nI_leI (a := (zN S)) (b := i) (by omega) (by omega)).mp c_1
        refine lv_iload_n hx hb dX5_weakest_53 rfl (lv_at hl 1 rfl) ?_
        exact x_iret (G := G) hx hb hr rfl dX5_weakest_54 hlocks hS (by first | exact Nat.le_of_ble_eq_true rfl | exact (show 0 ≤ 0 by omega)) (by first | exact Nat.le_of_ble_eq_true rfl | exact (show 0 ≤ 0 by omega)) ⟨rfl, by rw [he9, show i = zN S by omega]⟩
      · have _ := hx
        have c_1 : ¬ ((zN S) ≤ i) := fun z => c_1 ((nI_leI (a := (zN S)) (b := i) (by omega) (by omega)).mpr z)
        refine lv_aload_n hx hb dX5_weakest_12 rfl (lv_at hl 0 rfl) ?_
        refine va_get (D := xD G) (ci := 6) (v := .ref (ad 4)) (C := RX5) (T := TX5) (N := 14) hx hb hts (by decide +kernel) hown hC.1 (x1 hm0) 0 rfl rfl 4 (by decide) (hts (.fieldLink RX5 19 "BidwhistleModel" "isIn" "[Z") (by decide +kernel)) (fun _ h9 => h9) rfl dX5_weakest_13 ?_
        refine lv_iload_n hx hb dX5_weakest_16 rfl (lv_at hl 2 rfl) ?_
        refine x_zald (G := G) (j := i) hx hb hC hm4 (by omega) (by first | decide | omega) dX5_weakest_17 ?_
        refine lv_if_eq (tgt := 45) hx hb dX5_weakest_18 (by decide) (fun c_2 => ?_) (fun c_2 => ?_)
        · have _ := hx
          have hcond : ¬ (zI S i = true ∧ (zleast S u9 i = 0 ∨ zworth S u9 i ≤ zworth S u9 (zleast S u9 i - 1))) := fun q => by rw [xb_0.mp c_2] at q; exact absurd q.1 (by decide)
          refine lv_iload_n hx hb dX5_weakest_45 rfl (lv_at hl 1 rfl) ?_
          refine lv_istore_n (lv' := [(1, .int (xpar e9)), (0, .ref (ad 0)), (2, .int (nI i))]) hx hb dX5_weakest_46 rfl hl (by decide) rfl (fun ls hl => ?_)
          refine lv_iinc (v := (nI (i + 1))) (lv' := [(2, .int (nI (i + 1))), (1, .int (xpar e9)), (0, .ref (ad 0))]) hx hb dX5_weakest_47 hl (k := 2) rfl (xinc (by decide)) (by decide) rfl (fun ls hl => ?_)
          refine lv_goto (tgt := 4) hx hb dX5_weakest_50 (by decide) ?_
          exact ihL (i + 1) (e9) (by omega) (by rw [zleast_no hcond]; exact he9) (fun q => ⟨(hmI q).1, by have := (hmI q).2; omega⟩) (by omega) _ hS ls (lv_sub hl [2, 1, 0] rfl)
        · have _ := hx
          have hin := xb_1 c_2
          refine lv_iload_n hx hb dX5_weakest_21 rfl (lv_at hl 1 rfl) ?_
          refine lv_iconst (v := (-1)) hx hb dX5_weakest_22 (by decide) ?_
          refine lv_icmp_eq (tgt := 41) hx hb dX5_weakest_23 (by decide) (fun c_3 => ?_) (fun c_3 => ?_)
          · have _ := hx
            have hmle := zleast_le S u9 i
            have hcond : (zI S i = true ∧ (zleast S u9 i = 0 ∨ zworth S u9 i ≤ zworth S u9 (zleast S u9 i - 1))) := ⟨hin, Or.inl (by rw [← he9]; exact (xpar_m1 (by omega)).mp c_3)⟩
            refine lv_iload_n hx hb dX5_weakest_41 rfl (lv_at hl 2 rfl) ?_
            refine lv_goto (tgt := 46) hx hb dX5_weakest_42 (by decide) ?_
            rw [xpar_succ i]
            refine lv_istore_n (lv' := [(1, .int (xpar (i + 1))), (0, .ref (ad 0)), (2, .int (nI i))]) hx hb dX5_weakest_46 rfl hl (by decide) rfl (fun ls hl => ?_)
            refine lv_iinc (v := (nI (i + 1))) (lv' := [(2, .int (nI (i + 1))), (1, .int (xpar (i + 1))), (0, .ref (ad 0))]) hx hb dX5_weakest_47 hl (k := 2) rfl (xinc (by decide)) (by decide) rfl (fun ls hl => ?_)
            refine lv_goto (tgt := 4) hx hb dX5_weakest_50 (by decide) ?_
            exact ihL (i + 1) (i + 1) (by omega) ((zleast_yes hcond).symm) (fun _ => ⟨hin, Nat.le_refl _⟩) (by omega) _ hS ls (lv_sub hl [2, 1, 0] rfl)
          · have _ := hx
            have hmle := zleast_le S u9 i
            have hz0 : e9 ≠ 0 := fun q => c_3 ((xpar_m1 (by omega)).mpr q)
            refine lv_aload_n hx hb dX5_weakest_26 rfl (lv_at hl 0 rfl) ?_
            refine va_get (D := xD G) (ci := 6) (v := .ref (ad 9)) (C := RX5) (T := TX5) (N := 14) hx hb hts (by decide +kernel) hown hC.1 (x1 hm0) 0 rfl rfl 11 (by decide) (hts (.fieldLink RX5 35 "BidwhistleModel" "worths" "[I") (by decide +kernel)) (fun _ h9 => h9) rfl dX5_weakest_27 ?_
            refine lv_iload_n hx hb dX5_weakest_30 rfl (lv_at hl 2 rfl) ?_
            refine x_iald (G := G) (j := i) hx hb hC hm9 (by omega) (by first | decide | omega) dX5_weakest_31 ?_
            rw [hf9 i (by omega) hin]
            refine lv_aload_n hx hb dX5_weakest_32 rfl (lv_at hl 0 rfl) ?_
            refine va_get (D := xD G) (ci := 6) (v := .ref (ad 9)) (C := RX5) (T := TX5) (N := 14) hx hb hts (by decide +kernel) hown hC.1 (x1 hm0) 0 rfl rfl 11 (by decide) (hts (.fieldLink RX5 35 "BidwhistleModel" "worths" "[I") (by decide +kernel)) (fun _ h9 => h9) rfl dX5_weakest_33 ?_
            refine lv_iload_n hx hb dX5_weakest_36 rfl (lv_at hl 1 rfl) ?_
            obtain ⟨hmI1, hmI2⟩ := hmI hz0
            rw [xpar_pos hz0]
            refine x_iald (G := G) (j := (e9 - 1)) hx hb hC hm9 (by omega) (by first | decide | omega) dX5_weakest_37 ?_
            rw [hf9 (e9 - 1) (by omega) hmI1]
            refine lv_icmp_gt (tgt := 45) hx hb dX5_weakest_38 (by decide) (fun c_4 => ?_) (fun c_4 => ?_)
            · have _ := hx
              have hcond : ¬ (zI S i = true ∧ (zleast S u9 i = 0 ∨ zworth S u9 i ≤ zworth S u9 (zleast S u9 i - 1))) := fun q => by rw [← he9] at q; have h8 := (zI_lt (by have := zworth_in hW u9 (e9 - 1); omega) (by have := zworth_in hW u9 i; omega)).mp c_4; rcases q.2 with q | q; exact hz0 q; omega
              refine lv_iload_n hx hb dX5_weakest_45 rfl (lv_at hl 1 rfl) ?_
              refine lv_istore_n (lv' := [(1, .int (xpar e9)), (0, .ref (ad 0)), (2, .int (nI i))]) hx hb dX5_weakest_46 rfl hl (by decide) rfl (fun ls hl => ?_)
              refine lv_iinc (v := (nI (i + 1))) (lv' := [(2, .int (nI (i + 1))), (1, .int (xpar e9)), (0, .ref (ad 0))]) hx hb dX5_weakest_47 hl (k := 2) rfl (xinc (by decide)) (by decide) rfl (fun ls hl => ?_)
              refine lv_goto (tgt := 4) hx hb dX5_weakest_50 (by decide) ?_
              exact ihL (i + 1) (e9) (by omega) (by rw [zleast_no hcond]; exact he9) (fun q => ⟨(hmI q).1, by have := (hmI q).2; omega⟩) (by omega) _ hS ls (lv_sub hl [2, 1, 0] rfl)
            · have _ := hx
              have hcond : (zI S i = true ∧ (zleast S u9 i = 0 ∨ zworth S u9 i ≤ zworth S u9 (zleast S u9 i - 1))) := ⟨hin, Or.inr (by rw [← he9]; exact Int.not_lt.mp (fun q => c_4 ((zI_lt (by have := zworth_in hW u9 (e9 - 1); omega) (by have := zworth_in hW u9 i; omega)).mpr q)))⟩
              refine lv_iload_n hx hb dX5_weakest_41 rfl (lv_at hl 2 rfl) ?_
              refine lv_goto (tgt := 46) hx hb dX5_weakest_42 (by decide) ?_
              rw [xpar_succ i]
              refine lv_istore_n (lv' := [(1, .int (xpar (i + 1))), (0, .ref (ad 0)), (2, .int (nI i))]) hx hb dX5_weakest_46 rfl hl (by decide) rfl (fun ls hl => ?_)
              refine lv_iinc (v := (nI (i + 1))) (lv' := [(2, .int (nI (i + 1))), (1, .int (xpar (i + 1))), (0, .ref (ad 0))]) hx hb dX5_weakest_47 hl (k := 2) rfl (xinc (by decide)) (by decide) rfl (fun ls hl => ?_)
              refine lv_goto (tgt := 4) hx hb dX5_weakest_50 (by decide) ?_
              exact ihL (i + 1) (i + 1) (by omega) ((zleast_yes hcond).symm) (fun _ => ⟨hin, Nat.le_refl _⟩) (by omega) _ hS ls (lv_sub hl [2, 1, 0] rfl)
  exact L _ (0) (0) (Nat.zero_le _) (rfl) (fun q => absurd rfl q) (Nat.lt_succ_self _) _ hS ls (lv_sub hl [2, 1, 0] rfl)
