/-! the game: what a call requires, strategies, profits, worths -/
theorem zx1 {cls : String} {b : Bool} {H : Heap} {E : String} {H1 : Heap} (h : zx [cls] (if b = true then 0 else 1) H E H1) : b = false ∧ E = cls ∧ xC [] H H1 := by
  obtain ⟨⟨h1, h2⟩, h3⟩ := h
  cases b with
  | true => exact absurd h1 (by decide)
  | false => exact ⟨rfl, (by simpa using h2.symm), h3⟩
theorem zx_mk {es : List String} {k : Nat} {H : Heap} {E : String} {H1 : Heap} (j : Nat) (hk : k = j + 1) (he : es[j]? = some E) (hc : xC [] H H1) : zx es k H E H1 := by subst hk; exact ⟨⟨Nat.le_add_left _ _, he⟩, hc⟩
set_option maxHeartbeats 4000000 in
set_option maxRecDepth 100000 in
/-- requireStep: one of 17 numbers -/
theorem c_X4_requireStep (l : Launch) (hfl : l.stackTraces = false) (G : xG) (p9 : Int32) (H : Heap) : xMet l G yX4_requireStep wsX4_requireStep ({ frames := 6, cells := 1, slots := 6, locals := 90 } : Room) [.int p9] H (fun v H1 => xok p9 17 = true ∧ H = H1 ∧ v = none) (zx [zIA] (if xok p9 17 = true then 0 else 1) H) := by
  refine vx_ofW (cc := cX4_requireStep) (maxL := 1) (ret := none) (by decide) rfl ?_
  intro Pg Ev s m args below meth c s₁ B hml hout hv
  obtain ⟨rfl, hH, hC⟩ := hv
  have hx := B.exec
  have hb := B.bytes
  have hr := B.returns
  have hts := atoms_spec (ws := wsX4_requireStep) B.pre
  have hown : s.vm.findClass RX4 = some m.cls := findClass_of_methodNamed B.named
  have hlocks := B.notSynchronized
  rw [hH]
  have hS : va_S (xA G) s.heap H [] := by rw [← hH]; exact va_S.rf
  generalize ([] : List Loc) = locs at hS ⊢
  have hl := lv_entry [.int p9] (n := 1) (Nat.le_of_ble_eq_true rfl)
  rw [lg_entry_eq]
  generalize (lg_sl [.int p9] ++ List.replicate (1 - (lg_sl [.int p9]).length) Slot.unset).toArray = ls at hl ⊢
  have hl : lv_has ls 1 [(0, .int p9)] := hl
  refine lv_iload_n hx hb dX4_requireStep_0 rfl (lv_at hl 0 rfl) ?_
  refine lv_if_lt (tgt := 10) hx hb dX4_requireStep_1 (by decide) (fun c_1 => ?_) (fun c_1 => ?_)
  · have _ := hx
    have hk : xok p9 17 = false := xok_lt 17 c_1
    exact x_throw (G := G) (cls := "java/lang/IllegalArgumentException") (text := "no such step") hx hb hfl hts hown (by decide +kernel) (by decide +kernel) (by decide +kernel) (by decide +kernel) (by decide +kernel) tbad_IA tgood_IA hC hS (by rw [hml]; exact hl.1) dX4_requireStep_10 dX4_requireStep_13 dX4_requireStep_14 dX4_requireStep_16 dX4_requireStep_19 hout (Nat.le_of_ble_eq_true rfl) (Nat.le_of_ble_eq_true rfl) (by first | exact Nat.le_of_ble_eq_true rfl | exact (show 0 + 1 ≤ 1 by omega)) (by first | exact Nat.le_of_ble_eq_true rfl | exact (show 0 + 6 ≤ 6 by omega)) hlocks (fun H1 hcx => zx_mk 0 (by rw [hk]; rfl) rfl hcx) (by first | exact Nat.le_of_ble_eq_true rfl | exact (show 0 + 1 ≤ 1 by omega)) (by first | exact Nat.le_of_ble_eq_true rfl | exact (show 0 + 6 ≤ 6 by omega))
  · have _ := hx
    have hk0 := c_1
    refine lv_iload_n hx hb dX4_requireStep_4 rfl (lv_at hl 0 rfl) ?_
    refine lv_bipush (v := (nI 16)) hx hb dX4_requireStep_5 (by decide) ?_
    refine lv_icmp_le (tgt := 20) hx hb dX4_requireStep_7 (by decide) (fun c_2 => ?_) (fun c_2 => ?_)
    · have _ := hx
      have hk : xok p9 17 = true := xok_in (by decide) hk0 ((xlt_succ (by decide)).mpr c_2)
      exact x_vret (G := G) hx hb hr dX4_requireStep_20 hlocks hS (by first | exact Nat.le_of_ble_eq_true rfl | exact (show 0 ≤ 1 by omega)) (by first | exact Nat.le_of_ble_eq_true rfl | exact (show 0 ≤ 6 by omega)) ⟨hk, rfl, rfl⟩
    · have _ := hx
      have hk : xok p9 17 = false := xok_ge (by decide) (fun z => c_2 ((xlt_succ (by decide)).mp z))
      exact x_throw (G := G) (cls := "java/lang/IllegalArgumentException") (text := "no such step") hx hb hfl hts hown (by decide +kernel) (by decide +kernel) (by decide +kernel) (by decide +kernel) (by decide +kernel) tbad_IA tgood_IA hC hS (by rw [hml]; exact hl.1) dX4_requireStep_10 dX4_requireStep_13 dX4_requireStep_14 dX4_requireStep_16 dX4_requireStep_19 hout (Nat.le_of_ble_eq_true rfl) (Nat.le_of_ble_eq_true rfl) (by first | exact Nat.le_of_ble_eq_true rfl | exact (show 0 + 1 ≤ 1 by omega)) (by first | exact Nat.le_of_ble_eq_true rfl | exact (show 0 + 6 ≤ 6 by omega)) hlocks (fun H1 hcx => zx_mk 0 (by rw [hk]; rfl) rfl hcx) (by first | exact Nat.le_of_ble_eq_true rfl | exact (show 0 + 1 ≤ 1 by omega)) (by first | exact Nat.le_of_ble_eq_true rfl | exact (show 0 + 6 ≤ 6 by omega))

set_option maxHeartbeats 4000000 in
set_option maxRecDepth 100000 in
/-- requireValue: one of 100 numbers -/
theorem c_X4_requireValue (l : Launch) (hfl : l.stackTraces = false) (G : xG) (p9 : Int32) (H : Heap) : xMet l G yX4_requireValue wsX4_requireValue ({ frames := 6, cells := 1, slots := 6, locals := 90 } : Room) [.int p9] H (fun v H1 => xok p9 100 = true ∧ H = H1 ∧ v = none) (zx [zIA] (if xok p9 100 = true then 0 else 1) H) := by
  refine vx_ofW (cc := cX4_requireValue) (maxL := 1) (ret := none) (by decide) rfl ?_
  intro Pg Ev s m args below meth c s₁ B hml hout hv
  obtain ⟨rfl, hH, hC⟩ := hv
  have hx := B.exec
  have hb := B.bytes
  have hr := B.returns
  have hts := atoms_spec (ws := wsX4_requireValue) B.pre
  have hown : s.vm.findClass RX4 = some m.cls := findClass_of_methodNamed B.named
  have hlocks := B.notSynchronized
  rw [hH]
  have hS : va_S (xA G) s.heap H [] := by rw [← hH]; exact va_S.rf
  generalize ([] : List Loc) = locs at hS ⊢
  have hl := lv_entry [.int p9] (n := 1) (Nat.le_of_ble_eq_true rfl)
  rw [lg_entry_eq]
  generalize (lg_sl [.int p9] ++ List.replicate (1 - (lg_sl [.int p9]).length) Slot.unset).toArray = ls at hl ⊢
  have hl : lv_has ls 1 [(0, .int p9)] := hl
  refine lv_iload_n hx hb dX4_requireValue_0 rfl (lv_at hl 0 rfl) ?_
  refine lv_if_lt (tgt := 10) hx hb dX4_requireValue_1 (by decide) (fun c_1 => ?_) (fun c_1 => ?_)
  · have _ := hx
    have hk : xok p9 100 = false := xok_lt 100 c_1
    exact x_throw (G := G) (cls := "java/lang/IllegalArgumentException") (text := "a value out of range") hx hb hfl hts hown (by decide +kernel) (by decide +kernel) (by decide +kernel) (by decide +kernel) (by decide +kernel) tbad_IA tgood_IA hC hS (by rw [hml]; exact hl.1) dX4_requireValue_10 dX4_requireValue_13 dX4_requireValue_14 dX4_requireValue_16 dX4_requireValue_19 hout (Nat.le_of_ble_eq_true rfl) (Nat.le_of_ble_eq_true rfl) (by first | exact Nat.le_of_ble_eq_true rfl | exact (show 0 + 1 ≤ 1 by omega)) (by first | exact Nat.le_of_ble_eq_true rfl | exact (show 0 + 6 ≤ 6 by omega)) hlocks (fun H1 hcx => zx_mk 0 (by rw [hk]; rfl) rfl hcx) (by first | exact Nat.le_of_ble_eq_true rfl | exact (show 0 + 1 ≤ 1 by omega)) (by first | exact Nat.le_of_ble_eq_true rfl | exact (show 0 + 6 ≤ 6 by omega))
  · have _ := hx
    have hk0 := c_1
    refine lv_iload_n hx hb dX4_requireValue_4 rfl (lv_at hl 0 rfl) ?_
    refine lv_bipush (v := (nI 100)) hx hb dX4_requireValue_5 (by decide) ?_
    refine lv_icmp_lt (tgt := 20) hx hb dX4_requireValue_7 (by decide) (fun c_2 => ?_) (fun c_2 => ?_)
    · have _ := hx
      have hk : xok p9 100 = true := xok_in (by decide) hk0 c_2
      exact x_vret (G := G) hx hb hr dX4_requireValue_20 hlocks hS (by first | exact Nat.le_of_ble_eq_true rfl | exact (show 0 ≤ 1 by omega)) (by first | exact Nat.le_of_ble_eq_true rfl | exact (show 0 ≤ 6 by omega)) ⟨hk, rfl, rfl⟩
    · have _ := hx
      have hk : xok p9 100 = false := xok_ge (by decide) c_2
      exact x_throw (G := G) (cls := "java/lang/IllegalArgumentException") (text := "a value out of range") hx hb hfl hts hown (by decide +kernel) (by decide +kernel) (by decide +kernel) (by decide +kernel) (by decide +kernel) tbad_IA tgood_IA hC hS (by rw [hml]; exact hl.1) dX4_requireValue_10 dX4_requireValue_13 dX4_requireValue_14 dX4_requireValue_16 dX4_requireValue_19 hout (Nat.le_of_ble_eq_true rfl) (Nat.le_of_ble_eq_true rfl) (by first | exact Nat.le_of_ble_eq_true rfl | exact (show 0 + 1 ≤ 1 by omega)) (by first | exact Nat.le_of_ble_eq_true rfl | exact (show 0 + 6 ≤ 6 by omega)) hlocks (fun H1 hcx => zx_mk 0 (by rw [hk]; rfl) rfl hcx) (by first | exact Nat.le_of_ble_eq_true rfl | exact (show 0 + 1 ≤ 1 by omega)) (by first | exact Nat.le_of_ble_eq_true rfl | exact (show 0 + 6 ≤ 6 by omega))

set_option maxHeartbeats 4000000 in
set_option maxRecDepth 100000 in
/-- requireAuction: one of 4 numbers -/
theorem c_X4_requireAuction (l : Launch) (hfl : l.stackTraces = false) (G : xG) (p9 : Int32) (H : Heap) : xMet l G yX4_requireAuction wsX4_requireAuction ({ frames := 6, cells := 1, slots := 6, locals := 90 } : Room) [.int p9] H (fun v H1 => xok p9 4 = true ∧ H = H1 ∧ v = none) (zx [zIA] (if xok p9 4 = true then 0 else 1) H) := by
  refine vx_ofW (cc := cX4_requireAuction) (maxL := 1) (ret := none) (by decide) rfl ?_
  intro Pg Ev s m args below meth c s₁ B hml hout hv
  obtain ⟨rfl, hH, hC⟩ := hv
  have hx := B.exec
  have hb := B.bytes
  have hr := B.returns
  have hts := atoms_spec (ws := wsX4_requireAuction) B.pre
  have hown : s.vm.findClass RX4 = some m.cls := findClass_of_methodNamed B.named
  have hlocks := B.notSynchronized
  rw [hH]
  have hS : va_S (xA G) s.heap H [] := by rw [← hH]; exact va_S.rf
  generalize ([] : List Loc) = locs at hS ⊢
  have hl := lv_entry [.int p9] (n := 1) (Nat.le_of_ble_eq_true rfl)
  rw [lg_entry_eq]
  generalize (lg_sl [.int p9] ++ List.replicate (1 - (lg_sl [.int p9]).length) Slot.unset).toArray = ls at hl ⊢
  have hl : lv_has ls 1 [(0, .int p9)] := hl
  refine lv_iload_n hx hb dX4_requireAuction_0 rfl (lv_at hl 0 rfl) ?_
  refine lv_if_lt (tgt := 9) hx hb dX4_requireAuction_1 (by decide) (fun c_1 => ?_) (fun c_1 => ?_)
  · have _ := hx
    have hk : xok p9 4 = false := xok_lt 4 c_1
    exact x_throw (G := G) (cls := "java/lang/IllegalArgumentException") (text := "no such auction") hx hb hfl hts hown (by decide +kernel) (by decide +kernel) (by decide +kernel) (by decide +kernel) (by decide +kernel) tbad_IA tgood_IA hC hS (by rw [hml]; exact hl.1) dX4_requireAuction_9 dX4_requireAuction_12 dX4_requireAuction_13 dX4_requireAuction_15 dX4_requireAuction_18 hout (Nat.le_of_ble_eq_true rfl) (Nat.le_of_ble_eq_true rfl) (by first | exact Nat.le_of_ble_eq_true rfl | exact (show 0 + 1 ≤ 1 by omega)) (by first | exact Nat.le_of_ble_eq_true rfl | exact (show 0 + 6 ≤ 6 by omega)) hlocks (fun H1 hcx => zx_mk 0 (by rw [hk]; rfl) rfl hcx) (by first | exact Nat.le_of_ble_eq_true rfl | exact (show 0 + 1 ≤ 1 by omega)) (by first | exact Nat.le_of_ble_eq_true rfl | exact (show 0 + 6 ≤ 6 by omega))
  · have _ := hx
    have hk0 := c_1
    refine lv_iload_n hx hb dX4_requireAuction_4 rfl (lv_at hl 0 rfl) ?_
    refine lv_iconst (v := (nI 3)) hx hb dX4_requireAuction_5 (by decide) ?_
    refine lv_icmp_le (tgt := 19) hx hb dX4_requireAuction_6 (by decide) (fun c_2 => ?_) (fun c_2 => ?_)
    · have _ := hx
      have hk : xok p9 4 = true := xok_in (by decide) hk0 ((xlt_succ (by decide)).mpr c_2)
      exact x_vret (G := G) hx hb hr dX4_requireAuction_19 hlocks hS (by first | exact Nat.le_of_ble_eq_true rfl | exact (show 0 ≤ 1 by omega)) (by first | exact Nat.le_of_ble_eq_true rfl | exact (show 0 ≤ 6 by omega)) ⟨hk, rfl, rfl⟩
    · have _ := hx
      have hk : xok p9 4 = false := xok_ge (by decide) (fun z => c_2 ((xlt_succ (by decide)).mp z))
      exact x_throw (G := G) (cls := "java/lang/IllegalArgumentException") (text := "no such auction") hx hb hfl hts hown (by decide +kernel) (by decide +kernel) (by decide +kernel) (by decide +kernel) (by decide +kernel) tbad_IA tgood_IA hC hS (by rw [hml]; exact hl.1) dX4_requireAuction_9 dX4_requireAuction_12 dX4_requireAuction_13 dX4_requireAuction_15 dX4_requireAuction_18 hout (Nat.le_of_ble_eq_true rfl) (Nat.le_of_ble_eq_true rfl) (by first | exact Nat.le_of_ble_eq_true rfl | exact (show 0 + 1 ≤ 1 by omega)) (by first | exact Nat.le_of_ble_eq_true rfl | exact (show 0 + 6 ≤ 6 by omega)) hlocks (fun H1 hcx => zx_mk 0 (by rw [hk]; rfl) rfl hcx) (by first | exact Nat.le_of_ble_eq_true rfl | exact (show 0 + 1 ≤ 1 by omega)) (by first | exact Nat.le_of_ble_eq_true rfl | exact (show 0 + 6 ≤ 6 by omega))

set_option maxHeartbeats 4000000 in
set_option maxRecDepth 100000 in
/-- requireInPool -/
theorem c_X4_requireInPool (l : Launch) (hfl : l.stackTraces = false) (G : xG) (h f1 f4 : Nat) (f0 f2 f3 f5 f6 : Int32) (b9 : Bool) (H : Heap) (hh0 : oA G h 4 [.int f0, .ref f1, .int f2, .int f3, .ref f4, .int f5, .int f6, .int (xb b9)] H) : xMet l G yX4_requireInPool wsX4_requireInPool ({ frames := 6, cells := 1, slots := 6, locals := 90 } : Room) [.ref h] H (fun v H1 => b9 = true ∧ H = H1 ∧ v = none) (zx [zIS] (if b9 = true then 0 else 1) H) := by
  refine vx_ofW (cc := cX4_requireInPool) (maxL := 1) (ret := none) (by decide) rfl ?_
  intro Pg Ev s m args below meth c s₁ B hml hout hv
  obtain ⟨rfl, hH, hC⟩ := hv
  have hx := B.exec
  have hb := B.bytes
  have hr := B.returns
  have hts := atoms_spec (ws := wsX4_requireInPool) B.pre
  have hown : s.vm.findClass RX4 = some m.cls := findClass_of_methodNamed B.named
  have hlocks := B.notSynchronized
  rw [hH]
  have hS : va_S (xA G) s.heap H [] := by rw [← hH]; exact va_S.rf
  generalize ([] : List Loc) = locs at hS ⊢
  have hl := lv_entry [.ref h] (n := 1) (Nat.le_of_ble_eq_true rfl)
  rw [lg_entry_eq]
  generalize (lg_sl [.ref h] ++ List.replicate (1 - (lg_sl [.ref h]).length) Slot.unset).toArray = ls at hl ⊢
  have hl : lv_has ls 1 [(0, .ref h)] := hl
  refine lv_aload_n hx hb dX4_requireInPool_0 rfl (lv_at hl 0 rfl) ?_
  refine va_getN (D := xD G) (ci := 4) (v := .int (xb b9)) (C := RX3) (T := TX3) (N := 8) hx hb hts (by decide +kernel) hown hC.1 (x1 hh0) 0 rfl rfl 7 (by decide) (va_Nw.use rfl (hC.2.1 (.fieldLinkNest "Bidwhistle" 129 "Bidwhistle$Strategy" "inPool" "Z" "Bidwhistle") (by decide +kernel))) (fun _ h9 => h9) rfl dX4_requireInPool_1 ?_
  refine lv_if_ne (tgt := 17) hx hb dX4_requireInPool_4 (by decide) (fun c_1 => ?_) (fun c_1 => ?_)
  · have _ := hx
    have hk : b9 = true := by cases b9; exact absurd rfl c_1; rfl
    exact x_vret (G := G) hx hb hr dX4_requireInPool_17 hlocks hS (by first | exact Nat.le_of_ble_eq_true rfl | exact (show 0 ≤ 1 by omega)) (by first | exact Nat.le_of_ble_eq_true rfl | exact (show 0 ≤ 6 by omega)) ⟨hk, rfl, rfl⟩
  · have _ := hx
    have hk : b9 = false := xb_0.mp (by first | exact c_1 | exact Classical.not_not.mp c_1)
    exact x_throw (G := G) (cls := "java/lang/IllegalStateException") (text := "it is not in the pool") hx hb hfl hts hown (by decide +kernel) (by decide +kernel) (by decide +kernel) (by decide +kernel) (by decide +kernel) tbad_IS tgood_IS hC hS (by rw [hml]; exact hl.1) dX4_requireInPool_7 dX4_requireInPool_10 dX4_requireInPool_11 dX4_requireInPool_13 dX4_requireInPool_16 hout (Nat.le_of_ble_eq_true rfl) (Nat.le_of_ble_eq_true rfl) (by first | exact Nat.le_of_ble_eq_true rfl | exact (show 0 + 1 ≤ 1 by omega)) (by first | exact Nat.le_of_ble_eq_true rfl | exact (show 0 + 6 ≤ 6 by omega)) hlocks (fun H1 hcx => zx_mk 0 (by rw [hk]; rfl) rfl hcx) (by first | exact Nat.le_of_ble_eq_true rfl | exact (show 0 + 1 ≤ 1 by omega)) (by first | exact Nat.le_of_ble_eq_true rfl | exact (show 0 + 6 ≤ 6 by omega))

set_option maxHeartbeats 4000000 in
set_option maxRecDepth 100000 in
/-- strategyAt(number) -/
theorem c_X4_strategyAt (l : Launch) (hfl : l.stackTraces = false) (G : xG) (ad : Nat → Nat) (S : zS) (kp : Nat → Nat) (m9 fb : Int32) (k9 : Nat) (a9 : Nat → Option Nat) (p9 : Int32) (H : Heap) (hx0 : xB G ad fb (zK S) H) (hl9 : zList G ad (zN S) m9 k9 a9 H) (hW : zW S) (hst : ∀ i, i < zN S → zStrat G ad S kp i H) : xMet l G yX4_strategyAt wsX4_strategyAt ({ frames := 6, cells := 1, slots := 6, locals := 90 } : Room) [.ref (ad 0), .int p9] H (fun v H1 => ∃ j, j < zN S ∧ p9 = nI j ∧ H = H1 ∧ v = some (.ref (ad (22 + 6 * j)))) (zx [zIO] (if xok p9 (zN S) = true then 0 else 1) H) := by
  refine vx_ofW (cc := cX4_strategyAt) (maxL := 2) (ret := (some (.object "Bidwhistle$Strategy"))) (by decide) rfl ?_
  intro Pg Ev s m args below meth c s₁ B hml hout hv
  obtain ⟨rfl, hH, hC⟩ := hv
  have hx := B.exec
  have hb := B.bytes
  have hr := B.returns
  have hts := atoms_spec (ws := wsX4_strategyAt) B.pre
  have hown : s.vm.findClass RX4 = some m.cls := findClass_of_methodNamed B.named
  have hlocks := B.notSynchronized
  rw [hH]
  have hS : va_S (xA G) s.heap H [] := by rw [← hH]; exact va_S.rf
  generalize ([] : List Loc) = locs at hS ⊢
  have hl := lv_entry [.ref (ad 0), .int p9] (n := 2) (Nat.le_of_ble_eq_true rfl)
  rw [lg_entry_eq]
  generalize (lg_sl [.ref (ad 0), .int p9] ++ List.replicate (2 - (lg_sl [.ref (ad 0), .int p9]).length) Slot.unset).toArray = ls at hl ⊢
  have hl : lv_has ls 2 [(0, .ref (ad 0)), (1, .int p9)] := hl
  have hl0 := hl9.1.1
  have hn20 := hW.1
  refine lv_iload_n hx hb dX4_strategyAt_0 rfl (lv_at hl 1 rfl) ?_
  refine lv_if_lt (tgt := 15) hx hb dX4_strategyAt_1 (by decide) (fun c_1 => ?_) (fun c_1 => ?_)
  · have _ := hx
    have hk : xok p9 (zN S) = false := xok_lt _ c_1
    exact x_throw (G := G) (cls := "java/lang/IndexOutOfBoundsException") (text := "no such strategy") hx hb hfl hts hown (by decide +kernel) (by decide +kernel) (by decide +kernel) (by decide +kernel) (by decide +kernel) tbad_IO tgood_IO hC hS (by rw [hml]; exact hl.1) dX4_strategyAt_15 dX4_strategyAt_18 dX4_strategyAt_19 dX4_strategyAt_21 dX4_strategyAt_24 hout (Nat.le_of_ble_eq_true rfl) (Nat.le_of_ble_eq_true rfl) (by first | exact Nat.le_of_ble_eq_true rfl | exact (show 0 + 1 ≤ 1 by omega)) (by first | exact Nat.le_of_ble_eq_true rfl | exact (show 0 + 6 ≤ 6 by omega)) hlocks (fun H1 hcx => zx_mk 0 (by rw [hk]; rfl) rfl hcx) (by first | exact Nat.le_of_ble_eq_true rfl | exact (show 0 + 1 ≤ 1 by omega)) (by first | exact Nat.le_of_ble_eq_true rfl | exact (show 0 + 6 ≤ 6 by omega))
  · have _ := hx
    have hk0 := c_1
    refine lv_iload_n hx hb dX4_strategyAt_4 rfl (lv_at hl 1 rfl) ?_
    refine lv_aload_n hx hb dX4_strategyAt_5 rfl (lv_at hl 0 rfl) ?_
    refine va_get (D := xD G) (ci := 5) (v := .ref (ad 10)) (C := RX4) (T := TX4) (N := 11) hx hb hts (by decide +kernel) hown hC.1 (x1 hx0) 0 rfl rfl 3 (by decide) (hts (.fieldLink RX4 29 "Bidwhistle" "strategies" "Ljava/util/ArrayList;") (by decide +kernel)) (fun _ h9 => h9) rfl dX4_strategyAt_6 ?_
    refine x_intE (vx_runV (As := []) (rest := [.int p9]) ⟨hx, hb, hml, hown, hts⟩ (c_Jx4a65c_size_8abf5 l hfl G (ad 10) (ad 11) (zN S) m9 H hl0) (cwV 0 hts gX4_strategyAt_Jx4a65c_size_8abf5 rfl rfl rfl (by decide +kernel) ⟨(Nat.le_of_ble_eq_true rfl), (Nat.le_of_ble_eq_true rfl)⟩) (xPreV hC hS hl0 (q := (RJx4a65c, TJx4a65c, 3)) rfl) rfl rfl hl.1 rfl (lv_room (Nat.le_of_ble_eq_true rfl)) dX4_strategyAt_9 ⟨(by first | exact Nat.le_of_ble_eq_true rfl | exact (show 0 + 0 ≤ 1 by omega)), (by first | exact Nat.le_of_ble_eq_true rfl | exact (show 0 + 0 ≤ 6 by omega))⟩) hS (fun locs hS => ?_)
    refine lv_icmp_lt (tgt := 25) hx hb dX4_strategyAt_12 (by decide) (fun c_2 => ?_) (fun c_2 => ?_)
    · have _ := hx
      have hk : xok p9 (zN S) = true := xok_in (by omega) hk0 c_2
      obtain ⟨j9, hj9, rfl⟩ := xok_of hk (by omega)
      refine lv_aload_n hx hb dX4_strategyAt_25 rfl (lv_at hl 0 rfl) ?_
      refine va_get (D := xD G) (ci := 5) (v := .ref (ad 10)) (C := RX4) (T := TX4) (N := 11) hx hb hts (by decide +kernel) hown hC.1 (x1 hx0) 0 rfl rfl 3 (by decide) (hts (.fieldLink RX4 29 "Bidwhistle" "strategies" "Ljava/util/ArrayList;") (by decide +kernel)) (fun _ h9 => h9) rfl dX4_strategyAt_26 ?_
      refine lv_iload_n hx hb dX4_strategyAt_29 rfl (lv_at hl 1 rfl) ?_
      have hq := lA.q hl9.1 (show j9 < zN S by omega)
      refine x_refE (vx_runV (As := [.int (nI j9)]) (rest := []) ⟨hx, hb, hml, hown, hts⟩ (c_Jx4a65c_get_915e3 l hfl G (ad 10) (ad 11) (zN S) k9 j9 (ad (22 + 6 * j9)) m9 a9 H hl0 hq.1 (by omega) hq.2.1 hq.2.2 (hl9.2 j9 (by omega))) (cwV 1 hts gX4_strategyAt_Jx4a65c_get_915e3 rfl rfl rfl (by decide +kernel) ⟨(Nat.le_of_ble_eq_true rfl), (Nat.le_of_ble_eq_true rfl)⟩) (xPreV hC hS hl0 (q := (RJx4a65c, TJx4a65c, 3)) rfl) rfl rfl hl.1 rfl (lv_room (Nat.le_of_ble_eq_true rfl)) dX4_strategyAt_30 ⟨(by first | exact Nat.le_of_ble_eq_true rfl | exact (show 0 + 0 ≤ 1 by omega)), (by first | exact Nat.le_of_ble_eq_true rfl | exact (show 0 + 0 ≤ 6 by omega))⟩) hS (fun locs hS => ?_)
      obtain ⟨ts_3, sls_3, fs_3, hss_3, hps_3, hbs_3, hvs_3, hts_3, hfs_3, hzs_3⟩ := hst j9 (by omega)
      refine va_castY (C := "Bidwhistle$Strategy") hx hb hown (hts (.classLink RX4 111 "Bidwhistle$Strategy") (by decide +kernel)) (hC.2.1 _ (by decide +kernel)) (va_recv hC.1 (x1 hss_3) (q0 := 0) (ci := 4) (q := (RX3, TX3, 8)) rfl rfl) dX4_strategyAt_33 ?_
      exact x_aret (G := G) hx hb hr (Or.inl ⟨_, rfl⟩) dX4_strategyAt_36 hlocks hS (by first | exact Nat.le_of_ble_eq_true rfl | exact (show 0 ≤ 1 by omega)) (by first | exact Nat.le_of_ble_eq_true rfl | exact (show 0 ≤ 6 by omega)) ⟨j9, hj9, rfl, rfl, rfl⟩
    · have _ := hx
      have hk : xok p9 (zN S) = false := xok_ge (by omega) c_2
      exact x_throw (G := G) (cls := "java/lang/IndexOutOfBoundsException") (text := "no such strategy") hx hb hfl hts hown (by decide +kernel) (by decide +kernel) (by decide +kernel) (by decide +kernel) (by decide +kernel) tbad_IO tgood_IO hC hS (by rw [hml]; exact hl.1) dX4_strategyAt_15 dX4_strategyAt_18 dX4_strategyAt_19 dX4_strategyAt_21 dX4_strategyAt_24 hout (Nat.le_of_ble_eq_true rfl) (Nat.le_of_ble_eq_true rfl) (by first | exact Nat.le_of_ble_eq_true rfl | exact (show 0 + 1 ≤ 1 by omega)) (by first | exact Nat.le_of_ble_eq_true rfl | exact (show 0 + 6 ≤ 6 by omega)) hlocks (fun H1 hcx => zx_mk 0 (by rw [hk]; rfl) rfl hcx) (by first | exact Nat.le_of_ble_eq_true rfl | exact (show 0 + 1 ≤ 1 by omega)) (by first | exact Nat.le_of_ble_eq_true rfl | exact (show 0 + 6 ≤ 6 by omega))

set_option maxHeartbeats 4000000 in
set_option maxRecDepth 100000 in
/-- wins(number, bid, other number, other bid) -/
theorem c_X4_wins (l : Launch) (hfl : l.stackTraces = false) (G : xG) (n1 b1 n2 b2 : Nat) (H : Heap) (hn1 : n1 ≤ 1000) (hb1 : b1 ≤ 1000) (hn2 : n2 ≤ 1000) (hb2 : b2 ≤ 1000) : xMet l G yX4_wins wsX4_wins ({ frames := 0, cells := 0, slots := 0, locals := 0 } : Room) [.int (nI n1), .int (nI b1), .int (nI n2), .int (nI b2)] H (xi H (xb (zwins n1 b1 n2 b2))) (xNo) := by
  refine vx_ofW (cc := cX4_wins) (maxL := 4) (ret := (some .boolean)) (by decide) rfl ?_
  intro Pg Ev s m args below meth c s₁ B hml hout hv
  obtain ⟨rfl, hH, hC⟩ := hv
  have hx := B.exec
  have hb := B.bytes
  have hr := B.returns
  have hts := atoms_spec (ws := wsX4_wins) B.pre
  have hown : s.vm.findClass RX4 = some m.cls := findClass_of_methodNamed B.named
  have hlocks := B.notSynchronized
  rw [hH]
  have hS : va_S (xA G) s.heap H [] := by rw [← hH]; exact va_S.rf
  generalize ([] : List Loc) = locs at hS ⊢
  have hl := lv_entry [.int (nI n1), .int (nI b1), .int (nI n2), .int (nI b2)] (n := 4) (Nat.le_of_ble_eq_true rfl)
  rw [lg_entry_eq]
  generalize (lg_sl [.int (nI n1), .int (nI b1), .int (nI n2), .int (nI b2)] ++ List.replicate (4 - (lg_sl [.int (nI n1), .int (nI b1), .int (nI n2), .int (nI b2)]).length) Slot.unset).toArray = ls at hl ⊢
  have hl : lv_has ls 4 [(0, .int (nI n1)), (1, .int (nI b1)), (2, .int (nI n2)), (3, .int (nI b2))] := hl
  refine lv_iload_n hx hb dX4_wins_0 rfl (lv_at hl 1 rfl) ?_
  refine lv_iload_n hx hb dX4_wins_1 rfl (lv_at hl 3 rfl) ?_
  refine lv_icmp_gt (tgt := 15) hx hb dX4_wins_2 (by decide) (fun c_1 => ?_) (fun c_1 => ?_)
  · have _ := hx
    have c_1 : b2 < b1 := (nI_ltI (a := b2) (b := b1) (by omega) (by omega)).mp c_1
    refine lv_iconst (v := (nI 1)) hx hb dX4_wins_15 (by decide) ?_
    refine lv_goto (tgt := 20) hx hb dX4_wins_16 (by decide) ?_
    exact x_iret (G := G) hx hb hr (by rfl) dX4_wins_20 hlocks hS (by first | exact Nat.le_of_ble_eq_true rfl | exact (show 0 ≤ 0 by omega)) (by first | exact Nat.le_of_ble_eq_true rfl | exact (show 0 ≤ 0 by omega)) ⟨rfl, by rw [show zwins n1 b1 n2 b2 = true from by unfold zwins; first | (rw [decide_eq_true (show b2 < b1 by omega)]; rfl) | (rw [decide_eq_false (show ¬ b2 < b1 by omega), decide_eq_true (show b1 = b2 by omega), decide_eq_true (show n1 < n2 by omega)]; rfl) | (rw [decide_eq_false (show ¬ b2 < b1 by omega), decide_eq_false (show ¬ n1 < n2 by omega), Bool.and_false]; rfl) | (rw [decide_eq_false (show ¬ b2 < b1 by omega), decide_eq_false (show ¬ b1 = b2 by omega)]; rfl)]; rfl⟩
  · have _ := hx
    have c_1 : ¬ (b2 < b1) := fun z => c_1 ((nI_ltI (a := b2) (b := b1) (by omega) (by omega)).mpr z)
    refine lv_iload_n hx hb dX4_wins_5 rfl (lv_at hl 1 rfl) ?_
    refine lv_iload_n hx hb dX4_wins_6 rfl (lv_at hl 3 rfl) ?_
    refine lv_icmp_ne (tgt := 19) hx hb dX4_wins_7 (by decide) (fun c_2 => ?_) (fun c_2 => ?_)
    · have _ := hx
      have c_2 : ¬ (b1 = b2) := fun z => c_2 ((nI_eq (a := b1) (b := b2) (by omega) (by omega)).mpr z)
      refine lv_iconst (v := (nI 0)) hx hb dX4_wins_19 (by decide) ?_
      exact x_iret (G := G) hx hb hr (by rfl) dX4_wins_20 hlocks hS (by first | exact Nat.le_of_ble_eq_true rfl | exact (show 0 ≤ 0 by omega)) (by first | exact Nat.le_of_ble_eq_true rfl | exact (show 0 ≤ 0 by omega)) ⟨rfl, by rw [show zwins n1 b1 n2 b2 = false from by unfold zwins; first | (rw [decide_eq_true (show b2 < b1 by omega)]; rfl) | (rw [decide_eq_false (show ¬ b2 < b1 by omega), decide_eq_true (show b1 = b2 by omega), decide_eq_true (show n1 < n2 by omega)]; rfl) | (rw [decide_eq_false (show ¬ b2 < b1 by omega), decide_eq_false (show ¬ n1 < n2 by omega), Bool.and_false]; rfl) | (rw [decide_eq_false (show ¬ b2 < b1 by omega), decide_eq_false (show ¬ b1 = b2 by omega)]; rfl)]; rfl⟩
    · have _ := hx
      have c_2 : b1 = b2 := (nI_eq (a := b1) (b := b2) (by omega) (by omega)).mp c_2
      refine lv_iload_n hx hb dX4_wins_10 rfl (lv_at hl 0 rfl) ?_
      refine lv_iload_n hx hb dX4_wins_11 rfl (lv_at hl 2 rfl) ?_
      refine lv_icmp_ge (tgt := 19) hx hb dX4_wins_12 (by decide) (fun c_3 => ?_) (fun c_3 => ?_)
      · have _ := hx
        have c_3 : n2 ≤ n1 := (nI_leI (a := n2) (b := n1) (by omega) (by omega)).mp c_3
        refine lv_iconst (v := (nI 0)) hx hb dX4_wins_19 (by decide) ?_
        exact x_iret (G := G) hx hb hr (by rfl) dX4_wins_20 hlocks hS (by first | exact Nat.le_of_ble_eq_true rfl | exact (show 0 ≤ 0 by omega)) (by first | exact Nat.le_of_ble_eq_true rfl | exact (show 0 ≤ 0 by omega)) ⟨rfl, by rw [show zwins n1 b1 n2 b2 = false from by unfold zwins; first | (rw [decide_eq_true (show b2 < b1 by omega)]; rfl) | (rw [decide_eq_false (show ¬ b2 < b1 by omega), decide_eq_true (show b1 = b2 by omega), decide_eq_true (show n1 < n2 by omega)]; rfl) | (rw [decide_eq_false (show ¬ b2 < b1 by omega), decide_eq_false (show ¬ n1 < n2 by omega), Bool.and_false]; rfl) | (rw [decide_eq_false (show ¬ b2 < b1 by omega), decide_eq_false (show ¬ b1 = b2 by omega)]; rfl)]; rfl⟩
      · have _ := hx
        have c_3 : ¬ (n2 ≤ n1) := fun z => c_3 ((nI_leI (a := n2) (b := n1) (by omega) (by omega)).mpr z)
        refine lv_iconst (v := (nI 1)) hx hb dX4_wins_15 (by decide) ?_
        refine lv_goto (tgt := 20) hx hb dX4_wins_16 (by decide) ?_
        exact x_iret (G := G) hx hb hr (by rfl) dX4_wins_20 hlocks hS (by first | exact Nat.le_of_ble_eq_true rfl | exact (show 0 ≤ 0 by omega)) (by first | exact Nat.le_of_ble_eq_true rfl | exact (show 0 ≤ 0 by omega)) ⟨rfl, by rw [show zwins n1 b1 n2 b2 = true from by unfold zwins; first | (rw [decide_eq_true (show b2 < b1 by omega)]; rfl) | (rw [decide_eq_false (show ¬ b2 < b1 by omega), decide_eq_true (show b1 = b2 by omega), decide_eq_true (show n1 < n2 by omega)]; rfl) | (rw [decide_eq_false (show ¬ b2 < b1 by omega), decide_eq_false (show ¬ n1 < n2 by omega), Bool.and_false]; rfl) | (rw [decide_eq_false (show ¬ b2 < b1 by omega), decide_eq_false (show ¬ b1 = b2 by omega)]; rfl)]; rfl⟩

set_option maxHeartbeats 4000000 in
set_option maxRecDepth 100000 in
/-- paid(auction, is winner, bid, other bid) -/
theorem c_X4_paid (l : Launch) (hfl : l.stackTraces = false) (G : xG) (u9 b1 b2 : Nat) (w9 : Bool) (H : Heap) (hu9 : u9 < 4) (hb1 : b1 ≤ 1000) (hb2 : b2 ≤ 1000) : xMet l G yX4_paid wsX4_paid ({ frames := 0, cells := 0, slots := 0, locals := 0 } : Room) [.int (nI u9), .int (xb w9), .int (nI b1), .int (nI b2)] H (xi H (nI (zpaid u9 w9 b1 b2))) (xNo) := by
  refine vx_ofW (cc := cX4_paid) (maxL := 4) (ret := (some .int)) (by decide) rfl ?_
  intro Pg Ev s m args below meth c s₁ B hml hout hv
  obtain ⟨rfl, hH, hC⟩ := hv
  have hx := B.exec
  have hb := B.bytes
  have hr := B.returns
  have hts := atoms_spec (ws := wsX4_paid) B.pre
  have hown : s.vm.findClass RX4 = some m.cls := findClass_of_methodNamed B.named
  have hlocks := B.notSynchronized
  rw [hH]
  have hS : va_S (xA G) s.heap H [] := by rw [← hH]; exact va_S.rf
  generalize ([] : List Loc) = locs at hS ⊢
  have hl := lv_entry [.int (nI u9), .int (xb w9), .int (nI b1), .int (nI b2)] (n := 4) (Nat.le_of_ble_eq_true rfl)
  rw [lg_entry_eq]
  generalize (lg_sl [.int (nI u9), .int (xb w9), .int (nI b1), .int (nI b2)] ++ List.replicate (4 - (lg_sl [.int (nI u9), .int (xb w9), .int (nI b1), .int (nI b2)]).length) Slot.unset).toArray = ls at hl ⊢
  have hl : lv_has ls 4 [(0, .int (nI u9)), (1, .int (xb w9)), (2, .int (nI b1)), (3, .int (nI b2))] := hl
  refine lv_iload_n hx hb dX4_paid_0 rfl (lv_at hl 0 rfl) ?_
  refine lv_iconst (v := (nI 3)) hx hb dX4_paid_1 (by decide) ?_
  refine lv_icmp_ne (tgt := 7) hx hb dX4_paid_2 (by decide) (fun c_1 => ?_) (fun c_1 => ?_)
  · have _ := hx
    have c_1 : ¬ (u9 = 3) := fun z => c_1 ((nI_eq (a := u9) (b := 3) (by omega) (by omega)).mpr z)
    refine lv_iload_n hx hb dX4_paid_7 rfl (lv_at hl 1 rfl) ?_
    refine lv_if_ne (tgt := 13) hx hb dX4_paid_8 (by decide) (fun c_2 => ?_) (fun c_2 => ?_)
    · have _ := hx
      have hw9 : w9 = true := by cases w9; exact absurd rfl c_2; rfl
      refine lv_iload_n hx hb dX4_paid_13 rfl (lv_at hl 0 rfl) ?_
      rcases (show u9 = 0 ∨ u9 = 1 ∨ u9 = 2 by omega) with rfl | rfl | rfl
      · have _ := hx
        refine lv_lookup (off := 34) (tgt := 48) hx hb dX4_paid_14 (by decide) (by decide) (by decide) ?_
        refine lv_iload_n hx hb dX4_paid_48 rfl (lv_at hl 2 rfl) ?_
        exact x_iret (G := G) hx hb hr rfl dX4_paid_49 hlocks hS (by first | exact Nat.le_of_ble_eq_true rfl | exact (show 0 ≤ 0 by omega)) (by first | exact Nat.le_of_ble_eq_true rfl | exact (show 0 ≤ 0 by omega)) ⟨rfl, by rw [show zpaid 0 w9 b1 b2 = b1 from by unfold zpaid; rw [if_neg (by decide), if_neg (by rw [hw9]; decide)]; rfl]⟩
      · have _ := hx
        refine lv_lookup (off := 26) (tgt := 40) hx hb dX4_paid_14 (by decide) (by decide) (by decide) ?_
        refine lv_iload_n hx hb dX4_paid_40 rfl (lv_at hl 3 rfl) ?_
        exact x_iret (G := G) hx hb hr rfl dX4_paid_41 hlocks hS (by first | exact Nat.le_of_ble_eq_true rfl | exact (show 0 ≤ 0 by omega)) (by first | exact Nat.le_of_ble_eq_true rfl | exact (show 0 ≤ 0 by omega)) ⟨rfl, by rw [show zpaid 1 w9 b1 b2 = b2 from by unfold zpaid; rw [if_neg (by decide), if_neg (by rw [hw9]; decide)]; rfl]⟩
      · have _ := hx
        refine lv_lookup (off := 28) (tgt := 42) hx hb dX4_paid_14 (by decide) (by decide) (by decide) ?_
        refine lv_iload_n hx hb dX4_paid_42 rfl (lv_at hl 2 rfl) ?_
        refine lv_iload_n hx hb dX4_paid_43 rfl (lv_at hl 3 rfl) ?_
        refine x_iaddn (a := b1) (b := b2) hx hb dX4_paid_44 ?_
        refine lv_iconst (v := (nI 2)) hx hb dX4_paid_45 (by decide) ?_
        refine x_idivn (a := (b1 + b2)) (b := 2) hx hb dX4_paid_46 (by omega) (by omega) (by omega) ?_
        exact x_iret (G := G) hx hb hr rfl dX4_paid_47 hlocks hS (by first | exact Nat.le_of_ble_eq_true rfl | exact (show 0 ≤ 0 by omega)) (by first | exact Nat.le_of_ble_eq_true rfl | exact (show 0 ≤ 0 by omega)) ⟨rfl, by rw [show zpaid 2 w9 b1 b2 = (b1 + b2) / 2 from by unfold zpaid; rw [if_neg (by decide), if_neg (by rw [hw9]; decide)]; rfl]⟩
    · have _ := hx
      have hw9 : w9 = false := xb_0.mp (by first | exact c_2 | exact Classical.not_not.mp c_2)
      refine lv_iconst (v := (nI 0)) hx hb dX4_paid_11 (by decide) ?_
      exact x_iret (G := G) hx hb hr rfl dX4_paid_12 hlocks hS (by first | exact Nat.le_of_ble_eq_true rfl | exact (show 0 ≤ 0 by omega)) (by first | exact Nat.le_of_ble_eq_true rfl | exact (show 0 ≤ 0 by omega)) ⟨rfl, by rw [show zpaid u9 w9 b1 b2 = 0 from by unfold zpaid; rw [if_neg (by omega), if_pos hw9]]⟩
  · have _ := hx
    have c_1 : u9 = 3 := (nI_eq (a := u9) (b := 3) (by omega) (by omega)).mp c_1
    refine lv_iload_n hx hb dX4_paid_5 rfl (lv_at hl 2 rfl) ?_
    exact x_iret (G := G) hx hb hr rfl dX4_paid_6 hlocks hS (by first | exact Nat.le_of_ble_eq_true rfl | exact (show 0 ≤ 0 by omega)) (by first | exact Nat.le_of_ble_eq_true rfl | exact (show 0 ≤ 0 by omega)) ⟨rfl, by rw [show zpaid u9 w9 b1 b2 = b1 from if_pos (by omega)]⟩

set_option maxHeartbeats 4000000 in
set_option maxRecDepth 100000 in
/-- profitOf -/
theorem c_X4_profitOf (l : Launch) (hfl : l.stackTraces = false) (G : xG) (u9 v9 b1 b2 : Nat) (w9 : Bool) (H : Heap) (hu9 : u9 < 4) (hb1 : b1 ≤ 1000) (hb2 : b2 ≤ 1000) : xMet l G yX4_profitOf wsX4_profitOf ({ frames := 1, cells := 0, slots := 0, locals := 23 } : Room) [.int (nI u9), .int (xb w9), .int (nI v9), .int (nI b1), .int (nI b2)] H (xi H (Int32.ofInt (zgain u9 w9 v9 b1 b2))) (xNo) := by
  refine vx_ofW (cc := cX4_profitOf) (maxL := 5) (ret := (some .int)) (by decide) rfl ?_
  intro Pg Ev s m args below meth c s₁ B hml hout hv
  obtain ⟨rfl, hH, hC⟩ := hv
  have hx := B.exec
  have hb := B.bytes
  have hr := B.returns
  have hts := atoms_spec (ws := wsX4_profitOf) B.pre
  have hown : s.vm.findClass RX4 = some m.cls := findClass_of_methodNamed B.named
  have hlocks := B.notSynchronized
  rw [hH]
  have hS : va_S (xA G) s.heap H [] := by rw [← hH]; exact va_S.rf
  generalize ([] : List Loc) = locs at hS ⊢
  have hl := lv_entry [.int (nI u9), .int (xb w9), .int (nI v9), .int (nI b1), .int (nI b2)] (n := 5) (Nat.le_of_ble_eq_true rfl)
  rw [lg_entry_eq]
  generalize (lg_sl [.int (nI u9), .int (xb w9), .int (nI v9), .int (nI b1), .int (nI b2)] ++ List.replicate (5 - (lg_sl [.int (nI u9), .int (xb w9), .int (nI v9), .int (nI b1), .int (nI b2)]).length) Slot.unset).toArray = ls at hl ⊢
  have hl : lv_has ls 5 [(0, .int (nI u9)), (1, .int (xb w9)), (2, .int (nI v9)), (3, .int (nI b1)), (4, .int (nI b2))] := hl
  refine lv_iload_n hx hb dX4_profitOf_0 rfl (lv_at hl 1 rfl) ?_
  refine lv_if_eq (tgt := 8) hx hb dX4_profitOf_1 (by decide) (fun c_1 => ?_) (fun c_1 => ?_)
  · have _ := hx
    have hw9 : w9 = false := xb_0.mp c_1
    refine lv_iconst (v := (nI 0)) hx hb dX4_profitOf_8 (by decide) ?_
    refine lv_iload_n hx hb dX4_profitOf_9 rfl (lv_at hl 0 rfl) ?_
    refine lv_iload_n hx hb dX4_profitOf_10 rfl (lv_at hl 1 rfl) ?_
    refine lv_iload_n hx hb dX4_profitOf_11 rfl (lv_at hl 3 rfl) ?_
    refine lv_iload hx hb dX4_profitOf_12 (lv_at hl 4 rfl) ?_
    refine x_intE (vx_runS (As := [.int (nI u9), .int (xb w9), .int (nI b1), .int (nI b2)]) (rest := [.int (nI 0)]) ⟨hx, hb, hml, hown, hts⟩ (c_X4_paid l hfl G u9 b1 b2 w9 H hu9 hb1 hb2) (va_cwS 4 hts gX4_profitOf_X4_paid rfl rfl rfl (by decide +kernel) ⟨(Nat.le_of_ble_eq_true rfl), (Nat.le_of_ble_eq_true rfl)⟩) (xPreS hC hS) rfl rfl hl.1 rfl (lv_room (Nat.le_of_ble_eq_true rfl)) dX4_profitOf_14 ⟨(by first | exact Nat.le_of_ble_eq_true rfl | exact (show 0 + 0 ≤ 0 by omega)), (by first | exact Nat.le_of_ble_eq_true rfl | exact (show 0 + 0 ≤ 0 by omega))⟩) hS (fun locs hS => ?_)
    refine lv_isub hx hb dX4_profitOf_17 ?_
    rw [zofI_sub]
    exact x_iret (G := G) hx hb hr rfl dX4_profitOf_18 hlocks hS (by first | exact Nat.le_of_ble_eq_true rfl | exact (show 0 ≤ 0 by omega)) (by first | exact Nat.le_of_ble_eq_true rfl | exact (show 0 ≤ 0 by omega)) ⟨rfl, by unfold zgain; rw [hw9]; rfl⟩
  · have _ := hx
    have hw9 : w9 = true := by cases w9; exact absurd rfl c_1; rfl
    refine lv_iload_n hx hb dX4_profitOf_4 rfl (lv_at hl 2 rfl) ?_
    refine lv_goto (tgt := 9) hx hb dX4_profitOf_5 (by decide) ?_
    refine lv_iload_n hx hb dX4_profitOf_9 rfl (lv_at hl 0 rfl) ?_
    refine lv_iload_n hx hb dX4_profitOf_10 rfl (lv_at hl 1 rfl) ?_
    refine lv_iload_n hx hb dX4_profitOf_11 rfl (lv_at hl 3 rfl) ?_
    refine lv_iload hx hb dX4_profitOf_12 (lv_at hl 4 rfl) ?_
    refine x_intE (vx_runS (As := [.int (nI u9), .int (xb w9), .int (nI b1), .int (nI b2)]) (rest := [.int (nI v9)]) ⟨hx, hb, hml, hown, hts⟩ (c_X4_paid l hfl G u9 b1 b2 w9 H hu9 hb1 hb2) (va_cwS 4 hts gX4_profitOf_X4_paid rfl rfl rfl (by decide +kernel) ⟨(Nat.le_of_ble_eq_true rfl), (Nat.le_of_ble_eq_true rfl)⟩) (xPreS hC hS) rfl rfl hl.1 rfl (lv_room (Nat.le_of_ble_eq_true rfl)) dX4_profitOf_14 ⟨(by first | exact Nat.le_of_ble_eq_true rfl | exact (show 0 + 0 ≤ 0 by omega)), (by first | exact Nat.le_of_ble_eq_true rfl | exact (show 0 + 0 ≤ 0 by omega))⟩) hS (fun locs hS => ?_)
    refine lv_isub hx hb dX4_profitOf_17 ?_
    rw [zofI_sub]
    exact x_iret (G := G) hx hb hr rfl dX4_profitOf_18 hlocks hS (by first | exact Nat.le_of_ble_eq_true rfl | exact (show 0 ≤ 0 by omega)) (by first | exact Nat.le_of_ble_eq_true rfl | exact (show 0 ≤ 0 by omega)) ⟨rfl, by unfold zgain; rw [hw9]; rfl⟩


/-! what is kept when cells of other places change -/
theorem xB.kept {G : xG} {ad : Nat → Nat} {N np : Nat} {fb : Int32} {H H1 : Heap} {ls : List Nat} (h : xB G ad fb np H) (hO : zown G ad N) (hc : xC (ls.map ad) H H1) (hN : 22 ≤ N) (hl : ∀ j ∈ ls, j < N) (hn : 0 ∉ ls) : xB G ad fb np H1 := hc.at h (hO.nl (by omega) hl hn)
theorem lA.kept {G : xG} {li el n k : Nat} {m : Int32} {a : Nat → Option Nat} {H H1 : Heap} {L : List Nat} (h : lA G li el m n k a H) (hc : xC L H H1) (h1 : li ∉ L) (h2 : el ∉ L) : lA G li el m n k a H1 :=
  ⟨hc.at h.1 h1, h.2.1, h.2.2.1, h.2.2.2.elim Or.inl (fun z => Or.inr ⟨hc.at z.1 h2, z.2⟩)⟩
theorem zList.kept {G : xG} {ad : Nat → Nat} {N n k : Nat} {m : Int32} {a : Nat → Option Nat} {H H1 : Heap} {ls : List Nat} (h : zList G ad n m k a H) (hO : zown G ad N) (hc : xC (ls.map ad) H H1) (hN : 22 ≤ N) (hl : ∀ j ∈ ls, j < N) (hn : 10 ∉ ls ∧ 11 ∉ ls) : zList G ad n m k a H1 :=
  ⟨h.1.kept hc (hO.nl (by omega) hl hn.1) (hO.nl (by omega) hl hn.2), h.2⟩
theorem zPairs.kept {G : xG} {ad : Nat → Nat} {N : Nat} {S : zS} {f1 f2 : Nat → Int32} {H H1 : Heap} {ls : List Nat} (h : zPairs G ad S f1 f2 H) (hO : zown G ad N) (hc : xC (ls.map ad) H H1) (hN : 22 ≤ N) (hl : ∀ j ∈ ls, j < N) (hn : ∀ i, 12 ≤ i → i ≤ 15 → i ∉ ls) : zPairs G ad S f1 f2 H1 :=
  ⟨hc.at h.1 (hO.nl (by omega) hl (hn _ (by omega) (by omega))), hc.at h.2.1 (hO.nl (by omega) hl (hn _ (by omega) (by omega))), hc.at h.2.2.1 (hO.nl (by omega) hl (hn _ (by omega) (by omega))), hc.at h.2.2.2.1 (hO.nl (by omega) hl (hn _ (by omega) (by omega))), h.2.2.2.2⟩
theorem zRow.kept {G : xG} {ad : Nat → Nat} {N i : Nat} {f : Nat → Int32} {H H1 : Heap} {ls : List Nat} (h : zRow G ad i f H) (hO : zown G ad N) (hc : xC (ls.map ad) H H1) (hi : i + 1 < N) (hl : ∀ j ∈ ls, j < N) (hn : i ∉ ls ∧ i + 1 ∉ ls) : zRow G ad i f H1 :=
  ⟨hc.at h.1 (hO.nl (by omega) hl hn.1), hc.at h.2 (hO.nl hi hl hn.2)⟩
theorem zDraft.kept {G : xG} {ad : Nat → Nat} {N : Nat} {S : zS} {t : Nat → Nat} {H H1 : Heap} {ls : List Nat} (h : zDraft G ad S t H) (hO : zown G ad N) (hc : xC (ls.map ad) H H1) (hN : 22 ≤ N) (hl : ∀ j ∈ ls, j < N) (hn : 1 ∉ ls ∧ 2 ∉ ls ∧ 3 ∉ ls) : zDraft G ad S t H1 :=
  ⟨h.1.kept hc (hO.nl (by omega) hl hn.1) (hO.nl (by omega) hl hn.2.1) (hO.nl (by omega) hl hn.2.2), h.2⟩
theorem zStrat.kept {G : xG} {ad : Nat → Nat} {N i : Nat} {S : zS} {kp : Nat → Nat} {H H1 : Heap} {ls : List Nat} (h : zStrat G ad S kp i H) (hO : zown G ad N) (hc : xC (ls.map ad) H H1) (hi : 22 + 6 * i + 5 < N) (hl : ∀ j ∈ ls, j < N) (hn : ∀ j, j < 6 → 22 + 6 * i + j ∉ ls) : zStrat G ad S kp i H1 := by
  obtain ⟨t, sl, f, h1, h2, h3, h4, h5⟩ := h
  have k : ∀ j q, j < 6 → q = 22 + 6 * i + j → ad q ∉ ls.map ad := fun j q hj e => by rw [e]; exact hO.nl (by omega) hl (hn j hj)
  exact ⟨t, sl, f, hc.at h1 (k 0 _ (by omega) rfl), h2.kept hc (k 1 _ (by omega) (by omega)) (k 2 _ (by omega) (by omega)) (k 3 _ (by omega) (by omega)), hc.at h3 (k 4 _ (by omega) (by omega)), hc.at h4 (k 5 _ (by omega) (by omega)), h5⟩
/-- a program that is the same as strategy i's -/
def zpsame (S : zS) (t : Nat → Nat) (n i : Nat) : Bool := decide (zL S i = n) && xsame (fun x y => decide (x = y)) (zP S i) t (zL S i)
/-- the first strategy with a program, + 1; 0: none -/
def zfnd (S : zS) (t : Nat → Nat) (n : Nat) : Nat → Nat
  | 0 => 0
  | i + 1 => if zfnd S t n i ≠ 0 then zfnd S t n i else if zpsame S t n i = true then i + 1 else 0
theorem xsame_cong {α : Type} {e : α → α → Bool} {f f2 g g2 : Nat → α} : ∀ {n : Nat}, (∀ k, k < n → f k = f2 k) → (∀ k, k < n → g k = g2 k) → xsame e f g n = xsame e f2 g2 n
  | 0, _, _ => rfl
  | n + 1, h, h2 => by unfold xsame; rw [xsame_cong (fun k hk => h k (by omega)) (fun k hk => h2 k (by omega)), h n (by omega), h2 n (by omega)]
theorem zfnd_none {S : zS} {t : Nat → Nat} {n : Nat} : ∀ {i : Nat}, (∀ j, j < i → zpsame S t n j = false) → zfnd S t n i = 0
  | 0, _ => rfl
  | i + 1, h => by unfold zfnd; rw [zfnd_none (fun j hj => h j (by omega)), if_neg (fun z => z rfl), if_neg (by rw [h i (by omega)]; decide)]
theorem zfnd_keep {S : zS} {t : Nat → Nat} {n i : Nat} (h : zfnd S t n i ≠ 0) : ∀ {m : Nat}, i ≤ m → zfnd S t n m = zfnd S t n i
  | 0, hm => by rw [show i = 0 by omega]
  | m + 1, hm => by
    rcases Nat.lt_or_ge m i with c | c
    · rw [show m + 1 = i by omega]
    · have e := zfnd_keep h c
      show (if zfnd S t n m ≠ 0 then zfnd S t n m else if zpsame S t n m = true then m + 1 else 0) = _
      rw [if_pos (by rw [e]; exact h), e]
theorem zfnd_at {S : zS} {t : Nat → Nat} {n i m : Nat} (h0 : ∀ j, j < i → zpsame S t n j = false) (h : zpsame S t n i = true) (hm : i < m) : zfnd S t n m = i + 1 := by
  have e : zfnd S t n (i + 1) = i + 1 := by unfold zfnd; rw [zfnd_none h0, if_neg (fun z => z rfl), if_pos h]
  rw [zfnd_keep (by rw [e]; omega) hm, e]

set_option maxHeartbeats 4000000 in
set_option maxRecDepth 100000 in
/-- profitAgainst -/
theorem c_X4_profitAgainst (l : Launch) (hfl : l.stackTraces = false) (G : xG) (ad : Nat → Nat) (S : zS) (kp : Nat → Nat) (u9 i9 j9 v9 w9 : Nat) (H : Heap) (hW : zW S) (hst : ∀ i, i < zN S → zStrat G ad S kp i H) (hu9 : u9 < 4) (hi9 : i9 < zN S) (hj9 : j9 < zN S) (hv9 : v9 < 100) (hw9 : w9 < 100) : xMet l G yX4_profitAgainst wsX4_profitAgainst ({ frames := 2, cells := 0, slots := 0, locals := 47 } : Room) [.int (nI u9), .ref (ad (22 + 6 * i9)), .ref (ad (22 + 6 * j9)), .int (nI v9), .int (nI w9)] H (xi H (Int32.ofInt (zprof S u9 i9 j9 v9 w9))) (xNo) := by
  refine vx_ofW (cc := cX4_profitAgainst) (maxL := 7) (ret := (some .int)) (by decide) rfl ?_
  intro Pg Ev s m args below meth c s₁ B hml hout hv
  obtain ⟨rfl, hH, hC⟩ := hv
  have hx := B.exec
  have hb := B.bytes
  have hr := B.returns
  have hts := atoms_spec (ws := wsX4_profitAgainst) B.pre
  have hown : s.vm.findClass RX4 = some m.cls := findClass_of_methodNamed B.named
  have hlocks := B.notSynchronized
  rw [hH]
  have hS : va_S (xA G) s.heap H [] := by rw [← hH]; exact va_S.rf
  generalize ([] : List Loc) = locs at hS ⊢
  have hl := lv_entry [.int (nI u9), .ref (ad (22 + 6 * i9)), .ref (ad (22 + 6 * j9)), .int (nI v9), .int (nI w9)] (n := 7) (Nat.le_of_ble_eq_true rfl)
  rw [lg_entry_eq]
  generalize (lg_sl [.int (nI u9), .ref (ad (22 + 6 * i9)), .ref (ad (22 + 6 * j9)), .int (nI v9), .int (nI w9)] ++ List.replicate (7 - (lg_sl [.int (nI u9), .ref (ad (22 + 6 * i9)), .ref (ad (22 + 6 * j9)), .int (nI v9), .int (nI w9)]).length) Slot.unset).toArray = ls at hl ⊢
  have hl : lv_has ls 7 [(0, .int (nI u9)), (1, .ref (ad (22 + 6 * i9))), (2, .ref (ad (22 + 6 * j9))), (3, .int (nI v9)), (4, .int (nI w9))] := hl
  have hn20 := hW.1
  have hz1 := zbid_in S i9 v9
  have hz2 := zbid_in S j9 w9
  obtain ⟨ts_1, sls_1, fs_1, hss_1, hps_1, hbs_1, hvs_1, hts_1, hfs_1, hzs_1⟩ := hst i9 (by omega)
  obtain ⟨ts_2, sls_2, fs_2, hss_2, hps_2, hbs_2, hvs_2, hts_2, hfs_2, hzs_2⟩ := hst j9 (by omega)
  refine lv_aload_n hx hb dX4_profitAgainst_0 rfl (lv_at hl 1 rfl) ?_
  refine lv_iload_n hx hb dX4_profitAgainst_1 rfl (lv_at hl 3 rfl) ?_
  refine x_intE (vx_runV (As := [.int (nI v9)]) (rest := []) ⟨hx, hb, hml, hown, hts⟩ (c_X3_bidFor l hfl G (ad (22 + 6 * i9)) (ad (26 + 6 * i9)) (ad (27 + 6 * i9)) v9 (ad (23 + 6 * i9)) fs_1 _ _ _ _ _ _ H hss_1 hbs_1 hvs_1 (by omega)) (cwV 1 hts gX4_profitAgainst_X3_bidFor rfl rfl rfl (by decide +kernel) ⟨(Nat.le_of_ble_eq_true rfl), (Nat.le_of_ble_eq_true rfl)⟩) (xPreV hC hS hss_1 (q := (RX3, TX3, 8)) rfl) rfl rfl hl.1 rfl (lv_room (Nat.le_of_ble_eq_true rfl)) dX4_profitAgainst_2 ⟨(by first | exact Nat.le_of_ble_eq_true rfl | exact (show 0 + 0 ≤ 0 by omega)), (by first | exact Nat.le_of_ble_eq_true rfl | exact (show 0 + 0 ≤ 0 by omega))⟩) hS (fun locs hS => ?_)
  rw [hfs_1 v9 (by omega), zbid_I]
  refine lv_istore (lv' := [(5, .int (nI (zbid S i9 v9))), (0, .int (nI u9)), (1, .ref (ad (22 + 6 * i9))), (2, .ref (ad (22 + 6 * j9))), (3, .int (nI v9)), (4, .int (nI w9))]) hx hb dX4_profitAgainst_5 hl (by decide) rfl (fun ls hl => ?_)
  refine lv_aload_n hx hb dX4_profitAgainst_7 rfl (lv_at hl 3 rfl) ?_
  refine lv_iload hx hb dX4_profitAgainst_8 (lv_at hl 5 rfl) ?_
  refine x_intE (vx_runV (As := [.int (nI w9)]) (rest := []) ⟨hx, hb, hml, hown, hts⟩ (c_X3_bidFor l hfl G (ad (22 + 6 * j9)) (ad (26 + 6 * j9)) (ad (27 + 6 * j9)) w9 (ad (23 + 6 * j9)) fs_2 _ _ _ _ _ _ H hss_2 hbs_2 hvs_2 (by omega)) (cwV 1 hts gX4_profitAgainst_X3_bidFor rfl rfl rfl (by decide +kernel) ⟨(Nat.le_of_ble_eq_true rfl), (Nat.le_of_ble_eq_true rfl)⟩) (xPreV hC hS hss_2 (q := (RX3, TX3, 8)) rfl) rfl rfl hl.1 rfl (lv_room (Nat.le_of_ble_eq_true rfl)) dX4_profitAgainst_10 ⟨(by first | exact Nat.le_of_ble_eq_true rfl | exact (show 0 + 0 ≤ 0 by omega)), (by first | exact Nat.le_of_ble_eq_true rfl | exact (show 0 + 0 ≤ 0 by omega))⟩) hS (fun locs hS => ?_)
  rw [hfs_2 w9 (by omega), zbid_I]
  refine lv_istore (lv' := [(6, .int (nI (zbid S j9 w9))), (5, .int (nI (zbid S i9 v9))), (0, .int (nI u9)), (1, .ref (ad (22 + 6 * i9))), (2, .ref (ad (22 + 6 * j9))), (3, .int (nI v9)), (4, .int (nI w9))]) hx hb dX4_profitAgainst_13 hl (by decide) rfl (fun ls hl => ?_)
  refine lv_iload_n hx hb dX4_profitAgainst_15 rfl (lv_at hl 2 rfl) ?_
  refine lv_aload_n hx hb dX4_profitAgainst_16 rfl (lv_at hl 3 rfl) ?_
  refine va_getN (D := xD G) (ci := 4) (v := .int (nI i9)) (C := RX3) (T := TX3) (N := 8) hx hb hts (by decide +kernel) hown hC.1 (x1 hss_1) 0 rfl rfl 0 (by decide) (va_Nw.use rfl (hC.2.1 (.fieldLinkNest "Bidwhistle" 256 "Bidwhistle$Strategy" "number" "I" "Bidwhistle") (by decide +kernel))) (fun _ h9 => h9) rfl dX4_profitAgainst_17 ?_
  refine lv_iload hx hb dX4_profitAgainst_20 (lv_at hl 1 rfl) ?_
  refine lv_aload_n hx hb dX4_profitAgainst_22 rfl (lv_at hl 4 rfl) ?_
  refine va_getN (D := xD G) (ci := 4) (v := .int (nI j9)) (C := RX3) (T := TX3) (N := 8) hx hb hts (by decide +kernel) hown hC.1 (x1 hss_2) 0 rfl rfl 0 (by decide) (va_Nw.use rfl (hC.2.1 (.fieldLinkNest "Bidwhistle" 256 "Bidwhistle$Strategy" "number" "I" "Bidwhistle") (by decide +kernel))) (fun _ h9 => h9) rfl dX4_profitAgainst_23 ?_
  refine lv_iload hx hb dX4_profitAgainst_26 (lv_at hl 0 rfl) ?_
  refine x_intE (vx_runS (As := [.int (nI i9), .int (nI (zbid S i9 v9)), .int (nI j9), .int (nI (zbid S j9 w9))]) (rest := [.int (nI u9)]) ⟨hx, hb, hml, hown, hts⟩ (c_X4_wins l hfl G i9 (zbid S i9 v9) j9 (zbid S j9 w9) H (by omega) (by omega) (by omega) (by omega)) (va_cwS 4 hts gX4_profitAgainst_X4_wins rfl rfl rfl (by decide +kernel) ⟨(Nat.le_of_ble_eq_true rfl), (Nat.le_of_ble_eq_true rfl)⟩) (xPreS hC hS) rfl rfl hl.1 rfl (lv_room (Nat.le_of_ble_eq_true rfl)) dX4_profitAgainst_28 ⟨(by first | exact Nat.le_of_ble_eq_true rfl | exact (show 0 + 0 ≤ 0 by omega)), (by first | exact Nat.le_of_ble_eq_true rfl | exact (show 0 + 0 ≤ 0 by omega))⟩) hS (fun locs hS => ?_)
  refine lv_iload_n hx hb dX4_profitAgainst_31 rfl (lv_at hl 5 rfl) ?_
  refine lv_iload hx hb dX4_profitAgainst_32 (lv_at hl 1 rfl) ?_
  refine lv_iload hx hb dX4_profitAgainst_34 (lv_at hl 0 rfl) ?_
  refine x_intE (vx_runS (As := [.int (nI u9), .int (xb (zwins i9 (zbid S i9 v9) j9 (zbid S j9 w9))), .int (nI v9), .int (nI (zbid S i9 v9)), .int (nI (zbid S j9 w9))]) (rest := []) ⟨hx, hb, hml, hown, hts⟩ (c_X4_profitOf l hfl G u9 v9 (zbid S i9 v9) (zbid S j9 w9) (zwins i9 (zbid S i9 v9) j9 (zbid S j9 w9)) H hu9 (by omega) (by omega)) (va_cwS 5 hts gX4_profitAgainst_X4_profitOf rfl rfl rfl (by decide +kernel) ⟨(Nat.le_of_ble_eq_true rfl), (Nat.le_of_ble_eq_true rfl)⟩) (xPreS hC hS) rfl rfl hl.1 rfl (lv_room (Nat.le_of_ble_eq_true rfl)) dX4_profitAgainst_36 ⟨(by first | exact Nat.le_of_ble_eq_true rfl | exact (show 0 + 0 ≤ 0 by omega)), (by first | exact Nat.le_of_ble_eq_true rfl | exact (show 0 + 0 ≤ 0 by omega))⟩) hS (fun locs hS => ?_)
  exact x_iret (G := G) hx hb hr rfl dX4_profitAgainst_39 hlocks hS (by first | exact Nat.le_of_ble_eq_true rfl | exact (show 0 ≤ 0 by omega)) (by first | exact Nat.le_of_ble_eq_true rfl | exact (show 0 ≤ 0 by omega)) ⟨rfl, rfl⟩

theorem xb_1 {b : Bool} (h : ¬ xb b = 0) : b = true := by cases b; exact absurd rfl h; rfl
theorem zalike_tr {S : zS} {i j : Nat} {g : Nat → Int} (h : xsame (fun x y : Int => decide (x = y)) (xbid (zP S i) (zL S i)) g 100 = true) : zalike S j i = true ↔ xsame (fun x y : Int => decide (x = y)) (xbid (zP S j) (zL S j)) g 100 = true := by
  unfold zalike
  rw [xsame_iff] at h ⊢
  rw [xsame_iff]
  simp only [decide_eq_true_iff] at h ⊢
  exact ⟨fun q k hk => (q k hk).trans (h k hk), fun q k hk => (q k hk).trans (h k hk).symm⟩
theorem xct_1 {p : Nat → Bool} {i : Nat} (h : ¬ xb (p i) = 0) : xct p (i + 1) = xct p i + 1 := by show xct p i + (if p i = true then 1 else 0) = _; rw [if_pos (by cases hp : p i; exact absurd (by rw [hp]; rfl) h; rfl)]
theorem xct_0 {p : Nat → Bool} {i : Nat} (h : xb (p i) = 0) : xct p (i + 1) = xct p i := by show xct p i + (if p i = true then 1 else 0) = _; rw [if_neg (by rw [xb_0.mp h]; decide)]; rfl
set_option maxHeartbeats 4000000 in
set_option maxRecDepth 100000 in
/-- poolSize() -/
theorem c_X4_poolSize (l : Launch) (hfl : l.stackTraces = false) (G : xG) (ad : Nat → Nat) (S : zS) (kp : Nat → Nat) (m9 fb : Int32) (k9 : Nat) (a9 : Nat → Option Nat) (H : Heap) (hx0 : xB G ad fb (zK S) H) (hl9 : zList G ad (zN S) m9 k9 a9 H) (hW : zW S) (hst : ∀ i, i < zN S → zStrat G ad S kp i H) : xMet l G yX4_poolSize wsX4_poolSize ({ frames := 3, cells := 0, slots := 0, locals := 64 } : Room) [.ref (ad 0)] H (xi H (nI (xct (zI S) (zN S)))) (xNo) := by
  refine vx_ofW (cc := cX4_poolSize) (maxL := 3) (ret := (some .int)) (by decide) rfl ?_
  intro Pg Ev s m args below meth c s₁ B hml hout hv
  obtain ⟨rfl, hH, hC⟩ := hv
  have hx := B.exec
  have hb := B.bytes
  have hr := B.returns
  have hts := atoms_spec (ws := wsX4_poolSize) B.pre
  have hown : s.vm.findClass RX4 = some m.cls := findClass_of_methodNamed B.named
  have hlocks := B.notSynchronized
  rw [hH]
  have hS : va_S (xA G) s.heap H [] := by rw [← hH]; exact va_S.rf
  generalize ([] : List Loc) = locs at hS ⊢
  have hl := lv_entry [.ref (ad 0)] (n := 3) (Nat.le_of_ble_eq_true rfl)
  rw [lg_entry_eq]
  generalize (lg_sl [.ref (ad 0)] ++ List.replicate (3 - (lg_sl [.ref (ad 0)]).length) Slot.unset).toArray = ls at hl ⊢
  have hl : lv_has ls 3 [(0, .ref (ad 0))] := hl
  have hl0 := hl9.1.1
  have hn20 := hW.1
  refine lv_iconst (v := (nI 0)) hx hb dX4_poolSize_0 (by decide) ?_
  refine lv_istore_n (lv' := [(1, .int (nI 0)), (0, .ref (ad 0))]) hx hb dX4_poolSize_1 rfl hl (by decide) rfl (fun ls hl => ?_)
  refine lv_iconst (v := (nI 0)) hx hb dX4_poolSize_2 (by decide) ?_
  refine lv_istore_n (lv' := [(2, .int (nI 0)), (1, .int (nI 0)), (0, .ref (ad 0))]) hx hb dX4_poolSize_3 rfl hl (by decide) rfl (fun ls hl => ?_)
  have L : ∀ (kL : Nat) (i : Nat) (c9 : Nat), (i ≤ zN S) → (c9 = xct (zI S) i) → zN S - i < kL → ∀ (locs : List Loc), va_S (xA G) s.heap H locs → ∀ ls : Array Slot, lv_has ls 3 [(0, .ref (ad 0)), (1, .int (nI c9)), (2, .int (nI i))] → W Pg l Ev (headSpec wsX4_poolSize ({ frames := 3, cells := 0, slots := 0, locals := 64 } : Room)).room s m ([.ref (ad 0)] : List Value).toArray below meth c H locs (0) (0) (vx_MQ below (xQ G (xi H (nI (xct (zI S) (zN S))))) (xX G (xNo)) ([.ref (ad 0)] : List Value).toArray s ({ frames := 3, cells := 0, slots := 0, locals := 64 } : Room).cells ({ frames := 3, cells := 0, slots := 0, locals := 64 } : Room).slots (xA G)) (F0 m 4 ls []) := by
    intro kL
    induction kL with
    | zero => intro i c9 hi hc9 hk; exact absurd hk (Nat.not_lt_zero _)
    | succ kL ihL =>
      intro i c9 hi hc9 hk locs hS ls hl
      refine lv_iload_n hx hb dX4_poolSize_4 rfl (lv_at hl 2 rfl) ?_
      refine lv_aload_n hx hb dX4_poolSize_5 rfl (lv_at hl 0 rfl) ?_
      refine va_get (D := xD G) (ci := 5) (v := .ref (ad 10)) (C := RX4) (T := TX4) (N := 11) hx hb hts (by decide +kernel) hown hC.1 (x1 hx0) 0 rfl rfl 3 (by decide) (hts (.fieldLink RX4 29 "Bidwhistle" "strategies" "Ljava/util/ArrayList;") (by decide +kernel)) (fun _ h9 => h9) rfl dX4_poolSize_6 ?_
      refine x_intE (vx_runV (As := []) (rest := [.int (nI i)]) ⟨hx, hb, hml, hown, hts⟩ (c_Jx4a65c_size_8abf5 l hfl G (ad 10) (ad 11) (zN S) m9 H hl0) (cwV 0 hts gX4_poolSize_Jx4a65c_size_8abf5 rfl rfl rfl (by decide +kernel) ⟨(Nat.le_of_ble_eq_true rfl), (Nat.le_of_ble_eq_true rfl)⟩) (xPreV hC hS hl0 (q := (RJx4a65c, TJx4a65c, 3)) rfl) rfl rfl hl.1 rfl (lv_room (Nat.le_of_ble_eq_true rfl)) dX4_poolSize_9 ⟨(by first | exact Nat.le_of_ble_eq_true rfl | exact (show 0 + 0 ≤ 0 by omega)), (by first | exact Nat.le_of_ble_eq_true rfl | exact (show 0 + 0 ≤ 0 by omega))⟩) hS (fun locs hS => ?_)
      refine lv_icmp_ge (tgt := 41) hx hb dX4_poolSize_12 (by decide) (fun c_1 => ?_) (fun c_1 => ?_)
      · have _ := hx
        have c_1 : (zN S) ≤ i := (nI_leI (a := (zN S)) (b := i) (by omega) (by omega)).mp c_1
        refine lv_iload_n hx hb dX4_poolSize_41 rfl (lv_at hl 1 rfl) ?_
        exact x_iret (G := G) hx hb hr rfl dX4_poolSize_42 hlocks hS (by first | exact Nat.le_of_ble_eq_true rfl | exact (show 0 ≤ 0 by omega)) (by first | exact Nat.le_of_ble_eq_true rfl | exact (show 0 ≤ 0 by omega)) ⟨rfl, by rw [hc9, show i = zN S by omega]⟩
      · have _ := hx
        have c_1 : ¬ ((zN S) ≤ i) := fun z => c_1 ((nI_leI (a := (zN S)) (b := i) (by omega) (by omega)).mpr z)
        refine lv_aload_n hx hb dX4_poolSize_15 rfl (lv_at hl 0 rfl) ?_
        refine va_get (D := xD G) (ci := 5) (v := .ref (ad 10)) (C := RX4) (T := TX4) (N := 11) hx hb hts (by decide +kernel) hown hC.1 (x1 hx0) 0 rfl rfl 3 (by decide) (hts (.fieldLink RX4 29 "Bidwhistle" "strategies" "Ljava/util/ArrayList;") (by decide +kernel)) (fun _ h9 => h9) rfl dX4_poolSize_16 ?_
        refine lv_iload_n hx hb dX4_poolSize_19 rfl (lv_at hl 2 rfl) ?_
        have hq := lA.q hl9.1 (show i < zN S by omega)
        refine x_refE (vx_runV (As := [.int (nI i)]) (rest := []) ⟨hx, hb, hml, hown, hts⟩ (c_Jx4a65c_get_915e3 l hfl G (ad 10) (ad 11) (zN S) k9 i (ad (22 + 6 * i)) m9 a9 H hl0 hq.1 (by omega) hq.2.1 hq.2.2 (hl9.2 i (by omega))) (cwV 1 hts gX4_poolSize_Jx4a65c_get_915e3 rfl rfl rfl (by decide +kernel) ⟨(Nat.le_of_ble_eq_true rfl), (Nat.le_of_ble_eq_true rfl)⟩) (xPreV hC hS hl0 (q := (RJx4a65c, TJx4a65c, 3)) rfl) rfl rfl hl.1 rfl (lv_room (Nat.le_of_ble_eq_true rfl)) dX4_poolSize_20 ⟨(by first | exact Nat.le_of_ble_eq_true rfl | exact (show 0 + 0 ≤ 0 by omega)), (by first | exact Nat.le_of_ble_eq_true rfl | exact (show 0 + 0 ≤ 0 by omega))⟩) hS (fun locs hS => ?_)
        obtain ⟨ts_2, sls_2, fs_2, hss_2, hps_2, hbs_2, hvs_2, hts_2, hfs_2, hzs_2⟩ := hst i (by omega)
        refine va_castY (C := "Bidwhistle$Strategy") hx hb hown (hts (.classLink RX4 111 "Bidwhistle$Strategy") (by decide +kernel)) (hC.2.1 _ (by decide +kernel)) (va_recv hC.1 (x1 hss_2) (q0 := 0) (ci := 4) (q := (RX3, TX3, 8)) rfl rfl) dX4_poolSize_23 ?_
        refine va_getN (D := xD G) (ci := 4) (v := .int (xb (zI S i))) (C := RX3) (T := TX3) (N := 8) hx hb hts (by decide +kernel) hown hC.1 (x1 hss_2) 0 rfl rfl 7 (by decide) (va_Nw.use rfl (hC.2.1 (.fieldLinkNest "Bidwhistle" 129 "Bidwhistle$Strategy" "inPool" "Z" "Bidwhistle") (by decide +kernel))) (fun _ h9 => h9) rfl dX4_poolSize_26 ?_
        refine lv_if_eq (tgt := 35) hx hb dX4_poolSize_29 (by decide) (fun c_3 => ?_) (fun c_3 => ?_)
        · have _ := hx
          refine lv_iinc (v := (nI (i + 1))) (lv' := [(2, .int (nI (i + 1))), (0, .ref (ad 0)), (1, .int (nI c9))]) hx hb dX4_poolSize_35 hl (k := 2) rfl (xinc (by decide)) (by decide) rfl (fun ls hl => ?_)
          refine lv_goto (tgt := 4) hx hb dX4_poolSize_38 (by decide) ?_
          exact ihL (i + 1) (c9) (by omega) (by rw [hc9]; exact (xct_0 c_3).symm) (by omega) _ hS ls (lv_sub hl [1, 2, 0] rfl)
        · have _ := hx
          refine lv_iinc (v := (nI (c9 + 1))) (lv' := [(1, .int (nI (c9 + 1))), (0, .ref (ad 0)), (2, .int (nI i))]) hx hb dX4_poolSize_32 hl (k := 1) rfl (xinc (by decide)) (by decide) rfl (fun ls hl => ?_)
          refine lv_iinc (v := (nI (i + 1))) (lv' := [(2, .int (nI (i + 1))), (1, .int (nI (c9 + 1))), (0, .ref (ad 0))]) hx hb dX4_poolSize_35 hl (k := 2) rfl (xinc (by decide)) (by decide) rfl (fun ls hl => ?_)
          refine lv_goto (tgt := 4) hx hb dX4_poolSize_38 (by decide) ?_
          exact ihL (i + 1) ((c9 + 1)) (by omega) (by rw [hc9]; exact (xct_1 c_3).symm) (by omega) _ hS ls (lv_sub hl [2, 1, 0] rfl)
  exact L _ (0) (0) (Nat.zero_le _) (rfl) (Nat.lt_succ_self _) _ hS ls (lv_sub hl [2, 1, 0] rfl)

set_option maxHeartbeats 4000000 in
set_option maxRecDepth 100000 in
/-- numberOf(program) -/
theorem c_X4_numberOf (l : Launch) (hfl : l.stackTraces = false) (G : xG) (ad : Nat → Nat) (S : zS) (kp : Nat → Nat) (m9 fb : Int32) (k9 : Nat) (a9 : Nat → Option Nat) (p r a n9 : Nat) (t9 : Nat → Nat) (H : Heap) (hx0 : xB G ad fb (zK S) H) (hl9 : zList G ad (zN S) m9 k9 a9 H) (hW : zW S) (hst : ∀ i, i < zN S → zStrat G ad S kp i H) (hpp : pA G p r a t9 n9 H) : xMet l G yX4_numberOf wsX4_numberOf ({ frames := 3, cells := 0, slots := 0, locals := 64 } : Room) [.ref (ad 0), .ref p] H (xi H (xpar (zfnd S t9 n9 (zN S)))) (xNo) := by
  refine vx_ofW (cc := cX4_numberOf) (maxL := 3) (ret := (some .int)) (by decide) rfl ?_
  intro Pg Ev s m args below meth c s₁ B hml hout hv
  obtain ⟨rfl, hH, hC⟩ := hv
  have hx := B.exec
  have hb := B.bytes
  have hr := B.returns
  have hts := atoms_spec (ws := wsX4_numberOf) B.pre
  have hown : s.vm.findClass RX4 = some m.cls := findClass_of_methodNamed B.named
  have hlocks := B.notSynchronized
  rw [hH]
  have hS : va_S (xA G) s.heap H [] := by rw [← hH]; exact va_S.rf
  generalize ([] : List Loc) = locs at hS ⊢
  have hl := lv_entry [.ref (ad 0), .ref p] (n := 3) (Nat.le_of_ble_eq_true rfl)
  rw [lg_entry_eq]
  generalize (lg_sl [.ref (ad 0), .ref p] ++ List.replicate (3 - (lg_sl [.ref (ad 0), .ref p]).length) Slot.unset).toArray = ls at hl ⊢
  have hl : lv_has ls 3 [(0, .ref (ad 0)), (1, .ref p)] := hl
  have hl0 := hl9.1.1
  have hn20 := hW.1
  refine lv_iconst (v := (nI 0)) hx hb dX4_numberOf_0 (by decide) ?_
  refine lv_istore_n (lv' := [(2, .int (nI 0)), (0, .ref (ad 0)), (1, .ref p)]) hx hb dX4_numberOf_1 rfl hl (by decide) rfl (fun ls hl => ?_)
  have L : ∀ (kL : Nat) (i : Nat), (i ≤ zN S) → (∀ j, j < i → zpsame S t9 n9 j = false) → zN S - i < kL → ∀ (locs : List Loc), va_S (xA G) s.heap H locs → ∀ ls : Array Slot, lv_has ls 3 [(0, .ref (ad 0)), (1, .ref p), (2, .int (nI i))] → W Pg l Ev (headSpec wsX4_numberOf ({ frames := 3, cells := 0, slots := 0, locals := 64 } : Room)).room s m ([.ref (ad 0), .ref p] : List Value).toArray below meth c H locs (0) (0) (vx_MQ below (xQ G (xi H (xpar (zfnd S t9 n9 (zN S))))) (xX G (xNo)) ([.ref (ad 0), .ref p] : List Value).toArray s ({ frames := 3, cells := 0, slots := 0, locals := 64 } : Room).cells ({ frames := 3, cells := 0, slots := 0, locals := 64 } : Room).slots (xA G)) (F0 m 2 ls []) := by
    intro kL
    induction kL with
    | zero => intro i hi hno hk; exact absurd hk (Nat.not_lt_zero _)
    | succ kL ihL =>
      intro i hi hno hk locs hS ls hl
      refine lv_iload_n hx hb dX4_numberOf_2 rfl (lv_at hl 2 rfl) ?_
      refine lv_aload_n hx hb dX4_numberOf_3 rfl (lv_at hl 0 rfl) ?_
      refine va_get (D := xD G) (ci := 5) (v := .ref (ad 10)) (C := RX4) (T := TX4) (N := 11) hx hb hts (by decide +kernel) hown hC.1 (x1 hx0) 0 rfl rfl 3 (by decide) (hts (.fieldLink RX4 29 "Bidwhistle" "strategies" "Ljava/util/ArrayList;") (by decide +kernel)) (fun _ h9 => h9) rfl dX4_numberOf_4 ?_
      refine x_intE (vx_runV (As := []) (rest := [.int (nI i)]) ⟨hx, hb, hml, hown, hts⟩ (c_Jx4a65c_size_8abf5 l hfl G (ad 10) (ad 11) (zN S) m9 H hl0) (cwV 0 hts gX4_numberOf_Jx4a65c_size_8abf5 rfl rfl rfl (by decide +kernel) ⟨(Nat.le_of_ble_eq_true rfl), (Nat.le_of_ble_eq_true rfl)⟩) (xPreV hC hS hl0 (q := (RJx4a65c, TJx4a65c, 3)) rfl) rfl rfl hl.1 rfl (lv_room (Nat.le_of_ble_eq_true rfl)) dX4_numberOf_7 ⟨(by first | exact Nat.le_of_ble_eq_true rfl | exact (show 0 + 0 ≤ 0 by omega)), (by first | exact Nat.le_of_ble_eq_true rfl | exact (show 0 + 0 ≤ 0 by omega))⟩) hS (fun locs hS => ?_)
      refine lv_icmp_ge (tgt := 42) hx hb dX4_numberOf_10 (by decide) (fun c_1 => ?_) (fun c_1 => ?_)
      · have _ := hx
        have c_1 : (zN S) ≤ i := (nI_leI (a := (zN S)) (b := i) (by omega) (by omega)).mp c_1
        refine lv_iconst (v := (-1)) hx hb dX4_numberOf_42 (by decide) ?_
        exact x_iret (G := G) hx hb hr rfl dX4_numberOf_43 hlocks hS (by first | exact Nat.le_of_ble_eq_true rfl | exact (show 0 ≤ 0 by omega)) (by first | exact Nat.le_of_ble_eq_true rfl | exact (show 0 ≤ 0 by omega)) ⟨rfl, by rw [zfnd_none (fun j hj => hno j (by omega))]; rfl⟩
      · have _ := hx
        have c_1 : ¬ ((zN S) ≤ i) := fun z => c_1 ((nI_leI (a := (zN S)) (b := i) (by omega) (by omega)).mpr z)
        refine lv_aload_n hx hb dX4_numberOf_13 rfl (lv_at hl 0 rfl) ?_
        refine va_get (D := xD G) (ci := 5) (v := .ref (ad 10)) (C := RX4) (T := TX4) (N := 11) hx hb hts (by decide +kernel) hown hC.1 (x1 hx0) 0 rfl rfl 3 (by decide) (hts (.fieldLink RX4 29 "Bidwhistle" "strategies" "Ljava/util/ArrayList;") (by decide +kernel)) (fun _ h9 => h9) rfl dX4_numberOf_14 ?_
        refine lv_iload_n hx hb dX4_numberOf_17 rfl (lv_at hl 2 rfl) ?_
        have hq := lA.q hl9.1 (show i < zN S by omega)
        refine x_refE (vx_runV (As := [.int (nI i)]) (rest := []) ⟨hx, hb, hml, hown, hts⟩ (c_Jx4a65c_get_915e3 l hfl G (ad 10) (ad 11) (zN S) k9 i (ad (22 + 6 * i)) m9 a9 H hl0 hq.1 (by omega) hq.2.1 hq.2.2 (hl9.2 i (by omega))) (cwV 1 hts gX4_numberOf_Jx4a65c_get_915e3 rfl rfl rfl (by decide +kernel) ⟨(Nat.le_of_ble_eq_true rfl), (Nat.le_of_ble_eq_true rfl)⟩) (xPreV hC hS hl0 (q := (RJx4a65c, TJx4a65c, 3)) rfl) rfl rfl hl.1 rfl (lv_room (Nat.le_of_ble_eq_true rfl)) dX4_numberOf_18 ⟨(by first | exact Nat.le_of_ble_eq_true rfl | exact (show 0 + 0 ≤ 0 by omega)), (by first | exact Nat.le_of_ble_eq_true rfl | exact (show 0 + 0 ≤ 0 by omega))⟩) hS (fun locs hS => ?_)
        obtain ⟨ts_2, sls_2, fs_2, hss_2, hps_2, hbs_2, hvs_2, hts_2, hfs_2, hzs_2⟩ := hst i (by omega)
        refine va_castY (C := "Bidwhistle$Strategy") hx hb hown (hts (.classLink RX4 111 "Bidwhistle$Strategy") (by decide +kernel)) (hC.2.1 _ (by decide +kernel)) (va_recv hC.1 (x1 hss_2) (q0 := 0) (ci := 4) (q := (RX3, TX3, 8)) rfl rfl) dX4_numberOf_21 ?_
        refine va_getN (D := xD G) (ci := 4) (v := .ref (ad (23 + 6 * i))) (C := RX3) (T := TX3) (N := 8) hx hb hts (by decide +kernel) hown hC.1 (x1 hss_2) 0 rfl rfl 1 (by decide) (va_Nw.use rfl (hC.2.1 (.fieldLinkNest "Bidwhistle" 135 "Bidwhistle$Strategy" "program" "LBidwhistle$Program;" "Bidwhistle") (by decide +kernel))) (fun _ h9 => h9) rfl dX4_numberOf_24 ?_
        refine lv_aload_n hx hb dX4_numberOf_27 rfl (lv_at hl 1 rfl) ?_
        have hpo := hps_2.1
        refine x_intE (vx_runV (As := [.ref p]) (rest := []) ⟨hx, hb, hml, hown, hts⟩ (c_X0_isSameAs l hfl G (ad (23 + 6 * i)) (ad (24 + 6 * i)) (ad (25 + 6 * i)) (zL S i) p r a n9 ts_2 t9 H hps_2 hpp) (cwV 1 hts gX4_numberOf_X0_isSameAs rfl rfl rfl (by decide +kernel) ⟨(Nat.le_of_ble_eq_true rfl), (Nat.le_of_ble_eq_true rfl)⟩) (xPreV hC hS hpo (q := (RX0, TX0, 3)) rfl) rfl rfl hl.1 rfl (lv_room (Nat.le_of_ble_eq_true rfl)) dX4_numberOf_28 ⟨(by first | exact Nat.le_of_ble_eq_true rfl | exact (show 0 + 0 ≤ 0 by omega)), (by first | exact Nat.le_of_ble_eq_true rfl | exact (show 0 + 0 ≤ 0 by omega))⟩) hS (fun locs hS => ?_)
        refine lv_if_eq (tgt := 36) hx hb dX4_numberOf_31 (by decide) (fun c_3 => ?_) (fun c_3 => ?_)
        · have _ := hx
          refine lv_iinc (v := (nI (i + 1))) (lv' := [(2, .int (nI (i + 1))), (0, .ref (ad 0)), (1, .ref p)]) hx hb dX4_numberOf_36 hl (k := 2) rfl (xinc (by decide)) (by decide) rfl (fun ls hl => ?_)
          refine lv_goto (tgt := 2) hx hb dX4_numberOf_39 (by decide) ?_
          exact ihL (i + 1) (by omega) (fun j hj => by rcases Nat.lt_or_ge j i with z | z; exact hno j z; rw [show j = i by omega]; unfold zpsame; rw [xsame_cong (fun k hk => (hts_2 k hk).symm) (fun _ _ => rfl)]; exact xb_0.mp c_3) (by omega) _ hS ls (lv_sub hl [1, 2, 0] rfl)
        · have _ := hx
          refine lv_iload_n hx hb dX4_numberOf_34 rfl (lv_at hl 2 rfl) ?_
          exact x_iret (G := G) hx hb hr rfl dX4_numberOf_35 hlocks hS (by first | exact Nat.le_of_ble_eq_true rfl | exact (show 0 ≤ 0 by omega)) (by first | exact Nat.le_of_ble_eq_true rfl | exact (show 0 ≤ 0 by omega)) ⟨rfl, by rw [zfnd_at hno (show zpsame S t9 n9 i = true by unfold zpsame; rw [xsame_cong (fun k hk => (hts_2 k hk).symm) (fun _ _ => rfl)]; exact xb_1 c_3) (show i < zN S by omega)]; rfl⟩
  exact L _ (0) (Nat.zero_le _) (fun j hj => absurd hj (Nat.not_lt_zero j)) (Nat.lt_succ_self _) _ hS ls (lv_sub hl [1, 2, 0] rfl)

set_option maxHeartbeats 4000000 in
set_option maxRecDepth 100000 in
/-- stepsOfLine(j) -/
theorem c_X4_steps_some (l : Launch) (hfl : l.stackTraces = false) (G : xG) (ad : Nat → Nat) (S : zS) (kp : Nat → Nat) (m9 fb : Int32) (k9 : Nat) (a9 : Nat → Option Nat) (j9 : Nat) (H : Heap) (hx0 : xB G ad fb (zK S) H) (hl9 : zList G ad (zN S) m9 k9 a9 H) (hW : zW S) (hst : ∀ i, i < zN S → zStrat G ad S kp i H) (hj9 : j9 < zN S) : xMet l G yX4_stepsOfLine wsX4_stepsOfLine ({ frames := 6, cells := 0, slots := 0, locals := 160 } : Room) [.ref (ad 0), .int (nI j9)] H (fun v H1 => H = H1 ∧ ∃ r : Int32, v = some (.int r) ∧ zbits r (fun s => zline S s (j9 + 1) j9)) (xNo) := by
  refine vx_ofW (cc := cX4_stepsOfLine) (maxL := 2) (ret := (some .int)) (by decide) rfl ?_
  intro Pg Ev s m args below meth c s₁ B hml hout hv
  obtain ⟨rfl, hH, hC⟩ := hv
  have hx := B.exec
  have hb := B.bytes
  have hr := B.returns
  have hts := atoms_spec (ws := wsX4_stepsOfLine) B.pre
  have hown : s.vm.findClass RX4 = some m.cls := findClass_of_methodNamed B.named
  have hlocks := B.notSynchronized
  rw [hH]
  have hS : va_S (xA G) s.heap H [] := by rw [← hH]; exact va_S.rf
  generalize ([] : List Loc) = locs at hS ⊢
  have hl := lv_entry [.ref (ad 0), .int (nI j9)] (n := 2) (Nat.le_of_ble_eq_true rfl)
  rw [lg_entry_eq]
  generalize (lg_sl [.ref (ad 0), .int (nI j9)] ++ List.replicate (2 - (lg_sl [.ref (ad 0), .int (nI j9)]).length) Slot.unset).toArray = ls at hl ⊢
  have hl : lv_has ls 2 [(0, .ref (ad 0)), (1, .int (nI j9))] := hl
  have hl0 := hl9.1.1
  have hn20 := hW.1
  refine lv_iload_n hx hb dX4_stepsOfLine_0 rfl (lv_at hl 1 rfl) ?_
  refine lv_if_lt (tgt := 15) hx hb dX4_stepsOfLine_1 (by decide) (fun c_1 => ?_) (fun c_1 => ?_)
  · have _ := hx
    have c_1 : j9 < 0 := (nI_ltI (a := j9) (b := 0) (by omega) (by omega)).mp c_1
    exact absurd c_1 (by omega)
  · have _ := hx
    have c_1 : ¬ (j9 < 0) := fun z => c_1 ((nI_ltI (a := j9) (b := 0) (by omega) (by omega)).mpr z)
    refine lv_iload_n hx hb dX4_stepsOfLine_4 rfl (lv_at hl 1 rfl) ?_
    refine lv_aload_n hx hb dX4_stepsOfLine_5 rfl (lv_at hl 0 rfl) ?_
    refine va_get (D := xD G) (ci := 5) (v := .ref (ad 10)) (C := RX4) (T := TX4) (N := 11) hx hb hts (by decide +kernel) hown hC.1 (x1 hx0) 0 rfl rfl 3 (by decide) (hts (.fieldLink RX4 29 "Bidwhistle" "strategies" "Ljava/util/ArrayList;") (by decide +kernel)) (fun _ h9 => h9) rfl dX4_stepsOfLine_6 ?_
    refine x_intE (vx_runV (As := []) (rest := [.int (nI j9)]) ⟨hx, hb, hml, hown, hts⟩ (c_Jx4a65c_size_8abf5 l hfl G (ad 10) (ad 11) (zN S) m9 H hl0) (cwV 0 hts gX4_stepsOfLine_Jx4a65c_size_8abf5 rfl rfl rfl (by decide +kernel) ⟨(Nat.le_of_ble_eq_true rfl), (Nat.le_of_ble_eq_true rfl)⟩) (xPreV hC hS hl0 (q := (RJx4a65c, TJx4a65c, 3)) rfl) rfl rfl hl.1 rfl (lv_room (Nat.le_of_ble_eq_true rfl)) dX4_stepsOfLine_9 ⟨(by first | exact Nat.le_of_ble_eq_true rfl | exact (show 0 + 0 ≤ 0 by omega)), (by first | exact Nat.le_of_ble_eq_true rfl | exact (show 0 + 0 ≤ 0 by omega))⟩) hS (fun locs hS => ?_)
    refine lv_icmp_lt (tgt := 17) hx hb dX4_stepsOfLine_12 (by decide) (fun c_2 => ?_) (fun c_2 => ?_)
    · have _ := hx
      have c_2 : j9 < (zN S) := (nI_ltI (a := j9) (b := (zN S)) (by omega) (by omega)).mp c_2
      refine lv_aload_n hx hb dX4_stepsOfLine_17 rfl (lv_at hl 0 rfl) ?_
      refine va_get (D := xD G) (ci := 5) (v := .ref (ad 10)) (C := RX4) (T := TX4) (N := 11) hx hb hts (by decide +kernel) hown hC.1 (x1 hx0) 0 rfl rfl 3 (by decide) (hts (.fieldLink RX4 29 "Bidwhistle" "strategies" "Ljava/util/ArrayList;") (by decide +kernel)) (fun _ h9 => h9) rfl dX4_stepsOfLine_18 ?_
      refine lv_iload_n hx hb dX4_stepsOfLine_21 rfl (lv_at hl 1 rfl) ?_
      have hq := lA.q hl9.1 (show j9 < zN S by omega)
      refine x_refE (vx_runV (As := [.int (nI j9)]) (rest := []) ⟨hx, hb, hml, hown, hts⟩ (c_Jx4a65c_get_915e3 l hfl G (ad 10) (ad 11) (zN S) k9 j9 (ad (22 + 6 * j9)) m9 a9 H hl0 hq.1 (by omega) hq.2.1 hq.2.2 (hl9.2 j9 (by omega))) (cwV 1 hts gX4_stepsOfLine_Jx4a65c_get_915e3 rfl rfl rfl (by decide +kernel) ⟨(Nat.le_of_ble_eq_true rfl), (Nat.le_of_ble_eq_true rfl)⟩) (xPreV hC hS hl0 (q := (RJx4a65c, TJx4a65c, 3)) rfl) rfl rfl hl.1 rfl (lv_room (Nat.le_of_ble_eq_true rfl)) dX4_stepsOfLine_22 ⟨(by first | exact Nat.le_of_ble_eq_true rfl | exact (show 0 + 0 ≤ 0 by omega)), (by first | exact Nat.le_of_ble_eq_true rfl | exact (show 0 + 0 ≤ 0 by omega))⟩) hS (fun locs hS => ?_)
      obtain ⟨ts_3, sls_3, fs_3, hss_3, hps_3, hbs_3, hvs_3, hts_3, hfs_3, hzs_3⟩ := hst j9 (by omega)
      refine va_castY (C := "Bidwhistle$Strategy") hx hb hown (hts (.classLink RX4 111 "Bidwhistle$Strategy") (by decide +kernel)) (hC.2.1 _ (by decide +kernel)) (va_recv hC.1 (x1 hss_3) (q0 := 0) (ci := 4) (q := (RX3, TX3, 8)) rfl rfl) dX4_stepsOfLine_25 ?_
      refine va_getN (D := xD G) (ci := 4) (v := .int sls_3) (C := RX3) (T := TX3) (N := 8) hx hb hts (by decide +kernel) hown hC.1 (x1 hss_3) 0 rfl rfl 5 (by decide) (va_Nw.use rfl (hC.2.1 (.fieldLinkNest "Bidwhistle" 156 "Bidwhistle$Strategy" "stepsOfLine" "I" "Bidwhistle") (by decide +kernel))) (fun _ h9 => h9) rfl dX4_stepsOfLine_28 ?_
      exact x_iret (G := G) hx hb hr rfl dX4_stepsOfLine_31 hlocks hS (by first | exact Nat.le_of_ble_eq_true rfl | exact (show 0 ≤ 0 by omega)) (by first | exact Nat.le_of_ble_eq_true rfl | exact (show 0 ≤ 0 by omega)) ⟨rfl, _, rfl, hzs_3⟩
    · have _ := hx
      have c_2 : ¬ (j9 < (zN S)) := fun z => c_2 ((nI_ltI (a := j9) (b := (zN S)) (by omega) (by omega)).mpr z)
      exact absurd c_2 (by omega)

set_option maxHeartbeats 4000000 in
set_option maxRecDepth 100000 in
/-- stepsOfLine(NONE) -/
theorem c_X4_steps_none (l : Launch) (hfl : l.stackTraces = false) (G : xG) (ad : Nat → Nat) (S : zS) (kp : Nat → Nat) (m9 fb : Int32) (k9 : Nat) (a9 : Nat → Option Nat) (H : Heap) (hx0 : xB G ad fb (zK S) H) (hl9 : zList G ad (zN S) m9 k9 a9 H) (hW : zW S) (hst : ∀ i, i < zN S → zStrat G ad S kp i H) : xMet l G yX4_stepsOfLine wsX4_stepsOfLine ({ frames := 6, cells := 0, slots := 0, locals := 160 } : Room) [.ref (ad 0), .int (-1)] H (fun v H1 => H = H1 ∧ ∃ r : Int32, v = some (.int r) ∧ zbits r (fun s => false)) (xNo) := by
  refine vx_ofW (cc := cX4_stepsOfLine) (maxL := 2) (ret := (some .int)) (by decide) rfl ?_
  intro Pg Ev s m args below meth c s₁ B hml hout hv
  obtain ⟨rfl, hH, hC⟩ := hv
  have hx := B.exec
  have hb := B.bytes
  have hr := B.returns
  have hts := atoms_spec (ws := wsX4_stepsOfLine) B.pre
  have hown : s.vm.findClass RX4 = some m.cls := findClass_of_methodNamed B.named
  have hlocks := B.notSynchronized
  rw [hH]
  have hS : va_S (xA G) s.heap H [] := by rw [← hH]; exact va_S.rf
  generalize ([] : List Loc) = locs at hS ⊢
  have hl := lv_entry [.ref (ad 0), .int (-1)] (n := 2) (Nat.le_of_ble_eq_true rfl)
  rw [lg_entry_eq]
  generalize (lg_sl [.ref (ad 0), .int (-1)] ++ List.replicate (2 - (lg_sl [.ref (ad 0), .int (-1)]).length) Slot.unset).toArray = ls at hl ⊢
  have hl : lv_has ls 2 [(0, .ref (ad 0)), (1, .int (-1))] := hl
  have hl0 := hl9.1.1
  have hn20 := hW.1
  refine lv_iload_n hx hb dX4_stepsOfLine_0 rfl (lv_at hl 1 rfl) ?_
  refine lv_if_lt (tgt := 15) hx hb dX4_stepsOfLine_1 (by decide) (fun c_1 => ?_) (fun c_1 => ?_)
  · have _ := hx
    refine lv_iconst (v := (nI 0)) hx hb dX4_stepsOfLine_15 (by decide) ?_
    exact x_iret (G := G) hx hb hr rfl dX4_stepsOfLine_16 hlocks hS (by first | exact Nat.le_of_ble_eq_true rfl | exact (show 0 ≤ 0 by omega)) (by first | exact Nat.le_of_ble_eq_true rfl | exact (show 0 ≤ 0 by omega)) ⟨rfl, _, rfl, zbits_zero⟩
  · have _ := hx
    exact absurd (by decide) c_1

theorem c_X4_stepsOfLine (l : Launch) (hfl : l.stackTraces = false) (G : xG) (ad : Nat → Nat) (S : zS) (kp : Nat → Nat) (m9 fb : Int32) (k9 : Nat) (a9 : Nat → Option Nat) (j9 : Nat) (H : Heap) (hx0 : xB G ad fb (zK S) H) (hl9 : zList G ad (zN S) m9 k9 a9 H) (hW : zW S) (hst : ∀ i, i < zN S → zStrat G ad S kp i H) (hj9 : j9 ≤ zN S) :
    xMet l G yX4_stepsOfLine wsX4_stepsOfLine ({ frames := 6, cells := 0, slots := 0, locals := 160 } : Room) [.ref (ad 0), .int (xpar j9)] H (fun v H1 => H = H1 ∧ ∃ r : Int32, v = some (.int r) ∧ zbits r (fun s => decide (j9 ≠ 0) && zline S s j9 (j9 - 1))) xNo := by
  cases j9 with
  | zero => exact x_post (c_X4_steps_none l hfl G ad S kp m9 fb k9 a9 H hx0 hl9 hW hst) (fun v H1 h => ⟨h.1, h.2.choose, h.2.choose_spec.1, zbits_ext h.2.choose_spec.2 (fun j _ => rfl)⟩)
  | succ j9 => exact x_post (c_X4_steps_some l hfl G ad S kp m9 fb k9 a9 j9 H hx0 hl9 hW hst hj9) (fun v H1 h => ⟨h.1, h.2.choose, h.2.choose_spec.1, zbits_ext h.2.choose_spec.2 (fun j _ => rfl)⟩)
theorem zofI_inj {a b : Int} (ha : 0 ≤ a ∧ a ≤ 999) (hb : 0 ≤ b ∧ b ≤ 999) : Int32.ofInt a = Int32.ofInt b ↔ a = b := ⟨fun h => by have := congrArg Int32.toInt h; rw [xi_toInt (by omega) (by omega), xi_toInt (by omega) (by omega)] at this; exact this, fun h => by rw [h]⟩
/-- rows of bids are the same if the bids are -/
theorem zrows_same {f g : Nat → Int32} {x y : Nat → Int} {n : Nat} (hf : ∀ v, v < n → f v = Int32.ofInt (x v)) (hg : ∀ v, v < n → g v = Int32.ofInt (y v)) (hx : ∀ v, 0 ≤ x v ∧ x v ≤ 999) (hy : ∀ v, 0 ≤ y v ∧ y v ≤ 999) : xsame xeq f g n = xsame (fun x y : Int => decide (x = y)) x y n := by
  rw [Bool.eq_iff_iff, xsame_iff, xsame_iff]
  exact ⟨fun h k hk => by have := h k hk; simp only [xeq, decide_eq_true_iff] at this ⊢; rw [hf k hk, hg k hk] at this; exact (zofI_inj (hx k) (hy k)).mp this, fun h k hk => by have := h k hk; simp only [xeq, decide_eq_true_iff] at this ⊢; rw [hf k hk, hg k hk, this]⟩
set_option maxHeartbeats 4000000 in
set_option maxRecDepth 100000 in
/-- kindOf(strategy) -/
theorem c_X4_kindOf (l : Launch) (hfl : l.stackTraces = false) (G : xG) (ad : Nat → Nat) (S : zS) (kp : Nat → Nat) (m9 fb : Int32) (k9 : Nat) (a9 : Nat → Option Nat) (h f1 b9 ba9 : Nat) (f2 f3 f5 f6 f7 : Int32) (f9 : Nat → Int32) (g9 : Nat → Int) (H : Heap) (hx0 : xB G ad fb (zK S) H) (hl9 : zList G ad (zN S) m9 k9 a9 H) (hW : zW S) (hst : ∀ i, i < zN S → zStrat G ad S kp i H) (hkp : zKinds S kp) (hh0 : oA G h 4 [.int (nI (zN S)), .ref f1, .int f2, .int f3, .ref b9, .int f5, .int f6, .int f7] H) (hb9 : oA G b9 2 [.ref ba9] H) (hba9 : iA G ba9 100 f9 H) (hf9 : ∀ v, v < 100 → f9 v = Int32.ofInt (g9 v)) (hg9 : ∀ v, 0 ≤ g9 v ∧ g9 v ≤ 999) : xMet l G yX4_kindOf wsX4_kindOf ({ frames := 3, cells := 0, slots := 0, locals := 64 } : Room) [.ref (ad 0), .ref h] H (fun v H1 => H = H1 ∧ ∃ q, v = some (.int (nI q)) ∧ q ≤ zN S ∧ ∀ i, i < zN S → (kp i = q ↔ xsame (fun x y : Int => decide (x = y)) (xbid (zP S i) (zL S i)) g9 100 = true)) (xNo) := by
  refine vx_ofW (cc := cX4_kindOf) (maxL := 4) (ret := (some .int)) (by decide) rfl ?_
  intro Pg Ev s m args below meth c s₁ B hml hout hv
  obtain ⟨rfl, hH, hC⟩ := hv
  have hx := B.exec
  have hb := B.bytes
  have hr := B.returns
  have hts := atoms_spec (ws := wsX4_kindOf) B.pre
  have hown : s.vm.findClass RX4 = some m.cls := findClass_of_methodNamed B.named
  have hlocks := B.notSynchronized
  rw [hH]
  have hS : va_S (xA G) s.heap H [] := by rw [← hH]; exact va_S.rf
  generalize ([] : List Loc) = locs at hS ⊢
  have hl := lv_entry [.ref (ad 0), .ref h] (n := 4) (Nat.le_of_ble_eq_true rfl)
  rw [lg_entry_eq]
  generalize (lg_sl [.ref (ad 0), .ref h] ++ List.replicate (4 - (lg_sl [.ref (ad 0), .ref h]).length) Slot.unset).toArray = ls at hl ⊢
  have hl : lv_has ls 4 [(0, .ref (ad 0)), (1, .ref h)] := hl
  have hl0 := hl9.1.1
  have hn20 := hW.1
  refine lv_iconst (v := (nI 0)) hx hb dX4_kindOf_0 (by decide) ?_
  refine lv_istore_n (lv' := [(2, .int (nI 0)), (0, .ref (ad 0)), (1, .ref h)]) hx hb dX4_kindOf_1 rfl hl (by decide) rfl (fun ls hl => ?_)
  have L : ∀ (kL : Nat) (i : Nat), (i ≤ zN S) → (∀ j, j < i → xsame (fun x y : Int => decide (x = y)) (xbid (zP S j) (zL S j)) g9 100 = false) → zN S - i < kL → ∀ (locs : List Loc), va_S (xA G) s.heap H locs → ∀ ls : Array Slot, lv_has ls 4 [(0, .ref (ad 0)), (1, .ref h), (2, .int (nI i))] → W Pg l Ev (headSpec wsX4_kindOf ({ frames := 3, cells := 0, slots := 0, locals := 64 } : Room)).room s m ([.ref (ad 0), .ref h] : List Value).toArray below meth c H locs (0) (0) (vx_MQ below (xQ G (fun v H1 => H = H1 ∧ ∃ q, v = some (.int (nI q)) ∧ q ≤ zN S ∧ ∀ i, i < zN S → (kp i = q ↔ xsame (fun x y : Int => decide (x = y)) (xbid (zP S i) (zL S i)) g9 100 = true))) (xX G (xNo)) ([.ref (ad 0), .ref h] : List Value).toArray s ({ frames := 3, cells := 0, slots := 0, locals := 64 } : Room).cells ({ frames := 3, cells := 0, slots := 0, locals := 64 } : Room).slots (xA G)) (F0 m 2 ls []) := by
    intro kL
    induction kL with
    | zero => intro i hi hno hk; exact absurd hk (Nat.not_lt_zero _)
    | succ kL ihL =>
      intro i hi hno hk locs hS ls hl
      refine lv_iload_n hx hb dX4_kindOf_2 rfl (lv_at hl 2 rfl) ?_
      refine lv_aload_n hx hb dX4_kindOf_3 rfl (lv_at hl 0 rfl) ?_
      refine va_get (D := xD G) (ci := 5) (v := .ref (ad 10)) (C := RX4) (T := TX4) (N := 11) hx hb hts (by decide +kernel) hown hC.1 (x1 hx0) 0 rfl rfl 3 (by decide) (hts (.fieldLink RX4 29 "Bidwhistle" "strategies" "Ljava/util/ArrayList;") (by decide +kernel)) (fun _ h9 => h9) rfl dX4_kindOf_4 ?_
      refine x_intE (vx_runV (As := []) (rest := [.int (nI i)]) ⟨hx, hb, hml, hown, hts⟩ (c_Jx4a65c_size_8abf5 l hfl G (ad 10) (ad 11) (zN S) m9 H hl0) (cwV 0 hts gX4_kindOf_Jx4a65c_size_8abf5 rfl rfl rfl (by decide +kernel) ⟨(Nat.le_of_ble_eq_true rfl), (Nat.le_of_ble_eq_true rfl)⟩) (xPreV hC hS hl0 (q := (RJx4a65c, TJx4a65c, 3)) rfl) rfl rfl hl.1 rfl (lv_room (Nat.le_of_ble_eq_true rfl)) dX4_kindOf_7 ⟨(by first | exact Nat.le_of_ble_eq_true rfl | exact (show 0 + 0 ≤ 0 by omega)), (by first | exact Nat.le_of_ble_eq_true rfl | exact (show 0 + 0 ≤ 0 by omega))⟩) hS (fun locs hS => ?_)
      refine lv_icmp_ge (tgt := 50) hx hb dX4_kindOf_10 (by decide) (fun c_1 => ?_) (fun c_1 => ?_)
      · have _ := hx
        have c_1 : (zN S) ≤ i := (nI_leI (a := (zN S)) (b := i) (by omega) (by omega)).mp c_1
        refine lv_aload_n hx hb dX4_kindOf_50 rfl (lv_at hl 1 rfl) ?_
        refine va_getN (D := xD G) (ci := 4) (v := .int (nI (zN S))) (C := RX3) (T := TX3) (N := 8) hx hb hts (by decide +kernel) hown hC.1 (x1 hh0) 0 rfl rfl 0 (by decide) (va_Nw.use rfl (hC.2.1 (.fieldLinkNest "Bidwhistle" 256 "Bidwhistle$Strategy" "number" "I" "Bidwhistle") (by decide +kernel))) (fun _ h9 => h9) rfl dX4_kindOf_51 ?_
        exact x_iret (G := G) hx hb hr rfl dX4_kindOf_54 hlocks hS (by first | exact Nat.le_of_ble_eq_true rfl | exact (show 0 ≤ 0 by omega)) (by first | exact Nat.le_of_ble_eq_true rfl | exact (show 0 ≤ 0 by omega)) ⟨rfl, zN S, rfl, Nat.le_refl _, fun j hj => ⟨fun z => absurd (hkp.1 j hj) (by omega), fun z => absurd z (by rw [hno j (by omega)]; decide)⟩⟩
      · have _ := hx
        have c_1 : ¬ ((zN S) ≤ i) := fun z => c_1 ((nI_leI (a := (zN S)) (b := i) (by omega) (by omega)).mpr z)
        refine lv_aload_n hx hb dX4_kindOf_13 rfl (lv_at hl 0 rfl) ?_
        refine va_get (D := xD G) (ci := 5) (v := .ref (ad 10)) (C := RX4) (T := TX4) (N := 11) hx hb hts (by decide +kernel) hown hC.1 (x1 hx0) 0 rfl rfl 3 (by decide) (hts (.fieldLink RX4 29 "Bidwhistle" "strategies" "Ljava/util/ArrayList;") (by decide +kernel)) (fun _ h9 => h9) rfl dX4_kindOf_14 ?_
        refine lv_iload_n hx hb dX4_kindOf_17 rfl (lv_at hl 2 rfl) ?_
        have hq := lA.q hl9.1 (show i < zN S by omega)
        refine x_refE (vx_runV (As := [.int (nI i)]) (rest := []) ⟨hx, hb, hml, hown, hts⟩ (c_Jx4a65c_get_915e3 l hfl G (ad 10) (ad 11) (zN S) k9 i (ad (22 + 6 * i)) m9 a9 H hl0 hq.1 (by omega) hq.2.1 hq.2.2 (hl9.2 i (by omega))) (cwV 1 hts gX4_kindOf_Jx4a65c_get_915e3 rfl rfl rfl (by decide +kernel) ⟨(Nat.le_of_ble_eq_true rfl), (Nat.le_of_ble_eq_true rfl)⟩) (xPreV hC hS hl0 (q := (RJx4a65c, TJx4a65c, 3)) rfl) rfl rfl hl.1 rfl (lv_room (Nat.le_of_ble_eq_true rfl)) dX4_kindOf_18 ⟨(by first | exact Nat.le_of_ble_eq_true rfl | exact (show 0 + 0 ≤ 0 by omega)), (by first | exact Nat.le_of_ble_eq_true rfl | exact (show 0 + 0 ≤ 0 by omega))⟩) hS (fun locs hS => ?_)
        obtain ⟨ts_2, sls_2, fs_2, hss_2, hps_2, hbs_2, hvs_2, hts_2, hfs_2, hzs_2⟩ := hst i (by omega)
        refine va_castY (C := "Bidwhistle$Strategy") hx hb hown (hts (.classLink RX4 111 "Bidwhistle$Strategy") (by decide +kernel)) (hC.2.1 _ (by decide +kernel)) (va_recv hC.1 (x1 hss_2) (q0 := 0) (ci := 4) (q := (RX3, TX3, 8)) rfl rfl) dX4_kindOf_21 ?_
        refine lv_astore_n (lv' := [(3, .ref (ad (22 + 6 * i))), (0, .ref (ad 0)), (1, .ref h), (2, .int (nI i))]) hx hb dX4_kindOf_24 rfl hl (by decide) rfl (fun ls hl => ?_)
        refine lv_aload_n hx hb dX4_kindOf_25 rfl (lv_at hl 0 rfl) ?_
        refine va_getN (D := xD G) (ci := 4) (v := .ref (ad (26 + 6 * i))) (C := RX3) (T := TX3) (N := 8) hx hb hts (by decide +kernel) hown hC.1 (x1 hss_2) 0 rfl rfl 4 (by decide) (va_Nw.use rfl (hC.2.1 (.fieldLinkNest "Bidwhistle" 240 "Bidwhistle$Strategy" "bids" "LBidwhistle$Row;" "Bidwhistle") (by decide +kernel))) (fun _ h9 => h9) rfl dX4_kindOf_26 ?_
        refine lv_aload_n hx hb dX4_kindOf_29 rfl (lv_at hl 2 rfl) ?_
        refine va_getN (D := xD G) (ci := 4) (v := .ref b9) (C := RX3) (T := TX3) (N := 8) hx hb hts (by decide +kernel) hown hC.1 (x1 hh0) 0 rfl rfl 4 (by decide) (va_Nw.use rfl (hC.2.1 (.fieldLinkNest "Bidwhistle" 240 "Bidwhistle$Strategy" "bids" "LBidwhistle$Row;" "Bidwhistle") (by decide +kernel))) (fun _ h9 => h9) rfl dX4_kindOf_30 ?_
        refine x_intE (vx_runV (As := [.ref b9]) (rest := []) ⟨hx, hb, hml, hown, hts⟩ (c_X1_isSameAs l hfl G (ad (26 + 6 * i)) (ad (27 + 6 * i)) b9 ba9 100 fs_2 f9 H hbs_2 hvs_2 hb9 hba9 (by decide)) (cwV 1 hts gX4_kindOf_X1_isSameAs rfl rfl rfl (by decide +kernel) ⟨(Nat.le_of_ble_eq_true rfl), (Nat.le_of_ble_eq_true rfl)⟩) (xPreV hC hS hbs_2 (q := (RX1, TX1, 1)) rfl) rfl rfl hl.1 rfl (lv_room (Nat.le_of_ble_eq_true rfl)) dX4_kindOf_33 ⟨(by first | exact Nat.le_of_ble_eq_true rfl | exact (show 0 + 0 ≤ 0 by omega)), (by first | exact Nat.le_of_ble_eq_true rfl | exact (show 0 + 0 ≤ 0 by omega))⟩) hS (fun locs hS => ?_)
        rw [zrows_same hfs_2 hf9 (fun v => xbd_in _) hg9]
        refine lv_if_eq (tgt := 44) hx hb dX4_kindOf_36 (by decide) (fun c_3 => ?_) (fun c_3 => ?_)
        · have _ := hx
          refine lv_iinc (v := (nI (i + 1))) (lv' := [(2, .int (nI (i + 1))), (3, .ref (ad (22 + 6 * i))), (0, .ref (ad 0)), (1, .ref h)]) hx hb dX4_kindOf_44 hl (k := 3) rfl (xinc (by decide)) (by decide) rfl (fun ls hl => ?_)
          refine lv_goto (tgt := 2) hx hb dX4_kindOf_47 (by decide) ?_
          exact ihL (i + 1) (by omega) (fun j hj => by rcases Nat.lt_or_ge j i with z | z; exact hno j z; rw [show j = i by omega]; exact xb_0.mp c_3) (by omega) _ hS ls (lv_sub hl [2, 3, 0] rfl)
        · have _ := hx
          refine lv_aload_n hx hb dX4_kindOf_39 rfl (lv_at hl 0 rfl) ?_
          refine va_getN (D := xD G) (ci := 4) (v := .int (nI (kp i))) (C := RX3) (T := TX3) (N := 8) hx hb hts (by decide +kernel) hown hC.1 (x1 hss_2) 0 rfl rfl 6 (by decide) (va_Nw.use rfl (hC.2.1 (.fieldLinkNest "Bidwhistle" 116 "Bidwhistle$Strategy" "kind" "I" "Bidwhistle") (by decide +kernel))) (fun _ h9 => h9) rfl dX4_kindOf_40 ?_
          exact x_iret (G := G) hx hb hr rfl dX4_kindOf_43 hlocks hS (by first | exact Nat.le_of_ble_eq_true rfl | exact (show 0 ≤ 0 by omega)) (by first | exact Nat.le_of_ble_eq_true rfl | exact (show 0 ≤ 0 by omega)) ⟨rfl, kp i, rfl, Nat.le_trans (hkp.1 i (by omega)) (by omega), fun j hj => by rw [hkp.2 j i hj (by omega)]; exact zalike_tr (xb_1 c_3)⟩
  exact L _ (0) (Nat.zero_le _) (fun j hj => absurd hj (Nat.not_lt_zero j)) (Nat.lt_succ_self _) _ hS ls (lv_sub hl [1, 2, 0] rfl)
