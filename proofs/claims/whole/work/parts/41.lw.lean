/-! the law: one wrapper for each call that may throw -/
set_option maxHeartbeats 1000000 in
set_option maxRecDepth 100000 in
/-- step, caught -/
theorem c_L_step (l : Launch) (hfl : l.stackTraces = false) (G : xG) (o9 : Nat) (ad : Nat → Nat) (S : zS) (f0 : Nat → Int64) (p9 : Int32) (H : Heap) (hX : XS (xGo G o9) ad S H) (hW : zW S) (ho : jA G o9 1 f0 H) (hAo : xA G o9) : lMet l G yL_step wsL_step ({ frames := 8, cells := 8, slots := 60, locals := 135 } : Room) [.ref (ad 0), .int p9, .ref o9] H (lPost G o9 ad (kstep S p9) (nI (zL S 20 + 1)) S (zset S (zL S 20 + 1) (va_up (zP S 20) (zL S 20) p9.toNatClampNeg))) := by
  refine vx_ofWH (cc := cL_step) (maxL := 4) (ret := (some .int)) (hh := [(0, 9, 12, 13), (0, 9, 15, 15)]) (by decide) rfl ?_
  intro Pg Ev s m args below meth c s₁ B hml hv
  obtain ⟨rfl, hH, hC, hN⟩ := hv
  have hx := B.exec
  have hb := B.bytes
  have hr := B.returns
  have hts := atoms_spec (ws := wsL_step) B.pre
  have hown : s.vm.findClass RL = some m.cls := findClass_of_methodNamed B.named
  have hlocks := B.notSynchronized
  have htb := vx_table (x := yL_step) B (hts (.codeWith yL_step cL_step 4 (some .int) [(0, 9, 12, 13), (0, 9, 15, 15)]) (by decide +kernel))
  rw [hH]
  have hS : va_S (xA G) s.heap H [] := by rw [← hH]; exact va_S.rf
  generalize ([] : List Loc) = locs at hS ⊢
  have hl := lv_entry [.ref (ad 0), .int p9, .ref o9] (n := 4) (Nat.le_of_ble_eq_true rfl)
  rw [lg_entry_eq]
  generalize (lg_sl [.ref (ad 0), .int p9, .ref o9] ++ List.replicate (4 - (lg_sl [.ref (ad 0), .int p9, .ref o9]).length) Slot.unset).toArray = ls at hl ⊢
  have hl : lv_has ls 4 [(0, .ref (ad 0)), (1, .int p9), (2, .ref o9)] := hl
  have hoE : o9 ≠ xE G := fun q => hC.xE (by rw [← q]; exact hAo)
  have hoz : o9 < H.size := ho.lt
  obtain ⟨fb, hfb, hx0⟩ := id hX.2.1
  refine lv_aload_n hx hb dL_step_0 rfl (lv_at hl 2 rfl) ?_
  refine lv_iconst (v := (nI 0)) hx hb dL_step_1 (by decide) ?_
  refine lv_aload_n hx hb dL_step_2 rfl (lv_at hl 0 rfl) ?_
  refine lv_iload_n hx hb dL_step_3 rfl (lv_at hl 1 rfl) ?_
  refine x_call (G1 := xGo G o9) (vx_runV (As := [.int p9]) (rest := [.int (nI 0), .ref o9]) ⟨hx, hb, hml, hown, hts⟩ (c_X4_step l hfl (xGo G o9) ad S p9 H hX hW) (cwV 1 hts gL_step_X4_step rfl rfl rfl (by decide +kernel) ⟨(Nat.le_of_ble_eq_true rfl), (Nat.le_of_ble_eq_true rfl)⟩) (lPreV hC hS (fun _ h => h.1) (fun q hq => ⟨hC.2.2.1 q (Nat.le_trans hS.1 hq), fun z => by omega⟩) hx0 (q := (RX4, TX4, 11)) rfl) rfl rfl hl.1 rfl (lv_room (Nat.le_of_ble_eq_true rfl)) dL_step_4 ⟨(by first | exact Nat.le_of_ble_eq_true rfl | exact (show 0 + 8 ≤ 8 by omega)), (by first | exact Nat.le_of_ble_eq_true rfl | exact (show 0 + 60 ≤ 60 by omega))⟩) hS (fun _ h => h.1) (fun E a9 ce H1 locs hp hz hk hS hq1 hq2 hq3 => ?_) (fun v H1 locs hp hz hk hS => ?_)
  · have _ := hx
    obtain ⟨hcs, hcx⟩ := lz2 hp
    rcases hcs with ⟨hk9, rfl⟩ | ⟨hk9, rfl⟩
    · have _ := hx
      refine vx_catch (own := RL) (name := "java/lang/IllegalArgumentException") hown [] ⟨0, 9, 12, 13⟩ [⟨0, 9, 15, 15⟩] htb (fun z hz => absurd hz (List.not_mem_nil)) rfl (by decide) (hts (.classLink RL 13 "java/lang/IllegalArgumentException") (by decide +kernel)) (va_Nw.use rfl (hC.2.1 (.castable "java/lang/IllegalArgumentException" "java/lang/IllegalArgumentException") (by decide +kernel))) hq1 hq2 hq3 ?_
      refine lv_astore_n (lv' := [(3, .ref a9), (0, .ref (ad 0)), (1, .int p9), (2, .ref o9)]) hx hb dL_step_12 rfl hl (by decide) rfl (fun ls hl => ?_)
      refine lv_iconst (v := (nI 1)) hx hb dL_step_13 (by decide) ?_
      exact x_iret (G := G) hx hb hr rfl dL_step_14 hlocks hS (by first | exact Nat.le_of_ble_eq_true rfl | exact (show 0 + 8 ≤ 8 by omega)) (by first | exact Nat.le_of_ble_eq_true rfl | exact (show 0 + 60 ≤ 60 by omega)) (by exact lP1 0 hk9 (hX.kept hcx (fun _ _ => List.not_mem_nil)) (ho.kept (hcx.2 o9 hoz (List.not_mem_nil))))
    · have _ := hx
      refine vx_catch (own := RL) (name := "java/lang/IllegalStateException") hown [⟨0, 9, 12, 13⟩] ⟨0, 9, 15, 15⟩ [] htb (fun z hz => by rcases List.mem_cons.mp hz with rfl | hz; exact Or.inr ⟨by decide, "java/lang/IllegalArgumentException", hts (.classLink RL 13 "java/lang/IllegalArgumentException") (by decide +kernel), hN ("java/lang/IllegalStateException", "java/lang/IllegalArgumentException") (by decide)⟩; cases hz) rfl (by decide) (hts (.classLink RL 15 "java/lang/IllegalStateException") (by decide +kernel)) (va_Nw.use rfl (hC.2.1 (.castable "java/lang/IllegalStateException" "java/lang/IllegalStateException") (by decide +kernel))) hq1 hq2 hq3 ?_
      refine lv_astore_n (lv' := [(3, .ref a9), (0, .ref (ad 0)), (1, .int p9), (2, .ref o9)]) hx hb dL_step_15 rfl hl (by decide) rfl (fun ls hl => ?_)
      refine lv_iconst (v := (nI 2)) hx hb dL_step_16 (by decide) ?_
      exact x_iret (G := G) hx hb hr rfl dL_step_17 hlocks hS (by first | exact Nat.le_of_ble_eq_true rfl | exact (show 0 + 8 ≤ 8 by omega)) (by first | exact Nat.le_of_ble_eq_true rfl | exact (show 0 + 60 ≤ 60 by omega)) (by exact lP1 1 hk9 (hX.kept hcx (fun _ _ => List.not_mem_nil)) (ho.kept (hcx.2 o9 hoz (List.not_mem_nil))))
  · have _ := hx
    obtain ⟨hk9, rfl, hX2⟩ := hp
    have had : ad 0 = ad 0 := rfl
    have ho2 : jA G o9 1 f0 H1 := ho.kept (hk o9 hoz (fun q => q.2 rfl))
    refine lv_i2l hx hb dL_step_7 rfl ?_
    refine x_jastn (G := G) (j := 0) hx hb hC hS hAo ho2 (by decide) (by decide) dL_step_8 (fun H2 locs ho3 hc3 hS => ?_)
    refine lv_goto (tgt := 18) hx hb dL_step_9 (by decide) ?_
    refine lv_iconst (v := (nI 0)) hx hb dL_step_18 (by decide) ?_
    exact x_iret (G := G) hx hb hr rfl dL_step_19 hlocks hS (by first | exact Nat.le_of_ble_eq_true rfl | exact (show 0 + 8 ≤ 8 by omega)) (by first | exact Nat.le_of_ble_eq_true rfl | exact (show 0 + 60 ≤ 60 by omega)) (by exact lP0 hk9 had (hX2.kept hc3 (hX2.ne hoE)) ho3 rfl)

set_option maxHeartbeats 1000000 in
set_option maxRecDepth 100000 in
/-- store, caught -/
theorem c_L_store (l : Launch) (hfl : l.stackTraces = false) (G : xG) (o9 : Nat) (ad : Nat → Nat) (S : zS) (f0 : Nat → Int64) (H : Heap) (hX : XS (xGo G o9) ad S H) (hW : zW S) (ho : jA G o9 1 f0 H) (hAo : xA G o9) : lMet l G yL_store wsL_store ({ frames := 9, cells := 20, slots := 600, locals := 352 } : Room) [.ref (ad 0), .ref o9] H (lPost G o9 ad (if kstore S = 0 then 0 else 1) ((zstore S).1) S ((zstore S).2)) := by
  refine vx_ofWH (cc := cL_store) (maxL := 3) (ret := (some .int)) (hh := [(0, 8, 11, 15)]) (by decide) rfl ?_
  intro Pg Ev s m args below meth c s₁ B hml hv
  obtain ⟨rfl, hH, hC, hN⟩ := hv
  have hx := B.exec
  have hb := B.bytes
  have hr := B.returns
  have hts := atoms_spec (ws := wsL_store) B.pre
  have hown : s.vm.findClass RL = some m.cls := findClass_of_methodNamed B.named
  have hlocks := B.notSynchronized
  have htb := vx_table (x := yL_store) B (hts (.codeWith yL_store cL_store 3 (some .int) [(0, 8, 11, 15)]) (by decide +kernel))
  rw [hH]
  have hS : va_S (xA G) s.heap H [] := by rw [← hH]; exact va_S.rf
  generalize ([] : List Loc) = locs at hS ⊢
  have hl := lv_entry [.ref (ad 0), .ref o9] (n := 3) (Nat.le_of_ble_eq_true rfl)
  rw [lg_entry_eq]
  generalize (lg_sl [.ref (ad 0), .ref o9] ++ List.replicate (3 - (lg_sl [.ref (ad 0), .ref o9]).length) Slot.unset).toArray = ls at hl ⊢
  have hl : lv_has ls 3 [(0, .ref (ad 0)), (1, .ref o9)] := hl
  have hoE : o9 ≠ xE G := fun q => hC.xE (by rw [← q]; exact hAo)
  have hoz : o9 < H.size := ho.lt
  obtain ⟨fb, hfb, hx0⟩ := id hX.2.1
  refine lv_aload_n hx hb dL_store_0 rfl (lv_at hl 1 rfl) ?_
  refine lv_iconst (v := (nI 0)) hx hb dL_store_1 (by decide) ?_
  refine lv_aload_n hx hb dL_store_2 rfl (lv_at hl 0 rfl) ?_
  refine x_call (G1 := xGo G o9) (vx_runV (As := []) (rest := [.int (nI 0), .ref o9]) ⟨hx, hb, hml, hown, hts⟩ (c_X4_store l hfl (xGo G o9) ad S H hX hW) (cwV 0 hts gL_store_X4_store rfl rfl rfl (by decide +kernel) ⟨(Nat.le_of_ble_eq_true rfl), (Nat.le_of_ble_eq_true rfl)⟩) (lPreV hC hS (fun _ h => h.1) (fun q hq => ⟨hC.2.2.1 q (Nat.le_trans hS.1 hq), fun z => by omega⟩) hx0 (q := (RX4, TX4, 11)) rfl) rfl rfl hl.1 rfl (lv_room (Nat.le_of_ble_eq_true rfl)) dL_store_3 ⟨(by first | exact Nat.le_of_ble_eq_true rfl | exact (show 0 + 20 ≤ 20 by omega)), (by first | exact Nat.le_of_ble_eq_true rfl | exact (show 0 + 600 ≤ 600 by omega))⟩) hS (fun _ h => h.1) (fun E a9 ce H1 locs hp hz hk hS hq1 hq2 hq3 => ?_) (fun v H1 locs hp hz hk hS => ?_)
  · have _ := hx
    obtain ⟨hcs, hcx⟩ := lz2 hp
    rcases hcs with ⟨hk9, rfl⟩ | ⟨hk9, rfl⟩
    · have _ := hx
      refine vx_catch (own := RL) (name := "java/lang/IllegalStateException") hown [] ⟨0, 8, 11, 15⟩ [] htb (fun z hz => absurd hz (List.not_mem_nil)) rfl (by decide) (hts (.classLink RL 15 "java/lang/IllegalStateException") (by decide +kernel)) (va_Nw.use rfl (hC.2.1 (.castable "java/lang/IllegalStateException" "java/lang/IllegalStateException") (by decide +kernel))) hq1 hq2 hq3 ?_
      refine lv_astore_n (lv' := [(2, .ref a9), (0, .ref (ad 0)), (1, .ref o9)]) hx hb dL_store_11 rfl hl (by decide) rfl (fun ls hl => ?_)
      refine lv_iconst (v := (nI 1)) hx hb dL_store_12 (by decide) ?_
      exact x_iret (G := G) hx hb hr rfl dL_store_13 hlocks hS (by first | exact Nat.le_of_ble_eq_true rfl | exact (show 0 + 20 ≤ 20 by omega)) (by first | exact Nat.le_of_ble_eq_true rfl | exact (show 0 + 600 ≤ 600 by omega)) (by exact lP1 0 (by simp [hk9]) (hX.kept hcx (fun _ _ => List.not_mem_nil)) (ho.kept (hcx.2 o9 hoz (List.not_mem_nil))))
    · have _ := hx
      refine vx_catch (own := RL) (name := "java/lang/IllegalStateException") hown [] ⟨0, 8, 11, 15⟩ [] htb (fun z hz => absurd hz (List.not_mem_nil)) rfl (by decide) (hts (.classLink RL 15 "java/lang/IllegalStateException") (by decide +kernel)) (va_Nw.use rfl (hC.2.1 (.castable "java/lang/IllegalStateException" "java/lang/IllegalStateException") (by decide +kernel))) hq1 hq2 hq3 ?_
      refine lv_astore_n (lv' := [(2, .ref a9), (0, .ref (ad 0)), (1, .ref o9)]) hx hb dL_store_11 rfl hl (by decide) rfl (fun ls hl => ?_)
      refine lv_iconst (v := (nI 1)) hx hb dL_store_12 (by decide) ?_
      exact x_iret (G := G) hx hb hr rfl dL_store_13 hlocks hS (by first | exact Nat.le_of_ble_eq_true rfl | exact (show 0 + 20 ≤ 20 by omega)) (by first | exact Nat.le_of_ble_eq_true rfl | exact (show 0 + 600 ≤ 600 by omega)) (by exact lP1 0 (by simp [hk9]) (hX.kept hcx (fun _ _ => List.not_mem_nil)) (ho.kept (hcx.2 o9 hoz (List.not_mem_nil))))
  · have _ := hx
    obtain ⟨hk9, rfl, ad2, had, hX2⟩ := hp
    have ho2 : jA G o9 1 f0 H1 := ho.kept (hk o9 hoz (fun q => q.2 rfl))
    refine lv_i2l hx hb dL_store_6 rfl ?_
    refine x_jastn (G := G) (j := 0) hx hb hC hS hAo ho2 (by decide) (by decide) dL_store_7 (fun H2 locs ho3 hc3 hS => ?_)
    refine lv_goto (tgt := 14) hx hb dL_store_8 (by decide) ?_
    refine lv_iconst (v := (nI 0)) hx hb dL_store_14 (by decide) ?_
    exact x_iret (G := G) hx hb hr rfl dL_store_15 hlocks hS (by first | exact Nat.le_of_ble_eq_true rfl | exact (show 0 + 20 ≤ 20 by omega)) (by first | exact Nat.le_of_ble_eq_true rfl | exact (show 0 + 600 ≤ 600 by omega)) (by exact lP0 (by simp [hk9]) had (hX2.kept hc3 (hX2.ne hoE)) ho3 rfl)

set_option maxHeartbeats 1000000 in
set_option maxRecDepth 100000 in
/-- bid, caught -/
theorem c_L_bid (l : Launch) (hfl : l.stackTraces = false) (G : xG) (o9 : Nat) (ad : Nat → Nat) (S : zS) (f0 : Nat → Int64) (p9 : Int32) (q9 : Int32) (H : Heap) (hX : XS (xGo G o9) ad S H) (hW : zW S) (ho : jA G o9 1 f0 H) (hAo : xA G o9) : lMet l G yL_bid wsL_bid ({ frames := 8, cells := 8, slots := 60, locals := 138 } : Room) [.ref (ad 0), .int p9, .int q9, .ref o9] H (lPost G o9 ad (kbid S p9 q9) (nI (zbid S p9.toNatClampNeg q9.toNatClampNeg)) S (S)) := by
  refine vx_ofWH (cc := cL_bid) (maxL := 5) (ret := (some .int)) (hh := [(0, 10, 13, 25), (0, 10, 17, 13)]) (by decide) rfl ?_
  intro Pg Ev s m args below meth c s₁ B hml hv
  obtain ⟨rfl, hH, hC, hN⟩ := hv
  have hx := B.exec
  have hb := B.bytes
  have hr := B.returns
  have hts := atoms_spec (ws := wsL_bid) B.pre
  have hown : s.vm.findClass RL = some m.cls := findClass_of_methodNamed B.named
  have hlocks := B.notSynchronized
  have htb := vx_table (x := yL_bid) B (hts (.codeWith yL_bid cL_bid 5 (some .int) [(0, 10, 13, 25), (0, 10, 17, 13)]) (by decide +kernel))
  rw [hH]
  have hS : va_S (xA G) s.heap H [] := by rw [← hH]; exact va_S.rf
  generalize ([] : List Loc) = locs at hS ⊢
  have hl := lv_entry [.ref (ad 0), .int p9, .int q9, .ref o9] (n := 5) (Nat.le_of_ble_eq_true rfl)
  rw [lg_entry_eq]
  generalize (lg_sl [.ref (ad 0), .int p9, .int q9, .ref o9] ++ List.replicate (5 - (lg_sl [.ref (ad 0), .int p9, .int q9, .ref o9]).length) Slot.unset).toArray = ls at hl ⊢
  have hl : lv_has ls 5 [(0, .ref (ad 0)), (1, .int p9), (2, .int q9), (3, .ref o9)] := hl
  have hoE : o9 ≠ xE G := fun q => hC.xE (by rw [← q]; exact hAo)
  have hoz : o9 < H.size := ho.lt
  obtain ⟨fb, hfb, hx0⟩ := id hX.2.1
  refine lv_aload_n hx hb dL_bid_0 rfl (lv_at hl 3 rfl) ?_
  refine lv_iconst (v := (nI 0)) hx hb dL_bid_1 (by decide) ?_
  refine lv_aload_n hx hb dL_bid_2 rfl (lv_at hl 0 rfl) ?_
  refine lv_iload_n hx hb dL_bid_3 rfl (lv_at hl 1 rfl) ?_
  refine lv_iload_n hx hb dL_bid_4 rfl (lv_at hl 2 rfl) ?_
  refine x_call (G1 := xGo G o9) (vx_runV (As := [.int p9, .int q9]) (rest := [.int (nI 0), .ref o9]) ⟨hx, hb, hml, hown, hts⟩ (c_X4_bid l hfl (xGo G o9) ad S p9 q9 H hX hW) (cwV 2 hts gL_bid_X4_bid rfl rfl rfl (by decide +kernel) ⟨(Nat.le_of_ble_eq_true rfl), (Nat.le_of_ble_eq_true rfl)⟩) (lPreV hC hS (fun _ h => h.1) (fun q hq => ⟨hC.2.2.1 q (Nat.le_trans hS.1 hq), fun z => by omega⟩) hx0 (q := (RX4, TX4, 11)) rfl) rfl rfl hl.1 rfl (lv_room (Nat.le_of_ble_eq_true rfl)) dL_bid_5 ⟨(by first | exact Nat.le_of_ble_eq_true rfl | exact (show 0 + 8 ≤ 8 by omega)), (by first | exact Nat.le_of_ble_eq_true rfl | exact (show 0 + 60 ≤ 60 by omega))⟩) hS (fun _ h => h.1) (fun E a9 ce H1 locs hp hz hk hS hq1 hq2 hq3 => ?_) (fun v H1 locs hp hz hk hS => ?_)
  · have _ := hx
    obtain ⟨hcs, hcx⟩ := lz2 hp
    rcases hcs with ⟨hk9, rfl⟩ | ⟨hk9, rfl⟩
    · have _ := hx
      refine vx_catch (own := RL) (name := "java/lang/IndexOutOfBoundsException") hown [] ⟨0, 10, 13, 25⟩ [⟨0, 10, 17, 13⟩] htb (fun z hz => absurd hz (List.not_mem_nil)) rfl (by decide) (hts (.classLink RL 25 "java/lang/IndexOutOfBoundsException") (by decide +kernel)) (va_Nw.use rfl (hC.2.1 (.castable "java/lang/IndexOutOfBoundsException" "java/lang/IndexOutOfBoundsException") (by decide +kernel))) hq1 hq2 hq3 ?_
      refine lv_astore (lv' := [(4, .ref a9), (0, .ref (ad 0)), (1, .int p9), (2, .int q9), (3, .ref o9)]) hx hb dL_bid_13 hl (by decide) rfl (fun ls hl => ?_)
      refine lv_iconst (v := (nI 1)) hx hb dL_bid_15 (by decide) ?_
      exact x_iret (G := G) hx hb hr rfl dL_bid_16 hlocks hS (by first | exact Nat.le_of_ble_eq_true rfl | exact (show 0 + 8 ≤ 8 by omega)) (by first | exact Nat.le_of_ble_eq_true rfl | exact (show 0 + 60 ≤ 60 by omega)) (by exact lP1 0 hk9 (hX.kept hcx (fun _ _ => List.not_mem_nil)) (ho.kept (hcx.2 o9 hoz (List.not_mem_nil))))
    · have _ := hx
      refine vx_catch (own := RL) (name := "java/lang/IllegalArgumentException") hown [⟨0, 10, 13, 25⟩] ⟨0, 10, 17, 13⟩ [] htb (fun z hz => by rcases List.mem_cons.mp hz with rfl | hz; exact Or.inr ⟨by decide, "java/lang/IndexOutOfBoundsException", hts (.classLink RL 25 "java/lang/IndexOutOfBoundsException") (by decide +kernel), hN ("java/lang/IllegalArgumentException", "java/lang/IndexOutOfBoundsException") (by decide)⟩; cases hz) rfl (by decide) (hts (.classLink RL 13 "java/lang/IllegalArgumentException") (by decide +kernel)) (va_Nw.use rfl (hC.2.1 (.castable "java/lang/IllegalArgumentException" "java/lang/IllegalArgumentException") (by decide +kernel))) hq1 hq2 hq3 ?_
      refine lv_astore (lv' := [(4, .ref a9), (0, .ref (ad 0)), (1, .int p9), (2, .int q9), (3, .ref o9)]) hx hb dL_bid_17 hl (by decide) rfl (fun ls hl => ?_)
      refine lv_iconst (v := (nI 2)) hx hb dL_bid_19 (by decide) ?_
      exact x_iret (G := G) hx hb hr rfl dL_bid_20 hlocks hS (by first | exact Nat.le_of_ble_eq_true rfl | exact (show 0 + 8 ≤ 8 by omega)) (by first | exact Nat.le_of_ble_eq_true rfl | exact (show 0 + 60 ≤ 60 by omega)) (by exact lP1 1 hk9 (hX.kept hcx (fun _ _ => List.not_mem_nil)) (ho.kept (hcx.2 o9 hoz (List.not_mem_nil))))
  · have _ := hx
    obtain ⟨hk9, rfl, hX2⟩ := hp
    have had : ad 0 = ad 0 := rfl
    have ho2 : jA G o9 1 f0 H1 := ho.kept (hk o9 hoz (fun q => q.2 rfl))
    refine lv_i2l hx hb dL_bid_8 rfl ?_
    refine x_jastn (G := G) (j := 0) hx hb hC hS hAo ho2 (by decide) (by decide) dL_bid_9 (fun H2 locs ho3 hc3 hS => ?_)
    refine lv_goto (tgt := 21) hx hb dL_bid_10 (by decide) ?_
    refine lv_iconst (v := (nI 0)) hx hb dL_bid_21 (by decide) ?_
    exact x_iret (G := G) hx hb hr rfl dL_bid_22 hlocks hS (by first | exact Nat.le_of_ble_eq_true rfl | exact (show 0 + 8 ≤ 8 by omega)) (by first | exact Nat.le_of_ble_eq_true rfl | exact (show 0 + 60 ≤ 60 by omega)) (by exact lP0 hk9 had (hX2.kept hc3 (hX2.ne hoE)) ho3 rfl)

set_option maxHeartbeats 1000000 in
set_option maxRecDepth 100000 in
/-- alike, caught -/
theorem c_L_alike (l : Launch) (hfl : l.stackTraces = false) (G : xG) (o9 : Nat) (ad : Nat → Nat) (S : zS) (f0 : Nat → Int64) (p9 : Int32) (H : Heap) (hX : XS (xGo G o9) ad S H) (hW : zW S) (ho : jA G o9 1 f0 H) (hAo : xA G o9) : lMet l G yL_alike wsL_alike ({ frames := 8, cells := 8, slots := 60, locals := 139 } : Room) [.ref (ad 0), .int p9, .ref o9] H (lPost G o9 ad (kstrat S p9) (nI (xct (fun j => zalike S j p9.toNatClampNeg) (zN S))) S (S)) := by
  refine vx_ofWH (cc := cL_alike) (maxL := 4) (ret := (some .int)) (hh := [(0, 9, 12, 25)]) (by decide) rfl ?_
  intro Pg Ev s m args below meth c s₁ B hml hv
  obtain ⟨rfl, hH, hC, hN⟩ := hv
  have hx := B.exec
  have hb := B.bytes
  have hr := B.returns
  have hts := atoms_spec (ws := wsL_alike) B.pre
  have hown : s.vm.findClass RL = some m.cls := findClass_of_methodNamed B.named
  have hlocks := B.notSynchronized
  have htb := vx_table (x := yL_alike) B (hts (.codeWith yL_alike cL_alike 4 (some .int) [(0, 9, 12, 25)]) (by decide +kernel))
  rw [hH]
  have hS : va_S (xA G) s.heap H [] := by rw [← hH]; exact va_S.rf
  generalize ([] : List Loc) = locs at hS ⊢
  have hl := lv_entry [.ref (ad 0), .int p9, .ref o9] (n := 4) (Nat.le_of_ble_eq_true rfl)
  rw [lg_entry_eq]
  generalize (lg_sl [.ref (ad 0), .int p9, .ref o9] ++ List.replicate (4 - (lg_sl [.ref (ad 0), .int p9, .ref o9]).length) Slot.unset).toArray = ls at hl ⊢
  have hl : lv_has ls 4 [(0, .ref (ad 0)), (1, .int p9), (2, .ref o9)] := hl
  have hoE : o9 ≠ xE G := fun q => hC.xE (by rw [← q]; exact hAo)
  have hoz : o9 < H.size := ho.lt
  obtain ⟨fb, hfb, hx0⟩ := id hX.2.1
  refine lv_aload_n hx hb dL_alike_0 rfl (lv_at hl 2 rfl) ?_
  refine lv_iconst (v := (nI 0)) hx hb dL_alike_1 (by decide) ?_
  refine lv_aload_n hx hb dL_alike_2 rfl (lv_at hl 0 rfl) ?_
  refine lv_iload_n hx hb dL_alike_3 rfl (lv_at hl 1 rfl) ?_
  refine x_call (G1 := xGo G o9) (vx_runV (As := [.int p9]) (rest := [.int (nI 0), .ref o9]) ⟨hx, hb, hml, hown, hts⟩ (c_X4_alike l hfl (xGo G o9) ad S p9 H hX hW) (cwV 1 hts gL_alike_X4_alike rfl rfl rfl (by decide +kernel) ⟨(Nat.le_of_ble_eq_true rfl), (Nat.le_of_ble_eq_true rfl)⟩) (lPreV hC hS (fun _ h => h.1) (fun q hq => ⟨hC.2.2.1 q (Nat.le_trans hS.1 hq), fun z => by omega⟩) hx0 (q := (RX4, TX4, 11)) rfl) rfl rfl hl.1 rfl (lv_room (Nat.le_of_ble_eq_true rfl)) dL_alike_4 ⟨(by first | exact Nat.le_of_ble_eq_true rfl | exact (show 0 + 8 ≤ 8 by omega)), (by first | exact Nat.le_of_ble_eq_true rfl | exact (show 0 + 60 ≤ 60 by omega))⟩) hS (fun _ h => h.1) (fun E a9 ce H1 locs hp hz hk hS hq1 hq2 hq3 => ?_) (fun v H1 locs hp hz hk hS => ?_)
  · have _ := hx
    obtain ⟨hcs, hcx⟩ := lz1 hp
    obtain ⟨hk9, rfl⟩ := hcs
    refine vx_catch (own := RL) (name := "java/lang/IndexOutOfBoundsException") hown [] ⟨0, 9, 12, 25⟩ [] htb (fun z hz => absurd hz (List.not_mem_nil)) rfl (by decide) (hts (.classLink RL 25 "java/lang/IndexOutOfBoundsException") (by decide +kernel)) (va_Nw.use rfl (hC.2.1 (.castable "java/lang/IndexOutOfBoundsException" "java/lang/IndexOutOfBoundsException") (by decide +kernel))) hq1 hq2 hq3 ?_
    refine lv_astore_n (lv' := [(3, .ref a9), (0, .ref (ad 0)), (1, .int p9), (2, .ref o9)]) hx hb dL_alike_12 rfl hl (by decide) rfl (fun ls hl => ?_)
    refine lv_iconst (v := (nI 1)) hx hb dL_alike_13 (by decide) ?_
    exact x_iret (G := G) hx hb hr rfl dL_alike_14 hlocks hS (by first | exact Nat.le_of_ble_eq_true rfl | exact (show 0 + 8 ≤ 8 by omega)) (by first | exact Nat.le_of_ble_eq_true rfl | exact (show 0 + 60 ≤ 60 by omega)) (by exact lP1 0 hk9 (hX.kept hcx (fun _ _ => List.not_mem_nil)) (ho.kept (hcx.2 o9 hoz (List.not_mem_nil))))
  · have _ := hx
    obtain ⟨hk9, rfl, hX2⟩ := hp
    have had : ad 0 = ad 0 := rfl
    have ho2 : jA G o9 1 f0 H1 := ho.kept (hk o9 hoz (fun q => q.2 rfl))
    refine lv_i2l hx hb dL_alike_7 rfl ?_
    refine x_jastn (G := G) (j := 0) hx hb hC hS hAo ho2 (by decide) (by decide) dL_alike_8 (fun H2 locs ho3 hc3 hS => ?_)
    refine lv_goto (tgt := 15) hx hb dL_alike_9 (by decide) ?_
    refine lv_iconst (v := (nI 0)) hx hb dL_alike_15 (by decide) ?_
    exact x_iret (G := G) hx hb hr rfl dL_alike_16 hlocks hS (by first | exact Nat.le_of_ble_eq_true rfl | exact (show 0 + 8 ≤ 8 by omega)) (by first | exact Nat.le_of_ble_eq_true rfl | exact (show 0 + 60 ≤ 60 by omega)) (by exact lP0 hk9 had (hX2.kept hc3 (hX2.ne hoE)) ho3 rfl)

set_option maxHeartbeats 1000000 in
set_option maxRecDepth 100000 in
/-- parent, caught -/
theorem c_L_parent (l : Launch) (hfl : l.stackTraces = false) (G : xG) (o9 : Nat) (ad : Nat → Nat) (S : zS) (f0 : Nat → Int64) (p9 : Int32) (b9 : Bool) (H : Heap) (hX : XS (xGo G o9) ad S H) (hW : zW S) (ho : jA G o9 1 f0 H) (hAo : xA G o9) : lMet l G yL_parent wsL_parent ({ frames := 8, cells := 8, slots := 60, locals := 138 } : Room) [.ref (ad 0), .int p9, .int (xb b9), .ref o9] H (lPost G o9 ad (kstrat S p9) (xpar (if b9 = true then zU S p9.toNatClampNeg else zV S p9.toNatClampNeg)) S (S)) := by
  refine vx_ofWH (cc := cL_parent) (maxL := 5) (ret := (some .int)) (hh := [(0, 10, 13, 25)]) (by decide) rfl ?_
  intro Pg Ev s m args below meth c s₁ B hml hv
  obtain ⟨rfl, hH, hC, hN⟩ := hv
  have hx := B.exec
  have hb := B.bytes
  have hr := B.returns
  have hts := atoms_spec (ws := wsL_parent) B.pre
  have hown : s.vm.findClass RL = some m.cls := findClass_of_methodNamed B.named
  have hlocks := B.notSynchronized
  have htb := vx_table (x := yL_parent) B (hts (.codeWith yL_parent cL_parent 5 (some .int) [(0, 10, 13, 25)]) (by decide +kernel))
  rw [hH]
  have hS : va_S (xA G) s.heap H [] := by rw [← hH]; exact va_S.rf
  generalize ([] : List Loc) = locs at hS ⊢
  have hl := lv_entry [.ref (ad 0), .int p9, .int (xb b9), .ref o9] (n := 5) (Nat.le_of_ble_eq_true rfl)
  rw [lg_entry_eq]
  generalize (lg_sl [.ref (ad 0), .int p9, .int (xb b9), .ref o9] ++ List.replicate (5 - (lg_sl [.ref (ad 0), .int p9, .int (xb b9), .ref o9]).length) Slot.unset).toArray = ls at hl ⊢
  have hl : lv_has ls 5 [(0, .ref (ad 0)), (1, .int p9), (2, .int (xb b9)), (3, .ref o9)] := hl
  have hoE : o9 ≠ xE G := fun q => hC.xE (by rw [← q]; exact hAo)
  have hoz : o9 < H.size := ho.lt
  obtain ⟨fb, hfb, hx0⟩ := id hX.2.1
  refine lv_aload_n hx hb dL_parent_0 rfl (lv_at hl 3 rfl) ?_
  refine lv_iconst (v := (nI 0)) hx hb dL_parent_1 (by decide) ?_
  refine lv_aload_n hx hb dL_parent_2 rfl (lv_at hl 0 rfl) ?_
  refine lv_iload_n hx hb dL_parent_3 rfl (lv_at hl 1 rfl) ?_
  refine lv_iload_n hx hb dL_parent_4 rfl (lv_at hl 2 rfl) ?_
  refine x_call (G1 := xGo G o9) (vx_runV (As := [.int p9, .int (xb b9)]) (rest := [.int (nI 0), .ref o9]) ⟨hx, hb, hml, hown, hts⟩ (c_X4_parent l hfl (xGo G o9) ad S p9 b9 H hX hW) (cwV 2 hts gL_parent_X4_parent rfl rfl rfl (by decide +kernel) ⟨(Nat.le_of_ble_eq_true rfl), (Nat.le_of_ble_eq_true rfl)⟩) (lPreV hC hS (fun _ h => h.1) (fun q hq => ⟨hC.2.2.1 q (Nat.le_trans hS.1 hq), fun z => by omega⟩) hx0 (q := (RX4, TX4, 11)) rfl) rfl rfl hl.1 rfl (lv_room (Nat.le_of_ble_eq_true rfl)) dL_parent_5 ⟨(by first | exact Nat.le_of_ble_eq_true rfl | exact (show 0 + 8 ≤ 8 by omega)), (by first | exact Nat.le_of_ble_eq_true rfl | exact (show 0 + 60 ≤ 60 by omega))⟩) hS (fun _ h => h.1) (fun E a9 ce H1 locs hp hz hk hS hq1 hq2 hq3 => ?_) (fun v H1 locs hp hz hk hS => ?_)
  · have _ := hx
    obtain ⟨hcs, hcx⟩ := lz1 hp
    obtain ⟨hk9, rfl⟩ := hcs
    refine vx_catch (own := RL) (name := "java/lang/IndexOutOfBoundsException") hown [] ⟨0, 10, 13, 25⟩ [] htb (fun z hz => absurd hz (List.not_mem_nil)) rfl (by decide) (hts (.classLink RL 25 "java/lang/IndexOutOfBoundsException") (by decide +kernel)) (va_Nw.use rfl (hC.2.1 (.castable "java/lang/IndexOutOfBoundsException" "java/lang/IndexOutOfBoundsException") (by decide +kernel))) hq1 hq2 hq3 ?_
    refine lv_astore (lv' := [(4, .ref a9), (0, .ref (ad 0)), (1, .int p9), (2, .int (xb b9)), (3, .ref o9)]) hx hb dL_parent_13 hl (by decide) rfl (fun ls hl => ?_)
    refine lv_iconst (v := (nI 1)) hx hb dL_parent_15 (by decide) ?_
    exact x_iret (G := G) hx hb hr rfl dL_parent_16 hlocks hS (by first | exact Nat.le_of_ble_eq_true rfl | exact (show 0 + 8 ≤ 8 by omega)) (by first | exact Nat.le_of_ble_eq_true rfl | exact (show 0 + 60 ≤ 60 by omega)) (by exact lP1 0 hk9 (hX.kept hcx (fun _ _ => List.not_mem_nil)) (ho.kept (hcx.2 o9 hoz (List.not_mem_nil))))
  · have _ := hx
    obtain ⟨hk9, rfl, hX2⟩ := hp
    have had : ad 0 = ad 0 := rfl
    have ho2 : jA G o9 1 f0 H1 := ho.kept (hk o9 hoz (fun q => q.2 rfl))
    refine lv_i2l hx hb dL_parent_8 rfl ?_
    refine x_jastn (G := G) (j := 0) hx hb hC hS hAo ho2 (by decide) (by decide) dL_parent_9 (fun H2 locs ho3 hc3 hS => ?_)
    refine lv_goto (tgt := 17) hx hb dL_parent_10 (by decide) ?_
    refine lv_iconst (v := (nI 0)) hx hb dL_parent_17 (by decide) ?_
    exact x_iret (G := G) hx hb hr rfl dL_parent_18 hlocks hS (by first | exact Nat.le_of_ble_eq_true rfl | exact (show 0 + 8 ≤ 8 by omega)) (by first | exact Nat.le_of_ble_eq_true rfl | exact (show 0 + 60 ≤ 60 by omega)) (by exact lP0 hk9 had (hX2.kept hc3 (hX2.ne hoE)) ho3 rfl)

set_option maxHeartbeats 1000000 in
set_option maxRecDepth 100000 in
/-- join, caught -/
theorem c_L_join (l : Launch) (hfl : l.stackTraces = false) (G : xG) (o9 : Nat) (ad : Nat → Nat) (S : zS) (f0 : Nat → Int64) (p9 : Int32) (H : Heap) (hX : XS (xGo G o9) ad S H) (hW : zW S) (ho : jA G o9 1 f0 H) (hAo : xA G o9) : lMet l G yL_join wsL_join ({ frames := 8, cells := 8, slots := 60, locals := 137 } : Room) [.ref (ad 0), .int p9, .ref o9] H (lPost G o9 ad (kjoin S p9) (nI (xct (zI (zpool S p9.toNatClampNeg true)) (zN S))) S (zpool S p9.toNatClampNeg true)) := by
  refine vx_ofWH (cc := cL_join) (maxL := 4) (ret := (some .int)) (hh := [(0, 9, 12, 25), (0, 9, 15, 15)]) (by decide) rfl ?_
  intro Pg Ev s m args below meth c s₁ B hml hv
  obtain ⟨rfl, hH, hC, hN⟩ := hv
  have hx := B.exec
  have hb := B.bytes
  have hr := B.returns
  have hts := atoms_spec (ws := wsL_join) B.pre
  have hown : s.vm.findClass RL = some m.cls := findClass_of_methodNamed B.named
  have hlocks := B.notSynchronized
  have htb := vx_table (x := yL_join) B (hts (.codeWith yL_join cL_join 4 (some .int) [(0, 9, 12, 25), (0, 9, 15, 15)]) (by decide +kernel))
  rw [hH]
  have hS : va_S (xA G) s.heap H [] := by rw [← hH]; exact va_S.rf
  generalize ([] : List Loc) = locs at hS ⊢
  have hl := lv_entry [.ref (ad 0), .int p9, .ref o9] (n := 4) (Nat.le_of_ble_eq_true rfl)
  rw [lg_entry_eq]
  generalize (lg_sl [.ref (ad 0), .int p9, .ref o9] ++ List.replicate (4 - (lg_sl [.ref (ad 0), .int p9, .ref o9]).length) Slot.unset).toArray = ls at hl ⊢
  have hl : lv_has ls 4 [(0, .ref (ad 0)), (1, .int p9), (2, .ref o9)] := hl
  have hoE : o9 ≠ xE G := fun q => hC.xE (by rw [← q]; exact hAo)
  have hoz : o9 < H.size := ho.lt
  obtain ⟨fb, hfb, hx0⟩ := id hX.2.1
  refine lv_aload_n hx hb dL_join_0 rfl (lv_at hl 2 rfl) ?_
  refine lv_iconst (v := (nI 0)) hx hb dL_join_1 (by decide) ?_
  refine lv_aload_n hx hb dL_join_2 rfl (lv_at hl 0 rfl) ?_
  refine lv_iload_n hx hb dL_join_3 rfl (lv_at hl 1 rfl) ?_
  refine x_call (G1 := xGo G o9) (vx_runV (As := [.int p9]) (rest := [.int (nI 0), .ref o9]) ⟨hx, hb, hml, hown, hts⟩ (c_X4_join l hfl (xGo G o9) ad S p9 H hX hW) (cwV 1 hts gL_join_X4_join rfl rfl rfl (by decide +kernel) ⟨(Nat.le_of_ble_eq_true rfl), (Nat.le_of_ble_eq_true rfl)⟩) (lPreV hC hS (fun _ h => h.1) (fun q hq => ⟨hC.2.2.1 q (Nat.le_trans hS.1 hq), fun z => by omega⟩) hx0 (q := (RX4, TX4, 11)) rfl) rfl rfl hl.1 rfl (lv_room (Nat.le_of_ble_eq_true rfl)) dL_join_4 ⟨(by first | exact Nat.le_of_ble_eq_true rfl | exact (show 0 + 8 ≤ 8 by omega)), (by first | exact Nat.le_of_ble_eq_true rfl | exact (show 0 + 60 ≤ 60 by omega))⟩) hS (fun _ h => h.1) (fun E a9 ce H1 locs hp hz hk hS hq1 hq2 hq3 => ?_) (fun v H1 locs hp hz hk hS => ?_)
  · have _ := hx
    obtain ⟨hcs, hcx⟩ := lz2 hp
    rcases hcs with ⟨hk9, rfl⟩ | ⟨hk9, rfl⟩
    · have _ := hx
      refine vx_catch (own := RL) (name := "java/lang/IndexOutOfBoundsException") hown [] ⟨0, 9, 12, 25⟩ [⟨0, 9, 15, 15⟩] htb (fun z hz => absurd hz (List.not_mem_nil)) rfl (by decide) (hts (.classLink RL 25 "java/lang/IndexOutOfBoundsException") (by decide +kernel)) (va_Nw.use rfl (hC.2.1 (.castable "java/lang/IndexOutOfBoundsException" "java/lang/IndexOutOfBoundsException") (by decide +kernel))) hq1 hq2 hq3 ?_
      refine lv_astore_n (lv' := [(3, .ref a9), (0, .ref (ad 0)), (1, .int p9), (2, .ref o9)]) hx hb dL_join_12 rfl hl (by decide) rfl (fun ls hl => ?_)
      refine lv_iconst (v := (nI 1)) hx hb dL_join_13 (by decide) ?_
      exact x_iret (G := G) hx hb hr rfl dL_join_14 hlocks hS (by first | exact Nat.le_of_ble_eq_true rfl | exact (show 0 + 8 ≤ 8 by omega)) (by first | exact Nat.le_of_ble_eq_true rfl | exact (show 0 + 60 ≤ 60 by omega)) (by exact lP1 0 hk9 (hX.kept hcx (fun _ _ => List.not_mem_nil)) (ho.kept (hcx.2 o9 hoz (List.not_mem_nil))))
    · have _ := hx
      refine vx_catch (own := RL) (name := "java/lang/IllegalStateException") hown [⟨0, 9, 12, 25⟩] ⟨0, 9, 15, 15⟩ [] htb (fun z hz => by rcases List.mem_cons.mp hz with rfl | hz; exact Or.inr ⟨by decide, "java/lang/IndexOutOfBoundsException", hts (.classLink RL 25 "java/lang/IndexOutOfBoundsException") (by decide +kernel), hN ("java/lang/IllegalStateException", "java/lang/IndexOutOfBoundsException") (by decide)⟩; cases hz) rfl (by decide) (hts (.classLink RL 15 "java/lang/IllegalStateException") (by decide +kernel)) (va_Nw.use rfl (hC.2.1 (.castable "java/lang/IllegalStateException" "java/lang/IllegalStateException") (by decide +kernel))) hq1 hq2 hq3 ?_
      refine lv_astore_n (lv' := [(3, .ref a9), (0, .ref (ad 0)), (1, .int p9), (2, .ref o9)]) hx hb dL_join_15 rfl hl (by decide) rfl (fun ls hl => ?_)
      refine lv_iconst (v := (nI 2)) hx hb dL_join_16 (by decide) ?_
      exact x_iret (G := G) hx hb hr rfl dL_join_17 hlocks hS (by first | exact Nat.le_of_ble_eq_true rfl | exact (show 0 + 8 ≤ 8 by omega)) (by first | exact Nat.le_of_ble_eq_true rfl | exact (show 0 + 60 ≤ 60 by omega)) (by exact lP1 1 hk9 (hX.kept hcx (fun _ _ => List.not_mem_nil)) (ho.kept (hcx.2 o9 hoz (List.not_mem_nil))))
  · have _ := hx
    obtain ⟨hk9, rfl, hX2⟩ := hp
    have had : ad 0 = ad 0 := rfl
    have ho2 : jA G o9 1 f0 H1 := ho.kept (hk o9 hoz (fun q => q.2 rfl))
    refine lv_i2l hx hb dL_join_7 rfl ?_
    refine x_jastn (G := G) (j := 0) hx hb hC hS hAo ho2 (by decide) (by decide) dL_join_8 (fun H2 locs ho3 hc3 hS => ?_)
    refine lv_goto (tgt := 18) hx hb dL_join_9 (by decide) ?_
    refine lv_iconst (v := (nI 0)) hx hb dL_join_18 (by decide) ?_
    exact x_iret (G := G) hx hb hr rfl dL_join_19 hlocks hS (by first | exact Nat.le_of_ble_eq_true rfl | exact (show 0 + 8 ≤ 8 by omega)) (by first | exact Nat.le_of_ble_eq_true rfl | exact (show 0 + 60 ≤ 60 by omega)) (by exact lP0 hk9 had (hX2.kept hc3 (hX2.ne hoE)) ho3 rfl)

set_option maxHeartbeats 1000000 in
set_option maxRecDepth 100000 in
/-- leave, caught -/
theorem c_L_leave (l : Launch) (hfl : l.stackTraces = false) (G : xG) (o9 : Nat) (ad : Nat → Nat) (S : zS) (f0 : Nat → Int64) (p9 : Int32) (H : Heap) (hX : XS (xGo G o9) ad S H) (hW : zW S) (ho : jA G o9 1 f0 H) (hAo : xA G o9) : lMet l G yL_leave wsL_leave ({ frames := 8, cells := 8, slots := 60, locals := 137 } : Room) [.ref (ad 0), .int p9, .ref o9] H (lPost G o9 ad (kleave S p9) (nI (xct (zI (zpool S p9.toNatClampNeg false)) (zN S))) S (zpool S p9.toNatClampNeg false)) := by
  refine vx_ofWH (cc := cL_leave) (maxL := 4) (ret := (some .int)) (hh := [(0, 9, 12, 25), (0, 9, 15, 15)]) (by decide) rfl ?_
  intro Pg Ev s m args below meth c s₁ B hml hv
  obtain ⟨rfl, hH, hC, hN⟩ := hv
  have hx := B.exec
  have hb := B.bytes
  have hr := B.returns
  have hts := atoms_spec (ws := wsL_leave) B.pre
  have hown : s.vm.findClass RL = some m.cls := findClass_of_methodNamed B.named
  have hlocks := B.notSynchronized
  have htb := vx_table (x := yL_leave) B (hts (.codeWith yL_leave cL_leave 4 (some .int) [(0, 9, 12, 25), (0, 9, 15, 15)]) (by decide +kernel))
  rw [hH]
  have hS : va_S (xA G) s.heap H [] := by rw [← hH]; exact va_S.rf
  generalize ([] : List Loc) = locs at hS ⊢
  have hl := lv_entry [.ref (ad 0), .int p9, .ref o9] (n := 4) (Nat.le_of_ble_eq_true rfl)
  rw [lg_entry_eq]
  generalize (lg_sl [.ref (ad 0), .int p9, .ref o9] ++ List.replicate (4 - (lg_sl [.ref (ad 0), .int p9, .ref o9]).length) Slot.unset).toArray = ls at hl ⊢
  have hl : lv_has ls 4 [(0, .ref (ad 0)), (1, .int p9), (2, .ref o9)] := hl
  have hoE : o9 ≠ xE G := fun q => hC.xE (by rw [← q]; exact hAo)
  have hoz : o9 < H.size := ho.lt
  obtain ⟨fb, hfb, hx0⟩ := id hX.2.1
  refine lv_aload_n hx hb dL_leave_0 rfl (lv_at hl 2 rfl) ?_
  refine lv_iconst (v := (nI 0)) hx hb dL_leave_1 (by decide) ?_
  refine lv_aload_n hx hb dL_leave_2 rfl (lv_at hl 0 rfl) ?_
  refine lv_iload_n hx hb dL_leave_3 rfl (lv_at hl 1 rfl) ?_
  refine x_call (G1 := xGo G o9) (vx_runV (As := [.int p9]) (rest := [.int (nI 0), .ref o9]) ⟨hx, hb, hml, hown, hts⟩ (c_X4_leave l hfl (xGo G o9) ad S p9 H hX hW) (cwV 1 hts gL_leave_X4_leave rfl rfl rfl (by decide +kernel) ⟨(Nat.le_of_ble_eq_true rfl), (Nat.le_of_ble_eq_true rfl)⟩) (lPreV hC hS (fun _ h => h.1) (fun q hq => ⟨hC.2.2.1 q (Nat.le_trans hS.1 hq), fun z => by omega⟩) hx0 (q := (RX4, TX4, 11)) rfl) rfl rfl hl.1 rfl (lv_room (Nat.le_of_ble_eq_true rfl)) dL_leave_4 ⟨(by first | exact Nat.le_of_ble_eq_true rfl | exact (show 0 + 8 ≤ 8 by omega)), (by first | exact Nat.le_of_ble_eq_true rfl | exact (show 0 + 60 ≤ 60 by omega))⟩) hS (fun _ h => h.1) (fun E a9 ce H1 locs hp hz hk hS hq1 hq2 hq3 => ?_) (fun v H1 locs hp hz hk hS => ?_)
  · have _ := hx
    obtain ⟨hcs, hcx⟩ := lz2 hp
    rcases hcs with ⟨hk9, rfl⟩ | ⟨hk9, rfl⟩
    · have _ := hx
      refine vx_catch (own := RL) (name := "java/lang/IndexOutOfBoundsException") hown [] ⟨0, 9, 12, 25⟩ [⟨0, 9, 15, 15⟩] htb (fun z hz => absurd hz (List.not_mem_nil)) rfl (by decide) (hts (.classLink RL 25 "java/lang/IndexOutOfBoundsException") (by decide +kernel)) (va_Nw.use rfl (hC.2.1 (.castable "java/lang/IndexOutOfBoundsException" "java/lang/IndexOutOfBoundsException") (by decide +kernel))) hq1 hq2 hq3 ?_
      refine lv_astore_n (lv' := [(3, .ref a9), (0, .ref (ad 0)), (1, .int p9), (2, .ref o9)]) hx hb dL_leave_12 rfl hl (by decide) rfl (fun ls hl => ?_)
      refine lv_iconst (v := (nI 1)) hx hb dL_leave_13 (by decide) ?_
      exact x_iret (G := G) hx hb hr rfl dL_leave_14 hlocks hS (by first | exact Nat.le_of_ble_eq_true rfl | exact (show 0 + 8 ≤ 8 by omega)) (by first | exact Nat.le_of_ble_eq_true rfl | exact (show 0 + 60 ≤ 60 by omega)) (by exact lP1 0 hk9 (hX.kept hcx (fun _ _ => List.not_mem_nil)) (ho.kept (hcx.2 o9 hoz (List.not_mem_nil))))
    · have _ := hx
      refine vx_catch (own := RL) (name := "java/lang/IllegalStateException") hown [⟨0, 9, 12, 25⟩] ⟨0, 9, 15, 15⟩ [] htb (fun z hz => by rcases List.mem_cons.mp hz with rfl | hz; exact Or.inr ⟨by decide, "java/lang/IndexOutOfBoundsException", hts (.classLink RL 25 "java/lang/IndexOutOfBoundsException") (by decide +kernel), hN ("java/lang/IllegalStateException", "java/lang/IndexOutOfBoundsException") (by decide)⟩; cases hz) rfl (by decide) (hts (.classLink RL 15 "java/lang/IllegalStateException") (by decide +kernel)) (va_Nw.use rfl (hC.2.1 (.castable "java/lang/IllegalStateException" "java/lang/IllegalStateException") (by decide +kernel))) hq1 hq2 hq3 ?_
      refine lv_astore_n (lv' := [(3, .ref a9), (0, .ref (ad 0)), (1, .int p9), (2, .ref o9)]) hx hb dL_leave_15 rfl hl (by decide) rfl (fun ls hl => ?_)
      refine lv_iconst (v := (nI 2)) hx hb dL_leave_16 (by decide) ?_
      exact x_iret (G := G) hx hb hr rfl dL_leave_17 hlocks hS (by first | exact Nat.le_of_ble_eq_true rfl | exact (show 0 + 8 ≤ 8 by omega)) (by first | exact Nat.le_of_ble_eq_true rfl | exact (show 0 + 60 ≤ 60 by omega)) (by exact lP1 1 hk9 (hX.kept hcx (fun _ _ => List.not_mem_nil)) (ho.kept (hcx.2 o9 hoz (List.not_mem_nil))))
  · have _ := hx
    obtain ⟨hk9, rfl, hX2⟩ := hp
    have had : ad 0 = ad 0 := rfl
    have ho2 : jA G o9 1 f0 H1 := ho.kept (hk o9 hoz (fun q => q.2 rfl))
    refine lv_i2l hx hb dL_leave_7 rfl ?_
    refine x_jastn (G := G) (j := 0) hx hb hC hS hAo ho2 (by decide) (by decide) dL_leave_8 (fun H2 locs ho3 hc3 hS => ?_)
    refine lv_goto (tgt := 18) hx hb dL_leave_9 (by decide) ?_
    refine lv_iconst (v := (nI 0)) hx hb dL_leave_18 (by decide) ?_
    exact x_iret (G := G) hx hb hr rfl dL_leave_19 hlocks hS (by first | exact Nat.le_of_ble_eq_true rfl | exact (show 0 + 8 ≤ 8 by omega)) (by first | exact Nat.le_of_ble_eq_true rfl | exact (show 0 + 60 ≤ 60 by omega)) (by exact lP0 hk9 had (hX2.kept hc3 (hX2.ne hoE)) ho3 rfl)

set_option maxHeartbeats 1000000 in
set_option maxRecDepth 100000 in
/-- isIn, caught -/
theorem c_L_isIn (l : Launch) (hfl : l.stackTraces = false) (G : xG) (o9 : Nat) (ad : Nat → Nat) (S : zS) (f0 : Nat → Int64) (p9 : Int32) (H : Heap) (hX : XS (xGo G o9) ad S H) (hW : zW S) (ho : jA G o9 1 f0 H) (hAo : xA G o9) : lMet l G yL_isIn wsL_isIn ({ frames := 8, cells := 8, slots := 60, locals := 136 } : Room) [.ref (ad 0), .int p9, .ref o9] H (lPost G o9 ad (kstrat S p9) (xb (zI S p9.toNatClampNeg)) S (S)) := by
  refine vx_ofWH (cc := cL_isIn) (maxL := 4) (ret := (some .int)) (hh := [(0, 16, 19, 25)]) (by decide) rfl ?_
  intro Pg Ev s m args below meth c s₁ B hml hv
  obtain ⟨rfl, hH, hC, hN⟩ := hv
  have hx := B.exec
  have hb := B.bytes
  have hr := B.returns
  have hts := atoms_spec (ws := wsL_isIn) B.pre
  have hown : s.vm.findClass RL = some m.cls := findClass_of_methodNamed B.named
  have hlocks := B.notSynchronized
  have htb := vx_table (x := yL_isIn) B (hts (.codeWith yL_isIn cL_isIn 4 (some .int) [(0, 16, 19, 25)]) (by decide +kernel))
  rw [hH]
  have hS : va_S (xA G) s.heap H [] := by rw [← hH]; exact va_S.rf
  generalize ([] : List Loc) = locs at hS ⊢
  have hl := lv_entry [.ref (ad 0), .int p9, .ref o9] (n := 4) (Nat.le_of_ble_eq_true rfl)
  rw [lg_entry_eq]
  generalize (lg_sl [.ref (ad 0), .int p9, .ref o9] ++ List.replicate (4 - (lg_sl [.ref (ad 0), .int p9, .ref o9]).length) Slot.unset).toArray = ls at hl ⊢
  have hl : lv_has ls 4 [(0, .ref (ad 0)), (1, .int p9), (2, .ref o9)] := hl
  have hoE : o9 ≠ xE G := fun q => hC.xE (by rw [← q]; exact hAo)
  have hoz : o9 < H.size := ho.lt
  obtain ⟨fb, hfb, hx0⟩ := id hX.2.1
  refine lv_aload_n hx hb dL_isIn_0 rfl (lv_at hl 2 rfl) ?_
  refine lv_iconst (v := (nI 0)) hx hb dL_isIn_1 (by decide) ?_
  refine lv_aload_n hx hb dL_isIn_2 rfl (lv_at hl 0 rfl) ?_
  refine lv_iload_n hx hb dL_isIn_3 rfl (lv_at hl 1 rfl) ?_
  refine x_call (G1 := xGo G o9) (vx_runV (As := [.int p9]) (rest := [.int (nI 0), .ref o9]) ⟨hx, hb, hml, hown, hts⟩ (c_X4_isIn l hfl (xGo G o9) ad S p9 H hX hW) (cwV 1 hts gL_isIn_X4_isIn rfl rfl rfl (by decide +kernel) ⟨(Nat.le_of_ble_eq_true rfl), (Nat.le_of_ble_eq_true rfl)⟩) (lPreV hC hS (fun _ h => h.1) (fun q hq => ⟨hC.2.2.1 q (Nat.le_trans hS.1 hq), fun z => by omega⟩) hx0 (q := (RX4, TX4, 11)) rfl) rfl rfl hl.1 rfl (lv_room (Nat.le_of_ble_eq_true rfl)) dL_isIn_4 ⟨(by first | exact Nat.le_of_ble_eq_true rfl | exact (show 0 + 8 ≤ 8 by omega)), (by first | exact Nat.le_of_ble_eq_true rfl | exact (show 0 + 60 ≤ 60 by omega))⟩) hS (fun _ h => h.1) (fun E a9 ce H1 locs hp hz hk hS hq1 hq2 hq3 => ?_) (fun v H1 locs hp hz hk hS => ?_)
  · have _ := hx
    obtain ⟨hcs, hcx⟩ := lz1 hp
    obtain ⟨hk9, rfl⟩ := hcs
    refine vx_catch (own := RL) (name := "java/lang/IndexOutOfBoundsException") hown [] ⟨0, 16, 19, 25⟩ [] htb (fun z hz => absurd hz (List.not_mem_nil)) rfl (by decide) (hts (.classLink RL 25 "java/lang/IndexOutOfBoundsException") (by decide +kernel)) (va_Nw.use rfl (hC.2.1 (.castable "java/lang/IndexOutOfBoundsException" "java/lang/IndexOutOfBoundsException") (by decide +kernel))) hq1 hq2 hq3 ?_
    refine lv_astore_n (lv' := [(3, .ref a9), (0, .ref (ad 0)), (1, .int p9), (2, .ref o9)]) hx hb dL_isIn_19 rfl hl (by decide) rfl (fun ls hl => ?_)
    refine lv_iconst (v := (nI 1)) hx hb dL_isIn_20 (by decide) ?_
    exact x_iret (G := G) hx hb hr rfl dL_isIn_21 hlocks hS (by first | exact Nat.le_of_ble_eq_true rfl | exact (show 0 + 8 ≤ 8 by omega)) (by first | exact Nat.le_of_ble_eq_true rfl | exact (show 0 + 60 ≤ 60 by omega)) (by exact lP1 0 hk9 (hX.kept hcx (fun _ _ => List.not_mem_nil)) (ho.kept (hcx.2 o9 hoz (List.not_mem_nil))))
  · have _ := hx
    obtain ⟨hk9, rfl, hX2⟩ := hp
    have had : ad 0 = ad 0 := rfl
    have ho2 : jA G o9 1 f0 H1 := ho.kept (hk o9 hoz (fun q => q.2 rfl))
    refine lv_if_eq (tgt := 14) hx hb dL_isIn_7 (by decide) (fun c_1 => ?_) (fun c_1 => ?_)
    · have _ := hx
      refine lv_lconst (v := (lN 0)) hx hb dL_isIn_14 (by decide) ?_
      refine x_jastn (G := G) (j := 0) hx hb hC hS hAo ho2 (by decide) (by decide) dL_isIn_15 (fun H2 locs ho3 hc3 hS => ?_)
      refine lv_goto (tgt := 22) hx hb dL_isIn_16 (by decide) ?_
      refine lv_iconst (v := (nI 0)) hx hb dL_isIn_22 (by decide) ?_
      exact x_iret (G := G) hx hb hr rfl dL_isIn_23 hlocks hS (by first | exact Nat.le_of_ble_eq_true rfl | exact (show 0 + 8 ≤ 8 by omega)) (by first | exact Nat.le_of_ble_eq_true rfl | exact (show 0 + 60 ≤ 60 by omega)) (by exact lP0 hk9 had (hX2.kept hc3 (hX2.ne hoE)) ho3 (by show lN 0 = _; rw [show zI S p9.toNatClampNeg = _ from xb_0.mp c_1]; rfl))
    · have _ := hx
      refine lv_lconst (v := (lN 1)) hx hb dL_isIn_10 (by decide) ?_
      refine lv_goto (tgt := 15) hx hb dL_isIn_11 (by decide) ?_
      refine x_jastn (G := G) (j := 0) hx hb hC hS hAo ho2 (by decide) (by decide) dL_isIn_15 (fun H2 locs ho3 hc3 hS => ?_)
      refine lv_goto (tgt := 22) hx hb dL_isIn_16 (by decide) ?_
      refine lv_iconst (v := (nI 0)) hx hb dL_isIn_22 (by decide) ?_
      exact x_iret (G := G) hx hb hr rfl dL_isIn_23 hlocks hS (by first | exact Nat.le_of_ble_eq_true rfl | exact (show 0 + 8 ≤ 8 by omega)) (by first | exact Nat.le_of_ble_eq_true rfl | exact (show 0 + 60 ≤ 60 by omega)) (by exact lP0 hk9 had (hX2.kept hc3 (hX2.ne hoE)) ho3 (by show lN 1 = _; rw [show zI S p9.toNatClampNeg = _ from xb_1 c_1]; rfl))

set_option maxHeartbeats 1000000 in
set_option maxRecDepth 100000 in
/-- forbid, caught -/
theorem c_L_forbid (l : Launch) (hfl : l.stackTraces = false) (G : xG) (o9 : Nat) (ad : Nat → Nat) (S : zS) (f0 : Nat → Int64) (p9 : Int32) (H : Heap) (hX : XS (xGo G o9) ad S H) (hW : zW S) (ho : jA G o9 1 f0 H) (hAo : xA G o9) : lMet l G yL_forbid wsL_forbid ({ frames := 8, cells := 8, slots := 60, locals := 138 } : Room) [.ref (ad 0), .int p9, .ref o9] H (lPost G o9 ad (kval S p9) (nI (xct (fun j => zI S j && zline S p9.toNatClampNeg (j + 1) j) (zN S))) S (zforb S p9.toNatClampNeg (zN S))) := by
  refine vx_ofWH (cc := cL_forbid) (maxL := 4) (ret := (some .int)) (hh := [(0, 9, 12, 13)]) (by decide) rfl ?_
  intro Pg Ev s m args below meth c s₁ B hml hv
  obtain ⟨rfl, hH, hC, hN⟩ := hv
  have hx := B.exec
  have hb := B.bytes
  have hr := B.returns
  have hts := atoms_spec (ws := wsL_forbid) B.pre
  have hown : s.vm.findClass RL = some m.cls := findClass_of_methodNamed B.named
  have hlocks := B.notSynchronized
  have htb := vx_table (x := yL_forbid) B (hts (.codeWith yL_forbid cL_forbid 4 (some .int) [(0, 9, 12, 13)]) (by decide +kernel))
  rw [hH]
  have hS : va_S (xA G) s.heap H [] := by rw [← hH]; exact va_S.rf
  generalize ([] : List Loc) = locs at hS ⊢
  have hl := lv_entry [.ref (ad 0), .int p9, .ref o9] (n := 4) (Nat.le_of_ble_eq_true rfl)
  rw [lg_entry_eq]
  generalize (lg_sl [.ref (ad 0), .int p9, .ref o9] ++ List.replicate (4 - (lg_sl [.ref (ad 0), .int p9, .ref o9]).length) Slot.unset).toArray = ls at hl ⊢
  have hl : lv_has ls 4 [(0, .ref (ad 0)), (1, .int p9), (2, .ref o9)] := hl
  have hoE : o9 ≠ xE G := fun q => hC.xE (by rw [← q]; exact hAo)
  have hoz : o9 < H.size := ho.lt
  obtain ⟨fb, hfb, hx0⟩ := id hX.2.1
  refine lv_aload_n hx hb dL_forbid_0 rfl (lv_at hl 2 rfl) ?_
  refine lv_iconst (v := (nI 0)) hx hb dL_forbid_1 (by decide) ?_
  refine lv_aload_n hx hb dL_forbid_2 rfl (lv_at hl 0 rfl) ?_
  refine lv_iload_n hx hb dL_forbid_3 rfl (lv_at hl 1 rfl) ?_
  refine x_call (G1 := xGo G o9) (vx_runV (As := [.int p9]) (rest := [.int (nI 0), .ref o9]) ⟨hx, hb, hml, hown, hts⟩ (c_X4_forbid l hfl (xGo G o9) ad S p9 H hX hW) (cwV 1 hts gL_forbid_X4_forbid rfl rfl rfl (by decide +kernel) ⟨(Nat.le_of_ble_eq_true rfl), (Nat.le_of_ble_eq_true rfl)⟩) (lPreV hC hS (fun _ h => h.1) (fun q hq => ⟨hC.2.2.1 q (Nat.le_trans hS.1 hq), fun z => by omega⟩) hx0 (q := (RX4, TX4, 11)) rfl) rfl rfl hl.1 rfl (lv_room (Nat.le_of_ble_eq_true rfl)) dL_forbid_4 ⟨(by first | exact Nat.le_of_ble_eq_true rfl | exact (show 0 + 8 ≤ 8 by omega)), (by first | exact Nat.le_of_ble_eq_true rfl | exact (show 0 + 60 ≤ 60 by omega))⟩) hS (fun _ h => h.1) (fun E a9 ce H1 locs hp hz hk hS hq1 hq2 hq3 => ?_) (fun v H1 locs hp hz hk hS => ?_)
  · have _ := hx
    obtain ⟨hcs, hcx⟩ := lz1 hp
    obtain ⟨hk9, rfl⟩ := hcs
    refine vx_catch (own := RL) (name := "java/lang/IllegalArgumentException") hown [] ⟨0, 9, 12, 13⟩ [] htb (fun z hz => absurd hz (List.not_mem_nil)) rfl (by decide) (hts (.classLink RL 13 "java/lang/IllegalArgumentException") (by decide +kernel)) (va_Nw.use rfl (hC.2.1 (.castable "java/lang/IllegalArgumentException" "java/lang/IllegalArgumentException") (by decide +kernel))) hq1 hq2 hq3 ?_
    refine lv_astore_n (lv' := [(3, .ref a9), (0, .ref (ad 0)), (1, .int p9), (2, .ref o9)]) hx hb dL_forbid_12 rfl hl (by decide) rfl (fun ls hl => ?_)
    refine lv_iconst (v := (nI 1)) hx hb dL_forbid_13 (by decide) ?_
    exact x_iret (G := G) hx hb hr rfl dL_forbid_14 hlocks hS (by first | exact Nat.le_of_ble_eq_true rfl | exact (show 0 + 8 ≤ 8 by omega)) (by first | exact Nat.le_of_ble_eq_true rfl | exact (show 0 + 60 ≤ 60 by omega)) (by exact lP1 0 hk9 (hX.kept hcx (fun _ _ => List.not_mem_nil)) (ho.kept (hcx.2 o9 hoz (List.not_mem_nil))))
  · have _ := hx
    obtain ⟨hk9, rfl, hX2⟩ := hp
    have had : ad 0 = ad 0 := rfl
    have ho2 : jA G o9 1 f0 H1 := ho.kept (hk o9 hoz (fun q => q.2 rfl))
    refine lv_i2l hx hb dL_forbid_7 rfl ?_
    refine x_jastn (G := G) (j := 0) hx hb hC hS hAo ho2 (by decide) (by decide) dL_forbid_8 (fun H2 locs ho3 hc3 hS => ?_)
    refine lv_goto (tgt := 15) hx hb dL_forbid_9 (by decide) ?_
    refine lv_iconst (v := (nI 0)) hx hb dL_forbid_15 (by decide) ?_
    exact x_iret (G := G) hx hb hr rfl dL_forbid_16 hlocks hS (by first | exact Nat.le_of_ble_eq_true rfl | exact (show 0 + 8 ≤ 8 by omega)) (by first | exact Nat.le_of_ble_eq_true rfl | exact (show 0 + 60 ≤ 60 by omega)) (by exact lP0 hk9 had (hX2.kept hc3 (hX2.ne hoE)) ho3 rfl)

set_option maxHeartbeats 1000000 in
set_option maxRecDepth 100000 in
/-- allow, caught -/
theorem c_L_allow (l : Launch) (hfl : l.stackTraces = false) (G : xG) (o9 : Nat) (ad : Nat → Nat) (S : zS) (f0 : Nat → Int64) (p9 : Int32) (H : Heap) (hX : XS (xGo G o9) ad S H) (hW : zW S) (ho : jA G o9 1 f0 H) (hAo : xA G o9) : lMet l G yL_allow wsL_allow ({ frames := 8, cells := 8, slots := 60, locals := 136 } : Room) [.ref (ad 0), .int p9, .ref o9] H (lPost G o9 ad (kval S p9) (xb (zF S p9.toNatClampNeg)) S (zrule S p9.toNatClampNeg false)) := by
  refine vx_ofWH (cc := cL_allow) (maxL := 4) (ret := (some .int)) (hh := [(0, 16, 19, 13)]) (by decide) rfl ?_
  intro Pg Ev s m args below meth c s₁ B hml hv
  obtain ⟨rfl, hH, hC, hN⟩ := hv
  have hx := B.exec
  have hb := B.bytes
  have hr := B.returns
  have hts := atoms_spec (ws := wsL_allow) B.pre
  have hown : s.vm.findClass RL = some m.cls := findClass_of_methodNamed B.named
  have hlocks := B.notSynchronized
  have htb := vx_table (x := yL_allow) B (hts (.codeWith yL_allow cL_allow 4 (some .int) [(0, 16, 19, 13)]) (by decide +kernel))
  rw [hH]
  have hS : va_S (xA G) s.heap H [] := by rw [← hH]; exact va_S.rf
  generalize ([] : List Loc) = locs at hS ⊢
  have hl := lv_entry [.ref (ad 0), .int p9, .ref o9] (n := 4) (Nat.le_of_ble_eq_true rfl)
  rw [lg_entry_eq]
  generalize (lg_sl [.ref (ad 0), .int p9, .ref o9] ++ List.replicate (4 - (lg_sl [.ref (ad 0), .int p9, .ref o9]).length) Slot.unset).toArray = ls at hl ⊢
  have hl : lv_has ls 4 [(0, .ref (ad 0)), (1, .int p9), (2, .ref o9)] := hl
  have hoE : o9 ≠ xE G := fun q => hC.xE (by rw [← q]; exact hAo)
  have hoz : o9 < H.size := ho.lt
  obtain ⟨fb, hfb, hx0⟩ := id hX.2.1
  refine lv_aload_n hx hb dL_allow_0 rfl (lv_at hl 2 rfl) ?_
  refine lv_iconst (v := (nI 0)) hx hb dL_allow_1 (by decide) ?_
  refine lv_aload_n hx hb dL_allow_2 rfl (lv_at hl 0 rfl) ?_
  refine lv_iload_n hx hb dL_allow_3 rfl (lv_at hl 1 rfl) ?_
  refine x_call (G1 := xGo G o9) (vx_runV (As := [.int p9]) (rest := [.int (nI 0), .ref o9]) ⟨hx, hb, hml, hown, hts⟩ (c_X4_allow l hfl (xGo G o9) ad S p9 H hX hW) (cwV 1 hts gL_allow_X4_allow rfl rfl rfl (by decide +kernel) ⟨(Nat.le_of_ble_eq_true rfl), (Nat.le_of_ble_eq_true rfl)⟩) (lPreV hC hS (fun _ h => h.1) (fun q hq => ⟨hC.2.2.1 q (Nat.le_trans hS.1 hq), fun z => by omega⟩) hx0 (q := (RX4, TX4, 11)) rfl) rfl rfl hl.1 rfl (lv_room (Nat.le_of_ble_eq_true rfl)) dL_allow_4 ⟨(by first | exact Nat.le_of_ble_eq_true rfl | exact (show 0 + 8 ≤ 8 by omega)), (by first | exact Nat.le_of_ble_eq_true rfl | exact (show 0 + 60 ≤ 60 by omega))⟩) hS (fun _ h => h.1) (fun E a9 ce H1 locs hp hz hk hS hq1 hq2 hq3 => ?_) (fun v H1 locs hp hz hk hS => ?_)
  · have _ := hx
    obtain ⟨hcs, hcx⟩ := lz1 hp
    obtain ⟨hk9, rfl⟩ := hcs
    refine vx_catch (own := RL) (name := "java/lang/IllegalArgumentException") hown [] ⟨0, 16, 19, 13⟩ [] htb (fun z hz => absurd hz (List.not_mem_nil)) rfl (by decide) (hts (.classLink RL 13 "java/lang/IllegalArgumentException") (by decide +kernel)) (va_Nw.use rfl (hC.2.1 (.castable "java/lang/IllegalArgumentException" "java/lang/IllegalArgumentException") (by decide +kernel))) hq1 hq2 hq3 ?_
    refine lv_astore_n (lv' := [(3, .ref a9), (0, .ref (ad 0)), (1, .int p9), (2, .ref o9)]) hx hb dL_allow_19 rfl hl (by decide) rfl (fun ls hl => ?_)
    refine lv_iconst (v := (nI 1)) hx hb dL_allow_20 (by decide) ?_
    exact x_iret (G := G) hx hb hr rfl dL_allow_21 hlocks hS (by first | exact Nat.le_of_ble_eq_true rfl | exact (show 0 + 8 ≤ 8 by omega)) (by first | exact Nat.le_of_ble_eq_true rfl | exact (show 0 + 60 ≤ 60 by omega)) (by exact lP1 0 hk9 (hX.kept hcx (fun _ _ => List.not_mem_nil)) (ho.kept (hcx.2 o9 hoz (List.not_mem_nil))))
  · have _ := hx
    obtain ⟨hk9, rfl, hX2⟩ := hp
    have had : ad 0 = ad 0 := rfl
    have ho2 : jA G o9 1 f0 H1 := ho.kept (hk o9 hoz (fun q => q.2 rfl))
    refine lv_if_eq (tgt := 14) hx hb dL_allow_7 (by decide) (fun c_1 => ?_) (fun c_1 => ?_)
    · have _ := hx
      refine lv_lconst (v := (lN 0)) hx hb dL_allow_14 (by decide) ?_
      refine x_jastn (G := G) (j := 0) hx hb hC hS hAo ho2 (by decide) (by decide) dL_allow_15 (fun H2 locs ho3 hc3 hS => ?_)
      refine lv_goto (tgt := 22) hx hb dL_allow_16 (by decide) ?_
      refine lv_iconst (v := (nI 0)) hx hb dL_allow_22 (by decide) ?_
      exact x_iret (G := G) hx hb hr rfl dL_allow_23 hlocks hS (by first | exact Nat.le_of_ble_eq_true rfl | exact (show 0 + 8 ≤ 8 by omega)) (by first | exact Nat.le_of_ble_eq_true rfl | exact (show 0 + 60 ≤ 60 by omega)) (by exact lP0 hk9 had (hX2.kept hc3 (hX2.ne hoE)) ho3 (by show lN 0 = _; rw [show zF S p9.toNatClampNeg = _ from xb_0.mp c_1]; rfl))
    · have _ := hx
      refine lv_lconst (v := (lN 1)) hx hb dL_allow_10 (by decide) ?_
      refine lv_goto (tgt := 15) hx hb dL_allow_11 (by decide) ?_
      refine x_jastn (G := G) (j := 0) hx hb hC hS hAo ho2 (by decide) (by decide) dL_allow_15 (fun H2 locs ho3 hc3 hS => ?_)
      refine lv_goto (tgt := 22) hx hb dL_allow_16 (by decide) ?_
      refine lv_iconst (v := (nI 0)) hx hb dL_allow_22 (by decide) ?_
      exact x_iret (G := G) hx hb hr rfl dL_allow_23 hlocks hS (by first | exact Nat.le_of_ble_eq_true rfl | exact (show 0 + 8 ≤ 8 by omega)) (by first | exact Nat.le_of_ble_eq_true rfl | exact (show 0 + 60 ≤ 60 by omega)) (by exact lP0 hk9 had (hX2.kept hc3 (hX2.ne hoE)) ho3 (by show lN 1 = _; rw [show zF S p9.toNatClampNeg = _ from xb_1 c_1]; rfl))

set_option maxHeartbeats 1000000 in
set_option maxRecDepth 100000 in
/-- tell, caught -/
theorem c_L_tell (l : Launch) (hfl : l.stackTraces = false) (G : xG) (o9 : Nat) (ad : Nat → Nat) (S : zS) (f0 : Nat → Int64) (p9 : Int32) (q9 : Int32) (H : Heap) (hX : XS (xGo G o9) ad S H) (hW : zW S) (ho : jA G o9 1 f0 H) (hAo : xA G o9) : lMet l G yL_tell wsL_tell ({ frames := 8, cells := 8, slots := 60, locals := 136 } : Room) [.ref (ad 0), .int p9, .int q9, .ref o9] H (lPost G o9 ad (ktell S p9 q9) (nI (zK S + 1)) S (ztell S p9.toNatClampNeg q9.toNatClampNeg)) := by
  refine vx_ofWH (cc := cL_tell) (maxL := 5) (ret := (some .int)) (hh := [(0, 10, 13, 13), (0, 10, 17, 15)]) (by decide) rfl ?_
  intro Pg Ev s m args below meth c s₁ B hml hv
  obtain ⟨rfl, hH, hC, hN⟩ := hv
  have hx := B.exec
  have hb := B.bytes
  have hr := B.returns
  have hts := atoms_spec (ws := wsL_tell) B.pre
  have hown : s.vm.findClass RL = some m.cls := findClass_of_methodNamed B.named
  have hlocks := B.notSynchronized
  have htb := vx_table (x := yL_tell) B (hts (.codeWith yL_tell cL_tell 5 (some .int) [(0, 10, 13, 13), (0, 10, 17, 15)]) (by decide +kernel))
  rw [hH]
  have hS : va_S (xA G) s.heap H [] := by rw [← hH]; exact va_S.rf
  generalize ([] : List Loc) = locs at hS ⊢
  have hl := lv_entry [.ref (ad 0), .int p9, .int q9, .ref o9] (n := 5) (Nat.le_of_ble_eq_true rfl)
  rw [lg_entry_eq]
  generalize (lg_sl [.ref (ad 0), .int p9, .int q9, .ref o9] ++ List.replicate (5 - (lg_sl [.ref (ad 0), .int p9, .int q9, .ref o9]).length) Slot.unset).toArray = ls at hl ⊢
  have hl : lv_has ls 5 [(0, .ref (ad 0)), (1, .int p9), (2, .int q9), (3, .ref o9)] := hl
  have hoE : o9 ≠ xE G := fun q => hC.xE (by rw [← q]; exact hAo)
  have hoz : o9 < H.size := ho.lt
  obtain ⟨fb, hfb, hx0⟩ := id hX.2.1
  refine lv_aload_n hx hb dL_tell_0 rfl (lv_at hl 3 rfl) ?_
  refine lv_iconst (v := (nI 0)) hx hb dL_tell_1 (by decide) ?_
  refine lv_aload_n hx hb dL_tell_2 rfl (lv_at hl 0 rfl) ?_
  refine lv_iload_n hx hb dL_tell_3 rfl (lv_at hl 1 rfl) ?_
  refine lv_iload_n hx hb dL_tell_4 rfl (lv_at hl 2 rfl) ?_
  refine x_call (G1 := xGo G o9) (vx_runV (As := [.int p9, .int q9]) (rest := [.int (nI 0), .ref o9]) ⟨hx, hb, hml, hown, hts⟩ (c_X4_tell l hfl (xGo G o9) ad S p9 q9 H hX hW) (cwV 2 hts gL_tell_X4_tell rfl rfl rfl (by decide +kernel) ⟨(Nat.le_of_ble_eq_true rfl), (Nat.le_of_ble_eq_true rfl)⟩) (lPreV hC hS (fun _ h => h.1) (fun q hq => ⟨hC.2.2.1 q (Nat.le_trans hS.1 hq), fun z => by omega⟩) hx0 (q := (RX4, TX4, 11)) rfl) rfl rfl hl.1 rfl (lv_room (Nat.le_of_ble_eq_true rfl)) dL_tell_5 ⟨(by first | exact Nat.le_of_ble_eq_true rfl | exact (show 0 + 8 ≤ 8 by omega)), (by first | exact Nat.le_of_ble_eq_true rfl | exact (show 0 + 60 ≤ 60 by omega))⟩) hS (fun _ h => h.1) (fun E a9 ce H1 locs hp hz hk hS hq1 hq2 hq3 => ?_) (fun v H1 locs hp hz hk hS => ?_)
  · have _ := hx
    obtain ⟨hcs, hcx⟩ := lz2 hp
    rcases hcs with ⟨hk9, rfl⟩ | ⟨hk9, rfl⟩
    · have _ := hx
      refine vx_catch (own := RL) (name := "java/lang/IllegalArgumentException") hown [] ⟨0, 10, 13, 13⟩ [⟨0, 10, 17, 15⟩] htb (fun z hz => absurd hz (List.not_mem_nil)) rfl (by decide) (hts (.classLink RL 13 "java/lang/IllegalArgumentException") (by decide +kernel)) (va_Nw.use rfl (hC.2.1 (.castable "java/lang/IllegalArgumentException" "java/lang/IllegalArgumentException") (by decide +kernel))) hq1 hq2 hq3 ?_
      refine lv_astore (lv' := [(4, .ref a9), (0, .ref (ad 0)), (1, .int p9), (2, .int q9), (3, .ref o9)]) hx hb dL_tell_13 hl (by decide) rfl (fun ls hl => ?_)
      refine lv_iconst (v := (nI 1)) hx hb dL_tell_15 (by decide) ?_
      exact x_iret (G := G) hx hb hr rfl dL_tell_16 hlocks hS (by first | exact Nat.le_of_ble_eq_true rfl | exact (show 0 + 8 ≤ 8 by omega)) (by first | exact Nat.le_of_ble_eq_true rfl | exact (show 0 + 60 ≤ 60 by omega)) (by exact lP1 0 hk9 (hX.kept hcx (fun _ _ => List.not_mem_nil)) (ho.kept (hcx.2 o9 hoz (List.not_mem_nil))))
    · have _ := hx
      refine vx_catch (own := RL) (name := "java/lang/IllegalStateException") hown [⟨0, 10, 13, 13⟩] ⟨0, 10, 17, 15⟩ [] htb (fun z hz => by rcases List.mem_cons.mp hz with rfl | hz; exact Or.inr ⟨by decide, "java/lang/IllegalArgumentException", hts (.classLink RL 13 "java/lang/IllegalArgumentException") (by decide +kernel), hN ("java/lang/IllegalStateException", "java/lang/IllegalArgumentException") (by decide)⟩; cases hz) rfl (by decide) (hts (.classLink RL 15 "java/lang/IllegalStateException") (by decide +kernel)) (va_Nw.use rfl (hC.2.1 (.castable "java/lang/IllegalStateException" "java/lang/IllegalStateException") (by decide +kernel))) hq1 hq2 hq3 ?_
      refine lv_astore (lv' := [(4, .ref a9), (0, .ref (ad 0)), (1, .int p9), (2, .int q9), (3, .ref o9)]) hx hb dL_tell_17 hl (by decide) rfl (fun ls hl => ?_)
      refine lv_iconst (v := (nI 2)) hx hb dL_tell_19 (by decide) ?_
      exact x_iret (G := G) hx hb hr rfl dL_tell_20 hlocks hS (by first | exact Nat.le_of_ble_eq_true rfl | exact (show 0 + 8 ≤ 8 by omega)) (by first | exact Nat.le_of_ble_eq_true rfl | exact (show 0 + 60 ≤ 60 by omega)) (by exact lP1 1 hk9 (hX.kept hcx (fun _ _ => List.not_mem_nil)) (ho.kept (hcx.2 o9 hoz (List.not_mem_nil))))
  · have _ := hx
    obtain ⟨hk9, rfl, hX2⟩ := hp
    have had : ad 0 = ad 0 := rfl
    have ho2 : jA G o9 1 f0 H1 := ho.kept (hk o9 hoz (fun q => q.2 rfl))
    refine lv_i2l hx hb dL_tell_8 rfl ?_
    refine x_jastn (G := G) (j := 0) hx hb hC hS hAo ho2 (by decide) (by decide) dL_tell_9 (fun H2 locs ho3 hc3 hS => ?_)
    refine lv_goto (tgt := 21) hx hb dL_tell_10 (by decide) ?_
    refine lv_iconst (v := (nI 0)) hx hb dL_tell_21 (by decide) ?_
    exact x_iret (G := G) hx hb hr rfl dL_tell_22 hlocks hS (by first | exact Nat.le_of_ble_eq_true rfl | exact (show 0 + 8 ≤ 8 by omega)) (by first | exact Nat.le_of_ble_eq_true rfl | exact (show 0 + 60 ≤ 60 by omega)) (by exact lP0 hk9 had (hX2.kept hc3 (hX2.ne hoE)) ho3 rfl)

set_option maxHeartbeats 1000000 in
set_option maxRecDepth 100000 in
/-- profit, caught -/
theorem c_L_profit (l : Launch) (hfl : l.stackTraces = false) (G : xG) (o9 : Nat) (ad : Nat → Nat) (S : zS) (f0 : Nat → Int64) (u9 : Int32) (p9 : Int32) (q9 : Int32) (v9 : Int32) (w9 : Int32) (H : Heap) (hX : XS (xGo G o9) ad S H) (hW : zW S) (ho : jA G o9 1 f0 H) (hAo : xA G o9) : lMet l G yL_profit wsL_profit ({ frames := 8, cells := 8, slots := 60, locals := 142 } : Room) [.ref (ad 0), .int u9, .int p9, .int q9, .int v9, .int w9, .ref o9] H (lPost G o9 ad (kprofit S u9 p9 q9 v9 w9) (Int32.ofInt (zprof S u9.toNatClampNeg p9.toNatClampNeg q9.toNatClampNeg v9.toNatClampNeg w9.toNatClampNeg)) S (S)) := by
  refine vx_ofWH (cc := cL_profit) (maxL := 8) (ret := (some .int)) (hh := [(0, 16, 19, 25), (0, 16, 23, 13)]) (by decide) rfl ?_
  intro Pg Ev s m args below meth c s₁ B hml hv
  obtain ⟨rfl, hH, hC, hN⟩ := hv
  have hx := B.exec
  have hb := B.bytes
  have hr := B.returns
  have hts := atoms_spec (ws := wsL_profit) B.pre
  have hown : s.vm.findClass RL = some m.cls := findClass_of_methodNamed B.named
  have hlocks := B.notSynchronized
  have htb := vx_table (x := yL_profit) B (hts (.codeWith yL_profit cL_profit 8 (some .int) [(0, 16, 19, 25), (0, 16, 23, 13)]) (by decide +kernel))
  rw [hH]
  have hS : va_S (xA G) s.heap H [] := by rw [← hH]; exact va_S.rf
  generalize ([] : List Loc) = locs at hS ⊢
  have hl := lv_entry [.ref (ad 0), .int u9, .int p9, .int q9, .int v9, .int w9, .ref o9] (n := 8) (Nat.le_of_ble_eq_true rfl)
  rw [lg_entry_eq]
  generalize (lg_sl [.ref (ad 0), .int u9, .int p9, .int q9, .int v9, .int w9, .ref o9] ++ List.replicate (8 - (lg_sl [.ref (ad 0), .int u9, .int p9, .int q9, .int v9, .int w9, .ref o9]).length) Slot.unset).toArray = ls at hl ⊢
  have hl : lv_has ls 8 [(0, .ref (ad 0)), (1, .int u9), (2, .int p9), (3, .int q9), (4, .int v9), (5, .int w9), (6, .ref o9)] := hl
  have hoE : o9 ≠ xE G := fun q => hC.xE (by rw [← q]; exact hAo)
  have hoz : o9 < H.size := ho.lt
  obtain ⟨fb, hfb, hx0⟩ := id hX.2.1
  refine lv_aload hx hb dL_profit_0 (lv_at hl 6 rfl) ?_
  refine lv_iconst (v := (nI 0)) hx hb dL_profit_2 (by decide) ?_
  refine lv_aload_n hx hb dL_profit_3 rfl (lv_at hl 0 rfl) ?_
  refine lv_iload_n hx hb dL_profit_4 rfl (lv_at hl 1 rfl) ?_
  refine lv_iload_n hx hb dL_profit_5 rfl (lv_at hl 2 rfl) ?_
  refine lv_iload_n hx hb dL_profit_6 rfl (lv_at hl 3 rfl) ?_
  refine lv_iload hx hb dL_profit_7 (lv_at hl 4 rfl) ?_
  refine lv_iload hx hb dL_profit_9 (lv_at hl 5 rfl) ?_
  refine x_call (G1 := xGo G o9) (vx_runV (As := [.int u9, .int p9, .int q9, .int v9, .int w9]) (rest := [.int (nI 0), .ref o9]) ⟨hx, hb, hml, hown, hts⟩ (c_X4_profit l hfl (xGo G o9) ad S u9 p9 q9 v9 w9 H hX hW) (cwV 5 hts gL_profit_X4_profit rfl rfl rfl (by decide +kernel) ⟨(Nat.le_of_ble_eq_true rfl), (Nat.le_of_ble_eq_true rfl)⟩) (lPreV hC hS (fun _ h => h.1) (fun q hq => ⟨hC.2.2.1 q (Nat.le_trans hS.1 hq), fun z => by omega⟩) hx0 (q := (RX4, TX4, 11)) rfl) rfl rfl hl.1 rfl (lv_room (Nat.le_of_ble_eq_true rfl)) dL_profit_11 ⟨(by first | exact Nat.le_of_ble_eq_true rfl | exact (show 0 + 8 ≤ 8 by omega)), (by first | exact Nat.le_of_ble_eq_true rfl | exact (show 0 + 60 ≤ 60 by omega))⟩) hS (fun _ h => h.1) (fun E a9 ce H1 locs hp hz hk hS hq1 hq2 hq3 => ?_) (fun v H1 locs hp hz hk hS => ?_)
  · have _ := hx
    obtain ⟨hcs, hcx⟩ := lz2 hp
    rcases hcs with ⟨hk9, rfl⟩ | ⟨hk9, rfl⟩
    · have _ := hx
      refine vx_catch (own := RL) (name := "java/lang/IndexOutOfBoundsException") hown [] ⟨0, 16, 19, 25⟩ [⟨0, 16, 23, 13⟩] htb (fun z hz => absurd hz (List.not_mem_nil)) rfl (by decide) (hts (.classLink RL 25 "java/lang/IndexOutOfBoundsException") (by decide +kernel)) (va_Nw.use rfl (hC.2.1 (.castable "java/lang/IndexOutOfBoundsException" "java/lang/IndexOutOfBoundsException") (by decide +kernel))) hq1 hq2 hq3 ?_
      refine lv_astore (lv' := [(7, .ref a9), (0, .ref (ad 0)), (1, .int u9), (2, .int p9), (3, .int q9), (4, .int v9), (5, .int w9), (6, .ref o9)]) hx hb dL_profit_19 hl (by decide) rfl (fun ls hl => ?_)
      refine lv_iconst (v := (nI 1)) hx hb dL_profit_21 (by decide) ?_
      exact x_iret (G := G) hx hb hr rfl dL_profit_22 hlocks hS (by first | exact Nat.le_of_ble_eq_true rfl | exact (show 0 + 8 ≤ 8 by omega)) (by first | exact Nat.le_of_ble_eq_true rfl | exact (show 0 + 60 ≤ 60 by omega)) (by exact lP1 0 hk9 (hX.kept hcx (fun _ _ => List.not_mem_nil)) (ho.kept (hcx.2 o9 hoz (List.not_mem_nil))))
    · have _ := hx
      refine vx_catch (own := RL) (name := "java/lang/IllegalArgumentException") hown [⟨0, 16, 19, 25⟩] ⟨0, 16, 23, 13⟩ [] htb (fun z hz => by rcases List.mem_cons.mp hz with rfl | hz; exact Or.inr ⟨by decide, "java/lang/IndexOutOfBoundsException", hts (.classLink RL 25 "java/lang/IndexOutOfBoundsException") (by decide +kernel), hN ("java/lang/IllegalArgumentException", "java/lang/IndexOutOfBoundsException") (by decide)⟩; cases hz) rfl (by decide) (hts (.classLink RL 13 "java/lang/IllegalArgumentException") (by decide +kernel)) (va_Nw.use rfl (hC.2.1 (.castable "java/lang/IllegalArgumentException" "java/lang/IllegalArgumentException") (by decide +kernel))) hq1 hq2 hq3 ?_
      refine lv_astore (lv' := [(7, .ref a9), (0, .ref (ad 0)), (1, .int u9), (2, .int p9), (3, .int q9), (4, .int v9), (5, .int w9), (6, .ref o9)]) hx hb dL_profit_23 hl (by decide) rfl (fun ls hl => ?_)
      refine lv_iconst (v := (nI 2)) hx hb dL_profit_25 (by decide) ?_
      exact x_iret (G := G) hx hb hr rfl dL_profit_26 hlocks hS (by first | exact Nat.le_of_ble_eq_true rfl | exact (show 0 + 8 ≤ 8 by omega)) (by first | exact Nat.le_of_ble_eq_true rfl | exact (show 0 + 60 ≤ 60 by omega)) (by exact lP1 1 hk9 (hX.kept hcx (fun _ _ => List.not_mem_nil)) (ho.kept (hcx.2 o9 hoz (List.not_mem_nil))))
  · have _ := hx
    obtain ⟨hk9, rfl, hX2⟩ := hp
    have had : ad 0 = ad 0 := rfl
    have ho2 : jA G o9 1 f0 H1 := ho.kept (hk o9 hoz (fun q => q.2 rfl))
    refine lv_i2l hx hb dL_profit_14 rfl ?_
    refine x_jastn (G := G) (j := 0) hx hb hC hS hAo ho2 (by decide) (by decide) dL_profit_15 (fun H2 locs ho3 hc3 hS => ?_)
    refine lv_goto (tgt := 27) hx hb dL_profit_16 (by decide) ?_
    refine lv_iconst (v := (nI 0)) hx hb dL_profit_27 (by decide) ?_
    exact x_iret (G := G) hx hb hr rfl dL_profit_28 hlocks hS (by first | exact Nat.le_of_ble_eq_true rfl | exact (show 0 + 8 ≤ 8 by omega)) (by first | exact Nat.le_of_ble_eq_true rfl | exact (show 0 + 60 ≤ 60 by omega)) (by exact lP0 hk9 had (hX2.kept hc3 (hX2.ne hoE)) ho3 rfl)

set_option maxHeartbeats 1000000 in
set_option maxRecDepth 100000 in
/-- worth, caught -/
theorem c_L_worth (l : Launch) (hfl : l.stackTraces = false) (G : xG) (o9 : Nat) (ad : Nat → Nat) (S : zS) (f0 : Nat → Int64) (u9 : Int32) (p9 : Int32) (H : Heap) (hX : XS (xGo G o9) ad S H) (hW : zW S) (ho : jA G o9 1 f0 H) (hAo : xA G o9) : lMet l G yL_worth wsL_worth ({ frames := 8, cells := 8, slots := 60, locals := 152 } : Room) [.ref (ad 0), .int u9, .int p9, .ref o9] H (lPost G o9 ad (kworth S u9 p9) (Int32.ofInt (zworth S u9.toNatClampNeg p9.toNatClampNeg)) S (S)) := by
  refine vx_ofWH (cc := cL_worth) (maxL := 5) (ret := (some .int)) (hh := [(0, 10, 13, 25), (0, 10, 17, 13), (0, 10, 21, 15)]) (by decide) rfl ?_
  intro Pg Ev s m args below meth c s₁ B hml hv
  obtain ⟨rfl, hH, hC, hN⟩ := hv
  have hx := B.exec
  have hb := B.bytes
  have hr := B.returns
  have hts := atoms_spec (ws := wsL_worth) B.pre
  have hown : s.vm.findClass RL = some m.cls := findClass_of_methodNamed B.named
  have hlocks := B.notSynchronized
  have htb := vx_table (x := yL_worth) B (hts (.codeWith yL_worth cL_worth 5 (some .int) [(0, 10, 13, 25), (0, 10, 17, 13), (0, 10, 21, 15)]) (by decide +kernel))
  rw [hH]
  have hS : va_S (xA G) s.heap H [] := by rw [← hH]; exact va_S.rf
  generalize ([] : List Loc) = locs at hS ⊢
  have hl := lv_entry [.ref (ad 0), .int u9, .int p9, .ref o9] (n := 5) (Nat.le_of_ble_eq_true rfl)
  rw [lg_entry_eq]
  generalize (lg_sl [.ref (ad 0), .int u9, .int p9, .ref o9] ++ List.replicate (5 - (lg_sl [.ref (ad 0), .int u9, .int p9, .ref o9]).length) Slot.unset).toArray = ls at hl ⊢
  have hl : lv_has ls 5 [(0, .ref (ad 0)), (1, .int u9), (2, .int p9), (3, .ref o9)] := hl
  have hoE : o9 ≠ xE G := fun q => hC.xE (by rw [← q]; exact hAo)
  have hoz : o9 < H.size := ho.lt
  obtain ⟨fb, hfb, hx0⟩ := id hX.2.1
  refine lv_aload_n hx hb dL_worth_0 rfl (lv_at hl 3 rfl) ?_
  refine lv_iconst (v := (nI 0)) hx hb dL_worth_1 (by decide) ?_
  refine lv_aload_n hx hb dL_worth_2 rfl (lv_at hl 0 rfl) ?_
  refine lv_iload_n hx hb dL_worth_3 rfl (lv_at hl 1 rfl) ?_
  refine lv_iload_n hx hb dL_worth_4 rfl (lv_at hl 2 rfl) ?_
  refine x_call (G1 := xGo G o9) (vx_runV (As := [.int u9, .int p9]) (rest := [.int (nI 0), .ref o9]) ⟨hx, hb, hml, hown, hts⟩ (c_X4_worth l hfl (xGo G o9) ad S u9 p9 H hX hW) (cwV 2 hts gL_worth_X4_worth rfl rfl rfl (by decide +kernel) ⟨(Nat.le_of_ble_eq_true rfl), (Nat.le_of_ble_eq_true rfl)⟩) (lPreV hC hS (fun _ h => h.1) (fun q hq => ⟨hC.2.2.1 q (Nat.le_trans hS.1 hq), fun z => by omega⟩) hx0 (q := (RX4, TX4, 11)) rfl) rfl rfl hl.1 rfl (lv_room (Nat.le_of_ble_eq_true rfl)) dL_worth_5 ⟨(by first | exact Nat.le_of_ble_eq_true rfl | exact (show 0 + 8 ≤ 8 by omega)), (by first | exact Nat.le_of_ble_eq_true rfl | exact (show 0 + 60 ≤ 60 by omega))⟩) hS (fun _ h => h.1) (fun E a9 ce H1 locs hp hz hk hS hq1 hq2 hq3 => ?_) (fun v H1 locs hp hz hk hS => ?_)
  · have _ := hx
    obtain ⟨hcs, hcx⟩ := lz3 hp
    rcases hcs with ⟨hk9, rfl⟩ | ⟨hk9, rfl⟩ | ⟨hk9, rfl⟩
    · have _ := hx
      refine vx_catch (own := RL) (name := "java/lang/IndexOutOfBoundsException") hown [] ⟨0, 10, 13, 25⟩ [⟨0, 10, 17, 13⟩, ⟨0, 10, 21, 15⟩] htb (fun z hz => absurd hz (List.not_mem_nil)) rfl (by decide) (hts (.classLink RL 25 "java/lang/IndexOutOfBoundsException") (by decide +kernel)) (va_Nw.use rfl (hC.2.1 (.castable "java/lang/IndexOutOfBoundsException" "java/lang/IndexOutOfBoundsException") (by decide +kernel))) hq1 hq2 hq3 ?_
      refine lv_astore (lv' := [(4, .ref a9), (0, .ref (ad 0)), (1, .int u9), (2, .int p9), (3, .ref o9)]) hx hb dL_worth_13 hl (by decide) rfl (fun ls hl => ?_)
      refine lv_iconst (v := (nI 1)) hx hb dL_worth_15 (by decide) ?_
      exact x_iret (G := G) hx hb hr rfl dL_worth_16 hlocks hS (by first | exact Nat.le_of_ble_eq_true rfl | exact (show 0 + 8 ≤ 8 by omega)) (by first | exact Nat.le_of_ble_eq_true rfl | exact (show 0 + 60 ≤ 60 by omega)) (by exact lP1 0 hk9 (hX.kept hcx (fun _ _ => List.not_mem_nil)) (ho.kept (hcx.2 o9 hoz (List.not_mem_nil))))
    · have _ := hx
      refine vx_catch (own := RL) (name := "java/lang/IllegalArgumentException") hown [⟨0, 10, 13, 25⟩] ⟨0, 10, 17, 13⟩ [⟨0, 10, 21, 15⟩] htb (fun z hz => by rcases List.mem_cons.mp hz with rfl | hz; exact Or.inr ⟨by decide, "java/lang/IndexOutOfBoundsException", hts (.classLink RL 25 "java/lang/IndexOutOfBoundsException") (by decide +kernel), hN ("java/lang/IllegalArgumentException", "java/lang/IndexOutOfBoundsException") (by decide)⟩; cases hz) rfl (by decide) (hts (.classLink RL 13 "java/lang/IllegalArgumentException") (by decide +kernel)) (va_Nw.use rfl (hC.2.1 (.castable "java/lang/IllegalArgumentException" "java/lang/IllegalArgumentException") (by decide +kernel))) hq1 hq2 hq3 ?_
      refine lv_astore (lv' := [(4, .ref a9), (0, .ref (ad 0)), (1, .int u9), (2, .int p9), (3, .ref o9)]) hx hb dL_worth_17 hl (by decide) rfl (fun ls hl => ?_)
      refine lv_iconst (v := (nI 2)) hx hb dL_worth_19 (by decide) ?_
      exact x_iret (G := G) hx hb hr rfl dL_worth_20 hlocks hS (by first | exact Nat.le_of_ble_eq_true rfl | exact (show 0 + 8 ≤ 8 by omega)) (by first | exact Nat.le_of_ble_eq_true rfl | exact (show 0 + 60 ≤ 60 by omega)) (by exact lP1 1 hk9 (hX.kept hcx (fun _ _ => List.not_mem_nil)) (ho.kept (hcx.2 o9 hoz (List.not_mem_nil))))
    · have _ := hx
      refine vx_catch (own := RL) (name := "java/lang/IllegalStateException") hown [⟨0, 10, 13, 25⟩, ⟨0, 10, 17, 13⟩] ⟨0, 10, 21, 15⟩ [] htb (fun z hz => by rcases List.mem_cons.mp hz with rfl | hz; exact Or.inr ⟨by decide, "java/lang/IndexOutOfBoundsException", hts (.classLink RL 25 "java/lang/IndexOutOfBoundsException") (by decide +kernel), hN ("java/lang/IllegalStateException", "java/lang/IndexOutOfBoundsException") (by decide)⟩; rcases List.mem_cons.mp hz with rfl | hz; exact Or.inr ⟨by decide, "java/lang/IllegalArgumentException", hts (.classLink RL 13 "java/lang/IllegalArgumentException") (by decide +kernel), hN ("java/lang/IllegalStateException", "java/lang/IllegalArgumentException") (by decide)⟩; cases hz) rfl (by decide) (hts (.classLink RL 15 "java/lang/IllegalStateException") (by decide +kernel)) (va_Nw.use rfl (hC.2.1 (.castable "java/lang/IllegalStateException" "java/lang/IllegalStateException") (by decide +kernel))) hq1 hq2 hq3 ?_
      refine lv_astore (lv' := [(4, .ref a9), (0, .ref (ad 0)), (1, .int u9), (2, .int p9), (3, .ref o9)]) hx hb dL_worth_21 hl (by decide) rfl (fun ls hl => ?_)
      refine lv_iconst (v := (nI 3)) hx hb dL_worth_23 (by decide) ?_
      exact x_iret (G := G) hx hb hr rfl dL_worth_24 hlocks hS (by first | exact Nat.le_of_ble_eq_true rfl | exact (show 0 + 8 ≤ 8 by omega)) (by first | exact Nat.le_of_ble_eq_true rfl | exact (show 0 + 60 ≤ 60 by omega)) (by exact lP1 2 hk9 (hX.kept hcx (fun _ _ => List.not_mem_nil)) (ho.kept (hcx.2 o9 hoz (List.not_mem_nil))))
  · have _ := hx
    obtain ⟨hk9, rfl, hX2⟩ := hp
    have had : ad 0 = ad 0 := rfl
    have ho2 : jA G o9 1 f0 H1 := ho.kept (hk o9 hoz (fun q => q.2 rfl))
    refine lv_i2l hx hb dL_worth_8 rfl ?_
    refine x_jastn (G := G) (j := 0) hx hb hC hS hAo ho2 (by decide) (by decide) dL_worth_9 (fun H2 locs ho3 hc3 hS => ?_)
    refine lv_goto (tgt := 25) hx hb dL_worth_10 (by decide) ?_
    refine lv_iconst (v := (nI 0)) hx hb dL_worth_25 (by decide) ?_
    exact x_iret (G := G) hx hb hr rfl dL_worth_26 hlocks hS (by first | exact Nat.le_of_ble_eq_true rfl | exact (show 0 + 8 ≤ 8 by omega)) (by first | exact Nat.le_of_ble_eq_true rfl | exact (show 0 + 60 ≤ 60 by omega)) (by exact lP0 hk9 had (hX2.kept hc3 (hX2.ne hoE)) ho3 rfl)

set_option maxHeartbeats 1000000 in
set_option maxRecDepth 100000 in
/-- worthByValues, caught -/
theorem c_L_worthByValues (l : Launch) (hfl : l.stackTraces = false) (G : xG) (o9 : Nat) (ad : Nat → Nat) (S : zS) (f0 : Nat → Int64) (u9 : Int32) (p9 : Int32) (H : Heap) (hX : XS (xGo G o9) ad S H) (hW : zW S) (ho : jA G o9 1 f0 H) (hAo : xA G o9) : lMet l G yL_worthByValues wsL_worthByValues ({ frames := 8, cells := 8, slots := 60, locals := 141 } : Room) [.ref (ad 0), .int u9, .int p9, .ref o9] H (lPost G o9 ad (kworth S u9 p9) (Int32.ofInt (zworth S u9.toNatClampNeg p9.toNatClampNeg)) S (S)) := by
  refine vx_ofWH (cc := cL_worthByValues) (maxL := 5) (ret := (some .int)) (hh := [(0, 10, 13, 25), (0, 10, 17, 13), (0, 10, 21, 15)]) (by decide) rfl ?_
  intro Pg Ev s m args below meth c s₁ B hml hv
  obtain ⟨rfl, hH, hC, hN⟩ := hv
  have hx := B.exec
  have hb := B.bytes
  have hr := B.returns
  have hts := atoms_spec (ws := wsL_worthByValues) B.pre
  have hown : s.vm.findClass RL = some m.cls := findClass_of_methodNamed B.named
  have hlocks := B.notSynchronized
  have htb := vx_table (x := yL_worthByValues) B (hts (.codeWith yL_worthByValues cL_worthByValues 5 (some .int) [(0, 10, 13, 25), (0, 10, 17, 13), (0, 10, 21, 15)]) (by decide +kernel))
  rw [hH]
  have hS : va_S (xA G) s.heap H [] := by rw [← hH]; exact va_S.rf
  generalize ([] : List Loc) = locs at hS ⊢
  have hl := lv_entry [.ref (ad 0), .int u9, .int p9, .ref o9] (n := 5) (Nat.le_of_ble_eq_true rfl)
  rw [lg_entry_eq]
  generalize (lg_sl [.ref (ad 0), .int u9, .int p9, .ref o9] ++ List.replicate (5 - (lg_sl [.ref (ad 0), .int u9, .int p9, .ref o9]).length) Slot.unset).toArray = ls at hl ⊢
  have hl : lv_has ls 5 [(0, .ref (ad 0)), (1, .int u9), (2, .int p9), (3, .ref o9)] := hl
  have hoE : o9 ≠ xE G := fun q => hC.xE (by rw [← q]; exact hAo)
  have hoz : o9 < H.size := ho.lt
  obtain ⟨fb, hfb, hx0⟩ := id hX.2.1
  refine lv_aload_n hx hb dL_worthByValues_0 rfl (lv_at hl 3 rfl) ?_
  refine lv_iconst (v := (nI 0)) hx hb dL_worthByValues_1 (by decide) ?_
  refine lv_aload_n hx hb dL_worthByValues_2 rfl (lv_at hl 0 rfl) ?_
  refine lv_iload_n hx hb dL_worthByValues_3 rfl (lv_at hl 1 rfl) ?_
  refine lv_iload_n hx hb dL_worthByValues_4 rfl (lv_at hl 2 rfl) ?_
  refine x_call (G1 := xGo G o9) (vx_runV (As := [.int u9, .int p9]) (rest := [.int (nI 0), .ref o9]) ⟨hx, hb, hml, hown, hts⟩ (c_X4_worthByValues l hfl (xGo G o9) ad S u9 p9 H hX hW) (cwV 2 hts gL_worthByValues_X4_worthByValues rfl rfl rfl (by decide +kernel) ⟨(Nat.le_of_ble_eq_true rfl), (Nat.le_of_ble_eq_true rfl)⟩) (lPreV hC hS (fun _ h => h.1) (fun q hq => ⟨hC.2.2.1 q (Nat.le_trans hS.1 hq), fun z => by omega⟩) hx0 (q := (RX4, TX4, 11)) rfl) rfl rfl hl.1 rfl (lv_room (Nat.le_of_ble_eq_true rfl)) dL_worthByValues_5 ⟨(by first | exact Nat.le_of_ble_eq_true rfl | exact (show 0 + 8 ≤ 8 by omega)), (by first | exact Nat.le_of_ble_eq_true rfl | exact (show 0 + 60 ≤ 60 by omega))⟩) hS (fun _ h => h.1) (fun E a9 ce H1 locs hp hz hk hS hq1 hq2 hq3 => ?_) (fun v H1 locs hp hz hk hS => ?_)
  · have _ := hx
    obtain ⟨hcs, hcx⟩ := lz3 hp
    rcases hcs with ⟨hk9, rfl⟩ | ⟨hk9, rfl⟩ | ⟨hk9, rfl⟩
    · have _ := hx
      refine vx_catch (own := RL) (name := "java/lang/IndexOutOfBoundsException") hown [] ⟨0, 10, 13, 25⟩ [⟨0, 10, 17, 13⟩, ⟨0, 10, 21, 15⟩] htb (fun z hz => absurd hz (List.not_mem_nil)) rfl (by decide) (hts (.classLink RL 25 "java/lang/IndexOutOfBoundsException") (by decide +kernel)) (va_Nw.use rfl (hC.2.1 (.castable "java/lang/IndexOutOfBoundsException" "java/lang/IndexOutOfBoundsException") (by decide +kernel))) hq1 hq2 hq3 ?_
      refine lv_astore (lv' := [(4, .ref a9), (0, .ref (ad 0)), (1, .int u9), (2, .int p9), (3, .ref o9)]) hx hb dL_worthByValues_13 hl (by decide) rfl (fun ls hl => ?_)
      refine lv_iconst (v := (nI 1)) hx hb dL_worthByValues_15 (by decide) ?_
      exact x_iret (G := G) hx hb hr rfl dL_worthByValues_16 hlocks hS (by first | exact Nat.le_of_ble_eq_true rfl | exact (show 0 + 8 ≤ 8 by omega)) (by first | exact Nat.le_of_ble_eq_true rfl | exact (show 0 + 60 ≤ 60 by omega)) (by exact lP1 0 hk9 (hX.kept hcx (fun _ _ => List.not_mem_nil)) (ho.kept (hcx.2 o9 hoz (List.not_mem_nil))))
    · have _ := hx
      refine vx_catch (own := RL) (name := "java/lang/IllegalArgumentException") hown [⟨0, 10, 13, 25⟩] ⟨0, 10, 17, 13⟩ [⟨0, 10, 21, 15⟩] htb (fun z hz => by rcases List.mem_cons.mp hz with rfl | hz; exact Or.inr ⟨by decide, "java/lang/IndexOutOfBoundsException", hts (.classLink RL 25 "java/lang/IndexOutOfBoundsException") (by decide +kernel), hN ("java/lang/IllegalArgumentException", "java/lang/IndexOutOfBoundsException") (by decide)⟩; cases hz) rfl (by decide) (hts (.classLink RL 13 "java/lang/IllegalArgumentException") (by decide +kernel)) (va_Nw.use rfl (hC.2.1 (.castable "java/lang/IllegalArgumentException" "java/lang/IllegalArgumentException") (by decide +kernel))) hq1 hq2 hq3 ?_
      refine lv_astore (lv' := [(4, .ref a9), (0, .ref (ad 0)), (1, .int u9), (2, .int p9), (3, .ref o9)]) hx hb dL_worthByValues_17 hl (by decide) rfl (fun ls hl => ?_)
      refine lv_iconst (v := (nI 2)) hx hb dL_worthByValues_19 (by decide) ?_
      exact x_iret (G := G) hx hb hr rfl dL_worthByValues_20 hlocks hS (by first | exact Nat.le_of_ble_eq_true rfl | exact (show 0 + 8 ≤ 8 by omega)) (by first | exact Nat.le_of_ble_eq_true rfl | exact (show 0 + 60 ≤ 60 by omega)) (by exact lP1 1 hk9 (hX.kept hcx (fun _ _ => List.not_mem_nil)) (ho.kept (hcx.2 o9 hoz (List.not_mem_nil))))
    · have _ := hx
      refine vx_catch (own := RL) (name := "java/lang/IllegalStateException") hown [⟨0, 10, 13, 25⟩, ⟨0, 10, 17, 13⟩] ⟨0, 10, 21, 15⟩ [] htb (fun z hz => by rcases List.mem_cons.mp hz with rfl | hz; exact Or.inr ⟨by decide, "java/lang/IndexOutOfBoundsException", hts (.classLink RL 25 "java/lang/IndexOutOfBoundsException") (by decide +kernel), hN ("java/lang/IllegalStateException", "java/lang/IndexOutOfBoundsException") (by decide)⟩; rcases List.mem_cons.mp hz with rfl | hz; exact Or.inr ⟨by decide, "java/lang/IllegalArgumentException", hts (.classLink RL 13 "java/lang/IllegalArgumentException") (by decide +kernel), hN ("java/lang/IllegalStateException", "java/lang/IllegalArgumentException") (by decide)⟩; cases hz) rfl (by decide) (hts (.classLink RL 15 "java/lang/IllegalStateException") (by decide +kernel)) (va_Nw.use rfl (hC.2.1 (.castable "java/lang/IllegalStateException" "java/lang/IllegalStateException") (by decide +kernel))) hq1 hq2 hq3 ?_
      refine lv_astore (lv' := [(4, .ref a9), (0, .ref (ad 0)), (1, .int u9), (2, .int p9), (3, .ref o9)]) hx hb dL_worthByValues_21 hl (by decide) rfl (fun ls hl => ?_)
      refine lv_iconst (v := (nI 3)) hx hb dL_worthByValues_23 (by decide) ?_
      exact x_iret (G := G) hx hb hr rfl dL_worthByValues_24 hlocks hS (by first | exact Nat.le_of_ble_eq_true rfl | exact (show 0 + 8 ≤ 8 by omega)) (by first | exact Nat.le_of_ble_eq_true rfl | exact (show 0 + 60 ≤ 60 by omega)) (by exact lP1 2 hk9 (hX.kept hcx (fun _ _ => List.not_mem_nil)) (ho.kept (hcx.2 o9 hoz (List.not_mem_nil))))
  · have _ := hx
    obtain ⟨hk9, rfl, hX2⟩ := hp
    have had : ad 0 = ad 0 := rfl
    have ho2 : jA G o9 1 f0 H1 := ho.kept (hk o9 hoz (fun q => q.2 rfl))
    refine lv_i2l hx hb dL_worthByValues_8 rfl ?_
    refine x_jastn (G := G) (j := 0) hx hb hC hS hAo ho2 (by decide) (by decide) dL_worthByValues_9 (fun H2 locs ho3 hc3 hS => ?_)
    refine lv_goto (tgt := 25) hx hb dL_worthByValues_10 (by decide) ?_
    refine lv_iconst (v := (nI 0)) hx hb dL_worthByValues_25 (by decide) ?_
    exact x_iret (G := G) hx hb hr rfl dL_worthByValues_26 hlocks hS (by first | exact Nat.le_of_ble_eq_true rfl | exact (show 0 + 8 ≤ 8 by omega)) (by first | exact Nat.le_of_ble_eq_true rfl | exact (show 0 + 60 ≤ 60 by omega)) (by exact lP0 hk9 had (hX2.kept hc3 (hX2.ne hoE)) ho3 rfl)

set_option maxHeartbeats 1000000 in
set_option maxRecDepth 100000 in
/-- best, caught -/
theorem c_L_best (l : Launch) (hfl : l.stackTraces = false) (G : xG) (o9 : Nat) (ad : Nat → Nat) (S : zS) (f0 : Nat → Int64) (u9 : Int32) (H : Heap) (hX : XS (xGo G o9) ad S H) (hW : zW S) (ho : jA G o9 1 f0 H) (hAo : xA G o9) : lMet l G yL_best wsL_best ({ frames := 8, cells := 8, slots := 60, locals := 173 } : Room) [.ref (ad 0), .int u9, .ref o9] H (lPost G o9 ad (kbest S u9) (xpar (zmost (zI S) (zworth S u9.toNatClampNeg) 0 (zN S))) S (S)) := by
  refine vx_ofWH (cc := cL_best) (maxL := 4) (ret := (some .int)) (hh := [(0, 9, 12, 13)]) (by decide) rfl ?_
  intro Pg Ev s m args below meth c s₁ B hml hv
  obtain ⟨rfl, hH, hC, hN⟩ := hv
  have hx := B.exec
  have hb := B.bytes
  have hr := B.returns
  have hts := atoms_spec (ws := wsL_best) B.pre
  have hown : s.vm.findClass RL = some m.cls := findClass_of_methodNamed B.named
  have hlocks := B.notSynchronized
  have htb := vx_table (x := yL_best) B (hts (.codeWith yL_best cL_best 4 (some .int) [(0, 9, 12, 13)]) (by decide +kernel))
  rw [hH]
  have hS : va_S (xA G) s.heap H [] := by rw [← hH]; exact va_S.rf
  generalize ([] : List Loc) = locs at hS ⊢
  have hl := lv_entry [.ref (ad 0), .int u9, .ref o9] (n := 4) (Nat.le_of_ble_eq_true rfl)
  rw [lg_entry_eq]
  generalize (lg_sl [.ref (ad 0), .int u9, .ref o9] ++ List.replicate (4 - (lg_sl [.ref (ad 0), .int u9, .ref o9]).length) Slot.unset).toArray = ls at hl ⊢
  have hl : lv_has ls 4 [(0, .ref (ad 0)), (1, .int u9), (2, .ref o9)] := hl
  have hoE : o9 ≠ xE G := fun q => hC.xE (by rw [← q]; exact hAo)
  have hoz : o9 < H.size := ho.lt
  obtain ⟨fb, hfb, hx0⟩ := id hX.2.1
  refine lv_aload_n hx hb dL_best_0 rfl (lv_at hl 2 rfl) ?_
  refine lv_iconst (v := (nI 0)) hx hb dL_best_1 (by decide) ?_
  refine lv_aload_n hx hb dL_best_2 rfl (lv_at hl 0 rfl) ?_
  refine lv_iload_n hx hb dL_best_3 rfl (lv_at hl 1 rfl) ?_
  refine x_call (G1 := xGo G o9) (vx_runV (As := [.int u9]) (rest := [.int (nI 0), .ref o9]) ⟨hx, hb, hml, hown, hts⟩ (c_X4_best l hfl (xGo G o9) ad S u9 H hX hW) (cwV 1 hts gL_best_X4_best rfl rfl rfl (by decide +kernel) ⟨(Nat.le_of_ble_eq_true rfl), (Nat.le_of_ble_eq_true rfl)⟩) (lPreV hC hS (fun _ h => h.1) (fun q hq => ⟨hC.2.2.1 q (Nat.le_trans hS.1 hq), fun z => by omega⟩) hx0 (q := (RX4, TX4, 11)) rfl) rfl rfl hl.1 rfl (lv_room (Nat.le_of_ble_eq_true rfl)) dL_best_4 ⟨(by first | exact Nat.le_of_ble_eq_true rfl | exact (show 0 + 8 ≤ 8 by omega)), (by first | exact Nat.le_of_ble_eq_true rfl | exact (show 0 + 60 ≤ 60 by omega))⟩) hS (fun _ h => h.1) (fun E a9 ce H1 locs hp hz hk hS hq1 hq2 hq3 => ?_) (fun v H1 locs hp hz hk hS => ?_)
  · have _ := hx
    obtain ⟨hcs, hcx⟩ := lz1 hp
    obtain ⟨hk9, rfl⟩ := hcs
    refine vx_catch (own := RL) (name := "java/lang/IllegalArgumentException") hown [] ⟨0, 9, 12, 13⟩ [] htb (fun z hz => absurd hz (List.not_mem_nil)) rfl (by decide) (hts (.classLink RL 13 "java/lang/IllegalArgumentException") (by decide +kernel)) (va_Nw.use rfl (hC.2.1 (.castable "java/lang/IllegalArgumentException" "java/lang/IllegalArgumentException") (by decide +kernel))) hq1 hq2 hq3 ?_
    refine lv_astore_n (lv' := [(3, .ref a9), (0, .ref (ad 0)), (1, .int u9), (2, .ref o9)]) hx hb dL_best_12 rfl hl (by decide) rfl (fun ls hl => ?_)
    refine lv_iconst (v := (nI 1)) hx hb dL_best_13 (by decide) ?_
    exact x_iret (G := G) hx hb hr rfl dL_best_14 hlocks hS (by first | exact Nat.le_of_ble_eq_true rfl | exact (show 0 + 8 ≤ 8 by omega)) (by first | exact Nat.le_of_ble_eq_true rfl | exact (show 0 + 60 ≤ 60 by omega)) (by exact lP1 0 hk9 (hX.kept hcx (fun _ _ => List.not_mem_nil)) (ho.kept (hcx.2 o9 hoz (List.not_mem_nil))))
  · have _ := hx
    obtain ⟨hk9, rfl, hX2⟩ := hp
    have had : ad 0 = ad 0 := rfl
    have ho2 : jA G o9 1 f0 H1 := ho.kept (hk o9 hoz (fun q => q.2 rfl))
    refine lv_i2l hx hb dL_best_7 rfl ?_
    refine x_jastn (G := G) (j := 0) hx hb hC hS hAo ho2 (by decide) (by decide) dL_best_8 (fun H2 locs ho3 hc3 hS => ?_)
    refine lv_goto (tgt := 15) hx hb dL_best_9 (by decide) ?_
    refine lv_iconst (v := (nI 0)) hx hb dL_best_15 (by decide) ?_
    exact x_iret (G := G) hx hb hr rfl dL_best_16 hlocks hS (by first | exact Nat.le_of_ble_eq_true rfl | exact (show 0 + 8 ≤ 8 by omega)) (by first | exact Nat.le_of_ble_eq_true rfl | exact (show 0 + 60 ≤ 60 by omega)) (by exact lP0 hk9 had (hX2.kept hc3 (hX2.ne hoE)) ho3 rfl)

set_option maxHeartbeats 1000000 in
set_option maxRecDepth 100000 in
/-- evolve, caught -/
theorem c_L_evolve (l : Launch) (hfl : l.stackTraces = false) (G : xG) (o9 : Nat) (ad : Nat → Nat) (S : zS) (f0 : Nat → Int64) (u9 : Int32) (H : Heap) (hX : XS (xGo G o9) ad S H) (hW : zW S) (ho : jA G o9 1 f0 H) (hAo : xA G o9) : lMet l G yL_evolve wsL_evolve ({ frames := 10, cells := 40, slots := 1000, locals := 378 } : Room) [.ref (ad 0), .int u9, .ref o9] H (lPost G o9 ad (kevolve S u9) ((zevolve S u9.toNatClampNeg).1) S ((zevolve S u9.toNatClampNeg).2)) := by
  refine vx_ofWH (cc := cL_evolve) (maxL := 4) (ret := (some .int)) (hh := [(0, 9, 12, 13), (0, 9, 15, 15)]) (by decide) rfl ?_
  intro Pg Ev s m args below meth c s₁ B hml hv
  obtain ⟨rfl, hH, hC, hN⟩ := hv
  have hx := B.exec
  have hb := B.bytes
  have hr := B.returns
  have hts := atoms_spec (ws := wsL_evolve) B.pre
  have hown : s.vm.findClass RL = some m.cls := findClass_of_methodNamed B.named
  have hlocks := B.notSynchronized
  have htb := vx_table (x := yL_evolve) B (hts (.codeWith yL_evolve cL_evolve 4 (some .int) [(0, 9, 12, 13), (0, 9, 15, 15)]) (by decide +kernel))
  rw [hH]
  have hS : va_S (xA G) s.heap H [] := by rw [← hH]; exact va_S.rf
  generalize ([] : List Loc) = locs at hS ⊢
  have hl := lv_entry [.ref (ad 0), .int u9, .ref o9] (n := 4) (Nat.le_of_ble_eq_true rfl)
  rw [lg_entry_eq]
  generalize (lg_sl [.ref (ad 0), .int u9, .ref o9] ++ List.replicate (4 - (lg_sl [.ref (ad 0), .int u9, .ref o9]).length) Slot.unset).toArray = ls at hl ⊢
  have hl : lv_has ls 4 [(0, .ref (ad 0)), (1, .int u9), (2, .ref o9)] := hl
  have hoE : o9 ≠ xE G := fun q => hC.xE (by rw [← q]; exact hAo)
  have hoz : o9 < H.size := ho.lt
  obtain ⟨fb, hfb, hx0⟩ := id hX.2.1
  refine lv_aload_n hx hb dL_evolve_0 rfl (lv_at hl 2 rfl) ?_
  refine lv_iconst (v := (nI 0)) hx hb dL_evolve_1 (by decide) ?_
  refine lv_aload_n hx hb dL_evolve_2 rfl (lv_at hl 0 rfl) ?_
  refine lv_iload_n hx hb dL_evolve_3 rfl (lv_at hl 1 rfl) ?_
  refine x_call (G1 := xGo G o9) (vx_runV (As := [.int u9]) (rest := [.int (nI 0), .ref o9]) ⟨hx, hb, hml, hown, hts⟩ (c_X4_evolve l hfl (xGo G o9) ad S u9 H hX hW) (cwV 1 hts gL_evolve_X4_evolve rfl rfl rfl (by decide +kernel) ⟨(Nat.le_of_ble_eq_true rfl), (Nat.le_of_ble_eq_true rfl)⟩) (lPreV hC hS (fun _ h => h.1) (fun q hq => ⟨hC.2.2.1 q (Nat.le_trans hS.1 hq), fun z => by omega⟩) hx0 (q := (RX4, TX4, 11)) rfl) rfl rfl hl.1 rfl (lv_room (Nat.le_of_ble_eq_true rfl)) dL_evolve_4 ⟨(by first | exact Nat.le_of_ble_eq_true rfl | exact (show 0 + 40 ≤ 40 by omega)), (by first | exact Nat.le_of_ble_eq_true rfl | exact (show 0 + 1000 ≤ 1000 by omega))⟩) hS (fun _ h => h.1) (fun E a9 ce H1 locs hp hz hk hS hq1 hq2 hq3 => ?_) (fun v H1 locs hp hz hk hS => ?_)
  · have _ := hx
    obtain ⟨hcs, hcx⟩ := lz2 hp
    rcases hcs with ⟨hk9, rfl⟩ | ⟨hk9, rfl⟩
    · have _ := hx
      refine vx_catch (own := RL) (name := "java/lang/IllegalArgumentException") hown [] ⟨0, 9, 12, 13⟩ [⟨0, 9, 15, 15⟩] htb (fun z hz => absurd hz (List.not_mem_nil)) rfl (by decide) (hts (.classLink RL 13 "java/lang/IllegalArgumentException") (by decide +kernel)) (va_Nw.use rfl (hC.2.1 (.castable "java/lang/IllegalArgumentException" "java/lang/IllegalArgumentException") (by decide +kernel))) hq1 hq2 hq3 ?_
      refine lv_astore_n (lv' := [(3, .ref a9), (0, .ref (ad 0)), (1, .int u9), (2, .ref o9)]) hx hb dL_evolve_12 rfl hl (by decide) rfl (fun ls hl => ?_)
      refine lv_iconst (v := (nI 1)) hx hb dL_evolve_13 (by decide) ?_
      exact x_iret (G := G) hx hb hr rfl dL_evolve_14 hlocks hS (by first | exact Nat.le_of_ble_eq_true rfl | exact (show 0 + 40 ≤ 40 by omega)) (by first | exact Nat.le_of_ble_eq_true rfl | exact (show 0 + 1000 ≤ 1000 by omega)) (by exact lP1 0 hk9 (hX.kept hcx (fun _ _ => List.not_mem_nil)) (ho.kept (hcx.2 o9 hoz (List.not_mem_nil))))
    · have _ := hx
      refine vx_catch (own := RL) (name := "java/lang/IllegalStateException") hown [⟨0, 9, 12, 13⟩] ⟨0, 9, 15, 15⟩ [] htb (fun z hz => by rcases List.mem_cons.mp hz with rfl | hz; exact Or.inr ⟨by decide, "java/lang/IllegalArgumentException", hts (.classLink RL 13 "java/lang/IllegalArgumentException") (by decide +kernel), hN ("java/lang/IllegalStateException", "java/lang/IllegalArgumentException") (by decide)⟩; cases hz) rfl (by decide) (hts (.classLink RL 15 "java/lang/IllegalStateException") (by decide +kernel)) (va_Nw.use rfl (hC.2.1 (.castable "java/lang/IllegalStateException" "java/lang/IllegalStateException") (by decide +kernel))) hq1 hq2 hq3 ?_
      refine lv_astore_n (lv' := [(3, .ref a9), (0, .ref (ad 0)), (1, .int u9), (2, .ref o9)]) hx hb dL_evolve_15 rfl hl (by decide) rfl (fun ls hl => ?_)
      refine lv_iconst (v := (nI 2)) hx hb dL_evolve_16 (by decide) ?_
      exact x_iret (G := G) hx hb hr rfl dL_evolve_17 hlocks hS (by first | exact Nat.le_of_ble_eq_true rfl | exact (show 0 + 40 ≤ 40 by omega)) (by first | exact Nat.le_of_ble_eq_true rfl | exact (show 0 + 1000 ≤ 1000 by omega)) (by exact lP1 1 hk9 (hX.kept hcx (fun _ _ => List.not_mem_nil)) (ho.kept (hcx.2 o9 hoz (List.not_mem_nil))))
  · have _ := hx
    obtain ⟨hk9, rfl, ad2, had, hX2⟩ := hp
    have ho2 : jA G o9 1 f0 H1 := ho.kept (hk o9 hoz (fun q => q.2 rfl))
    refine lv_i2l hx hb dL_evolve_7 rfl ?_
    refine x_jastn (G := G) (j := 0) hx hb hC hS hAo ho2 (by decide) (by decide) dL_evolve_8 (fun H2 locs ho3 hc3 hS => ?_)
    refine lv_goto (tgt := 18) hx hb dL_evolve_9 (by decide) ?_
    refine lv_iconst (v := (nI 0)) hx hb dL_evolve_18 (by decide) ?_
    exact x_iret (G := G) hx hb hr rfl dL_evolve_19 hlocks hS (by first | exact Nat.le_of_ble_eq_true rfl | exact (show 0 + 40 ≤ 40 by omega)) (by first | exact Nat.le_of_ble_eq_true rfl | exact (show 0 + 1000 ≤ 1000 by omega)) (by exact lP0 hk9 had (hX2.kept hc3 (hX2.ne hoE)) ho3 rfl)
