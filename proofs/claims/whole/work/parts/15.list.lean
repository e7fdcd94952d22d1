/-! ArrayList: its members -/
theorem x_post {l : Launch} {G : xG} {y : MethodName} {ws : List Cond} {rm : Room} {As : List Value} {H : Heap} {post post2 : Option Value → Heap → Prop} {px : String → Heap → Prop} (h : xMet l G y ws rm As H post px) (hp : ∀ v H1, post v H1 → post2 v H1) : xMet l G y ws rm As H post2 px := by
  intro p e ha hc hk s m args below hf happ hP hK
  obtain ⟨n, o, h1, h2, h3, h4⟩ := h p e ha hc hk s m args below hf happ hP hK
  refine ⟨n, o, h1, h2, h3, ?_⟩
  rcases h4 with ⟨⟨v, e1, e2, e3⟩, h5⟩ | h4
  · exact Or.inl ⟨⟨v, e1, hp _ _ e2, e3⟩, h5⟩
  · exact Or.inr h4
set_option maxHeartbeats 4000000 in
set_option maxRecDepth 100000 in
/-- AbstractCollection() -/
theorem c_Jxa1e45_init_da8c8 (l : Launch) (hfl : l.stackTraces = false) (G : xG) (r : Nat) (H : Heap) : xMet l G yJxa1e45_init_da8c8 wsJxa1e45_init_da8c8 ({ frames := 1, cells := 0, slots := 0, locals := 20 } : Room) [.ref r] H (xv H) (xNo) := by
  refine vx_ofW (cc := cJxa1e45_init_da8c8) (maxL := 1) (ret := none) (by decide) rfl ?_
  intro Pg Ev s m args below meth c s₁ B hml hout hv
  obtain ⟨rfl, hH, hC⟩ := hv
  have hx := B.exec
  have hb := B.bytes
  have hr := B.returns
  have hts := atoms_spec (ws := wsJxa1e45_init_da8c8) B.pre
  have hown : s.vm.findClass RJxa1e45 = some m.cls := findClass_of_methodNamed B.named
  have hlocks := B.notSynchronized
  have hin : meth.name = "<init>" := (name_of_methodNamed B.named B.method).1
  rw [hH]
  have hS : va_S (xA G) s.heap H [] := by rw [← hH]; exact va_S.rf
  generalize ([] : List Loc) = locs at hS ⊢
  have hl := lv_entry [.ref r] (n := 1) (Nat.le_of_ble_eq_true rfl)
  rw [lg_entry_eq]
  generalize (lg_sl [.ref r] ++ List.replicate (1 - (lg_sl [.ref r]).length) Slot.unset).toArray = ls at hl ⊢
  have hl : lv_has ls 1 [(0, .ref r)] := hl
  refine lv_aload_n hx hb dJxa1e45_init_da8c8_0 rfl (lv_at hl 0 rfl) ?_
  refine W.objInit hx hb hown (hts (.methodLink RJxa1e45 1 objectInit) (by decide +kernel)) (hts (.instanceMethod objectInit) (by decide +kernel)) (hts (.code objectInit ⟨#[0xb1]⟩ 1 none) (by decide +kernel)) rfl (by rw [hml]; exact hl.1) rfl dJxa1e45_init_da8c8_1 (Nat.le_of_ble_eq_true rfl) (Nat.le_of_ble_eq_true rfl) ?_
  refine W.eq (g2 := F0 m 4 ls []) rfl ?_
  exact x_vret (G := G) hx hb hr dJxa1e45_init_da8c8_4 hlocks hS (by first | exact Nat.le_of_ble_eq_true rfl | exact (show 0 ≤ 0 by omega)) (by first | exact Nat.le_of_ble_eq_true rfl | exact (show 0 ≤ 0 by omega)) ⟨rfl, rfl⟩

set_option maxHeartbeats 4000000 in
set_option maxRecDepth 100000 in
/-- AbstractList() -/
theorem c_Jxc12de_init_da8c8 (l : Launch) (hfl : l.stackTraces = false) (G : xG) (r : Nat) (H : Heap) (hr0 : oA G r 0 [.int 0, .null, .int 0] H) (hA_r : xA G r) : xMet l G yJxc12de_init_da8c8 wsJxc12de_init_da8c8 ({ frames := 2, cells := 0, slots := 0, locals := 40 } : Room) [.ref r] H (fun v H1 => v = none ∧ oA G r 0 [.int (nI 0), .null, .int 0] H1 ∧ xC [r] H H1) (xNo) := by
  refine vx_ofW (cc := cJxc12de_init_da8c8) (maxL := 1) (ret := none) (by decide) rfl ?_
  intro Pg Ev s m args below meth c s₁ B hml hout hv
  obtain ⟨rfl, hH, hC⟩ := hv
  have hx := B.exec
  have hb := B.bytes
  have hr := B.returns
  have hts := atoms_spec (ws := wsJxc12de_init_da8c8) B.pre
  have hown : s.vm.findClass RJxc12de = some m.cls := findClass_of_methodNamed B.named
  have hlocks := B.notSynchronized
  have hin : meth.name = "<init>" := (name_of_methodNamed B.named B.method).1
  rw [hH]
  have hS : va_S (xA G) s.heap H [] := by rw [← hH]; exact va_S.rf
  generalize ([] : List Loc) = locs at hS ⊢
  have hl := lv_entry [.ref r] (n := 1) (Nat.le_of_ble_eq_true rfl)
  rw [lg_entry_eq]
  generalize (lg_sl [.ref r] ++ List.replicate (1 - (lg_sl [.ref r]).length) Slot.unset).toArray = ls at hl ⊢
  have hl : lv_has ls 1 [(0, .ref r)] := hl
  refine lv_aload_n hx hb dJxc12de_init_da8c8_0 rfl (lv_at hl 0 rfl) ?_
  have hsz := hS.1
  refine x_call (px := xNo) (x_runOf (va_runI (b := r) (As := []) (rest := []) ⟨hx, hb, hml, hown, hts⟩ (x_met (c_Jxa1e45_init_da8c8 l hfl G r H)) (cwI 0 hts gJxc12de_init_da8c8_Jxa1e45_init_da8c8 rfl rfl rfl (hts (.initialized RJxa1e45) (by decide +kernel)) (hts (.methodLink RJxc12de 1 yJxa1e45_init_da8c8) (by decide +kernel)) (hts (.instanceMethod yJxa1e45_init_da8c8) (by decide +kernel)) rfl (by decide +kernel) ⟨(Nat.le_of_ble_eq_true rfl), (Nat.le_of_ble_eq_true rfl)⟩) (xPreS hC hS) rfl rfl hl.1 rfl (lv_room (Nat.le_of_ble_eq_true rfl)) dJxc12de_init_da8c8_1 ⟨(by first | exact Nat.le_of_ble_eq_true rfl | exact (show 0 + 0 ≤ 0 by omega)), (by first | exact Nat.le_of_ble_eq_true rfl | exact (show 0 + 0 ≤ 0 by omega))⟩)) hS (fun _ h => h) (fun _ _ _ _ _ h => False.elim h) (fun v H_1 locs hp hz hk_2 hS => ?_)
  obtain ⟨hq3, rfl⟩ := hp
  rw [hq3] at hS ⊢
  refine lv_aload_n hx hb dJxc12de_init_da8c8_4 rfl (lv_at hl 0 rfl) ?_
  refine lv_iconst (v := (nI 0)) hx hb dJxc12de_init_da8c8_5 (by decide) ?_
  refine x_put (G := G) (ci := 0) (v := .int (nI 0)) (ty := .int) (C := RJx4a65c) (T := TJx4a65c) (N := 3) hx hb hts (by decide +kernel) tyJx4a65c tyJx4a65c_ok nmJx4a65c hown hC hS hA_r hr0 rfl 0 (by decide) (hts (.fieldLink RJxc12de 7 "java/util/AbstractList" "modCount" "I") (by decide +kernel)) (fun _ h9 => h9) rfl (by decide +kernel) rfl rfl (Nat.le_of_ble_eq_true rfl) dJxc12de_init_da8c8_6 (fun H_5 locs hr0 hc_4 hS => ?_)
  have hr0 : oA G r 0 [.int (nI 0), .null, .int 0] H_5 := hr0
  have _ := hc_4.1
  exact x_vret (G := G) hx hb hr dJxc12de_init_da8c8_9 hlocks hS (by first | exact Nat.le_of_ble_eq_true rfl | exact (show 0 ≤ 0 by omega)) (by first | exact Nat.le_of_ble_eq_true rfl | exact (show 0 ≤ 0 by omega)) ⟨rfl, hr0, (hc_4.mono (fun q hq => by simp only [List.mem_append, List.mem_cons, List.not_mem_nil, or_false, false_or] at hq ⊢; omega))⟩

set_option maxHeartbeats 4000000 in
set_option maxRecDepth 100000 in
/-- ArrayList() -/
theorem c_Jx4a65c_init_da8c8 (l : Launch) (hfl : l.stackTraces = false) (G : xG) (r : Nat) (H : Heap) (hr0 : oA G r 0 [.int 0, .null, .int 0] H) (hA_r : xA G r) : xMet l G yJx4a65c_init_da8c8 wsJx4a65c_init_da8c8 ({ frames := 3, cells := 0, slots := 0, locals := 60 } : Room) [.ref r] H (fun v H1 => v = none ∧ oA G r 0 [.int (nI 0), .ref (xE G), .int 0] H1 ∧ xC [r] H H1) (xNo) := by
  refine vx_ofW (cc := cJx4a65c_init_da8c8) (maxL := 1) (ret := none) (by decide) rfl ?_
  intro Pg Ev s m args below meth c s₁ B hml hout hv
  obtain ⟨rfl, hH, hC⟩ := hv
  have hx := B.exec
  have hb := B.bytes
  have hr := B.returns
  have hts := atoms_spec (ws := wsJx4a65c_init_da8c8) B.pre
  have hown : s.vm.findClass RJx4a65c = some m.cls := findClass_of_methodNamed B.named
  have hlocks := B.notSynchronized
  have hin : meth.name = "<init>" := (name_of_methodNamed B.named B.method).1
  rw [hH]
  have hS : va_S (xA G) s.heap H [] := by rw [← hH]; exact va_S.rf
  generalize ([] : List Loc) = locs at hS ⊢
  have hl := lv_entry [.ref r] (n := 1) (Nat.le_of_ble_eq_true rfl)
  rw [lg_entry_eq]
  generalize (lg_sl [.ref r] ++ List.replicate (1 - (lg_sl [.ref r]).length) Slot.unset).toArray = ls at hl ⊢
  have hl : lv_has ls 1 [(0, .ref r)] := hl
  refine lv_aload_n hx hb dJx4a65c_init_da8c8_0 rfl (lv_at hl 0 rfl) ?_
  have hsz := hS.1
  refine x_call (px := xNo) (x_runOf (va_runI (b := r) (As := []) (rest := []) ⟨hx, hb, hml, hown, hts⟩ (x_met (c_Jxc12de_init_da8c8 l hfl G r H hr0 hA_r)) (cwI 0 hts gJx4a65c_init_da8c8_Jxc12de_init_da8c8 rfl rfl rfl (hts (.initialized RJxc12de) (by decide +kernel)) (hts (.methodLink RJx4a65c 1 yJxc12de_init_da8c8) (by decide +kernel)) (hts (.instanceMethod yJxc12de_init_da8c8) (by decide +kernel)) rfl (by decide +kernel) ⟨(Nat.le_of_ble_eq_true rfl), (Nat.le_of_ble_eq_true rfl)⟩) (xPreS hC hS) rfl rfl hl.1 rfl (lv_room (Nat.le_of_ble_eq_true rfl)) dJx4a65c_init_da8c8_1 ⟨(by first | exact Nat.le_of_ble_eq_true rfl | exact (show 0 + 0 ≤ 0 by omega)), (by first | exact Nat.le_of_ble_eq_true rfl | exact (show 0 + 0 ≤ 0 by omega))⟩)) hS (fun _ h => h) (fun _ _ _ _ _ h => False.elim h) (fun v H_1 locs hp hz hk_2 hS => ?_)
  obtain ⟨rfl, hn3, hc3⟩ := hp
  refine lv_aload_n hx hb dJx4a65c_init_da8c8_4 rfl (lv_at hl 0 rfl) ?_
  refine va_gets hx hb hC.2.2.2.2.2.2.1 hS hown (hts (.fieldLink RJx4a65c 39 "java/util/ArrayList" "DEFAULTCAPACITY_EMPTY_ELEMENTDATA" "[Ljava/lang/Object;") (by decide +kernel)) (fun _ h9 => h9) dJx4a65c_init_da8c8_5 ?_
  refine x_put (G := G) (ci := 0) (v := .ref (xE G)) (ty := (.array (.object "java/lang/Object"))) (C := RJx4a65c) (T := TJx4a65c) (N := 3) hx hb hts (by decide +kernel) tyJx4a65c tyJx4a65c_ok nmJx4a65c hown hC hS hA_r hn3 rfl 1 (by decide) (hts (.fieldLink RJx4a65c 9 "java/util/ArrayList" "elementData" "[Ljava/lang/Object;") (by decide +kernel)) (fun _ h9 => h9) rfl (by decide +kernel) rfl rfl (Nat.le_of_ble_eq_true rfl) dJx4a65c_init_da8c8_8 (fun H_5 locs hn3 hc_4 hS => ?_)
  have hn3 : oA G r 0 [.int (nI 0), .ref (xE G), .int 0] H_5 := hn3
  have _ := hc3.1
  have _ := hc_4.1
  exact x_vret (G := G) hx hb hr dJx4a65c_init_da8c8_11 hlocks hS (by first | exact Nat.le_of_ble_eq_true rfl | exact (show 0 ≤ 0 by omega)) (by first | exact Nat.le_of_ble_eq_true rfl | exact (show 0 ≤ 0 by omega)) ⟨rfl, hn3, ((hc3.tr hc_4).mono (fun q hq => by simp only [List.mem_append, List.mem_cons, List.not_mem_nil, or_false, false_or] at hq ⊢; omega))⟩

set_option maxHeartbeats 4000000 in
set_option maxRecDepth 100000 in
/-- size() -/
theorem c_Jx4a65c_size_8abf5 (l : Launch) (hfl : l.stackTraces = false) (G : xG) (li el n : Nat) (m9 : Int32) (H : Heap) (hl0 : oA G li 0 [.int m9, .ref el, .int (nI n)] H) : xMet l G yJx4a65c_size_8abf5 wsJx4a65c_size_8abf5 ({ frames := 0, cells := 0, slots := 0, locals := 0 } : Room) [.ref li] H (xi H (nI n)) (xNo) := by
  refine vx_ofW (cc := cJx4a65c_size_8abf5) (maxL := 1) (ret := (some .int)) (by decide) rfl ?_
  intro Pg Ev s m args below meth c s₁ B hml hout hv
  obtain ⟨rfl, hH, hC⟩ := hv
  have hx := B.exec
  have hb := B.bytes
  have hr := B.returns
  have hts := atoms_spec (ws := wsJx4a65c_size_8abf5) B.pre
  have hown : s.vm.findClass RJx4a65c = some m.cls := findClass_of_methodNamed B.named
  have hlocks := B.notSynchronized
  rw [hH]
  have hS : va_S (xA G) s.heap H [] := by rw [← hH]; exact va_S.rf
  generalize ([] : List Loc) = locs at hS ⊢
  have hl := lv_entry [.ref li] (n := 1) (Nat.le_of_ble_eq_true rfl)
  rw [lg_entry_eq]
  generalize (lg_sl [.ref li] ++ List.replicate (1 - (lg_sl [.ref li]).length) Slot.unset).toArray = ls at hl ⊢
  have hl : lv_has ls 1 [(0, .ref li)] := hl
  refine lv_aload_n hx hb dJx4a65c_size_8abf5_0 rfl (lv_at hl 0 rfl) ?_
  refine va_get (D := xD G) (ci := 0) (v := .int (nI n)) (C := RJx4a65c) (T := TJx4a65c) (N := 3) hx hb hts (by decide +kernel) hown hC.1 (x1 hl0) 0 rfl rfl 2 (by decide) (hts (.fieldLink RJx4a65c 48 "java/util/ArrayList" "size" "I") (by decide +kernel)) (fun _ h9 => h9) rfl dJx4a65c_size_8abf5_1 ?_
  exact x_iret (G := G) hx hb hr rfl dJx4a65c_size_8abf5_4 hlocks hS (by first | exact Nat.le_of_ble_eq_true rfl | exact (show 0 ≤ 0 by omega)) (by first | exact Nat.le_of_ble_eq_true rfl | exact (show 0 ≤ 0 by omega)) ⟨rfl, rfl⟩

set_option maxHeartbeats 4000000 in
set_option maxRecDepth 100000 in
/-- Preconditions.checkIndex -/
theorem c_J3_checkIndex_8e157 (l : Launch) (hfl : l.stackTraces = false) (G : xG) (i n : Nat) (H : Heap) (hi : i < n) (hn : n < 2147483648) : xMet l G yJ3_checkIndex_8e157 wsJ3_checkIndex_8e157 ({ frames := 0, cells := 0, slots := 0, locals := 0 } : Room) [.int (nI i), .int (nI n), .null] H (xi H (nI i)) (xNo) := by
  refine vx_ofW (cc := cJ3_checkIndex_8e157) (maxL := 3) (ret := (some .int)) (by decide) rfl ?_
  intro Pg Ev s m args below meth c s₁ B hml hout hv
  obtain ⟨rfl, hH, hC⟩ := hv
  have hx := B.exec
  have hb := B.bytes
  have hr := B.returns
  have hts := atoms_spec (ws := wsJ3_checkIndex_8e157) B.pre
  have hown : s.vm.findClass RJ3 = some m.cls := findClass_of_methodNamed B.named
  have hlocks := B.notSynchronized
  rw [hH]
  have hS : va_S (xA G) s.heap H [] := by rw [← hH]; exact va_S.rf
  generalize ([] : List Loc) = locs at hS ⊢
  have hl := lv_entry [.int (nI i), .int (nI n), .null] (n := 3) (Nat.le_of_ble_eq_true rfl)
  rw [lg_entry_eq]
  generalize (lg_sl [.int (nI i), .int (nI n), .null] ++ List.replicate (3 - (lg_sl [.int (nI i), .int (nI n), .null]).length) Slot.unset).toArray = ls at hl ⊢
  have hl : lv_has ls 3 [(0, .int (nI i)), (1, .int (nI n)), (2, .null)] := hl
  refine lv_iload_n hx hb dJ3_checkIndex_8e157_0 rfl (lv_at hl 0 rfl) ?_
  refine lv_if_lt (tgt := 9) hx hb dJ3_checkIndex_8e157_1 (by decide) (fun c_1 => ?_) (fun c_1 => ?_)
  · have _ := hx
    have c_1 : i < 0 := (nI_ltI (a := i) (b := 0) (by omega) (by omega)).mp c_1
    exact absurd c_1 (by omega)
  · have _ := hx
    have c_1 : ¬ (i < 0) := fun z => c_1 ((nI_ltI (a := i) (b := 0) (by omega) (by omega)).mpr z)
    refine lv_iload_n hx hb dJ3_checkIndex_8e157_4 rfl (lv_at hl 0 rfl) ?_
    refine lv_iload_n hx hb dJ3_checkIndex_8e157_5 rfl (lv_at hl 1 rfl) ?_
    refine lv_icmp_lt (tgt := 16) hx hb dJ3_checkIndex_8e157_6 (by decide) (fun c_2 => ?_) (fun c_2 => ?_)
    · have _ := hx
      have c_2 : i < n := (nI_ltI (a := i) (b := n) (by omega) (by omega)).mp c_2
      refine lv_iload_n hx hb dJ3_checkIndex_8e157_16 rfl (lv_at hl 0 rfl) ?_
      exact x_iret (G := G) hx hb hr rfl dJ3_checkIndex_8e157_17 hlocks hS (by first | exact Nat.le_of_ble_eq_true rfl | exact (show 0 ≤ 0 by omega)) (by first | exact Nat.le_of_ble_eq_true rfl | exact (show 0 ≤ 0 by omega)) ⟨rfl, rfl⟩
    · have _ := hx
      have c_2 : ¬ (i < n) := fun z => c_2 ((nI_ltI (a := i) (b := n) (by omega) (by omega)).mpr z)
      exact absurd c_2 (by omega)

set_option maxHeartbeats 4000000 in
set_option maxRecDepth 100000 in
/-- Objects.checkIndex -/
theorem c_J15_checkIndex_7cf53 (l : Launch) (hfl : l.stackTraces = false) (G : xG) (i n : Nat) (H : Heap) (hi : i < n) (hn : n < 2147483648) : xMet l G yJ15_checkIndex_7cf53 wsJ15_checkIndex_7cf53 ({ frames := 1, cells := 0, slots := 0, locals := 22 } : Room) [.int (nI i), .int (nI n)] H (xi H (nI i)) (xNo) := by
  refine vx_ofW (cc := cJ15_checkIndex_7cf53) (maxL := 2) (ret := (some .int)) (by decide) rfl ?_
  intro Pg Ev s m args below meth c s₁ B hml hout hv
  obtain ⟨rfl, hH, hC⟩ := hv
  have hx := B.exec
  have hb := B.bytes
  have hr := B.returns
  have hts := atoms_spec (ws := wsJ15_checkIndex_7cf53) B.pre
  have hown : s.vm.findClass RJ15 = some m.cls := findClass_of_methodNamed B.named
  have hlocks := B.notSynchronized
  rw [hH]
  have hS : va_S (xA G) s.heap H [] := by rw [← hH]; exact va_S.rf
  generalize ([] : List Loc) = locs at hS ⊢
  have hl := lv_entry [.int (nI i), .int (nI n)] (n := 2) (Nat.le_of_ble_eq_true rfl)
  rw [lg_entry_eq]
  generalize (lg_sl [.int (nI i), .int (nI n)] ++ List.replicate (2 - (lg_sl [.int (nI i), .int (nI n)]).length) Slot.unset).toArray = ls at hl ⊢
  have hl : lv_has ls 2 [(0, .int (nI i)), (1, .int (nI n))] := hl
  refine lv_iload_n hx hb dJ15_checkIndex_7cf53_0 rfl (lv_at hl 0 rfl) ?_
  refine lv_iload_n hx hb dJ15_checkIndex_7cf53_1 rfl (lv_at hl 1 rfl) ?_
  refine lv_null hx hb dJ15_checkIndex_7cf53_2 ?_
  refine x_intE (vx_runS (As := [.int (nI i), .int (nI n), .null]) (rest := []) ⟨hx, hb, hml, hown, hts⟩ (c_J3_checkIndex_8e157 l hfl G i n H hi hn) (va_cwS 3 hts gJ15_checkIndex_7cf53_J3_checkIndex_8e157 rfl rfl rfl (by decide +kernel) ⟨(Nat.le_of_ble_eq_true rfl), (Nat.le_of_ble_eq_true rfl)⟩) (xPreS hC hS) rfl rfl hl.1 rfl (lv_room (Nat.le_of_ble_eq_true rfl)) dJ15_checkIndex_7cf53_3 ⟨(by first | exact Nat.le_of_ble_eq_true rfl | exact (show 0 + 0 ≤ 0 by omega)), (by first | exact Nat.le_of_ble_eq_true rfl | exact (show 0 + 0 ≤ 0 by omega))⟩) hS (fun locs hS => ?_)
  exact x_iret (G := G) hx hb hr rfl dJ15_checkIndex_7cf53_6 hlocks hS (by first | exact Nat.le_of_ble_eq_true rfl | exact (show 0 ≤ 0 by omega)) (by first | exact Nat.le_of_ble_eq_true rfl | exact (show 0 ≤ 0 by omega)) ⟨rfl, rfl⟩

set_option maxHeartbeats 4000000 in
set_option maxRecDepth 100000 in
/-- elementData(i) -/
theorem c_Jx4a65c_elementData_915e3 (l : Launch) (hfl : l.stackTraces = false) (G : xG) (li el n k9 i y : Nat) (m9 : Int32) (a : Nat → Option Nat) (H : Heap) (hl0 : oA G li 0 [.int m9, .ref el, .int (nI n)] H) (he0 : qA G el k9 a H) (hi : i < n) (hn : n ≤ k9) (hk9 : k9 ≤ 1000) (hy : a i = some y) : xMet l G yJx4a65c_elementData_915e3 wsJx4a65c_elementData_915e3 ({ frames := 0, cells := 0, slots := 0, locals := 0 } : Room) [.ref li, .int (nI i)] H (xr H y) (xNo) := by
  refine vx_ofW (cc := cJx4a65c_elementData_915e3) (maxL := 2) (ret := (some (.object "java/lang/Object"))) (by decide) rfl ?_
  intro Pg Ev s m args below meth c s₁ B hml hout hv
  obtain ⟨rfl, hH, hC⟩ := hv
  have hx := B.exec
  have hb := B.bytes
  have hr := B.returns
  have hts := atoms_spec (ws := wsJx4a65c_elementData_915e3) B.pre
  have hown : s.vm.findClass RJx4a65c = some m.cls := findClass_of_methodNamed B.named
  have hlocks := B.notSynchronized
  rw [hH]
  have hS : va_S (xA G) s.heap H [] := by rw [← hH]; exact va_S.rf
  generalize ([] : List Loc) = locs at hS ⊢
  have hl := lv_entry [.ref li, .int (nI i)] (n := 2) (Nat.le_of_ble_eq_true rfl)
  rw [lg_entry_eq]
  generalize (lg_sl [.ref li, .int (nI i)] ++ List.replicate (2 - (lg_sl [.ref li, .int (nI i)]).length) Slot.unset).toArray = ls at hl ⊢
  have hl : lv_has ls 2 [(0, .ref li), (1, .int (nI i))] := hl
  refine lv_aload_n hx hb dJx4a65c_elementData_915e3_0 rfl (lv_at hl 0 rfl) ?_
  refine va_get (D := xD G) (ci := 0) (v := .ref el) (C := RJx4a65c) (T := TJx4a65c) (N := 3) hx hb hts (by decide +kernel) hown hC.1 (x1 hl0) 0 rfl rfl 1 (by decide) (hts (.fieldLink RJx4a65c 9 "java/util/ArrayList" "elementData" "[Ljava/lang/Object;") (by decide +kernel)) (fun _ h9 => h9) rfl dJx4a65c_elementData_915e3_1 ?_
  refine lv_iload_n hx hb dJx4a65c_elementData_915e3_4 rfl (lv_at hl 1 rfl) ?_
  refine x_aldq (G := G) (j := i) (y := y) hx hb hC he0 (by omega) (by omega) hy dJx4a65c_elementData_915e3_5 ?_
  exact x_aret (G := G) hx hb hr (Or.inl ⟨_, rfl⟩) dJx4a65c_elementData_915e3_6 hlocks hS (by first | exact Nat.le_of_ble_eq_true rfl | exact (show 0 ≤ 0 by omega)) (by first | exact Nat.le_of_ble_eq_true rfl | exact (show 0 ≤ 0 by omega)) ⟨rfl, rfl⟩

set_option maxHeartbeats 4000000 in
set_option maxRecDepth 100000 in
/-- get(i) -/
theorem c_Jx4a65c_get_915e3 (l : Launch) (hfl : l.stackTraces = false) (G : xG) (li el n k9 i y : Nat) (m9 : Int32) (a : Nat → Option Nat) (H : Heap) (hl0 : oA G li 0 [.int m9, .ref el, .int (nI n)] H) (he0 : qA G el k9 a H) (hi : i < n) (hn : n ≤ k9) (hk9 : k9 ≤ 1000) (hy : a i = some y) : xMet l G yJx4a65c_get_915e3 wsJx4a65c_get_915e3 ({ frames := 2, cells := 0, slots := 0, locals := 43 } : Room) [.ref li, .int (nI i)] H (xr H y) (xNo) := by
  refine vx_ofW (cc := cJx4a65c_get_915e3) (maxL := 2) (ret := (some (.object "java/lang/Object"))) (by decide) rfl ?_
  intro Pg Ev s m args below meth c s₁ B hml hout hv
  obtain ⟨rfl, hH, hC⟩ := hv
  have hx := B.exec
  have hb := B.bytes
  have hr := B.returns
  have hts := atoms_spec (ws := wsJx4a65c_get_915e3) B.pre
  have hown : s.vm.findClass RJx4a65c = some m.cls := findClass_of_methodNamed B.named
  have hlocks := B.notSynchronized
  rw [hH]
  have hS : va_S (xA G) s.heap H [] := by rw [← hH]; exact va_S.rf
  generalize ([] : List Loc) = locs at hS ⊢
  have hl := lv_entry [.ref li, .int (nI i)] (n := 2) (Nat.le_of_ble_eq_true rfl)
  rw [lg_entry_eq]
  generalize (lg_sl [.ref li, .int (nI i)] ++ List.replicate (2 - (lg_sl [.ref li, .int (nI i)]).length) Slot.unset).toArray = ls at hl ⊢
  have hl : lv_has ls 2 [(0, .ref li), (1, .int (nI i))] := hl
  refine lv_iload_n hx hb dJx4a65c_get_915e3_0 rfl (lv_at hl 1 rfl) ?_
  refine lv_aload_n hx hb dJx4a65c_get_915e3_1 rfl (lv_at hl 0 rfl) ?_
  refine va_get (D := xD G) (ci := 0) (v := .int (nI n)) (C := RJx4a65c) (T := TJx4a65c) (N := 3) hx hb hts (by decide +kernel) hown hC.1 (x1 hl0) 0 rfl rfl 2 (by decide) (hts (.fieldLink RJx4a65c 48 "java/util/ArrayList" "size" "I") (by decide +kernel)) (fun _ h9 => h9) rfl dJx4a65c_get_915e3_2 ?_
  refine x_intE (vx_runS (As := [.int (nI i), .int (nI n)]) (rest := []) ⟨hx, hb, hml, hown, hts⟩ (c_J15_checkIndex_7cf53 l hfl G i n H hi (by omega)) (va_cwS 2 hts gJx4a65c_get_915e3_J15_checkIndex_7cf53 rfl rfl rfl (by decide +kernel) ⟨(Nat.le_of_ble_eq_true rfl), (Nat.le_of_ble_eq_true rfl)⟩) (xPreS hC hS) rfl rfl hl.1 rfl (lv_room (Nat.le_of_ble_eq_true rfl)) dJx4a65c_get_915e3_5 ⟨(by first | exact Nat.le_of_ble_eq_true rfl | exact (show 0 + 0 ≤ 0 by omega)), (by first | exact Nat.le_of_ble_eq_true rfl | exact (show 0 + 0 ≤ 0 by omega))⟩) hS (fun locs hS => ?_)
  refine lv_pop hx hb dJx4a65c_get_915e3_8 rfl ?_
  refine lv_aload_n hx hb dJx4a65c_get_915e3_9 rfl (lv_at hl 0 rfl) ?_
  refine lv_iload_n hx hb dJx4a65c_get_915e3_10 rfl (lv_at hl 1 rfl) ?_
  refine x_refE (vx_runV (As := [.int (nI i)]) (rest := []) ⟨hx, hb, hml, hown, hts⟩ (c_Jx4a65c_elementData_915e3 l hfl G li el n k9 i y m9 a H hl0 he0 hi hn hk9 hy) (cwV 1 hts gJx4a65c_get_915e3_Jx4a65c_elementData_915e3 rfl rfl rfl (by decide +kernel) ⟨(Nat.le_of_ble_eq_true rfl), (Nat.le_of_ble_eq_true rfl)⟩) (xPreV hC hS hl0 (q := (RJx4a65c, TJx4a65c, 3)) rfl) rfl rfl hl.1 rfl (lv_room (Nat.le_of_ble_eq_true rfl)) dJx4a65c_get_915e3_11 ⟨(by first | exact Nat.le_of_ble_eq_true rfl | exact (show 0 + 0 ≤ 0 by omega)), (by first | exact Nat.le_of_ble_eq_true rfl | exact (show 0 + 0 ≤ 0 by omega))⟩) hS (fun locs hS => ?_)
  exact x_aret (G := G) hx hb hr (Or.inl ⟨_, rfl⟩) dJx4a65c_get_915e3_14 hlocks hS (by first | exact Nat.le_of_ble_eq_true rfl | exact (show 0 ≤ 0 by omega)) (by first | exact Nat.le_of_ble_eq_true rfl | exact (show 0 ≤ 0 by omega)) ⟨rfl, rfl⟩

set_option maxHeartbeats 4000000 in
set_option maxRecDepth 100000 in
/-- Arrays.copyOf(row, n2, its class) -/
theorem c_J7_copyOf_6403c (l : Launch) (hfl : l.stackTraces = false) (G : xG) (el n n2 : Nat) (a : Nat → Option Nat) (H : Heap) (he0 : qA G el n a H) (hA_el : xA G el) (hel : ∀ i : Nat, i < n → ∀ y : Nat, a i = some y → ∃ fs, oA G y 4 fs H) (hn : n ≤ n2) (hn2 : n2 ≤ 60) : xMet l G yJ7_copyOf_6403c wsJ7_copyOf_6403c ({ frames := 1, cells := 1, slots := 60, locals := 60 } : Room) [.ref el, .int (nI n2), .ref (xM G)] H (fun v H1 => ∃ q, H.size ≤ q ∧ v = some (.ref q) ∧ qA G q n2 (va_cpy a (fun _ => none) 0 0 n) H1 ∧ xC [] H H1) (xNo) := by
  refine vx_ofW (cc := cJ7_copyOf_6403c) (maxL := 4) (ret := (some (.array (.object "java/lang/Object")))) (by decide) rfl ?_
  intro Pg Ev s m args below meth c s₁ B hml hout hv
  obtain ⟨rfl, hH, hC⟩ := hv
  have hx := B.exec
  have hb := B.bytes
  have hr := B.returns
  have hts := atoms_spec (ws := wsJ7_copyOf_6403c) B.pre
  have hown : s.vm.findClass RJ7 = some m.cls := findClass_of_methodNamed B.named
  have hlocks := B.notSynchronized
  rw [hH]
  have hS : va_S (xA G) s.heap H [] := by rw [← hH]; exact va_S.rf
  have hl := lv_entry [.ref el, .int (nI n2), .ref (xM G)] (n := 4) (Nat.le_of_ble_eq_true rfl)
  rw [lg_entry_eq]
  generalize (lg_sl [.ref el, .int (nI n2), .ref (xM G)] ++ List.replicate (4 - (lg_sl [.ref el, .int (nI n2), .ref (xM G)]).length) Slot.unset).toArray = ls at hl ⊢
  have hl : lv_has ls 4 [(0, .ref el), (1, .int (nI n2)), (2, .ref (xM G))] := hl
  refine lv_aload_n hx hb dJ7_copyOf_6403c_0 rfl (lv_at hl 2 rfl) ?_
  refine va_ldcM hx hb hown (hts (.classLink RJ7 110 "[Ljava/lang/Object;") (by decide +kernel)) hC.2.2.2.2.2.2.2.2.1 dJ7_copyOf_6403c_1 ?_
  refine lv_acmp_ne (rx := some (xM G)) (ry := some (xM G)) (tgt := 13) hx hb dJ7_copyOf_6403c_3 (by decide) (fun c_1 => ?_) (fun c_1 => ?_)
  · have _ := hx
    exact absurd rfl c_1
  · have _ := hx
    refine lv_iload_n hx hb dJ7_copyOf_6403c_6 rfl (lv_at hl 1 rfl) ?_
    have hsz := hS.1
    refine x_newO (G := G) (n := n2) hx hb hown (hts (.classLink RJ7 2 "java/lang/Object") (by decide +kernel)) hC hS (by omega) (by first | exact Nat.le_of_ble_eq_true rfl | exact (show 0 + 1 ≤ 1 by omega)) (by first | exact Nat.le_of_ble_eq_true rfl | exact (show 0 + n2 ≤ 60 by omega)) dJ7_copyOf_6403c_7 (fun q_2 H_7 eq_5 ha_3 hc_4 hz_6 hS => ?_)
    have hA_q_2 : xA G q_2 := hC.2.2.1 _ (by rw [eq_5]; exact hsz)
    have ne_8 : el ≠ q_2 := xlt he0 eq_5
    have he0 := hc_4.at0 he0
    refine lv_goto (tgt := 24) hx hb dJ7_copyOf_6403c_10 (by decide) ?_
    refine lv_astore_n (lv' := [(3, .ref q_2), (0, .ref el), (1, .int (nI n2)), (2, .ref (xM G))]) hx hb dJ7_copyOf_6403c_24 rfl hl (by decide) rfl (fun ls hl => ?_)
    refine lv_aload_n hx hb dJ7_copyOf_6403c_25 rfl (lv_at hl 1 rfl) ?_
    refine lv_iconst (v := (nI 0)) hx hb dJ7_copyOf_6403c_26 (by decide) ?_
    refine lv_aload_n hx hb dJ7_copyOf_6403c_27 rfl (lv_at hl 0 rfl) ?_
    refine lv_iconst (v := (nI 0)) hx hb dJ7_copyOf_6403c_28 (by decide) ?_
    refine lv_aload_n hx hb dJ7_copyOf_6403c_29 rfl (lv_at hl 1 rfl) ?_
    refine va_alen (D := xD G) (v := (nI n)) hx hb hC.1 (x1 he0) 0 2 rfl rfl rfl dJ7_copyOf_6403c_30 ?_
    refine lv_iload_n hx hb dJ7_copyOf_6403c_31 rfl (lv_at hl 2 rfl) ?_
    refine va_mmin hx hb (by rw [hml]; exact hl.1.symm) hown (hts (.methodLink RJ7 304 Lib.Math.min.name) (by decide +kernel)) (hts (.static Lib.Math.min.name) (by decide +kernel)) (hts (.initialized "java/lang/Math") (by decide +kernel)) (hts (.code Lib.Math.min.name Lib.Math.min.code 2 (some .int)) (by decide +kernel)) (Nat.le_of_ble_eq_true rfl) (Nat.le_of_ble_eq_true rfl) (by first | exact Nat.le_of_ble_eq_true rfl | exact (show 0 + 1 ≤ 1 by omega)) (by first | exact Nat.le_of_ble_eq_true rfl | exact (show 0 + n2 ≤ 60 by omega)) dJ7_copyOf_6403c_32 ?_
    rw [show (if (nI n2) < (nI n) then (nI n2) else (nI n)) = (nI n) from if_neg (nI_nlt (by omega) (by omega))]
    refine x_copyq (n := n) hx hb (by rw [hml]; exact hl.1.symm) hown (hts (.methodLink RJ7 150 arraycopyName) (by decide +kernel)) (hts (.native arraycopyName) (by decide +kernel)) (hts (.static arraycopyName) (by decide +kernel)) (hts (.initialized "java/lang/System") (by decide +kernel)) hC hS he0 ha_3 ne_8 hA_el hA_q_2 (by omega) (by omega) (by omega) (fun i hi y hy => by obtain ⟨fs, hfs⟩ := hel i hi y hy; exact ⟨fs, hc_4.at0 hfs⟩) (Nat.le_of_ble_eq_true rfl) (by decide) dJ7_copyOf_6403c_35 (fun H_10 locs ha_3 hc_9 hS => ?_)
    have he0 := hc_9.at he0 (xn1 ne_8)
    refine lv_aload_n hx hb dJ7_copyOf_6403c_38 rfl (lv_at hl 0 rfl) ?_
    have _ := hc_4.1
    have _ := hc_9.1
    exact x_aret (G := G) hx hb hr (Or.inr ⟨_, rfl⟩) dJ7_copyOf_6403c_39 hlocks hS (by first | exact Nat.le_of_ble_eq_true rfl | exact (show 0 + 1 ≤ 1 by omega)) (by first | exact Nat.le_of_ble_eq_true rfl | exact (show 0 + n2 ≤ 60 by omega)) ⟨q_2, by omega, rfl, ha_3, ((hc_4.tr hc_9).mono (fun q hq => by simp only [List.mem_append, List.mem_cons, List.not_mem_nil, or_false, false_or] at hq ⊢; omega))⟩

theorem xrecQ {G : xG} {s : State} {H : Heap} {a n : Nat} {f : Nat → Option Nat} (hC : xCx G s) (h : qA G a n f H) : ∃ cell : Cell, H[a]? = some cell ∧ cell.vm.isStatics = false ∧ s.vm.findClass "[Ljava/lang/Object;" = some cell.cls :=
  ⟨_, h, rfl, va_nmO (hC.1.2 2 _ rfl).2 (by decide +kernel)⟩
set_option maxHeartbeats 4000000 in
set_option maxRecDepth 100000 in
/-- Arrays.copyOf(row, n2) -/
theorem c_J7_copyOf_1904c (l : Launch) (hfl : l.stackTraces = false) (G : xG) (el n n2 : Nat) (a : Nat → Option Nat) (H : Heap) (he0 : qA G el n a H) (hA_el : xA G el) (hel : ∀ i : Nat, i < n → ∀ y : Nat, a i = some y → ∃ fs, oA G y 4 fs H) (hn : n ≤ n2) (hn2 : n2 ≤ 60) : xMet l G yJ7_copyOf_1904c wsJ7_copyOf_1904c ({ frames := 2, cells := 1, slots := 60, locals := 83 } : Room) [.ref el, .int (nI n2)] H (fun v H1 => ∃ q, H.size ≤ q ∧ v = some (.ref q) ∧ qA G q n2 (va_cpy a (fun _ => none) 0 0 n) H1 ∧ xC [] H H1) (xNo) := by
  refine vx_ofW (cc := cJ7_copyOf_1904c) (maxL := 2) (ret := (some (.array (.object "java/lang/Object")))) (by decide) rfl ?_
  intro Pg Ev s m args below meth c s₁ B hml hout hv
  obtain ⟨rfl, hH, hC⟩ := hv
  have hx := B.exec
  have hb := B.bytes
  have hr := B.returns
  have hts := atoms_spec (ws := wsJ7_copyOf_1904c) B.pre
  have hown : s.vm.findClass RJ7 = some m.cls := findClass_of_methodNamed B.named
  have hlocks := B.notSynchronized
  rw [hH]
  have hS : va_S (xA G) s.heap H [] := by rw [← hH]; exact va_S.rf
  generalize ([] : List Loc) = locs at hS ⊢
  have hl := lv_entry [.ref el, .int (nI n2)] (n := 2) (Nat.le_of_ble_eq_true rfl)
  rw [lg_entry_eq]
  generalize (lg_sl [.ref el, .int (nI n2)] ++ List.replicate (2 - (lg_sl [.ref el, .int (nI n2)]).length) Slot.unset).toArray = ls at hl ⊢
  have hl : lv_has ls 2 [(0, .ref el), (1, .int (nI n2))] := hl
  refine lv_aload_n hx hb dJ7_copyOf_1904c_0 rfl (lv_at hl 0 rfl) ?_
  refine lv_iload_n hx hb dJ7_copyOf_1904c_1 rfl (lv_at hl 1 rfl) ?_
  refine lv_aload_n hx hb dJ7_copyOf_1904c_2 rfl (lv_at hl 0 rfl) ?_
  refine va_getC (C := "[Ljava/lang/Object;") hx hb (by rw [hml]; exact hl.1.symm) hown (hts (.methodLink RJ7 86 ⟨"java/lang/Object", "getClass", "()Ljava/lang/Class;"⟩) (by decide +kernel)) (va_Dc.use hC.2.2.2.2.2.2.2.2.2.1) (hts (.selects "[Ljava/lang/Object;" ⟨"java/lang/Object", "getClass", "()Ljava/lang/Class;"⟩ ⟨"java/lang/Object", "getClass", "()Ljava/lang/Class;"⟩) (by decide +kernel)) (hts (.instanceMethod ⟨"java/lang/Object", "getClass", "()Ljava/lang/Class;"⟩) (by decide +kernel)) (hts (.native ⟨"java/lang/Object", "getClass", "()Ljava/lang/Class;"⟩) (by decide +kernel)) hC.2.2.2.2.2.2.2.2.1 (xrecQ hC he0) (Nat.le_of_ble_eq_true rfl) (Nat.le_of_ble_eq_true rfl) dJ7_copyOf_1904c_3 ?_
  have hsz := hS.1
  refine x_call (px := xNo) (vx_runS (As := [.ref el, .int (nI n2), .ref (xM G)]) (rest := []) ⟨hx, hb, hml, hown, hts⟩ (c_J7_copyOf_6403c l hfl G el n n2 a H he0 hA_el hel hn hn2) (va_cwS 3 hts gJ7_copyOf_1904c_J7_copyOf_6403c rfl rfl rfl (by decide +kernel) ⟨(Nat.le_of_ble_eq_true rfl), (Nat.le_of_ble_eq_true rfl)⟩) (xPreS hC hS) rfl rfl hl.1 rfl (lv_room (Nat.le_of_ble_eq_true rfl)) dJ7_copyOf_1904c_6 ⟨(by first | exact Nat.le_of_ble_eq_true rfl | exact (show 0 + 1 ≤ 1 by omega)), (by first | exact Nat.le_of_ble_eq_true rfl | exact (show 0 + 60 ≤ 60 by omega))⟩) hS (fun _ h => h) (fun _ _ _ _ _ h => False.elim h) (fun v H_1 locs hp hz hk_2 hS => ?_)
  obtain ⟨qn, hqn, rfl, hnn, hcn⟩ := hp
  have he0 := hcn.at0 he0
  exact x_aret (G := G) hx hb hr (Or.inr ⟨_, rfl⟩) dJ7_copyOf_1904c_9 hlocks hS (by first | exact Nat.le_of_ble_eq_true rfl | exact (show 0 + 1 ≤ 1 by omega)) (by first | exact Nat.le_of_ble_eq_true rfl | exact (show 0 + 60 ≤ 60 by omega)) ⟨qn, hqn, rfl, hnn, hcn⟩

set_option maxHeartbeats 4000000 in
set_option maxRecDepth 100000 in
/-- ArraysSupport.newLength(n, 1, h) -/
theorem c_J8_newLength_cabcc (l : Launch) (hfl : l.stackTraces = false) (G : xG) (n h9 : Nat) (H : Heap) (hn : n ≤ 1000) (hh : h9 ≤ 1000) : xMet l G yJ8_newLength_cabcc wsJ8_newLength_cabcc ({ frames := 1, cells := 0, slots := 0, locals := 30 } : Room) [.int (nI n), .int (nI 1), .int (nI h9)] H (xi H (nI (n + (if 1 < h9 then h9 else 1)))) (xNo) := by
  refine vx_ofW (cc := cJ8_newLength_cabcc) (maxL := 4) (ret := (some .int)) (by decide) rfl ?_
  intro Pg Ev s m args below meth c s₁ B hml hout hv
  obtain ⟨rfl, hH, hC⟩ := hv
  have hx := B.exec
  have hb := B.bytes
  have hr := B.returns
  have hts := atoms_spec (ws := wsJ8_newLength_cabcc) B.pre
  have hown : s.vm.findClass RJ8 = some m.cls := findClass_of_methodNamed B.named
  have hlocks := B.notSynchronized
  rw [hH]
  have hS : va_S (xA G) s.heap H [] := by rw [← hH]; exact va_S.rf
  generalize ([] : List Loc) = locs at hS ⊢
  have hl := lv_entry [.int (nI n), .int (nI 1), .int (nI h9)] (n := 4) (Nat.le_of_ble_eq_true rfl)
  rw [lg_entry_eq]
  generalize (lg_sl [.int (nI n), .int (nI 1), .int (nI h9)] ++ List.replicate (4 - (lg_sl [.int (nI n), .int (nI 1), .int (nI h9)]).length) Slot.unset).toArray = ls at hl ⊢
  have hl : lv_has ls 4 [(0, .int (nI n)), (1, .int (nI 1)), (2, .int (nI h9))] := hl
  have hm9 : 1 ≤ (if 1 < h9 then h9 else 1) ∧ (if 1 < h9 then h9 else 1) ≤ 1000 := by split <;> omega
  refine lv_iload_n hx hb dJ8_newLength_cabcc_0 rfl (lv_at hl 0 rfl) ?_
  refine lv_iload_n hx hb dJ8_newLength_cabcc_1 rfl (lv_at hl 1 rfl) ?_
  refine lv_iload_n hx hb dJ8_newLength_cabcc_2 rfl (lv_at hl 2 rfl) ?_
  refine va_mmax hx hb (by rw [hml]; exact hl.1.symm) hown (hts (.methodLink RJ8 194 Lib.Math.max.name) (by decide +kernel)) (hts (.static Lib.Math.max.name) (by decide +kernel)) (hts (.initialized "java/lang/Math") (by decide +kernel)) (hts (.code Lib.Math.max.name Lib.Math.max.code 2 (some .int)) (by decide +kernel)) (Nat.le_of_ble_eq_true rfl) (Nat.le_of_ble_eq_true rfl) (by first | exact Nat.le_of_ble_eq_true rfl | exact (show 0 ≤ 0 by omega)) (by first | exact Nat.le_of_ble_eq_true rfl | exact (show 0 ≤ 0 by omega)) dJ8_newLength_cabcc_3 ?_
  rw [show (if (nI 1) < (nI h9) then (nI h9) else (nI 1)) = (nI (if 1 < h9 then h9 else 1)) from by by_cases c : 1 < h9; (rw [if_pos (nI_lt c (by omega)), if_pos c]); (rw [if_neg (nI_nlt (by omega) (by omega)), if_neg c])]
  refine x_iaddn (a := n) (b := (if 1 < h9 then h9 else 1)) hx hb dJ8_newLength_cabcc_6 ?_
  refine lv_istore_n (lv' := [(3, .int (nI (n + ((if 1 < h9 then h9 else 1))))), (0, .int (nI n)), (1, .int (nI 1)), (2, .int (nI h9))]) hx hb dJ8_newLength_cabcc_7 rfl hl (by decide) rfl (fun ls hl => ?_)
  refine lv_iconst (v := (nI 0)) hx hb dJ8_newLength_cabcc_8 (by decide) ?_
  refine lv_iload_n hx hb dJ8_newLength_cabcc_9 rfl (lv_at hl 0 rfl) ?_
  refine lv_icmp_ge (tgt := 21) hx hb dJ8_newLength_cabcc_10 (by decide) (fun c_1 => ?_) (fun c_1 => ?_)
  · have _ := hx
    have c_1 : (n + ((if 1 < h9 then h9 else 1))) ≤ 0 := (nI_leI (a := (n + ((if 1 < h9 then h9 else 1)))) (b := 0) (by omega) (by omega)).mp c_1
    exact absurd c_1 (by omega)
  · have _ := hx
    have c_1 : ¬ ((n + ((if 1 < h9 then h9 else 1))) ≤ 0) := fun z => c_1 ((nI_leI (a := (n + ((if 1 < h9 then h9 else 1)))) (b := 0) (by omega) (by omega)).mpr z)
    refine lv_iload_n hx hb dJ8_newLength_cabcc_13 rfl (lv_at hl 0 rfl) ?_
    refine lv_ldc (v := (nI 2147483639)) hx hb hown (hts (.constant RJ8 200 (nI 2147483639)) (by decide +kernel)) dJ8_newLength_cabcc_14 ?_
    refine lv_icmp_gt (tgt := 21) hx hb dJ8_newLength_cabcc_16 (by decide) (fun c_2 => ?_) (fun c_2 => ?_)
    · have _ := hx
      have c_2 : 2147483639 < (n + ((if 1 < h9 then h9 else 1))) := (nI_ltI (a := 2147483639) (b := (n + ((if 1 < h9 then h9 else 1)))) (by omega) (by omega)).mp c_2
      exact absurd c_2 (by omega)
    · have _ := hx
      have c_2 : ¬ (2147483639 < (n + ((if 1 < h9 then h9 else 1)))) := fun z => c_2 ((nI_ltI (a := 2147483639) (b := (n + ((if 1 < h9 then h9 else 1)))) (by omega) (by omega)).mpr z)
      refine lv_iload_n hx hb dJ8_newLength_cabcc_19 rfl (lv_at hl 0 rfl) ?_
      exact x_iret (G := G) hx hb hr rfl dJ8_newLength_cabcc_20 hlocks hS (by first | exact Nat.le_of_ble_eq_true rfl | exact (show 0 ≤ 0 by omega)) (by first | exact Nat.le_of_ble_eq_true rfl | exact (show 0 ≤ 0 by omega)) ⟨rfl, rfl⟩

set_option maxHeartbeats 4000000 in
set_option maxRecDepth 100000 in
/-- grow(n + 1), of a full row -/
theorem c_grow1_more (l : Launch) (hfl : l.stackTraces = false) (G : xG) (li el n : Nat) (m9 : Int32) (a : Nat → Option Nat) (H : Heap) (hl0 : oA G li 0 [.int m9, .ref el, .int (nI n)] H) (he0 : qA G el n a H) (hA_li : xA G li) (hA_el : xA G el) (hne : li ≠ el) (hel : ∀ i : Nat, i < n → ∀ y : Nat, a i = some y → ∃ fs, oA G y 4 fs H) (hn1 : 1 ≤ n) (hn : n ≤ 30) : xMet l G yJx4a65c_grow_92f84 wsJx4a65c_grow_92f84 ({ frames := 3, cells := 1, slots := 60, locals := 104 } : Room) [.ref li, .int (nI (n + 1))] H (fun v H1 => ∃ q k, H.size ≤ q ∧ v = some (.ref q) ∧ n + 1 ≤ k ∧ k ≤ 60 ∧ oA G li 0 [.int m9, .ref q, .int (nI n)] H1 ∧ qA G q k (va_cpy a (fun _ => none) 0 0 n) H1 ∧ xC [li] H H1) (xNo) := by
  refine vx_ofW (cc := cJx4a65c_grow_92f84) (maxL := 4) (ret := (some (.array (.object "java/lang/Object")))) (by decide) rfl ?_
  intro Pg Ev s m args below meth c s₁ B hml hout hv
  obtain ⟨rfl, hH, hC⟩ := hv
  have hx := B.exec
  have hb := B.bytes
  have hr := B.returns
  have hts := atoms_spec (ws := wsJx4a65c_grow_92f84) B.pre
  have hown : s.vm.findClass RJx4a65c = some m.cls := findClass_of_methodNamed B.named
  have hlocks := B.notSynchronized
  rw [hH]
  have hS : va_S (xA G) s.heap H [] := by rw [← hH]; exact va_S.rf
  generalize ([] : List Loc) = locs at hS ⊢
  have hl := lv_entry [.ref li, .int (nI (n + 1))] (n := 4) (Nat.le_of_ble_eq_true rfl)
  rw [lg_entry_eq]
  generalize (lg_sl [.ref li, .int (nI (n + 1))] ++ List.replicate (4 - (lg_sl [.ref li, .int (nI (n + 1))]).length) Slot.unset).toArray = ls at hl ⊢
  have hl : lv_has ls 4 [(0, .ref li), (1, .int (nI (n + 1)))] := hl
  have hm9 : 1 ≤ (if 1 < n / 2 then n / 2 else 1) ∧ (if 1 < n / 2 then n / 2 else 1) ≤ 15 := by split <;> omega
  refine lv_aload_n hx hb dJx4a65c_grow_92f84_0 rfl (lv_at hl 0 rfl) ?_
  refine va_get (D := xD G) (ci := 0) (v := .ref el) (C := RJx4a65c) (T := TJx4a65c) (N := 3) hx hb hts (by decide +kernel) hown hC.1 (x1 hl0) 0 rfl rfl 1 (by decide) (hts (.fieldLink RJx4a65c 9 "java/util/ArrayList" "elementData" "[Ljava/lang/Object;") (by decide +kernel)) (fun _ h9 => h9) rfl dJx4a65c_grow_92f84_1 ?_
  refine va_alen (D := xD G) (v := (nI n)) hx hb hC.1 (x1 he0) 0 2 rfl rfl rfl dJx4a65c_grow_92f84_4 ?_
  refine lv_istore_n (lv' := [(2, .int (nI n)), (0, .ref li), (1, .int (nI (n + 1)))]) hx hb dJx4a65c_grow_92f84_5 rfl hl (by decide) rfl (fun ls hl => ?_)
  refine lv_iload_n hx hb dJx4a65c_grow_92f84_6 rfl (lv_at hl 0 rfl) ?_
  refine lv_if_gt (tgt := 20) hx hb dJx4a65c_grow_92f84_7 (by decide) (fun c_1 => ?_) (fun c_1 => ?_)
  · have _ := hx
    have c_1 : 0 < n := (nI_ltI (a := 0) (b := n) (by omega) (by omega)).mp c_1
    refine lv_iload_n hx hb dJx4a65c_grow_92f84_20 rfl (lv_at hl 0 rfl) ?_
    refine lv_iload_n hx hb dJx4a65c_grow_92f84_21 rfl (lv_at hl 2 rfl) ?_
    refine lv_iload_n hx hb dJx4a65c_grow_92f84_22 rfl (lv_at hl 0 rfl) ?_
    refine x_isubn (a := n + 1) (b := n) hx hb dJx4a65c_grow_92f84_23 (by omega) ?_
    rw [show n + 1 - n = 1 by omega]
    refine lv_iload_n hx hb dJx4a65c_grow_92f84_24 rfl (lv_at hl 0 rfl) ?_
    refine lv_iconst (v := (nI 1)) hx hb dJx4a65c_grow_92f84_25 (by decide) ?_
    refine lv_ishr hx hb dJx4a65c_grow_92f84_26 ?_
    rw [show nI n >>> (nI 1 &&& 31) = nI (n / 2) from by have k := pk_shrN (n := n) (by omega) (nI 1 &&& 31) 1 (by decide); rw [Nat.pow_one] at k; exact k]
    refine x_intE (vx_runS (As := [.int (nI n), .int (nI 1), .int (nI (n / 2))]) (rest := []) ⟨hx, hb, hml, hown, hts⟩ (c_J8_newLength_cabcc l hfl G n (n / 2) H (by omega) (by omega)) (va_cwS 3 hts gJx4a65c_grow_92f84_J8_newLength_cabcc rfl rfl rfl (by decide +kernel) ⟨(Nat.le_of_ble_eq_true rfl), (Nat.le_of_ble_eq_true rfl)⟩) (xPreS hC hS) rfl rfl hl.1 rfl (lv_room (Nat.le_of_ble_eq_true rfl)) dJx4a65c_grow_92f84_27 ⟨(by first | exact Nat.le_of_ble_eq_true rfl | exact (show 0 + 0 ≤ 1 by omega)), (by first | exact Nat.le_of_ble_eq_true rfl | exact (show 0 + 0 ≤ 60 by omega))⟩) hS (fun locs hS => ?_)
    refine lv_istore_n (lv' := [(3, .int (nI (n + (if 1 < n / 2 then n / 2 else 1)))), (2, .int (nI n)), (0, .ref li), (1, .int (nI (n + 1)))]) hx hb dJx4a65c_grow_92f84_30 rfl hl (by decide) rfl (fun ls hl => ?_)
    refine lv_aload_n hx hb dJx4a65c_grow_92f84_31 rfl (lv_at hl 2 rfl) ?_
    refine lv_aload_n hx hb dJx4a65c_grow_92f84_32 rfl (lv_at hl 2 rfl) ?_
    refine va_get (D := xD G) (ci := 0) (v := .ref el) (C := RJx4a65c) (T := TJx4a65c) (N := 3) hx hb hts (by decide +kernel) hown hC.1 (x1 hl0) 0 rfl rfl 1 (by decide) (hts (.fieldLink RJx4a65c 9 "java/util/ArrayList" "elementData" "[Ljava/lang/Object;") (by decide +kernel)) (fun _ h9 => h9) rfl dJx4a65c_grow_92f84_33 ?_
    refine lv_iload_n hx hb dJx4a65c_grow_92f84_36 rfl (lv_at hl 0 rfl) ?_
    have hsz := hS.1
    refine x_call (px := xNo) (vx_runS (As := [.ref el, .int (nI (n + (if 1 < n / 2 then n / 2 else 1)))]) (rest := [.ref li]) ⟨hx, hb, hml, hown, hts⟩ (c_J7_copyOf_1904c l hfl G el n (n + (if 1 < n / 2 then n / 2 else 1)) a H he0 hA_el hel (by omega) (by omega)) (va_cwS 2 hts gJx4a65c_grow_92f84_J7_copyOf_1904c rfl rfl rfl (by decide +kernel) ⟨(Nat.le_of_ble_eq_true rfl), (Nat.le_of_ble_eq_true rfl)⟩) (xPreS hC hS) rfl rfl hl.1 rfl (lv_room (Nat.le_of_ble_eq_true rfl)) dJx4a65c_grow_92f84_37 ⟨(by first | exact Nat.le_of_ble_eq_true rfl | exact (show 0 + 1 ≤ 1 by omega)), (by first | exact Nat.le_of_ble_eq_true rfl | exact (show 0 + 60 ≤ 60 by omega))⟩) hS (fun _ h => h) (fun _ _ _ _ _ h => False.elim h) (fun v H_2 locs hp hz hk_3 hS => ?_)
    obtain ⟨qn, hqn, rfl, hnn, hcn⟩ := hp
    have hA_qn : xA G qn := hC.2.2.1 _ (Nat.le_trans hsz hqn)
    have ne_5 : li ≠ qn := xlt2 hl0 hqn
    have ne_6 : el ≠ qn := xlt2 he0 hqn
    have hl0 := hcn.at0 hl0
    have he0 := hcn.at0 he0
    refine lv_dup_x1 hx hb dJx4a65c_grow_92f84_40 rfl rfl ?_
    refine x_put (G := G) (ci := 0) (v := .ref qn) (ty := (.array (.object "java/lang/Object"))) (C := RJx4a65c) (T := TJx4a65c) (N := 3) hx hb hts (by decide +kernel) tyJx4a65c tyJx4a65c_ok nmJx4a65c hown hC hS hA_li hl0 rfl 1 (by decide) (hts (.fieldLink RJx4a65c 9 "java/util/ArrayList" "elementData" "[Ljava/lang/Object;") (by decide +kernel)) (fun _ h9 => h9) rfl (by decide +kernel) rfl rfl (Nat.le_of_ble_eq_true rfl) dJx4a65c_grow_92f84_41 (fun H_8 locs hl0 hc_7 hS => ?_)
    have hl0 : oA G li 0 [.int m9, .ref qn, .int (nI n)] H_8 := hl0
    have he0 := hc_7.at he0 (xn1 (Ne.symm hne))
    have hnn := hc_7.at hnn (xn1 (Ne.symm ne_5))
    have _ := hcn.1
    have _ := hc_7.1
    exact x_aret (G := G) hx hb hr (Or.inr ⟨_, rfl⟩) dJx4a65c_grow_92f84_44 hlocks hS (by first | exact Nat.le_of_ble_eq_true rfl | exact (show 0 + 1 ≤ 1 by omega)) (by first | exact Nat.le_of_ble_eq_true rfl | exact (show 0 + 60 ≤ 60 by omega)) ⟨qn, (n + (if 1 < n / 2 then n / 2 else 1)), by omega, rfl, by omega, by omega, hl0, hnn, ((hcn.tr hc_7).mono (fun q hq => by simp only [List.mem_append, List.mem_cons, List.not_mem_nil, or_false, false_or] at hq ⊢; omega))⟩
  · have _ := hx
    have c_1 : ¬ (0 < n) := fun z => c_1 ((nI_ltI (a := 0) (b := n) (by omega) (by omega)).mpr z)
    exact absurd c_1 (by omega)

set_option maxHeartbeats 4000000 in
set_option maxRecDepth 100000 in
/-- grow(1), of the empty row -/
theorem c_grow1_first (l : Launch) (hfl : l.stackTraces = false) (G : xG) (li : Nat) (m9 : Int32) (H : Heap) (hl0 : oA G li 0 [.int m9, .ref (xE G), .int (nI 0)] H) (hA_li : xA G li) : xMet l G yJx4a65c_grow_92f84 wsJx4a65c_grow_92f84 ({ frames := 1, cells := 1, slots := 60, locals := 30 } : Room) [.ref li, .int (nI 1)] H (fun v H1 => ∃ q, H.size ≤ q ∧ v = some (.ref q) ∧ oA G li 0 [.int m9, .ref q, .int (nI 0)] H1 ∧ qA G q 10 (fun _ => none) H1 ∧ xC [li] H H1) (xNo) := by
  refine vx_ofW (cc := cJx4a65c_grow_92f84) (maxL := 4) (ret := (some (.array (.object "java/lang/Object")))) (by decide) rfl ?_
  intro Pg Ev s m args below meth c s₁ B hml hout hv
  obtain ⟨rfl, hH, hC⟩ := hv
  have hx := B.exec
  have hb := B.bytes
  have hr := B.returns
  have hts := atoms_spec (ws := wsJx4a65c_grow_92f84) B.pre
  have hown : s.vm.findClass RJx4a65c = some m.cls := findClass_of_methodNamed B.named
  have hlocks := B.notSynchronized
  rw [hH]
  have hS : va_S (xA G) s.heap H [] := by rw [← hH]; exact va_S.rf
  generalize ([] : List Loc) = locs at hS ⊢
  have hl := lv_entry [.ref li, .int (nI 1)] (n := 4) (Nat.le_of_ble_eq_true rfl)
  rw [lg_entry_eq]
  generalize (lg_sl [.ref li, .int (nI 1)] ++ List.replicate (4 - (lg_sl [.ref li, .int (nI 1)]).length) Slot.unset).toArray = ls at hl ⊢
  have hl : lv_has ls 4 [(0, .ref li), (1, .int (nI 1))] := hl
  refine lv_aload_n hx hb dJx4a65c_grow_92f84_0 rfl (lv_at hl 0 rfl) ?_
  refine va_get (D := xD G) (ci := 0) (v := .ref (xE G)) (C := RJx4a65c) (T := TJx4a65c) (N := 3) hx hb hts (by decide +kernel) hown hC.1 (x1 hl0) 0 rfl rfl 1 (by decide) (hts (.fieldLink RJx4a65c 9 "java/util/ArrayList" "elementData" "[Ljava/lang/Object;") (by decide +kernel)) (fun _ h9 => h9) rfl dJx4a65c_grow_92f84_1 ?_
  refine va_tlen (v := nI 0) hx hb hC.2.2.2.2.2.2.2.1 hS rfl dJx4a65c_grow_92f84_4 ?_
  refine lv_istore_n (lv' := [(2, .int (nI 0)), (0, .ref li), (1, .int (nI 1))]) hx hb dJx4a65c_grow_92f84_5 rfl hl (by decide) rfl (fun ls hl => ?_)
  refine lv_iload_n hx hb dJx4a65c_grow_92f84_6 rfl (lv_at hl 0 rfl) ?_
  refine lv_if_gt (tgt := 20) hx hb dJx4a65c_grow_92f84_7 (by decide) (fun c_1 => ?_) (fun c_1 => ?_)
  · have _ := hx
    have c_1 : 0 < 0 := (nI_ltI (a := 0) (b := 0) (by omega) (by omega)).mp c_1
    exact absurd c_1 (by omega)
  · have _ := hx
    have c_1 : ¬ (0 < 0) := fun z => c_1 ((nI_ltI (a := 0) (b := 0) (by omega) (by omega)).mpr z)
    refine lv_aload_n hx hb dJx4a65c_grow_92f84_10 rfl (lv_at hl 1 rfl) ?_
    refine va_get (D := xD G) (ci := 0) (v := .ref (xE G)) (C := RJx4a65c) (T := TJx4a65c) (N := 3) hx hb hts (by decide +kernel) hown hC.1 (x1 hl0) 0 rfl rfl 1 (by decide) (hts (.fieldLink RJx4a65c 9 "java/util/ArrayList" "elementData" "[Ljava/lang/Object;") (by decide +kernel)) (fun _ h9 => h9) rfl dJx4a65c_grow_92f84_11 ?_
    refine va_gets hx hb hC.2.2.2.2.2.2.1 hS hown (hts (.fieldLink RJx4a65c 39 "java/util/ArrayList" "DEFAULTCAPACITY_EMPTY_ELEMENTDATA" "[Ljava/lang/Object;") (by decide +kernel)) (fun _ h9 => h9) dJx4a65c_grow_92f84_14 ?_
    refine lv_acmp_eq (rx := some (xE G)) (ry := some (xE G)) (tgt := 45) hx hb dJx4a65c_grow_92f84_17 (by decide) (fun c_2 => ?_) (fun c_2 => ?_)
    · have _ := hx
      refine lv_aload_n hx hb dJx4a65c_grow_92f84_45 rfl (lv_at hl 1 rfl) ?_
      refine lv_bipush (v := (nI 10)) hx hb dJx4a65c_grow_92f84_46 (by decide) ?_
      refine lv_iload_n hx hb dJx4a65c_grow_92f84_48 rfl (lv_at hl 2 rfl) ?_
      refine va_mmax hx hb (by rw [hml]; exact hl.1.symm) hown (hts (.methodLink RJx4a65c 79 Lib.Math.max.name) (by decide +kernel)) (hts (.static Lib.Math.max.name) (by decide +kernel)) (hts (.initialized "java/lang/Math") (by decide +kernel)) (hts (.code Lib.Math.max.name Lib.Math.max.code 2 (some .int)) (by decide +kernel)) (Nat.le_of_ble_eq_true rfl) (Nat.le_of_ble_eq_true rfl) (by first | exact Nat.le_of_ble_eq_true rfl | exact (show 0 ≤ 1 by omega)) (by first | exact Nat.le_of_ble_eq_true rfl | exact (show 0 ≤ 60 by omega)) dJx4a65c_grow_92f84_49 ?_
      rw [show (if (nI 10) < (nI 1) then (nI 1) else (nI 10)) = (nI 10) from if_neg (by decide)]
      have hsz := hS.1
      refine x_newO (G := G) (n := 10) hx hb hown (hts (.classLink RJx4a65c 7 "java/lang/Object") (by decide +kernel)) hC hS (by omega) (by first | exact Nat.le_of_ble_eq_true rfl | exact (show 0 + 1 ≤ 1 by omega)) (by first | exact Nat.le_of_ble_eq_true rfl | exact (show 0 + 10 ≤ 60 by omega)) dJx4a65c_grow_92f84_52 (fun q_3 H_8 eq_6 ha_4 hc_5 hz_7 hS => ?_)
      have hA_q_3 : xA G q_3 := hC.2.2.1 _ (by rw [eq_6]; exact hsz)
      have ne_9 : li ≠ q_3 := xlt hl0 eq_6
      have hl0 := hc_5.at0 hl0
      refine lv_dup_x1 hx hb dJx4a65c_grow_92f84_55 rfl rfl ?_
      refine x_put (G := G) (ci := 0) (v := .ref q_3) (ty := (.array (.object "java/lang/Object"))) (C := RJx4a65c) (T := TJx4a65c) (N := 3) hx hb hts (by decide +kernel) tyJx4a65c tyJx4a65c_ok nmJx4a65c hown hC hS hA_li hl0 rfl 1 (by decide) (hts (.fieldLink RJx4a65c 9 "java/util/ArrayList" "elementData" "[Ljava/lang/Object;") (by decide +kernel)) (fun _ h9 => h9) rfl (by decide +kernel) rfl rfl (Nat.le_of_ble_eq_true rfl) dJx4a65c_grow_92f84_56 (fun H_11 locs hl0 hc_10 hS => ?_)
      have hl0 : oA G li 0 [.int m9, .ref q_3, .int (nI 0)] H_11 := hl0
      have ha_4 := hc_10.at ha_4 (xn1 (Ne.symm ne_9))
      have _ := hc_5.1
      have _ := hc_10.1
      exact x_aret (G := G) hx hb hr (Or.inr ⟨_, rfl⟩) dJx4a65c_grow_92f84_59 hlocks hS (by first | exact Nat.le_of_ble_eq_true rfl | exact (show 0 + 1 ≤ 1 by omega)) (by first | exact Nat.le_of_ble_eq_true rfl | exact (show 0 + 10 ≤ 60 by omega)) ⟨q_3, by omega, rfl, hl0, ha_4, ((hc_5.tr hc_10).mono (fun q hq => by simp only [List.mem_append, List.mem_cons, List.not_mem_nil, or_false, false_or] at hq ⊢; omega))⟩
    · have _ := hx
      exact absurd rfl c_2

set_option maxHeartbeats 4000000 in
set_option maxRecDepth 100000 in
/-- grow() of a full row -/
theorem c_grow_more (l : Launch) (hfl : l.stackTraces = false) (G : xG) (li el n : Nat) (m9 : Int32) (a : Nat → Option Nat) (H : Heap) (hl0 : oA G li 0 [.int m9, .ref el, .int (nI n)] H) (he0 : qA G el n a H) (hA_li : xA G li) (hA_el : xA G el) (hne : li ≠ el) (hel : ∀ i : Nat, i < n → ∀ y : Nat, a i = some y → ∃ fs, oA G y 4 fs H) (hn1 : 1 ≤ n) (hn : n ≤ 30) : xMet l G yJx4a65c_grow_d5877 wsJx4a65c_grow_d5877 ({ frames := 4, cells := 1, slots := 60, locals := 127 } : Room) [.ref li] H (fun v H1 => ∃ q k, H.size ≤ q ∧ v = some (.ref q) ∧ n + 1 ≤ k ∧ k ≤ 60 ∧ oA G li 0 [.int m9, .ref q, .int (nI n)] H1 ∧ qA G q k (va_cpy a (fun _ => none) 0 0 n) H1 ∧ xC [li] H H1) (xNo) := by
  refine vx_ofW (cc := cJx4a65c_grow_d5877) (maxL := 1) (ret := (some (.array (.object "java/lang/Object")))) (by decide) rfl ?_
  intro Pg Ev s m args below meth c s₁ B hml hout hv
  obtain ⟨rfl, hH, hC⟩ := hv
  have hx := B.exec
  have hb := B.bytes
  have hr := B.returns
  have hts := atoms_spec (ws := wsJx4a65c_grow_d5877) B.pre
  have hown : s.vm.findClass RJx4a65c = some m.cls := findClass_of_methodNamed B.named
  have hlocks := B.notSynchronized
  rw [hH]
  have hS : va_S (xA G) s.heap H [] := by rw [← hH]; exact va_S.rf
  generalize ([] : List Loc) = locs at hS ⊢
  have hl := lv_entry [.ref li] (n := 1) (Nat.le_of_ble_eq_true rfl)
  rw [lg_entry_eq]
  generalize (lg_sl [.ref li] ++ List.replicate (1 - (lg_sl [.ref li]).length) Slot.unset).toArray = ls at hl ⊢
  have hl : lv_has ls 1 [(0, .ref li)] := hl
  refine lv_aload_n hx hb dJx4a65c_grow_d5877_0 rfl (lv_at hl 0 rfl) ?_
  refine lv_aload_n hx hb dJx4a65c_grow_d5877_1 rfl (lv_at hl 0 rfl) ?_
  refine va_get (D := xD G) (ci := 0) (v := .int (nI n)) (C := RJx4a65c) (T := TJx4a65c) (N := 3) hx hb hts (by decide +kernel) hown hC.1 (x1 hl0) 0 rfl rfl 2 (by decide) (hts (.fieldLink RJx4a65c 48 "java/util/ArrayList" "size" "I") (by decide +kernel)) (fun _ h9 => h9) rfl dJx4a65c_grow_d5877_2 ?_
  refine lv_iconst (v := (nI 1)) hx hb dJx4a65c_grow_d5877_5 (by decide) ?_
  refine x_iaddn (a := n) (b := 1) hx hb dJx4a65c_grow_d5877_6 ?_
  have hsz := hS.1
  refine x_call (px := xNo) (vx_runV (As := [.int (nI (n + 1))]) (rest := []) ⟨hx, hb, hml, hown, hts⟩ (c_grow1_more l hfl G li el n m9 a H hl0 he0 hA_li hA_el hne hel hn1 hn) (cwV 1 hts gJx4a65c_grow_d5877_Jx4a65c_grow_92f84 rfl rfl rfl (by decide +kernel) ⟨(Nat.le_of_ble_eq_true rfl), (Nat.le_of_ble_eq_true rfl)⟩) (xPreV hC hS hl0 (q := (RJx4a65c, TJx4a65c, 3)) rfl) rfl rfl hl.1 rfl (lv_room (Nat.le_of_ble_eq_true rfl)) dJx4a65c_grow_d5877_7 ⟨(by first | exact Nat.le_of_ble_eq_true rfl | exact (show 0 + 1 ≤ 1 by omega)), (by first | exact Nat.le_of_ble_eq_true rfl | exact (show 0 + 60 ≤ 60 by omega))⟩) hS (fun _ h => h) (fun _ _ _ _ _ h => False.elim h) (fun v H_1 locs hp hz hk_2 hS => ?_)
  obtain ⟨qn, kn, hqn, rfl, hk1, hk2, hln, hnn, hcn⟩ := hp
  exact x_aret (G := G) hx hb hr (Or.inr ⟨_, rfl⟩) dJx4a65c_grow_d5877_10 hlocks hS (by first | exact Nat.le_of_ble_eq_true rfl | exact (show 0 + 1 ≤ 1 by omega)) (by first | exact Nat.le_of_ble_eq_true rfl | exact (show 0 + 60 ≤ 60 by omega)) ⟨qn, kn, hqn, rfl, hk1, hk2, hln, hnn, hcn⟩

set_option maxHeartbeats 4000000 in
set_option maxRecDepth 100000 in
/-- grow() of the empty row -/
theorem c_grow_first (l : Launch) (hfl : l.stackTraces = false) (G : xG) (li : Nat) (m9 : Int32) (H : Heap) (hl0 : oA G li 0 [.int m9, .ref (xE G), .int (nI 0)] H) (hA_li : xA G li) : xMet l G yJx4a65c_grow_d5877 wsJx4a65c_grow_d5877 ({ frames := 2, cells := 1, slots := 60, locals := 53 } : Room) [.ref li] H (fun v H1 => ∃ q, H.size ≤ q ∧ v = some (.ref q) ∧ oA G li 0 [.int m9, .ref q, .int (nI 0)] H1 ∧ qA G q 10 (fun _ => none) H1 ∧ xC [li] H H1) (xNo) := by
  refine vx_ofW (cc := cJx4a65c_grow_d5877) (maxL := 1) (ret := (some (.array (.object "java/lang/Object")))) (by decide) rfl ?_
  intro Pg Ev s m args below meth c s₁ B hml hout hv
  obtain ⟨rfl, hH, hC⟩ := hv
  have hx := B.exec
  have hb := B.bytes
  have hr := B.returns
  have hts := atoms_spec (ws := wsJx4a65c_grow_d5877) B.pre
  have hown : s.vm.findClass RJx4a65c = some m.cls := findClass_of_methodNamed B.named
  have hlocks := B.notSynchronized
  rw [hH]
  have hS : va_S (xA G) s.heap H [] := by rw [← hH]; exact va_S.rf
  generalize ([] : List Loc) = locs at hS ⊢
  have hl := lv_entry [.ref li] (n := 1) (Nat.le_of_ble_eq_true rfl)
  rw [lg_entry_eq]
  generalize (lg_sl [.ref li] ++ List.replicate (1 - (lg_sl [.ref li]).length) Slot.unset).toArray = ls at hl ⊢
  have hl : lv_has ls 1 [(0, .ref li)] := hl
  refine lv_aload_n hx hb dJx4a65c_grow_d5877_0 rfl (lv_at hl 0 rfl) ?_
  refine lv_aload_n hx hb dJx4a65c_grow_d5877_1 rfl (lv_at hl 0 rfl) ?_
  refine va_get (D := xD G) (ci := 0) (v := .int (nI 0)) (C := RJx4a65c) (T := TJx4a65c) (N := 3) hx hb hts (by decide +kernel) hown hC.1 (x1 hl0) 0 rfl rfl 2 (by decide) (hts (.fieldLink RJx4a65c 48 "java/util/ArrayList" "size" "I") (by decide +kernel)) (fun _ h9 => h9) rfl dJx4a65c_grow_d5877_2 ?_
  refine lv_iconst (v := (nI 1)) hx hb dJx4a65c_grow_d5877_5 (by decide) ?_
  refine x_iaddn (a := 0) (b := 1) hx hb dJx4a65c_grow_d5877_6 ?_
  have hsz := hS.1
  refine x_call (px := xNo) (vx_runV (As := [.int (nI (0 + 1))]) (rest := []) ⟨hx, hb, hml, hown, hts⟩ (c_grow1_first l hfl G li m9 H hl0 hA_li) (cwV 1 hts gJx4a65c_grow_d5877_Jx4a65c_grow_92f84 rfl rfl rfl (by decide +kernel) ⟨(Nat.le_of_ble_eq_true rfl), (Nat.le_of_ble_eq_true rfl)⟩) (xPreV hC hS hl0 (q := (RJx4a65c, TJx4a65c, 3)) rfl) rfl rfl hl.1 rfl (lv_room (Nat.le_of_ble_eq_true rfl)) dJx4a65c_grow_d5877_7 ⟨(by first | exact Nat.le_of_ble_eq_true rfl | exact (show 0 + 1 ≤ 1 by omega)), (by first | exact Nat.le_of_ble_eq_true rfl | exact (show 0 + 60 ≤ 60 by omega))⟩) hS (fun _ h => h) (fun _ _ _ _ _ h => False.elim h) (fun v H_1 locs hp hz hk_2 hS => ?_)
  obtain ⟨qn, hqn, rfl, hln, hnn, hcn⟩ := hp
  exact x_aret (G := G) hx hb hr (Or.inr ⟨_, rfl⟩) dJx4a65c_grow_d5877_10 hlocks hS (by first | exact Nat.le_of_ble_eq_true rfl | exact (show 0 + 1 ≤ 1 by omega)) (by first | exact Nat.le_of_ble_eq_true rfl | exact (show 0 + 60 ≤ 60 by omega)) ⟨qn, hqn, rfl, hln, hnn, hcn⟩

set_option maxHeartbeats 4000000 in
set_option maxRecDepth 100000 in
/-- add(e, row, n): there is room -/
theorem c_add3_room (l : Launch) (hfl : l.stackTraces = false) (G : xG) (li el n k9 y : Nat) (m9 : Int32) (a : Nat → Option Nat) (fs : List Value) (H : Heap) (hl0 : oA G li 0 [.int m9, .ref el, .int (nI n)] H) (he0 : qA G el k9 a H) (hA_li : xA G li) (hA_el : xA G el) (hne : li ≠ el) (hyl : y ≠ li) (hye : y ≠ el) (hy0 : oA G y 4 fs H) (hn : n < k9) (hk9 : k9 ≤ 60) : xMet l G yJx4a65c_add_72be8 wsJx4a65c_add_72be8 ({ frames := 5, cells := 1, slots := 60, locals := 220 } : Room) [.ref li, .ref y, .ref el, .int (nI n)] H (fun v H1 => v = none ∧ ∃ q k b, k ≤ 60 ∧ n + 1 ≤ k ∧ oA G li 0 [.int m9, .ref q, .int (nI (n + 1))] H1 ∧ qA G q k b H1 ∧ xA G q ∧ li ≠ q ∧ (∀ i, i < n → b i = a i) ∧ b n = some y ∧ (q = el ∨ H.size ≤ q) ∧ xC [li, el] H H1) (xNo) := by
  refine vx_ofW (cc := cJx4a65c_add_72be8) (maxL := 4) (ret := none) (by decide) rfl ?_
  intro Pg Ev s m args below meth c s₁ B hml hout hv
  obtain ⟨rfl, hH, hC⟩ := hv
  have hx := B.exec
  have hb := B.bytes
  have hr := B.returns
  have hts := atoms_spec (ws := wsJx4a65c_add_72be8) B.pre
  have hown : s.vm.findClass RJx4a65c = some m.cls := findClass_of_methodNamed B.named
  have hlocks := B.notSynchronized
  rw [hH]
  have hS : va_S (xA G) s.heap H [] := by rw [← hH]; exact va_S.rf
  generalize ([] : List Loc) = locs at hS ⊢
  have hl := lv_entry [.ref li, .ref y, .ref el, .int (nI n)] (n := 4) (Nat.le_of_ble_eq_true rfl)
  rw [lg_entry_eq]
  generalize (lg_sl [.ref li, .ref y, .ref el, .int (nI n)] ++ List.replicate (4 - (lg_sl [.ref li, .ref y, .ref el, .int (nI n)]).length) Slot.unset).toArray = ls at hl ⊢
  have hl : lv_has ls 4 [(0, .ref li), (1, .ref y), (2, .ref el), (3, .int (nI n))] := hl
  refine lv_iload_n hx hb dJx4a65c_add_72be8_0 rfl (lv_at hl 3 rfl) ?_
  refine lv_aload_n hx hb dJx4a65c_add_72be8_1 rfl (lv_at hl 2 rfl) ?_
  refine va_alen (D := xD G) (v := (nI k9)) hx hb hC.1 (x1 he0) 0 2 rfl rfl rfl dJx4a65c_add_72be8_2 ?_
  refine lv_icmp_ne (tgt := 11) hx hb dJx4a65c_add_72be8_3 (by decide) (fun c_1 => ?_) (fun c_1 => ?_)
  · have _ := hx
    have c_1 : ¬ (n = k9) := fun z => c_1 ((nI_eq (a := n) (b := k9) (by omega) (by omega)).mpr z)
    refine lv_aload_n hx hb dJx4a65c_add_72be8_11 rfl (lv_at hl 2 rfl) ?_
    refine lv_iload_n hx hb dJx4a65c_add_72be8_12 rfl (lv_at hl 3 rfl) ?_
    refine lv_aload_n hx hb dJx4a65c_add_72be8_13 rfl (lv_at hl 1 rfl) ?_
    refine x_astq (G := G) (j := n) hx hb hC hS hA_el he0 hy0 (by omega) (by omega) dJx4a65c_add_72be8_14 (fun H_3 locs he0 hc_2 hS => ?_)
    have hl0 := hc_2.at hl0 (xn1 hne)
    have hy0 := hc_2.at hy0 (xn1 hye)
    refine lv_aload_n hx hb dJx4a65c_add_72be8_15 rfl (lv_at hl 0 rfl) ?_
    refine lv_iload_n hx hb dJx4a65c_add_72be8_16 rfl (lv_at hl 3 rfl) ?_
    refine lv_iconst (v := (nI 1)) hx hb dJx4a65c_add_72be8_17 (by decide) ?_
    refine x_iaddn (a := n) (b := 1) hx hb dJx4a65c_add_72be8_18 ?_
    refine x_put (G := G) (ci := 0) (v := .int (nI (n + 1))) (ty := .int) (C := RJx4a65c) (T := TJx4a65c) (N := 3) hx hb hts (by decide +kernel) tyJx4a65c tyJx4a65c_ok nmJx4a65c hown hC hS hA_li hl0 rfl 2 (by decide) (hts (.fieldLink RJx4a65c 48 "java/util/ArrayList" "size" "I") (by decide +kernel)) (fun _ h9 => h9) rfl (by decide +kernel) rfl rfl (Nat.le_of_ble_eq_true rfl) dJx4a65c_add_72be8_19 (fun H_5 locs hl0 hc_4 hS => ?_)
    have hl0 : oA G li 0 [.int m9, .ref el, .int (nI (n + 1))] H_5 := hl0
    have he0 := hc_4.at he0 (xn1 (Ne.symm hne))
    have hy0 := hc_4.at hy0 (xn1 hyl)
    have _ := hc_2.1
    have _ := hc_4.1
    exact x_vret (G := G) hx hb hr dJx4a65c_add_72be8_22 hlocks hS (by first | exact Nat.le_of_ble_eq_true rfl | exact (show 0 ≤ 1 by omega)) (by first | exact Nat.le_of_ble_eq_true rfl | exact (show 0 ≤ 60 by omega)) ⟨rfl, el, k9, (va_up a n (some y)), by omega, by omega, hl0, he0, hA_el, hne, fun i hi => va_up_ne _ _ (by omega), va_up_self _ _ _, Or.inl rfl, ((hc_2.tr hc_4).mono (fun q hq => by simp only [List.mem_append, List.mem_cons, List.not_mem_nil, or_false, false_or] at hq ⊢; omega))⟩
  · have _ := hx
    have c_1 : n = k9 := (nI_eq (a := n) (b := k9) (by omega) (by omega)).mp c_1
    exact absurd c_1 (by omega)

set_option maxHeartbeats 4000000 in
set_option maxRecDepth 100000 in
/-- add(e, row, n): the row is full -/
theorem c_add3_more (l : Launch) (hfl : l.stackTraces = false) (G : xG) (li el n y : Nat) (m9 : Int32) (a : Nat → Option Nat) (fs : List Value) (H : Heap) (hl0 : oA G li 0 [.int m9, .ref el, .int (nI n)] H) (hA_li : xA G li) (hA_el : xA G el) (hne : li ≠ el) (hyl : y ≠ li) (hye : y ≠ el) (hy0 : oA G y 4 fs H) (he0 : qA G el n a H) (hel : ∀ i : Nat, i < n → ∀ y : Nat, a i = some y → ∃ fs, oA G y 4 fs H) (hn1 : 1 ≤ n) (hn : n ≤ 30) : xMet l G yJx4a65c_add_72be8 wsJx4a65c_add_72be8 ({ frames := 5, cells := 1, slots := 60, locals := 220 } : Room) [.ref li, .ref y, .ref el, .int (nI n)] H (fun v H1 => v = none ∧ ∃ q k b, k ≤ 60 ∧ n + 1 ≤ k ∧ oA G li 0 [.int m9, .ref q, .int (nI (n + 1))] H1 ∧ qA G q k b H1 ∧ xA G q ∧ li ≠ q ∧ (∀ i, i < n → b i = a i) ∧ b n = some y ∧ (q = el ∨ H.size ≤ q) ∧ xC [li, el] H H1) (xNo) := by
  refine vx_ofW (cc := cJx4a65c_add_72be8) (maxL := 4) (ret := none) (by decide) rfl ?_
  intro Pg Ev s m args below meth c s₁ B hml hout hv
  obtain ⟨rfl, hH, hC⟩ := hv
  have hx := B.exec
  have hb := B.bytes
  have hr := B.returns
  have hts := atoms_spec (ws := wsJx4a65c_add_72be8) B.pre
  have hown : s.vm.findClass RJx4a65c = some m.cls := findClass_of_methodNamed B.named
  have hlocks := B.notSynchronized
  rw [hH]
  have hS : va_S (xA G) s.heap H [] := by rw [← hH]; exact va_S.rf
  generalize ([] : List Loc) = locs at hS ⊢
  have hl := lv_entry [.ref li, .ref y, .ref el, .int (nI n)] (n := 4) (Nat.le_of_ble_eq_true rfl)
  rw [lg_entry_eq]
  generalize (lg_sl [.ref li, .ref y, .ref el, .int (nI n)] ++ List.replicate (4 - (lg_sl [.ref li, .ref y, .ref el, .int (nI n)]).length) Slot.unset).toArray = ls at hl ⊢
  have hl : lv_has ls 4 [(0, .ref li), (1, .ref y), (2, .ref el), (3, .int (nI n))] := hl
  refine lv_iload_n hx hb dJx4a65c_add_72be8_0 rfl (lv_at hl 3 rfl) ?_
  refine lv_aload_n hx hb dJx4a65c_add_72be8_1 rfl (lv_at hl 2 rfl) ?_
  refine va_alen (D := xD G) (v := (nI n)) hx hb hC.1 (x1 he0) 0 2 rfl rfl rfl dJx4a65c_add_72be8_2 ?_
  refine lv_icmp_ne (tgt := 11) hx hb dJx4a65c_add_72be8_3 (by decide) (fun c_1 => ?_) (fun c_1 => ?_)
  · have _ := hx
    have c_1 : ¬ (n = n) := fun z => c_1 ((nI_eq (a := n) (b := n) (by omega) (by omega)).mpr z)
    exact absurd c_1 (by omega)
  · have _ := hx
    have c_1 : n = n := (nI_eq (a := n) (b := n) (by omega) (by omega)).mp c_1
    refine lv_aload_n hx hb dJx4a65c_add_72be8_6 rfl (lv_at hl 0 rfl) ?_
    have hsz := hS.1
    refine x_call (px := xNo) (vx_runV (As := []) (rest := []) ⟨hx, hb, hml, hown, hts⟩ (c_grow_more l hfl G li el n m9 a H hl0 he0 hA_li hA_el hne hel hn1 hn) (cwV 0 hts gJx4a65c_add_72be8_Jx4a65c_grow_d5877 rfl rfl rfl (by decide +kernel) ⟨(Nat.le_of_ble_eq_true rfl), (Nat.le_of_ble_eq_true rfl)⟩) (xPreV hC hS hl0 (q := (RJx4a65c, TJx4a65c, 3)) rfl) rfl rfl hl.1 rfl (lv_room (Nat.le_of_ble_eq_true rfl)) dJx4a65c_add_72be8_7 ⟨(by first | exact Nat.le_of_ble_eq_true rfl | exact (show 0 + 1 ≤ 1 by omega)), (by first | exact Nat.le_of_ble_eq_true rfl | exact (show 0 + 60 ≤ 60 by omega))⟩) hS (fun _ h => h) (fun _ _ _ _ _ h => False.elim h) (fun v H_2 locs hp hz hk_3 hS => ?_)
    obtain ⟨qn, kn, hqn, rfl, hk1, hk2, hln, hnn, hcn⟩ := hp
    have hA_qn : xA G qn := hC.2.2.1 _ (Nat.le_trans hsz hqn)
    have ne_5 : li ≠ qn := xlt2 hl0 hqn
    have ne_6 : el ≠ qn := xlt2 he0 hqn
    have ne_7 : y ≠ qn := xlt2 hy0 hqn
    have he0 := hcn.at he0 (xn1 (Ne.symm hne))
    have hy0 := hcn.at hy0 (xn1 hyl)
    refine lv_astore_n (lv' := [(2, .ref qn), (0, .ref li), (1, .ref y), (3, .int (nI n))]) hx hb dJx4a65c_add_72be8_10 rfl hl (by decide) rfl (fun ls hl => ?_)
    refine lv_aload_n hx hb dJx4a65c_add_72be8_11 rfl (lv_at hl 0 rfl) ?_
    refine lv_iload_n hx hb dJx4a65c_add_72be8_12 rfl (lv_at hl 3 rfl) ?_
    refine lv_aload_n hx hb dJx4a65c_add_72be8_13 rfl (lv_at hl 2 rfl) ?_
    refine x_astq (G := G) (j := n) hx hb hC hS hA_qn hnn hy0 (by omega) (by omega) dJx4a65c_add_72be8_14 (fun H_9 locs hnn hc_8 hS => ?_)
    have he0 := hc_8.at he0 (xn1 ne_6)
    have hy0 := hc_8.at hy0 (xn1 ne_7)
    have hln := hc_8.at hln (xn1 ne_5)
    refine lv_aload_n hx hb dJx4a65c_add_72be8_15 rfl (lv_at hl 1 rfl) ?_
    refine lv_iload_n hx hb dJx4a65c_add_72be8_16 rfl (lv_at hl 3 rfl) ?_
    refine lv_iconst (v := (nI 1)) hx hb dJx4a65c_add_72be8_17 (by decide) ?_
    refine x_iaddn (a := n) (b := 1) hx hb dJx4a65c_add_72be8_18 ?_
    refine x_put (G := G) (ci := 0) (v := .int (nI (n + 1))) (ty := .int) (C := RJx4a65c) (T := TJx4a65c) (N := 3) hx hb hts (by decide +kernel) tyJx4a65c tyJx4a65c_ok nmJx4a65c hown hC hS hA_li hln rfl 2 (by decide) (hts (.fieldLink RJx4a65c 48 "java/util/ArrayList" "size" "I") (by decide +kernel)) (fun _ h9 => h9) rfl (by decide +kernel) rfl rfl (Nat.le_of_ble_eq_true rfl) dJx4a65c_add_72be8_19 (fun H_11 locs hln hc_10 hS => ?_)
    have hln : oA G li 0 [.int m9, .ref qn, .int (nI (n + 1))] H_11 := hln
    have he0 := hc_10.at he0 (xn1 (Ne.symm hne))
    have hy0 := hc_10.at hy0 (xn1 hyl)
    have hnn := hc_10.at hnn (xn1 (Ne.symm ne_5))
    have _ := hcn.1
    have _ := hc_8.1
    have _ := hc_10.1
    exact x_vret (G := G) hx hb hr dJx4a65c_add_72be8_22 hlocks hS (by first | exact Nat.le_of_ble_eq_true rfl | exact (show 0 + 1 ≤ 1 by omega)) (by first | exact Nat.le_of_ble_eq_true rfl | exact (show 0 + 60 ≤ 60 by omega)) ⟨rfl, qn, kn, (va_up (va_cpy a (fun _ => none) 0 0 n) n (some y)), by omega, by omega, hln, hnn, hA_qn, ne_5, fun i hi => by rw [va_up_ne _ _ (by omega)]; exact (pk_cpy_in (by omega) (by omega)).trans (by rw [Nat.zero_add, Nat.sub_zero]), va_up_self _ _ _, Or.inr hqn, ((hcn.tr (hc_8.tr hc_10)).mono (fun q hq => by simp only [List.mem_append, List.mem_cons, List.not_mem_nil, or_false, false_or] at hq ⊢; omega))⟩

set_option maxHeartbeats 4000000 in
set_option maxRecDepth 100000 in
/-- add(e, row, 0): the empty row -/
theorem c_add3_first (l : Launch) (hfl : l.stackTraces = false) (G : xG) (li y : Nat) (m9 : Int32) (a : Nat → Option Nat) (fs : List Value) (H : Heap) (hl0 : oA G li 0 [.int m9, .ref (xE G), .int (nI 0)] H) (hA_li : xA G li) (hyl : y ≠ li) (hy0 : oA G y 4 fs H) : xMet l G yJx4a65c_add_72be8 wsJx4a65c_add_72be8 ({ frames := 5, cells := 1, slots := 60, locals := 220 } : Room) [.ref li, .ref y, .ref (xE G), .int (nI 0)] H (fun v H1 => v = none ∧ ∃ q k b, k ≤ 60 ∧ 0 + 1 ≤ k ∧ oA G li 0 [.int m9, .ref q, .int (nI (0 + 1))] H1 ∧ qA G q k b H1 ∧ xA G q ∧ li ≠ q ∧ (∀ i, i < 0 → b i = a i) ∧ b 0 = some y ∧ (q = (xE G) ∨ H.size ≤ q) ∧ xC [li, (xE G)] H H1) (xNo) := by
  refine vx_ofW (cc := cJx4a65c_add_72be8) (maxL := 4) (ret := none) (by decide) rfl ?_
  intro Pg Ev s m args below meth c s₁ B hml hout hv
  obtain ⟨rfl, hH, hC⟩ := hv
  have hx := B.exec
  have hb := B.bytes
  have hr := B.returns
  have hts := atoms_spec (ws := wsJx4a65c_add_72be8) B.pre
  have hown : s.vm.findClass RJx4a65c = some m.cls := findClass_of_methodNamed B.named
  have hlocks := B.notSynchronized
  rw [hH]
  have hS : va_S (xA G) s.heap H [] := by rw [← hH]; exact va_S.rf
  generalize ([] : List Loc) = locs at hS ⊢
  have hl := lv_entry [.ref li, .ref y, .ref (xE G), .int (nI 0)] (n := 4) (Nat.le_of_ble_eq_true rfl)
  rw [lg_entry_eq]
  generalize (lg_sl [.ref li, .ref y, .ref (xE G), .int (nI 0)] ++ List.replicate (4 - (lg_sl [.ref li, .ref y, .ref (xE G), .int (nI 0)]).length) Slot.unset).toArray = ls at hl ⊢
  have hl : lv_has ls 4 [(0, .ref li), (1, .ref y), (2, .ref (xE G)), (3, .int (nI 0))] := hl
  refine lv_iload_n hx hb dJx4a65c_add_72be8_0 rfl (lv_at hl 3 rfl) ?_
  refine lv_aload_n hx hb dJx4a65c_add_72be8_1 rfl (lv_at hl 2 rfl) ?_
  refine va_tlen (v := nI 0) hx hb hC.2.2.2.2.2.2.2.1 hS rfl dJx4a65c_add_72be8_2 ?_
  refine lv_icmp_ne (tgt := 11) hx hb dJx4a65c_add_72be8_3 (by decide) (fun c_1 => ?_) (fun c_1 => ?_)
  · have _ := hx
    have c_1 : ¬ (0 = 0) := fun z => c_1 ((nI_eq (a := 0) (b := 0) (by omega) (by omega)).mpr z)
    exact absurd c_1 (by omega)
  · have _ := hx
    have c_1 : 0 = 0 := (nI_eq (a := 0) (b := 0) (by omega) (by omega)).mp c_1
    refine lv_aload_n hx hb dJx4a65c_add_72be8_6 rfl (lv_at hl 0 rfl) ?_
    have hsz := hS.1
    refine x_call (px := xNo) (vx_runV (As := []) (rest := []) ⟨hx, hb, hml, hown, hts⟩ (c_grow_first l hfl G li m9 H hl0 hA_li) (cwV 0 hts gJx4a65c_add_72be8_Jx4a65c_grow_d5877 rfl rfl rfl (by decide +kernel) ⟨(Nat.le_of_ble_eq_true rfl), (Nat.le_of_ble_eq_true rfl)⟩) (xPreV hC hS hl0 (q := (RJx4a65c, TJx4a65c, 3)) rfl) rfl rfl hl.1 rfl (lv_room (Nat.le_of_ble_eq_true rfl)) dJx4a65c_add_72be8_7 ⟨(by first | exact Nat.le_of_ble_eq_true rfl | exact (show 0 + 1 ≤ 1 by omega)), (by first | exact Nat.le_of_ble_eq_true rfl | exact (show 0 + 60 ≤ 60 by omega))⟩) hS (fun _ h => h) (fun _ _ _ _ _ h => False.elim h) (fun v H_2 locs hp hz hk_3 hS => ?_)
    obtain ⟨qn, hqn, rfl, hln, hnn, hcn⟩ := hp
    have hA_qn : xA G qn := hC.2.2.1 _ (Nat.le_trans hsz hqn)
    have ne_5 : li ≠ qn := xlt2 hl0 hqn
    have ne_6 : y ≠ qn := xlt2 hy0 hqn
    have hy0 := hcn.at hy0 (xn1 hyl)
    refine lv_astore_n (lv' := [(2, .ref qn), (0, .ref li), (1, .ref y), (3, .int (nI 0))]) hx hb dJx4a65c_add_72be8_10 rfl hl (by decide) rfl (fun ls hl => ?_)
    refine lv_aload_n hx hb dJx4a65c_add_72be8_11 rfl (lv_at hl 0 rfl) ?_
    refine lv_iload_n hx hb dJx4a65c_add_72be8_12 rfl (lv_at hl 3 rfl) ?_
    refine lv_aload_n hx hb dJx4a65c_add_72be8_13 rfl (lv_at hl 2 rfl) ?_
    refine x_astq (G := G) (j := 0) hx hb hC hS hA_qn hnn hy0 (by omega) (by omega) dJx4a65c_add_72be8_14 (fun H_8 locs hnn hc_7 hS => ?_)
    have hy0 := hc_7.at hy0 (xn1 ne_6)
    have hln := hc_7.at hln (xn1 ne_5)
    refine lv_aload_n hx hb dJx4a65c_add_72be8_15 rfl (lv_at hl 1 rfl) ?_
    refine lv_iload_n hx hb dJx4a65c_add_72be8_16 rfl (lv_at hl 3 rfl) ?_
    refine lv_iconst (v := (nI 1)) hx hb dJx4a65c_add_72be8_17 (by decide) ?_
    refine x_iaddn (a := 0) (b := 1) hx hb dJx4a65c_add_72be8_18 ?_
    refine x_put (G := G) (ci := 0) (v := .int (nI (0 + 1))) (ty := .int) (C := RJx4a65c) (T := TJx4a65c) (N := 3) hx hb hts (by decide +kernel) tyJx4a65c tyJx4a65c_ok nmJx4a65c hown hC hS hA_li hln rfl 2 (by decide) (hts (.fieldLink RJx4a65c 48 "java/util/ArrayList" "size" "I") (by decide +kernel)) (fun _ h9 => h9) rfl (by decide +kernel) rfl rfl (Nat.le_of_ble_eq_true rfl) dJx4a65c_add_72be8_19 (fun H_10 locs hln hc_9 hS => ?_)
    have hln : oA G li 0 [.int m9, .ref qn, .int (nI (0 + 1))] H_10 := hln
    have hy0 := hc_9.at hy0 (xn1 hyl)
    have hnn := hc_9.at hnn (xn1 (Ne.symm ne_5))
    have _ := hcn.1
    have _ := hc_7.1
    have _ := hc_9.1
    exact x_vret (G := G) hx hb hr dJx4a65c_add_72be8_22 hlocks hS (by first | exact Nat.le_of_ble_eq_true rfl | exact (show 0 + 1 ≤ 1 by omega)) (by first | exact Nat.le_of_ble_eq_true rfl | exact (show 0 + 60 ≤ 60 by omega)) ⟨rfl, qn, 10, (va_up (fun _ => none) 0 (some y)), by omega, by omega, hln, hnn, hA_qn, ne_5, fun i hi => absurd hi (by omega), va_up_self _ _ _, Or.inr hqn, ((hcn.tr (hc_7.tr hc_9)).mono (fun q hq => by simp only [List.mem_append, List.mem_cons, List.not_mem_nil, or_false, false_or] at hq ⊢; omega))⟩

set_option maxHeartbeats 4000000 in
set_option maxRecDepth 100000 in
/-- add(e): there is room -/
theorem c_add1_room (l : Launch) (hfl : l.stackTraces = false) (G : xG) (li el n k9 y : Nat) (m9 : Int32) (a : Nat → Option Nat) (fs : List Value) (H : Heap) (hl0 : oA G li 0 [.int m9, .ref el, .int (nI n)] H) (he0 : qA G el k9 a H) (hA_li : xA G li) (hA_el : xA G el) (hne : li ≠ el) (hyl : y ≠ li) (hye : y ≠ el) (hy0 : oA G y 4 fs H) (hn : n < k9) (hk9 : k9 ≤ 60) : xMet l G yJx4a65c_add_9ea2d wsJx4a65c_add_9ea2d ({ frames := 6, cells := 1, slots := 60, locals := 280 } : Room) [.ref li, .ref y] H (fun v H1 => v = some (.int (nI 1)) ∧ ∃ q k b, k ≤ 60 ∧ n + 1 ≤ k ∧ oA G li 0 [.int (m9 + nI 1), .ref q, .int (nI (n + 1))] H1 ∧ qA G q k b H1 ∧ xA G q ∧ li ≠ q ∧ (∀ i, i < n → b i = a i) ∧ b n = some y ∧ (q = el ∨ H.size ≤ q) ∧ xC [li, el] H H1) (xNo) := by
  refine vx_ofW (cc := cJx4a65c_add_9ea2d) (maxL := 2) (ret := (some .boolean)) (by decide) rfl ?_
  intro Pg Ev s m args below meth c s₁ B hml hout hv
  obtain ⟨rfl, hH, hC⟩ := hv
  have hx := B.exec
  have hb := B.bytes
  have hr := B.returns
  have hts := atoms_spec (ws := wsJx4a65c_add_9ea2d) B.pre
  have hown : s.vm.findClass RJx4a65c = some m.cls := findClass_of_methodNamed B.named
  have hlocks := B.notSynchronized
  rw [hH]
  have hS : va_S (xA G) s.heap H [] := by rw [← hH]; exact va_S.rf
  generalize ([] : List Loc) = locs at hS ⊢
  have hl := lv_entry [.ref li, .ref y] (n := 2) (Nat.le_of_ble_eq_true rfl)
  rw [lg_entry_eq]
  generalize (lg_sl [.ref li, .ref y] ++ List.replicate (2 - (lg_sl [.ref li, .ref y]).length) Slot.unset).toArray = ls at hl ⊢
  have hl : lv_has ls 2 [(0, .ref li), (1, .ref y)] := hl
  refine lv_aload_n hx hb dJx4a65c_add_9ea2d_0 rfl (lv_at hl 0 rfl) ?_
  refine lv_dup hx hb dJx4a65c_add_9ea2d_1 rfl ?_
  refine va_get (D := xD G) (ci := 0) (v := .int m9) (C := RJx4a65c) (T := TJx4a65c) (N := 3) hx hb hts (by decide +kernel) hown hC.1 (x1 hl0) 0 rfl rfl 0 (by decide) (hts (.fieldLink RJx4a65c 63 "java/util/ArrayList" "modCount" "I") (by decide +kernel)) (fun x h9 => u_same (hts (.sameField "java/util/ArrayList" "java/util/AbstractList" "modCount" "I") (by decide +kernel)) x h9) rfl dJx4a65c_add_9ea2d_2 ?_
  refine lv_iconst (v := (nI 1)) hx hb dJx4a65c_add_9ea2d_5 (by decide) ?_
  refine lv_iadd hx hb dJx4a65c_add_9ea2d_6 ?_
  refine x_put (G := G) (ci := 0) (v := .int (m9 + (nI 1))) (ty := .int) (C := RJx4a65c) (T := TJx4a65c) (N := 3) hx hb hts (by decide +kernel) tyJx4a65c tyJx4a65c_ok nmJx4a65c hown hC hS hA_li hl0 rfl 0 (by decide) (hts (.fieldLink RJx4a65c 63 "java/util/ArrayList" "modCount" "I") (by decide +kernel)) (fun x h9 => u_same (hts (.sameField "java/util/ArrayList" "java/util/AbstractList" "modCount" "I") (by decide +kernel)) x h9) rfl (by decide +kernel) rfl rfl (Nat.le_of_ble_eq_true rfl) dJx4a65c_add_9ea2d_7 (fun H_2 locs hl0 hc_1 hS => ?_)
  have hl0 : oA G li 0 [.int (m9 + (nI 1)), .ref el, .int (nI n)] H_2 := hl0
  have he0 := hc_1.at he0 (xn1 (Ne.symm hne))
  have hy0 := hc_1.at hy0 (xn1 hyl)
  refine lv_aload_n hx hb dJx4a65c_add_9ea2d_10 rfl (lv_at hl 0 rfl) ?_
  refine lv_aload_n hx hb dJx4a65c_add_9ea2d_11 rfl (lv_at hl 1 rfl) ?_
  refine lv_aload_n hx hb dJx4a65c_add_9ea2d_12 rfl (lv_at hl 0 rfl) ?_
  refine va_get (D := xD G) (ci := 0) (v := .ref el) (C := RJx4a65c) (T := TJx4a65c) (N := 3) hx hb hts (by decide +kernel) hown hC.1 (x1 hl0) 0 rfl rfl 1 (by decide) (hts (.fieldLink RJx4a65c 9 "java/util/ArrayList" "elementData" "[Ljava/lang/Object;") (by decide +kernel)) (fun _ h9 => h9) rfl dJx4a65c_add_9ea2d_13 ?_
  refine lv_aload_n hx hb dJx4a65c_add_9ea2d_16 rfl (lv_at hl 0 rfl) ?_
  refine va_get (D := xD G) (ci := 0) (v := .int (nI n)) (C := RJx4a65c) (T := TJx4a65c) (N := 3) hx hb hts (by decide +kernel) hown hC.1 (x1 hl0) 0 rfl rfl 2 (by decide) (hts (.fieldLink RJx4a65c 48 "java/util/ArrayList" "size" "I") (by decide +kernel)) (fun _ h9 => h9) rfl dJx4a65c_add_9ea2d_17 ?_
  have hsz := hS.1
  refine x_call (px := xNo) (vx_runV (As := [.ref y, .ref el, .int (nI n)]) (rest := []) ⟨hx, hb, hml, hown, hts⟩ (c_add3_room l hfl G li el n k9 y (m9 + nI 1) a fs H_2 hl0 he0 hA_li hA_el hne hyl hye hy0 hn hk9) (cwV 3 hts gJx4a65c_add_9ea2d_Jx4a65c_add_72be8 rfl rfl rfl (by decide +kernel) ⟨(Nat.le_of_ble_eq_true rfl), (Nat.le_of_ble_eq_true rfl)⟩) (xPreV hC hS hl0 (q := (RJx4a65c, TJx4a65c, 3)) rfl) rfl rfl hl.1 rfl (lv_room (Nat.le_of_ble_eq_true rfl)) dJx4a65c_add_9ea2d_20 ⟨(by first | exact Nat.le_of_ble_eq_true rfl | exact (show 0 + 1 ≤ 1 by omega)), (by first | exact Nat.le_of_ble_eq_true rfl | exact (show 0 + 60 ≤ 60 by omega))⟩) hS (fun _ h => h) (fun _ _ _ _ _ h => False.elim h) (fun v H_3 locs hp hz hk_4 hS => ?_)
  obtain ⟨rfl, qn, kn, bn, hq1, hq2, hln, hqn, hqA, hqne, hb1, hb2, hqo, hcn⟩ := hp
  refine lv_iconst (v := (nI 1)) hx hb dJx4a65c_add_9ea2d_23 (by decide) ?_
  have _ := hc_1.1
  have _ := hcn.1
  exact x_iret (G := G) hx hb hr (by rfl) dJx4a65c_add_9ea2d_24 hlocks hS (by first | exact Nat.le_of_ble_eq_true rfl | exact (show 0 + 1 ≤ 1 by omega)) (by first | exact Nat.le_of_ble_eq_true rfl | exact (show 0 + 60 ≤ 60 by omega)) ⟨rfl, qn, kn, bn, hq1, hq2, hln, hqn, hqA, hqne, hb1, hb2, hqo.elim Or.inl (fun z => Or.inr (Nat.le_trans hc_1.1 z)), ((hc_1.tr hcn).mono (fun q hq => by simp only [List.mem_append, List.mem_cons, List.not_mem_nil, or_false, false_or] at hq ⊢; omega))⟩

set_option maxHeartbeats 4000000 in
set_option maxRecDepth 100000 in
/-- add(e): the row is full -/
theorem c_add1_more (l : Launch) (hfl : l.stackTraces = false) (G : xG) (li el n y : Nat) (m9 : Int32) (a : Nat → Option Nat) (fs : List Value) (H : Heap) (hl0 : oA G li 0 [.int m9, .ref el, .int (nI n)] H) (hA_li : xA G li) (hA_el : xA G el) (hne : li ≠ el) (hyl : y ≠ li) (hye : y ≠ el) (hy0 : oA G y 4 fs H) (he0 : qA G el n a H) (hel : ∀ i : Nat, i < n → ∀ y : Nat, a i = some y → ∃ fs, oA G y 4 fs H) (hn1 : 1 ≤ n) (hn : n ≤ 30) (hely : ∀ i : Nat, i < n → a i ≠ some li) : xMet l G yJx4a65c_add_9ea2d wsJx4a65c_add_9ea2d ({ frames := 6, cells := 1, slots := 60, locals := 280 } : Room) [.ref li, .ref y] H (fun v H1 => v = some (.int (nI 1)) ∧ ∃ q k b, k ≤ 60 ∧ n + 1 ≤ k ∧ oA G li 0 [.int (m9 + nI 1), .ref q, .int (nI (n + 1))] H1 ∧ qA G q k b H1 ∧ xA G q ∧ li ≠ q ∧ (∀ i, i < n → b i = a i) ∧ b n = some y ∧ (q = el ∨ H.size ≤ q) ∧ xC [li, el] H H1) (xNo) := by
  refine vx_ofW (cc := cJx4a65c_add_9ea2d) (maxL := 2) (ret := (some .boolean)) (by decide) rfl ?_
  intro Pg Ev s m args below meth c s₁ B hml hout hv
  obtain ⟨rfl, hH, hC⟩ := hv
  have hx := B.exec
  have hb := B.bytes
  have hr := B.returns
  have hts := atoms_spec (ws := wsJx4a65c_add_9ea2d) B.pre
  have hown : s.vm.findClass RJx4a65c = some m.cls := findClass_of_methodNamed B.named
  have hlocks := B.notSynchronized
  rw [hH]
  have hS : va_S (xA G) s.heap H [] := by rw [← hH]; exact va_S.rf
  generalize ([] : List Loc) = locs at hS ⊢
  have hl := lv_entry [.ref li, .ref y] (n := 2) (Nat.le_of_ble_eq_true rfl)
  rw [lg_entry_eq]
  generalize (lg_sl [.ref li, .ref y] ++ List.replicate (2 - (lg_sl [.ref li, .ref y]).length) Slot.unset).toArray = ls at hl ⊢
  have hl : lv_has ls 2 [(0, .ref li), (1, .ref y)] := hl
  refine lv_aload_n hx hb dJx4a65c_add_9ea2d_0 rfl (lv_at hl 0 rfl) ?_
  refine lv_dup hx hb dJx4a65c_add_9ea2d_1 rfl ?_
  refine va_get (D := xD G) (ci := 0) (v := .int m9) (C := RJx4a65c) (T := TJx4a65c) (N := 3) hx hb hts (by decide +kernel) hown hC.1 (x1 hl0) 0 rfl rfl 0 (by decide) (hts (.fieldLink RJx4a65c 63 "java/util/ArrayList" "modCount" "I") (by decide +kernel)) (fun x h9 => u_same (hts (.sameField "java/util/ArrayList" "java/util/AbstractList" "modCount" "I") (by decide +kernel)) x h9) rfl dJx4a65c_add_9ea2d_2 ?_
  refine lv_iconst (v := (nI 1)) hx hb dJx4a65c_add_9ea2d_5 (by decide) ?_
  refine lv_iadd hx hb dJx4a65c_add_9ea2d_6 ?_
  refine x_put (G := G) (ci := 0) (v := .int (m9 + (nI 1))) (ty := .int) (C := RJx4a65c) (T := TJx4a65c) (N := 3) hx hb hts (by decide +kernel) tyJx4a65c tyJx4a65c_ok nmJx4a65c hown hC hS hA_li hl0 rfl 0 (by decide) (hts (.fieldLink RJx4a65c 63 "java/util/ArrayList" "modCount" "I") (by decide +kernel)) (fun x h9 => u_same (hts (.sameField "java/util/ArrayList" "java/util/AbstractList" "modCount" "I") (by decide +kernel)) x h9) rfl (by decide +kernel) rfl rfl (Nat.le_of_ble_eq_true rfl) dJx4a65c_add_9ea2d_7 (fun H_2 locs hl0 hc_1 hS => ?_)
  have hl0 : oA G li 0 [.int (m9 + (nI 1)), .ref el, .int (nI n)] H_2 := hl0
  have he0 := hc_1.at he0 (xn1 (Ne.symm hne))
  have hy0 := hc_1.at hy0 (xn1 hyl)
  refine lv_aload_n hx hb dJx4a65c_add_9ea2d_10 rfl (lv_at hl 0 rfl) ?_
  refine lv_aload_n hx hb dJx4a65c_add_9ea2d_11 rfl (lv_at hl 1 rfl) ?_
  refine lv_aload_n hx hb dJx4a65c_add_9ea2d_12 rfl (lv_at hl 0 rfl) ?_
  refine va_get (D := xD G) (ci := 0) (v := .ref el) (C := RJx4a65c) (T := TJx4a65c) (N := 3) hx hb hts (by decide +kernel) hown hC.1 (x1 hl0) 0 rfl rfl 1 (by decide) (hts (.fieldLink RJx4a65c 9 "java/util/ArrayList" "elementData" "[Ljava/lang/Object;") (by decide +kernel)) (fun _ h9 => h9) rfl dJx4a65c_add_9ea2d_13 ?_
  refine lv_aload_n hx hb dJx4a65c_add_9ea2d_16 rfl (lv_at hl 0 rfl) ?_
  refine va_get (D := xD G) (ci := 0) (v := .int (nI n)) (C := RJx4a65c) (T := TJx4a65c) (N := 3) hx hb hts (by decide +kernel) hown hC.1 (x1 hl0) 0 rfl rfl 2 (by decide) (hts (.fieldLink RJx4a65c 48 "java/util/ArrayList" "size" "I") (by decide +kernel)) (fun _ h9 => h9) rfl dJx4a65c_add_9ea2d_17 ?_
  have hsz := hS.1
  refine x_call (px := xNo) (vx_runV (As := [.ref y, .ref el, .int (nI n)]) (rest := []) ⟨hx, hb, hml, hown, hts⟩ (c_add3_more l hfl G li el n y (m9 + nI 1) a fs H_2 hl0 hA_li hA_el hne hyl hye hy0 he0 (fun i hi y hy => by obtain ⟨fs, hfs⟩ := hel i hi y hy; exact ⟨fs, hc_1.at hfs (xn1 (fun z => hely i hi (by rw [hy]; exact congrArg some z)))⟩) hn1 hn) (cwV 3 hts gJx4a65c_add_9ea2d_Jx4a65c_add_72be8 rfl rfl rfl (by decide +kernel) ⟨(Nat.le_of_ble_eq_true rfl), (Nat.le_of_ble_eq_true rfl)⟩) (xPreV hC hS hl0 (q := (RJx4a65c, TJx4a65c, 3)) rfl) rfl rfl hl.1 rfl (lv_room (Nat.le_of_ble_eq_true rfl)) dJx4a65c_add_9ea2d_20 ⟨(by first | exact Nat.le_of_ble_eq_true rfl | exact (show 0 + 1 ≤ 1 by omega)), (by first | exact Nat.le_of_ble_eq_true rfl | exact (show 0 + 60 ≤ 60 by omega))⟩) hS (fun _ h => h) (fun _ _ _ _ _ h => False.elim h) (fun v H_3 locs hp hz hk_4 hS => ?_)
  obtain ⟨rfl, qn, kn, bn, hq1, hq2, hln, hqn, hqA, hqne, hb1, hb2, hqo, hcn⟩ := hp
  refine lv_iconst (v := (nI 1)) hx hb dJx4a65c_add_9ea2d_23 (by decide) ?_
  have _ := hc_1.1
  have _ := hcn.1
  exact x_iret (G := G) hx hb hr (by rfl) dJx4a65c_add_9ea2d_24 hlocks hS (by first | exact Nat.le_of_ble_eq_true rfl | exact (show 0 + 1 ≤ 1 by omega)) (by first | exact Nat.le_of_ble_eq_true rfl | exact (show 0 + 60 ≤ 60 by omega)) ⟨rfl, qn, kn, bn, hq1, hq2, hln, hqn, hqA, hqne, hb1, hb2, hqo.elim Or.inl (fun z => Or.inr (Nat.le_trans hc_1.1 z)), ((hc_1.tr hcn).mono (fun q hq => by simp only [List.mem_append, List.mem_cons, List.not_mem_nil, or_false, false_or] at hq ⊢; omega))⟩

set_option maxHeartbeats 4000000 in
set_option maxRecDepth 100000 in
/-- add(e): the empty row -/
theorem c_add1_first (l : Launch) (hfl : l.stackTraces = false) (G : xG) (li y : Nat) (m9 : Int32) (a : Nat → Option Nat) (fs : List Value) (H : Heap) (hl0 : oA G li 0 [.int m9, .ref (xE G), .int (nI 0)] H) (hA_li : xA G li) (hyl : y ≠ li) (hy0 : oA G y 4 fs H) : xMet l G yJx4a65c_add_9ea2d wsJx4a65c_add_9ea2d ({ frames := 6, cells := 1, slots := 60, locals := 280 } : Room) [.ref li, .ref y] H (fun v H1 => v = some (.int (nI 1)) ∧ ∃ q k b, k ≤ 60 ∧ 0 + 1 ≤ k ∧ oA G li 0 [.int (m9 + nI 1), .ref q, .int (nI (0 + 1))] H1 ∧ qA G q k b H1 ∧ xA G q ∧ li ≠ q ∧ (∀ i, i < 0 → b i = a i) ∧ b 0 = some y ∧ (q = (xE G) ∨ H.size ≤ q) ∧ xC [li, (xE G)] H H1) (xNo) := by
  refine vx_ofW (cc := cJx4a65c_add_9ea2d) (maxL := 2) (ret := (some .boolean)) (by decide) rfl ?_
  intro Pg Ev s m args below meth c s₁ B hml hout hv
  obtain ⟨rfl, hH, hC⟩ := hv
  have hx := B.exec
  have hb := B.bytes
  have hr := B.returns
  have hts := atoms_spec (ws := wsJx4a65c_add_9ea2d) B.pre
  have hown : s.vm.findClass RJx4a65c = some m.cls := findClass_of_methodNamed B.named
  have hlocks := B.notSynchronized
  rw [hH]
  have hS : va_S (xA G) s.heap H [] := by rw [← hH]; exact va_S.rf
  generalize ([] : List Loc) = locs at hS ⊢
  have hl := lv_entry [.ref li, .ref y] (n := 2) (Nat.le_of_ble_eq_true rfl)
  rw [lg_entry_eq]
  generalize (lg_sl [.ref li, .ref y] ++ List.replicate (2 - (lg_sl [.ref li, .ref y]).length) Slot.unset).toArray = ls at hl ⊢
  have hl : lv_has ls 2 [(0, .ref li), (1, .ref y)] := hl
  refine lv_aload_n hx hb dJx4a65c_add_9ea2d_0 rfl (lv_at hl 0 rfl) ?_
  refine lv_dup hx hb dJx4a65c_add_9ea2d_1 rfl ?_
  refine va_get (D := xD G) (ci := 0) (v := .int m9) (C := RJx4a65c) (T := TJx4a65c) (N := 3) hx hb hts (by decide +kernel) hown hC.1 (x1 hl0) 0 rfl rfl 0 (by decide) (hts (.fieldLink RJx4a65c 63 "java/util/ArrayList" "modCount" "I") (by decide +kernel)) (fun x h9 => u_same (hts (.sameField "java/util/ArrayList" "java/util/AbstractList" "modCount" "I") (by decide +kernel)) x h9) rfl dJx4a65c_add_9ea2d_2 ?_
  refine lv_iconst (v := (nI 1)) hx hb dJx4a65c_add_9ea2d_5 (by decide) ?_
  refine lv_iadd hx hb dJx4a65c_add_9ea2d_6 ?_
  refine x_put (G := G) (ci := 0) (v := .int (m9 + (nI 1))) (ty := .int) (C := RJx4a65c) (T := TJx4a65c) (N := 3) hx hb hts (by decide +kernel) tyJx4a65c tyJx4a65c_ok nmJx4a65c hown hC hS hA_li hl0 rfl 0 (by decide) (hts (.fieldLink RJx4a65c 63 "java/util/ArrayList" "modCount" "I") (by decide +kernel)) (fun x h9 => u_same (hts (.sameField "java/util/ArrayList" "java/util/AbstractList" "modCount" "I") (by decide +kernel)) x h9) rfl (by decide +kernel) rfl rfl (Nat.le_of_ble_eq_true rfl) dJx4a65c_add_9ea2d_7 (fun H_2 locs hl0 hc_1 hS => ?_)
  have hl0 : oA G li 0 [.int (m9 + (nI 1)), .ref (xE G), .int (nI 0)] H_2 := hl0
  have hy0 := hc_1.at hy0 (xn1 hyl)
  refine lv_aload_n hx hb dJx4a65c_add_9ea2d_10 rfl (lv_at hl 0 rfl) ?_
  refine lv_aload_n hx hb dJx4a65c_add_9ea2d_11 rfl (lv_at hl 1 rfl) ?_
  refine lv_aload_n hx hb dJx4a65c_add_9ea2d_12 rfl (lv_at hl 0 rfl) ?_
  refine va_get (D := xD G) (ci := 0) (v := .ref (xE G)) (C := RJx4a65c) (T := TJx4a65c) (N := 3) hx hb hts (by decide +kernel) hown hC.1 (x1 hl0) 0 rfl rfl 1 (by decide) (hts (.fieldLink RJx4a65c 9 "java/util/ArrayList" "elementData" "[Ljava/lang/Object;") (by decide +kernel)) (fun _ h9 => h9) rfl dJx4a65c_add_9ea2d_13 ?_
  refine lv_aload_n hx hb dJx4a65c_add_9ea2d_16 rfl (lv_at hl 0 rfl) ?_
  refine va_get (D := xD G) (ci := 0) (v := .int (nI 0)) (C := RJx4a65c) (T := TJx4a65c) (N := 3) hx hb hts (by decide +kernel) hown hC.1 (x1 hl0) 0 rfl rfl 2 (by decide) (hts (.fieldLink RJx4a65c 48 "java/util/ArrayList" "size" "I") (by decide +kernel)) (fun _ h9 => h9) rfl dJx4a65c_add_9ea2d_17 ?_
  have hsz := hS.1
  refine x_call (px := xNo) (vx_runV (As := [.ref y, .ref (xE G), .int (nI 0)]) (rest := []) ⟨hx, hb, hml, hown, hts⟩ (c_add3_first l hfl G li y (m9 + nI 1) a fs H_2 hl0 hA_li hyl hy0) (cwV 3 hts gJx4a65c_add_9ea2d_Jx4a65c_add_72be8 rfl rfl rfl (by decide +kernel) ⟨(Nat.le_of_ble_eq_true rfl), (Nat.le_of_ble_eq_true rfl)⟩) (xPreV hC hS hl0 (q := (RJx4a65c, TJx4a65c, 3)) rfl) rfl rfl hl.1 rfl (lv_room (Nat.le_of_ble_eq_true rfl)) dJx4a65c_add_9ea2d_20 ⟨(by first | exact Nat.le_of_ble_eq_true rfl | exact (show 0 + 1 ≤ 1 by omega)), (by first | exact Nat.le_of_ble_eq_true rfl | exact (show 0 + 60 ≤ 60 by omega))⟩) hS (fun _ h => h) (fun _ _ _ _ _ h => False.elim h) (fun v H_3 locs hp hz hk_4 hS => ?_)
  obtain ⟨rfl, qn, kn, bn, hq1, hq2, hln, hqn, hqA, hqne, hb1, hb2, hqo, hcn⟩ := hp
  refine lv_iconst (v := (nI 1)) hx hb dJx4a65c_add_9ea2d_23 (by decide) ?_
  have _ := hc_1.1
  have _ := hcn.1
  exact x_iret (G := G) hx hb hr (by rfl) dJx4a65c_add_9ea2d_24 hlocks hS (by first | exact Nat.le_of_ble_eq_true rfl | exact (show 0 + 1 ≤ 1 by omega)) (by first | exact Nat.le_of_ble_eq_true rfl | exact (show 0 + 60 ≤ 60 by omega)) ⟨rfl, qn, kn, bn, hq1, hq2, hln, hqn, hqA, hqne, hb1, hb2, hqo.elim Or.inl (fun z => Or.inr (Nat.le_trans hc_1.1 z)), ((hc_1.tr hcn).mono (fun q hq => by simp only [List.mem_append, List.mem_cons, List.not_mem_nil, or_false, false_or] at hq ⊢; omega))⟩

/-- a list of n elements, in a row of its own, or in the empty row that all new lists share -/
def lA (G : xG) (li el : Nat) (m9 : Int32) (n k9 : Nat) (a : Nat → Option Nat) (H : Heap) : Prop := oA G li 0 [.int m9, .ref el, .int (nI n)] H ∧ n ≤ k9 ∧ k9 ≤ 60 ∧ ((n = 0 ∧ el = xE G) ∨ (qA G el k9 a H ∧ xA G el ∧ li ≠ el ∧ 1 ≤ k9))
theorem c_list_add (l : Launch) (hfl : l.stackTraces = false) (G : xG) (li el n k9 y : Nat) (m9 : Int32) (a : Nat → Option Nat) (fs : List Value) (H : Heap) (hL : lA G li el m9 n k9 a H) (hA_li : xA G li) (hyl : y ≠ li) (hye : y ≠ el) (hy0 : oA G y 4 fs H) (hel : ∀ i : Nat, i < n → ∀ y : Nat, a i = some y → ∃ fs, oA G y 4 fs H) (hn : n ≤ 30) (hely : ∀ i : Nat, i < n → a i ≠ some li) :
    xMet l G yJx4a65c_add_9ea2d wsJx4a65c_add_9ea2d ({ frames := 6, cells := 1, slots := 60, locals := 280 } : Room) [.ref li, .ref y] H (fun v H1 => v = some (.int (nI 1)) ∧ ∃ q k b, lA G li q (m9 + nI 1) (n + 1) k b H1 ∧ (∀ i, i < n → b i = a i) ∧ b n = some y ∧ (q = el ∨ H.size ≤ q) ∧ xC [li, el] H H1) xNo := by
  obtain ⟨hl0, h1, h2, h3⟩ := hL
  have key : ∀ (v : Option Value) (H1 : Heap), (v = some (.int (nI 1)) ∧ ∃ q k b, k ≤ 60 ∧ n + 1 ≤ k ∧ oA G li 0 [.int (m9 + nI 1), .ref q, .int (nI (n + 1))] H1 ∧ qA G q k b H1 ∧ xA G q ∧ li ≠ q ∧ (∀ i, i < n → b i = a i) ∧ b n = some y ∧ (q = el ∨ H.size ≤ q) ∧ xC [li, el] H H1) → (v = some (.int (nI 1)) ∧ ∃ q k b, lA G li q (m9 + nI 1) (n + 1) k b H1 ∧ (∀ i, i < n → b i = a i) ∧ b n = some y ∧ (q = el ∨ H.size ≤ q) ∧ xC [li, el] H H1) := by
    rintro v H1 ⟨e, q, k, b, g1, g2, g3, g4, g5, g6, g7, g8, g9, g10⟩
    exact ⟨e, q, k, b, ⟨g3, g2, g1, Or.inr ⟨g4, g5, g6, by omega⟩⟩, g7, g8, g9, g10⟩
  rcases h3 with ⟨rfl, rfl⟩ | ⟨he0, hA_el, hne, hk1⟩
  · exact x_post (c_add1_first l hfl G li y m9 a fs H hl0 hA_li hyl hy0) key
  · rcases Nat.lt_or_ge n k9 with c | c
    · exact x_post (c_add1_room l hfl G li el n k9 y m9 a fs H hl0 he0 hA_li hA_el hne hyl hye hy0 c h2) key
    · have e : k9 = n := by omega
      subst e
      exact x_post (c_add1_more l hfl G li el k9 y m9 a fs H hl0 hA_li hA_el hne hyl hye hy0 he0 hel hk1 hn hely) key
