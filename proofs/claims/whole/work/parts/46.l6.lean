/-! the law's 19 calls -/
set_option maxHeartbeats 2000000 in
set_option maxRecDepth 100000 in
/-- step -/
theorem law_step {p : Program} {e : Env} {s : State} {m : MethodId} {below : List Frame} {meth : Method} {c : Code} (l : Launch) (hfl : l.stackTraces = false) {b L : Nat} {xs : Nat → Int32} (hL : L ≤ 3072) (C0 : lw_At p s m meth c b L xs) (G : xG) (hG : lC G s) (o9 : Nat) (am : Nat → Nat) (h0 : L0 G s o9 am) (ad : Nat → Nat) (S : zS) (H : Heap) (locs : List Loc) (cells slots : Nat) (hc9 : cells + 60 ≤ 601024) (hs9 : slots + 1600 ≤ 7293034) (hI : LI G o9 am ad S H) (hS : va_S (xA G) s.heap H locs) (i : Nat) (hi : i + 6 ≤ L) (ls : Array Slot) (hl : lv_has ls 7 [(0, .ref b), (1, .ref (ad 0)), (2, .ref (am 0)), (3, .ref o9), (4, .int (nI i))]) (kk : ∀ (ad1 : Nat → Nat) (S1 : zS) (H1 : Heap) (locs1 : List Loc) (ls1 : Array Slot), ad1 0 = ad 0 → LI G o9 am ad1 S1 H1 → va_S (xA G) s.heap H1 locs1 → lv_has ls1 7 [(0, .ref b), (1, .ref (ad 0)), (2, .ref (am 0)), (3, .ref o9), (4, .int (nI i))] → W p l e room_1 s m #[Value.ref b] below meth c H1 locs1 (cells + 60) (slots + 1600) (lw_Z below #[Value.ref b] s) (F0 m 1193 ls1 [])) : W p l e room_1 s m #[Value.ref b] below meth c H locs cells slots (lw_Z below #[Value.ref b] s) (F0 m 132 ls []) := by
  obtain ⟨hx, hb, hr, hml, hown, hts0, hX0, hbl, hlocks, hgv⟩ := id C0
  have hown : s.vm.findClass RL = some m.cls := hown
  have hts : ∀ w ∈ wsL_law, w.before #[Value.ref b] s = true := fun w hw => hts0 w (wsL_law_in w hw)
  obtain ⟨hInv, ⟨f0, ho⟩, hX, tp, th, g, wo, z, hM⟩ := id hI
  have hW := hInv.1
  have hC := hG.1
  have hbA : ¬ xA G b := fun q => by have := (h0.1 b).mp q; omega
  have hAm := hM.owns
  have hw2 := L0.w2 hM hS h0
  refine lv_aload_n hx hb dL_law_132 rfl (lv_at hl 1 rfl) ?_
  refine lv_aload_n hx hb dL_law_133 rfl (lv_at hl 0 rfl) ?_
  refine lv_iload hx hb dL_law_134 (lv_at hl 4 rfl) ?_
  refine lv_iconst (v := (nI 1)) hx hb dL_law_136 (by decide) ?_
  refine x_iaddn (a := i) (b := 1) hx hb dL_law_137 ?_
  refine va_sld (A := xA G) hx hb hX0 hbl hbA hS (vp_in_nI (show (i + 1) < L by omega) (by omega)) dL_law_138 ?_
  rw [nI_clamp (show (i + 1) < 2 ^ 31 by omega)]
  refine lv_aload_n hx hb dL_law_139 rfl (lv_at hl 3 rfl) ?_
  refine x_call (G1 := lGw G am) (px := xNo) (vx_runSX (As := [.ref (ad 0), .int (xs (i + 1)), .ref o9]) (rest := []) ⟨hx, hb, hml, hown, hts⟩ (c_L_step l hfl (lGw G am) o9 ad S f0 (xs (i + 1)) H hX hW ho (L0.w (A := True) h0)) (vx_cwSW 3 hts gL_law_L_step rfl rfl rfl (by decide +kernel) ⟨(Nat.le_of_ble_eq_true rfl), (Nat.le_of_ble_eq_true rfl)⟩) (lPreS ⟨hC, hG.2⟩ hS (fun _ h => h.1) hw2) rfl rfl hl.1 rfl (lv_room (Nat.le_of_ble_eq_true rfl)) dL_law_140 ⟨show cells + 8 ≤ 601024 by omega, show slots + 60 ≤ 7293034 by omega⟩) hS (fun _ h => h.1) (fun _ _ _ _ _ h => h.elim) (fun v H1 locs hp hz hk hS => ?_)
  obtain ⟨rfl, ad2, f2, had, hX2, ho2, hf2⟩ := hp
  have hM := hM.w hz hk
  refine lv_istore (lv' := [(5, .int (nI (kstep S (xs (i + 1))))), (0, .ref b), (1, .ref (ad 0)), (2, .ref (am 0)), (3, .ref o9), (4, .int (nI i))]) hx hb dL_law_143 hl (by decide) rfl (fun ls hl => ?_)
  refine lv_aload_n hx hb dL_law_145 rfl (lv_at hl 3 rfl) ?_
  refine lv_aload_n hx hb dL_law_146 rfl (lv_at hl 1 rfl) ?_
  refine lv_iload hx hb dL_law_147 (lv_at hl 5 rfl) ?_
  refine lv_iconst (v := (nI 1)) hx hb dL_law_149 (by decide) ?_
  refine x_iaddn (a := i) (b := 1) hx hb dL_law_150 ?_
  refine va_sld (A := xA G) hx hb hX0 hbl hbA hS (vp_in_nI (show (i + 1) < L by omega) (by omega)) dL_law_151 ?_
  rw [nI_clamp (show (i + 1) < 2 ^ 31 by omega)]
  have hMx := hM.re (A := fun q => (∃ i, i < 11 ∧ q = am i) ∨ H1.size ≤ q) (fun i hi => Or.inl ⟨i, hi, rfl⟩)
  refine x_call (G1 := lGm G am H1.size) (px := xNo) (vx_runV (As := [.int (xs (i + 1))]) (rest := []) ⟨hx, hb, hml, hown, hts⟩ (c_X5_step l hfl (lGm G am H1.size) am S tp th g wo z (xs (i + 1)) H1 hMx hW) (cwV 1 hts gL_law_X5_step rfl rfl rfl (by decide +kernel) ⟨(Nat.le_of_ble_eq_true rfl), (Nat.le_of_ble_eq_true rfl)⟩) (lPreV hC hS (h0.m1 hAm hS) (fun q hq => Or.inr hq) hMx.2.1 (q := (RX5, TX5, 14)) rfl) rfl rfl hl.1 rfl (lv_room (Nat.le_of_ble_eq_true rfl)) dL_law_152 ⟨show cells + 8 + 0 ≤ 601024 by omega, show slots + 60 + 0 ≤ 7293034 by omega⟩) hS (h0.m1 hAm hS) (fun _ _ _ _ _ h => h.elim) (fun v H2 locs hp hz2 hk2 hS2 => ?_)
  obtain ⟨r9, rfl, hr9, tp2, g2, W2, z2, hM2⟩ := hp
  have hX3 := hX2.m h0 hS hAm hz2 hk2
  have ho3 := h0.o ho2 hk2
  have hM3 := hM2.un hAm
  have hS := hS2
  refine lv_istore (lv' := [(6, .int r9), (5, .int (nI (kstep S (xs (i + 1))))), (0, .ref b), (1, .ref (ad 0)), (2, .ref (am 0)), (3, .ref o9), (4, .int (nI i))]) hx hb dL_law_155 hl (by decide) rfl (fun ls hl => ?_)
  refine lv_aload_n hx hb dL_law_157 rfl (lv_at hl 4 rfl) ?_
  refine x_intE (vx_runV (As := []) (rest := []) ⟨hx, hb, hml, hown, hts⟩ (c_X5_thrown l hfl G am (if (kstep S (xs (i + 1))) = 0 then (zset S (zL S 20 + 1) (va_up (zP S 20) (zL S 20) (xs (i + 1)).toNatClampNeg)) else S) tp2 (kstep S (xs (i + 1))) g2 W2 z2 H2 hM3) (cwV 0 hts gL_law_X5_thrown rfl rfl rfl (by decide +kernel) ⟨(Nat.le_of_ble_eq_true rfl), (Nat.le_of_ble_eq_true rfl)⟩) (xPreV hC hS hM3.2.1 (q := (RX5, TX5, 14)) rfl) rfl rfl hl.1 rfl (lv_room (Nat.le_of_ble_eq_true rfl)) dL_law_158 ⟨show cells + 8 + 0 + 0 ≤ 601024 by omega, show slots + 60 + 0 + 0 ≤ 7293034 by omega⟩) hS (fun locs hS => ?_)
  refine lv_iload hx hb dL_law_161 (lv_at hl 1 rfl) ?_
  refine lv_icmp_eq (tgt := 168) hx hb dL_law_163 (by decide) (fun c_1 => ?_) (fun c_1 => ?_)
  · have _ := hx
    refine lv_iload hx hb dL_law_168 (lv_at hl 1 rfl) ?_
    refine lv_if_ne (tgt := 185) hx hb dL_law_170 (by decide) (fun c_2 => ?_) (fun c_2 => ?_)
    · have _ := hx
      have hk0 : ¬ (kstep S (xs (i + 1))) = 0 := fun q => c_2 ((nI_K (kle_step S (xs (i + 1)))).mpr q)
      refine lv_goto (tgt := 1193) hx hb dL_law_185 (by decide) ?_
      rw [if_neg hk0] at hM3 hX3
      exact W.widen (k := cells + 60) (n := slots + 1600) (show cells + 8 + 0 ≤ cells + 60 by omega) (show slots + 60 + 0 ≤ slots + 1600 by omega) (kk ad2 (S) H2 locs ls had ⟨hInv, ⟨_, ho3⟩, hX3, _, _, _, _, _, hM3⟩ hS (lv_sub hl [2, 3, 4, 5, 6] rfl))
    · have _ := hx
      have hk0 : (kstep S (xs (i + 1))) = 0 := (nI_K (kle_step S (xs (i + 1)))).mp (by first | exact c_2 | exact Classical.not_not.mp c_2)
      have hr9 := hr9 hk0
      subst hr9
      have hf2 := hf2 hk0
      refine lv_aload_n hx hb dL_law_173 rfl (lv_at hl 5 rfl) ?_
      refine lv_iconst (v := (nI 0)) hx hb dL_law_174 (by decide) ?_
      refine x_jald (G := G) (j := 0) hx hb hC ho3 (by decide) (by decide) dL_law_175 ?_
      rw [hf2]
      refine lv_iload hx hb dL_law_176 (lv_at hl 0 rfl) ?_
      refine lv_i2l (v := ((nI (zL S 20 + 1) : Int32).toInt64)) hx hb dL_law_178 rfl ?_
      refine W.lcmp hx hb dL_law_179 ?_
      refine lv_if_eq (tgt := 185) hx hb dL_law_180 (by decide) (fun c_3 => ?_) (fun c_3 => ?_)
      · have _ := hx
        refine lv_goto (tgt := 1193) hx hb dL_law_185 (by decide) ?_
        rw [if_pos hk0] at hM3 hX3
        exact W.widen (k := cells + 60) (n := slots + 1600) (show cells + 8 + 0 ≤ cells + 60 by omega) (show slots + 60 + 0 ≤ slots + 1600 by omega) (kk ad2 (zset S (zL S 20 + 1) (va_up (zP S 20) (zL S 20) (xs (i + 1)).toNatClampNeg)) H2 locs ls had ⟨l_step hInv hk0, ⟨_, ho3⟩, hX3, _, _, _, _, _, hM3⟩ hS (lv_sub hl [2, 3, 4, 5, 6] rfl))
      · have _ := hx
        exact absurd (lcmp_rf _) c_3
  · have _ := hx
    exact absurd rfl c_1

set_option maxHeartbeats 2000000 in
set_option maxRecDepth 100000 in
/-- scrap -/
theorem law_scrap {p : Program} {e : Env} {s : State} {m : MethodId} {below : List Frame} {meth : Method} {c : Code} (l : Launch) (hfl : l.stackTraces = false) {b L : Nat} {xs : Nat → Int32} (hL : L ≤ 3072) (C0 : lw_At p s m meth c b L xs) (G : xG) (hG : lC G s) (o9 : Nat) (am : Nat → Nat) (h0 : L0 G s o9 am) (ad : Nat → Nat) (S : zS) (H : Heap) (locs : List Loc) (cells slots : Nat) (hc9 : cells + 60 ≤ 601024) (hs9 : slots + 1600 ≤ 7293034) (hI : LI G o9 am ad S H) (hS : va_S (xA G) s.heap H locs) (i : Nat) (hi : i + 6 ≤ L) (ls : Array Slot) (hl : lv_has ls 7 [(0, .ref b), (1, .ref (ad 0)), (2, .ref (am 0)), (3, .ref o9), (4, .int (nI i))]) (kk : ∀ (ad1 : Nat → Nat) (S1 : zS) (H1 : Heap) (locs1 : List Loc) (ls1 : Array Slot), ad1 0 = ad 0 → LI G o9 am ad1 S1 H1 → va_S (xA G) s.heap H1 locs1 → lv_has ls1 7 [(0, .ref b), (1, .ref (ad 0)), (2, .ref (am 0)), (3, .ref o9), (4, .int (nI i))] → W p l e room_1 s m #[Value.ref b] below meth c H1 locs1 (cells + 60) (slots + 1600) (lw_Z below #[Value.ref b] s) (F0 m 1193 ls1 [])) : W p l e room_1 s m #[Value.ref b] below meth c H locs cells slots (lw_Z below #[Value.ref b] s) (F0 m 188 ls []) := by
  obtain ⟨hx, hb, hr, hml, hown, hts0, hX0, hbl, hlocks, hgv⟩ := id C0
  have hown : s.vm.findClass RL = some m.cls := hown
  have hts : ∀ w ∈ wsL_law, w.before #[Value.ref b] s = true := fun w hw => hts0 w (wsL_law_in w hw)
  obtain ⟨hInv, ⟨f0, ho⟩, hX, tp, th, g, wo, z, hM⟩ := id hI
  have hW := hInv.1
  have hC := hG.1
  have hbA : ¬ xA G b := fun q => by have := (h0.1 b).mp q; omega
  have hAm := hM.owns
  have hw2 := L0.w2 hM hS h0
  refine lv_aload_n hx hb dL_law_188 rfl (lv_at hl 1 rfl) ?_
  obtain ⟨fb, hfb, hx0⟩ := id hX.2.1
  have hoz : o9 < H.size := ho.lt
  refine x_call (G1 := xGo (lGw G am) o9) (px := xNo) (vx_runV (As := []) (rest := []) ⟨hx, hb, hml, hown, hts⟩ (c_X4_scrap l hfl (xGo (lGw G am) o9) ad S H hX hW) (cwV 0 hts gL_law_X4_scrap rfl rfl rfl (by decide +kernel) ⟨(Nat.le_of_ble_eq_true rfl), (Nat.le_of_ble_eq_true rfl)⟩) (lPreV hC hS (fun _ h => h.1.1) (fun q hq => ⟨hw2 q hq, fun w => by omega⟩) hx0 (q := (RX4, TX4, 11)) rfl) rfl rfl hl.1 rfl (lv_room (Nat.le_of_ble_eq_true rfl)) dL_law_189 ⟨show cells + 0 ≤ 601024 by omega, show slots + 0 ≤ 7293034 by omega⟩) hS (fun _ h => h.1.1) (fun _ _ _ _ _ h => h.elim) (fun v H1 locs hp hz hk hS => ?_)
  obtain ⟨rfl, hX2⟩ := hp
  have ho2 : jA G o9 1 f0 H1 := ho.kept (hk o9 hoz (fun q => q.2 rfl))
  have hM := hM.w1 hz hk
  have had : ad 0 = ad 0 := rfl
  refine lv_aload_n hx hb dL_law_192 rfl (lv_at hl 2 rfl) ?_
  have hMx := hM.re (A := fun q => (∃ i, i < 11 ∧ q = am i) ∨ H1.size ≤ q) (fun i hi => Or.inl ⟨i, hi, rfl⟩)
  refine x_call (G1 := lGm G am H1.size) (px := xNo) (vx_runV (As := []) (rest := [.int (nI (zL S 20))]) ⟨hx, hb, hml, hown, hts⟩ (c_X5_scrap l hfl (lGm G am H1.size) am S tp th g wo z H1 hMx hW) (cwV 0 hts gL_law_X5_scrap rfl rfl rfl (by decide +kernel) ⟨(Nat.le_of_ble_eq_true rfl), (Nat.le_of_ble_eq_true rfl)⟩) (lPreV hC hS (h0.m1 hAm hS) (fun q hq => Or.inr hq) hMx.2.1 (q := (RX5, TX5, 14)) rfl) rfl rfl hl.1 rfl (lv_room (Nat.le_of_ble_eq_true rfl)) dL_law_193 ⟨show cells + 0 + 0 ≤ 601024 by omega, show slots + 0 + 0 ≤ 7293034 by omega⟩) hS (h0.m1 hAm hS) (fun _ _ _ _ _ h => h.elim) (fun v H2 locs hp hz2 hk2 hS2 => ?_)
  obtain ⟨r9, rfl, hr9, tp2, g2, W2, z2, hM2⟩ := hp
  have hX3 := hX2.m h0 hS hAm hz2 hk2
  have ho3 := h0.o ho2 hk2
  have hM3 := hM2.un hAm
  have hS := hS2
  refine lv_icmp_eq (tgt := 1193) hx hb dL_law_196 (by decide) (fun c_1 => ?_) (fun c_1 => ?_)
  · have _ := hx
    have hM3 : MX G am (zset S 0 (zP S 20)) tp2 0 g2 W2 z2 H2 := hM3
    exact W.widen (k := cells + 60) (n := slots + 1600) (show cells + 0 + 0 ≤ cells + 60 by omega) (show slots + 0 + 0 ≤ slots + 1600 by omega) (kk ad (zset S 0 (zP S 20)) H2 locs ls had ⟨l_scrap hInv, ⟨_, ho3⟩, hX3, _, _, _, _, _, hM3⟩ hS (lv_sub hl [0, 1, 2, 3, 4] rfl))
  · have _ := hx
    exact absurd (hr9 rfl).symm c_1

set_option maxHeartbeats 2000000 in
set_option maxRecDepth 100000 in
/-- store -/
theorem law_store {p : Program} {e : Env} {s : State} {m : MethodId} {below : List Frame} {meth : Method} {c : Code} (l : Launch) (hfl : l.stackTraces = false) {b L : Nat} {xs : Nat → Int32} (hL : L ≤ 3072) (C0 : lw_At p s m meth c b L xs) (G : xG) (hG : lC G s) (o9 : Nat) (am : Nat → Nat) (h0 : L0 G s o9 am) (ad : Nat → Nat) (S : zS) (H : Heap) (locs : List Loc) (cells slots : Nat) (hc9 : cells + 60 ≤ 601024) (hs9 : slots + 1600 ≤ 7293034) (hI : LI G o9 am ad S H) (hS : va_S (xA G) s.heap H locs) (i : Nat) (hi : i + 6 ≤ L) (ls : Array Slot) (hl : lv_has ls 7 [(0, .ref b), (1, .ref (ad 0)), (2, .ref (am 0)), (3, .ref o9), (4, .int (nI i))]) (kk : ∀ (ad1 : Nat → Nat) (S1 : zS) (H1 : Heap) (locs1 : List Loc) (ls1 : Array Slot), ad1 0 = ad 0 → LI G o9 am ad1 S1 H1 → va_S (xA G) s.heap H1 locs1 → lv_has ls1 7 [(0, .ref b), (1, .ref (ad 0)), (2, .ref (am 0)), (3, .ref o9), (4, .int (nI i))] → W p l e room_1 s m #[Value.ref b] below meth c H1 locs1 (cells + 60) (slots + 1600) (lw_Z below #[Value.ref b] s) (F0 m 1193 ls1 [])) : W p l e room_1 s m #[Value.ref b] below meth c H locs cells slots (lw_Z below #[Value.ref b] s) (F0 m 201 ls []) := by
  obtain ⟨hx, hb, hr, hml, hown, hts0, hX0, hbl, hlocks, hgv⟩ := id C0
  have hown : s.vm.findClass RL = some m.cls := hown
  have hts : ∀ w ∈ wsL_law, w.before #[Value.ref b] s = true := fun w hw => hts0 w (wsL_law_in w hw)
  obtain ⟨hInv, ⟨f0, ho⟩, hX, tp, th, g, wo, z, hM⟩ := id hI
  have hW := hInv.1
  have hC := hG.1
  have hbA : ¬ xA G b := fun q => by have := (h0.1 b).mp q; omega
  have hAm := hM.owns
  have hw2 := L0.w2 hM hS h0
  refine lv_aload_n hx hb dL_law_201 rfl (lv_at hl 1 rfl) ?_
  refine lv_aload_n hx hb dL_law_202 rfl (lv_at hl 3 rfl) ?_
  refine x_call (G1 := lGw G am) (px := xNo) (vx_runSX (As := [.ref (ad 0), .ref o9]) (rest := []) ⟨hx, hb, hml, hown, hts⟩ (c_L_store l hfl (lGw G am) o9 ad S f0 H hX hW ho (L0.w (A := True) h0)) (vx_cwSW 2 hts gL_law_L_store rfl rfl rfl (by decide +kernel) ⟨(Nat.le_of_ble_eq_true rfl), (Nat.le_of_ble_eq_true rfl)⟩) (lPreS ⟨hC, hG.2⟩ hS (fun _ h => h.1) hw2) rfl rfl hl.1 rfl (lv_room (Nat.le_of_ble_eq_true rfl)) dL_law_203 ⟨show cells + 20 ≤ 601024 by omega, show slots + 600 ≤ 7293034 by omega⟩) hS (fun _ h => h.1) (fun _ _ _ _ _ h => h.elim) (fun v H1 locs hp hz hk hS => ?_)
  obtain ⟨rfl, ad2, f2, had, hX2, ho2, hf2⟩ := hp
  have hM := hM.w hz hk
  refine lv_istore (lv' := [(5, .int (nI (if kstore S = 0 then 0 else 1))), (0, .ref b), (1, .ref (ad 0)), (2, .ref (am 0)), (3, .ref o9), (4, .int (nI i))]) hx hb dL_law_206 hl (by decide) rfl (fun ls hl => ?_)
  refine lv_aload_n hx hb dL_law_208 rfl (lv_at hl 3 rfl) ?_
  have hMx := hM.re (A := fun q => (∃ i, i < 11 ∧ q = am i) ∨ H1.size ≤ q) (fun i hi => Or.inl ⟨i, hi, rfl⟩)
  refine x_call (G1 := lGm G am H1.size) (px := xNo) (vx_runV (As := []) (rest := []) ⟨hx, hb, hml, hown, hts⟩ (c_X5_store l hfl (lGm G am H1.size) am S tp th g wo z H1 hMx hW) (cwV 0 hts gL_law_X5_store rfl rfl rfl (by decide +kernel) ⟨(Nat.le_of_ble_eq_true rfl), (Nat.le_of_ble_eq_true rfl)⟩) (lPreV hC hS (h0.m1 hAm hS) (fun q hq => Or.inr hq) hMx.2.1 (q := (RX5, TX5, 14)) rfl) rfl rfl hl.1 rfl (lv_room (Nat.le_of_ble_eq_true rfl)) dL_law_209 ⟨show cells + 20 + 0 ≤ 601024 by omega, show slots + 600 + 0 ≤ 7293034 by omega⟩) hS (h0.m1 hAm hS) (fun _ _ _ _ _ h => h.elim) (fun v H2 locs hp hz2 hk2 hS2 => ?_)
  obtain ⟨r9, rfl, hr9, tp2, g2, W2, z2, hM2⟩ := hp
  have hX3 := hX2.m h0 hS hAm hz2 hk2
  have ho3 := h0.o ho2 hk2
  have hM3 := hM2.un hAm
  have hS := hS2
  refine lv_istore (lv' := [(6, .int r9), (5, .int (nI (if kstore S = 0 then 0 else 1))), (0, .ref b), (1, .ref (ad 0)), (2, .ref (am 0)), (3, .ref o9), (4, .int (nI i))]) hx hb dL_law_212 hl (by decide) rfl (fun ls hl => ?_)
  refine lv_aload_n hx hb dL_law_214 rfl (lv_at hl 4 rfl) ?_
  refine x_intE (vx_runV (As := []) (rest := []) ⟨hx, hb, hml, hown, hts⟩ (c_X5_thrown l hfl G am (if (if kstore S = 0 then 0 else 1) = 0 then (mstore S) else S) tp2 (if kstore S = 0 then 0 else 1) g2 W2 z2 H2 hM3) (cwV 0 hts gL_law_X5_thrown rfl rfl rfl (by decide +kernel) ⟨(Nat.le_of_ble_eq_true rfl), (Nat.le_of_ble_eq_true rfl)⟩) (xPreV hC hS hM3.2.1 (q := (RX5, TX5, 14)) rfl) rfl rfl hl.1 rfl (lv_room (Nat.le_of_ble_eq_true rfl)) dL_law_215 ⟨show cells + 20 + 0 + 0 ≤ 601024 by omega, show slots + 600 + 0 + 0 ≤ 7293034 by omega⟩) hS (fun locs hS => ?_)
  refine lv_iload hx hb dL_law_218 (lv_at hl 1 rfl) ?_
  refine lv_icmp_eq (tgt := 225) hx hb dL_law_220 (by decide) (fun c_1 => ?_) (fun c_1 => ?_)
  · have _ := hx
    refine lv_iload hx hb dL_law_225 (lv_at hl 1 rfl) ?_
    refine lv_if_ne (tgt := 242) hx hb dL_law_227 (by decide) (fun c_2 => ?_) (fun c_2 => ?_)
    · have _ := hx
      have hk0 : ¬ (if kstore S = 0 then 0 else 1) = 0 := fun q => c_2 ((nI_K (kle_store S)).mpr q)
      refine lv_goto (tgt := 1193) hx hb dL_law_242 (by decide) ?_
      rw [if_neg hk0] at hM3 hX3
      exact W.widen (k := cells + 60) (n := slots + 1600) (show cells + 20 + 0 ≤ cells + 60 by omega) (show slots + 600 + 0 ≤ slots + 1600 by omega) (kk ad2 (S) H2 locs ls had ⟨hInv, ⟨_, ho3⟩, hX3, _, _, _, _, _, hM3⟩ hS (lv_sub hl [2, 3, 4, 5, 6] rfl))
    · have _ := hx
      have hk0 : (if kstore S = 0 then 0 else 1) = 0 := (nI_K (kle_store S)).mp (by first | exact c_2 | exact Classical.not_not.mp c_2)
      have hr9 := hr9 hk0
      subst hr9
      have hf2 := hf2 hk0
      refine lv_aload_n hx hb dL_law_230 rfl (lv_at hl 5 rfl) ?_
      refine lv_iconst (v := (nI 0)) hx hb dL_law_231 (by decide) ?_
      refine x_jald (G := G) (j := 0) hx hb hC ho3 (by decide) (by decide) dL_law_232 ?_
      rw [hf2]
      refine lv_iload hx hb dL_law_233 (lv_at hl 0 rfl) ?_
      refine lv_i2l (v := (((zstore S).1 : Int32).toInt64)) hx hb dL_law_235 rfl ?_
      refine W.lcmp hx hb dL_law_236 ?_
      refine lv_if_eq (tgt := 242) hx hb dL_law_237 (by decide) (fun c_3 => ?_) (fun c_3 => ?_)
      · have _ := hx
        refine lv_goto (tgt := 1193) hx hb dL_law_242 (by decide) ?_
        rw [if_pos hk0] at hM3 hX3
        have hks : kstore S = 0 := Classical.byContradiction (fun q => by rw [if_neg q] at hk0; cases hk0)
        exact W.widen (k := cells + 60) (n := slots + 1600) (show cells + 20 + 0 ≤ cells + 60 by omega) (show slots + 600 + 0 ≤ slots + 1600 by omega) (kk ad2 (mstore S) H2 locs ls had ⟨(l_store hInv hks).2, ⟨_, ho3⟩, (hX3.to (hW.store hks) (l_store hInv hks).1), _, _, _, _, _, hM3⟩ hS (lv_sub hl [2, 3, 4, 5, 6] rfl))
      · have _ := hx
        exact absurd (lcmp_rf _) c_3
  · have _ := hx
    exact absurd rfl c_1

set_option maxHeartbeats 2000000 in
set_option maxRecDepth 100000 in
/-- stored -/
theorem law_stored {p : Program} {e : Env} {s : State} {m : MethodId} {below : List Frame} {meth : Method} {c : Code} (l : Launch) (hfl : l.stackTraces = false) {b L : Nat} {xs : Nat → Int32} (hL : L ≤ 3072) (C0 : lw_At p s m meth c b L xs) (G : xG) (hG : lC G s) (o9 : Nat) (am : Nat → Nat) (h0 : L0 G s o9 am) (ad : Nat → Nat) (S : zS) (H : Heap) (locs : List Loc) (cells slots : Nat) (hc9 : cells + 60 ≤ 601024) (hs9 : slots + 1600 ≤ 7293034) (hI : LI G o9 am ad S H) (hS : va_S (xA G) s.heap H locs) (i : Nat) (hi : i + 6 ≤ L) (ls : Array Slot) (hl : lv_has ls 7 [(0, .ref b), (1, .ref (ad 0)), (2, .ref (am 0)), (3, .ref o9), (4, .int (nI i))]) (kk : ∀ (ad1 : Nat → Nat) (S1 : zS) (H1 : Heap) (locs1 : List Loc) (ls1 : Array Slot), ad1 0 = ad 0 → LI G o9 am ad1 S1 H1 → va_S (xA G) s.heap H1 locs1 → lv_has ls1 7 [(0, .ref b), (1, .ref (ad 0)), (2, .ref (am 0)), (3, .ref o9), (4, .int (nI i))] → W p l e room_1 s m #[Value.ref b] below meth c H1 locs1 (cells + 60) (slots + 1600) (lw_Z below #[Value.ref b] s) (F0 m 1193 ls1 [])) : W p l e room_1 s m #[Value.ref b] below meth c H locs cells slots (lw_Z below #[Value.ref b] s) (F0 m 245 ls []) := by
  obtain ⟨hx, hb, hr, hml, hown, hts0, hX0, hbl, hlocks, hgv⟩ := id C0
  have hown : s.vm.findClass RL = some m.cls := hown
  have hts : ∀ w ∈ wsL_law, w.before #[Value.ref b] s = true := fun w hw => hts0 w (wsL_law_in w hw)
  obtain ⟨hInv, ⟨f0, ho⟩, hX, tp, th, g, wo, z, hM⟩ := id hI
  have hW := hInv.1
  have hC := hG.1
  have hbA : ¬ xA G b := fun q => by have := (h0.1 b).mp q; omega
  have hAm := hM.owns
  have hw2 := L0.w2 hM hS h0
  refine lv_aload_n hx hb dL_law_245 rfl (lv_at hl 1 rfl) ?_
  obtain ⟨fb, hfb, hx0⟩ := id hX.2.1
  have hoz : o9 < H.size := ho.lt
  refine x_call (G1 := xGo (lGw G am) o9) (px := xNo) (vx_runV (As := []) (rest := []) ⟨hx, hb, hml, hown, hts⟩ (c_X4_stored l hfl (xGo (lGw G am) o9) ad S H hX hW) (cwV 0 hts gL_law_X4_stored rfl rfl rfl (by decide +kernel) ⟨(Nat.le_of_ble_eq_true rfl), (Nat.le_of_ble_eq_true rfl)⟩) (lPreV hC hS (fun _ h => h.1.1) (fun q hq => ⟨hw2 q hq, fun w => by omega⟩) hx0 (q := (RX4, TX4, 11)) rfl) rfl rfl hl.1 rfl (lv_room (Nat.le_of_ble_eq_true rfl)) dL_law_246 ⟨show cells + 0 ≤ 601024 by omega, show slots + 0 ≤ 7293034 by omega⟩) hS (fun _ h => h.1.1) (fun _ _ _ _ _ h => h.elim) (fun v H1 locs hp hz hk hS => ?_)
  obtain ⟨rfl, hX2⟩ := hp
  have ho2 : jA G o9 1 f0 H1 := ho.kept (hk o9 hoz (fun q => q.2 rfl))
  have hM := hM.w1 hz hk
  have had : ad 0 = ad 0 := rfl
  refine lv_aload_n hx hb dL_law_249 rfl (lv_at hl 2 rfl) ?_
  have hMx := hM.re (A := fun q => (∃ i, i < 11 ∧ q = am i) ∨ H1.size ≤ q) (fun i hi => Or.inl ⟨i, hi, rfl⟩)
  refine x_call (G1 := lGm G am H1.size) (px := xNo) (vx_runV (As := []) (rest := [.int (nI (zN S))]) ⟨hx, hb, hml, hown, hts⟩ (c_X5_stored l hfl (lGm G am H1.size) am S tp th g wo z H1 hMx hW) (cwV 0 hts gL_law_X5_stored rfl rfl rfl (by decide +kernel) ⟨(Nat.le_of_ble_eq_true rfl), (Nat.le_of_ble_eq_true rfl)⟩) (lPreV hC hS (h0.m1 hAm hS) (fun q hq => Or.inr hq) hMx.2.1 (q := (RX5, TX5, 14)) rfl) rfl rfl hl.1 rfl (lv_room (Nat.le_of_ble_eq_true rfl)) dL_law_250 ⟨show cells + 0 + 0 ≤ 601024 by omega, show slots + 0 + 0 ≤ 7293034 by omega⟩) hS (h0.m1 hAm hS) (fun _ _ _ _ _ h => h.elim) (fun v H2 locs hp hz2 hk2 hS2 => ?_)
  obtain ⟨r9, rfl, hr9, tp2, g2, W2, z2, hM2⟩ := hp
  have hX3 := hX2.m h0 hS hAm hz2 hk2
  have ho3 := h0.o ho2 hk2
  have hM3 := hM2.un hAm
  have hS := hS2
  refine lv_icmp_eq (tgt := 1193) hx hb dL_law_253 (by decide) (fun c_1 => ?_) (fun c_1 => ?_)
  · have _ := hx
    have hM3 : MX G am (S) tp2 0 g2 W2 z2 H2 := hM3
    exact W.widen (k := cells + 60) (n := slots + 1600) (show cells + 0 + 0 ≤ cells + 60 by omega) (show slots + 0 + 0 ≤ slots + 1600 by omega) (kk ad (S) H2 locs ls had ⟨hInv, ⟨_, ho3⟩, hX3, _, _, _, _, _, hM3⟩ hS (lv_sub hl [0, 1, 2, 3, 4] rfl))
  · have _ := hx
    exact absurd (hr9 rfl).symm c_1

set_option maxHeartbeats 2000000 in
set_option maxRecDepth 100000 in
/-- bid -/
theorem law_bid {p : Program} {e : Env} {s : State} {m : MethodId} {below : List Frame} {meth : Method} {c : Code} (l : Launch) (hfl : l.stackTraces = false) {b L : Nat} {xs : Nat → Int32} (hL : L ≤ 3072) (C0 : lw_At p s m meth c b L xs) (G : xG) (hG : lC G s) (o9 : Nat) (am : Nat → Nat) (h0 : L0 G s o9 am) (ad : Nat → Nat) (S : zS) (H : Heap) (locs : List Loc) (cells slots : Nat) (hc9 : cells + 60 ≤ 601024) (hs9 : slots + 1600 ≤ 7293034) (hI : LI G o9 am ad S H) (hS : va_S (xA G) s.heap H locs) (i : Nat) (hi : i + 6 ≤ L) (ls : Array Slot) (hl : lv_has ls 7 [(0, .ref b), (1, .ref (ad 0)), (2, .ref (am 0)), (3, .ref o9), (4, .int (nI i))]) (kk : ∀ (ad1 : Nat → Nat) (S1 : zS) (H1 : Heap) (locs1 : List Loc) (ls1 : Array Slot), ad1 0 = ad 0 → LI G o9 am ad1 S1 H1 → va_S (xA G) s.heap H1 locs1 → lv_has ls1 7 [(0, .ref b), (1, .ref (ad 0)), (2, .ref (am 0)), (3, .ref o9), (4, .int (nI i))] → W p l e room_1 s m #[Value.ref b] below meth c H1 locs1 (cells + 60) (slots + 1600) (lw_Z below #[Value.ref b] s) (F0 m 1193 ls1 [])) : W p l e room_1 s m #[Value.ref b] below meth c H locs cells slots (lw_Z below #[Value.ref b] s) (F0 m 258 ls []) := by
  obtain ⟨hx, hb, hr, hml, hown, hts0, hX0, hbl, hlocks, hgv⟩ := id C0
  have hown : s.vm.findClass RL = some m.cls := hown
  have hts : ∀ w ∈ wsL_law, w.before #[Value.ref b] s = true := fun w hw => hts0 w (wsL_law_in w hw)
  obtain ⟨hInv, ⟨f0, ho⟩, hX, tp, th, g, wo, z, hM⟩ := id hI
  have hW := hInv.1
  have hC := hG.1
  have hbA : ¬ xA G b := fun q => by have := (h0.1 b).mp q; omega
  have hAm := hM.owns
  have hw2 := L0.w2 hM hS h0
  refine lv_aload_n hx hb dL_law_258 rfl (lv_at hl 1 rfl) ?_
  refine lv_aload_n hx hb dL_law_259 rfl (lv_at hl 0 rfl) ?_
  refine lv_iload hx hb dL_law_260 (lv_at hl 4 rfl) ?_
  refine lv_iconst (v := (nI 1)) hx hb dL_law_262 (by decide) ?_
  refine x_iaddn (a := i) (b := 1) hx hb dL_law_263 ?_
  refine va_sld (A := xA G) hx hb hX0 hbl hbA hS (vp_in_nI (show (i + 1) < L by omega) (by omega)) dL_law_264 ?_
  rw [nI_clamp (show (i + 1) < 2 ^ 31 by omega)]
  refine lv_aload_n hx hb dL_law_265 rfl (lv_at hl 0 rfl) ?_
  refine lv_iload hx hb dL_law_266 (lv_at hl 4 rfl) ?_
  refine lv_iconst (v := (nI 2)) hx hb dL_law_268 (by decide) ?_
  refine x_iaddn (a := i) (b := 2) hx hb dL_law_269 ?_
  refine va_sld (A := xA G) hx hb hX0 hbl hbA hS (vp_in_nI (show (i + 2) < L by omega) (by omega)) dL_law_270 ?_
  rw [nI_clamp (show (i + 2) < 2 ^ 31 by omega)]
  refine lv_aload_n hx hb dL_law_271 rfl (lv_at hl 3 rfl) ?_
  refine x_call (G1 := lGw G am) (px := xNo) (vx_runSX (As := [.ref (ad 0), .int (xs (i + 1)), .int (xs (i + 2)), .ref o9]) (rest := []) ⟨hx, hb, hml, hown, hts⟩ (c_L_bid l hfl (lGw G am) o9 ad S f0 (xs (i + 1)) (xs (i + 2)) H hX hW ho (L0.w (A := True) h0)) (vx_cwSW 4 hts gL_law_L_bid rfl rfl rfl (by decide +kernel) ⟨(Nat.le_of_ble_eq_true rfl), (Nat.le_of_ble_eq_true rfl)⟩) (lPreS ⟨hC, hG.2⟩ hS (fun _ h => h.1) hw2) rfl rfl hl.1 rfl (lv_room (Nat.le_of_ble_eq_true rfl)) dL_law_272 ⟨show cells + 8 ≤ 601024 by omega, show slots + 60 ≤ 7293034 by omega⟩) hS (fun _ h => h.1) (fun _ _ _ _ _ h => h.elim) (fun v H1 locs hp hz hk hS => ?_)
  obtain ⟨rfl, ad2, f2, had, hX2, ho2, hf2⟩ := hp
  have hM := hM.w hz hk
  refine lv_istore (lv' := [(5, .int (nI (kbid S (xs (i + 1)) (xs (i + 2))))), (0, .ref b), (1, .ref (ad 0)), (2, .ref (am 0)), (3, .ref o9), (4, .int (nI i))]) hx hb dL_law_275 hl (by decide) rfl (fun ls hl => ?_)
  refine lv_aload_n hx hb dL_law_277 rfl (lv_at hl 3 rfl) ?_
  refine lv_aload_n hx hb dL_law_278 rfl (lv_at hl 1 rfl) ?_
  refine lv_iload hx hb dL_law_279 (lv_at hl 5 rfl) ?_
  refine lv_iconst (v := (nI 1)) hx hb dL_law_281 (by decide) ?_
  refine x_iaddn (a := i) (b := 1) hx hb dL_law_282 ?_
  refine va_sld (A := xA G) hx hb hX0 hbl hbA hS (vp_in_nI (show (i + 1) < L by omega) (by omega)) dL_law_283 ?_
  rw [nI_clamp (show (i + 1) < 2 ^ 31 by omega)]
  refine lv_aload_n hx hb dL_law_284 rfl (lv_at hl 1 rfl) ?_
  refine lv_iload hx hb dL_law_285 (lv_at hl 5 rfl) ?_
  refine lv_iconst (v := (nI 2)) hx hb dL_law_287 (by decide) ?_
  refine x_iaddn (a := i) (b := 2) hx hb dL_law_288 ?_
  refine va_sld (A := xA G) hx hb hX0 hbl hbA hS (vp_in_nI (show (i + 2) < L by omega) (by omega)) dL_law_289 ?_
  rw [nI_clamp (show (i + 2) < 2 ^ 31 by omega)]
  have hMx := hM.re (A := fun q => (∃ i, i < 11 ∧ q = am i) ∨ H1.size ≤ q) (fun i hi => Or.inl ⟨i, hi, rfl⟩)
  refine x_call (G1 := lGm G am H1.size) (px := xNo) (vx_runV (As := [.int (xs (i + 1)), .int (xs (i + 2))]) (rest := []) ⟨hx, hb, hml, hown, hts⟩ (c_X5_bid l hfl (lGm G am H1.size) am S tp th g wo z (xs (i + 1)) (xs (i + 2)) H1 hMx hW) (cwV 2 hts gL_law_X5_bid rfl rfl rfl (by decide +kernel) ⟨(Nat.le_of_ble_eq_true rfl), (Nat.le_of_ble_eq_true rfl)⟩) (lPreV hC hS (h0.m1 hAm hS) (fun q hq => Or.inr hq) hMx.2.1 (q := (RX5, TX5, 14)) rfl) rfl rfl hl.1 rfl (lv_room (Nat.le_of_ble_eq_true rfl)) dL_law_290 ⟨show cells + 8 + 0 ≤ 601024 by omega, show slots + 60 + 0 ≤ 7293034 by omega⟩) hS (h0.m1 hAm hS) (fun _ _ _ _ _ h => h.elim) (fun v H2 locs hp hz2 hk2 hS2 => ?_)
  obtain ⟨r9, rfl, hr9, tp2, g2, W2, z2, hM2⟩ := hp
  have hX3 := hX2.m h0 hS hAm hz2 hk2
  have ho3 := h0.o ho2 hk2
  have hM3 := hM2.un hAm
  have hS := hS2
  refine lv_istore (lv' := [(6, .int r9), (5, .int (nI (kbid S (xs (i + 1)) (xs (i + 2))))), (0, .ref b), (1, .ref (ad 0)), (2, .ref (am 0)), (3, .ref o9), (4, .int (nI i))]) hx hb dL_law_293 hl (by decide) rfl (fun ls hl => ?_)
  refine lv_aload_n hx hb dL_law_295 rfl (lv_at hl 4 rfl) ?_
  refine x_intE (vx_runV (As := []) (rest := []) ⟨hx, hb, hml, hown, hts⟩ (c_X5_thrown l hfl G am (if (kbid S (xs (i + 1)) (xs (i + 2))) = 0 then (S) else S) tp2 (kbid S (xs (i + 1)) (xs (i + 2))) g2 W2 z2 H2 hM3) (cwV 0 hts gL_law_X5_thrown rfl rfl rfl (by decide +kernel) ⟨(Nat.le_of_ble_eq_true rfl), (Nat.le_of_ble_eq_true rfl)⟩) (xPreV hC hS hM3.2.1 (q := (RX5, TX5, 14)) rfl) rfl rfl hl.1 rfl (lv_room (Nat.le_of_ble_eq_true rfl)) dL_law_296 ⟨show cells + 8 + 0 + 0 ≤ 601024 by omega, show slots + 60 + 0 + 0 ≤ 7293034 by omega⟩) hS (fun locs hS => ?_)
  refine lv_iload hx hb dL_law_299 (lv_at hl 1 rfl) ?_
  refine lv_icmp_eq (tgt := 306) hx hb dL_law_301 (by decide) (fun c_1 => ?_) (fun c_1 => ?_)
  · have _ := hx
    refine lv_iload hx hb dL_law_306 (lv_at hl 1 rfl) ?_
    refine lv_if_ne (tgt := 323) hx hb dL_law_308 (by decide) (fun c_2 => ?_) (fun c_2 => ?_)
    · have _ := hx
      have hk0 : ¬ (kbid S (xs (i + 1)) (xs (i + 2))) = 0 := fun q => c_2 ((nI_K (kle_bid S (xs (i + 1)) (xs (i + 2)))).mpr q)
      refine lv_goto (tgt := 1193) hx hb dL_law_323 (by decide) ?_
      rw [if_neg hk0] at hM3 hX3
      exact W.widen (k := cells + 60) (n := slots + 1600) (show cells + 8 + 0 ≤ cells + 60 by omega) (show slots + 60 + 0 ≤ slots + 1600 by omega) (kk ad2 (S) H2 locs ls had ⟨hInv, ⟨_, ho3⟩, hX3, _, _, _, _, _, hM3⟩ hS (lv_sub hl [2, 3, 4, 5, 6] rfl))
    · have _ := hx
      have hk0 : (kbid S (xs (i + 1)) (xs (i + 2))) = 0 := (nI_K (kle_bid S (xs (i + 1)) (xs (i + 2)))).mp (by first | exact c_2 | exact Classical.not_not.mp c_2)
      have hr9 := hr9 hk0
      subst hr9
      have hf2 := hf2 hk0
      refine lv_aload_n hx hb dL_law_311 rfl (lv_at hl 5 rfl) ?_
      refine lv_iconst (v := (nI 0)) hx hb dL_law_312 (by decide) ?_
      refine x_jald (G := G) (j := 0) hx hb hC ho3 (by decide) (by decide) dL_law_313 ?_
      rw [hf2]
      refine lv_iload hx hb dL_law_314 (lv_at hl 0 rfl) ?_
      refine lv_i2l (v := ((nI (zbid S (xs (i + 1)).toNatClampNeg (xs (i + 2)).toNatClampNeg) : Int32).toInt64)) hx hb dL_law_316 rfl ?_
      refine W.lcmp hx hb dL_law_317 ?_
      refine lv_if_eq (tgt := 323) hx hb dL_law_318 (by decide) (fun c_3 => ?_) (fun c_3 => ?_)
      · have _ := hx
        refine lv_goto (tgt := 1193) hx hb dL_law_323 (by decide) ?_
        rw [if_pos hk0] at hM3 hX3
        exact W.widen (k := cells + 60) (n := slots + 1600) (show cells + 8 + 0 ≤ cells + 60 by omega) (show slots + 60 + 0 ≤ slots + 1600 by omega) (kk ad2 (S) H2 locs ls had ⟨hInv, ⟨_, ho3⟩, hX3, _, _, _, _, _, hM3⟩ hS (lv_sub hl [2, 3, 4, 5, 6] rfl))
      · have _ := hx
        exact absurd (lcmp_rf _) c_3
  · have _ := hx
    exact absurd rfl c_1

set_option maxHeartbeats 2000000 in
set_option maxRecDepth 100000 in
/-- alike -/
theorem law_alike {p : Program} {e : Env} {s : State} {m : MethodId} {below : List Frame} {meth : Method} {c : Code} (l : Launch) (hfl : l.stackTraces = false) {b L : Nat} {xs : Nat → Int32} (hL : L ≤ 3072) (C0 : lw_At p s m meth c b L xs) (G : xG) (hG : lC G s) (o9 : Nat) (am : Nat → Nat) (h0 : L0 G s o9 am) (ad : Nat → Nat) (S : zS) (H : Heap) (locs : List Loc) (cells slots : Nat) (hc9 : cells + 60 ≤ 601024) (hs9 : slots + 1600 ≤ 7293034) (hI : LI G o9 am ad S H) (hS : va_S (xA G) s.heap H locs) (i : Nat) (hi : i + 6 ≤ L) (ls : Array Slot) (hl : lv_has ls 7 [(0, .ref b), (1, .ref (ad 0)), (2, .ref (am 0)), (3, .ref o9), (4, .int (nI i))]) (kk : ∀ (ad1 : Nat → Nat) (S1 : zS) (H1 : Heap) (locs1 : List Loc) (ls1 : Array Slot), ad1 0 = ad 0 → LI G o9 am ad1 S1 H1 → va_S (xA G) s.heap H1 locs1 → lv_has ls1 7 [(0, .ref b), (1, .ref (ad 0)), (2, .ref (am 0)), (3, .ref o9), (4, .int (nI i))] → W p l e room_1 s m #[Value.ref b] below meth c H1 locs1 (cells + 60) (slots + 1600) (lw_Z below #[Value.ref b] s) (F0 m 1193 ls1 [])) : W p l e room_1 s m #[Value.ref b] below meth c H locs cells slots (lw_Z below #[Value.ref b] s) (F0 m 326 ls []) := by
  obtain ⟨hx, hb, hr, hml, hown, hts0, hX0, hbl, hlocks, hgv⟩ := id C0
  have hown : s.vm.findClass RL = some m.cls := hown
  have hts : ∀ w ∈ wsL_law, w.before #[Value.ref b] s = true := fun w hw => hts0 w (wsL_law_in w hw)
  obtain ⟨hInv, ⟨f0, ho⟩, hX, tp, th, g, wo, z, hM⟩ := id hI
  have hW := hInv.1
  have hC := hG.1
  have hbA : ¬ xA G b := fun q => by have := (h0.1 b).mp q; omega
  have hAm := hM.owns
  have hw2 := L0.w2 hM hS h0
  refine lv_aload_n hx hb dL_law_326 rfl (lv_at hl 1 rfl) ?_
  refine lv_aload_n hx hb dL_law_327 rfl (lv_at hl 0 rfl) ?_
  refine lv_iload hx hb dL_law_328 (lv_at hl 4 rfl) ?_
  refine lv_iconst (v := (nI 1)) hx hb dL_law_330 (by decide) ?_
  refine x_iaddn (a := i) (b := 1) hx hb dL_law_331 ?_
  refine va_sld (A := xA G) hx hb hX0 hbl hbA hS (vp_in_nI (show (i + 1) < L by omega) (by omega)) dL_law_332 ?_
  rw [nI_clamp (show (i + 1) < 2 ^ 31 by omega)]
  refine lv_aload_n hx hb dL_law_333 rfl (lv_at hl 3 rfl) ?_
  refine x_call (G1 := lGw G am) (px := xNo) (vx_runSX (As := [.ref (ad 0), .int (xs (i + 1)), .ref o9]) (rest := []) ⟨hx, hb, hml, hown, hts⟩ (c_L_alike l hfl (lGw G am) o9 ad S f0 (xs (i + 1)) H hX hW ho (L0.w (A := True) h0)) (vx_cwSW 3 hts gL_law_L_alike rfl rfl rfl (by decide +kernel) ⟨(Nat.le_of_ble_eq_true rfl), (Nat.le_of_ble_eq_true rfl)⟩) (lPreS ⟨hC, hG.2⟩ hS (fun _ h => h.1) hw2) rfl rfl hl.1 rfl (lv_room (Nat.le_of_ble_eq_true rfl)) dL_law_334 ⟨show cells + 8 ≤ 601024 by omega, show slots + 60 ≤ 7293034 by omega⟩) hS (fun _ h => h.1) (fun _ _ _ _ _ h => h.elim) (fun v H1 locs hp hz hk hS => ?_)
  obtain ⟨rfl, ad2, f2, had, hX2, ho2, hf2⟩ := hp
  have hM := hM.w hz hk
  refine lv_istore (lv' := [(5, .int (nI (kstrat S (xs (i + 1))))), (0, .ref b), (1, .ref (ad 0)), (2, .ref (am 0)), (3, .ref o9), (4, .int (nI i))]) hx hb dL_law_337 hl (by decide) rfl (fun ls hl => ?_)
  refine lv_aload_n hx hb dL_law_339 rfl (lv_at hl 3 rfl) ?_
  refine lv_aload_n hx hb dL_law_340 rfl (lv_at hl 1 rfl) ?_
  refine lv_iload hx hb dL_law_341 (lv_at hl 5 rfl) ?_
  refine lv_iconst (v := (nI 1)) hx hb dL_law_343 (by decide) ?_
  refine x_iaddn (a := i) (b := 1) hx hb dL_law_344 ?_
  refine va_sld (A := xA G) hx hb hX0 hbl hbA hS (vp_in_nI (show (i + 1) < L by omega) (by omega)) dL_law_345 ?_
  rw [nI_clamp (show (i + 1) < 2 ^ 31 by omega)]
  have hMx := hM.re (A := fun q => (∃ i, i < 11 ∧ q = am i) ∨ H1.size ≤ q) (fun i hi => Or.inl ⟨i, hi, rfl⟩)
  refine x_call (G1 := lGm G am H1.size) (px := xNo) (vx_runV (As := [.int (xs (i + 1))]) (rest := []) ⟨hx, hb, hml, hown, hts⟩ (c_X5_alike l hfl (lGm G am H1.size) am S tp th g wo z (xs (i + 1)) H1 hMx hW) (cwV 1 hts gL_law_X5_alike rfl rfl rfl (by decide +kernel) ⟨(Nat.le_of_ble_eq_true rfl), (Nat.le_of_ble_eq_true rfl)⟩) (lPreV hC hS (h0.m1 hAm hS) (fun q hq => Or.inr hq) hMx.2.1 (q := (RX5, TX5, 14)) rfl) rfl rfl hl.1 rfl (lv_room (Nat.le_of_ble_eq_true rfl)) dL_law_346 ⟨show cells + 8 + 0 ≤ 601024 by omega, show slots + 60 + 0 ≤ 7293034 by omega⟩) hS (h0.m1 hAm hS) (fun _ _ _ _ _ h => h.elim) (fun v H2 locs hp hz2 hk2 hS2 => ?_)
  obtain ⟨r9, rfl, hr9, tp2, g2, W2, z2, hM2⟩ := hp
  have hX3 := hX2.m h0 hS hAm hz2 hk2
  have ho3 := h0.o ho2 hk2
  have hM3 := hM2.un hAm
  have hS := hS2
  refine lv_istore (lv' := [(6, .int r9), (5, .int (nI (kstrat S (xs (i + 1))))), (0, .ref b), (1, .ref (ad 0)), (2, .ref (am 0)), (3, .ref o9), (4, .int (nI i))]) hx hb dL_law_349 hl (by decide) rfl (fun ls hl => ?_)
  refine lv_aload_n hx hb dL_law_351 rfl (lv_at hl 4 rfl) ?_
  refine x_intE (vx_runV (As := []) (rest := []) ⟨hx, hb, hml, hown, hts⟩ (c_X5_thrown l hfl G am (if (kstrat S (xs (i + 1))) = 0 then (S) else S) tp2 (kstrat S (xs (i + 1))) g2 W2 z2 H2 hM3) (cwV 0 hts gL_law_X5_thrown rfl rfl rfl (by decide +kernel) ⟨(Nat.le_of_ble_eq_true rfl), (Nat.le_of_ble_eq_true rfl)⟩) (xPreV hC hS hM3.2.1 (q := (RX5, TX5, 14)) rfl) rfl rfl hl.1 rfl (lv_room (Nat.le_of_ble_eq_true rfl)) dL_law_352 ⟨show cells + 8 + 0 + 0 ≤ 601024 by omega, show slots + 60 + 0 + 0 ≤ 7293034 by omega⟩) hS (fun locs hS => ?_)
  refine lv_iload hx hb dL_law_355 (lv_at hl 1 rfl) ?_
  refine lv_icmp_eq (tgt := 362) hx hb dL_law_357 (by decide) (fun c_1 => ?_) (fun c_1 => ?_)
  · have _ := hx
    refine lv_iload hx hb dL_law_362 (lv_at hl 1 rfl) ?_
    refine lv_if_ne (tgt := 379) hx hb dL_law_364 (by decide) (fun c_2 => ?_) (fun c_2 => ?_)
    · have _ := hx
      have hk0 : ¬ (kstrat S (xs (i + 1))) = 0 := fun q => c_2 ((nI_K (kle_strat S (xs (i + 1)))).mpr q)
      refine lv_goto (tgt := 1193) hx hb dL_law_379 (by decide) ?_
      rw [if_neg hk0] at hM3 hX3
      exact W.widen (k := cells + 60) (n := slots + 1600) (show cells + 8 + 0 ≤ cells + 60 by omega) (show slots + 60 + 0 ≤ slots + 1600 by omega) (kk ad2 (S) H2 locs ls had ⟨hInv, ⟨_, ho3⟩, hX3, _, _, _, _, _, hM3⟩ hS (lv_sub hl [2, 3, 4, 5, 6] rfl))
    · have _ := hx
      have hk0 : (kstrat S (xs (i + 1))) = 0 := (nI_K (kle_strat S (xs (i + 1)))).mp (by first | exact c_2 | exact Classical.not_not.mp c_2)
      have hr9 := hr9 hk0
      subst hr9
      have hf2 := hf2 hk0
      refine lv_aload_n hx hb dL_law_367 rfl (lv_at hl 5 rfl) ?_
      refine lv_iconst (v := (nI 0)) hx hb dL_law_368 (by decide) ?_
      refine x_jald (G := G) (j := 0) hx hb hC ho3 (by decide) (by decide) dL_law_369 ?_
      rw [hf2]
      refine lv_iload hx hb dL_law_370 (lv_at hl 0 rfl) ?_
      refine lv_i2l (v := ((nI (xct (fun j => zalike S j (xs (i + 1)).toNatClampNeg) (zN S)) : Int32).toInt64)) hx hb dL_law_372 rfl ?_
      refine W.lcmp hx hb dL_law_373 ?_
      refine lv_if_eq (tgt := 379) hx hb dL_law_374 (by decide) (fun c_3 => ?_) (fun c_3 => ?_)
      · have _ := hx
        refine lv_goto (tgt := 1193) hx hb dL_law_379 (by decide) ?_
        rw [if_pos hk0] at hM3 hX3
        exact W.widen (k := cells + 60) (n := slots + 1600) (show cells + 8 + 0 ≤ cells + 60 by omega) (show slots + 60 + 0 ≤ slots + 1600 by omega) (kk ad2 (S) H2 locs ls had ⟨hInv, ⟨_, ho3⟩, hX3, _, _, _, _, _, hM3⟩ hS (lv_sub hl [2, 3, 4, 5, 6] rfl))
      · have _ := hx
        exact absurd (lcmp_rf _) c_3
  · have _ := hx
    exact absurd rfl c_1

set_option maxHeartbeats 2000000 in
set_option maxRecDepth 100000 in
/-- parent -/
theorem law_parent {p : Program} {e : Env} {s : State} {m : MethodId} {below : List Frame} {meth : Method} {c : Code} (l : Launch) (hfl : l.stackTraces = false) {b L : Nat} {xs : Nat → Int32} (hL : L ≤ 3072) (C0 : lw_At p s m meth c b L xs) (G : xG) (hG : lC G s) (o9 : Nat) (am : Nat → Nat) (h0 : L0 G s o9 am) (ad : Nat → Nat) (S : zS) (H : Heap) (locs : List Loc) (cells slots : Nat) (hc9 : cells + 60 ≤ 601024) (hs9 : slots + 1600 ≤ 7293034) (hI : LI G o9 am ad S H) (hS : va_S (xA G) s.heap H locs) (i : Nat) (hi : i + 6 ≤ L) (ls : Array Slot) (hl : lv_has ls 7 [(0, .ref b), (1, .ref (ad 0)), (2, .ref (am 0)), (3, .ref o9), (4, .int (nI i))]) (kk : ∀ (ad1 : Nat → Nat) (S1 : zS) (H1 : Heap) (locs1 : List Loc) (ls1 : Array Slot), ad1 0 = ad 0 → LI G o9 am ad1 S1 H1 → va_S (xA G) s.heap H1 locs1 → lv_has ls1 7 [(0, .ref b), (1, .ref (ad 0)), (2, .ref (am 0)), (3, .ref o9), (4, .int (nI i))] → W p l e room_1 s m #[Value.ref b] below meth c H1 locs1 (cells + 60) (slots + 1600) (lw_Z below #[Value.ref b] s) (F0 m 1193 ls1 [])) : W p l e room_1 s m #[Value.ref b] below meth c H locs cells slots (lw_Z below #[Value.ref b] s) (F0 m 382 ls []) := by
  obtain ⟨hx, hb, hr, hml, hown, hts0, hX0, hbl, hlocks, hgv⟩ := id C0
  have hown : s.vm.findClass RL = some m.cls := hown
  have hts : ∀ w ∈ wsL_law, w.before #[Value.ref b] s = true := fun w hw => hts0 w (wsL_law_in w hw)
  obtain ⟨hInv, ⟨f0, ho⟩, hX, tp, th, g, wo, z, hM⟩ := id hI
  have hW := hInv.1
  have hC := hG.1
  have hbA : ¬ xA G b := fun q => by have := (h0.1 b).mp q; omega
  have hAm := hM.owns
  have hw2 := L0.w2 hM hS h0
  refine lv_aload_n hx hb dL_law_382 rfl (lv_at hl 1 rfl) ?_
  refine lv_aload_n hx hb dL_law_383 rfl (lv_at hl 0 rfl) ?_
  refine lv_iload hx hb dL_law_384 (lv_at hl 4 rfl) ?_
  refine lv_iconst (v := (nI 1)) hx hb dL_law_386 (by decide) ?_
  refine x_iaddn (a := i) (b := 1) hx hb dL_law_387 ?_
  refine va_sld (A := xA G) hx hb hX0 hbl hbA hS (vp_in_nI (show (i + 1) < L by omega) (by omega)) dL_law_388 ?_
  rw [nI_clamp (show (i + 1) < 2 ^ 31 by omega)]
  refine lv_aload_n hx hb dL_law_389 rfl (lv_at hl 0 rfl) ?_
  refine lv_iload hx hb dL_law_390 (lv_at hl 4 rfl) ?_
  refine lv_iconst (v := (nI 2)) hx hb dL_law_392 (by decide) ?_
  refine x_iaddn (a := i) (b := 2) hx hb dL_law_393 ?_
  refine va_sld (A := xA G) hx hb hX0 hbl hbA hS (vp_in_nI (show (i + 2) < L by omega) (by omega)) dL_law_394 ?_
  rw [nI_clamp (show (i + 2) < 2 ^ 31 by omega)]
  refine lv_if_eq (tgt := 402) hx hb dL_law_395 (by decide) (fun c_1 => ?_) (fun c_1 => ?_)
  · have _ := hx
    refine lv_iconst (v := (nI 0)) hx hb dL_law_402 (by decide) ?_
    refine lv_aload_n hx hb dL_law_403 rfl (lv_at hl 3 rfl) ?_
    refine x_call (G1 := lGw G am) (px := xNo) (vx_runSX (As := [.ref (ad 0), .int (xs (i + 1)), .int (xb false), .ref o9]) (rest := []) ⟨hx, hb, hml, hown, hts⟩ (c_L_parent l hfl (lGw G am) o9 ad S f0 (xs (i + 1)) false H hX hW ho (L0.w (A := True) h0)) (vx_cwSW 4 hts gL_law_L_parent rfl rfl rfl (by decide +kernel) ⟨(Nat.le_of_ble_eq_true rfl), (Nat.le_of_ble_eq_true rfl)⟩) (lPreS ⟨hC, hG.2⟩ hS (fun _ h => h.1) hw2) rfl rfl hl.1 rfl (lv_room (Nat.le_of_ble_eq_true rfl)) dL_law_404 ⟨show cells + 8 ≤ 601024 by omega, show slots + 60 ≤ 7293034 by omega⟩) hS (fun _ h => h.1) (fun _ _ _ _ _ h => h.elim) (fun v H1 locs hp hz hk hS => ?_)
    obtain ⟨rfl, ad2, f2, had, hX2, ho2, hf2⟩ := hp
    have hM := hM.w hz hk
    refine lv_istore (lv' := [(5, .int (nI (kstrat S (xs (i + 1))))), (0, .ref b), (1, .ref (ad 0)), (2, .ref (am 0)), (3, .ref o9), (4, .int (nI i))]) hx hb dL_law_407 hl (by decide) rfl (fun ls hl => ?_)
    refine lv_aload_n hx hb dL_law_409 rfl (lv_at hl 3 rfl) ?_
    refine lv_aload_n hx hb dL_law_410 rfl (lv_at hl 1 rfl) ?_
    refine lv_iload hx hb dL_law_411 (lv_at hl 5 rfl) ?_
    refine lv_iconst (v := (nI 1)) hx hb dL_law_413 (by decide) ?_
    refine x_iaddn (a := i) (b := 1) hx hb dL_law_414 ?_
    refine va_sld (A := xA G) hx hb hX0 hbl hbA hS (vp_in_nI (show (i + 1) < L by omega) (by omega)) dL_law_415 ?_
    rw [nI_clamp (show (i + 1) < 2 ^ 31 by omega)]
    refine lv_aload_n hx hb dL_law_416 rfl (lv_at hl 1 rfl) ?_
    refine lv_iload hx hb dL_law_417 (lv_at hl 5 rfl) ?_
    refine lv_iconst (v := (nI 2)) hx hb dL_law_419 (by decide) ?_
    refine x_iaddn (a := i) (b := 2) hx hb dL_law_420 ?_
    refine va_sld (A := xA G) hx hb hX0 hbl hbA hS (vp_in_nI (show (i + 2) < L by omega) (by omega)) dL_law_421 ?_
    rw [nI_clamp (show (i + 2) < 2 ^ 31 by omega)]
    refine lv_if_eq (tgt := 429) hx hb dL_law_422 (by decide) (fun c_2 => ?_) (fun c_2 => ?_)
    · have _ := hx
      refine lv_iconst (v := (nI 0)) hx hb dL_law_429 (by decide) ?_
      have hMx := hM.re (A := fun q => (∃ i, i < 11 ∧ q = am i) ∨ H1.size ≤ q) (fun i hi => Or.inl ⟨i, hi, rfl⟩)
      refine x_call (G1 := lGm G am H1.size) (px := xNo) (vx_runV (As := [.int (xs (i + 1)), .int (xb false)]) (rest := []) ⟨hx, hb, hml, hown, hts⟩ (c_X5_parent l hfl (lGm G am H1.size) am S tp th g wo z (xs (i + 1)) false H1 hMx hW) (cwV 2 hts gL_law_X5_parent rfl rfl rfl (by decide +kernel) ⟨(Nat.le_of_ble_eq_true rfl), (Nat.le_of_ble_eq_true rfl)⟩) (lPreV hC hS (h0.m1 hAm hS) (fun q hq => Or.inr hq) hMx.2.1 (q := (RX5, TX5, 14)) rfl) rfl rfl hl.1 rfl (lv_room (Nat.le_of_ble_eq_true rfl)) dL_law_430 ⟨show cells + 8 + 0 ≤ 601024 by omega, show slots + 60 + 0 ≤ 7293034 by omega⟩) hS (h0.m1 hAm hS) (fun _ _ _ _ _ h => h.elim) (fun v H2 locs hp hz2 hk2 hS2 => ?_)
      obtain ⟨r9, rfl, hr9, tp2, g2, W2, z2, hM2⟩ := hp
      have hX3 := hX2.m h0 hS hAm hz2 hk2
      have ho3 := h0.o ho2 hk2
      have hM3 := hM2.un hAm
      have hS := hS2
      refine lv_istore (lv' := [(6, .int r9), (5, .int (nI (kstrat S (xs (i + 1))))), (0, .ref b), (1, .ref (ad 0)), (2, .ref (am 0)), (3, .ref o9), (4, .int (nI i))]) hx hb dL_law_433 hl (by decide) rfl (fun ls hl => ?_)
      refine lv_aload_n hx hb dL_law_435 rfl (lv_at hl 4 rfl) ?_
      refine x_intE (vx_runV (As := []) (rest := []) ⟨hx, hb, hml, hown, hts⟩ (c_X5_thrown l hfl G am (if (kstrat S (xs (i + 1))) = 0 then (S) else S) tp2 (kstrat S (xs (i + 1))) g2 W2 z2 H2 hM3) (cwV 0 hts gL_law_X5_thrown rfl rfl rfl (by decide +kernel) ⟨(Nat.le_of_ble_eq_true rfl), (Nat.le_of_ble_eq_true rfl)⟩) (xPreV hC hS hM3.2.1 (q := (RX5, TX5, 14)) rfl) rfl rfl hl.1 rfl (lv_room (Nat.le_of_ble_eq_true rfl)) dL_law_436 ⟨show cells + 8 + 0 + 0 ≤ 601024 by omega, show slots + 60 + 0 + 0 ≤ 7293034 by omega⟩) hS (fun locs hS => ?_)
      refine lv_iload hx hb dL_law_439 (lv_at hl 1 rfl) ?_
      refine lv_icmp_eq (tgt := 446) hx hb dL_law_441 (by decide) (fun c_3 => ?_) (fun c_3 => ?_)
      · have _ := hx
        refine lv_iload hx hb dL_law_446 (lv_at hl 1 rfl) ?_
        refine lv_if_ne (tgt := 463) hx hb dL_law_448 (by decide) (fun c_4 => ?_) (fun c_4 => ?_)
        · have _ := hx
          have hk0 : ¬ (kstrat S (xs (i + 1))) = 0 := fun q => c_4 ((nI_K (kle_strat S (xs (i + 1)))).mpr q)
          refine lv_goto (tgt := 1193) hx hb dL_law_463 (by decide) ?_
          rw [if_neg hk0] at hM3 hX3
          exact W.widen (k := cells + 60) (n := slots + 1600) (show cells + 8 + 0 ≤ cells + 60 by omega) (show slots + 60 + 0 ≤ slots + 1600 by omega) (kk ad2 (S) H2 locs ls had ⟨hInv, ⟨_, ho3⟩, hX3, _, _, _, _, _, hM3⟩ hS (lv_sub hl [2, 3, 4, 5, 6] rfl))
        · have _ := hx
          have hk0 : (kstrat S (xs (i + 1))) = 0 := (nI_K (kle_strat S (xs (i + 1)))).mp (by first | exact c_4 | exact Classical.not_not.mp c_4)
          have hr9 := hr9 hk0
          subst hr9
          have hf2 := hf2 hk0
          refine lv_aload_n hx hb dL_law_451 rfl (lv_at hl 5 rfl) ?_
          refine lv_iconst (v := (nI 0)) hx hb dL_law_452 (by decide) ?_
          refine x_jald (G := G) (j := 0) hx hb hC ho3 (by decide) (by decide) dL_law_453 ?_
          rw [hf2]
          refine lv_iload hx hb dL_law_454 (lv_at hl 0 rfl) ?_
          refine lv_i2l (v := ((xpar (if false = true then zU S (xs (i + 1)).toNatClampNeg else zV S (xs (i + 1)).toNatClampNeg) : Int32).toInt64)) hx hb dL_law_456 rfl ?_
          refine W.lcmp hx hb dL_law_457 ?_
          refine lv_if_eq (tgt := 463) hx hb dL_law_458 (by decide) (fun c_5 => ?_) (fun c_5 => ?_)
          · have _ := hx
            refine lv_goto (tgt := 1193) hx hb dL_law_463 (by decide) ?_
            rw [if_pos hk0] at hM3 hX3
            exact W.widen (k := cells + 60) (n := slots + 1600) (show cells + 8 + 0 ≤ cells + 60 by omega) (show slots + 60 + 0 ≤ slots + 1600 by omega) (kk ad2 (S) H2 locs ls had ⟨hInv, ⟨_, ho3⟩, hX3, _, _, _, _, _, hM3⟩ hS (lv_sub hl [2, 3, 4, 5, 6] rfl))
          · have _ := hx
            exact absurd (lcmp_rf _) c_5
      · have _ := hx
        exact absurd rfl c_3
    · have _ := hx
      exact absurd c_1 c_2
  · have _ := hx
    refine lv_iconst (v := (nI 1)) hx hb dL_law_398 (by decide) ?_
    refine lv_goto (tgt := 403) hx hb dL_law_399 (by decide) ?_
    refine lv_aload_n hx hb dL_law_403 rfl (lv_at hl 3 rfl) ?_
    refine x_call (G1 := lGw G am) (px := xNo) (vx_runSX (As := [.ref (ad 0), .int (xs (i + 1)), .int (xb true), .ref o9]) (rest := []) ⟨hx, hb, hml, hown, hts⟩ (c_L_parent l hfl (lGw G am) o9 ad S f0 (xs (i + 1)) true H hX hW ho (L0.w (A := True) h0)) (vx_cwSW 4 hts gL_law_L_parent rfl rfl rfl (by decide +kernel) ⟨(Nat.le_of_ble_eq_true rfl), (Nat.le_of_ble_eq_true rfl)⟩) (lPreS ⟨hC, hG.2⟩ hS (fun _ h => h.1) hw2) rfl rfl hl.1 rfl (lv_room (Nat.le_of_ble_eq_true rfl)) dL_law_404 ⟨show cells + 8 ≤ 601024 by omega, show slots + 60 ≤ 7293034 by omega⟩) hS (fun _ h => h.1) (fun _ _ _ _ _ h => h.elim) (fun v H1 locs hp hz hk hS => ?_)
    obtain ⟨rfl, ad2, f2, had, hX2, ho2, hf2⟩ := hp
    have hM := hM.w hz hk
    refine lv_istore (lv' := [(5, .int (nI (kstrat S (xs (i + 1))))), (0, .ref b), (1, .ref (ad 0)), (2, .ref (am 0)), (3, .ref o9), (4, .int (nI i))]) hx hb dL_law_407 hl (by decide) rfl (fun ls hl => ?_)
    refine lv_aload_n hx hb dL_law_409 rfl (lv_at hl 3 rfl) ?_
    refine lv_aload_n hx hb dL_law_410 rfl (lv_at hl 1 rfl) ?_
    refine lv_iload hx hb dL_law_411 (lv_at hl 5 rfl) ?_
    refine lv_iconst (v := (nI 1)) hx hb dL_law_413 (by decide) ?_
    refine x_iaddn (a := i) (b := 1) hx hb dL_law_414 ?_
    refine va_sld (A := xA G) hx hb hX0 hbl hbA hS (vp_in_nI (show (i + 1) < L by omega) (by omega)) dL_law_415 ?_
    rw [nI_clamp (show (i + 1) < 2 ^ 31 by omega)]
    refine lv_aload_n hx hb dL_law_416 rfl (lv_at hl 1 rfl) ?_
    refine lv_iload hx hb dL_law_417 (lv_at hl 5 rfl) ?_
    refine lv_iconst (v := (nI 2)) hx hb dL_law_419 (by decide) ?_
    refine x_iaddn (a := i) (b := 2) hx hb dL_law_420 ?_
    refine va_sld (A := xA G) hx hb hX0 hbl hbA hS (vp_in_nI (show (i + 2) < L by omega) (by omega)) dL_law_421 ?_
    rw [nI_clamp (show (i + 2) < 2 ^ 31 by omega)]
    refine lv_if_eq (tgt := 429) hx hb dL_law_422 (by decide) (fun c_6 => ?_) (fun c_6 => ?_)
    · have _ := hx
      exact absurd c_6 c_1
    · have _ := hx
      refine lv_iconst (v := (nI 1)) hx hb dL_law_425 (by decide) ?_
      refine lv_goto (tgt := 430) hx hb dL_law_426 (by decide) ?_
      have hMx := hM.re (A := fun q => (∃ i, i < 11 ∧ q = am i) ∨ H1.size ≤ q) (fun i hi => Or.inl ⟨i, hi, rfl⟩)
      refine x_call (G1 := lGm G am H1.size) (px := xNo) (vx_runV (As := [.int (xs (i + 1)), .int (xb true)]) (rest := []) ⟨hx, hb, hml, hown, hts⟩ (c_X5_parent l hfl (lGm G am H1.size) am S tp th g wo z (xs (i + 1)) true H1 hMx hW) (cwV 2 hts gL_law_X5_parent rfl rfl rfl (by decide +kernel) ⟨(Nat.le_of_ble_eq_true rfl), (Nat.le_of_ble_eq_true rfl)⟩) (lPreV hC hS (h0.m1 hAm hS) (fun q hq => Or.inr hq) hMx.2.1 (q := (RX5, TX5, 14)) rfl) rfl rfl hl.1 rfl (lv_room (Nat.le_of_ble_eq_true rfl)) dL_law_430 ⟨show cells + 8 + 0 ≤ 601024 by omega, show slots + 60 + 0 ≤ 7293034 by omega⟩) hS (h0.m1 hAm hS) (fun _ _ _ _ _ h => h.elim) (fun v H2 locs hp hz2 hk2 hS2 => ?_)
      obtain ⟨r9, rfl, hr9, tp2, g2, W2, z2, hM2⟩ := hp
      have hX3 := hX2.m h0 hS hAm hz2 hk2
      have ho3 := h0.o ho2 hk2
      have hM3 := hM2.un hAm
      have hS := hS2
      refine lv_istore (lv' := [(6, .int r9), (5, .int (nI (kstrat S (xs (i + 1))))), (0, .ref b), (1, .ref (ad 0)), (2, .ref (am 0)), (3, .ref o9), (4, .int (nI i))]) hx hb dL_law_433 hl (by decide) rfl (fun ls hl => ?_)
      refine lv_aload_n hx hb dL_law_435 rfl (lv_at hl 4 rfl) ?_
      refine x_intE (vx_runV (As := []) (rest := []) ⟨hx, hb, hml, hown, hts⟩ (c_X5_thrown l hfl G am (if (kstrat S (xs (i + 1))) = 0 then (S) else S) tp2 (kstrat S (xs (i + 1))) g2 W2 z2 H2 hM3) (cwV 0 hts gL_law_X5_thrown rfl rfl rfl (by decide +kernel) ⟨(Nat.le_of_ble_eq_true rfl), (Nat.le_of_ble_eq_true rfl)⟩) (xPreV hC hS hM3.2.1 (q := (RX5, TX5, 14)) rfl) rfl rfl hl.1 rfl (lv_room (Nat.le_of_ble_eq_true rfl)) dL_law_436 ⟨show cells + 8 + 0 + 0 ≤ 601024 by omega, show slots + 60 + 0 + 0 ≤ 7293034 by omega⟩) hS (fun locs hS => ?_)
      refine lv_iload hx hb dL_law_439 (lv_at hl 1 rfl) ?_
      refine lv_icmp_eq (tgt := 446) hx hb dL_law_441 (by decide) (fun c_7 => ?_) (fun c_7 => ?_)
      · have _ := hx
        refine lv_iload hx hb dL_law_446 (lv_at hl 1 rfl) ?_
        refine lv_if_ne (tgt := 463) hx hb dL_law_448 (by decide) (fun c_8 => ?_) (fun c_8 => ?_)
        · have _ := hx
          have hk0 : ¬ (kstrat S (xs (i + 1))) = 0 := fun q => c_8 ((nI_K (kle_strat S (xs (i + 1)))).mpr q)
          refine lv_goto (tgt := 1193) hx hb dL_law_463 (by decide) ?_
          rw [if_neg hk0] at hM3 hX3
          exact W.widen (k := cells + 60) (n := slots + 1600) (show cells + 8 + 0 ≤ cells + 60 by omega) (show slots + 60 + 0 ≤ slots + 1600 by omega) (kk ad2 (S) H2 locs ls had ⟨hInv, ⟨_, ho3⟩, hX3, _, _, _, _, _, hM3⟩ hS (lv_sub hl [2, 3, 4, 5, 6] rfl))
        · have _ := hx
          have hk0 : (kstrat S (xs (i + 1))) = 0 := (nI_K (kle_strat S (xs (i + 1)))).mp (by first | exact c_8 | exact Classical.not_not.mp c_8)
          have hr9 := hr9 hk0
          subst hr9
          have hf2 := hf2 hk0
          refine lv_aload_n hx hb dL_law_451 rfl (lv_at hl 5 rfl) ?_
          refine lv_iconst (v := (nI 0)) hx hb dL_law_452 (by decide) ?_
          refine x_jald (G := G) (j := 0) hx hb hC ho3 (by decide) (by decide) dL_law_453 ?_
          rw [hf2]
          refine lv_iload hx hb dL_law_454 (lv_at hl 0 rfl) ?_
          refine lv_i2l (v := ((xpar (if true = true then zU S (xs (i + 1)).toNatClampNeg else zV S (xs (i + 1)).toNatClampNeg) : Int32).toInt64)) hx hb dL_law_456 rfl ?_
          refine W.lcmp hx hb dL_law_457 ?_
          refine lv_if_eq (tgt := 463) hx hb dL_law_458 (by decide) (fun c_9 => ?_) (fun c_9 => ?_)
          · have _ := hx
            refine lv_goto (tgt := 1193) hx hb dL_law_463 (by decide) ?_
            rw [if_pos hk0] at hM3 hX3
            exact W.widen (k := cells + 60) (n := slots + 1600) (show cells + 8 + 0 ≤ cells + 60 by omega) (show slots + 60 + 0 ≤ slots + 1600 by omega) (kk ad2 (S) H2 locs ls had ⟨hInv, ⟨_, ho3⟩, hX3, _, _, _, _, _, hM3⟩ hS (lv_sub hl [2, 3, 4, 5, 6] rfl))
          · have _ := hx
            exact absurd (lcmp_rf _) c_9
      · have _ := hx
        exact absurd rfl c_7

set_option maxHeartbeats 2000000 in
set_option maxRecDepth 100000 in
/-- join -/
theorem law_join {p : Program} {e : Env} {s : State} {m : MethodId} {below : List Frame} {meth : Method} {c : Code} (l : Launch) (hfl : l.stackTraces = false) {b L : Nat} {xs : Nat → Int32} (hL : L ≤ 3072) (C0 : lw_At p s m meth c b L xs) (G : xG) (hG : lC G s) (o9 : Nat) (am : Nat → Nat) (h0 : L0 G s o9 am) (ad : Nat → Nat) (S : zS) (H : Heap) (locs : List Loc) (cells slots : Nat) (hc9 : cells + 60 ≤ 601024) (hs9 : slots + 1600 ≤ 7293034) (hI : LI G o9 am ad S H) (hS : va_S (xA G) s.heap H locs) (i : Nat) (hi : i + 6 ≤ L) (ls : Array Slot) (hl : lv_has ls 7 [(0, .ref b), (1, .ref (ad 0)), (2, .ref (am 0)), (3, .ref o9), (4, .int (nI i))]) (kk : ∀ (ad1 : Nat → Nat) (S1 : zS) (H1 : Heap) (locs1 : List Loc) (ls1 : Array Slot), ad1 0 = ad 0 → LI G o9 am ad1 S1 H1 → va_S (xA G) s.heap H1 locs1 → lv_has ls1 7 [(0, .ref b), (1, .ref (ad 0)), (2, .ref (am 0)), (3, .ref o9), (4, .int (nI i))] → W p l e room_1 s m #[Value.ref b] below meth c H1 locs1 (cells + 60) (slots + 1600) (lw_Z below #[Value.ref b] s) (F0 m 1193 ls1 [])) : W p l e room_1 s m #[Value.ref b] below meth c H locs cells slots (lw_Z below #[Value.ref b] s) (F0 m 466 ls []) := by
  obtain ⟨hx, hb, hr, hml, hown, hts0, hX0, hbl, hlocks, hgv⟩ := id C0
  have hown : s.vm.findClass RL = some m.cls := hown
  have hts : ∀ w ∈ wsL_law, w.before #[Value.ref b] s = true := fun w hw => hts0 w (wsL_law_in w hw)
  obtain ⟨hInv, ⟨f0, ho⟩, hX, tp, th, g, wo, z, hM⟩ := id hI
  have hW := hInv.1
  have hC := hG.1
  have hbA : ¬ xA G b := fun q => by have := (h0.1 b).mp q; omega
  have hAm := hM.owns
  have hw2 := L0.w2 hM hS h0
  refine lv_aload_n hx hb dL_law_466 rfl (lv_at hl 1 rfl) ?_
  refine lv_aload_n hx hb dL_law_467 rfl (lv_at hl 0 rfl) ?_
  refine lv_iload hx hb dL_law_468 (lv_at hl 4 rfl) ?_
  refine lv_iconst (v := (nI 1)) hx hb dL_law_470 (by decide) ?_
  refine x_iaddn (a := i) (b := 1) hx hb dL_law_471 ?_
  refine va_sld (A := xA G) hx hb hX0 hbl hbA hS (vp_in_nI (show (i + 1) < L by omega) (by omega)) dL_law_472 ?_
  rw [nI_clamp (show (i + 1) < 2 ^ 31 by omega)]
  refine lv_aload_n hx hb dL_law_473 rfl (lv_at hl 3 rfl) ?_
  refine x_call (G1 := lGw G am) (px := xNo) (vx_runSX (As := [.ref (ad 0), .int (xs (i + 1)), .ref o9]) (rest := []) ⟨hx, hb, hml, hown, hts⟩ (c_L_join l hfl (lGw G am) o9 ad S f0 (xs (i + 1)) H hX hW ho (L0.w (A := True) h0)) (vx_cwSW 3 hts gL_law_L_join rfl rfl rfl (by decide +kernel) ⟨(Nat.le_of_ble_eq_true rfl), (Nat.le_of_ble_eq_true rfl)⟩) (lPreS ⟨hC, hG.2⟩ hS (fun _ h => h.1) hw2) rfl rfl hl.1 rfl (lv_room (Nat.le_of_ble_eq_true rfl)) dL_law_474 ⟨show cells + 8 ≤ 601024 by omega, show slots + 60 ≤ 7293034 by omega⟩) hS (fun _ h => h.1) (fun _ _ _ _ _ h => h.elim) (fun v H1 locs hp hz hk hS => ?_)
  obtain ⟨rfl, ad2, f2, had, hX2, ho2, hf2⟩ := hp
  have hM := hM.w hz hk
  refine lv_istore (lv' := [(5, .int (nI (kjoin S (xs (i + 1))))), (0, .ref b), (1, .ref (ad 0)), (2, .ref (am 0)), (3, .ref o9), (4, .int (nI i))]) hx hb dL_law_477 hl (by decide) rfl (fun ls hl => ?_)
  refine lv_aload_n hx hb dL_law_479 rfl (lv_at hl 3 rfl) ?_
  refine lv_aload_n hx hb dL_law_480 rfl (lv_at hl 1 rfl) ?_
  refine lv_iload hx hb dL_law_481 (lv_at hl 5 rfl) ?_
  refine lv_iconst (v := (nI 1)) hx hb dL_law_483 (by decide) ?_
  refine x_iaddn (a := i) (b := 1) hx hb dL_law_484 ?_
  refine va_sld (A := xA G) hx hb hX0 hbl hbA hS (vp_in_nI (show (i + 1) < L by omega) (by omega)) dL_law_485 ?_
  rw [nI_clamp (show (i + 1) < 2 ^ 31 by omega)]
  have hMx := hM.re (A := fun q => (∃ i, i < 11 ∧ q = am i) ∨ H1.size ≤ q) (fun i hi => Or.inl ⟨i, hi, rfl⟩)
  refine x_call (G1 := lGm G am H1.size) (px := xNo) (vx_runV (As := [.int (xs (i + 1))]) (rest := []) ⟨hx, hb, hml, hown, hts⟩ (c_X5_join l hfl (lGm G am H1.size) am S tp th g wo z (xs (i + 1)) H1 hMx hW) (cwV 1 hts gL_law_X5_join rfl rfl rfl (by decide +kernel) ⟨(Nat.le_of_ble_eq_true rfl), (Nat.le_of_ble_eq_true rfl)⟩) (lPreV hC hS (h0.m1 hAm hS) (fun q hq => Or.inr hq) hMx.2.1 (q := (RX5, TX5, 14)) rfl) rfl rfl hl.1 rfl (lv_room (Nat.le_of_ble_eq_true rfl)) dL_law_486 ⟨show cells + 8 + 0 ≤ 601024 by omega, show slots + 60 + 0 ≤ 7293034 by omega⟩) hS (h0.m1 hAm hS) (fun _ _ _ _ _ h => h.elim) (fun v H2 locs hp hz2 hk2 hS2 => ?_)
  obtain ⟨r9, rfl, hr9, tp2, g2, W2, z2, hM2⟩ := hp
  have hX3 := hX2.m h0 hS hAm hz2 hk2
  have ho3 := h0.o ho2 hk2
  have hM3 := hM2.un hAm
  have hS := hS2
  refine lv_istore (lv' := [(6, .int r9), (5, .int (nI (kjoin S (xs (i + 1))))), (0, .ref b), (1, .ref (ad 0)), (2, .ref (am 0)), (3, .ref o9), (4, .int (nI i))]) hx hb dL_law_489 hl (by decide) rfl (fun ls hl => ?_)
  refine lv_aload_n hx hb dL_law_491 rfl (lv_at hl 4 rfl) ?_
  refine x_intE (vx_runV (As := []) (rest := []) ⟨hx, hb, hml, hown, hts⟩ (c_X5_thrown l hfl G am (if (kjoin S (xs (i + 1))) = 0 then (zpool S (xs (i + 1)).toNatClampNeg true) else S) tp2 (kjoin S (xs (i + 1))) g2 W2 z2 H2 hM3) (cwV 0 hts gL_law_X5_thrown rfl rfl rfl (by decide +kernel) ⟨(Nat.le_of_ble_eq_true rfl), (Nat.le_of_ble_eq_true rfl)⟩) (xPreV hC hS hM3.2.1 (q := (RX5, TX5, 14)) rfl) rfl rfl hl.1 rfl (lv_room (Nat.le_of_ble_eq_true rfl)) dL_law_492 ⟨show cells + 8 + 0 + 0 ≤ 601024 by omega, show slots + 60 + 0 + 0 ≤ 7293034 by omega⟩) hS (fun locs hS => ?_)
  refine lv_iload hx hb dL_law_495 (lv_at hl 1 rfl) ?_
  refine lv_icmp_eq (tgt := 502) hx hb dL_law_497 (by decide) (fun c_1 => ?_) (fun c_1 => ?_)
  · have _ := hx
    refine lv_iload hx hb dL_law_502 (lv_at hl 1 rfl) ?_
    refine lv_if_ne (tgt := 519) hx hb dL_law_504 (by decide) (fun c_2 => ?_) (fun c_2 => ?_)
    · have _ := hx
      have hk0 : ¬ (kjoin S (xs (i + 1))) = 0 := fun q => c_2 ((nI_K (kle_join S (xs (i + 1)))).mpr q)
      refine lv_goto (tgt := 1193) hx hb dL_law_519 (by decide) ?_
      rw [if_neg hk0] at hM3 hX3
      exact W.widen (k := cells + 60) (n := slots + 1600) (show cells + 8 + 0 ≤ cells + 60 by omega) (show slots + 60 + 0 ≤ slots + 1600 by omega) (kk ad2 (S) H2 locs ls had ⟨hInv, ⟨_, ho3⟩, hX3, _, _, _, _, _, hM3⟩ hS (lv_sub hl [2, 3, 4, 5, 6] rfl))
    · have _ := hx
      have hk0 : (kjoin S (xs (i + 1))) = 0 := (nI_K (kle_join S (xs (i + 1)))).mp (by first | exact c_2 | exact Classical.not_not.mp c_2)
      have hr9 := hr9 hk0
      subst hr9
      have hf2 := hf2 hk0
      refine lv_aload_n hx hb dL_law_507 rfl (lv_at hl 5 rfl) ?_
      refine lv_iconst (v := (nI 0)) hx hb dL_law_508 (by decide) ?_
      refine x_jald (G := G) (j := 0) hx hb hC ho3 (by decide) (by decide) dL_law_509 ?_
      rw [hf2]
      refine lv_iload hx hb dL_law_510 (lv_at hl 0 rfl) ?_
      refine lv_i2l (v := ((nI (xct (zI (zpool S (xs (i + 1)).toNatClampNeg true)) (zN S)) : Int32).toInt64)) hx hb dL_law_512 rfl ?_
      refine W.lcmp hx hb dL_law_513 ?_
      refine lv_if_eq (tgt := 519) hx hb dL_law_514 (by decide) (fun c_3 => ?_) (fun c_3 => ?_)
      · have _ := hx
        refine lv_goto (tgt := 1193) hx hb dL_law_519 (by decide) ?_
        rw [if_pos hk0] at hM3 hX3
        exact W.widen (k := cells + 60) (n := slots + 1600) (show cells + 8 + 0 ≤ cells + 60 by omega) (show slots + 60 + 0 ≤ slots + 1600 by omega) (kk ad2 (zpool S (xs (i + 1)).toNatClampNeg true) H2 locs ls had ⟨l_join hInv hk0, ⟨_, ho3⟩, hX3, _, _, _, _, _, hM3⟩ hS (lv_sub hl [2, 3, 4, 5, 6] rfl))
      · have _ := hx
        exact absurd (lcmp_rf _) c_3
  · have _ := hx
    exact absurd rfl c_1

set_option maxHeartbeats 2000000 in
set_option maxRecDepth 100000 in
/-- leave -/
theorem law_leave {p : Program} {e : Env} {s : State} {m : MethodId} {below : List Frame} {meth : Method} {c : Code} (l : Launch) (hfl : l.stackTraces = false) {b L : Nat} {xs : Nat → Int32} (hL : L ≤ 3072) (C0 : lw_At p s m meth c b L xs) (G : xG) (hG : lC G s) (o9 : Nat) (am : Nat → Nat) (h0 : L0 G s o9 am) (ad : Nat → Nat) (S : zS) (H : Heap) (locs : List Loc) (cells slots : Nat) (hc9 : cells + 60 ≤ 601024) (hs9 : slots + 1600 ≤ 7293034) (hI : LI G o9 am ad S H) (hS : va_S (xA G) s.heap H locs) (i : Nat) (hi : i + 6 ≤ L) (ls : Array Slot) (hl : lv_has ls 7 [(0, .ref b), (1, .ref (ad 0)), (2, .ref (am 0)), (3, .ref o9), (4, .int (nI i))]) (kk : ∀ (ad1 : Nat → Nat) (S1 : zS) (H1 : Heap) (locs1 : List Loc) (ls1 : Array Slot), ad1 0 = ad 0 → LI G o9 am ad1 S1 H1 → va_S (xA G) s.heap H1 locs1 → lv_has ls1 7 [(0, .ref b), (1, .ref (ad 0)), (2, .ref (am 0)), (3, .ref o9), (4, .int (nI i))] → W p l e room_1 s m #[Value.ref b] below meth c H1 locs1 (cells + 60) (slots + 1600) (lw_Z below #[Value.ref b] s) (F0 m 1193 ls1 [])) : W p l e room_1 s m #[Value.ref b] below meth c H locs cells slots (lw_Z below #[Value.ref b] s) (F0 m 522 ls []) := by
  obtain ⟨hx, hb, hr, hml, hown, hts0, hX0, hbl, hlocks, hgv⟩ := id C0
  have hown : s.vm.findClass RL = some m.cls := hown
  have hts : ∀ w ∈ wsL_law, w.before #[Value.ref b] s = true := fun w hw => hts0 w (wsL_law_in w hw)
  obtain ⟨hInv, ⟨f0, ho⟩, hX, tp, th, g, wo, z, hM⟩ := id hI
  have hW := hInv.1
  have hC := hG.1
  have hbA : ¬ xA G b := fun q => by have := (h0.1 b).mp q; omega
  have hAm := hM.owns
  have hw2 := L0.w2 hM hS h0
  refine lv_aload_n hx hb dL_law_522 rfl (lv_at hl 1 rfl) ?_
  refine lv_aload_n hx hb dL_law_523 rfl (lv_at hl 0 rfl) ?_
  refine lv_iload hx hb dL_law_524 (lv_at hl 4 rfl) ?_
  refine lv_iconst (v := (nI 1)) hx hb dL_law_526 (by decide) ?_
  refine x_iaddn (a := i) (b := 1) hx hb dL_law_527 ?_
  refine va_sld (A := xA G) hx hb hX0 hbl hbA hS (vp_in_nI (show (i + 1) < L by omega) (by omega)) dL_law_528 ?_
  rw [nI_clamp (show (i + 1) < 2 ^ 31 by omega)]
  refine lv_aload_n hx hb dL_law_529 rfl (lv_at hl 3 rfl) ?_
  refine x_call (G1 := lGw G am) (px := xNo) (vx_runSX (As := [.ref (ad 0), .int (xs (i + 1)), .ref o9]) (rest := []) ⟨hx, hb, hml, hown, hts⟩ (c_L_leave l hfl (lGw G am) o9 ad S f0 (xs (i + 1)) H hX hW ho (L0.w (A := True) h0)) (vx_cwSW 3 hts gL_law_L_leave rfl rfl rfl (by decide +kernel) ⟨(Nat.le_of_ble_eq_true rfl), (Nat.le_of_ble_eq_true rfl)⟩) (lPreS ⟨hC, hG.2⟩ hS (fun _ h => h.1) hw2) rfl rfl hl.1 rfl (lv_room (Nat.le_of_ble_eq_true rfl)) dL_law_530 ⟨show cells + 8 ≤ 601024 by omega, show slots + 60 ≤ 7293034 by omega⟩) hS (fun _ h => h.1) (fun _ _ _ _ _ h => h.elim) (fun v H1 locs hp hz hk hS => ?_)
  obtain ⟨rfl, ad2, f2, had, hX2, ho2, hf2⟩ := hp
  have hM := hM.w hz hk
  refine lv_istore (lv' := [(5, .int (nI (kleave S (xs (i + 1))))), (0, .ref b), (1, .ref (ad 0)), (2, .ref (am 0)), (3, .ref o9), (4, .int (nI i))]) hx hb dL_law_533 hl (by decide) rfl (fun ls hl => ?_)
  refine lv_aload_n hx hb dL_law_535 rfl (lv_at hl 3 rfl) ?_
  refine lv_aload_n hx hb dL_law_536 rfl (lv_at hl 1 rfl) ?_
  refine lv_iload hx hb dL_law_537 (lv_at hl 5 rfl) ?_
  refine lv_iconst (v := (nI 1)) hx hb dL_law_539 (by decide) ?_
  refine x_iaddn (a := i) (b := 1) hx hb dL_law_540 ?_
  refine va_sld (A := xA G) hx hb hX0 hbl hbA hS (vp_in_nI (show (i + 1) < L by omega) (by omega)) dL_law_541 ?_
  rw [nI_clamp (show (i + 1) < 2 ^ 31 by omega)]
  have hMx := hM.re (A := fun q => (∃ i, i < 11 ∧ q = am i) ∨ H1.size ≤ q) (fun i hi => Or.inl ⟨i, hi, rfl⟩)
  refine x_call (G1 := lGm G am H1.size) (px := xNo) (vx_runV (As := [.int (xs (i + 1))]) (rest := []) ⟨hx, hb, hml, hown, hts⟩ (c_X5_leave l hfl (lGm G am H1.size) am S tp th g wo z (xs (i + 1)) H1 hMx hW) (cwV 1 hts gL_law_X5_leave rfl rfl rfl (by decide +kernel) ⟨(Nat.le_of_ble_eq_true rfl), (Nat.le_of_ble_eq_true rfl)⟩) (lPreV hC hS (h0.m1 hAm hS) (fun q hq => Or.inr hq) hMx.2.1 (q := (RX5, TX5, 14)) rfl) rfl rfl hl.1 rfl (lv_room (Nat.le_of_ble_eq_true rfl)) dL_law_542 ⟨show cells + 8 + 0 ≤ 601024 by omega, show slots + 60 + 0 ≤ 7293034 by omega⟩) hS (h0.m1 hAm hS) (fun _ _ _ _ _ h => h.elim) (fun v H2 locs hp hz2 hk2 hS2 => ?_)
  obtain ⟨r9, rfl, hr9, tp2, g2, W2, z2, hM2⟩ := hp
  have hX3 := hX2.m h0 hS hAm hz2 hk2
  have ho3 := h0.o ho2 hk2
  have hM3 := hM2.un hAm
  have hS := hS2
  refine lv_istore (lv' := [(6, .int r9), (5, .int (nI (kleave S (xs (i + 1))))), (0, .ref b), (1, .ref (ad 0)), (2, .ref (am 0)), (3, .ref o9), (4, .int (nI i))]) hx hb dL_law_545 hl (by decide) rfl (fun ls hl => ?_)
  refine lv_aload_n hx hb dL_law_547 rfl (lv_at hl 4 rfl) ?_
  refine x_intE (vx_runV (As := []) (rest := []) ⟨hx, hb, hml, hown, hts⟩ (c_X5_thrown l hfl G am (if (kleave S (xs (i + 1))) = 0 then (zpool S (xs (i + 1)).toNatClampNeg false) else S) tp2 (kleave S (xs (i + 1))) g2 W2 z2 H2 hM3) (cwV 0 hts gL_law_X5_thrown rfl rfl rfl (by decide +kernel) ⟨(Nat.le_of_ble_eq_true rfl), (Nat.le_of_ble_eq_true rfl)⟩) (xPreV hC hS hM3.2.1 (q := (RX5, TX5, 14)) rfl) rfl rfl hl.1 rfl (lv_room (Nat.le_of_ble_eq_true rfl)) dL_law_548 ⟨show cells + 8 + 0 + 0 ≤ 601024 by omega, show slots + 60 + 0 + 0 ≤ 7293034 by omega⟩) hS (fun locs hS => ?_)
  refine lv_iload hx hb dL_law_551 (lv_at hl 1 rfl) ?_
  refine lv_icmp_eq (tgt := 558) hx hb dL_law_553 (by decide) (fun c_1 => ?_) (fun c_1 => ?_)
  · have _ := hx
    refine lv_iload hx hb dL_law_558 (lv_at hl 1 rfl) ?_
    refine lv_if_ne (tgt := 575) hx hb dL_law_560 (by decide) (fun c_2 => ?_) (fun c_2 => ?_)
    · have _ := hx
      have hk0 : ¬ (kleave S (xs (i + 1))) = 0 := fun q => c_2 ((nI_K (kle_leave S (xs (i + 1)))).mpr q)
      refine lv_goto (tgt := 1193) hx hb dL_law_575 (by decide) ?_
      rw [if_neg hk0] at hM3 hX3
      exact W.widen (k := cells + 60) (n := slots + 1600) (show cells + 8 + 0 ≤ cells + 60 by omega) (show slots + 60 + 0 ≤ slots + 1600 by omega) (kk ad2 (S) H2 locs ls had ⟨hInv, ⟨_, ho3⟩, hX3, _, _, _, _, _, hM3⟩ hS (lv_sub hl [2, 3, 4, 5, 6] rfl))
    · have _ := hx
      have hk0 : (kleave S (xs (i + 1))) = 0 := (nI_K (kle_leave S (xs (i + 1)))).mp (by first | exact c_2 | exact Classical.not_not.mp c_2)
      have hr9 := hr9 hk0
      subst hr9
      have hf2 := hf2 hk0
      refine lv_aload_n hx hb dL_law_563 rfl (lv_at hl 5 rfl) ?_
      refine lv_iconst (v := (nI 0)) hx hb dL_law_564 (by decide) ?_
      refine x_jald (G := G) (j := 0) hx hb hC ho3 (by decide) (by decide) dL_law_565 ?_
      rw [hf2]
      refine lv_iload hx hb dL_law_566 (lv_at hl 0 rfl) ?_
      refine lv_i2l (v := ((nI (xct (zI (zpool S (xs (i + 1)).toNatClampNeg false)) (zN S)) : Int32).toInt64)) hx hb dL_law_568 rfl ?_
      refine W.lcmp hx hb dL_law_569 ?_
      refine lv_if_eq (tgt := 575) hx hb dL_law_570 (by decide) (fun c_3 => ?_) (fun c_3 => ?_)
      · have _ := hx
        refine lv_goto (tgt := 1193) hx hb dL_law_575 (by decide) ?_
        rw [if_pos hk0] at hM3 hX3
        exact W.widen (k := cells + 60) (n := slots + 1600) (show cells + 8 + 0 ≤ cells + 60 by omega) (show slots + 60 + 0 ≤ slots + 1600 by omega) (kk ad2 (zpool S (xs (i + 1)).toNatClampNeg false) H2 locs ls had ⟨l_leave hInv hk0, ⟨_, ho3⟩, hX3, _, _, _, _, _, hM3⟩ hS (lv_sub hl [2, 3, 4, 5, 6] rfl))
      · have _ := hx
        exact absurd (lcmp_rf _) c_3
  · have _ := hx
    exact absurd rfl c_1

set_option maxHeartbeats 2000000 in
set_option maxRecDepth 100000 in
/-- isIn -/
theorem law_isIn {p : Program} {e : Env} {s : State} {m : MethodId} {below : List Frame} {meth : Method} {c : Code} (l : Launch) (hfl : l.stackTraces = false) {b L : Nat} {xs : Nat → Int32} (hL : L ≤ 3072) (C0 : lw_At p s m meth c b L xs) (G : xG) (hG : lC G s) (o9 : Nat) (am : Nat → Nat) (h0 : L0 G s o9 am) (ad : Nat → Nat) (S : zS) (H : Heap) (locs : List Loc) (cells slots : Nat) (hc9 : cells + 60 ≤ 601024) (hs9 : slots + 1600 ≤ 7293034) (hI : LI G o9 am ad S H) (hS : va_S (xA G) s.heap H locs) (i : Nat) (hi : i + 6 ≤ L) (ls : Array Slot) (hl : lv_has ls 7 [(0, .ref b), (1, .ref (ad 0)), (2, .ref (am 0)), (3, .ref o9), (4, .int (nI i))]) (kk : ∀ (ad1 : Nat → Nat) (S1 : zS) (H1 : Heap) (locs1 : List Loc) (ls1 : Array Slot), ad1 0 = ad 0 → LI G o9 am ad1 S1 H1 → va_S (xA G) s.heap H1 locs1 → lv_has ls1 7 [(0, .ref b), (1, .ref (ad 0)), (2, .ref (am 0)), (3, .ref o9), (4, .int (nI i))] → W p l e room_1 s m #[Value.ref b] below meth c H1 locs1 (cells + 60) (slots + 1600) (lw_Z below #[Value.ref b] s) (F0 m 1193 ls1 [])) : W p l e room_1 s m #[Value.ref b] below meth c H locs cells slots (lw_Z below #[Value.ref b] s) (F0 m 578 ls []) := by
  obtain ⟨hx, hb, hr, hml, hown, hts0, hX0, hbl, hlocks, hgv⟩ := id C0
  have hown : s.vm.findClass RL = some m.cls := hown
  have hts : ∀ w ∈ wsL_law, w.before #[Value.ref b] s = true := fun w hw => hts0 w (wsL_law_in w hw)
  obtain ⟨hInv, ⟨f0, ho⟩, hX, tp, th, g, wo, z, hM⟩ := id hI
  have hW := hInv.1
  have hC := hG.1
  have hbA : ¬ xA G b := fun q => by have := (h0.1 b).mp q; omega
  have hAm := hM.owns
  have hw2 := L0.w2 hM hS h0
  refine lv_aload_n hx hb dL_law_578 rfl (lv_at hl 1 rfl) ?_
  refine lv_aload_n hx hb dL_law_579 rfl (lv_at hl 0 rfl) ?_
  refine lv_iload hx hb dL_law_580 (lv_at hl 4 rfl) ?_
  refine lv_iconst (v := (nI 1)) hx hb dL_law_582 (by decide) ?_
  refine x_iaddn (a := i) (b := 1) hx hb dL_law_583 ?_
  refine va_sld (A := xA G) hx hb hX0 hbl hbA hS (vp_in_nI (show (i + 1) < L by omega) (by omega)) dL_law_584 ?_
  rw [nI_clamp (show (i + 1) < 2 ^ 31 by omega)]
  refine lv_aload_n hx hb dL_law_585 rfl (lv_at hl 3 rfl) ?_
  refine x_call (G1 := lGw G am) (px := xNo) (vx_runSX (As := [.ref (ad 0), .int (xs (i + 1)), .ref o9]) (rest := []) ⟨hx, hb, hml, hown, hts⟩ (c_L_isIn l hfl (lGw G am) o9 ad S f0 (xs (i + 1)) H hX hW ho (L0.w (A := True) h0)) (vx_cwSW 3 hts gL_law_L_isIn rfl rfl rfl (by decide +kernel) ⟨(Nat.le_of_ble_eq_true rfl), (Nat.le_of_ble_eq_true rfl)⟩) (lPreS ⟨hC, hG.2⟩ hS (fun _ h => h.1) hw2) rfl rfl hl.1 rfl (lv_room (Nat.le_of_ble_eq_true rfl)) dL_law_586 ⟨show cells + 8 ≤ 601024 by omega, show slots + 60 ≤ 7293034 by omega⟩) hS (fun _ h => h.1) (fun _ _ _ _ _ h => h.elim) (fun v H1 locs hp hz hk hS => ?_)
  obtain ⟨rfl, ad2, f2, had, hX2, ho2, hf2⟩ := hp
  have hM := hM.w hz hk
  refine lv_istore (lv' := [(5, .int (nI (kstrat S (xs (i + 1))))), (0, .ref b), (1, .ref (ad 0)), (2, .ref (am 0)), (3, .ref o9), (4, .int (nI i))]) hx hb dL_law_589 hl (by decide) rfl (fun ls hl => ?_)
  refine lv_aload_n hx hb dL_law_591 rfl (lv_at hl 3 rfl) ?_
  refine lv_aload_n hx hb dL_law_592 rfl (lv_at hl 1 rfl) ?_
  refine lv_iload hx hb dL_law_593 (lv_at hl 5 rfl) ?_
  refine lv_iconst (v := (nI 1)) hx hb dL_law_595 (by decide) ?_
  refine x_iaddn (a := i) (b := 1) hx hb dL_law_596 ?_
  refine va_sld (A := xA G) hx hb hX0 hbl hbA hS (vp_in_nI (show (i + 1) < L by omega) (by omega)) dL_law_597 ?_
  rw [nI_clamp (show (i + 1) < 2 ^ 31 by omega)]
  have hMx := hM.re (A := fun q => (∃ i, i < 11 ∧ q = am i) ∨ H1.size ≤ q) (fun i hi => Or.inl ⟨i, hi, rfl⟩)
  refine x_call (G1 := lGm G am H1.size) (px := xNo) (vx_runV (As := [.int (xs (i + 1))]) (rest := []) ⟨hx, hb, hml, hown, hts⟩ (c_X5_isIn l hfl (lGm G am H1.size) am S tp th g wo z (xs (i + 1)) H1 hMx hW) (cwV 1 hts gL_law_X5_isIn rfl rfl rfl (by decide +kernel) ⟨(Nat.le_of_ble_eq_true rfl), (Nat.le_of_ble_eq_true rfl)⟩) (lPreV hC hS (h0.m1 hAm hS) (fun q hq => Or.inr hq) hMx.2.1 (q := (RX5, TX5, 14)) rfl) rfl rfl hl.1 rfl (lv_room (Nat.le_of_ble_eq_true rfl)) dL_law_598 ⟨show cells + 8 + 0 ≤ 601024 by omega, show slots + 60 + 0 ≤ 7293034 by omega⟩) hS (h0.m1 hAm hS) (fun _ _ _ _ _ h => h.elim) (fun v H2 locs hp hz2 hk2 hS2 => ?_)
  obtain ⟨r9, rfl, hr9, tp2, g2, W2, z2, hM2⟩ := hp
  have hX3 := hX2.m h0 hS hAm hz2 hk2
  have ho3 := h0.o ho2 hk2
  have hM3 := hM2.un hAm
  have hS := hS2
  refine lv_istore (lv' := [(6, .int r9), (5, .int (nI (kstrat S (xs (i + 1))))), (0, .ref b), (1, .ref (ad 0)), (2, .ref (am 0)), (3, .ref o9), (4, .int (nI i))]) hx hb dL_law_601 hl (by decide) rfl (fun ls hl => ?_)
  refine lv_aload_n hx hb dL_law_603 rfl (lv_at hl 4 rfl) ?_
  refine x_intE (vx_runV (As := []) (rest := []) ⟨hx, hb, hml, hown, hts⟩ (c_X5_thrown l hfl G am (if (kstrat S (xs (i + 1))) = 0 then (S) else S) tp2 (kstrat S (xs (i + 1))) g2 W2 z2 H2 hM3) (cwV 0 hts gL_law_X5_thrown rfl rfl rfl (by decide +kernel) ⟨(Nat.le_of_ble_eq_true rfl), (Nat.le_of_ble_eq_true rfl)⟩) (xPreV hC hS hM3.2.1 (q := (RX5, TX5, 14)) rfl) rfl rfl hl.1 rfl (lv_room (Nat.le_of_ble_eq_true rfl)) dL_law_604 ⟨show cells + 8 + 0 + 0 ≤ 601024 by omega, show slots + 60 + 0 + 0 ≤ 7293034 by omega⟩) hS (fun locs hS => ?_)
  refine lv_iload hx hb dL_law_607 (lv_at hl 1 rfl) ?_
  refine lv_icmp_eq (tgt := 614) hx hb dL_law_609 (by decide) (fun c_1 => ?_) (fun c_1 => ?_)
  · have _ := hx
    refine lv_iload hx hb dL_law_614 (lv_at hl 1 rfl) ?_
    refine lv_if_ne (tgt := 638) hx hb dL_law_616 (by decide) (fun c_2 => ?_) (fun c_2 => ?_)
    · have _ := hx
      have hk0 : ¬ (kstrat S (xs (i + 1))) = 0 := fun q => c_2 ((nI_K (kle_strat S (xs (i + 1)))).mpr q)
      refine lv_goto (tgt := 1193) hx hb dL_law_638 (by decide) ?_
      rw [if_neg hk0] at hM3 hX3
      exact W.widen (k := cells + 60) (n := slots + 1600) (show cells + 8 + 0 ≤ cells + 60 by omega) (show slots + 60 + 0 ≤ slots + 1600 by omega) (kk ad2 (S) H2 locs ls had ⟨hInv, ⟨_, ho3⟩, hX3, _, _, _, _, _, hM3⟩ hS (lv_sub hl [2, 3, 4, 5, 6] rfl))
    · have _ := hx
      have hk0 : (kstrat S (xs (i + 1))) = 0 := (nI_K (kle_strat S (xs (i + 1)))).mp (by first | exact c_2 | exact Classical.not_not.mp c_2)
      have hr9 := hr9 hk0
      subst hr9
      have hf2 := hf2 hk0
      refine lv_aload_n hx hb dL_law_619 rfl (lv_at hl 5 rfl) ?_
      refine lv_iconst (v := (nI 0)) hx hb dL_law_620 (by decide) ?_
      refine x_jald (G := G) (j := 0) hx hb hC ho3 (by decide) (by decide) dL_law_621 ?_
      rw [hf2]
      refine lv_iload hx hb dL_law_622 (lv_at hl 0 rfl) ?_
      refine lv_if_eq (tgt := 631) hx hb dL_law_624 (by decide) (fun c_3 => ?_) (fun c_3 => ?_)
      · have _ := hx
        have hB : zI S (xs (i + 1)).toNatClampNeg = false := xb_0.mp c_3
        refine lv_lconst (v := (lN 0)) hx hb dL_law_631 (by decide) ?_
        refine W.lcmp hx hb dL_law_632 ?_
        refine lv_if_eq (tgt := 638) hx hb dL_law_633 (by decide) (fun c_4 => ?_) (fun c_4 => ?_)
        · have _ := hx
          refine lv_goto (tgt := 1193) hx hb dL_law_638 (by decide) ?_
          rw [if_pos hk0] at hM3 hX3
          exact W.widen (k := cells + 60) (n := slots + 1600) (show cells + 8 + 0 ≤ cells + 60 by omega) (show slots + 60 + 0 ≤ slots + 1600 by omega) (kk ad2 (S) H2 locs ls had ⟨hInv, ⟨_, ho3⟩, hX3, _, _, _, _, _, hM3⟩ hS (lv_sub hl [2, 3, 4, 5, 6] rfl))
        · have _ := hx
          exact absurd (by rw [hB]; exact lcmp_rf _) c_4
      · have _ := hx
        have hB : zI S (xs (i + 1)).toNatClampNeg = true := xb_1 c_3
        refine lv_lconst (v := (lN 1)) hx hb dL_law_627 (by decide) ?_
        refine lv_goto (tgt := 632) hx hb dL_law_628 (by decide) ?_
        refine W.lcmp hx hb dL_law_632 ?_
        refine lv_if_eq (tgt := 638) hx hb dL_law_633 (by decide) (fun c_5 => ?_) (fun c_5 => ?_)
        · have _ := hx
          refine lv_goto (tgt := 1193) hx hb dL_law_638 (by decide) ?_
          rw [if_pos hk0] at hM3 hX3
          exact W.widen (k := cells + 60) (n := slots + 1600) (show cells + 8 + 0 ≤ cells + 60 by omega) (show slots + 60 + 0 ≤ slots + 1600 by omega) (kk ad2 (S) H2 locs ls had ⟨hInv, ⟨_, ho3⟩, hX3, _, _, _, _, _, hM3⟩ hS (lv_sub hl [2, 3, 4, 5, 6] rfl))
        · have _ := hx
          exact absurd (by rw [hB]; exact lcmp_rf _) c_5
  · have _ := hx
    exact absurd rfl c_1

set_option maxHeartbeats 2000000 in
set_option maxRecDepth 100000 in
/-- forbid -/
theorem law_forbid {p : Program} {e : Env} {s : State} {m : MethodId} {below : List Frame} {meth : Method} {c : Code} (l : Launch) (hfl : l.stackTraces = false) {b L : Nat} {xs : Nat → Int32} (hL : L ≤ 3072) (C0 : lw_At p s m meth c b L xs) (G : xG) (hG : lC G s) (o9 : Nat) (am : Nat → Nat) (h0 : L0 G s o9 am) (ad : Nat → Nat) (S : zS) (H : Heap) (locs : List Loc) (cells slots : Nat) (hc9 : cells + 60 ≤ 601024) (hs9 : slots + 1600 ≤ 7293034) (hI : LI G o9 am ad S H) (hS : va_S (xA G) s.heap H locs) (i : Nat) (hi : i + 6 ≤ L) (ls : Array Slot) (hl : lv_has ls 7 [(0, .ref b), (1, .ref (ad 0)), (2, .ref (am 0)), (3, .ref o9), (4, .int (nI i))]) (kk : ∀ (ad1 : Nat → Nat) (S1 : zS) (H1 : Heap) (locs1 : List Loc) (ls1 : Array Slot), ad1 0 = ad 0 → LI G o9 am ad1 S1 H1 → va_S (xA G) s.heap H1 locs1 → lv_has ls1 7 [(0, .ref b), (1, .ref (ad 0)), (2, .ref (am 0)), (3, .ref o9), (4, .int (nI i))] → W p l e room_1 s m #[Value.ref b] below meth c H1 locs1 (cells + 60) (slots + 1600) (lw_Z below #[Value.ref b] s) (F0 m 1193 ls1 [])) : W p l e room_1 s m #[Value.ref b] below meth c H locs cells slots (lw_Z below #[Value.ref b] s) (F0 m 641 ls []) := by
  obtain ⟨hx, hb, hr, hml, hown, hts0, hX0, hbl, hlocks, hgv⟩ := id C0
  have hown : s.vm.findClass RL = some m.cls := hown
  have hts : ∀ w ∈ wsL_law, w.before #[Value.ref b] s = true := fun w hw => hts0 w (wsL_law_in w hw)
  obtain ⟨hInv, ⟨f0, ho⟩, hX, tp, th, g, wo, z, hM⟩ := id hI
  have hW := hInv.1
  have hC := hG.1
  have hbA : ¬ xA G b := fun q => by have := (h0.1 b).mp q; omega
  have hAm := hM.owns
  have hw2 := L0.w2 hM hS h0
  refine lv_aload_n hx hb dL_law_641 rfl (lv_at hl 1 rfl) ?_
  refine lv_aload_n hx hb dL_law_642 rfl (lv_at hl 0 rfl) ?_
  refine lv_iload hx hb dL_law_643 (lv_at hl 4 rfl) ?_
  refine lv_iconst (v := (nI 1)) hx hb dL_law_645 (by decide) ?_
  refine x_iaddn (a := i) (b := 1) hx hb dL_law_646 ?_
  refine va_sld (A := xA G) hx hb hX0 hbl hbA hS (vp_in_nI (show (i + 1) < L by omega) (by omega)) dL_law_647 ?_
  rw [nI_clamp (show (i + 1) < 2 ^ 31 by omega)]
  refine lv_aload_n hx hb dL_law_648 rfl (lv_at hl 3 rfl) ?_
  refine x_call (G1 := lGw G am) (px := xNo) (vx_runSX (As := [.ref (ad 0), .int (xs (i + 1)), .ref o9]) (rest := []) ⟨hx, hb, hml, hown, hts⟩ (c_L_forbid l hfl (lGw G am) o9 ad S f0 (xs (i + 1)) H hX hW ho (L0.w (A := True) h0)) (vx_cwSW 3 hts gL_law_L_forbid rfl rfl rfl (by decide +kernel) ⟨(Nat.le_of_ble_eq_true rfl), (Nat.le_of_ble_eq_true rfl)⟩) (lPreS ⟨hC, hG.2⟩ hS (fun _ h => h.1) hw2) rfl rfl hl.1 rfl (lv_room (Nat.le_of_ble_eq_true rfl)) dL_law_649 ⟨show cells + 8 ≤ 601024 by omega, show slots + 60 ≤ 7293034 by omega⟩) hS (fun _ h => h.1) (fun _ _ _ _ _ h => h.elim) (fun v H1 locs hp hz hk hS => ?_)
  obtain ⟨rfl, ad2, f2, had, hX2, ho2, hf2⟩ := hp
  have hM := hM.w hz hk
  refine lv_istore (lv' := [(5, .int (nI (kval S (xs (i + 1))))), (0, .ref b), (1, .ref (ad 0)), (2, .ref (am 0)), (3, .ref o9), (4, .int (nI i))]) hx hb dL_law_652 hl (by decide) rfl (fun ls hl => ?_)
  refine lv_aload_n hx hb dL_law_654 rfl (lv_at hl 3 rfl) ?_
  refine lv_aload_n hx hb dL_law_655 rfl (lv_at hl 1 rfl) ?_
  refine lv_iload hx hb dL_law_656 (lv_at hl 5 rfl) ?_
  refine lv_iconst (v := (nI 1)) hx hb dL_law_658 (by decide) ?_
  refine x_iaddn (a := i) (b := 1) hx hb dL_law_659 ?_
  refine va_sld (A := xA G) hx hb hX0 hbl hbA hS (vp_in_nI (show (i + 1) < L by omega) (by omega)) dL_law_660 ?_
  rw [nI_clamp (show (i + 1) < 2 ^ 31 by omega)]
  have hMx := hM.re (A := fun q => (∃ i, i < 11 ∧ q = am i) ∨ H1.size ≤ q) (fun i hi => Or.inl ⟨i, hi, rfl⟩)
  refine x_call (G1 := lGm G am H1.size) (px := xNo) (vx_runV (As := [.int (xs (i + 1))]) (rest := []) ⟨hx, hb, hml, hown, hts⟩ (c_X5_forbid l hfl (lGm G am H1.size) am S tp th g wo z (xs (i + 1)) H1 hMx hW) (cwV 1 hts gL_law_X5_forbid rfl rfl rfl (by decide +kernel) ⟨(Nat.le_of_ble_eq_true rfl), (Nat.le_of_ble_eq_true rfl)⟩) (lPreV hC hS (h0.m1 hAm hS) (fun q hq => Or.inr hq) hMx.2.1 (q := (RX5, TX5, 14)) rfl) rfl rfl hl.1 rfl (lv_room (Nat.le_of_ble_eq_true rfl)) dL_law_661 ⟨show cells + 8 + 0 ≤ 601024 by omega, show slots + 60 + 0 ≤ 7293034 by omega⟩) hS (h0.m1 hAm hS) (fun _ _ _ _ _ h => h.elim) (fun v H2 locs hp hz2 hk2 hS2 => ?_)
  obtain ⟨r9, rfl, hr9, tp2, g2, W2, z2, hM2⟩ := hp
  have hX3 := hX2.m h0 hS hAm hz2 hk2
  have ho3 := h0.o ho2 hk2
  have hM3 := hM2.un hAm
  have hS := hS2
  refine lv_istore (lv' := [(6, .int r9), (5, .int (nI (kval S (xs (i + 1))))), (0, .ref b), (1, .ref (ad 0)), (2, .ref (am 0)), (3, .ref o9), (4, .int (nI i))]) hx hb dL_law_664 hl (by decide) rfl (fun ls hl => ?_)
  refine lv_aload_n hx hb dL_law_666 rfl (lv_at hl 4 rfl) ?_
  refine x_intE (vx_runV (As := []) (rest := []) ⟨hx, hb, hml, hown, hts⟩ (c_X5_thrown l hfl G am (if (kval S (xs (i + 1))) = 0 then (zforb S (xs (i + 1)).toNatClampNeg (zN S)) else S) tp2 (kval S (xs (i + 1))) g2 W2 z2 H2 hM3) (cwV 0 hts gL_law_X5_thrown rfl rfl rfl (by decide +kernel) ⟨(Nat.le_of_ble_eq_true rfl), (Nat.le_of_ble_eq_true rfl)⟩) (xPreV hC hS hM3.2.1 (q := (RX5, TX5, 14)) rfl) rfl rfl hl.1 rfl (lv_room (Nat.le_of_ble_eq_true rfl)) dL_law_667 ⟨show cells + 8 + 0 + 0 ≤ 601024 by omega, show slots + 60 + 0 + 0 ≤ 7293034 by omega⟩) hS (fun locs hS => ?_)
  refine lv_iload hx hb dL_law_670 (lv_at hl 1 rfl) ?_
  refine lv_icmp_eq (tgt := 677) hx hb dL_law_672 (by decide) (fun c_1 => ?_) (fun c_1 => ?_)
  · have _ := hx
    refine lv_iload hx hb dL_law_677 (lv_at hl 1 rfl) ?_
    refine lv_if_ne (tgt := 694) hx hb dL_law_679 (by decide) (fun c_2 => ?_) (fun c_2 => ?_)
    · have _ := hx
      have hk0 : ¬ (kval S (xs (i + 1))) = 0 := fun q => c_2 ((nI_K (kle_val S (xs (i + 1)))).mpr q)
      refine lv_goto (tgt := 1193) hx hb dL_law_694 (by decide) ?_
      rw [if_neg hk0] at hM3 hX3
      exact W.widen (k := cells + 60) (n := slots + 1600) (show cells + 8 + 0 ≤ cells + 60 by omega) (show slots + 60 + 0 ≤ slots + 1600 by omega) (kk ad2 (S) H2 locs ls had ⟨hInv, ⟨_, ho3⟩, hX3, _, _, _, _, _, hM3⟩ hS (lv_sub hl [2, 3, 4, 5, 6] rfl))
    · have _ := hx
      have hk0 : (kval S (xs (i + 1))) = 0 := (nI_K (kle_val S (xs (i + 1)))).mp (by first | exact c_2 | exact Classical.not_not.mp c_2)
      have hr9 := hr9 hk0
      subst hr9
      have hf2 := hf2 hk0
      refine lv_aload_n hx hb dL_law_682 rfl (lv_at hl 5 rfl) ?_
      refine lv_iconst (v := (nI 0)) hx hb dL_law_683 (by decide) ?_
      refine x_jald (G := G) (j := 0) hx hb hC ho3 (by decide) (by decide) dL_law_684 ?_
      rw [hf2]
      refine lv_iload hx hb dL_law_685 (lv_at hl 0 rfl) ?_
      refine lv_i2l (v := ((nI (xct (fun j => zI S j && zline S (xs (i + 1)).toNatClampNeg (j + 1) j) (zN S)) : Int32).toInt64)) hx hb dL_law_687 rfl ?_
      refine W.lcmp hx hb dL_law_688 ?_
      refine lv_if_eq (tgt := 694) hx hb dL_law_689 (by decide) (fun c_3 => ?_) (fun c_3 => ?_)
      · have _ := hx
        refine lv_goto (tgt := 1193) hx hb dL_law_694 (by decide) ?_
        rw [if_pos hk0] at hM3 hX3
        exact W.widen (k := cells + 60) (n := slots + 1600) (show cells + 8 + 0 ≤ cells + 60 by omega) (show slots + 60 + 0 ≤ slots + 1600 by omega) (kk ad2 (zforb S (xs (i + 1)).toNatClampNeg (zN S)) H2 locs ls had ⟨l_forbid hInv, ⟨_, ho3⟩, hX3, _, _, _, _, _, hM3⟩ hS (lv_sub hl [2, 3, 4, 5, 6] rfl))
      · have _ := hx
        exact absurd (lcmp_rf _) c_3
  · have _ := hx
    exact absurd rfl c_1

set_option maxHeartbeats 2000000 in
set_option maxRecDepth 100000 in
/-- allow -/
theorem law_allow {p : Program} {e : Env} {s : State} {m : MethodId} {below : List Frame} {meth : Method} {c : Code} (l : Launch) (hfl : l.stackTraces = false) {b L : Nat} {xs : Nat → Int32} (hL : L ≤ 3072) (C0 : lw_At p s m meth c b L xs) (G : xG) (hG : lC G s) (o9 : Nat) (am : Nat → Nat) (h0 : L0 G s o9 am) (ad : Nat → Nat) (S : zS) (H : Heap) (locs : List Loc) (cells slots : Nat) (hc9 : cells + 60 ≤ 601024) (hs9 : slots + 1600 ≤ 7293034) (hI : LI G o9 am ad S H) (hS : va_S (xA G) s.heap H locs) (i : Nat) (hi : i + 6 ≤ L) (ls : Array Slot) (hl : lv_has ls 7 [(0, .ref b), (1, .ref (ad 0)), (2, .ref (am 0)), (3, .ref o9), (4, .int (nI i))]) (kk : ∀ (ad1 : Nat → Nat) (S1 : zS) (H1 : Heap) (locs1 : List Loc) (ls1 : Array Slot), ad1 0 = ad 0 → LI G o9 am ad1 S1 H1 → va_S (xA G) s.heap H1 locs1 → lv_has ls1 7 [(0, .ref b), (1, .ref (ad 0)), (2, .ref (am 0)), (3, .ref o9), (4, .int (nI i))] → W p l e room_1 s m #[Value.ref b] below meth c H1 locs1 (cells + 60) (slots + 1600) (lw_Z below #[Value.ref b] s) (F0 m 1193 ls1 [])) : W p l e room_1 s m #[Value.ref b] below meth c H locs cells slots (lw_Z below #[Value.ref b] s) (F0 m 697 ls []) := by
  obtain ⟨hx, hb, hr, hml, hown, hts0, hX0, hbl, hlocks, hgv⟩ := id C0
  have hown : s.vm.findClass RL = some m.cls := hown
  have hts : ∀ w ∈ wsL_law, w.before #[Value.ref b] s = true := fun w hw => hts0 w (wsL_law_in w hw)
  obtain ⟨hInv, ⟨f0, ho⟩, hX, tp, th, g, wo, z, hM⟩ := id hI
  have hW := hInv.1
  have hC := hG.1
  have hbA : ¬ xA G b := fun q => by have := (h0.1 b).mp q; omega
  have hAm := hM.owns
  have hw2 := L0.w2 hM hS h0
  refine lv_aload_n hx hb dL_law_697 rfl (lv_at hl 1 rfl) ?_
  refine lv_aload_n hx hb dL_law_698 rfl (lv_at hl 0 rfl) ?_
  refine lv_iload hx hb dL_law_699 (lv_at hl 4 rfl) ?_
  refine lv_iconst (v := (nI 1)) hx hb dL_law_701 (by decide) ?_
  refine x_iaddn (a := i) (b := 1) hx hb dL_law_702 ?_
  refine va_sld (A := xA G) hx hb hX0 hbl hbA hS (vp_in_nI (show (i + 1) < L by omega) (by omega)) dL_law_703 ?_
  rw [nI_clamp (show (i + 1) < 2 ^ 31 by omega)]
  refine lv_aload_n hx hb dL_law_704 rfl (lv_at hl 3 rfl) ?_
  refine x_call (G1 := lGw G am) (px := xNo) (vx_runSX (As := [.ref (ad 0), .int (xs (i + 1)), .ref o9]) (rest := []) ⟨hx, hb, hml, hown, hts⟩ (c_L_allow l hfl (lGw G am) o9 ad S f0 (xs (i + 1)) H hX hW ho (L0.w (A := True) h0)) (vx_cwSW 3 hts gL_law_L_allow rfl rfl rfl (by decide +kernel) ⟨(Nat.le_of_ble_eq_true rfl), (Nat.le_of_ble_eq_true rfl)⟩) (lPreS ⟨hC, hG.2⟩ hS (fun _ h => h.1) hw2) rfl rfl hl.1 rfl (lv_room (Nat.le_of_ble_eq_true rfl)) dL_law_705 ⟨show cells + 8 ≤ 601024 by omega, show slots + 60 ≤ 7293034 by omega⟩) hS (fun _ h => h.1) (fun _ _ _ _ _ h => h.elim) (fun v H1 locs hp hz hk hS => ?_)
  obtain ⟨rfl, ad2, f2, had, hX2, ho2, hf2⟩ := hp
  have hM := hM.w hz hk
  refine lv_istore (lv' := [(5, .int (nI (kval S (xs (i + 1))))), (0, .ref b), (1, .ref (ad 0)), (2, .ref (am 0)), (3, .ref o9), (4, .int (nI i))]) hx hb dL_law_708 hl (by decide) rfl (fun ls hl => ?_)
  refine lv_aload_n hx hb dL_law_710 rfl (lv_at hl 3 rfl) ?_
  refine lv_aload_n hx hb dL_law_711 rfl (lv_at hl 1 rfl) ?_
  refine lv_iload hx hb dL_law_712 (lv_at hl 5 rfl) ?_
  refine lv_iconst (v := (nI 1)) hx hb dL_law_714 (by decide) ?_
  refine x_iaddn (a := i) (b := 1) hx hb dL_law_715 ?_
  refine va_sld (A := xA G) hx hb hX0 hbl hbA hS (vp_in_nI (show (i + 1) < L by omega) (by omega)) dL_law_716 ?_
  rw [nI_clamp (show (i + 1) < 2 ^ 31 by omega)]
  have hMx := hM.re (A := fun q => (∃ i, i < 11 ∧ q = am i) ∨ H1.size ≤ q) (fun i hi => Or.inl ⟨i, hi, rfl⟩)
  refine x_call (G1 := lGm G am H1.size) (px := xNo) (vx_runV (As := [.int (xs (i + 1))]) (rest := []) ⟨hx, hb, hml, hown, hts⟩ (c_X5_allow l hfl (lGm G am H1.size) am S tp th g wo z (xs (i + 1)) H1 hMx hW) (cwV 1 hts gL_law_X5_allow rfl rfl rfl (by decide +kernel) ⟨(Nat.le_of_ble_eq_true rfl), (Nat.le_of_ble_eq_true rfl)⟩) (lPreV hC hS (h0.m1 hAm hS) (fun q hq => Or.inr hq) hMx.2.1 (q := (RX5, TX5, 14)) rfl) rfl rfl hl.1 rfl (lv_room (Nat.le_of_ble_eq_true rfl)) dL_law_717 ⟨show cells + 8 + 0 ≤ 601024 by omega, show slots + 60 + 0 ≤ 7293034 by omega⟩) hS (h0.m1 hAm hS) (fun _ _ _ _ _ h => h.elim) (fun v H2 locs hp hz2 hk2 hS2 => ?_)
  obtain ⟨r9, rfl, hr9, tp2, g2, W2, z2, hM2⟩ := hp
  have hX3 := hX2.m h0 hS hAm hz2 hk2
  have ho3 := h0.o ho2 hk2
  have hM3 := hM2.un hAm
  have hS := hS2
  refine lv_istore (lv' := [(6, .int r9), (5, .int (nI (kval S (xs (i + 1))))), (0, .ref b), (1, .ref (ad 0)), (2, .ref (am 0)), (3, .ref o9), (4, .int (nI i))]) hx hb dL_law_720 hl (by decide) rfl (fun ls hl => ?_)
  refine lv_aload_n hx hb dL_law_722 rfl (lv_at hl 4 rfl) ?_
  refine x_intE (vx_runV (As := []) (rest := []) ⟨hx, hb, hml, hown, hts⟩ (c_X5_thrown l hfl G am (if (kval S (xs (i + 1))) = 0 then (zrule S (xs (i + 1)).toNatClampNeg false) else S) tp2 (kval S (xs (i + 1))) g2 W2 z2 H2 hM3) (cwV 0 hts gL_law_X5_thrown rfl rfl rfl (by decide +kernel) ⟨(Nat.le_of_ble_eq_true rfl), (Nat.le_of_ble_eq_true rfl)⟩) (xPreV hC hS hM3.2.1 (q := (RX5, TX5, 14)) rfl) rfl rfl hl.1 rfl (lv_room (Nat.le_of_ble_eq_true rfl)) dL_law_723 ⟨show cells + 8 + 0 + 0 ≤ 601024 by omega, show slots + 60 + 0 + 0 ≤ 7293034 by omega⟩) hS (fun locs hS => ?_)
  refine lv_iload hx hb dL_law_726 (lv_at hl 1 rfl) ?_
  refine lv_icmp_eq (tgt := 733) hx hb dL_law_728 (by decide) (fun c_1 => ?_) (fun c_1 => ?_)
  · have _ := hx
    refine lv_iload hx hb dL_law_733 (lv_at hl 1 rfl) ?_
    refine lv_if_ne (tgt := 757) hx hb dL_law_735 (by decide) (fun c_2 => ?_) (fun c_2 => ?_)
    · have _ := hx
      have hk0 : ¬ (kval S (xs (i + 1))) = 0 := fun q => c_2 ((nI_K (kle_val S (xs (i + 1)))).mpr q)
      refine lv_goto (tgt := 1193) hx hb dL_law_757 (by decide) ?_
      rw [if_neg hk0] at hM3 hX3
      exact W.widen (k := cells + 60) (n := slots + 1600) (show cells + 8 + 0 ≤ cells + 60 by omega) (show slots + 60 + 0 ≤ slots + 1600 by omega) (kk ad2 (S) H2 locs ls had ⟨hInv, ⟨_, ho3⟩, hX3, _, _, _, _, _, hM3⟩ hS (lv_sub hl [2, 3, 4, 5, 6] rfl))
    · have _ := hx
      have hk0 : (kval S (xs (i + 1))) = 0 := (nI_K (kle_val S (xs (i + 1)))).mp (by first | exact c_2 | exact Classical.not_not.mp c_2)
      have hr9 := hr9 hk0
      subst hr9
      have hf2 := hf2 hk0
      refine lv_aload_n hx hb dL_law_738 rfl (lv_at hl 5 rfl) ?_
      refine lv_iconst (v := (nI 0)) hx hb dL_law_739 (by decide) ?_
      refine x_jald (G := G) (j := 0) hx hb hC ho3 (by decide) (by decide) dL_law_740 ?_
      rw [hf2]
      refine lv_iload hx hb dL_law_741 (lv_at hl 0 rfl) ?_
      refine lv_if_eq (tgt := 750) hx hb dL_law_743 (by decide) (fun c_3 => ?_) (fun c_3 => ?_)
      · have _ := hx
        have hB : zF S (xs (i + 1)).toNatClampNeg = false := xb_0.mp c_3
        refine lv_lconst (v := (lN 0)) hx hb dL_law_750 (by decide) ?_
        refine W.lcmp hx hb dL_law_751 ?_
        refine lv_if_eq (tgt := 757) hx hb dL_law_752 (by decide) (fun c_4 => ?_) (fun c_4 => ?_)
        · have _ := hx
          refine lv_goto (tgt := 1193) hx hb dL_law_757 (by decide) ?_
          rw [if_pos hk0] at hM3 hX3
          exact W.widen (k := cells + 60) (n := slots + 1600) (show cells + 8 + 0 ≤ cells + 60 by omega) (show slots + 60 + 0 ≤ slots + 1600 by omega) (kk ad2 (zrule S (xs (i + 1)).toNatClampNeg false) H2 locs ls had ⟨l_allow hInv, ⟨_, ho3⟩, hX3, _, _, _, _, _, hM3⟩ hS (lv_sub hl [2, 3, 4, 5, 6] rfl))
        · have _ := hx
          exact absurd (by rw [hB]; exact lcmp_rf _) c_4
      · have _ := hx
        have hB : zF S (xs (i + 1)).toNatClampNeg = true := xb_1 c_3
        refine lv_lconst (v := (lN 1)) hx hb dL_law_746 (by decide) ?_
        refine lv_goto (tgt := 751) hx hb dL_law_747 (by decide) ?_
        refine W.lcmp hx hb dL_law_751 ?_
        refine lv_if_eq (tgt := 757) hx hb dL_law_752 (by decide) (fun c_5 => ?_) (fun c_5 => ?_)
        · have _ := hx
          refine lv_goto (tgt := 1193) hx hb dL_law_757 (by decide) ?_
          rw [if_pos hk0] at hM3 hX3
          exact W.widen (k := cells + 60) (n := slots + 1600) (show cells + 8 + 0 ≤ cells + 60 by omega) (show slots + 60 + 0 ≤ slots + 1600 by omega) (kk ad2 (zrule S (xs (i + 1)).toNatClampNeg false) H2 locs ls had ⟨l_allow hInv, ⟨_, ho3⟩, hX3, _, _, _, _, _, hM3⟩ hS (lv_sub hl [2, 3, 4, 5, 6] rfl))
        · have _ := hx
          exact absurd (by rw [hB]; exact lcmp_rf _) c_5
  · have _ := hx
    exact absurd rfl c_1

set_option maxHeartbeats 2000000 in
set_option maxRecDepth 100000 in
/-- tell -/
theorem law_tell {p : Program} {e : Env} {s : State} {m : MethodId} {below : List Frame} {meth : Method} {c : Code} (l : Launch) (hfl : l.stackTraces = false) {b L : Nat} {xs : Nat → Int32} (hL : L ≤ 3072) (C0 : lw_At p s m meth c b L xs) (G : xG) (hG : lC G s) (o9 : Nat) (am : Nat → Nat) (h0 : L0 G s o9 am) (ad : Nat → Nat) (S : zS) (H : Heap) (locs : List Loc) (cells slots : Nat) (hc9 : cells + 60 ≤ 601024) (hs9 : slots + 1600 ≤ 7293034) (hI : LI G o9 am ad S H) (hS : va_S (xA G) s.heap H locs) (i : Nat) (hi : i + 6 ≤ L) (ls : Array Slot) (hl : lv_has ls 7 [(0, .ref b), (1, .ref (ad 0)), (2, .ref (am 0)), (3, .ref o9), (4, .int (nI i))]) (kk : ∀ (ad1 : Nat → Nat) (S1 : zS) (H1 : Heap) (locs1 : List Loc) (ls1 : Array Slot), ad1 0 = ad 0 → LI G o9 am ad1 S1 H1 → va_S (xA G) s.heap H1 locs1 → lv_has ls1 7 [(0, .ref b), (1, .ref (ad 0)), (2, .ref (am 0)), (3, .ref o9), (4, .int (nI i))] → W p l e room_1 s m #[Value.ref b] below meth c H1 locs1 (cells + 60) (slots + 1600) (lw_Z below #[Value.ref b] s) (F0 m 1193 ls1 [])) : W p l e room_1 s m #[Value.ref b] below meth c H locs cells slots (lw_Z below #[Value.ref b] s) (F0 m 760 ls []) := by
  obtain ⟨hx, hb, hr, hml, hown, hts0, hX0, hbl, hlocks, hgv⟩ := id C0
  have hown : s.vm.findClass RL = some m.cls := hown
  have hts : ∀ w ∈ wsL_law, w.before #[Value.ref b] s = true := fun w hw => hts0 w (wsL_law_in w hw)
  obtain ⟨hInv, ⟨f0, ho⟩, hX, tp, th, g, wo, z, hM⟩ := id hI
  have hW := hInv.1
  have hC := hG.1
  have hbA : ¬ xA G b := fun q => by have := (h0.1 b).mp q; omega
  have hAm := hM.owns
  have hw2 := L0.w2 hM hS h0
  refine lv_aload_n hx hb dL_law_760 rfl (lv_at hl 1 rfl) ?_
  refine lv_aload_n hx hb dL_law_761 rfl (lv_at hl 0 rfl) ?_
  refine lv_iload hx hb dL_law_762 (lv_at hl 4 rfl) ?_
  refine lv_iconst (v := (nI 1)) hx hb dL_law_764 (by decide) ?_
  refine x_iaddn (a := i) (b := 1) hx hb dL_law_765 ?_
  refine va_sld (A := xA G) hx hb hX0 hbl hbA hS (vp_in_nI (show (i + 1) < L by omega) (by omega)) dL_law_766 ?_
  rw [nI_clamp (show (i + 1) < 2 ^ 31 by omega)]
  refine lv_aload_n hx hb dL_law_767 rfl (lv_at hl 0 rfl) ?_
  refine lv_iload hx hb dL_law_768 (lv_at hl 4 rfl) ?_
  refine lv_iconst (v := (nI 2)) hx hb dL_law_770 (by decide) ?_
  refine x_iaddn (a := i) (b := 2) hx hb dL_law_771 ?_
  refine va_sld (A := xA G) hx hb hX0 hbl hbA hS (vp_in_nI (show (i + 2) < L by omega) (by omega)) dL_law_772 ?_
  rw [nI_clamp (show (i + 2) < 2 ^ 31 by omega)]
  refine lv_aload_n hx hb dL_law_773 rfl (lv_at hl 3 rfl) ?_
  refine x_call (G1 := lGw G am) (px := xNo) (vx_runSX (As := [.ref (ad 0), .int (xs (i + 1)), .int (xs (i + 2)), .ref o9]) (rest := []) ⟨hx, hb, hml, hown, hts⟩ (c_L_tell l hfl (lGw G am) o9 ad S f0 (xs (i + 1)) (xs (i + 2)) H hX hW ho (L0.w (A := True) h0)) (vx_cwSW 4 hts gL_law_L_tell rfl rfl rfl (by decide +kernel) ⟨(Nat.le_of_ble_eq_true rfl), (Nat.le_of_ble_eq_true rfl)⟩) (lPreS ⟨hC, hG.2⟩ hS (fun _ h => h.1) hw2) rfl rfl hl.1 rfl (lv_room (Nat.le_of_ble_eq_true rfl)) dL_law_774 ⟨show cells + 8 ≤ 601024 by omega, show slots + 60 ≤ 7293034 by omega⟩) hS (fun _ h => h.1) (fun _ _ _ _ _ h => h.elim) (fun v H1 locs hp hz hk hS => ?_)
  obtain ⟨rfl, ad2, f2, had, hX2, ho2, hf2⟩ := hp
  have hM := hM.w hz hk
  refine lv_istore (lv' := [(5, .int (nI (ktell S (xs (i + 1)) (xs (i + 2))))), (0, .ref b), (1, .ref (ad 0)), (2, .ref (am 0)), (3, .ref o9), (4, .int (nI i))]) hx hb dL_law_777 hl (by decide) rfl (fun ls hl => ?_)
  refine lv_aload_n hx hb dL_law_779 rfl (lv_at hl 3 rfl) ?_
  refine lv_aload_n hx hb dL_law_780 rfl (lv_at hl 1 rfl) ?_
  refine lv_iload hx hb dL_law_781 (lv_at hl 5 rfl) ?_
  refine lv_iconst (v := (nI 1)) hx hb dL_law_783 (by decide) ?_
  refine x_iaddn (a := i) (b := 1) hx hb dL_law_784 ?_
  refine va_sld (A := xA G) hx hb hX0 hbl hbA hS (vp_in_nI (show (i + 1) < L by omega) (by omega)) dL_law_785 ?_
  rw [nI_clamp (show (i + 1) < 2 ^ 31 by omega)]
  refine lv_aload_n hx hb dL_law_786 rfl (lv_at hl 1 rfl) ?_
  refine lv_iload hx hb dL_law_787 (lv_at hl 5 rfl) ?_
  refine lv_iconst (v := (nI 2)) hx hb dL_law_789 (by decide) ?_
  refine x_iaddn (a := i) (b := 2) hx hb dL_law_790 ?_
  refine va_sld (A := xA G) hx hb hX0 hbl hbA hS (vp_in_nI (show (i + 2) < L by omega) (by omega)) dL_law_791 ?_
  rw [nI_clamp (show (i + 2) < 2 ^ 31 by omega)]
  have hMx := hM.re (A := fun q => (∃ i, i < 11 ∧ q = am i) ∨ H1.size ≤ q) (fun i hi => Or.inl ⟨i, hi, rfl⟩)
  refine x_call (G1 := lGm G am H1.size) (px := xNo) (vx_runV (As := [.int (xs (i + 1)), .int (xs (i + 2))]) (rest := []) ⟨hx, hb, hml, hown, hts⟩ (c_X5_tell l hfl (lGm G am H1.size) am S tp th g wo z (xs (i + 1)) (xs (i + 2)) H1 hMx hW) (cwV 2 hts gL_law_X5_tell rfl rfl rfl (by decide +kernel) ⟨(Nat.le_of_ble_eq_true rfl), (Nat.le_of_ble_eq_true rfl)⟩) (lPreV hC hS (h0.m1 hAm hS) (fun q hq => Or.inr hq) hMx.2.1 (q := (RX5, TX5, 14)) rfl) rfl rfl hl.1 rfl (lv_room (Nat.le_of_ble_eq_true rfl)) dL_law_792 ⟨show cells + 8 + 0 ≤ 601024 by omega, show slots + 60 + 0 ≤ 7293034 by omega⟩) hS (h0.m1 hAm hS) (fun _ _ _ _ _ h => h.elim) (fun v H2 locs hp hz2 hk2 hS2 => ?_)
  obtain ⟨r9, rfl, hr9, tp2, g2, W2, z2, hM2⟩ := hp
  have hX3 := hX2.m h0 hS hAm hz2 hk2
  have ho3 := h0.o ho2 hk2
  have hM3 := hM2.un hAm
  have hS := hS2
  refine lv_istore (lv' := [(6, .int r9), (5, .int (nI (ktell S (xs (i + 1)) (xs (i + 2))))), (0, .ref b), (1, .ref (ad 0)), (2, .ref (am 0)), (3, .ref o9), (4, .int (nI i))]) hx hb dL_law_795 hl (by decide) rfl (fun ls hl => ?_)
  refine lv_aload_n hx hb dL_law_797 rfl (lv_at hl 4 rfl) ?_
  refine x_intE (vx_runV (As := []) (rest := []) ⟨hx, hb, hml, hown, hts⟩ (c_X5_thrown l hfl G am (if (ktell S (xs (i + 1)) (xs (i + 2))) = 0 then (ztell S (xs (i + 1)).toNatClampNeg (xs (i + 2)).toNatClampNeg) else S) tp2 (ktell S (xs (i + 1)) (xs (i + 2))) g2 W2 z2 H2 hM3) (cwV 0 hts gL_law_X5_thrown rfl rfl rfl (by decide +kernel) ⟨(Nat.le_of_ble_eq_true rfl), (Nat.le_of_ble_eq_true rfl)⟩) (xPreV hC hS hM3.2.1 (q := (RX5, TX5, 14)) rfl) rfl rfl hl.1 rfl (lv_room (Nat.le_of_ble_eq_true rfl)) dL_law_798 ⟨show cells + 8 + 0 + 0 ≤ 601024 by omega, show slots + 60 + 0 + 0 ≤ 7293034 by omega⟩) hS (fun locs hS => ?_)
  refine lv_iload hx hb dL_law_801 (lv_at hl 1 rfl) ?_
  refine lv_icmp_eq (tgt := 808) hx hb dL_law_803 (by decide) (fun c_1 => ?_) (fun c_1 => ?_)
  · have _ := hx
    refine lv_iload hx hb dL_law_808 (lv_at hl 1 rfl) ?_
    refine lv_if_ne (tgt := 825) hx hb dL_law_810 (by decide) (fun c_2 => ?_) (fun c_2 => ?_)
    · have _ := hx
      have hk0 : ¬ (ktell S (xs (i + 1)) (xs (i + 2))) = 0 := fun q => c_2 ((nI_K (kle_tell S (xs (i + 1)) (xs (i + 2)))).mpr q)
      refine lv_goto (tgt := 1193) hx hb dL_law_825 (by decide) ?_
      rw [if_neg hk0] at hM3 hX3
      exact W.widen (k := cells + 60) (n := slots + 1600) (show cells + 8 + 0 ≤ cells + 60 by omega) (show slots + 60 + 0 ≤ slots + 1600 by omega) (kk ad2 (S) H2 locs ls had ⟨hInv, ⟨_, ho3⟩, hX3, _, _, _, _, _, hM3⟩ hS (lv_sub hl [2, 3, 4, 5, 6] rfl))
    · have _ := hx
      have hk0 : (ktell S (xs (i + 1)) (xs (i + 2))) = 0 := (nI_K (kle_tell S (xs (i + 1)) (xs (i + 2)))).mp (by first | exact c_2 | exact Classical.not_not.mp c_2)
      have hr9 := hr9 hk0
      subst hr9
      have hf2 := hf2 hk0
      refine lv_aload_n hx hb dL_law_813 rfl (lv_at hl 5 rfl) ?_
      refine lv_iconst (v := (nI 0)) hx hb dL_law_814 (by decide) ?_
      refine x_jald (G := G) (j := 0) hx hb hC ho3 (by decide) (by decide) dL_law_815 ?_
      rw [hf2]
      refine lv_iload hx hb dL_law_816 (lv_at hl 0 rfl) ?_
      refine lv_i2l (v := ((nI (zK S + 1) : Int32).toInt64)) hx hb dL_law_818 rfl ?_
      refine W.lcmp hx hb dL_law_819 ?_
      refine lv_if_eq (tgt := 825) hx hb dL_law_820 (by decide) (fun c_3 => ?_) (fun c_3 => ?_)
      · have _ := hx
        refine lv_goto (tgt := 1193) hx hb dL_law_825 (by decide) ?_
        rw [if_pos hk0] at hM3 hX3
        exact W.widen (k := cells + 60) (n := slots + 1600) (show cells + 8 + 0 ≤ cells + 60 by omega) (show slots + 60 + 0 ≤ slots + 1600 by omega) (kk ad2 (ztell S (xs (i + 1)).toNatClampNeg (xs (i + 2)).toNatClampNeg) H2 locs ls had ⟨l_tell hInv hk0, ⟨_, ho3⟩, hX3, _, _, _, _, _, hM3⟩ hS (lv_sub hl [2, 3, 4, 5, 6] rfl))
      · have _ := hx
        exact absurd (lcmp_rf _) c_3
  · have _ := hx
    exact absurd rfl c_1

set_option maxHeartbeats 2000000 in
set_option maxRecDepth 100000 in
/-- forget -/
theorem law_forget {p : Program} {e : Env} {s : State} {m : MethodId} {below : List Frame} {meth : Method} {c : Code} (l : Launch) (hfl : l.stackTraces = false) {b L : Nat} {xs : Nat → Int32} (hL : L ≤ 3072) (C0 : lw_At p s m meth c b L xs) (G : xG) (hG : lC G s) (o9 : Nat) (am : Nat → Nat) (h0 : L0 G s o9 am) (ad : Nat → Nat) (S : zS) (H : Heap) (locs : List Loc) (cells slots : Nat) (hc9 : cells + 60 ≤ 601024) (hs9 : slots + 1600 ≤ 7293034) (hI : LI G o9 am ad S H) (hS : va_S (xA G) s.heap H locs) (i : Nat) (hi : i + 6 ≤ L) (ls : Array Slot) (hl : lv_has ls 7 [(0, .ref b), (1, .ref (ad 0)), (2, .ref (am 0)), (3, .ref o9), (4, .int (nI i))]) (kk : ∀ (ad1 : Nat → Nat) (S1 : zS) (H1 : Heap) (locs1 : List Loc) (ls1 : Array Slot), ad1 0 = ad 0 → LI G o9 am ad1 S1 H1 → va_S (xA G) s.heap H1 locs1 → lv_has ls1 7 [(0, .ref b), (1, .ref (ad 0)), (2, .ref (am 0)), (3, .ref o9), (4, .int (nI i))] → W p l e room_1 s m #[Value.ref b] below meth c H1 locs1 (cells + 60) (slots + 1600) (lw_Z below #[Value.ref b] s) (F0 m 1193 ls1 [])) : W p l e room_1 s m #[Value.ref b] below meth c H locs cells slots (lw_Z below #[Value.ref b] s) (F0 m 828 ls []) := by
  obtain ⟨hx, hb, hr, hml, hown, hts0, hX0, hbl, hlocks, hgv⟩ := id C0
  have hown : s.vm.findClass RL = some m.cls := hown
  have hts : ∀ w ∈ wsL_law, w.before #[Value.ref b] s = true := fun w hw => hts0 w (wsL_law_in w hw)
  obtain ⟨hInv, ⟨f0, ho⟩, hX, tp, th, g, wo, z, hM⟩ := id hI
  have hW := hInv.1
  have hC := hG.1
  have hbA : ¬ xA G b := fun q => by have := (h0.1 b).mp q; omega
  have hAm := hM.owns
  have hw2 := L0.w2 hM hS h0
  refine lv_aload_n hx hb dL_law_828 rfl (lv_at hl 1 rfl) ?_
  obtain ⟨fb, hfb, hx0⟩ := id hX.2.1
  have hoz : o9 < H.size := ho.lt
  refine x_call (G1 := xGo (lGw G am) o9) (px := xNo) (vx_runV (As := []) (rest := []) ⟨hx, hb, hml, hown, hts⟩ (c_X4_forget l hfl (xGo (lGw G am) o9) ad S H hX hW) (cwV 0 hts gL_law_X4_forget rfl rfl rfl (by decide +kernel) ⟨(Nat.le_of_ble_eq_true rfl), (Nat.le_of_ble_eq_true rfl)⟩) (lPreV hC hS (fun _ h => h.1.1) (fun q hq => ⟨hw2 q hq, fun w => by omega⟩) hx0 (q := (RX4, TX4, 11)) rfl) rfl rfl hl.1 rfl (lv_room (Nat.le_of_ble_eq_true rfl)) dL_law_829 ⟨show cells + 0 ≤ 601024 by omega, show slots + 0 ≤ 7293034 by omega⟩) hS (fun _ h => h.1.1) (fun _ _ _ _ _ h => h.elim) (fun v H1 locs hp hz hk hS => ?_)
  obtain ⟨rfl, hX2⟩ := hp
  have ho2 : jA G o9 1 f0 H1 := ho.kept (hk o9 hoz (fun q => q.2 rfl))
  have hM := hM.w1 hz hk
  have had : ad 0 = ad 0 := rfl
  refine lv_aload_n hx hb dL_law_832 rfl (lv_at hl 2 rfl) ?_
  have hMx := hM.re (A := fun q => (∃ i, i < 11 ∧ q = am i) ∨ H1.size ≤ q) (fun i hi => Or.inl ⟨i, hi, rfl⟩)
  refine x_call (G1 := lGm G am H1.size) (px := xNo) (vx_runV (As := []) (rest := [.int (nI (zK S))]) ⟨hx, hb, hml, hown, hts⟩ (c_X5_forget l hfl (lGm G am H1.size) am S tp th g wo z H1 hMx hW) (cwV 0 hts gL_law_X5_forget rfl rfl rfl (by decide +kernel) ⟨(Nat.le_of_ble_eq_true rfl), (Nat.le_of_ble_eq_true rfl)⟩) (lPreV hC hS (h0.m1 hAm hS) (fun q hq => Or.inr hq) hMx.2.1 (q := (RX5, TX5, 14)) rfl) rfl rfl hl.1 rfl (lv_room (Nat.le_of_ble_eq_true rfl)) dL_law_833 ⟨show cells + 0 + 0 ≤ 601024 by omega, show slots + 0 + 0 ≤ 7293034 by omega⟩) hS (h0.m1 hAm hS) (fun _ _ _ _ _ h => h.elim) (fun v H2 locs hp hz2 hk2 hS2 => ?_)
  obtain ⟨r9, rfl, hr9, tp2, g2, W2, z2, hM2⟩ := hp
  have hX3 := hX2.m h0 hS hAm hz2 hk2
  have ho3 := h0.o ho2 hk2
  have hM3 := hM2.un hAm
  have hS := hS2
  refine lv_icmp_eq (tgt := 1193) hx hb dL_law_836 (by decide) (fun c_1 => ?_) (fun c_1 => ?_)
  · have _ := hx
    have hM3 : MX G am (zforget S) tp2 0 g2 W2 z2 H2 := hM3
    exact W.widen (k := cells + 60) (n := slots + 1600) (show cells + 0 + 0 ≤ cells + 60 by omega) (show slots + 0 + 0 ≤ slots + 1600 by omega) (kk ad (zforget S) H2 locs ls had ⟨l_forget hInv, ⟨_, ho3⟩, hX3, _, _, _, _, _, hM3⟩ hS (lv_sub hl [0, 1, 2, 3, 4] rfl))
  · have _ := hx
    exact absurd (hr9 rfl).symm c_1

set_option maxHeartbeats 2000000 in
set_option maxRecDepth 100000 in
/-- profit -/
theorem law_profit {p : Program} {e : Env} {s : State} {m : MethodId} {below : List Frame} {meth : Method} {c : Code} (l : Launch) (hfl : l.stackTraces = false) {b L : Nat} {xs : Nat → Int32} (hL : L ≤ 3072) (C0 : lw_At p s m meth c b L xs) (G : xG) (hG : lC G s) (o9 : Nat) (am : Nat → Nat) (h0 : L0 G s o9 am) (ad : Nat → Nat) (S : zS) (H : Heap) (locs : List Loc) (cells slots : Nat) (hc9 : cells + 60 ≤ 601024) (hs9 : slots + 1600 ≤ 7293034) (hI : LI G o9 am ad S H) (hS : va_S (xA G) s.heap H locs) (i : Nat) (hi : i + 6 ≤ L) (ls : Array Slot) (hl : lv_has ls 7 [(0, .ref b), (1, .ref (ad 0)), (2, .ref (am 0)), (3, .ref o9), (4, .int (nI i))]) (kk : ∀ (ad1 : Nat → Nat) (S1 : zS) (H1 : Heap) (locs1 : List Loc) (ls1 : Array Slot), ad1 0 = ad 0 → LI G o9 am ad1 S1 H1 → va_S (xA G) s.heap H1 locs1 → lv_has ls1 7 [(0, .ref b), (1, .ref (ad 0)), (2, .ref (am 0)), (3, .ref o9), (4, .int (nI i))] → W p l e room_1 s m #[Value.ref b] below meth c H1 locs1 (cells + 60) (slots + 1600) (lw_Z below #[Value.ref b] s) (F0 m 1193 ls1 [])) : W p l e room_1 s m #[Value.ref b] below meth c H locs cells slots (lw_Z below #[Value.ref b] s) (F0 m 841 ls []) := by
  obtain ⟨hx, hb, hr, hml, hown, hts0, hX0, hbl, hlocks, hgv⟩ := id C0
  have hown : s.vm.findClass RL = some m.cls := hown
  have hts : ∀ w ∈ wsL_law, w.before #[Value.ref b] s = true := fun w hw => hts0 w (wsL_law_in w hw)
  obtain ⟨hInv, ⟨f0, ho⟩, hX, tp, th, g, wo, z, hM⟩ := id hI
  have hW := hInv.1
  have hC := hG.1
  have hbA : ¬ xA G b := fun q => by have := (h0.1 b).mp q; omega
  have hAm := hM.owns
  have hw2 := L0.w2 hM hS h0
  refine lv_aload_n hx hb dL_law_841 rfl (lv_at hl 1 rfl) ?_
  refine lv_aload_n hx hb dL_law_842 rfl (lv_at hl 0 rfl) ?_
  refine lv_iload hx hb dL_law_843 (lv_at hl 4 rfl) ?_
  refine lv_iconst (v := (nI 1)) hx hb dL_law_845 (by decide) ?_
  refine x_iaddn (a := i) (b := 1) hx hb dL_law_846 ?_
  refine va_sld (A := xA G) hx hb hX0 hbl hbA hS (vp_in_nI (show (i + 1) < L by omega) (by omega)) dL_law_847 ?_
  rw [nI_clamp (show (i + 1) < 2 ^ 31 by omega)]
  refine lv_aload_n hx hb dL_law_848 rfl (lv_at hl 0 rfl) ?_
  refine lv_iload hx hb dL_law_849 (lv_at hl 4 rfl) ?_
  refine lv_iconst (v := (nI 2)) hx hb dL_law_851 (by decide) ?_
  refine x_iaddn (a := i) (b := 2) hx hb dL_law_852 ?_
  refine va_sld (A := xA G) hx hb hX0 hbl hbA hS (vp_in_nI (show (i + 2) < L by omega) (by omega)) dL_law_853 ?_
  rw [nI_clamp (show (i + 2) < 2 ^ 31 by omega)]
  refine lv_aload_n hx hb dL_law_854 rfl (lv_at hl 0 rfl) ?_
  refine lv_iload hx hb dL_law_855 (lv_at hl 4 rfl) ?_
  refine lv_iconst (v := (nI 3)) hx hb dL_law_857 (by decide) ?_
  refine x_iaddn (a := i) (b := 3) hx hb dL_law_858 ?_
  refine va_sld (A := xA G) hx hb hX0 hbl hbA hS (vp_in_nI (show (i + 3) < L by omega) (by omega)) dL_law_859 ?_
  rw [nI_clamp (show (i + 3) < 2 ^ 31 by omega)]
  refine lv_aload_n hx hb dL_law_860 rfl (lv_at hl 0 rfl) ?_
  refine lv_iload hx hb dL_law_861 (lv_at hl 4 rfl) ?_
  refine lv_iconst (v := (nI 4)) hx hb dL_law_863 (by decide) ?_
  refine x_iaddn (a := i) (b := 4) hx hb dL_law_864 ?_
  refine va_sld (A := xA G) hx hb hX0 hbl hbA hS (vp_in_nI (show (i + 4) < L by omega) (by omega)) dL_law_865 ?_
  rw [nI_clamp (show (i + 4) < 2 ^ 31 by omega)]
  refine lv_aload_n hx hb dL_law_866 rfl (lv_at hl 0 rfl) ?_
  refine lv_iload hx hb dL_law_867 (lv_at hl 4 rfl) ?_
  refine lv_iconst (v := (nI 5)) hx hb dL_law_869 (by decide) ?_
  refine x_iaddn (a := i) (b := 5) hx hb dL_law_870 ?_
  refine va_sld (A := xA G) hx hb hX0 hbl hbA hS (vp_in_nI (show (i + 5) < L by omega) (by omega)) dL_law_871 ?_
  rw [nI_clamp (show (i + 5) < 2 ^ 31 by omega)]
  refine lv_aload_n hx hb dL_law_872 rfl (lv_at hl 3 rfl) ?_
  refine x_call (G1 := lGw G am) (px := xNo) (vx_runSX (As := [.ref (ad 0), .int (xs (i + 1)), .int (xs (i + 2)), .int (xs (i + 3)), .int (xs (i + 4)), .int (xs (i + 5)), .ref o9]) (rest := []) ⟨hx, hb, hml, hown, hts⟩ (c_L_profit l hfl (lGw G am) o9 ad S f0 (xs (i + 1)) (xs (i + 2)) (xs (i + 3)) (xs (i + 4)) (xs (i + 5)) H hX hW ho (L0.w (A := True) h0)) (vx_cwSW 7 hts gL_law_L_profit rfl rfl rfl (by decide +kernel) ⟨(Nat.le_of_ble_eq_true rfl), (Nat.le_of_ble_eq_true rfl)⟩) (lPreS ⟨hC, hG.2⟩ hS (fun _ h => h.1) hw2) rfl rfl hl.1 rfl (lv_room (Nat.le_of_ble_eq_true rfl)) dL_law_873 ⟨show cells + 8 ≤ 601024 by omega, show slots + 60 ≤ 7293034 by omega⟩) hS (fun _ h => h.1) (fun _ _ _ _ _ h => h.elim) (fun v H1 locs hp hz hk hS => ?_)
  obtain ⟨rfl, ad2, f2, had, hX2, ho2, hf2⟩ := hp
  have hM := hM.w hz hk
  refine lv_istore (lv' := [(5, .int (nI (kprofit S (xs (i + 1)) (xs (i + 2)) (xs (i + 3)) (xs (i + 4)) (xs (i + 5))))), (0, .ref b), (1, .ref (ad 0)), (2, .ref (am 0)), (3, .ref o9), (4, .int (nI i))]) hx hb dL_law_876 hl (by decide) rfl (fun ls hl => ?_)
  refine lv_aload_n hx hb dL_law_878 rfl (lv_at hl 3 rfl) ?_
  refine lv_aload_n hx hb dL_law_879 rfl (lv_at hl 1 rfl) ?_
  refine lv_iload hx hb dL_law_880 (lv_at hl 5 rfl) ?_
  refine lv_iconst (v := (nI 1)) hx hb dL_law_882 (by decide) ?_
  refine x_iaddn (a := i) (b := 1) hx hb dL_law_883 ?_
  refine va_sld (A := xA G) hx hb hX0 hbl hbA hS (vp_in_nI (show (i + 1) < L by omega) (by omega)) dL_law_884 ?_
  rw [nI_clamp (show (i + 1) < 2 ^ 31 by omega)]
  refine lv_aload_n hx hb dL_law_885 rfl (lv_at hl 1 rfl) ?_
  refine lv_iload hx hb dL_law_886 (lv_at hl 5 rfl) ?_
  refine lv_iconst (v := (nI 2)) hx hb dL_law_888 (by decide) ?_
  refine x_iaddn (a := i) (b := 2) hx hb dL_law_889 ?_
  refine va_sld (A := xA G) hx hb hX0 hbl hbA hS (vp_in_nI (show (i + 2) < L by omega) (by omega)) dL_law_890 ?_
  rw [nI_clamp (show (i + 2) < 2 ^ 31 by omega)]
  refine lv_aload_n hx hb dL_law_891 rfl (lv_at hl 1 rfl) ?_
  refine lv_iload hx hb dL_law_892 (lv_at hl 5 rfl) ?_
  refine lv_iconst (v := (nI 3)) hx hb dL_law_894 (by decide) ?_
  refine x_iaddn (a := i) (b := 3) hx hb dL_law_895 ?_
  refine va_sld (A := xA G) hx hb hX0 hbl hbA hS (vp_in_nI (show (i + 3) < L by omega) (by omega)) dL_law_896 ?_
  rw [nI_clamp (show (i + 3) < 2 ^ 31 by omega)]
  refine lv_aload_n hx hb dL_law_897 rfl (lv_at hl 1 rfl) ?_
  refine lv_iload hx hb dL_law_898 (lv_at hl 5 rfl) ?_
  refine lv_iconst (v := (nI 4)) hx hb dL_law_900 (by decide) ?_
  refine x_iaddn (a := i) (b := 4) hx hb dL_law_901 ?_
  refine va_sld (A := xA G) hx hb hX0 hbl hbA hS (vp_in_nI (show (i + 4) < L by omega) (by omega)) dL_law_902 ?_
  rw [nI_clamp (show (i + 4) < 2 ^ 31 by omega)]
  refine lv_aload_n hx hb dL_law_903 rfl (lv_at hl 1 rfl) ?_
  refine lv_iload hx hb dL_law_904 (lv_at hl 5 rfl) ?_
  refine lv_iconst (v := (nI 5)) hx hb dL_law_906 (by decide) ?_
  refine x_iaddn (a := i) (b := 5) hx hb dL_law_907 ?_
  refine va_sld (A := xA G) hx hb hX0 hbl hbA hS (vp_in_nI (show (i + 5) < L by omega) (by omega)) dL_law_908 ?_
  rw [nI_clamp (show (i + 5) < 2 ^ 31 by omega)]
  have hMx := hM.re (A := fun q => (∃ i, i < 11 ∧ q = am i) ∨ H1.size ≤ q) (fun i hi => Or.inl ⟨i, hi, rfl⟩)
  refine x_call (G1 := lGm G am H1.size) (px := xNo) (vx_runV (As := [.int (xs (i + 1)), .int (xs (i + 2)), .int (xs (i + 3)), .int (xs (i + 4)), .int (xs (i + 5))]) (rest := []) ⟨hx, hb, hml, hown, hts⟩ (c_X5_profit l hfl (lGm G am H1.size) am S tp th g wo z (xs (i + 1)) (xs (i + 2)) (xs (i + 3)) (xs (i + 4)) (xs (i + 5)) H1 hMx hW) (cwV 5 hts gL_law_X5_profit rfl rfl rfl (by decide +kernel) ⟨(Nat.le_of_ble_eq_true rfl), (Nat.le_of_ble_eq_true rfl)⟩) (lPreV hC hS (h0.m1 hAm hS) (fun q hq => Or.inr hq) hMx.2.1 (q := (RX5, TX5, 14)) rfl) rfl rfl hl.1 rfl (lv_room (Nat.le_of_ble_eq_true rfl)) dL_law_909 ⟨show cells + 8 + 0 ≤ 601024 by omega, show slots + 60 + 0 ≤ 7293034 by omega⟩) hS (h0.m1 hAm hS) (fun _ _ _ _ _ h => h.elim) (fun v H2 locs hp hz2 hk2 hS2 => ?_)
  obtain ⟨r9, rfl, hr9, tp2, g2, W2, z2, hM2⟩ := hp
  have hX3 := hX2.m h0 hS hAm hz2 hk2
  have ho3 := h0.o ho2 hk2
  have hM3 := hM2.un hAm
  have hS := hS2
  refine lv_istore (lv' := [(6, .int r9), (5, .int (nI (kprofit S (xs (i + 1)) (xs (i + 2)) (xs (i + 3)) (xs (i + 4)) (xs (i + 5))))), (0, .ref b), (1, .ref (ad 0)), (2, .ref (am 0)), (3, .ref o9), (4, .int (nI i))]) hx hb dL_law_912 hl (by decide) rfl (fun ls hl => ?_)
  refine lv_aload_n hx hb dL_law_914 rfl (lv_at hl 4 rfl) ?_
  refine x_intE (vx_runV (As := []) (rest := []) ⟨hx, hb, hml, hown, hts⟩ (c_X5_thrown l hfl G am (if (kprofit S (xs (i + 1)) (xs (i + 2)) (xs (i + 3)) (xs (i + 4)) (xs (i + 5))) = 0 then (S) else S) tp2 (kprofit S (xs (i + 1)) (xs (i + 2)) (xs (i + 3)) (xs (i + 4)) (xs (i + 5))) g2 W2 z2 H2 hM3) (cwV 0 hts gL_law_X5_thrown rfl rfl rfl (by decide +kernel) ⟨(Nat.le_of_ble_eq_true rfl), (Nat.le_of_ble_eq_true rfl)⟩) (xPreV hC hS hM3.2.1 (q := (RX5, TX5, 14)) rfl) rfl rfl hl.1 rfl (lv_room (Nat.le_of_ble_eq_true rfl)) dL_law_915 ⟨show cells + 8 + 0 + 0 ≤ 601024 by omega, show slots + 60 + 0 + 0 ≤ 7293034 by omega⟩) hS (fun locs hS => ?_)
  refine lv_iload hx hb dL_law_918 (lv_at hl 1 rfl) ?_
  refine lv_icmp_eq (tgt := 925) hx hb dL_law_920 (by decide) (fun c_1 => ?_) (fun c_1 => ?_)
  · have _ := hx
    refine lv_iload hx hb dL_law_925 (lv_at hl 1 rfl) ?_
    refine lv_if_ne (tgt := 942) hx hb dL_law_927 (by decide) (fun c_2 => ?_) (fun c_2 => ?_)
    · have _ := hx
      have hk0 : ¬ (kprofit S (xs (i + 1)) (xs (i + 2)) (xs (i + 3)) (xs (i + 4)) (xs (i + 5))) = 0 := fun q => c_2 ((nI_K (kle_profit S (xs (i + 1)) (xs (i + 2)) (xs (i + 3)) (xs (i + 4)) (xs (i + 5)))).mpr q)
      refine lv_goto (tgt := 1193) hx hb dL_law_942 (by decide) ?_
      rw [if_neg hk0] at hM3 hX3
      exact W.widen (k := cells + 60) (n := slots + 1600) (show cells + 8 + 0 ≤ cells + 60 by omega) (show slots + 60 + 0 ≤ slots + 1600 by omega) (kk ad2 (S) H2 locs ls had ⟨hInv, ⟨_, ho3⟩, hX3, _, _, _, _, _, hM3⟩ hS (lv_sub hl [2, 3, 4, 5, 6] rfl))
    · have _ := hx
      have hk0 : (kprofit S (xs (i + 1)) (xs (i + 2)) (xs (i + 3)) (xs (i + 4)) (xs (i + 5))) = 0 := (nI_K (kle_profit S (xs (i + 1)) (xs (i + 2)) (xs (i + 3)) (xs (i + 4)) (xs (i + 5)))).mp (by first | exact c_2 | exact Classical.not_not.mp c_2)
      have hr9 := hr9 hk0
      subst hr9
      have hf2 := hf2 hk0
      refine lv_aload_n hx hb dL_law_930 rfl (lv_at hl 5 rfl) ?_
      refine lv_iconst (v := (nI 0)) hx hb dL_law_931 (by decide) ?_
      refine x_jald (G := G) (j := 0) hx hb hC ho3 (by decide) (by decide) dL_law_932 ?_
      rw [hf2]
      refine lv_iload hx hb dL_law_933 (lv_at hl 0 rfl) ?_
      refine lv_i2l (v := ((Int32.ofInt (zprof S (xs (i + 1)).toNatClampNeg (xs (i + 2)).toNatClampNeg (xs (i + 3)).toNatClampNeg (xs (i + 4)).toNatClampNeg (xs (i + 5)).toNatClampNeg) : Int32).toInt64)) hx hb dL_law_935 rfl ?_
      refine W.lcmp hx hb dL_law_936 ?_
      refine lv_if_eq (tgt := 942) hx hb dL_law_937 (by decide) (fun c_3 => ?_) (fun c_3 => ?_)
      · have _ := hx
        refine lv_goto (tgt := 1193) hx hb dL_law_942 (by decide) ?_
        rw [if_pos hk0] at hM3 hX3
        exact W.widen (k := cells + 60) (n := slots + 1600) (show cells + 8 + 0 ≤ cells + 60 by omega) (show slots + 60 + 0 ≤ slots + 1600 by omega) (kk ad2 (S) H2 locs ls had ⟨hInv, ⟨_, ho3⟩, hX3, _, _, _, _, _, hM3⟩ hS (lv_sub hl [2, 3, 4, 5, 6] rfl))
      · have _ := hx
        exact absurd (lcmp_rf _) c_3
  · have _ := hx
    exact absurd rfl c_1

set_option maxHeartbeats 2000000 in
set_option maxRecDepth 100000 in
/-- worth -/
theorem law_worth {p : Program} {e : Env} {s : State} {m : MethodId} {below : List Frame} {meth : Method} {c : Code} (l : Launch) (hfl : l.stackTraces = false) {b L : Nat} {xs : Nat → Int32} (hL : L ≤ 3072) (C0 : lw_At p s m meth c b L xs) (G : xG) (hG : lC G s) (o9 : Nat) (am : Nat → Nat) (h0 : L0 G s o9 am) (ad : Nat → Nat) (S : zS) (H : Heap) (locs : List Loc) (cells slots : Nat) (hc9 : cells + 60 ≤ 601024) (hs9 : slots + 1600 ≤ 7293034) (hI : LI G o9 am ad S H) (hS : va_S (xA G) s.heap H locs) (i : Nat) (hi : i + 6 ≤ L) (ls : Array Slot) (hl : lv_has ls 7 [(0, .ref b), (1, .ref (ad 0)), (2, .ref (am 0)), (3, .ref o9), (4, .int (nI i))]) (kk : ∀ (ad1 : Nat → Nat) (S1 : zS) (H1 : Heap) (locs1 : List Loc) (ls1 : Array Slot), ad1 0 = ad 0 → LI G o9 am ad1 S1 H1 → va_S (xA G) s.heap H1 locs1 → lv_has ls1 7 [(0, .ref b), (1, .ref (ad 0)), (2, .ref (am 0)), (3, .ref o9), (4, .int (nI i))] → W p l e room_1 s m #[Value.ref b] below meth c H1 locs1 (cells + 60) (slots + 1600) (lw_Z below #[Value.ref b] s) (F0 m 1193 ls1 [])) : W p l e room_1 s m #[Value.ref b] below meth c H locs cells slots (lw_Z below #[Value.ref b] s) (F0 m 945 ls []) := by
  obtain ⟨hx, hb, hr, hml, hown, hts0, hX0, hbl, hlocks, hgv⟩ := id C0
  have hown : s.vm.findClass RL = some m.cls := hown
  have hts : ∀ w ∈ wsL_law, w.before #[Value.ref b] s = true := fun w hw => hts0 w (wsL_law_in w hw)
  obtain ⟨hInv, ⟨f0, ho⟩, hX, tp, th, g, wo, z, hM⟩ := id hI
  have hW := hInv.1
  have hC := hG.1
  have hbA : ¬ xA G b := fun q => by have := (h0.1 b).mp q; omega
  have hAm := hM.owns
  have hw2 := L0.w2 hM hS h0
  refine lv_aload_n hx hb dL_law_945 rfl (lv_at hl 1 rfl) ?_
  refine lv_aload_n hx hb dL_law_946 rfl (lv_at hl 0 rfl) ?_
  refine lv_iload hx hb dL_law_947 (lv_at hl 4 rfl) ?_
  refine lv_iconst (v := (nI 1)) hx hb dL_law_949 (by decide) ?_
  refine x_iaddn (a := i) (b := 1) hx hb dL_law_950 ?_
  refine va_sld (A := xA G) hx hb hX0 hbl hbA hS (vp_in_nI (show (i + 1) < L by omega) (by omega)) dL_law_951 ?_
  rw [nI_clamp (show (i + 1) < 2 ^ 31 by omega)]
  refine lv_aload_n hx hb dL_law_952 rfl (lv_at hl 0 rfl) ?_
  refine lv_iload hx hb dL_law_953 (lv_at hl 4 rfl) ?_
  refine lv_iconst (v := (nI 2)) hx hb dL_law_955 (by decide) ?_
  refine x_iaddn (a := i) (b := 2) hx hb dL_law_956 ?_
  refine va_sld (A := xA G) hx hb hX0 hbl hbA hS (vp_in_nI (show (i + 2) < L by omega) (by omega)) dL_law_957 ?_
  rw [nI_clamp (show (i + 2) < 2 ^ 31 by omega)]
  refine lv_aload_n hx hb dL_law_958 rfl (lv_at hl 3 rfl) ?_
  refine x_call (G1 := lGw G am) (px := xNo) (vx_runSX (As := [.ref (ad 0), .int (xs (i + 1)), .int (xs (i + 2)), .ref o9]) (rest := []) ⟨hx, hb, hml, hown, hts⟩ (c_L_worth l hfl (lGw G am) o9 ad S f0 (xs (i + 1)) (xs (i + 2)) H hX hW ho (L0.w (A := True) h0)) (vx_cwSW 4 hts gL_law_L_worth rfl rfl rfl (by decide +kernel) ⟨(Nat.le_of_ble_eq_true rfl), (Nat.le_of_ble_eq_true rfl)⟩) (lPreS ⟨hC, hG.2⟩ hS (fun _ h => h.1) hw2) rfl rfl hl.1 rfl (lv_room (Nat.le_of_ble_eq_true rfl)) dL_law_959 ⟨show cells + 8 ≤ 601024 by omega, show slots + 60 ≤ 7293034 by omega⟩) hS (fun _ h => h.1) (fun _ _ _ _ _ h => h.elim) (fun v H1 locs hp hz hk hS => ?_)
  obtain ⟨rfl, ad2, f2, had, hX2, ho2, hf2⟩ := hp
  have hM := hM.w hz hk
  refine lv_istore (lv' := [(5, .int (nI (kworth S (xs (i + 1)) (xs (i + 2))))), (0, .ref b), (1, .ref (ad 0)), (2, .ref (am 0)), (3, .ref o9), (4, .int (nI i))]) hx hb dL_law_962 hl (by decide) rfl (fun ls hl => ?_)
  refine lv_aload_n hx hb dL_law_964 rfl (lv_at hl 3 rfl) ?_
  refine lv_aload_n hx hb dL_law_965 rfl (lv_at hl 1 rfl) ?_
  refine lv_iload hx hb dL_law_966 (lv_at hl 5 rfl) ?_
  refine lv_iconst (v := (nI 1)) hx hb dL_law_968 (by decide) ?_
  refine x_iaddn (a := i) (b := 1) hx hb dL_law_969 ?_
  refine va_sld (A := xA G) hx hb hX0 hbl hbA hS (vp_in_nI (show (i + 1) < L by omega) (by omega)) dL_law_970 ?_
  rw [nI_clamp (show (i + 1) < 2 ^ 31 by omega)]
  refine lv_aload_n hx hb dL_law_971 rfl (lv_at hl 1 rfl) ?_
  refine lv_iload hx hb dL_law_972 (lv_at hl 5 rfl) ?_
  refine lv_iconst (v := (nI 2)) hx hb dL_law_974 (by decide) ?_
  refine x_iaddn (a := i) (b := 2) hx hb dL_law_975 ?_
  refine va_sld (A := xA G) hx hb hX0 hbl hbA hS (vp_in_nI (show (i + 2) < L by omega) (by omega)) dL_law_976 ?_
  rw [nI_clamp (show (i + 2) < 2 ^ 31 by omega)]
  have hMx := hM.re (A := fun q => (∃ i, i < 11 ∧ q = am i) ∨ H1.size ≤ q) (fun i hi => Or.inl ⟨i, hi, rfl⟩)
  refine x_call (G1 := lGm G am H1.size) (px := xNo) (vx_runV (As := [.int (xs (i + 1)), .int (xs (i + 2))]) (rest := []) ⟨hx, hb, hml, hown, hts⟩ (c_X5_worth l hfl (lGm G am H1.size) am S tp th g wo z (xs (i + 1)) (xs (i + 2)) H1 hMx hW) (cwV 2 hts gL_law_X5_worth rfl rfl rfl (by decide +kernel) ⟨(Nat.le_of_ble_eq_true rfl), (Nat.le_of_ble_eq_true rfl)⟩) (lPreV hC hS (h0.m1 hAm hS) (fun q hq => Or.inr hq) hMx.2.1 (q := (RX5, TX5, 14)) rfl) rfl rfl hl.1 rfl (lv_room (Nat.le_of_ble_eq_true rfl)) dL_law_977 ⟨show cells + 8 + 0 ≤ 601024 by omega, show slots + 60 + 0 ≤ 7293034 by omega⟩) hS (h0.m1 hAm hS) (fun _ _ _ _ _ h => h.elim) (fun v H2 locs hp hz2 hk2 hS2 => ?_)
  obtain ⟨r9, rfl, hr9, tp2, g2, W2, z2, hM2⟩ := hp
  have hX3 := hX2.m h0 hS hAm hz2 hk2
  have ho3 := h0.o ho2 hk2
  have hM3 := hM2.un hAm
  have hS := hS2
  refine lv_istore (lv' := [(6, .int r9), (5, .int (nI (kworth S (xs (i + 1)) (xs (i + 2))))), (0, .ref b), (1, .ref (ad 0)), (2, .ref (am 0)), (3, .ref o9), (4, .int (nI i))]) hx hb dL_law_980 hl (by decide) rfl (fun ls hl => ?_)
  refine lv_aload_n hx hb dL_law_982 rfl (lv_at hl 4 rfl) ?_
  refine x_intE (vx_runV (As := []) (rest := []) ⟨hx, hb, hml, hown, hts⟩ (c_X5_thrown l hfl G am (if (kworth S (xs (i + 1)) (xs (i + 2))) = 0 then (S) else S) tp2 (kworth S (xs (i + 1)) (xs (i + 2))) g2 W2 z2 H2 hM3) (cwV 0 hts gL_law_X5_thrown rfl rfl rfl (by decide +kernel) ⟨(Nat.le_of_ble_eq_true rfl), (Nat.le_of_ble_eq_true rfl)⟩) (xPreV hC hS hM3.2.1 (q := (RX5, TX5, 14)) rfl) rfl rfl hl.1 rfl (lv_room (Nat.le_of_ble_eq_true rfl)) dL_law_983 ⟨show cells + 8 + 0 + 0 ≤ 601024 by omega, show slots + 60 + 0 + 0 ≤ 7293034 by omega⟩) hS (fun locs hS => ?_)
  refine lv_iload hx hb dL_law_986 (lv_at hl 1 rfl) ?_
  refine lv_icmp_eq (tgt := 993) hx hb dL_law_988 (by decide) (fun c_1 => ?_) (fun c_1 => ?_)
  · have _ := hx
    refine lv_iload hx hb dL_law_993 (lv_at hl 1 rfl) ?_
    refine lv_if_ne (tgt := 1010) hx hb dL_law_995 (by decide) (fun c_2 => ?_) (fun c_2 => ?_)
    · have _ := hx
      have hk0 : ¬ (kworth S (xs (i + 1)) (xs (i + 2))) = 0 := fun q => c_2 ((nI_K (kle_worth S (xs (i + 1)) (xs (i + 2)))).mpr q)
      refine lv_goto (tgt := 1193) hx hb dL_law_1010 (by decide) ?_
      rw [if_neg hk0] at hM3 hX3
      exact W.widen (k := cells + 60) (n := slots + 1600) (show cells + 8 + 0 ≤ cells + 60 by omega) (show slots + 60 + 0 ≤ slots + 1600 by omega) (kk ad2 (S) H2 locs ls had ⟨hInv, ⟨_, ho3⟩, hX3, _, _, _, _, _, hM3⟩ hS (lv_sub hl [2, 3, 4, 5, 6] rfl))
    · have _ := hx
      have hk0 : (kworth S (xs (i + 1)) (xs (i + 2))) = 0 := (nI_K (kle_worth S (xs (i + 1)) (xs (i + 2)))).mp (by first | exact c_2 | exact Classical.not_not.mp c_2)
      have hr9 := hr9 hk0
      subst hr9
      have hf2 := hf2 hk0
      refine lv_aload_n hx hb dL_law_998 rfl (lv_at hl 5 rfl) ?_
      refine lv_iconst (v := (nI 0)) hx hb dL_law_999 (by decide) ?_
      refine x_jald (G := G) (j := 0) hx hb hC ho3 (by decide) (by decide) dL_law_1000 ?_
      rw [hf2]
      refine lv_iload hx hb dL_law_1001 (lv_at hl 0 rfl) ?_
      refine lv_i2l (v := ((Int32.ofInt (zworth S (xs (i + 1)).toNatClampNeg (xs (i + 2)).toNatClampNeg) : Int32).toInt64)) hx hb dL_law_1003 rfl ?_
      refine W.lcmp hx hb dL_law_1004 ?_
      refine lv_if_eq (tgt := 1010) hx hb dL_law_1005 (by decide) (fun c_3 => ?_) (fun c_3 => ?_)
      · have _ := hx
        refine lv_goto (tgt := 1193) hx hb dL_law_1010 (by decide) ?_
        rw [if_pos hk0] at hM3 hX3
        exact W.widen (k := cells + 60) (n := slots + 1600) (show cells + 8 + 0 ≤ cells + 60 by omega) (show slots + 60 + 0 ≤ slots + 1600 by omega) (kk ad2 (S) H2 locs ls had ⟨hInv, ⟨_, ho3⟩, hX3, _, _, _, _, _, hM3⟩ hS (lv_sub hl [2, 3, 4, 5, 6] rfl))
      · have _ := hx
        exact absurd (lcmp_rf _) c_3
  · have _ := hx
    exact absurd rfl c_1

set_option maxHeartbeats 2000000 in
set_option maxRecDepth 100000 in
/-- worthByValues -/
theorem law_worthByValues {p : Program} {e : Env} {s : State} {m : MethodId} {below : List Frame} {meth : Method} {c : Code} (l : Launch) (hfl : l.stackTraces = false) {b L : Nat} {xs : Nat → Int32} (hL : L ≤ 3072) (C0 : lw_At p s m meth c b L xs) (G : xG) (hG : lC G s) (o9 : Nat) (am : Nat → Nat) (h0 : L0 G s o9 am) (ad : Nat → Nat) (S : zS) (H : Heap) (locs : List Loc) (cells slots : Nat) (hc9 : cells + 60 ≤ 601024) (hs9 : slots + 1600 ≤ 7293034) (hI : LI G o9 am ad S H) (hS : va_S (xA G) s.heap H locs) (i : Nat) (hi : i + 6 ≤ L) (ls : Array Slot) (hl : lv_has ls 7 [(0, .ref b), (1, .ref (ad 0)), (2, .ref (am 0)), (3, .ref o9), (4, .int (nI i))]) (kk : ∀ (ad1 : Nat → Nat) (S1 : zS) (H1 : Heap) (locs1 : List Loc) (ls1 : Array Slot), ad1 0 = ad 0 → LI G o9 am ad1 S1 H1 → va_S (xA G) s.heap H1 locs1 → lv_has ls1 7 [(0, .ref b), (1, .ref (ad 0)), (2, .ref (am 0)), (3, .ref o9), (4, .int (nI i))] → W p l e room_1 s m #[Value.ref b] below meth c H1 locs1 (cells + 60) (slots + 1600) (lw_Z below #[Value.ref b] s) (F0 m 1193 ls1 [])) : W p l e room_1 s m #[Value.ref b] below meth c H locs cells slots (lw_Z below #[Value.ref b] s) (F0 m 1013 ls []) := by
  obtain ⟨hx, hb, hr, hml, hown, hts0, hX0, hbl, hlocks, hgv⟩ := id C0
  have hown : s.vm.findClass RL = some m.cls := hown
  have hts : ∀ w ∈ wsL_law, w.before #[Value.ref b] s = true := fun w hw => hts0 w (wsL_law_in w hw)
  obtain ⟨hInv, ⟨f0, ho⟩, hX, tp, th, g, wo, z, hM⟩ := id hI
  have hW := hInv.1
  have hC := hG.1
  have hbA : ¬ xA G b := fun q => by have := (h0.1 b).mp q; omega
  have hAm := hM.owns
  have hw2 := L0.w2 hM hS h0
  refine lv_aload_n hx hb dL_law_1013 rfl (lv_at hl 1 rfl) ?_
  refine lv_aload_n hx hb dL_law_1014 rfl (lv_at hl 0 rfl) ?_
  refine lv_iload hx hb dL_law_1015 (lv_at hl 4 rfl) ?_
  refine lv_iconst (v := (nI 1)) hx hb dL_law_1017 (by decide) ?_
  refine x_iaddn (a := i) (b := 1) hx hb dL_law_1018 ?_
  refine va_sld (A := xA G) hx hb hX0 hbl hbA hS (vp_in_nI (show (i + 1) < L by omega) (by omega)) dL_law_1019 ?_
  rw [nI_clamp (show (i + 1) < 2 ^ 31 by omega)]
  refine lv_aload_n hx hb dL_law_1020 rfl (lv_at hl 0 rfl) ?_
  refine lv_iload hx hb dL_law_1021 (lv_at hl 4 rfl) ?_
  refine lv_iconst (v := (nI 2)) hx hb dL_law_1023 (by decide) ?_
  refine x_iaddn (a := i) (b := 2) hx hb dL_law_1024 ?_
  refine va_sld (A := xA G) hx hb hX0 hbl hbA hS (vp_in_nI (show (i + 2) < L by omega) (by omega)) dL_law_1025 ?_
  rw [nI_clamp (show (i + 2) < 2 ^ 31 by omega)]
  refine lv_aload_n hx hb dL_law_1026 rfl (lv_at hl 3 rfl) ?_
  refine x_call (G1 := lGw G am) (px := xNo) (vx_runSX (As := [.ref (ad 0), .int (xs (i + 1)), .int (xs (i + 2)), .ref o9]) (rest := []) ⟨hx, hb, hml, hown, hts⟩ (c_L_worthByValues l hfl (lGw G am) o9 ad S f0 (xs (i + 1)) (xs (i + 2)) H hX hW ho (L0.w (A := True) h0)) (vx_cwSW 4 hts gL_law_L_worthByValues rfl rfl rfl (by decide +kernel) ⟨(Nat.le_of_ble_eq_true rfl), (Nat.le_of_ble_eq_true rfl)⟩) (lPreS ⟨hC, hG.2⟩ hS (fun _ h => h.1) hw2) rfl rfl hl.1 rfl (lv_room (Nat.le_of_ble_eq_true rfl)) dL_law_1027 ⟨show cells + 8 ≤ 601024 by omega, show slots + 60 ≤ 7293034 by omega⟩) hS (fun _ h => h.1) (fun _ _ _ _ _ h => h.elim) (fun v H1 locs hp hz hk hS => ?_)
  obtain ⟨rfl, ad2, f2, had, hX2, ho2, hf2⟩ := hp
  have hM := hM.w hz hk
  refine lv_istore (lv' := [(5, .int (nI (kworth S (xs (i + 1)) (xs (i + 2))))), (0, .ref b), (1, .ref (ad 0)), (2, .ref (am 0)), (3, .ref o9), (4, .int (nI i))]) hx hb dL_law_1030 hl (by decide) rfl (fun ls hl => ?_)
  refine lv_aload_n hx hb dL_law_1032 rfl (lv_at hl 3 rfl) ?_
  refine lv_aload_n hx hb dL_law_1033 rfl (lv_at hl 1 rfl) ?_
  refine lv_iload hx hb dL_law_1034 (lv_at hl 5 rfl) ?_
  refine lv_iconst (v := (nI 1)) hx hb dL_law_1036 (by decide) ?_
  refine x_iaddn (a := i) (b := 1) hx hb dL_law_1037 ?_
  refine va_sld (A := xA G) hx hb hX0 hbl hbA hS (vp_in_nI (show (i + 1) < L by omega) (by omega)) dL_law_1038 ?_
  rw [nI_clamp (show (i + 1) < 2 ^ 31 by omega)]
  refine lv_aload_n hx hb dL_law_1039 rfl (lv_at hl 1 rfl) ?_
  refine lv_iload hx hb dL_law_1040 (lv_at hl 5 rfl) ?_
  refine lv_iconst (v := (nI 2)) hx hb dL_law_1042 (by decide) ?_
  refine x_iaddn (a := i) (b := 2) hx hb dL_law_1043 ?_
  refine va_sld (A := xA G) hx hb hX0 hbl hbA hS (vp_in_nI (show (i + 2) < L by omega) (by omega)) dL_law_1044 ?_
  rw [nI_clamp (show (i + 2) < 2 ^ 31 by omega)]
  have hMx := hM.re (A := fun q => (∃ i, i < 11 ∧ q = am i) ∨ H1.size ≤ q) (fun i hi => Or.inl ⟨i, hi, rfl⟩)
  refine x_call (G1 := lGm G am H1.size) (px := xNo) (vx_runV (As := [.int (xs (i + 1)), .int (xs (i + 2))]) (rest := []) ⟨hx, hb, hml, hown, hts⟩ (c_X5_worthByValues l hfl (lGm G am H1.size) am S tp th g wo z (xs (i + 1)) (xs (i + 2)) H1 hMx hW) (cwV 2 hts gL_law_X5_worthByValues rfl rfl rfl (by decide +kernel) ⟨(Nat.le_of_ble_eq_true rfl), (Nat.le_of_ble_eq_true rfl)⟩) (lPreV hC hS (h0.m1 hAm hS) (fun q hq => Or.inr hq) hMx.2.1 (q := (RX5, TX5, 14)) rfl) rfl rfl hl.1 rfl (lv_room (Nat.le_of_ble_eq_true rfl)) dL_law_1045 ⟨show cells + 8 + 0 ≤ 601024 by omega, show slots + 60 + 0 ≤ 7293034 by omega⟩) hS (h0.m1 hAm hS) (fun _ _ _ _ _ h => h.elim) (fun v H2 locs hp hz2 hk2 hS2 => ?_)
  obtain ⟨r9, rfl, hr9, tp2, g2, W2, z2, hM2⟩ := hp
  have hX3 := hX2.m h0 hS hAm hz2 hk2
  have ho3 := h0.o ho2 hk2
  have hM3 := hM2.un hAm
  have hS := hS2
  refine lv_istore (lv' := [(6, .int r9), (5, .int (nI (kworth S (xs (i + 1)) (xs (i + 2))))), (0, .ref b), (1, .ref (ad 0)), (2, .ref (am 0)), (3, .ref o9), (4, .int (nI i))]) hx hb dL_law_1048 hl (by decide) rfl (fun ls hl => ?_)
  refine lv_aload_n hx hb dL_law_1050 rfl (lv_at hl 4 rfl) ?_
  refine x_intE (vx_runV (As := []) (rest := []) ⟨hx, hb, hml, hown, hts⟩ (c_X5_thrown l hfl G am (if (kworth S (xs (i + 1)) (xs (i + 2))) = 0 then (S) else S) tp2 (kworth S (xs (i + 1)) (xs (i + 2))) g2 W2 z2 H2 hM3) (cwV 0 hts gL_law_X5_thrown rfl rfl rfl (by decide +kernel) ⟨(Nat.le_of_ble_eq_true rfl), (Nat.le_of_ble_eq_true rfl)⟩) (xPreV hC hS hM3.2.1 (q := (RX5, TX5, 14)) rfl) rfl rfl hl.1 rfl (lv_room (Nat.le_of_ble_eq_true rfl)) dL_law_1051 ⟨show cells + 8 + 0 + 0 ≤ 601024 by omega, show slots + 60 + 0 + 0 ≤ 7293034 by omega⟩) hS (fun locs hS => ?_)
  refine lv_iload hx hb dL_law_1054 (lv_at hl 1 rfl) ?_
  refine lv_icmp_eq (tgt := 1061) hx hb dL_law_1056 (by decide) (fun c_1 => ?_) (fun c_1 => ?_)
  · have _ := hx
    refine lv_iload hx hb dL_law_1061 (lv_at hl 1 rfl) ?_
    refine lv_if_ne (tgt := 1078) hx hb dL_law_1063 (by decide) (fun c_2 => ?_) (fun c_2 => ?_)
    · have _ := hx
      have hk0 : ¬ (kworth S (xs (i + 1)) (xs (i + 2))) = 0 := fun q => c_2 ((nI_K (kle_worth S (xs (i + 1)) (xs (i + 2)))).mpr q)
      refine lv_goto (tgt := 1193) hx hb dL_law_1078 (by decide) ?_
      rw [if_neg hk0] at hM3 hX3
      exact W.widen (k := cells + 60) (n := slots + 1600) (show cells + 8 + 0 ≤ cells + 60 by omega) (show slots + 60 + 0 ≤ slots + 1600 by omega) (kk ad2 (S) H2 locs ls had ⟨hInv, ⟨_, ho3⟩, hX3, _, _, _, _, _, hM3⟩ hS (lv_sub hl [2, 3, 4, 5, 6] rfl))
    · have _ := hx
      have hk0 : (kworth S (xs (i + 1)) (xs (i + 2))) = 0 := (nI_K (kle_worth S (xs (i + 1)) (xs (i + 2)))).mp (by first | exact c_2 | exact Classical.not_not.mp c_2)
      have hr9 := hr9 hk0
      subst hr9
      have hf2 := hf2 hk0
      refine lv_aload_n hx hb dL_law_1066 rfl (lv_at hl 5 rfl) ?_
      refine lv_iconst (v := (nI 0)) hx hb dL_law_1067 (by decide) ?_
      refine x_jald (G := G) (j := 0) hx hb hC ho3 (by decide) (by decide) dL_law_1068 ?_
      rw [hf2]
      refine lv_iload hx hb dL_law_1069 (lv_at hl 0 rfl) ?_
      refine lv_i2l (v := ((Int32.ofInt (zworth S (xs (i + 1)).toNatClampNeg (xs (i + 2)).toNatClampNeg) : Int32).toInt64)) hx hb dL_law_1071 rfl ?_
      refine W.lcmp hx hb dL_law_1072 ?_
      refine lv_if_eq (tgt := 1078) hx hb dL_law_1073 (by decide) (fun c_3 => ?_) (fun c_3 => ?_)
      · have _ := hx
        refine lv_goto (tgt := 1193) hx hb dL_law_1078 (by decide) ?_
        rw [if_pos hk0] at hM3 hX3
        exact W.widen (k := cells + 60) (n := slots + 1600) (show cells + 8 + 0 ≤ cells + 60 by omega) (show slots + 60 + 0 ≤ slots + 1600 by omega) (kk ad2 (S) H2 locs ls had ⟨hInv, ⟨_, ho3⟩, hX3, _, _, _, _, _, hM3⟩ hS (lv_sub hl [2, 3, 4, 5, 6] rfl))
      · have _ := hx
        exact absurd (lcmp_rf _) c_3
  · have _ := hx
    exact absurd rfl c_1

set_option maxHeartbeats 2000000 in
set_option maxRecDepth 100000 in
/-- best -/
theorem law_best {p : Program} {e : Env} {s : State} {m : MethodId} {below : List Frame} {meth : Method} {c : Code} (l : Launch) (hfl : l.stackTraces = false) {b L : Nat} {xs : Nat → Int32} (hL : L ≤ 3072) (C0 : lw_At p s m meth c b L xs) (G : xG) (hG : lC G s) (o9 : Nat) (am : Nat → Nat) (h0 : L0 G s o9 am) (ad : Nat → Nat) (S : zS) (H : Heap) (locs : List Loc) (cells slots : Nat) (hc9 : cells + 60 ≤ 601024) (hs9 : slots + 1600 ≤ 7293034) (hI : LI G o9 am ad S H) (hS : va_S (xA G) s.heap H locs) (i : Nat) (hi : i + 6 ≤ L) (ls : Array Slot) (hl : lv_has ls 7 [(0, .ref b), (1, .ref (ad 0)), (2, .ref (am 0)), (3, .ref o9), (4, .int (nI i))]) (kk : ∀ (ad1 : Nat → Nat) (S1 : zS) (H1 : Heap) (locs1 : List Loc) (ls1 : Array Slot), ad1 0 = ad 0 → LI G o9 am ad1 S1 H1 → va_S (xA G) s.heap H1 locs1 → lv_has ls1 7 [(0, .ref b), (1, .ref (ad 0)), (2, .ref (am 0)), (3, .ref o9), (4, .int (nI i))] → W p l e room_1 s m #[Value.ref b] below meth c H1 locs1 (cells + 60) (slots + 1600) (lw_Z below #[Value.ref b] s) (F0 m 1193 ls1 [])) : W p l e room_1 s m #[Value.ref b] below meth c H locs cells slots (lw_Z below #[Value.ref b] s) (F0 m 1081 ls []) := by
  obtain ⟨hx, hb, hr, hml, hown, hts0, hX0, hbl, hlocks, hgv⟩ := id C0
  have hown : s.vm.findClass RL = some m.cls := hown
  have hts : ∀ w ∈ wsL_law, w.before #[Value.ref b] s = true := fun w hw => hts0 w (wsL_law_in w hw)
  obtain ⟨hInv, ⟨f0, ho⟩, hX, tp, th, g, wo, z, hM⟩ := id hI
  have hW := hInv.1
  have hC := hG.1
  have hbA : ¬ xA G b := fun q => by have := (h0.1 b).mp q; omega
  have hAm := hM.owns
  have hw2 := L0.w2 hM hS h0
  refine lv_aload_n hx hb dL_law_1081 rfl (lv_at hl 1 rfl) ?_
  refine lv_aload_n hx hb dL_law_1082 rfl (lv_at hl 0 rfl) ?_
  refine lv_iload hx hb dL_law_1083 (lv_at hl 4 rfl) ?_
  refine lv_iconst (v := (nI 1)) hx hb dL_law_1085 (by decide) ?_
  refine x_iaddn (a := i) (b := 1) hx hb dL_law_1086 ?_
  refine va_sld (A := xA G) hx hb hX0 hbl hbA hS (vp_in_nI (show (i + 1) < L by omega) (by omega)) dL_law_1087 ?_
  rw [nI_clamp (show (i + 1) < 2 ^ 31 by omega)]
  refine lv_aload_n hx hb dL_law_1088 rfl (lv_at hl 3 rfl) ?_
  refine x_call (G1 := lGw G am) (px := xNo) (vx_runSX (As := [.ref (ad 0), .int (xs (i + 1)), .ref o9]) (rest := []) ⟨hx, hb, hml, hown, hts⟩ (c_L_best l hfl (lGw G am) o9 ad S f0 (xs (i + 1)) H hX hW ho (L0.w (A := True) h0)) (vx_cwSW 3 hts gL_law_L_best rfl rfl rfl (by decide +kernel) ⟨(Nat.le_of_ble_eq_true rfl), (Nat.le_of_ble_eq_true rfl)⟩) (lPreS ⟨hC, hG.2⟩ hS (fun _ h => h.1) hw2) rfl rfl hl.1 rfl (lv_room (Nat.le_of_ble_eq_true rfl)) dL_law_1089 ⟨show cells + 8 ≤ 601024 by omega, show slots + 60 ≤ 7293034 by omega⟩) hS (fun _ h => h.1) (fun _ _ _ _ _ h => h.elim) (fun v H1 locs hp hz hk hS => ?_)
  obtain ⟨rfl, ad2, f2, had, hX2, ho2, hf2⟩ := hp
  have hM := hM.w hz hk
  refine lv_istore (lv' := [(5, .int (nI (kbest S (xs (i + 1))))), (0, .ref b), (1, .ref (ad 0)), (2, .ref (am 0)), (3, .ref o9), (4, .int (nI i))]) hx hb dL_law_1092 hl (by decide) rfl (fun ls hl => ?_)
  refine lv_aload_n hx hb dL_law_1094 rfl (lv_at hl 3 rfl) ?_
  refine lv_aload_n hx hb dL_law_1095 rfl (lv_at hl 1 rfl) ?_
  refine lv_iload hx hb dL_law_1096 (lv_at hl 5 rfl) ?_
  refine lv_iconst (v := (nI 1)) hx hb dL_law_1098 (by decide) ?_
  refine x_iaddn (a := i) (b := 1) hx hb dL_law_1099 ?_
  refine va_sld (A := xA G) hx hb hX0 hbl hbA hS (vp_in_nI (show (i + 1) < L by omega) (by omega)) dL_law_1100 ?_
  rw [nI_clamp (show (i + 1) < 2 ^ 31 by omega)]
  have hMx := hM.re (A := fun q => (∃ i, i < 11 ∧ q = am i) ∨ H1.size ≤ q) (fun i hi => Or.inl ⟨i, hi, rfl⟩)
  refine x_call (G1 := lGm G am H1.size) (px := xNo) (vx_runV (As := [.int (xs (i + 1))]) (rest := []) ⟨hx, hb, hml, hown, hts⟩ (c_X5_best l hfl (lGm G am H1.size) am S tp th g wo z (xs (i + 1)) H1 hMx hW) (cwV 1 hts gL_law_X5_best rfl rfl rfl (by decide +kernel) ⟨(Nat.le_of_ble_eq_true rfl), (Nat.le_of_ble_eq_true rfl)⟩) (lPreV hC hS (h0.m1 hAm hS) (fun q hq => Or.inr hq) hMx.2.1 (q := (RX5, TX5, 14)) rfl) rfl rfl hl.1 rfl (lv_room (Nat.le_of_ble_eq_true rfl)) dL_law_1101 ⟨show cells + 8 + 0 ≤ 601024 by omega, show slots + 60 + 0 ≤ 7293034 by omega⟩) hS (h0.m1 hAm hS) (fun _ _ _ _ _ h => h.elim) (fun v H2 locs hp hz2 hk2 hS2 => ?_)
  obtain ⟨r9, rfl, hr9, tp2, g2, W2, z2, hM2⟩ := hp
  have hX3 := hX2.m h0 hS hAm hz2 hk2
  have ho3 := h0.o ho2 hk2
  have hM3 := hM2.un hAm
  have hS := hS2
  refine lv_istore (lv' := [(6, .int r9), (5, .int (nI (kbest S (xs (i + 1))))), (0, .ref b), (1, .ref (ad 0)), (2, .ref (am 0)), (3, .ref o9), (4, .int (nI i))]) hx hb dL_law_1104 hl (by decide) rfl (fun ls hl => ?_)
  refine lv_aload_n hx hb dL_law_1106 rfl (lv_at hl 4 rfl) ?_
  refine x_intE (vx_runV (As := []) (rest := []) ⟨hx, hb, hml, hown, hts⟩ (c_X5_thrown l hfl G am (if (kbest S (xs (i + 1))) = 0 then (S) else S) tp2 (kbest S (xs (i + 1))) g2 W2 z2 H2 hM3) (cwV 0 hts gL_law_X5_thrown rfl rfl rfl (by decide +kernel) ⟨(Nat.le_of_ble_eq_true rfl), (Nat.le_of_ble_eq_true rfl)⟩) (xPreV hC hS hM3.2.1 (q := (RX5, TX5, 14)) rfl) rfl rfl hl.1 rfl (lv_room (Nat.le_of_ble_eq_true rfl)) dL_law_1107 ⟨show cells + 8 + 0 + 0 ≤ 601024 by omega, show slots + 60 + 0 + 0 ≤ 7293034 by omega⟩) hS (fun locs hS => ?_)
  refine lv_iload hx hb dL_law_1110 (lv_at hl 1 rfl) ?_
  refine lv_icmp_eq (tgt := 1117) hx hb dL_law_1112 (by decide) (fun c_1 => ?_) (fun c_1 => ?_)
  · have _ := hx
    refine lv_iload hx hb dL_law_1117 (lv_at hl 1 rfl) ?_
    refine lv_if_ne (tgt := 1134) hx hb dL_law_1119 (by decide) (fun c_2 => ?_) (fun c_2 => ?_)
    · have _ := hx
      have hk0 : ¬ (kbest S (xs (i + 1))) = 0 := fun q => c_2 ((nI_K (kle_best S (xs (i + 1)))).mpr q)
      refine lv_goto (tgt := 1193) hx hb dL_law_1134 (by decide) ?_
      rw [if_neg hk0] at hM3 hX3
      exact W.widen (k := cells + 60) (n := slots + 1600) (show cells + 8 + 0 ≤ cells + 60 by omega) (show slots + 60 + 0 ≤ slots + 1600 by omega) (kk ad2 (S) H2 locs ls had ⟨hInv, ⟨_, ho3⟩, hX3, _, _, _, _, _, hM3⟩ hS (lv_sub hl [2, 3, 4, 5, 6] rfl))
    · have _ := hx
      have hk0 : (kbest S (xs (i + 1))) = 0 := (nI_K (kle_best S (xs (i + 1)))).mp (by first | exact c_2 | exact Classical.not_not.mp c_2)
      have hr9 := hr9 hk0
      subst hr9
      have hf2 := hf2 hk0
      refine lv_aload_n hx hb dL_law_1122 rfl (lv_at hl 5 rfl) ?_
      refine lv_iconst (v := (nI 0)) hx hb dL_law_1123 (by decide) ?_
      refine x_jald (G := G) (j := 0) hx hb hC ho3 (by decide) (by decide) dL_law_1124 ?_
      rw [hf2]
      refine lv_iload hx hb dL_law_1125 (lv_at hl 0 rfl) ?_
      refine lv_i2l (v := ((xpar (zmost (zI S) (zworth S (xs (i + 1)).toNatClampNeg) 0 (zN S)) : Int32).toInt64)) hx hb dL_law_1127 rfl ?_
      refine W.lcmp hx hb dL_law_1128 ?_
      refine lv_if_eq (tgt := 1134) hx hb dL_law_1129 (by decide) (fun c_3 => ?_) (fun c_3 => ?_)
      · have _ := hx
        refine lv_goto (tgt := 1193) hx hb dL_law_1134 (by decide) ?_
        rw [if_pos hk0] at hM3 hX3
        exact W.widen (k := cells + 60) (n := slots + 1600) (show cells + 8 + 0 ≤ cells + 60 by omega) (show slots + 60 + 0 ≤ slots + 1600 by omega) (kk ad2 (S) H2 locs ls had ⟨hInv, ⟨_, ho3⟩, hX3, _, _, _, _, _, hM3⟩ hS (lv_sub hl [2, 3, 4, 5, 6] rfl))
      · have _ := hx
        exact absurd (lcmp_rf _) c_3
  · have _ := hx
    exact absurd rfl c_1

set_option maxHeartbeats 2000000 in
set_option maxRecDepth 100000 in
/-- evolve -/
theorem law_evolve {p : Program} {e : Env} {s : State} {m : MethodId} {below : List Frame} {meth : Method} {c : Code} (l : Launch) (hfl : l.stackTraces = false) {b L : Nat} {xs : Nat → Int32} (hL : L ≤ 3072) (C0 : lw_At p s m meth c b L xs) (G : xG) (hG : lC G s) (o9 : Nat) (am : Nat → Nat) (h0 : L0 G s o9 am) (ad : Nat → Nat) (S : zS) (H : Heap) (locs : List Loc) (cells slots : Nat) (hc9 : cells + 60 ≤ 601024) (hs9 : slots + 1600 ≤ 7293034) (hI : LI G o9 am ad S H) (hS : va_S (xA G) s.heap H locs) (i : Nat) (hi : i + 6 ≤ L) (ls : Array Slot) (hl : lv_has ls 7 [(0, .ref b), (1, .ref (ad 0)), (2, .ref (am 0)), (3, .ref o9), (4, .int (nI i))]) (kk : ∀ (ad1 : Nat → Nat) (S1 : zS) (H1 : Heap) (locs1 : List Loc) (ls1 : Array Slot), ad1 0 = ad 0 → LI G o9 am ad1 S1 H1 → va_S (xA G) s.heap H1 locs1 → lv_has ls1 7 [(0, .ref b), (1, .ref (ad 0)), (2, .ref (am 0)), (3, .ref o9), (4, .int (nI i))] → W p l e room_1 s m #[Value.ref b] below meth c H1 locs1 (cells + 60) (slots + 1600) (lw_Z below #[Value.ref b] s) (F0 m 1193 ls1 [])) : W p l e room_1 s m #[Value.ref b] below meth c H locs cells slots (lw_Z below #[Value.ref b] s) (F0 m 1137 ls []) := by
  obtain ⟨hx, hb, hr, hml, hown, hts0, hX0, hbl, hlocks, hgv⟩ := id C0
  have hown : s.vm.findClass RL = some m.cls := hown
  have hts : ∀ w ∈ wsL_law, w.before #[Value.ref b] s = true := fun w hw => hts0 w (wsL_law_in w hw)
  obtain ⟨hInv, ⟨f0, ho⟩, hX, tp, th, g, wo, z, hM⟩ := id hI
  have hW := hInv.1
  have hC := hG.1
  have hbA : ¬ xA G b := fun q => by have := (h0.1 b).mp q; omega
  have hAm := hM.owns
  have hw2 := L0.w2 hM hS h0
  refine lv_aload_n hx hb dL_law_1137 rfl (lv_at hl 1 rfl) ?_
  refine lv_aload_n hx hb dL_law_1138 rfl (lv_at hl 0 rfl) ?_
  refine lv_iload hx hb dL_law_1139 (lv_at hl 4 rfl) ?_
  refine lv_iconst (v := (nI 1)) hx hb dL_law_1141 (by decide) ?_
  refine x_iaddn (a := i) (b := 1) hx hb dL_law_1142 ?_
  refine va_sld (A := xA G) hx hb hX0 hbl hbA hS (vp_in_nI (show (i + 1) < L by omega) (by omega)) dL_law_1143 ?_
  rw [nI_clamp (show (i + 1) < 2 ^ 31 by omega)]
  refine lv_aload_n hx hb dL_law_1144 rfl (lv_at hl 3 rfl) ?_
  refine x_call (G1 := lGw G am) (px := xNo) (vx_runSX (As := [.ref (ad 0), .int (xs (i + 1)), .ref o9]) (rest := []) ⟨hx, hb, hml, hown, hts⟩ (c_L_evolve l hfl (lGw G am) o9 ad S f0 (xs (i + 1)) H hX hW ho (L0.w (A := True) h0)) (vx_cwSW 3 hts gL_law_L_evolve rfl rfl rfl (by decide +kernel) ⟨(Nat.le_of_ble_eq_true rfl), (Nat.le_of_ble_eq_true rfl)⟩) (lPreS ⟨hC, hG.2⟩ hS (fun _ h => h.1) hw2) rfl rfl hl.1 rfl (lv_room (Nat.le_of_ble_eq_true rfl)) dL_law_1145 ⟨show cells + 40 ≤ 601024 by omega, show slots + 1000 ≤ 7293034 by omega⟩) hS (fun _ h => h.1) (fun _ _ _ _ _ h => h.elim) (fun v H1 locs hp hz hk hS => ?_)
  obtain ⟨rfl, ad2, f2, had, hX2, ho2, hf2⟩ := hp
  have hM := hM.w hz hk
  refine lv_istore (lv' := [(5, .int (nI (kevolve S (xs (i + 1))))), (0, .ref b), (1, .ref (ad 0)), (2, .ref (am 0)), (3, .ref o9), (4, .int (nI i))]) hx hb dL_law_1148 hl (by decide) rfl (fun ls hl => ?_)
  refine lv_aload_n hx hb dL_law_1150 rfl (lv_at hl 3 rfl) ?_
  refine lv_aload_n hx hb dL_law_1151 rfl (lv_at hl 1 rfl) ?_
  refine lv_iload hx hb dL_law_1152 (lv_at hl 5 rfl) ?_
  refine lv_iconst (v := (nI 1)) hx hb dL_law_1154 (by decide) ?_
  refine x_iaddn (a := i) (b := 1) hx hb dL_law_1155 ?_
  refine va_sld (A := xA G) hx hb hX0 hbl hbA hS (vp_in_nI (show (i + 1) < L by omega) (by omega)) dL_law_1156 ?_
  rw [nI_clamp (show (i + 1) < 2 ^ 31 by omega)]
  have hMx := hM.re (A := fun q => (∃ i, i < 11 ∧ q = am i) ∨ H1.size ≤ q) (fun i hi => Or.inl ⟨i, hi, rfl⟩)
  refine x_call (G1 := lGm G am H1.size) (px := xNo) (vx_runV (As := [.int (xs (i + 1))]) (rest := []) ⟨hx, hb, hml, hown, hts⟩ (c_X5_evolve l hfl (lGm G am H1.size) am S tp th g wo z (xs (i + 1)) H1 hMx hW) (cwV 1 hts gL_law_X5_evolve rfl rfl rfl (by decide +kernel) ⟨(Nat.le_of_ble_eq_true rfl), (Nat.le_of_ble_eq_true rfl)⟩) (lPreV hC hS (h0.m1 hAm hS) (fun q hq => Or.inr hq) hMx.2.1 (q := (RX5, TX5, 14)) rfl) rfl rfl hl.1 rfl (lv_room (Nat.le_of_ble_eq_true rfl)) dL_law_1157 ⟨show cells + 40 + 0 ≤ 601024 by omega, show slots + 1000 + 0 ≤ 7293034 by omega⟩) hS (h0.m1 hAm hS) (fun _ _ _ _ _ h => h.elim) (fun v H2 locs hp hz2 hk2 hS2 => ?_)
  obtain ⟨r9, rfl, hr9, tp2, g2, W2, z2, hM2⟩ := hp
  have hX3 := hX2.m h0 hS hAm hz2 hk2
  have ho3 := h0.o ho2 hk2
  have hM3 := hM2.un hAm
  have hS := hS2
  refine lv_istore (lv' := [(6, .int r9), (5, .int (nI (kevolve S (xs (i + 1))))), (0, .ref b), (1, .ref (ad 0)), (2, .ref (am 0)), (3, .ref o9), (4, .int (nI i))]) hx hb dL_law_1160 hl (by decide) rfl (fun ls hl => ?_)
  refine lv_aload_n hx hb dL_law_1162 rfl (lv_at hl 4 rfl) ?_
  refine x_intE (vx_runV (As := []) (rest := []) ⟨hx, hb, hml, hown, hts⟩ (c_X5_thrown l hfl G am (if (kevolve S (xs (i + 1))) = 0 then (mevolve S (xs (i + 1)).toNatClampNeg) else S) tp2 (kevolve S (xs (i + 1))) g2 W2 z2 H2 hM3) (cwV 0 hts gL_law_X5_thrown rfl rfl rfl (by decide +kernel) ⟨(Nat.le_of_ble_eq_true rfl), (Nat.le_of_ble_eq_true rfl)⟩) (xPreV hC hS hM3.2.1 (q := (RX5, TX5, 14)) rfl) rfl rfl hl.1 rfl (lv_room (Nat.le_of_ble_eq_true rfl)) dL_law_1163 ⟨show cells + 40 + 0 + 0 ≤ 601024 by omega, show slots + 1000 + 0 + 0 ≤ 7293034 by omega⟩) hS (fun locs hS => ?_)
  refine lv_iload hx hb dL_law_1166 (lv_at hl 1 rfl) ?_
  refine lv_icmp_eq (tgt := 1173) hx hb dL_law_1168 (by decide) (fun c_1 => ?_) (fun c_1 => ?_)
  · have _ := hx
    refine lv_iload hx hb dL_law_1173 (lv_at hl 1 rfl) ?_
    refine lv_if_ne (tgt := 1190) hx hb dL_law_1175 (by decide) (fun c_2 => ?_) (fun c_2 => ?_)
    · have _ := hx
      have hk0 : ¬ (kevolve S (xs (i + 1))) = 0 := fun q => c_2 ((nI_K (kle_evolve S (xs (i + 1)))).mpr q)
      refine lv_goto (tgt := 1193) hx hb dL_law_1190 (by decide) ?_
      rw [if_neg hk0] at hM3 hX3
      exact W.widen (k := cells + 60) (n := slots + 1600) (show cells + 40 + 0 ≤ cells + 60 by omega) (show slots + 1000 + 0 ≤ slots + 1600 by omega) (kk ad2 (S) H2 locs ls had ⟨hInv, ⟨_, ho3⟩, hX3, _, _, _, _, _, hM3⟩ hS (lv_sub hl [2, 3, 4, 5, 6] rfl))
    · have _ := hx
      have hk0 : (kevolve S (xs (i + 1))) = 0 := (nI_K (kle_evolve S (xs (i + 1)))).mp (by first | exact c_2 | exact Classical.not_not.mp c_2)
      have hr9 := hr9 hk0
      subst hr9
      have hf2 := hf2 hk0
      refine lv_aload_n hx hb dL_law_1178 rfl (lv_at hl 5 rfl) ?_
      refine lv_iconst (v := (nI 0)) hx hb dL_law_1179 (by decide) ?_
      refine x_jald (G := G) (j := 0) hx hb hC ho3 (by decide) (by decide) dL_law_1180 ?_
      rw [hf2]
      refine lv_iload hx hb dL_law_1181 (lv_at hl 0 rfl) ?_
      refine lv_i2l (v := (((zevolve S (xs (i + 1)).toNatClampNeg).1 : Int32).toInt64)) hx hb dL_law_1183 rfl ?_
      refine W.lcmp hx hb dL_law_1184 ?_
      refine lv_if_eq (tgt := 1190) hx hb dL_law_1185 (by decide) (fun c_3 => ?_) (fun c_3 => ?_)
      · have _ := hx
        refine lv_goto (tgt := 1193) hx hb dL_law_1190 (by decide) ?_
        rw [if_pos hk0] at hM3 hX3
        exact W.widen (k := cells + 60) (n := slots + 1600) (show cells + 40 + 0 ≤ cells + 60 by omega) (show slots + 1000 + 0 ≤ slots + 1600 by omega) (kk ad2 (mevolve S (xs (i + 1)).toNatClampNeg) H2 locs ls had ⟨(l_evolve hInv hk0).2, ⟨_, ho3⟩, (hX3.to (l_evw hInv hk0) (l_evolve hInv hk0).1), _, _, _, _, _, hM3⟩ hS (lv_sub hl [2, 3, 4, 5, 6] rfl))
      · have _ := hx
        exact absurd (lcmp_rf _) c_3
  · have _ := hx
    exact absurd rfl c_1
