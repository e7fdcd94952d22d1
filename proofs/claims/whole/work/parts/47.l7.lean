/-! the law's loop -/
theorem l_and31 (x : Int32) : ∃ k, k < 32 ∧ x &&& nI 31 = nI k := by
  refine ⟨(x &&& nI 31).toBitVec.toNat, ?_, ?_⟩
  · show (x.toBitVec &&& (nI 31).toBitVec).toNat < 32
    rw [BitVec.toNat_and]
    have h : (nI 31).toBitVec.toNat = 31 := by decide
    rw [h]
    have := Nat.and_le_right (n := x.toBitVec.toNat) (m := 31)
    omega
  · apply Int32.toBitVec.inj
    show (x &&& nI 31).toBitVec = BitVec.ofNat 32 (x &&& nI 31).toBitVec.toNat
    rw [BitVec.ofNat_toNat, BitVec.setWidth_eq]
theorem l_len6 {L i : Nat} (hL : L ≤ 3072) (hi : i ≤ 4000) : nI L - nI 6 < nI i ↔ ¬ i + 6 ≤ L := by
  rw [zofI_sub, Int32.lt_iff_toInt_lt, xi_toInt (by omega) (by omega), nI_toInt (by omega)]
  omega
set_option maxHeartbeats 2000000 in
set_option maxRecDepth 100000 in
theorem law_end {p : Program} {l : Launch} {e : Env} {s : State} {m : MethodId} {below : List Frame} {meth : Method} {c : Code} {b L : Nat} {xs : Nat → Int32} (hL : L ≤ 3072) (C0 : lw_At p s m meth c b L xs) (G : xG) {o8 : Nat} {am8 : Nat → Nat} (h0 : L0 G s o8 am8) (i : Nat) (ad am : Nat → Nat) (o9 : Nat) (H : Heap) (locs : List Loc) (cells slots : Nat) (hi : ¬ i + 6 ≤ L) (hi2 : i ≤ 3100) (hc9 : cells ≤ 601024) (hs9 : slots ≤ 7293034) (hS : va_S (xA G) s.heap H locs) (ls : Array Slot) (hl : lv_has ls 7 [(0, .ref b), (1, .ref (ad 0)), (2, .ref (am 0)), (3, .ref o9), (4, .int (nI i))]) : W p l e room_1 s m #[Value.ref b] below meth c H locs cells slots (lw_Z below #[Value.ref b] s) (F0 m 23 ls []) := by
  obtain ⟨hx, hb, hr, hml, hown, hts0, hX0, hbl, hlocks, hgv⟩ := id C0
  have hbA : ¬ xA G b := fun q => by have := (h0.1 b).mp q; omega
  refine lv_iload hx hb dL_law_23 (lv_at hl 4 rfl) ?_
  refine lv_aload_n hx hb dL_law_25 rfl (lv_at hl 0 rfl) ?_
  refine va_slen (A := xA G) hx hb hX0 hbl hbA hS dL_law_26 ?_
  refine lv_bipush (v := nI 6) hx hb dL_law_27 (by decide) ?_
  refine lv_isub hx hb dL_law_29 ?_
  refine lv_icmp_gt (tgt := 1199) hx hb dL_law_30 (by decide) (fun q => ?_) (fun q => absurd ((l_len6 hL (by omega)).mpr hi) q)
  refine lv_iconst (v := 1) hx hb dL_law_1199 (by decide) ?_
  refine W.widen (k := 601024) (n := 7293034) hc9 hs9 (va_forget (fun q hq => (h0.1 _).mp (hS.2.2 q hq)) ?_)
  exact lw_ret hx hb hr hlocks dL_law_1200
set_option maxHeartbeats 2000000 in
set_option maxRecDepth 100000 in
theorem law_loop {p : Program} {e : Env} {s : State} {m : MethodId} {below : List Frame} {meth : Method} {c : Code} (l : Launch) (hfl : l.stackTraces = false) {b L : Nat} {xs : Nat → Int32} (hL : L ≤ 3072) (C0 : lw_At p s m meth c b L xs) (G : xG) (hG : lC G s) (o9 : Nat) (am : Nat → Nat) (h0 : L0 G s o9 am) :
    ∀ (n i : Nat) (ad : Nat → Nat) (S : zS) (H : Heap) (locs : List Loc) (cells slots : Nat) (ls : Array Slot), L + 6 ≤ i + n → i ≤ 3100 → cells ≤ 1000 + 10 * i → slots ≤ 10000 + 300 * i → LI G o9 am ad S H → va_S (xA G) s.heap H locs → lv_has ls 7 [(0, .ref b), (1, .ref (ad 0)), (2, .ref (am 0)), (3, .ref o9), (4, .int (nI i))] → W p l e room_1 s m #[Value.ref b] below meth c H locs cells slots (lw_Z below #[Value.ref b] s) (F0 m 23 ls []) := by
  obtain ⟨hx, hb, hr, hml, hown, hts0, hX0, hbl, hlocks, hgv⟩ := id C0
  have hC := hG.1
  have hbA : ¬ xA G b := fun q => by have := (h0.1 b).mp q; omega
  intro n
  induction n with
  | zero =>
    intro i ad S H locs cells slots ls hn hi hc9 hs9 hI hS hl
    exact law_end hL C0 G h0 i ad am o9 H locs cells slots (by omega) hi (by omega) (by omega) hS ls hl
  | succ n ih =>
    intro i ad S H locs cells slots ls hn hi hc9 hs9 hI hS hl
    by_cases hgo : i + 6 ≤ L
    · have next : ∀ (ad1 : Nat → Nat) (S1 : zS) (H1 : Heap) (locs1 : List Loc) (ls1 : Array Slot), ad1 0 = ad 0 → LI G o9 am ad1 S1 H1 → va_S (xA G) s.heap H1 locs1 → lv_has ls1 7 [(0, .ref b), (1, .ref (ad 0)), (2, .ref (am 0)), (3, .ref o9), (4, .int (nI i))] → W p l e room_1 s m #[Value.ref b] below meth c H1 locs1 (cells + 60) (slots + 1600) (lw_Z below #[Value.ref b] s) (F0 m 1193 ls1 []) := by
        intro ad1 S1 H1 locs1 ls1 had hI1 hS1 hl1
        rw [← had] at hl1
        refine lv_iinc (v := nI (i + 6)) (lv' := [(4, .int (nI (i + 6))), (0, .ref b), (1, .ref (ad1 0)), (2, .ref (am 0)), (3, .ref o9)]) hx hb dL_law_1193 hl1 (k := 4) rfl (xinc (by decide)) (by decide) rfl (fun ls1 hl1 => ?_)
        refine lv_goto (tgt := 23) hx hb dL_law_1196 (by decide) ?_
        exact ih (i + 6) ad1 S1 H1 locs1 (cells + 60) (slots + 1600) ls1 (by omega) (by omega) (by omega) (by omega) hI1 hS1 (lv_sub hl1 [1, 2, 3, 4, 0] rfl)
      refine lv_iload hx hb dL_law_23 (lv_at hl 4 rfl) ?_
      refine lv_aload_n hx hb dL_law_25 rfl (lv_at hl 0 rfl) ?_
      refine va_slen (A := xA G) hx hb hX0 hbl hbA hS dL_law_26 ?_
      refine lv_bipush (v := nI 6) hx hb dL_law_27 (by decide) ?_
      refine lv_isub hx hb dL_law_29 ?_
      refine lv_icmp_gt (tgt := 1199) hx hb dL_law_30 (by decide) (fun q => absurd hgo ((l_len6 hL (by omega)).mp q)) (fun q => ?_)
      refine lv_aload_n hx hb dL_law_33 rfl (lv_at hl 0 rfl) ?_
      refine lv_iload hx hb dL_law_34 (lv_at hl 4 rfl) ?_
      refine va_sld (A := xA G) hx hb hX0 hbl hbA hS (vp_in_nI (show i < L by omega) (by omega)) dL_law_36 ?_
      refine lv_bipush (v := nI 31) hx hb dL_law_37 (by decide) ?_
      refine lv_iand hx hb dL_law_39 ?_
      obtain ⟨k, hk, hke⟩ := l_and31 (xs (nI i).toNatClampNeg)
      rw [hke]
      by_cases hk18 : k ≤ 18
      · rcases (show k = 0 ∨ k = 1 ∨ k = 2 ∨ k = 3 ∨ k = 4 ∨ k = 5 ∨ k = 6 ∨ k = 7 ∨ k = 8 ∨ k = 9 ∨ k = 10 ∨ k = 11 ∨ k = 12 ∨ k = 13 ∨ k = 14 ∨ k = 15 ∨ k = 16 ∨ k = 17 ∨ k = 18 by omega) with rfl | rfl | rfl | rfl | rfl | rfl | rfl | rfl | rfl | rfl | rfl | rfl | rfl | rfl | rfl | rfl | rfl | rfl | rfl
        · refine lv_tableIn (off := 92) (tgt := 132) hx hb dL_law_40 (by decide) (by decide) (by decide) (by decide) ?_
          exact law_step l hfl hL C0 G hG o9 am h0 ad S H locs cells slots (by omega) (by omega) hI hS i hgo ls hl next
        · refine lv_tableIn (off := 148) (tgt := 188) hx hb dL_law_40 (by decide) (by decide) (by decide) (by decide) ?_
          exact law_scrap l hfl hL C0 G hG o9 am h0 ad S H locs cells slots (by omega) (by omega) hI hS i hgo ls hl next
        · refine lv_tableIn (off := 161) (tgt := 201) hx hb dL_law_40 (by decide) (by decide) (by decide) (by decide) ?_
          exact law_store l hfl hL C0 G hG o9 am h0 ad S H locs cells slots (by omega) (by omega) hI hS i hgo ls hl next
        · refine lv_tableIn (off := 205) (tgt := 245) hx hb dL_law_40 (by decide) (by decide) (by decide) (by decide) ?_
          exact law_stored l hfl hL C0 G hG o9 am h0 ad S H locs cells slots (by omega) (by omega) hI hS i hgo ls hl next
        · refine lv_tableIn (off := 218) (tgt := 258) hx hb dL_law_40 (by decide) (by decide) (by decide) (by decide) ?_
          exact law_bid l hfl hL C0 G hG o9 am h0 ad S H locs cells slots (by omega) (by omega) hI hS i hgo ls hl next
        · refine lv_tableIn (off := 286) (tgt := 326) hx hb dL_law_40 (by decide) (by decide) (by decide) (by decide) ?_
          exact law_alike l hfl hL C0 G hG o9 am h0 ad S H locs cells slots (by omega) (by omega) hI hS i hgo ls hl next
        · refine lv_tableIn (off := 342) (tgt := 382) hx hb dL_law_40 (by decide) (by decide) (by decide) (by decide) ?_
          exact law_parent l hfl hL C0 G hG o9 am h0 ad S H locs cells slots (by omega) (by omega) hI hS i hgo ls hl next
        · refine lv_tableIn (off := 426) (tgt := 466) hx hb dL_law_40 (by decide) (by decide) (by decide) (by decide) ?_
          exact law_join l hfl hL C0 G hG o9 am h0 ad S H locs cells slots (by omega) (by omega) hI hS i hgo ls hl next
        · refine lv_tableIn (off := 482) (tgt := 522) hx hb dL_law_40 (by decide) (by decide) (by decide) (by decide) ?_
          exact law_leave l hfl hL C0 G hG o9 am h0 ad S H locs cells slots (by omega) (by omega) hI hS i hgo ls hl next
        · refine lv_tableIn (off := 538) (tgt := 578) hx hb dL_law_40 (by decide) (by decide) (by decide) (by decide) ?_
          exact law_isIn l hfl hL C0 G hG o9 am h0 ad S H locs cells slots (by omega) (by omega) hI hS i hgo ls hl next
        · refine lv_tableIn (off := 601) (tgt := 641) hx hb dL_law_40 (by decide) (by decide) (by decide) (by decide) ?_
          exact law_forbid l hfl hL C0 G hG o9 am h0 ad S H locs cells slots (by omega) (by omega) hI hS i hgo ls hl next
        · refine lv_tableIn (off := 657) (tgt := 697) hx hb dL_law_40 (by decide) (by decide) (by decide) (by decide) ?_
          exact law_allow l hfl hL C0 G hG o9 am h0 ad S H locs cells slots (by omega) (by omega) hI hS i hgo ls hl next
        · refine lv_tableIn (off := 720) (tgt := 760) hx hb dL_law_40 (by decide) (by decide) (by decide) (by decide) ?_
          exact law_tell l hfl hL C0 G hG o9 am h0 ad S H locs cells slots (by omega) (by omega) hI hS i hgo ls hl next
        · refine lv_tableIn (off := 788) (tgt := 828) hx hb dL_law_40 (by decide) (by decide) (by decide) (by decide) ?_
          exact law_forget l hfl hL C0 G hG o9 am h0 ad S H locs cells slots (by omega) (by omega) hI hS i hgo ls hl next
        · refine lv_tableIn (off := 801) (tgt := 841) hx hb dL_law_40 (by decide) (by decide) (by decide) (by decide) ?_
          exact law_profit l hfl hL C0 G hG o9 am h0 ad S H locs cells slots (by omega) (by omega) hI hS i hgo ls hl next
        · refine lv_tableIn (off := 905) (tgt := 945) hx hb dL_law_40 (by decide) (by decide) (by decide) (by decide) ?_
          exact law_worth l hfl hL C0 G hG o9 am h0 ad S H locs cells slots (by omega) (by omega) hI hS i hgo ls hl next
        · refine lv_tableIn (off := 973) (tgt := 1013) hx hb dL_law_40 (by decide) (by decide) (by decide) (by decide) ?_
          exact law_worthByValues l hfl hL C0 G hG o9 am h0 ad S H locs cells slots (by omega) (by omega) hI hS i hgo ls hl next
        · refine lv_tableIn (off := 1041) (tgt := 1081) hx hb dL_law_40 (by decide) (by decide) (by decide) (by decide) ?_
          exact law_best l hfl hL C0 G hG o9 am h0 ad S H locs cells slots (by omega) (by omega) hI hS i hgo ls hl next
        · refine lv_tableIn (off := 1097) (tgt := 1137) hx hb dL_law_40 (by decide) (by decide) (by decide) (by decide) ?_
          exact law_evolve l hfl hL C0 G hG o9 am h0 ad S H locs cells slots (by omega) (by omega) hI hS i hgo ls hl next
      · refine lv_tableOut (tgt := 1193) hx hb dL_law_40 (Or.inr (by rw [nI_toInt (by omega)]; omega)) (by decide) ?_
        exact W.widen (k := cells + 60) (n := slots + 1600) (by omega) (by omega) (next ad S H locs ls rfl hI hS hl)
    · exact law_end hL C0 G h0 i ad am o9 H locs cells slots (by omega) hi (by omega) (by omega) hS ls hl
theorem x_newJ {p : Program} {l : Launch} {e : Env} {R : Room} {s : State} {m : MethodId} {args : Array Value} {below : List Frame} {meth : Method} {c : Code} {H : Heap} {locs : List Loc} {cells slots : Nat} {Q : State → Prop} {cc : ByteArray} {pc : Nat} {ls : Array Slot} {rest : List Value} {G : xG} (hexec : p.tables.exec = Jvm.exec) (hb : c.code = cc) (harr : (Cond.arrayClass .long).before args s = true) (hC : xCx G s) {H0 : Heap} (hS : va_S (xA G) H0 H locs) {n : Int32} {N' : Nat} (hn : ¬ n < 0) (hN : n.toNatClampNeg = N') (hbytes : N' * componentBytes .long ≤ 536870912) (hcells : cells + 1 ≤ R.cells) (hslots : slots + N' ≤ R.slots) (hdg : decode cc pc = .ok (.newarray .long, 2))
    (kk : ∀ (q : Nat) (H1 : Heap), q = H.size → jA G q N' (fun _ => 0) H1 → xC [] H H1 → H1.size = H.size + 1 → va_S (xA G) H0 H1 locs →
      W p l e R s m args below meth c H1 locs (cells + 1) (slots + N') Q (F0 m (pc + 2) ls (.ref q :: rest))) : W p l e R s m args below meth c H locs cells slots Q (F0 m pc ls (.int n :: rest)) := by
  refine va_newaK (atype := .long) hexec hb harr rfl hdg rfl hn hN hbytes hcells hslots rfl fun H1 cA e1 z1 o1 hAr hNm => ?_
  have hc : cA = xJ G := Option.some.inj (hNm.symm.trans (hC.1.2 3 _ rfl).2)
  subst hc
  exact kk H.size H1 rfl e1 ⟨by omega, fun q hq _ => o1 q hq⟩ z1 ⟨Nat.le_trans hS.1 (by omega), fun x h1 h2 => (o1 x (Nat.lt_of_lt_of_le h1 hS.1)).trans (hS.2.1 x h1 h2), hS.2.2⟩
set_option maxHeartbeats 2000000 in
set_option maxRecDepth 100000 in
theorem whole_start {p : Program} {e : Env} {s : State} {m : MethodId} {below : List Frame} {meth : Method} {c : Code} (l : Launch) (hflags : l.flags = flags0) {b L : Nat} {xs : Nat → Int32} (hL : L ≤ 3072) (C0 : lw_At p s m meth c b L xs) : W p l e room_1 s m #[Value.ref b] below meth c s.heap [] 0 0 (lw_Z below #[Value.ref b] s) (entryFrame m ([Value.ref b] : List Value).toArray 7) := by
  have hfl : l.stackTraces = false := by unfold Launch.stackTraces; rw [hflags]; decide
  obtain ⟨hx, hb, hr, hml, hown, hts0, hX0, hbl, hlocks, hgv⟩ := id C0
  have hown : s.vm.findClass RL = some m.cls := hown
  have hts : ∀ w ∈ wsL_law, w.before #[Value.ref b] s = true := fun w hw => hts0 w (wsL_law_in w hw)
  obtain ⟨G, hG, hGA⟩ := l_start hts0 hgv
  have hC := hG.1
  have hE : xE G < s.heap.size := by obtain ⟨ce, h9, -⟩ := hC.2.2.2.2.2.2.2.1; exact (Array.getElem?_eq_some_iff.mp h9).1
  have hS : va_S (xA G) s.heap s.heap [] := va_S.rf
  generalize ([] : List Loc) = locs at hS ⊢
  have hl := lv_entry ([.ref b]) (n := 7) (Nat.le_of_ble_eq_true rfl)
  rw [lg_entry_eq]
  generalize (lg_sl ([.ref b]) ++ List.replicate (7 - (lg_sl ([.ref b])).length) Slot.unset).toArray = ls at hl ⊢
  have hl : lv_has ls 7 [(0, .ref b)] := hl
  have hszz : s.heap.size ≤ s.heap.size := Nat.le_refl _
  refine x_new (G := G) (ci := 5) (fs := [.null, .null, .null, .null, .int 0, .null, .null, .int 0, .null, .null, .null]) (C := RX4) (T := TX4) (N := 11) hx hb hts0 l_inX4.1 tyX4 tyX4_ok hown (hts0 (.classLink RL 8 RX4) (in_wsL_law0_r1 _ (by decide +kernel))) (hts0 (.instantiable RX4 11) (in_wsL_law0_r1 _ (by decide +kernel))) (hts0 (.initialized RX4) (in_wsL_law0_r1 _ (by decide +kernel))) hC hS rfl (fun j hj => by rcases (show j = 0 ∨ j = 1 ∨ j = 2 ∨ j = 3 ∨ j = 4 ∨ j = 5 ∨ j = 6 ∨ j = 7 ∨ j = 8 ∨ j = 9 ∨ j = 10 by omega) with rfl | rfl | rfl | rfl | rfl | rfl | rfl | rfl | rfl | rfl | rfl <;> rfl) (show 0 + 1 ≤ 601024 by omega) (show 0 + 11 ≤ 7293034 by omega) dL_law_0 (fun q4 H1 eq_q4 ho_q4 hc_q4 hz_q4 hS => ?_)
  refine lv_dup hx hb dL_law_3 rfl ?_
  have hge4 : s.heap.size ≤ q4 := Nat.le_of_eq eq_q4.symm
  have hA4 : xA G q4 := (hGA _).mpr hge4
  refine x_call (px := xNo) (x_runOf (va_runI (b := q4) (As := []) (rest := [.ref q4]) ⟨hx, hb, hml, hown, hts⟩ (x_met (c_X4_init l hfl G q4 H1 ho_q4 hA4 (fun q => by omega))) (cwI 0 hts gL_law_X4_init rfl rfl rfl (hts0 (.initialized RX4) (in_wsL_law0_r1 _ (by decide +kernel))) (hts0 (.methodLink RL 69 yX4_init) (in_wsL_law0_r1 _ (by decide +kernel))) (hts0 (.instanceMethod yX4_init) (in_wsL_law0_r1 _ (by decide +kernel))) rfl (by decide +kernel) ⟨(Nat.le_of_ble_eq_true rfl), (Nat.le_of_ble_eq_true rfl)⟩) (xPreS hC hS) rfl rfl hl.1 rfl (lv_room (Nat.le_of_ble_eq_true rfl)) dL_law_4 ⟨(show 0 + 1 + 60 ≤ 601024 by omega), (show 0 + 11 + 1500 ≤ 7293034 by omega)⟩)) hS (fun _ h => h) (fun _ _ _ _ _ h => h.elim) (fun v H2 locs hp hz2 hk2 hS => ?_)
  obtain ⟨rfl, ad, had, hX, hc2⟩ := hp
  refine lv_astore_n (lv' := [(1, .ref q4), (0, .ref b)]) hx hb dL_law_7 rfl hl (by decide) rfl (fun ls hl => ?_)
  refine W.widen (k := 100) (n := 2000) (show 0 + 1 + 60 ≤ 100 by omega) (show 0 + 11 + 1500 ≤ 2000 by omega) ?_
  refine x_new (G := G) (ci := 6) (fs := [.null, .null, .int 0, .null, .null, .null, .int 0, .null, .null, .null, .int 0, .null, .null, .int 0]) (C := RX5) (T := TX5) (N := 14) hx hb hts0 l_inX5.1 tyX5 tyX5_ok hown (hts0 (.classLink RL 70 RX5) (in_wsL_law0_r1 _ (by decide +kernel))) (hts0 (.instantiable RX5 14) (in_wsL_law0_r1 _ (by decide +kernel))) (hts0 (.initialized RX5) (in_wsL_law0_r1 _ (by decide +kernel))) hC hS rfl (fun j hj => by rcases (show j = 0 ∨ j = 1 ∨ j = 2 ∨ j = 3 ∨ j = 4 ∨ j = 5 ∨ j = 6 ∨ j = 7 ∨ j = 8 ∨ j = 9 ∨ j = 10 ∨ j = 11 ∨ j = 12 ∨ j = 13 by omega) with rfl | rfl | rfl | rfl | rfl | rfl | rfl | rfl | rfl | rfl | rfl | rfl | rfl | rfl <;> rfl) (show 100 + 1 ≤ 601024 by omega) (show 2000 + 14 ≤ 7293034 by omega) dL_law_8 (fun q5 H3 eq_q5 ho_q5 hc_q5 hz_q5 hS => ?_)
  refine lv_dup hx hb dL_law_11 rfl ?_
  have hz1 : H1.size = s.heap.size + 1 := hz_q4
  have hge5 : H2.size ≤ q5 := Nat.le_of_eq eq_q5.symm
  have hA5 : xA G q5 := (hGA _).mpr (by omega)
  refine x_call (px := xNo) (x_runOf (va_runI (b := q5) (As := []) (rest := [.ref q5]) ⟨hx, hb, hml, hown, hts⟩ (x_met (c_X5_init l hfl G q5 H3 ho_q5 hA5)) (cwI 0 hts gL_law_X5_init rfl rfl rfl (hts0 (.initialized RX5) (in_wsL_law0_r1 _ (by decide +kernel))) (hts0 (.methodLink RL 72 yX5_init) (in_wsL_law0_r4 _ (by decide +kernel))) (hts0 (.instanceMethod yX5_init) (in_wsL_law0_r4 _ (by decide +kernel))) rfl (by decide +kernel) ⟨(Nat.le_of_ble_eq_true rfl), (Nat.le_of_ble_eq_true rfl)⟩) (xPreS hC hS) rfl rfl hl.1 rfl (lv_room (Nat.le_of_ble_eq_true rfl)) dL_law_12 ⟨(show 100 + 1 + 10 ≤ 601024 by omega), (show 2000 + 14 + 305 ≤ 7293034 by omega)⟩)) hS (fun _ h => h) (fun _ _ _ _ _ h => h.elim) (fun v H4 locs hp hz4 hk4 hS => ?_)
  obtain ⟨rfl, am, ham, hM, hge, hc4⟩ := hp
  refine lv_astore_n (lv' := [(2, .ref q5), (1, .ref q4), (0, .ref b)]) hx hb dL_law_15 rfl hl (by decide) rfl (fun ls hl => ?_)
  refine lv_iconst (v := nI 1) hx hb dL_law_16 (by decide) ?_
  refine x_newJ (G := G) (n := nI 1) (N' := 1) hx hb (hts0 (.arrayClass .long) (in_wsL_law0_r1 _ (by decide +kernel))) hC hS (by decide) (by decide) (by decide) (show 100 + 1 + 10 + 1 ≤ 601024 by omega) (show 2000 + 14 + 305 + 1 ≤ 7293034 by omega) dL_law_17 (fun o9 H5 eq_o9 ho hc5 hz5 hS => ?_)
  refine lv_astore_n (lv' := [(3, .ref o9), (2, .ref q5), (1, .ref q4), (0, .ref b)]) hx hb dL_law_19 rfl hl (by decide) rfl (fun ls hl => ?_)
  refine lv_iconst (v := nI 0) hx hb dL_law_20 (by decide) ?_
  refine lv_istore (lv' := [(4, .int (nI 0)), (3, .ref o9), (2, .ref q5), (1, .ref q4), (0, .ref b)]) hx hb dL_law_21 hl (by decide) rfl (fun ls hl => ?_)
  refine W.widen (k := 1000) (n := 10000) (show 100 + 1 + 10 + 1 ≤ 1000 by omega) (show 2000 + 14 + 305 + 1 ≤ 10000 by omega) ?_
  have hx2 : ∀ j, j < 22 → ad j < H2.size := fun j hj => hX.lt (by omega) (by show j < 22 + 6 * 0; omega)
  have hX3 : XS G ad z0 H3 := hX.kept hc_q5 (fun _ _ => List.not_mem_nil)
  have hX4 : XS G ad z0 H4 := hX3.kept hc4 (fun j hj => xn1 (by have := hx2 j (by have hj : j < 22 + 6 * 0 := hj; omega); omega))
  have hX5 : XS G ad z0 H5 := hX4.kept hc5 (fun _ _ => List.not_mem_nil)
  have hM5 : MX G am z1 0 0 (fun _ => 0) (fun _ => 0) (fun _ => false) H5 := hM.kept hc5 (fun _ _ => List.not_mem_nil)
  have hz3 : H3.size = H2.size + 1 := hz_q5
  have hga : ∀ j, j < 11 → H2.size ≤ am j := fun j hj => by rcases hge j hj with h | h <;> omega
  have hma : ∀ j, j < 11 → am j < H4.size := fun j hj => hM.lt j hj
  have h0 : L0 G s o9 am := ⟨hGA, (hGA _).mpr (by omega), fun j hj => by have := hma j hj; omega, hE⟩
  have hXw : XS (xGo (lGw G am) o9) ad z0 H5 := (hX5.re (A := fun q => (xA G q ∧ ∀ j, j < 11 → q ≠ am j) ∧ q ≠ o9) (fun j hj hq => ⟨⟨hq, fun k hk e => by have := hx2 j (by have hj : j < 22 + 6 * 0 := hj; omega); have := hga k hk; omega⟩, fun e => by have := hx2 j (by have hj : j < 22 + 6 * 0 := hj; omega); omega⟩))
  rw [← had] at hl
  rw [← ham] at hl
  exact law_loop l hfl hL C0 G hG o9 am h0 (L + 6) 0 ad z1 H5 locs 1000 10000 ls (by omega) (by omega) (by omega) (by omega) ⟨lInv_1, ⟨_, ho⟩, hXw.to zW_0 zEq_01, _, _, _, _, _, hM5⟩ hS (lv_sub hl [4, 3, 2, 1, 0] rfl)
