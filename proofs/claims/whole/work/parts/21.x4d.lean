/-! the class's calls that change the state, or reckon -/
theorem xct_up1 {p : Nat → Bool} {i : Nat} (h : p i = false) : ∀ {n : Nat}, i < n → xct (va_up p i true) n = xct p n + 1
  | 0, hn => absurd hn (Nat.not_lt_zero _)
  | n + 1, hn => by
    show xct (va_up p i true) n + (if va_up p i true n = true then 1 else 0) = xct p n + (if p n = true then 1 else 0) + 1
    rcases Nat.lt_or_ge i n with c | c
    · rw [xct_up1 h c, va_up_ne _ _ (by omega)]; omega
    · obtain rfl : i = n := by omega
      rw [xct_cong (q := p) (fun k hk => va_up_ne _ _ (by omega)), va_up_self, h]; rfl
theorem xct_up0 {p : Nat → Bool} {i : Nat} (h : p i = true) : ∀ {n : Nat}, i < n → xct (va_up p i false) n + 1 = xct p n
  | 0, hn => absurd hn (Nat.not_lt_zero _)
  | n + 1, hn => by
    show xct (va_up p i false) n + (if va_up p i false n = true then 1 else 0) + 1 = xct p n + (if p n = true then 1 else 0)
    rcases Nat.lt_or_ge i n with c | c
    · rw [va_up_ne _ _ (by omega), ← xct_up0 h c]; omega
    · obtain rfl : i = n := by omega
      rw [xct_cong (q := p) (fun k hk => va_up_ne _ _ (by omega)), va_up_self, h]; rfl
theorem zW.pool {S : zS} {i : Nat} {b : Bool} (hW : zW S) (h : xct (va_up (zI S) i b) (zN S) ≤ 8) : zW (zpool S i b) := ⟨hW.1, hW.2.1, hW.2.2.1, hW.2.2.2.1, hW.2.2.2.2.1, hW.2.2.2.2.2.1, h, hW.2.2.2.2.2.2.2⟩
theorem xany_cong {t t2 : Nat → Nat} {n : Nat} {f : Nat → Bool} (h : ∀ k, k < n → t k = t2 k) : ∀ s, xany t n f s = xany t2 n f s
  | 0 => rfl
  | s + 1 => by unfold xany; rw [xany_cong h s, xhas_cong h]
theorem zStrat_bad {G : xG} {p r a i : Nat} {S : zS} {t : Nat → Nat} {H : Heap} {fb : Int32} (hp : pA G p r a t (zL S i) H) (ht : ∀ k, k < zL S i → t k = zP S i k) (hfb : zbits fb (zF S)) : decide (¬ (xbits t (zL S i) &&& fb) = 0) = zbad S i := by
  obtain ⟨-, -, -, -, -, -, -, h16⟩ := hp
  rw [zbits_any h16 hfb, xany_cong ht]; rfl
theorem zbits_one {x : Int32} {f : Nat → Bool} {s : Nat} (h : zbits x f) (hs : s < 17) : x &&& xbit s = 0 ↔ f s = false := by
  rw [zbits_0 (zbits_and h (zbits_bit hs))]
  constructor
  · intro h2; have := h2 s hs; simpa using this
  · intro h2 j hj
    by_cases c : s = j
    · subst c; simp [h2]
    · simp [c]
theorem zbits_rule1 {x : Int32} {f : Nat → Bool} {s : Nat} (h : zbits x f) (hs : s < 17) : zbits (x ||| xbit s) (va_up f s true) := zbits_ext (zbits_or h (zbits_bit hs)) (fun j _ => by
  by_cases c : j = s
  · subst c; simp [va_up]
  · simp [va_up, c, Ne.symm c])
theorem zbits_rule0 {x : Int32} {f : Nat → Bool} {s : Nat} (h : zbits x f) (hs : s < 17) : zbits (x &&& (xbit s ^^^ (-1))) (va_up f s false) := zbits_ext (zbits_andn h (zbits_bit hs)) (fun j _ => by
  by_cases c : j = s
  · subst c; simp [va_up]
  · simp [va_up, c, Ne.symm c])
/-- all of the class's state, with what XS leaves open -/
def XK (G : xG) (ad : Nat → Nat) (S : zS) (kp : Nat → Nat) (fb m : Int32) (k : Nat) (a : Nat → Option Nat) (H : Heap) : Prop := zown G ad (22 + 6 * zN S) ∧ zbits fb (zF S) ∧ xB G ad fb (zK S) H ∧ (∃ t, zDraft G ad S t H) ∧ (∃ t n, pA G (ad 4) (ad 5) (ad 6) t n H) ∧ (∃ g d, sA G (ad 7) (ad 8) (ad 9) g d H) ∧
  zList G ad (zN S) m k a H ∧ (∃ f1 f2, zPairs G ad S f1 f2 H) ∧ (∃ f, zRow G ad 16 f H) ∧ (∃ f, zRow G ad 18 f H) ∧ (∃ f, zRow G ad 20 f H) ∧ zKinds S kp ∧ ∀ i, i < zN S → zStrat G ad S kp i H
section XKs
variable {G : xG} {ad : Nat → Nat} {S : zS} {kp : Nat → Nat} {fb m : Int32} {k : Nat} {a : Nat → Option Nat} {H H1 : Heap}
theorem XK.xs (h : XK G ad S kp fb m k a H) : XS G ad S H := by
  obtain ⟨hO, hfb, hx0, hdr, hch, hsk, hl9, hpr, hr1, hr2, hr3, hkp, hst⟩ := h
  exact ⟨hO, ⟨fb, hfb, hx0⟩, hdr, hch, hsk, ⟨m, k, a, hl9⟩, hpr, hr1, hr2, hr3, ⟨kp, hkp, hst⟩⟩
theorem XK.x0 (h : XK G ad S kp fb m k a H) : xB G ad fb (zK S) H := h.2.2.1
theorem XK.l (h : XK G ad S kp fb m k a H) : zList G ad (zN S) m k a H := h.2.2.2.2.2.2.1
theorem XK.st (h : XK G ad S kp fb m k a H) : ∀ i, i < zN S → zStrat G ad S kp i H := h.2.2.2.2.2.2.2.2.2.2.2.2
theorem XK.pool {i : Nat} {b : Bool} {sl : Int32} (h : XK G ad S kp fb m k a H) (hU : ∀ i, i < zN S → zU S i ≤ i ∧ zV S i ≤ i) (hi : i < zN S) (hc : xC [ad (22 + 6 * i)] H H1) (hs : oA G (ad (22 + 6 * i)) 4 [.int (nI i), .ref (ad (23 + 6 * i)), .int (xpar (zU S i)), .int (xpar (zV S i)), .ref (ad (26 + 6 * i)), .int sl, .int (nI (kp i)), .int (xb b)] H1) (hz : zbits sl (fun s => zline S s (i + 1) i)) : XK G ad (zpool S i b) kp fb m k a H1 := by
  obtain ⟨hO, hfb, hx0, ⟨td, hdr⟩, ⟨tc, nc, hch⟩, ⟨gs, ds, hsk⟩, hl9, ⟨f1, f2, hpr⟩, ⟨fr1, hr1⟩, ⟨fr2, hr2⟩, ⟨fr3, hr3⟩, hkp, hst⟩ := h
  have hc' : xC ([22 + 6 * i].map ad) H H1 := hc
  have hls : ∀ j ∈ [22 + 6 * i], j < 22 + 6 * zN S := xl1 (by omega)
  have hn : ∀ q, q < 22 → q ∉ [22 + 6 * i] := fun q hq => xn1 (by omega)
  have nl : ∀ q, q < 22 → ad q ∉ [22 + 6 * i].map ad := fun q hq => hO.nl (by omega) hls (hn q hq)
  refine ⟨hO, hfb, hx0.kept hO hc' (by omega) hls (hn 0 (by omega)), ⟨td, hdr.kept hO hc' (by omega) hls ⟨hn _ (by omega), hn _ (by omega), hn _ (by omega)⟩⟩, ⟨tc, nc, hch.kept hc' (nl _ (by omega)) (nl _ (by omega)) (nl _ (by omega))⟩, ⟨gs, ds, hsk.kept hc' (nl _ (by omega)) (nl _ (by omega)) (nl _ (by omega))⟩,
    hl9.kept hO hc' (by omega) hls ⟨hn _ (by omega), hn _ (by omega)⟩, ⟨f1, f2, hpr.kept hO hc' (by omega) hls (fun j _ h2 => hn j (by omega))⟩, ⟨fr1, hr1.kept hO hc' (by omega) hls ⟨hn _ (by omega), hn _ (by omega)⟩⟩, ⟨fr2, hr2.kept hO hc' (by omega) hls ⟨hn _ (by omega), hn _ (by omega)⟩⟩, ⟨fr3, hr3.kept hO hc' (by omega) hls ⟨hn _ (by omega), hn _ (by omega)⟩⟩, hkp.to (zsEq.rf rfl rfl rfl rfl) rfl, fun j hj => ?_⟩
  have hj : j < zN S := hj
  by_cases c : j = i
  · subst c
    obtain ⟨t, s2, f, a1, a2, a3, a4, a5, a6, a7⟩ := hst j hj
    have nk : ∀ q, 1 ≤ q → q < 6 → ∀ r, r = 22 + 6 * j + q → ad r ∉ [22 + 6 * j].map ad := fun q h1 h2 r hr => hO.nl (by omega) hls (xn1 (by omega))
    refine ⟨t, sl, f, ?_, a2.kept hc' (nk 1 (by omega) (by omega) _ (by omega)) (nk 2 (by omega) (by omega) _ (by omega)) (nk 3 (by omega) (by omega) _ (by omega)), hc'.at a3 (nk 4 (by omega) (by omega) _ (by omega)), hc'.at a4 (nk 5 (by omega) (by omega) _ (by omega)), a5, a6, fun q => ?_⟩
    · have e : zI (zpool S j b) j = b := va_up_self ..
      rw [e]; exact hs
    · rw [hz q]
      show (decide (q < 17) && zline S q (j + 1) j) = (decide (q < 17) && zline (zpool S j b) q (j + 1) j)
      rw [zline_cong (S := S) (S2 := zpool S j b) (zsEq.rf rfl rfl rfl rfl) hU _ _ hj]
  · exact ((hst j hj).kept hO hc' (by omega) hls (fun q hq => xn1 (by omega))).to (zsEq.rf rfl rfl rfl rfl) hU hj (va_up_ne _ _ c)
end XKs
/-- a step is forbidden, and of the first m strategies those with it leave -/
def zforb (S : zS) (s m : Nat) : zS := (S.1, S.2.1, S.2.2.1, S.2.2.2.1, S.2.2.2.2.1, (fun j => zI S j && !(decide (j < m) && zline S s (j + 1) j)), va_up (zF S) s true, S.2.2.2.2.2.2.2)
theorem zforb_0 (S : zS) (s : Nat) : zforb S s 0 = zrule S s true := by
  unfold zforb zrule
  have e : (fun j => zI S j && !(decide (j < 0) && zline S s (j + 1) j)) = S.2.2.2.2.2.1 := by funext j; simp
  rw [e]
theorem zforb_yes {S : zS} {s i : Nat} (h : zline S s (i + 1) i = true) : zpool (zforb S s i) i false = zforb S s (i + 1) := by
  unfold zforb zpool
  have e : va_up (fun j => zI S j && !(decide (j < i) && zline S s (j + 1) j)) i false = (fun j => zI S j && !(decide (j < i + 1) && zline S s (j + 1) j)) := by
    funext j
    by_cases c : j = i
    · subst c; simp [va_up, h]
    · rw [va_up_ne _ _ c, show decide (j < i + 1) = decide (j < i) from decide_eq_decide.mpr (by omega)]
  simp only [e]
theorem zforb_no {S : zS} {s i : Nat} (h : zI S i = false ∨ zline S s (i + 1) i = false) : zforb S s i = zforb S s (i + 1) := by
  unfold zforb
  have e : (fun j => zI S j && !(decide (j < i) && zline S s (j + 1) j)) = (fun j => zI S j && !(decide (j < i + 1) && zline S s (j + 1) j)) := by
    funext j
    by_cases c : j = i
    · subst c; rcases h with h | h <;> simp [h]
    · rw [show decide (j < i + 1) = decide (j < i) from decide_eq_decide.mpr (by omega)]
  simp only [e]
theorem kstep_j {S : zS} {j : Nat} (h : j < 17) : kstep S (nI j) = (if zL S 20 = 7 then 2 else 0) := by unfold kstep; rw [if_pos (xok_nI h (by decide))]
theorem kstrat_j {S : zS} {j : Nat} (hn : zN S ≤ 20) (h : j < zN S) : kstrat S (nI j) = 0 := by unfold kstrat; rw [if_pos (xok_nI h (by omega))]
theorem kjoin_j {S : zS} {j : Nat} (hn : zN S ≤ 20) (h : j < zN S) : kjoin S (nI j) = (if zI S j = true ∨ zbad S j = true ∨ xct (zI S) (zN S) = 8 then 2 else 0) := by unfold kjoin; rw [if_pos (xok_nI h (by omega)), nI_clamp (by omega)]
theorem kleave_j {S : zS} {j : Nat} (hn : zN S ≤ 20) (h : j < zN S) : kleave S (nI j) = (if zI S j = true then 0 else 2) := by unfold kleave; rw [if_pos (xok_nI h (by omega)), nI_clamp (by omega)]
theorem ktell_j {S : zS} {v w : Nat} (h : v < 100) (h2 : w < 100) : ktell S (nI v) (nI w) = (if zK S = 6 then 2 else 0) := by unfold ktell; rw [if_pos ⟨xok_nI h (by decide), xok_nI h2 (by decide)⟩]
theorem kprofit_j {S : zS} {i j : Nat} {u v w : Int32} (hn : zN S ≤ 20) (h : i < zN S) (h2 : j < zN S) : kprofit S u (nI i) (nI j) v w = (if nI i ≠ nI j ∧ xok u 4 = true ∧ xok v 100 = true ∧ xok w 100 = true then 0 else 2) := by unfold kprofit; rw [if_pos ⟨xok_nI h (by omega), xok_nI h2 (by omega)⟩]
theorem kworth_j {S : zS} {j : Nat} {u : Int32} (hn : zN S ≤ 20) (h : j < zN S) : kworth S u (nI j) = (if xok u 4 = true then (if zI S j = true then 0 else 3) else 2) := by unfold kworth; rw [if_pos (xok_nI h (by omega)), nI_clamp (by omega)]
set_option maxHeartbeats 4000000 in
set_option maxRecDepth 100000 in
/-- forget() -/
theorem c_X4_forget (l : Launch) (hfl : l.stackTraces = false) (G : xG) (ad : Nat → Nat) (S : zS) (H : Heap) (hX : XS G ad S H) (hW : zW S) : xMet l G yX4_forget wsX4_forget ({ frames := 0, cells := 0, slots := 0, locals := 0 } : Room) [.ref (ad 0)] H (fun v H1 => v = some (.int (nI (zK S))) ∧ XS G ad (zforget S) H1) (xNo) := by
  refine vx_ofW (cc := cX4_forget) (maxL := 2) (ret := (some .int)) (by decide) rfl ?_
  intro Pg Ev s m args below meth c s₁ B hml hout hv
  obtain ⟨rfl, hH, hC⟩ := hv
  have hx := B.exec
  have hb := B.bytes
  have hr := B.returns
  have hts := atoms_spec (ws := wsX4_forget) B.pre
  have hown : s.vm.findClass RX4 = some m.cls := findClass_of_methodNamed B.named
  have hlocks := B.notSynchronized
  rw [hH]
  have hS : va_S (xA G) s.heap H [] := by rw [← hH]; exact va_S.rf
  generalize ([] : List Loc) = locs at hS ⊢
  have hl := lv_entry [.ref (ad 0)] (n := 2) (Nat.le_of_ble_eq_true rfl)
  rw [lg_entry_eq]
  generalize (lg_sl [.ref (ad 0)] ++ List.replicate (2 - (lg_sl [.ref (ad 0)]).length) Slot.unset).toArray = ls at hl ⊢
  have hl : lv_has ls 2 [(0, .ref (ad 0))] := hl
  obtain ⟨hO, ⟨fb, hfb, hx0⟩, ⟨td, hdr⟩, ⟨tc, nc, hch⟩, ⟨gs, ds, hsk⟩, ⟨m9, k9, a9, hl9⟩, ⟨f1, f2, hpr⟩, ⟨fr1, hr1⟩, ⟨fr2, hr2⟩, ⟨fr3, hr3⟩, ⟨kp, hkp, hst⟩⟩ := id hX
  have hl0 := hl9.1.1
  have hx9 := hx0
  have hn20 := hW.1
  have hU9 := hW.2.2.2.2.1
  refine lv_aload_n hx hb dX4_forget_0 rfl (lv_at hl 0 rfl) ?_
  refine va_get (D := xD G) (ci := 5) (v := .int (nI (zK S))) (C := RX4) (T := TX4) (N := 11) hx hb hts (by decide +kernel) hown hC.1 (x1 hx9) 0 rfl rfl 7 (by decide) (hts (.fieldLink RX4 49 "Bidwhistle" "pairsTold" "I") (by decide +kernel)) (fun _ h9 => h9) rfl dX4_forget_1 ?_
  refine lv_istore_n (lv' := [(1, .int (nI (zK S))), (0, .ref (ad 0))]) hx hb dX4_forget_4 rfl hl (by decide) rfl (fun ls hl => ?_)
  refine lv_aload_n hx hb dX4_forget_5 rfl (lv_at hl 1 rfl) ?_
  refine lv_iconst (v := (nI 0)) hx hb dX4_forget_6 (by decide) ?_
  refine x_put (G := G) (ci := 5) (v := .int (nI 0)) (ty := .int) (C := RX4) (T := TX4) (N := 11) hx hb hts (by decide +kernel) tyX4 tyX4_ok nmX4 hown hC hS (hO.2 0 (by omega) (by omega)) hx9 rfl 7 (by decide) (hts (.fieldLink RX4 49 "Bidwhistle" "pairsTold" "I") (by decide +kernel)) (fun _ h9 => h9) rfl (by decide +kernel) rfl rfl (Nat.le_of_ble_eq_true rfl) dX4_forget_7 (fun H_2 locs hx9 hc_1 hS => ?_)
  have hx9 : oA G (ad 0) 5 [.ref (ad 1), .ref (ad 4), .ref (ad 7), .ref (ad 10), .int fb, .ref (ad 12), .ref (ad 14), .int (nI 0), .ref (ad 16), .ref (ad 18), .ref (ad 20)] H_2 := hx9
  have hl0 := hc_1.at hl0 (xn1 (hO.ne (i := 10) (j := 0) (by omega) (by omega) (by omega)))
  refine lv_iload_n hx hb dX4_forget_10 rfl (lv_at hl 0 rfl) ?_
  have _ := hc_1.1
  have hcf_3 : xC [ad 0] H H_2 := (hc_1.mono (fun q hq => by simp only [List.mem_append, List.mem_cons, List.not_mem_nil, or_false, false_or] at hq ⊢; omega))
  obtain ⟨q0, q1, q2, q3, q4, q5, q6, q7⟩ := zkeep (S := S) (ls := [0]) hO hcf_3 (by decide)
  exact x_iret (G := G) hx hb hr rfl dX4_forget_11 hlocks hS (by first | exact Nat.le_of_ble_eq_true rfl | exact (show 0 ≤ 0 by omega)) (by first | exact Nat.le_of_ble_eq_true rfl | exact (show 0 ≤ 0 by omega)) ⟨rfl, ⟨hO, ⟨fb, hfb, hx9⟩, ⟨td, q1 _ _ (by decide) hdr⟩, ⟨tc, nc, q2 _ _ (by decide) hch⟩, ⟨gs, ds, q3 _ _ (by decide) hsk⟩, ⟨m9, k9, a9, q4 _ _ _ _ (by decide) hl9⟩, ⟨f1, f2, hpr.1 |> (fun z => (q5 S f1 f2 (by decide) hpr).1), (q5 S f1 f2 (by decide) hpr).2.1, (q5 S f1 f2 (by decide) hpr).2.2.1, (q5 S f1 f2 (by decide) hpr).2.2.2.1, fun j hj => absurd hj (Nat.not_lt_zero j)⟩, ⟨fr1, q6 16 _ (by decide) (by decide) hr1⟩, ⟨fr2, q6 18 _ (by decide) (by decide) hr2⟩, ⟨fr3, q6 20 _ (by decide) (by decide) hr3⟩, ⟨kp, hkp.to (zsEq.rf rfl rfl rfl rfl) rfl, fun i hi => (q7 _ _ i hi (hst i hi)).to (zsEq.rf rfl rfl rfl rfl) hU9 hi rfl⟩⟩⟩

set_option maxHeartbeats 4000000 in
set_option maxRecDepth 100000 in
/-- step(step) -/
theorem c_X4_step (l : Launch) (hfl : l.stackTraces = false) (G : xG) (ad : Nat → Nat) (S : zS) (p9 : Int32) (H : Heap) (hX : XS G ad S H) (hW : zW S) : xMet l G yX4_step wsX4_step ({ frames := 7, cells := 8, slots := 60, locals := 110 } : Room) [.ref (ad 0), .int p9] H (fun v H1 => kstep S p9 = 0 ∧ v = some (.int (nI (zL S 20 + 1))) ∧ XS G ad (zset S (zL S 20 + 1) (va_up (zP S 20) (zL S 20) p9.toNatClampNeg)) H1) (zx [zIA, zIS] (kstep S p9) H) := by
  refine vx_ofW (cc := cX4_step) (maxL := 2) (ret := (some .int)) (by decide) rfl ?_
  intro Pg Ev s m args below meth c s₁ B hml hout hv
  obtain ⟨rfl, hH, hC⟩ := hv
  have hx := B.exec
  have hb := B.bytes
  have hr := B.returns
  have hts := atoms_spec (ws := wsX4_step) B.pre
  have hown : s.vm.findClass RX4 = some m.cls := findClass_of_methodNamed B.named
  have hlocks := B.notSynchronized
  rw [hH]
  have hS : va_S (xA G) s.heap H [] := by rw [← hH]; exact va_S.rf
  generalize ([] : List Loc) = locs at hS ⊢
  have hl := lv_entry [.ref (ad 0), .int p9] (n := 2) (Nat.le_of_ble_eq_true rfl)
  rw [lg_entry_eq]
  generalize (lg_sl [.ref (ad 0), .int p9] ++ List.replicate (2 - (lg_sl [.ref (ad 0), .int p9]).length) Slot.unset).toArray = ls at hl ⊢
  have hl : lv_has ls 2 [(0, .ref (ad 0)), (1, .int p9)] := hl
  obtain ⟨hO, ⟨fb, hfb, hx0⟩, ⟨td, hdr⟩, ⟨tc, nc, hch⟩, ⟨gs, ds, hsk⟩, ⟨m9, k9, a9, hl9⟩, ⟨f1, f2, hpr⟩, ⟨fr1, hr1⟩, ⟨fr2, hr2⟩, ⟨fr3, hr3⟩, ⟨kp, hkp, hst⟩⟩ := id hX
  have hl0 := hl9.1.1
  have hx9 := hx0
  have hn20 := hW.1
  have hU9 := hW.2.2.2.2.1
  obtain ⟨hd1, hd2, hd3, hd7, n12, n13, n23, hd16⟩ := id hdr.1
  refine lv_iload_n hx hb dX4_step_0 rfl (lv_at hl 1 rfl) ?_
  have hsz := hS.1
  refine x_call (vx_runS (As := [.int p9]) (rest := []) ⟨hx, hb, hml, hown, hts⟩ (c_X4_requireStep l hfl G (p9) H) (va_cwS 1 hts gX4_step_X4_requireStep rfl rfl rfl (by decide +kernel) ⟨(Nat.le_of_ble_eq_true rfl), (Nat.le_of_ble_eq_true rfl)⟩) (xPreS hC hS) rfl rfl hl.1 rfl (lv_room (Nat.le_of_ble_eq_true rfl)) dX4_step_1 ⟨(by first | exact Nat.le_of_ble_eq_true rfl | exact (show 0 + 1 ≤ 8 by omega)), (by first | exact Nat.le_of_ble_eq_true rfl | exact (show 0 + 6 ≤ 60 by omega))⟩) hS (fun _ h => h) (fun E qx9 ce H_1 locs hp hz hk_2 hS hq1 hq2 hq3 => ?_) (fun v H_1 locs hp hz hk_2 hS => ?_)
  · have _ := hx
    obtain ⟨hkf, rfl, hcx⟩ := zx1 hp
    exact x_out (G := G) hout hlocks hq1 hq2 hq3 hS (by first | exact Nat.le_of_ble_eq_true rfl | exact (show 0 + 1 ≤ 8 by omega)) (by first | exact Nat.le_of_ble_eq_true rfl | exact (show 0 + 6 ≤ 60 by omega)) (zx_mk 0 (show kstep S p9 = 1 from by unfold kstep; rw [hkf]; rfl) rfl hcx)
  · have _ := hx
    obtain ⟨hk_j9, rfl, rfl⟩ := hp
    obtain ⟨j9, hj9, rfl⟩ := xok_of hk_j9 (by omega)
    refine lv_aload_n hx hb dX4_step_4 rfl (lv_at hl 0 rfl) ?_
    refine va_get (D := xD G) (ci := 5) (v := .ref (ad 1)) (C := RX4) (T := TX4) (N := 11) hx hb hts (by decide +kernel) hown hC.1 (x1 hx9) 0 rfl rfl 0 (by decide) (hts (.fieldLink RX4 10 "Bidwhistle" "draft" "LBidwhistle$Program;") (by decide +kernel)) (fun _ h9 => h9) rfl dX4_step_5 ?_
    refine x_intE (vx_runV (As := []) (rest := []) ⟨hx, hb, hml, hown, hts⟩ (c_X0_isFull l hfl G (ad 1) (ad 2) (ad 3) (zL S 20) td H hdr.1) (cwV 0 hts gX4_step_X0_isFull rfl rfl rfl (by decide +kernel) ⟨(Nat.le_of_ble_eq_true rfl), (Nat.le_of_ble_eq_true rfl)⟩) (xPreV hC hS hd1 (q := (RX0, TX0, 3)) rfl) rfl rfl hl.1 rfl (lv_room (Nat.le_of_ble_eq_true rfl)) dX4_step_8 ⟨(by first | exact Nat.le_of_ble_eq_true rfl | exact (show 0 + 1 + 0 ≤ 8 by omega)), (by first | exact Nat.le_of_ble_eq_true rfl | exact (show 0 + 6 + 0 ≤ 60 by omega))⟩) hS (fun locs hS => ?_)
    refine lv_if_eq (tgt := 24) hx hb dX4_step_11 (by decide) (fun c_3 => ?_) (fun c_3 => ?_)
    · have _ := hx
      have hfu : ¬ 7 ≤ zL S 20 := of_decide_eq_false (xb_0.mp c_3)
      refine lv_aload_n hx hb dX4_step_24 rfl (lv_at hl 0 rfl) ?_
      refine va_get (D := xD G) (ci := 5) (v := .ref (ad 1)) (C := RX4) (T := TX4) (N := 11) hx hb hts (by decide +kernel) hown hC.1 (x1 hx9) 0 rfl rfl 0 (by decide) (hts (.fieldLink RX4 10 "Bidwhistle" "draft" "LBidwhistle$Program;") (by decide +kernel)) (fun _ h9 => h9) rfl dX4_step_25 ?_
      refine lv_iload_n hx hb dX4_step_28 rfl (lv_at hl 1 rfl) ?_
      have hsz := hS.1
      refine x_call (px := xNo) (vx_runV (As := [.int (nI j9)]) (rest := []) ⟨hx, hb, hml, hown, hts⟩ (c_X0_add l hfl G (ad 1) (ad 2) (ad 3) (zL S 20) j9 td H hdr.1 (hO.2 1 (by omega) (by omega)) (hO.2 3 (by omega) (by omega)) (by omega) (by omega)) (cwV 1 hts gX4_step_X0_add rfl rfl rfl (by decide +kernel) ⟨(Nat.le_of_ble_eq_true rfl), (Nat.le_of_ble_eq_true rfl)⟩) (xPreV hC hS hd1 (q := (RX0, TX0, 3)) rfl) rfl rfl hl.1 rfl (lv_room (Nat.le_of_ble_eq_true rfl)) dX4_step_29 ⟨(by first | exact Nat.le_of_ble_eq_true rfl | exact (show 0 + 1 + 0 ≤ 8 by omega)), (by first | exact Nat.le_of_ble_eq_true rfl | exact (show 0 + 6 + 0 ≤ 60 by omega))⟩) hS (fun _ h => h) (fun _ _ _ _ _ h => False.elim h) (fun v H_4 locs hp hz hk_5 hS => ?_)
      obtain ⟨rfl, hpp6, hc6⟩ := hp
      obtain ⟨hda6, hdb6, hdc6, hdn6, -, -, -, hdt6⟩ := id hpp6
      have hx9 := hc6.at hx9 (xn2 (hO.ne (i := 0) (j := 1) (by omega) (by omega) (by omega)) (hO.ne (i := 0) (j := 3) (by omega) (by omega) (by omega)))
      have hl0 := hc6.at hl0 (xn2 (hO.ne (i := 10) (j := 1) (by omega) (by omega) (by omega)) (hO.ne (i := 10) (j := 3) (by omega) (by omega) (by omega)))
      refine lv_aload_n hx hb dX4_step_32 rfl (lv_at hl 0 rfl) ?_
      refine va_get (D := xD G) (ci := 5) (v := .ref (ad 1)) (C := RX4) (T := TX4) (N := 11) hx hb hts (by decide +kernel) hown hC.1 (x1 hx9) 0 rfl rfl 0 (by decide) (hts (.fieldLink RX4 10 "Bidwhistle" "draft" "LBidwhistle$Program;") (by decide +kernel)) (fun _ h9 => h9) rfl dX4_step_33 ?_
      refine x_intE (vx_runV (As := []) (rest := []) ⟨hx, hb, hml, hown, hts⟩ (c_X0_length l hfl G (ad 1) (ad 2) (ad 3) (zL S 20 + 1) ((va_up td (zL S 20) j9)) H_4 hpp6) (cwV 0 hts gX4_step_X0_length rfl rfl rfl (by decide +kernel) ⟨(Nat.le_of_ble_eq_true rfl), (Nat.le_of_ble_eq_true rfl)⟩) (xPreV hC hS hda6 (q := (RX0, TX0, 3)) rfl) rfl rfl hl.1 rfl (lv_room (Nat.le_of_ble_eq_true rfl)) dX4_step_36 ⟨(by first | exact Nat.le_of_ble_eq_true rfl | exact (show 0 + 1 + 0 ≤ 8 by omega)), (by first | exact Nat.le_of_ble_eq_true rfl | exact (show 0 + 6 + 0 ≤ 60 by omega))⟩) hS (fun locs hS => ?_)
      obtain ⟨q0, q1, q2, q3, q4, q5, q6, q7⟩ := zkeep (S := S) (ls := [1, 3]) hO hc6 (by decide)
      have hS2 : XS G ad (zset S (zL S 20 + 1) (va_up (zP S 20) (zL S 20) j9)) H_4 := by
        refine ⟨hO, ⟨fb, hfb, q0 _ _ (by decide) hx0⟩, ⟨(va_up td (zL S 20) j9), by rw [zset_L]; exact hpp6, fun k hk => ?_⟩, ⟨tc, nc, q2 _ _ (by decide) hch⟩, ⟨gs, ds, q3 _ _ (by decide) hsk⟩, ⟨m9, k9, a9, q4 _ _ _ _ (by decide) hl9⟩, ⟨f1, f2, q5 _ _ _ (by decide) hpr⟩, ⟨fr1, q6 16 _ (by decide) (by decide) hr1⟩, ⟨fr2, q6 18 _ (by decide) (by decide) hr2⟩, ⟨fr3, q6 20 _ (by decide) (by decide) hr3⟩, ⟨kp, hkp.to (zsEq_set hn20) rfl, fun i hi => (q7 _ _ i hi (hst i hi)).to (zsEq_set hn20) hU9 hi rfl⟩⟩
        rw [zset_L] at hk
        rw [zset_P]
        by_cases c9 : k = zL S 20
        · rw [c9, va_up_self, va_up_self]
        · rw [va_up_ne _ _ c9, va_up_ne _ _ c9]; exact hdr.2 k (by omega)
      exact x_iret (G := G) hx hb hr rfl dX4_step_39 hlocks hS (by first | exact Nat.le_of_ble_eq_true rfl | exact (show 0 + 1 ≤ 8 by omega)) (by first | exact Nat.le_of_ble_eq_true rfl | exact (show 0 + 6 ≤ 60 by omega)) ⟨by rw [kstep_j hj9]; exact if_neg (by omega), rfl, by rw [nI_clamp (show j9 < 2 ^ 31 by omega)]; exact hS2⟩
    · have _ := hx
      have hfu : 7 ≤ zL S 20 := of_decide_eq_true (xb_1 c_3)
      exact x_throw (G := G) (cls := "java/lang/IllegalStateException") (text := "the draft has 7 steps") hx hb hfl hts hown (by decide +kernel) (by decide +kernel) (by decide +kernel) (by decide +kernel) (by decide +kernel) tbad_IS tgood_IS hC hS (by rw [hml]; exact hl.1) dX4_step_14 dX4_step_17 dX4_step_18 dX4_step_20 dX4_step_23 hout (Nat.le_of_ble_eq_true rfl) (Nat.le_of_ble_eq_true rfl) (by first | exact Nat.le_of_ble_eq_true rfl | exact (show 0 + 1 + 1 ≤ 8 by omega)) (by first | exact Nat.le_of_ble_eq_true rfl | exact (show 0 + 6 + 6 ≤ 60 by omega)) hlocks (fun H1 hcx => zx_mk 1 (show kstep S (nI j9) = 2 from by rw [kstep_j hj9]; exact if_pos (by omega)) rfl hcx) (by first | exact Nat.le_of_ble_eq_true rfl | exact (show 0 + 1 + 1 ≤ 8 by omega)) (by first | exact Nat.le_of_ble_eq_true rfl | exact (show 0 + 6 + 6 ≤ 60 by omega))

set_option maxHeartbeats 4000000 in
set_option maxRecDepth 100000 in
/-- scrap() -/
theorem c_X4_scrap (l : Launch) (hfl : l.stackTraces = false) (G : xG) (ad : Nat → Nat) (S : zS) (H : Heap) (hX : XS G ad S H) (hW : zW S) : xMet l G yX4_scrap wsX4_scrap ({ frames := 1, cells := 0, slots := 0, locals := 20 } : Room) [.ref (ad 0)] H (fun v H1 => v = some (.int (nI (zL S 20))) ∧ XS G ad (zset S 0 (zP S 20)) H1) (xNo) := by
  refine vx_ofW (cc := cX4_scrap) (maxL := 2) (ret := (some .int)) (by decide) rfl ?_
  intro Pg Ev s m args below meth c s₁ B hml hout hv
  obtain ⟨rfl, hH, hC⟩ := hv
  have hx := B.exec
  have hb := B.bytes
  have hr := B.returns
  have hts := atoms_spec (ws := wsX4_scrap) B.pre
  have hown : s.vm.findClass RX4 = some m.cls := findClass_of_methodNamed B.named
  have hlocks := B.notSynchronized
  rw [hH]
  have hS : va_S (xA G) s.heap H [] := by rw [← hH]; exact va_S.rf
  generalize ([] : List Loc) = locs at hS ⊢
  have hl := lv_entry [.ref (ad 0)] (n := 2) (Nat.le_of_ble_eq_true rfl)
  rw [lg_entry_eq]
  generalize (lg_sl [.ref (ad 0)] ++ List.replicate (2 - (lg_sl [.ref (ad 0)]).length) Slot.unset).toArray = ls at hl ⊢
  have hl : lv_has ls 2 [(0, .ref (ad 0))] := hl
  obtain ⟨hO, ⟨fb, hfb, hx0⟩, ⟨td, hdr⟩, ⟨tc, nc, hch⟩, ⟨gs, ds, hsk⟩, ⟨m9, k9, a9, hl9⟩, ⟨f1, f2, hpr⟩, ⟨fr1, hr1⟩, ⟨fr2, hr2⟩, ⟨fr3, hr3⟩, ⟨kp, hkp, hst⟩⟩ := id hX
  have hl0 := hl9.1.1
  have hx9 := hx0
  have hn20 := hW.1
  have hU9 := hW.2.2.2.2.1
  obtain ⟨hd1, hd2, hd3, hd7, n12, n13, n23, hd16⟩ := id hdr.1
  refine lv_aload_n hx hb dX4_scrap_0 rfl (lv_at hl 0 rfl) ?_
  refine va_get (D := xD G) (ci := 5) (v := .ref (ad 1)) (C := RX4) (T := TX4) (N := 11) hx hb hts (by decide +kernel) hown hC.1 (x1 hx9) 0 rfl rfl 0 (by decide) (hts (.fieldLink RX4 10 "Bidwhistle" "draft" "LBidwhistle$Program;") (by decide +kernel)) (fun _ h9 => h9) rfl dX4_scrap_1 ?_
  refine x_intE (vx_runV (As := []) (rest := []) ⟨hx, hb, hml, hown, hts⟩ (c_X0_length l hfl G (ad 1) (ad 2) (ad 3) (zL S 20) (td) H hdr.1) (cwV 0 hts gX4_scrap_X0_length rfl rfl rfl (by decide +kernel) ⟨(Nat.le_of_ble_eq_true rfl), (Nat.le_of_ble_eq_true rfl)⟩) (xPreV hC hS hd1 (q := (RX0, TX0, 3)) rfl) rfl rfl hl.1 rfl (lv_room (Nat.le_of_ble_eq_true rfl)) dX4_scrap_4 ⟨(by first | exact Nat.le_of_ble_eq_true rfl | exact (show 0 + 0 ≤ 0 by omega)), (by first | exact Nat.le_of_ble_eq_true rfl | exact (show 0 + 0 ≤ 0 by omega))⟩) hS (fun locs hS => ?_)
  refine lv_istore_n (lv' := [(1, .int (nI (zL S 20))), (0, .ref (ad 0))]) hx hb dX4_scrap_7 rfl hl (by decide) rfl (fun ls hl => ?_)
  refine lv_aload_n hx hb dX4_scrap_8 rfl (lv_at hl 1 rfl) ?_
  refine va_get (D := xD G) (ci := 5) (v := .ref (ad 1)) (C := RX4) (T := TX4) (N := 11) hx hb hts (by decide +kernel) hown hC.1 (x1 hx9) 0 rfl rfl 0 (by decide) (hts (.fieldLink RX4 10 "Bidwhistle" "draft" "LBidwhistle$Program;") (by decide +kernel)) (fun _ h9 => h9) rfl dX4_scrap_9 ?_
  have hsz := hS.1
  refine x_call (px := xNo) (vx_runV (As := []) (rest := []) ⟨hx, hb, hml, hown, hts⟩ (c_X0_empty l hfl G (ad 1) (ad 2) (ad 3) (zL S 20) td H hdr.1 (hO.2 1 (by omega) (by omega))) (cwV 0 hts gX4_scrap_X0_empty rfl rfl rfl (by decide +kernel) ⟨(Nat.le_of_ble_eq_true rfl), (Nat.le_of_ble_eq_true rfl)⟩) (xPreV hC hS hd1 (q := (RX0, TX0, 3)) rfl) rfl rfl hl.1 rfl (lv_room (Nat.le_of_ble_eq_true rfl)) dX4_scrap_12 ⟨(by first | exact Nat.le_of_ble_eq_true rfl | exact (show 0 + 0 ≤ 0 by omega)), (by first | exact Nat.le_of_ble_eq_true rfl | exact (show 0 + 0 ≤ 0 by omega))⟩) hS (fun _ h => h) (fun _ _ _ _ _ h => False.elim h) (fun v H_1 locs hp hz hk_2 hS => ?_)
  obtain ⟨rfl, hpp3, hc3⟩ := hp
  obtain ⟨hda3, hdb3, hdc3, hdn3, -, -, -, hdt3⟩ := id hpp3
  have hx9 := hc3.at hx9 (xn1 (hO.ne (i := 0) (j := 1) (by omega) (by omega) (by omega)))
  have hl0 := hc3.at hl0 (xn1 (hO.ne (i := 10) (j := 1) (by omega) (by omega) (by omega)))
  refine lv_iload_n hx hb dX4_scrap_15 rfl (lv_at hl 0 rfl) ?_
  obtain ⟨q0, q1, q2, q3, q4, q5, q6, q7⟩ := zkeep (S := S) (ls := [1]) hO hc3 (by decide)
  have hS2 : XS G ad (zset S 0 (zP S 20)) H_1 := by
    refine ⟨hO, ⟨fb, hfb, q0 _ _ (by decide) hx0⟩, ⟨td, by rw [zset_L]; exact hpp3, fun k hk => ?_⟩, ⟨tc, nc, q2 _ _ (by decide) hch⟩, ⟨gs, ds, q3 _ _ (by decide) hsk⟩, ⟨m9, k9, a9, q4 _ _ _ _ (by decide) hl9⟩, ⟨f1, f2, q5 _ _ _ (by decide) hpr⟩, ⟨fr1, q6 16 _ (by decide) (by decide) hr1⟩, ⟨fr2, q6 18 _ (by decide) (by decide) hr2⟩, ⟨fr3, q6 20 _ (by decide) (by decide) hr3⟩, ⟨kp, hkp.to (zsEq_set hn20) rfl, fun i hi => (q7 _ _ i hi (hst i hi)).to (zsEq_set hn20) hU9 hi rfl⟩⟩
    rw [zset_L] at hk
    exact absurd hk (Nat.not_lt_zero k)
  exact x_iret (G := G) hx hb hr rfl dX4_scrap_16 hlocks hS (by first | exact Nat.le_of_ble_eq_true rfl | exact (show 0 ≤ 0 by omega)) (by first | exact Nat.le_of_ble_eq_true rfl | exact (show 0 ≤ 0 by omega)) ⟨rfl, hS2⟩

set_option maxHeartbeats 4000000 in
set_option maxRecDepth 100000 in
/-- tell(one, two) -/
theorem c_X4_tell (l : Launch) (hfl : l.stackTraces = false) (G : xG) (ad : Nat → Nat) (S : zS) (p9 q9 : Int32) (H : Heap) (hX : XS G ad S H) (hW : zW S) : xMet l G yX4_tell wsX4_tell ({ frames := 7, cells := 8, slots := 60, locals := 110 } : Room) [.ref (ad 0), .int p9, .int q9] H (fun v H1 => ktell S p9 q9 = 0 ∧ v = some (.int (nI (zK S + 1))) ∧ XS G ad (ztell S p9.toNatClampNeg q9.toNatClampNeg) H1) (zx [zIA, zIS] (ktell S p9 q9) H) := by
  refine vx_ofW (cc := cX4_tell) (maxL := 3) (ret := (some .int)) (by decide) rfl ?_
  intro Pg Ev s m args below meth c s₁ B hml hout hv
  obtain ⟨rfl, hH, hC⟩ := hv
  have hx := B.exec
  have hb := B.bytes
  have hr := B.returns
  have hts := atoms_spec (ws := wsX4_tell) B.pre
  have hown : s.vm.findClass RX4 = some m.cls := findClass_of_methodNamed B.named
  have hlocks := B.notSynchronized
  rw [hH]
  have hS : va_S (xA G) s.heap H [] := by rw [← hH]; exact va_S.rf
  generalize ([] : List Loc) = locs at hS ⊢
  have hl := lv_entry [.ref (ad 0), .int p9, .int q9] (n := 3) (Nat.le_of_ble_eq_true rfl)
  rw [lg_entry_eq]
  generalize (lg_sl [.ref (ad 0), .int p9, .int q9] ++ List.replicate (3 - (lg_sl [.ref (ad 0), .int p9, .int q9]).length) Slot.unset).toArray = ls at hl ⊢
  have hl : lv_has ls 3 [(0, .ref (ad 0)), (1, .int p9), (2, .int q9)] := hl
  obtain ⟨hO, ⟨fb, hfb, hx0⟩, ⟨td, hdr⟩, ⟨tc, nc, hch⟩, ⟨gs, ds, hsk⟩, ⟨m9, k9, a9, hl9⟩, ⟨f1, f2, hpr⟩, ⟨fr1, hr1⟩, ⟨fr2, hr2⟩, ⟨fr3, hr3⟩, ⟨kp, hkp, hst⟩⟩ := id hX
  have hl0 := hl9.1.1
  have hx9 := hx0
  have hn20 := hW.1
  have hU9 := hW.2.2.2.2.1
  obtain ⟨h12, h13, h14, h15, -⟩ := id hpr
  have hK6 : zK S ≤ 6 := hW.2.2.2.2.2.2.2.1
  have hOT : ∀ j, zO S j ≤ 99 ∧ zT S j ≤ 99 := hW.2.2.2.2.2.2.2.2
  refine lv_iload_n hx hb dX4_tell_0 rfl (lv_at hl 1 rfl) ?_
  have hsz := hS.1
  refine x_call (vx_runS (As := [.int p9]) (rest := []) ⟨hx, hb, hml, hown, hts⟩ (c_X4_requireValue l hfl G (p9) H) (va_cwS 1 hts gX4_tell_X4_requireValue rfl rfl rfl (by decide +kernel) ⟨(Nat.le_of_ble_eq_true rfl), (Nat.le_of_ble_eq_true rfl)⟩) (xPreS hC hS) rfl rfl hl.1 rfl (lv_room (Nat.le_of_ble_eq_true rfl)) dX4_tell_1 ⟨(by first | exact Nat.le_of_ble_eq_true rfl | exact (show 0 + 1 ≤ 8 by omega)), (by first | exact Nat.le_of_ble_eq_true rfl | exact (show 0 + 6 ≤ 60 by omega))⟩) hS (fun _ h => h) (fun E qx9 ce H_1 locs hp hz hk_2 hS hq1 hq2 hq3 => ?_) (fun v H_1 locs hp hz hk_2 hS => ?_)
  · have _ := hx
    obtain ⟨hkf, rfl, hcx⟩ := zx1 hp
    exact x_out (G := G) hout hlocks hq1 hq2 hq3 hS (by first | exact Nat.le_of_ble_eq_true rfl | exact (show 0 + 1 ≤ 8 by omega)) (by first | exact Nat.le_of_ble_eq_true rfl | exact (show 0 + 6 ≤ 60 by omega)) (zx_mk 0 (show ktell S p9 q9 = 1 from by unfold ktell; rw [if_neg (fun z => by rw [hkf] at z; cases z.1)]) rfl hcx)
  · have _ := hx
    obtain ⟨hk_v9, rfl, rfl⟩ := hp
    obtain ⟨v9, hv9, rfl⟩ := xok_of hk_v9 (by omega)
    refine lv_iload_n hx hb dX4_tell_4 rfl (lv_at hl 2 rfl) ?_
    have hsz := hS.1
    refine x_call (vx_runS (As := [.int q9]) (rest := []) ⟨hx, hb, hml, hown, hts⟩ (c_X4_requireValue l hfl G (q9) H) (va_cwS 1 hts gX4_tell_X4_requireValue rfl rfl rfl (by decide +kernel) ⟨(Nat.le_of_ble_eq_true rfl), (Nat.le_of_ble_eq_true rfl)⟩) (xPreS hC hS) rfl rfl hl.1 rfl (lv_room (Nat.le_of_ble_eq_true rfl)) dX4_tell_5 ⟨(by first | exact Nat.le_of_ble_eq_true rfl | exact (show 0 + 1 + 1 ≤ 8 by omega)), (by first | exact Nat.le_of_ble_eq_true rfl | exact (show 0 + 6 + 6 ≤ 60 by omega))⟩) hS (fun _ h => h) (fun E qx9 ce H_3 locs hp hz hk_4 hS hq1 hq2 hq3 => ?_) (fun v H_3 locs hp hz hk_4 hS => ?_)
    · have _ := hx
      obtain ⟨hkf, rfl, hcx⟩ := zx1 hp
      exact x_out (G := G) hout hlocks hq1 hq2 hq3 hS (by first | exact Nat.le_of_ble_eq_true rfl | exact (show 0 + 1 + 1 ≤ 8 by omega)) (by first | exact Nat.le_of_ble_eq_true rfl | exact (show 0 + 6 + 6 ≤ 60 by omega)) (zx_mk 0 (show ktell S (nI v9) q9 = 1 from by unfold ktell; rw [if_neg (fun z => by rw [hkf] at z; cases z.2)]) rfl hcx)
    · have _ := hx
      obtain ⟨hk_w9, rfl, rfl⟩ := hp
      obtain ⟨w9, hw9, rfl⟩ := xok_of hk_w9 (by omega)
      refine lv_aload_n hx hb dX4_tell_8 rfl (lv_at hl 0 rfl) ?_
      refine va_get (D := xD G) (ci := 5) (v := .int (nI (zK S))) (C := RX4) (T := TX4) (N := 11) hx hb hts (by decide +kernel) hown hC.1 (x1 hx9) 0 rfl rfl 7 (by decide) (hts (.fieldLink RX4 49 "Bidwhistle" "pairsTold" "I") (by decide +kernel)) (fun _ h9 => h9) rfl dX4_tell_9 ?_
      refine lv_bipush (v := (nI 6)) hx hb dX4_tell_12 (by decide) ?_
      refine lv_icmp_lt (tgt := 27) hx hb dX4_tell_14 (by decide) (fun c_5 => ?_) (fun c_5 => ?_)
      · have _ := hx
        have c_5 : (zK S) < 6 := (nI_ltI (a := (zK S)) (b := 6) (by omega) (by omega)).mp c_5
        refine lv_aload_n hx hb dX4_tell_27 rfl (lv_at hl 0 rfl) ?_
        refine va_get (D := xD G) (ci := 5) (v := .ref (ad 12)) (C := RX4) (T := TX4) (N := 11) hx hb hts (by decide +kernel) hown hC.1 (x1 hx9) 0 rfl rfl 5 (by decide) (hts (.fieldLink RX4 42 "Bidwhistle" "firstValues" "LBidwhistle$Row;") (by decide +kernel)) (fun _ h9 => h9) rfl dX4_tell_28 ?_
        refine lv_aload_n hx hb dX4_tell_31 rfl (lv_at hl 0 rfl) ?_
        refine va_get (D := xD G) (ci := 5) (v := .int (nI (zK S))) (C := RX4) (T := TX4) (N := 11) hx hb hts (by decide +kernel) hown hC.1 (x1 hx9) 0 rfl rfl 7 (by decide) (hts (.fieldLink RX4 49 "Bidwhistle" "pairsTold" "I") (by decide +kernel)) (fun _ h9 => h9) rfl dX4_tell_32 ?_
        refine lv_iload_n hx hb dX4_tell_35 rfl (lv_at hl 1 rfl) ?_
        have hsz := hS.1
        refine x_call (px := xNo) (vx_runV (As := [.int (nI (zK S)), .int (nI v9)]) (rest := []) ⟨hx, hb, hml, hown, hts⟩ (c_X1_put l hfl G (ad 12) (ad 13) 6 (zK S) f1 (nI v9) H h12 h13 (by omega) (by decide) (hO.2 _ (by omega) (by omega)) (hO.ne (by omega) (by omega) (by omega))) (cwV 2 hts gX4_tell_X1_put rfl rfl rfl (by decide +kernel) ⟨(Nat.le_of_ble_eq_true rfl), (Nat.le_of_ble_eq_true rfl)⟩) (xPreV hC hS h12 (q := (RX1, TX1, 1)) rfl) rfl rfl hl.1 rfl (lv_room (Nat.le_of_ble_eq_true rfl)) dX4_tell_36 ⟨(by first | exact Nat.le_of_ble_eq_true rfl | exact (show 0 + 1 + 1 + 0 ≤ 8 by omega)), (by first | exact Nat.le_of_ble_eq_true rfl | exact (show 0 + 6 + 6 + 0 ≤ 60 by omega))⟩) hS (fun _ h => h) (fun _ _ _ _ _ h => False.elim h) (fun v H_6 locs hp hz hk_7 hS => ?_)
        obtain ⟨rfl, hu8, hc8⟩ := hp
        have hx9 := hc8.at hx9 (xn1 (hO.ne (i := 0) (j := 13) (by omega) (by omega) (by omega)))
        have hl0 := hc8.at hl0 (xn1 (hO.ne (i := 10) (j := 13) (by omega) (by omega) (by omega)))
        have h12 := hc8.at h12 (xn1 (hO.ne (i := 12) (j := 13) (by omega) (by omega) (by omega)))
        have h14 := hc8.at h14 (xn1 (hO.ne (i := 14) (j := 13) (by omega) (by omega) (by omega)))
        have h15 := hc8.at h15 (xn1 (hO.ne (i := 15) (j := 13) (by omega) (by omega) (by omega)))
        refine lv_aload_n hx hb dX4_tell_39 rfl (lv_at hl 0 rfl) ?_
        refine va_get (D := xD G) (ci := 5) (v := .ref (ad 14)) (C := RX4) (T := TX4) (N := 11) hx hb hts (by decide +kernel) hown hC.1 (x1 hx9) 0 rfl rfl 6 (by decide) (hts (.fieldLink RX4 46 "Bidwhistle" "secondValues" "LBidwhistle$Row;") (by decide +kernel)) (fun _ h9 => h9) rfl dX4_tell_40 ?_
        refine lv_aload_n hx hb dX4_tell_43 rfl (lv_at hl 0 rfl) ?_
        refine va_get (D := xD G) (ci := 5) (v := .int (nI (zK S))) (C := RX4) (T := TX4) (N := 11) hx hb hts (by decide +kernel) hown hC.1 (x1 hx9) 0 rfl rfl 7 (by decide) (hts (.fieldLink RX4 49 "Bidwhistle" "pairsTold" "I") (by decide +kernel)) (fun _ h9 => h9) rfl dX4_tell_44 ?_
        refine lv_iload_n hx hb dX4_tell_47 rfl (lv_at hl 2 rfl) ?_
        have hsz := hS.1
        refine x_call (px := xNo) (vx_runV (As := [.int (nI (zK S)), .int (nI w9)]) (rest := []) ⟨hx, hb, hml, hown, hts⟩ (c_X1_put l hfl G (ad 14) (ad 15) 6 (zK S) f2 (nI w9) H_6 h14 h15 (by omega) (by decide) (hO.2 _ (by omega) (by omega)) (hO.ne (by omega) (by omega) (by omega))) (cwV 2 hts gX4_tell_X1_put rfl rfl rfl (by decide +kernel) ⟨(Nat.le_of_ble_eq_true rfl), (Nat.le_of_ble_eq_true rfl)⟩) (xPreV hC hS h14 (q := (RX1, TX1, 1)) rfl) rfl rfl hl.1 rfl (lv_room (Nat.le_of_ble_eq_true rfl)) dX4_tell_48 ⟨(by first | exact Nat.le_of_ble_eq_true rfl | exact (show 0 + 1 + 1 + 0 ≤ 8 by omega)), (by first | exact Nat.le_of_ble_eq_true rfl | exact (show 0 + 6 + 6 + 0 ≤ 60 by omega))⟩) hS (fun _ h => h) (fun _ _ _ _ _ h => False.elim h) (fun v H_9 locs hp hz hk_10 hS => ?_)
        obtain ⟨rfl, hu11, hc11⟩ := hp
        have hx9 := hc11.at hx9 (xn1 (hO.ne (i := 0) (j := 15) (by omega) (by omega) (by omega)))
        have hl0 := hc11.at hl0 (xn1 (hO.ne (i := 10) (j := 15) (by omega) (by omega) (by omega)))
        have h12 := hc11.at h12 (xn1 (hO.ne (i := 12) (j := 15) (by omega) (by omega) (by omega)))
        have h14 := hc11.at h14 (xn1 (hO.ne (i := 14) (j := 15) (by omega) (by omega) (by omega)))
        have hu8 := hc11.at hu8 (xn1 (hO.ne (i := 13) (j := 15) (by omega) (by omega) (by omega)))
        refine lv_aload_n hx hb dX4_tell_51 rfl (lv_at hl 0 rfl) ?_
        refine lv_dup hx hb dX4_tell_52 rfl ?_
        refine va_get (D := xD G) (ci := 5) (v := .int (nI (zK S))) (C := RX4) (T := TX4) (N := 11) hx hb hts (by decide +kernel) hown hC.1 (x1 hx9) 0 rfl rfl 7 (by decide) (hts (.fieldLink RX4 49 "Bidwhistle" "pairsTold" "I") (by decide +kernel)) (fun _ h9 => h9) rfl dX4_tell_53 ?_
        refine lv_iconst (v := (nI 1)) hx hb dX4_tell_56 (by decide) ?_
        refine x_iaddn (a := (zK S)) (b := 1) hx hb dX4_tell_57 ?_
        refine x_put (G := G) (ci := 5) (v := .int (nI (((zK S)) + 1))) (ty := .int) (C := RX4) (T := TX4) (N := 11) hx hb hts (by decide +kernel) tyX4 tyX4_ok nmX4 hown hC hS (hO.2 0 (by omega) (by omega)) hx9 rfl 7 (by decide) (hts (.fieldLink RX4 49 "Bidwhistle" "pairsTold" "I") (by decide +kernel)) (fun _ h9 => h9) rfl (by decide +kernel) rfl rfl (Nat.le_of_ble_eq_true rfl) dX4_tell_58 (fun H_13 locs hx9 hc_12 hS => ?_)
        have hx9 : oA G (ad 0) 5 [.ref (ad 1), .ref (ad 4), .ref (ad 7), .ref (ad 10), .int fb, .ref (ad 12), .ref (ad 14), .int (nI (((zK S)) + 1)), .ref (ad 16), .ref (ad 18), .ref (ad 20)] H_13 := hx9
        have hl0 := hc_12.at hl0 (xn1 (hO.ne (i := 10) (j := 0) (by omega) (by omega) (by omega)))
        have h12 := hc_12.at h12 (xn1 (hO.ne (i := 12) (j := 0) (by omega) (by omega) (by omega)))
        have h14 := hc_12.at h14 (xn1 (hO.ne (i := 14) (j := 0) (by omega) (by omega) (by omega)))
        have hu8 := hc_12.at hu8 (xn1 (hO.ne (i := 13) (j := 0) (by omega) (by omega) (by omega)))
        have hu11 := hc_12.at hu11 (xn1 (hO.ne (i := 15) (j := 0) (by omega) (by omega) (by omega)))
        refine lv_aload_n hx hb dX4_tell_61 rfl (lv_at hl 0 rfl) ?_
        refine va_get (D := xD G) (ci := 5) (v := .int (nI (((zK S)) + 1))) (C := RX4) (T := TX4) (N := 11) hx hb hts (by decide +kernel) hown hC.1 (x1 hx9) 0 rfl rfl 7 (by decide) (hts (.fieldLink RX4 49 "Bidwhistle" "pairsTold" "I") (by decide +kernel)) (fun _ h9 => h9) rfl dX4_tell_62 ?_
        have _ := hc8.1
        have _ := hc11.1
        have _ := hc_12.1
        have hcf_14 : xC [ad 13, ad 15, ad 0] H H_13 := ((hc8.tr (hc11.tr hc_12)).mono (fun q hq => by simp only [List.mem_append, List.mem_cons, List.not_mem_nil, or_false, false_or] at hq ⊢; omega))
        obtain ⟨q0, q1, q2, q3, q4, q5, q6, q7⟩ := zkeep (S := S) (ls := [13, 15, 0]) hO hcf_14 (by decide)
        have hS2 : XS G ad (ztell S v9 w9) H_13 := by
          refine ⟨hO, ⟨fb, hfb, hx9⟩, ⟨td, q1 _ _ (by decide) hdr⟩, ⟨tc, nc, q2 _ _ (by decide) hch⟩, ⟨gs, ds, q3 _ _ (by decide) hsk⟩, ⟨m9, k9, a9, q4 _ _ _ _ (by decide) hl9⟩, ⟨upd f1 (zK S) (nI v9), upd f2 (zK S) (nI w9), h12, hu8, h14, hu11, fun j hj => ?_⟩, ⟨fr1, q6 16 _ (by decide) (by decide) hr1⟩, ⟨fr2, q6 18 _ (by decide) (by decide) hr2⟩, ⟨fr3, q6 20 _ (by decide) (by decide) hr3⟩, ⟨kp, hkp.to (zsEq.rf rfl rfl rfl rfl) rfl, fun i hi => (q7 _ _ i hi (hst i hi)).to (zsEq.rf rfl rfl rfl rfl) hU9 hi rfl⟩⟩
          have hj : j < zK S + 1 := hj
          show upd f1 (zK S) (nI v9) j = nI (va_up (zO S) (zK S) v9 j) ∧ upd f2 (zK S) (nI w9) j = nI (va_up (zT S) (zK S) w9 j)
          by_cases c9 : j = zK S
          · rw [c9, va_up_self, va_up_self]; exact ⟨pk_us, pk_us⟩
          · rw [va_up_ne _ _ c9, va_up_ne _ _ c9, pk_un c9, pk_un c9]; exact hpr.2.2.2.2 j (by omega)
        exact x_iret (G := G) hx hb hr rfl dX4_tell_65 hlocks hS (by first | exact Nat.le_of_ble_eq_true rfl | exact (show 0 + 1 + 1 ≤ 8 by omega)) (by first | exact Nat.le_of_ble_eq_true rfl | exact (show 0 + 6 + 6 ≤ 60 by omega)) ⟨by rw [ktell_j hv9 hw9]; exact if_neg (by omega), rfl, by rw [nI_clamp (show v9 < 2 ^ 31 by omega), nI_clamp (show w9 < 2 ^ 31 by omega)]; exact hS2⟩
      · have _ := hx
        have c_5 : ¬ ((zK S) < 6) := fun z => c_5 ((nI_ltI (a := (zK S)) (b := 6) (by omega) (by omega)).mpr z)
        exact x_throw (G := G) (cls := "java/lang/IllegalStateException") (text := "6 pairs are told") hx hb hfl hts hown (by decide +kernel) (by decide +kernel) (by decide +kernel) (by decide +kernel) (by decide +kernel) tbad_IS tgood_IS hC hS (by rw [hml]; exact hl.1) dX4_tell_17 dX4_tell_20 dX4_tell_21 dX4_tell_23 dX4_tell_26 hout (Nat.le_of_ble_eq_true rfl) (Nat.le_of_ble_eq_true rfl) (by first | exact Nat.le_of_ble_eq_true rfl | exact (show 0 + 1 + 1 + 1 ≤ 8 by omega)) (by first | exact Nat.le_of_ble_eq_true rfl | exact (show 0 + 6 + 6 + 6 ≤ 60 by omega)) hlocks (fun H1 hcx => zx_mk 1 (show ktell S (nI v9) (nI w9) = 2 from by rw [ktell_j hv9 hw9]; exact if_pos (by omega)) rfl hcx) (by first | exact Nat.le_of_ble_eq_true rfl | exact (show 0 + 1 + 1 + 1 ≤ 8 by omega)) (by first | exact Nat.le_of_ble_eq_true rfl | exact (show 0 + 6 + 6 + 6 ≤ 60 by omega))

set_option maxHeartbeats 4000000 in
set_option maxRecDepth 100000 in
/-- allow(step) -/
theorem c_X4_allow (l : Launch) (hfl : l.stackTraces = false) (G : xG) (ad : Nat → Nat) (S : zS) (p9 : Int32) (H : Heap) (hX : XS G ad S H) (hW : zW S) : xMet l G yX4_allow wsX4_allow ({ frames := 7, cells := 8, slots := 60, locals := 110 } : Room) [.ref (ad 0), .int p9] H (fun v H1 => kval S p9 = 0 ∧ v = some (.int (xb (zF S p9.toNatClampNeg))) ∧ XS G ad (zrule S p9.toNatClampNeg false) H1) (zx [zIA] (kval S p9) H) := by
  refine vx_ofW (cc := cX4_allow) (maxL := 3) (ret := (some .boolean)) (by decide) rfl ?_
  intro Pg Ev s m args below meth c s₁ B hml hout hv
  obtain ⟨rfl, hH, hC⟩ := hv
  have hx := B.exec
  have hb := B.bytes
  have hr := B.returns
  have hts := atoms_spec (ws := wsX4_allow) B.pre
  have hown : s.vm.findClass RX4 = some m.cls := findClass_of_methodNamed B.named
  have hlocks := B.notSynchronized
  rw [hH]
  have hS : va_S (xA G) s.heap H [] := by rw [← hH]; exact va_S.rf
  generalize ([] : List Loc) = locs at hS ⊢
  have hl := lv_entry [.ref (ad 0), .int p9] (n := 3) (Nat.le_of_ble_eq_true rfl)
  rw [lg_entry_eq]
  generalize (lg_sl [.ref (ad 0), .int p9] ++ List.replicate (3 - (lg_sl [.ref (ad 0), .int p9]).length) Slot.unset).toArray = ls at hl ⊢
  have hl : lv_has ls 3 [(0, .ref (ad 0)), (1, .int p9)] := hl
  obtain ⟨hO, ⟨fb, hfb, hx0⟩, ⟨td, hdr⟩, ⟨tc, nc, hch⟩, ⟨gs, ds, hsk⟩, ⟨m9, k9, a9, hl9⟩, ⟨f1, f2, hpr⟩, ⟨fr1, hr1⟩, ⟨fr2, hr2⟩, ⟨fr3, hr3⟩, ⟨kp, hkp, hst⟩⟩ := id hX
  have hl0 := hl9.1.1
  have hx9 := hx0
  have hn20 := hW.1
  have hU9 := hW.2.2.2.2.1
  refine lv_iload_n hx hb dX4_allow_0 rfl (lv_at hl 1 rfl) ?_
  have hsz := hS.1
  refine x_call (vx_runS (As := [.int p9]) (rest := []) ⟨hx, hb, hml, hown, hts⟩ (c_X4_requireStep l hfl G (p9) H) (va_cwS 1 hts gX4_allow_X4_requireStep rfl rfl rfl (by decide +kernel) ⟨(Nat.le_of_ble_eq_true rfl), (Nat.le_of_ble_eq_true rfl)⟩) (xPreS hC hS) rfl rfl hl.1 rfl (lv_room (Nat.le_of_ble_eq_true rfl)) dX4_allow_1 ⟨(by first | exact Nat.le_of_ble_eq_true rfl | exact (show 0 + 1 ≤ 8 by omega)), (by first | exact Nat.le_of_ble_eq_true rfl | exact (show 0 + 6 ≤ 60 by omega))⟩) hS (fun _ h => h) (fun E qx9 ce H_1 locs hp hz hk_2 hS hq1 hq2 hq3 => ?_) (fun v H_1 locs hp hz hk_2 hS => ?_)
  · have _ := hx
    obtain ⟨hkf, rfl, hcx⟩ := zx1 hp
    exact x_out (G := G) hout hlocks hq1 hq2 hq3 hS (by first | exact Nat.le_of_ble_eq_true rfl | exact (show 0 + 1 ≤ 8 by omega)) (by first | exact Nat.le_of_ble_eq_true rfl | exact (show 0 + 6 ≤ 60 by omega)) (zx_mk 0 (show kval S p9 = 1 from by unfold kval; rw [hkf]; rfl) rfl hcx)
  · have _ := hx
    obtain ⟨hk_j9, rfl, rfl⟩ := hp
    obtain ⟨j9, hj9, rfl⟩ := xok_of hk_j9 (by omega)
    refine lv_aload_n hx hb dX4_allow_4 rfl (lv_at hl 0 rfl) ?_
    refine va_get (D := xD G) (ci := 5) (v := .int fb) (C := RX4) (T := TX4) (N := 11) hx hb hts (by decide +kernel) hown hC.1 (x1 hx9) 0 rfl rfl 4 (by decide) (hts (.fieldLink RX4 33 "Bidwhistle" "forbiddenSteps" "I") (by decide +kernel)) (fun _ h9 => h9) rfl dX4_allow_5 ?_
    refine lv_iload_n hx hb dX4_allow_8 rfl (lv_at hl 1 rfl) ?_
    refine x_intE (vx_runS (As := [.int (nI j9)]) (rest := [.int fb]) ⟨hx, hb, hml, hown, hts⟩ (c_X4_bitOf l hfl G j9 H) (va_cwS 1 hts gX4_allow_X4_bitOf rfl rfl rfl (by decide +kernel) ⟨(Nat.le_of_ble_eq_true rfl), (Nat.le_of_ble_eq_true rfl)⟩) (xPreS hC hS) rfl rfl hl.1 rfl (lv_room (Nat.le_of_ble_eq_true rfl)) dX4_allow_9 ⟨(by first | exact Nat.le_of_ble_eq_true rfl | exact (show 0 + 1 + 0 ≤ 8 by omega)), (by first | exact Nat.le_of_ble_eq_true rfl | exact (show 0 + 6 + 0 ≤ 60 by omega))⟩) hS (fun locs hS => ?_)
    refine lv_iand hx hb dX4_allow_12 ?_
    refine lv_if_eq (tgt := 20) hx hb dX4_allow_13 (by decide) (fun c_3 => ?_) (fun c_3 => ?_)
    · have _ := hx
      refine lv_iconst (v := (nI 0)) hx hb dX4_allow_20 (by decide) ?_
      refine lv_istore_n (lv' := [(2, .int (nI 0)), (0, .ref (ad 0)), (1, .int (nI j9))]) hx hb dX4_allow_21 rfl hl (by decide) rfl (fun ls hl => ?_)
      refine lv_aload_n hx hb dX4_allow_22 rfl (lv_at hl 1 rfl) ?_
      refine lv_aload_n hx hb dX4_allow_23 rfl (lv_at hl 1 rfl) ?_
      refine va_get (D := xD G) (ci := 5) (v := .int fb) (C := RX4) (T := TX4) (N := 11) hx hb hts (by decide +kernel) hown hC.1 (x1 hx9) 0 rfl rfl 4 (by decide) (hts (.fieldLink RX4 33 "Bidwhistle" "forbiddenSteps" "I") (by decide +kernel)) (fun _ h9 => h9) rfl dX4_allow_24 ?_
      refine lv_iload_n hx hb dX4_allow_27 rfl (lv_at hl 2 rfl) ?_
      refine x_intE (vx_runS (As := [.int (nI j9)]) (rest := [.int fb, .ref (ad 0)]) ⟨hx, hb, hml, hown, hts⟩ (c_X4_bitOf l hfl G j9 H) (va_cwS 1 hts gX4_allow_X4_bitOf rfl rfl rfl (by decide +kernel) ⟨(Nat.le_of_ble_eq_true rfl), (Nat.le_of_ble_eq_true rfl)⟩) (xPreS hC hS) rfl rfl hl.1 rfl (lv_room (Nat.le_of_ble_eq_true rfl)) dX4_allow_28 ⟨(by first | exact Nat.le_of_ble_eq_true rfl | exact (show 0 + 1 + 0 ≤ 8 by omega)), (by first | exact Nat.le_of_ble_eq_true rfl | exact (show 0 + 6 + 0 ≤ 60 by omega))⟩) hS (fun locs hS => ?_)
      refine lv_iconst (v := (-1)) hx hb dX4_allow_31 (by decide) ?_
      refine lv_ixor hx hb dX4_allow_32 ?_
      refine lv_iand hx hb dX4_allow_33 ?_
      refine x_put (G := G) (ci := 5) (v := .int (fb &&& ((xbit j9) ^^^ (-1)))) (ty := .int) (C := RX4) (T := TX4) (N := 11) hx hb hts (by decide +kernel) tyX4 tyX4_ok nmX4 hown hC hS (hO.2 0 (by omega) (by omega)) hx9 rfl 4 (by decide) (hts (.fieldLink RX4 33 "Bidwhistle" "forbiddenSteps" "I") (by decide +kernel)) (fun _ h9 => h9) rfl (by decide +kernel) rfl rfl (Nat.le_of_ble_eq_true rfl) dX4_allow_34 (fun H_5 locs hx9 hc_4 hS => ?_)
      have hx9 : oA G (ad 0) 5 [.ref (ad 1), .ref (ad 4), .ref (ad 7), .ref (ad 10), .int (fb &&& ((xbit j9) ^^^ (-1))), .ref (ad 12), .ref (ad 14), .int (nI (zK S)), .ref (ad 16), .ref (ad 18), .ref (ad 20)] H_5 := hx9
      have hl0 := hc_4.at hl0 (xn1 (hO.ne (i := 10) (j := 0) (by omega) (by omega) (by omega)))
      refine lv_iload_n hx hb dX4_allow_37 rfl (lv_at hl 0 rfl) ?_
      have _ := hc_4.1
      have hcf_6 : xC [ad 0] H H_5 := (hc_4.mono (fun q hq => by simp only [List.mem_append, List.mem_cons, List.not_mem_nil, or_false, false_or] at hq ⊢; omega))
      obtain ⟨q0, q1, q2, q3, q4, q5, q6, q7⟩ := zkeep (S := S) (ls := [0]) hO hcf_6 (by decide)
      have hS2 : XS G ad (zrule S j9 false) H_5 := ⟨hO, ⟨_, zbits_rule0 hfb hj9, hx9⟩, ⟨td, q1 _ _ (by decide) hdr⟩, ⟨tc, nc, q2 _ _ (by decide) hch⟩, ⟨gs, ds, q3 _ _ (by decide) hsk⟩, ⟨m9, k9, a9, q4 _ _ _ _ (by decide) hl9⟩, ⟨f1, f2, q5 _ _ _ (by decide) hpr⟩, ⟨fr1, q6 16 _ (by decide) (by decide) hr1⟩, ⟨fr2, q6 18 _ (by decide) (by decide) hr2⟩, ⟨fr3, q6 20 _ (by decide) (by decide) hr3⟩, ⟨kp, hkp.to (zsEq.rf rfl rfl rfl rfl) rfl, fun i hi => (q7 _ _ i hi (hst i hi)).to (zsEq.rf rfl rfl rfl rfl) hU9 hi rfl⟩⟩
      exact x_iret (G := G) hx hb hr (by rfl) dX4_allow_38 hlocks hS (by first | exact Nat.le_of_ble_eq_true rfl | exact (show 0 + 1 ≤ 8 by omega)) (by first | exact Nat.le_of_ble_eq_true rfl | exact (show 0 + 6 ≤ 60 by omega)) ⟨by unfold kval; rw [xok_nI hj9 (by decide)]; rfl, by rw [nI_clamp (show j9 < 2 ^ 31 by omega), show zF S j9 = false from (zbits_one hfb hj9).mp c_3]; rfl, by rw [nI_clamp (show j9 < 2 ^ 31 by omega)]; exact hS2⟩
    · have _ := hx
      refine lv_iconst (v := (nI 1)) hx hb dX4_allow_16 (by decide) ?_
      refine lv_goto (tgt := 21) hx hb dX4_allow_17 (by decide) ?_
      refine lv_istore_n (lv' := [(2, .int (nI 1)), (0, .ref (ad 0)), (1, .int (nI j9))]) hx hb dX4_allow_21 rfl hl (by decide) rfl (fun ls hl => ?_)
      refine lv_aload_n hx hb dX4_allow_22 rfl (lv_at hl 1 rfl) ?_
      refine lv_aload_n hx hb dX4_allow_23 rfl (lv_at hl 1 rfl) ?_
      refine va_get (D := xD G) (ci := 5) (v := .int fb) (C := RX4) (T := TX4) (N := 11) hx hb hts (by decide +kernel) hown hC.1 (x1 hx9) 0 rfl rfl 4 (by decide) (hts (.fieldLink RX4 33 "Bidwhistle" "forbiddenSteps" "I") (by decide +kernel)) (fun _ h9 => h9) rfl dX4_allow_24 ?_
      refine lv_iload_n hx hb dX4_allow_27 rfl (lv_at hl 2 rfl) ?_
      refine x_intE (vx_runS (As := [.int (nI j9)]) (rest := [.int fb, .ref (ad 0)]) ⟨hx, hb, hml, hown, hts⟩ (c_X4_bitOf l hfl G j9 H) (va_cwS 1 hts gX4_allow_X4_bitOf rfl rfl rfl (by decide +kernel) ⟨(Nat.le_of_ble_eq_true rfl), (Nat.le_of_ble_eq_true rfl)⟩) (xPreS hC hS) rfl rfl hl.1 rfl (lv_room (Nat.le_of_ble_eq_true rfl)) dX4_allow_28 ⟨(by first | exact Nat.le_of_ble_eq_true rfl | exact (show 0 + 1 + 0 ≤ 8 by omega)), (by first | exact Nat.le_of_ble_eq_true rfl | exact (show 0 + 6 + 0 ≤ 60 by omega))⟩) hS (fun locs hS => ?_)
      refine lv_iconst (v := (-1)) hx hb dX4_allow_31 (by decide) ?_
      refine lv_ixor hx hb dX4_allow_32 ?_
      refine lv_iand hx hb dX4_allow_33 ?_
      refine x_put (G := G) (ci := 5) (v := .int (fb &&& ((xbit j9) ^^^ (-1)))) (ty := .int) (C := RX4) (T := TX4) (N := 11) hx hb hts (by decide +kernel) tyX4 tyX4_ok nmX4 hown hC hS (hO.2 0 (by omega) (by omega)) hx9 rfl 4 (by decide) (hts (.fieldLink RX4 33 "Bidwhistle" "forbiddenSteps" "I") (by decide +kernel)) (fun _ h9 => h9) rfl (by decide +kernel) rfl rfl (Nat.le_of_ble_eq_true rfl) dX4_allow_34 (fun H_8 locs hx9 hc_7 hS => ?_)
      have hx9 : oA G (ad 0) 5 [.ref (ad 1), .ref (ad 4), .ref (ad 7), .ref (ad 10), .int (fb &&& ((xbit j9) ^^^ (-1))), .ref (ad 12), .ref (ad 14), .int (nI (zK S)), .ref (ad 16), .ref (ad 18), .ref (ad 20)] H_8 := hx9
      have hl0 := hc_7.at hl0 (xn1 (hO.ne (i := 10) (j := 0) (by omega) (by omega) (by omega)))
      refine lv_iload_n hx hb dX4_allow_37 rfl (lv_at hl 0 rfl) ?_
      have _ := hc_7.1
      have hcf_9 : xC [ad 0] H H_8 := (hc_7.mono (fun q hq => by simp only [List.mem_append, List.mem_cons, List.not_mem_nil, or_false, false_or] at hq ⊢; omega))
      obtain ⟨q0, q1, q2, q3, q4, q5, q6, q7⟩ := zkeep (S := S) (ls := [0]) hO hcf_9 (by decide)
      have hS2 : XS G ad (zrule S j9 false) H_8 := ⟨hO, ⟨_, zbits_rule0 hfb hj9, hx9⟩, ⟨td, q1 _ _ (by decide) hdr⟩, ⟨tc, nc, q2 _ _ (by decide) hch⟩, ⟨gs, ds, q3 _ _ (by decide) hsk⟩, ⟨m9, k9, a9, q4 _ _ _ _ (by decide) hl9⟩, ⟨f1, f2, q5 _ _ _ (by decide) hpr⟩, ⟨fr1, q6 16 _ (by decide) (by decide) hr1⟩, ⟨fr2, q6 18 _ (by decide) (by decide) hr2⟩, ⟨fr3, q6 20 _ (by decide) (by decide) hr3⟩, ⟨kp, hkp.to (zsEq.rf rfl rfl rfl rfl) rfl, fun i hi => (q7 _ _ i hi (hst i hi)).to (zsEq.rf rfl rfl rfl rfl) hU9 hi rfl⟩⟩
      exact x_iret (G := G) hx hb hr (by rfl) dX4_allow_38 hlocks hS (by first | exact Nat.le_of_ble_eq_true rfl | exact (show 0 + 1 ≤ 8 by omega)) (by first | exact Nat.le_of_ble_eq_true rfl | exact (show 0 + 6 ≤ 60 by omega)) ⟨by unfold kval; rw [xok_nI hj9 (by decide)]; rfl, by rw [nI_clamp (show j9 < 2 ^ 31 by omega), show zF S j9 = true from by cases h9 : zF S j9; exact absurd ((zbits_one hfb hj9).mpr h9) c_3; rfl]; rfl, by rw [nI_clamp (show j9 < 2 ^ 31 by omega)]; exact hS2⟩

set_option maxHeartbeats 4000000 in
set_option maxRecDepth 100000 in
/-- join(strategy) -/
theorem c_X4_join (l : Launch) (hfl : l.stackTraces = false) (G : xG) (ad : Nat → Nat) (S : zS) (p9 : Int32) (H : Heap) (hX : XS G ad S H) (hW : zW S) : xMet l G yX4_join wsX4_join ({ frames := 7, cells := 8, slots := 60, locals := 111 } : Room) [.ref (ad 0), .int p9] H (fun v H1 => kjoin S p9 = 0 ∧ v = some (.int (nI (xct (zI (zpool S p9.toNatClampNeg true)) (zN S)))) ∧ XS G ad (zpool S p9.toNatClampNeg true) H1) (zx [zIO, zIS] (kjoin S p9) H) := by
  refine vx_ofW (cc := cX4_join) (maxL := 3) (ret := (some .int)) (by decide) rfl ?_
  intro Pg Ev s m args below meth c s₁ B hml hout hv
  obtain ⟨rfl, hH, hC⟩ := hv
  have hx := B.exec
  have hb := B.bytes
  have hr := B.returns
  have hts := atoms_spec (ws := wsX4_join) B.pre
  have hown : s.vm.findClass RX4 = some m.cls := findClass_of_methodNamed B.named
  have hlocks := B.notSynchronized
  rw [hH]
  have hS : va_S (xA G) s.heap H [] := by rw [← hH]; exact va_S.rf
  generalize ([] : List Loc) = locs at hS ⊢
  have hl := lv_entry [.ref (ad 0), .int p9] (n := 3) (Nat.le_of_ble_eq_true rfl)
  rw [lg_entry_eq]
  generalize (lg_sl [.ref (ad 0), .int p9] ++ List.replicate (3 - (lg_sl [.ref (ad 0), .int p9]).length) Slot.unset).toArray = ls at hl ⊢
  have hl : lv_has ls 3 [(0, .ref (ad 0)), (1, .int p9)] := hl
  obtain ⟨hO, ⟨fb, hfb, hx0⟩, ⟨td, hdr⟩, ⟨tc, nc, hch⟩, ⟨gs, ds, hsk⟩, ⟨m9, k9, a9, hl9⟩, ⟨f1, f2, hpr⟩, ⟨fr1, hr1⟩, ⟨fr2, hr2⟩, ⟨fr3, hr3⟩, ⟨kp, hkp, hst⟩⟩ := id hX
  have hl0 := hl9.1.1
  have hx9 := hx0
  have hn20 := hW.1
  have hU9 := hW.2.2.2.2.1
  have hK : XK G ad S kp fb m9 k9 a9 H := ⟨hO, hfb, hx0, ⟨td, hdr⟩, ⟨tc, nc, hch⟩, ⟨gs, ds, hsk⟩, hl9, ⟨f1, f2, hpr⟩, ⟨fr1, hr1⟩, ⟨fr2, hr2⟩, ⟨fr3, hr3⟩, hkp, hst⟩
  have h8 := hW.2.2.2.2.2.2.1
  refine lv_aload_n hx hb dX4_join_0 rfl (lv_at hl 0 rfl) ?_
  refine lv_iload_n hx hb dX4_join_1 rfl (lv_at hl 1 rfl) ?_
  have hsz := hS.1
  refine x_call (vx_runV (As := [.int p9]) (rest := []) ⟨hx, hb, hml, hown, hts⟩ (c_X4_strategyAt l hfl G ad S kp m9 fb k9 a9 (p9) H hx0 hl9 hW hst) (cwV 1 hts gX4_join_X4_strategyAt rfl rfl rfl (by decide +kernel) ⟨(Nat.le_of_ble_eq_true rfl), (Nat.le_of_ble_eq_true rfl)⟩) (xPreV hC hS hx9 (q := (RX4, TX4, 11)) rfl) rfl rfl hl.1 rfl (lv_room (Nat.le_of_ble_eq_true rfl)) dX4_join_2 ⟨(by first | exact Nat.le_of_ble_eq_true rfl | exact (show 0 + 1 ≤ 8 by omega)), (by first | exact Nat.le_of_ble_eq_true rfl | exact (show 0 + 6 ≤ 60 by omega))⟩) hS (fun _ h => h) (fun E qx9 ce H_1 locs hp hz hk_2 hS hq1 hq2 hq3 => ?_) (fun v H_1 locs hp hz hk_2 hS => ?_)
  · have _ := hx
    obtain ⟨hkf, rfl, hcx⟩ := zx1 hp
    exact x_out (G := G) hout hlocks hq1 hq2 hq3 hS (by first | exact Nat.le_of_ble_eq_true rfl | exact (show 0 + 1 ≤ 8 by omega)) (by first | exact Nat.le_of_ble_eq_true rfl | exact (show 0 + 6 ≤ 60 by omega)) (zx_mk 0 (show kjoin S p9 = 1 from by unfold kjoin; rw [hkf]; rfl) rfl hcx)
  · have _ := hx
    obtain ⟨j9, hj9, rfl, rfl, rfl⟩ := hp
    obtain ⟨ts_3, sls_3, fs_3, hss_3, hps_3, hbs_3, hvs_3, hts_3, hfs_3, hzs_3⟩ := hst j9 (by omega)
    refine lv_astore_n (lv' := [(2, .ref (ad (22 + 6 * j9))), (0, .ref (ad 0)), (1, .int (nI j9))]) hx hb dX4_join_5 rfl hl (by decide) rfl (fun ls hl => ?_)
    refine lv_aload_n hx hb dX4_join_6 rfl (lv_at hl 0 rfl) ?_
    refine va_getN (D := xD G) (ci := 4) (v := .int (xb (zI S j9))) (C := RX3) (T := TX3) (N := 8) hx hb hts (by decide +kernel) hown hC.1 (x1 hss_3) 0 rfl rfl 7 (by decide) (va_Nw.use rfl (hC.2.1 (.fieldLinkNest "Bidwhistle" 129 "Bidwhistle$Strategy" "inPool" "Z" "Bidwhistle") (by decide +kernel))) (fun _ h9 => h9) rfl dX4_join_7 ?_
    refine lv_if_eq (tgt := 23) hx hb dX4_join_10 (by decide) (fun c_4 => ?_) (fun c_4 => ?_)
    · have _ := hx
      have hni : zI S j9 = false := xb_0.mp c_4
      refine lv_aload_n hx hb dX4_join_23 rfl (lv_at hl 0 rfl) ?_
      refine va_getN (D := xD G) (ci := 4) (v := .ref (ad (23 + 6 * j9))) (C := RX3) (T := TX3) (N := 8) hx hb hts (by decide +kernel) hown hC.1 (x1 hss_3) 0 rfl rfl 1 (by decide) (va_Nw.use rfl (hC.2.1 (.fieldLinkNest "Bidwhistle" 135 "Bidwhistle$Strategy" "program" "LBidwhistle$Program;" "Bidwhistle") (by decide +kernel))) (fun _ h9 => h9) rfl dX4_join_24 ?_
      refine lv_aload_n hx hb dX4_join_27 rfl (lv_at hl 1 rfl) ?_
      refine va_get (D := xD G) (ci := 5) (v := .int fb) (C := RX4) (T := TX4) (N := 11) hx hb hts (by decide +kernel) hown hC.1 (x1 hx9) 0 rfl rfl 4 (by decide) (hts (.fieldLink RX4 33 "Bidwhistle" "forbiddenSteps" "I") (by decide +kernel)) (fun _ h9 => h9) rfl dX4_join_28 ?_
      have hbad := zStrat_bad hps_3 hts_3 hfb
      have hpos_3 := hps_3.1
      refine x_intE (vx_runV (As := [.int fb]) (rest := []) ⟨hx, hb, hml, hown, hts⟩ (c_X0_hasAnyOf l hfl G (ad (23 + 6 * j9)) (ad (24 + 6 * j9)) (ad (25 + 6 * j9)) (zL S j9) ts_3 fb H hps_3) (cwV 1 hts gX4_join_X0_hasAnyOf rfl rfl rfl (by decide +kernel) ⟨(Nat.le_of_ble_eq_true rfl), (Nat.le_of_ble_eq_true rfl)⟩) (xPreV hC hS hpos_3 (q := (RX0, TX0, 3)) rfl) rfl rfl hl.1 rfl (lv_room (Nat.le_of_ble_eq_true rfl)) dX4_join_31 ⟨(by first | exact Nat.le_of_ble_eq_true rfl | exact (show 0 + 1 + 0 ≤ 8 by omega)), (by first | exact Nat.le_of_ble_eq_true rfl | exact (show 0 + 6 + 0 ≤ 60 by omega))⟩) hS (fun locs hS => ?_)
      rw [hbad]
      refine lv_if_eq (tgt := 47) hx hb dX4_join_34 (by decide) (fun c_5 => ?_) (fun c_5 => ?_)
      · have _ := hx
        have hnb : zbad S j9 = false := xb_0.mp c_5
        refine lv_aload_n hx hb dX4_join_47 rfl (lv_at hl 1 rfl) ?_
        refine x_intE (vx_runV (As := []) (rest := []) ⟨hx, hb, hml, hown, hts⟩ (c_X4_poolSize l hfl G ad (S) kp m9 fb k9 a9 H hK.x0 hK.l hW hK.st) (cwV 0 hts gX4_join_X4_poolSize rfl rfl rfl (by decide +kernel) ⟨(Nat.le_of_ble_eq_true rfl), (Nat.le_of_ble_eq_true rfl)⟩) (xPreV hC hS hx9 (q := (RX4, TX4, 11)) rfl) rfl rfl hl.1 rfl (lv_room (Nat.le_of_ble_eq_true rfl)) dX4_join_48 ⟨(by first | exact Nat.le_of_ble_eq_true rfl | exact (show 0 + 1 + 0 ≤ 8 by omega)), (by first | exact Nat.le_of_ble_eq_true rfl | exact (show 0 + 6 + 0 ≤ 60 by omega))⟩) hS (fun locs hS => ?_)
        refine lv_bipush (v := (nI 8)) hx hb dX4_join_51 (by decide) ?_
        refine lv_icmp_lt (tgt := 66) hx hb dX4_join_53 (by decide) (fun c_6 => ?_) (fun c_6 => ?_)
        · have _ := hx
          have c_6 : (xct (zI (S)) (zN (S))) < 8 := (nI_ltI (a := (xct (zI (S)) (zN (S)))) (b := 8) (by omega) (by omega)).mp c_6
          refine lv_aload_n hx hb dX4_join_66 rfl (lv_at hl 0 rfl) ?_
          refine lv_iconst (v := (nI 1)) hx hb dX4_join_67 (by decide) ?_
          refine x_putN (G := G) (ci := 4) (v := .int (nI 1)) (ty := .boolean) (C := RX3) (T := TX3) (N := 8) hx hb hts (by decide +kernel) tyX3 tyX3_ok nmX3 hown hC hS (hO.2 (22 + 6 * j9) (by omega) (by omega)) hss_3 rfl 7 (by decide) (hC.2.1 (.fieldLinkNest "Bidwhistle" 129 "Bidwhistle$Strategy" "inPool" "Z" "Bidwhistle") (by decide +kernel)) (fun _ h9 => h9) rfl (by decide +kernel) (by rfl) (by rfl) (Nat.le_of_ble_eq_true rfl) dX4_join_68 (fun H_8 locs hss_3 hc_7 hS => ?_)
          have hss_3 : oA G (ad (22 + 6 * j9)) 4 [.int (nI j9), .ref (ad (23 + 6 * j9)), .int (xpar (zU S j9)), .int (xpar (zV S j9)), .ref (ad (26 + 6 * j9)), .int sls_3, .int (nI (kp j9)), .int (nI 1)] H_8 := hss_3
          have hx9 := hc_7.at hx9 (xn1 (hO.ne (i := 0) (j := (22 + 6 * j9)) (by omega) (by omega) (by omega)))
          have hl0 := hc_7.at hl0 (xn1 (hO.ne (i := 10) (j := (22 + 6 * j9)) (by omega) (by omega) (by omega)))
          have hpos_3 := hc_7.at hpos_3 (xn1 (hO.ne (i := (23 + 6 * j9)) (j := (22 + 6 * j9)) (by omega) (by omega) (by omega)))
          have hK2 : XK G ad (zpool S j9 true) kp fb m9 k9 a9 H_8 := hK.pool hU9 hj9 hc_7 hss_3 hzs_3
          have hW2 : zW (zpool S j9 true) := hW.pool (by rw [xct_up1 hni hj9]; omega)
          refine lv_aload_n hx hb dX4_join_71 rfl (lv_at hl 1 rfl) ?_
          refine x_intE (vx_runV (As := []) (rest := []) ⟨hx, hb, hml, hown, hts⟩ (c_X4_poolSize l hfl G ad (zpool S j9 true) kp m9 fb k9 a9 H_8 hK2.x0 hK2.l hW2 hK2.st) (cwV 0 hts gX4_join_X4_poolSize rfl rfl rfl (by decide +kernel) ⟨(Nat.le_of_ble_eq_true rfl), (Nat.le_of_ble_eq_true rfl)⟩) (xPreV hC hS hx9 (q := (RX4, TX4, 11)) rfl) rfl rfl hl.1 rfl (lv_room (Nat.le_of_ble_eq_true rfl)) dX4_join_72 ⟨(by first | exact Nat.le_of_ble_eq_true rfl | exact (show 0 + 1 + 0 ≤ 8 by omega)), (by first | exact Nat.le_of_ble_eq_true rfl | exact (show 0 + 6 + 0 ≤ 60 by omega))⟩) hS (fun locs hS => ?_)
          exact x_iret (G := G) hx hb hr rfl dX4_join_75 hlocks hS (by first | exact Nat.le_of_ble_eq_true rfl | exact (show 0 + 1 ≤ 8 by omega)) (by first | exact Nat.le_of_ble_eq_true rfl | exact (show 0 + 6 ≤ 60 by omega)) ⟨by rw [kjoin_j hn20 hj9]; exact if_neg (fun z => by rcases z with z | z | z; (rw [hni] at z; cases z); (rw [hnb] at z; cases z); omega), by rw [nI_clamp (show j9 < 2 ^ 31 by omega)] <;> rfl, by rw [nI_clamp (show j9 < 2 ^ 31 by omega)]; exact hK2.xs⟩
        · have _ := hx
          have c_6 : ¬ ((xct (zI (S)) (zN (S))) < 8) := fun z => c_6 ((nI_ltI (a := (xct (zI (S)) (zN (S)))) (b := 8) (by omega) (by omega)).mpr z)
          exact x_throw (G := G) (cls := "java/lang/IllegalStateException") (text := "8 are in the pool") hx hb hfl hts hown (by decide +kernel) (by decide +kernel) (by decide +kernel) (by decide +kernel) (by decide +kernel) tbad_IS tgood_IS hC hS (by rw [hml]; exact hl.1) dX4_join_56 dX4_join_59 dX4_join_60 dX4_join_62 dX4_join_65 hout (Nat.le_of_ble_eq_true rfl) (Nat.le_of_ble_eq_true rfl) (by first | exact Nat.le_of_ble_eq_true rfl | exact (show 0 + 1 + 1 ≤ 8 by omega)) (by first | exact Nat.le_of_ble_eq_true rfl | exact (show 0 + 6 + 6 ≤ 60 by omega)) hlocks (fun H1 hcx => zx_mk 1 (show kjoin S (nI j9) = 2 from by rw [kjoin_j hn20 hj9]; exact if_pos (Or.inr (Or.inr (by omega)))) rfl hcx) (by first | exact Nat.le_of_ble_eq_true rfl | exact (show 0 + 1 + 1 ≤ 8 by omega)) (by first | exact Nat.le_of_ble_eq_true rfl | exact (show 0 + 6 + 6 ≤ 60 by omega))
      · have _ := hx
        have hba : zbad S j9 = true := xb_1 c_5
        exact x_throw (G := G) (cls := "java/lang/IllegalStateException") (text := "it has a forbidden step") hx hb hfl hts hown (by decide +kernel) (by decide +kernel) (by decide +kernel) (by decide +kernel) (by decide +kernel) tbad_IS tgood_IS hC hS (by rw [hml]; exact hl.1) dX4_join_37 dX4_join_40 dX4_join_41 dX4_join_43 dX4_join_46 hout (Nat.le_of_ble_eq_true rfl) (Nat.le_of_ble_eq_true rfl) (by first | exact Nat.le_of_ble_eq_true rfl | exact (show 0 + 1 + 1 ≤ 8 by omega)) (by first | exact Nat.le_of_ble_eq_true rfl | exact (show 0 + 6 + 6 ≤ 60 by omega)) hlocks (fun H1 hcx => zx_mk 1 (show kjoin S (nI j9) = 2 from by rw [kjoin_j hn20 hj9]; exact if_pos (Or.inr (Or.inl hba))) rfl hcx) (by first | exact Nat.le_of_ble_eq_true rfl | exact (show 0 + 1 + 1 ≤ 8 by omega)) (by first | exact Nat.le_of_ble_eq_true rfl | exact (show 0 + 6 + 6 ≤ 60 by omega))
    · have _ := hx
      have hin : zI S j9 = true := xb_1 c_4
      exact x_throw (G := G) (cls := "java/lang/IllegalStateException") (text := "it is in the pool") hx hb hfl hts hown (by decide +kernel) (by decide +kernel) (by decide +kernel) (by decide +kernel) (by decide +kernel) tbad_IS tgood_IS hC hS (by rw [hml]; exact hl.1) dX4_join_13 dX4_join_16 dX4_join_17 dX4_join_19 dX4_join_22 hout (Nat.le_of_ble_eq_true rfl) (Nat.le_of_ble_eq_true rfl) (by first | exact Nat.le_of_ble_eq_true rfl | exact (show 0 + 1 + 1 ≤ 8 by omega)) (by first | exact Nat.le_of_ble_eq_true rfl | exact (show 0 + 6 + 6 ≤ 60 by omega)) hlocks (fun H1 hcx => zx_mk 1 (show kjoin S (nI j9) = 2 from by rw [kjoin_j hn20 hj9]; exact if_pos (Or.inl hin)) rfl hcx) (by first | exact Nat.le_of_ble_eq_true rfl | exact (show 0 + 1 + 1 ≤ 8 by omega)) (by first | exact Nat.le_of_ble_eq_true rfl | exact (show 0 + 6 + 6 ≤ 60 by omega))

set_option maxHeartbeats 4000000 in
set_option maxRecDepth 100000 in
/-- leave(strategy) -/
theorem c_X4_leave (l : Launch) (hfl : l.stackTraces = false) (G : xG) (ad : Nat → Nat) (S : zS) (p9 : Int32) (H : Heap) (hX : XS G ad S H) (hW : zW S) : xMet l G yX4_leave wsX4_leave ({ frames := 7, cells := 8, slots := 60, locals := 111 } : Room) [.ref (ad 0), .int p9] H (fun v H1 => kleave S p9 = 0 ∧ v = some (.int (nI (xct (zI (zpool S p9.toNatClampNeg false)) (zN S)))) ∧ XS G ad (zpool S p9.toNatClampNeg false) H1) (zx [zIO, zIS] (kleave S p9) H) := by
  refine vx_ofW (cc := cX4_leave) (maxL := 3) (ret := (some .int)) (by decide) rfl ?_
  intro Pg Ev s m args below meth c s₁ B hml hout hv
  obtain ⟨rfl, hH, hC⟩ := hv
  have hx := B.exec
  have hb := B.bytes
  have hr := B.returns
  have hts := atoms_spec (ws := wsX4_leave) B.pre
  have hown : s.vm.findClass RX4 = some m.cls := findClass_of_methodNamed B.named
  have hlocks := B.notSynchronized
  rw [hH]
  have hS : va_S (xA G) s.heap H [] := by rw [← hH]; exact va_S.rf
  generalize ([] : List Loc) = locs at hS ⊢
  have hl := lv_entry [.ref (ad 0), .int p9] (n := 3) (Nat.le_of_ble_eq_true rfl)
  rw [lg_entry_eq]
  generalize (lg_sl [.ref (ad 0), .int p9] ++ List.replicate (3 - (lg_sl [.ref (ad 0), .int p9]).length) Slot.unset).toArray = ls at hl ⊢
  have hl : lv_has ls 3 [(0, .ref (ad 0)), (1, .int p9)] := hl
  obtain ⟨hO, ⟨fb, hfb, hx0⟩, ⟨td, hdr⟩, ⟨tc, nc, hch⟩, ⟨gs, ds, hsk⟩, ⟨m9, k9, a9, hl9⟩, ⟨f1, f2, hpr⟩, ⟨fr1, hr1⟩, ⟨fr2, hr2⟩, ⟨fr3, hr3⟩, ⟨kp, hkp, hst⟩⟩ := id hX
  have hl0 := hl9.1.1
  have hx9 := hx0
  have hn20 := hW.1
  have hU9 := hW.2.2.2.2.1
  have hK : XK G ad S kp fb m9 k9 a9 H := ⟨hO, hfb, hx0, ⟨td, hdr⟩, ⟨tc, nc, hch⟩, ⟨gs, ds, hsk⟩, hl9, ⟨f1, f2, hpr⟩, ⟨fr1, hr1⟩, ⟨fr2, hr2⟩, ⟨fr3, hr3⟩, hkp, hst⟩
  have h8 := hW.2.2.2.2.2.2.1
  refine lv_aload_n hx hb dX4_leave_0 rfl (lv_at hl 0 rfl) ?_
  refine lv_iload_n hx hb dX4_leave_1 rfl (lv_at hl 1 rfl) ?_
  have hsz := hS.1
  refine x_call (vx_runV (As := [.int p9]) (rest := []) ⟨hx, hb, hml, hown, hts⟩ (c_X4_strategyAt l hfl G ad S kp m9 fb k9 a9 (p9) H hx0 hl9 hW hst) (cwV 1 hts gX4_leave_X4_strategyAt rfl rfl rfl (by decide +kernel) ⟨(Nat.le_of_ble_eq_true rfl), (Nat.le_of_ble_eq_true rfl)⟩) (xPreV hC hS hx9 (q := (RX4, TX4, 11)) rfl) rfl rfl hl.1 rfl (lv_room (Nat.le_of_ble_eq_true rfl)) dX4_leave_2 ⟨(by first | exact Nat.le_of_ble_eq_true rfl | exact (show 0 + 1 ≤ 8 by omega)), (by first | exact Nat.le_of_ble_eq_true rfl | exact (show 0 + 6 ≤ 60 by omega))⟩) hS (fun _ h => h) (fun E qx9 ce H_1 locs hp hz hk_2 hS hq1 hq2 hq3 => ?_) (fun v H_1 locs hp hz hk_2 hS => ?_)
  · have _ := hx
    obtain ⟨hkf, rfl, hcx⟩ := zx1 hp
    exact x_out (G := G) hout hlocks hq1 hq2 hq3 hS (by first | exact Nat.le_of_ble_eq_true rfl | exact (show 0 + 1 ≤ 8 by omega)) (by first | exact Nat.le_of_ble_eq_true rfl | exact (show 0 + 6 ≤ 60 by omega)) (zx_mk 0 (show kleave S p9 = 1 from by unfold kleave; rw [hkf]; rfl) rfl hcx)
  · have _ := hx
    obtain ⟨j9, hj9, rfl, rfl, rfl⟩ := hp
    obtain ⟨ts_3, sls_3, fs_3, hss_3, hps_3, hbs_3, hvs_3, hts_3, hfs_3, hzs_3⟩ := hst j9 (by omega)
    refine lv_astore_n (lv' := [(2, .ref (ad (22 + 6 * j9))), (0, .ref (ad 0)), (1, .int (nI j9))]) hx hb dX4_leave_5 rfl hl (by decide) rfl (fun ls hl => ?_)
    refine lv_aload_n hx hb dX4_leave_6 rfl (lv_at hl 0 rfl) ?_
    have hsz := hS.1
    refine x_call (vx_runS (As := [.ref (ad (22 + 6 * j9))]) (rest := []) ⟨hx, hb, hml, hown, hts⟩ (c_X4_requireInPool l hfl G (ad (22 + 6 * j9)) (ad (23 + 6 * j9)) (ad (26 + 6 * j9)) (nI j9) (xpar (zU S j9)) (xpar (zV S j9)) sls_3 (nI (kp j9)) (zI S j9) H hss_3) (va_cwS 1 hts gX4_leave_X4_requireInPool rfl rfl rfl (by decide +kernel) ⟨(Nat.le_of_ble_eq_true rfl), (Nat.le_of_ble_eq_true rfl)⟩) (xPreS hC hS) rfl rfl hl.1 rfl (lv_room (Nat.le_of_ble_eq_true rfl)) dX4_leave_7 ⟨(by first | exact Nat.le_of_ble_eq_true rfl | exact (show 0 + 1 + 1 ≤ 8 by omega)), (by first | exact Nat.le_of_ble_eq_true rfl | exact (show 0 + 6 + 6 ≤ 60 by omega))⟩) hS (fun _ h => h) (fun E qx9 ce H_4 locs hp hz hk_5 hS hq1 hq2 hq3 => ?_) (fun v H_4 locs hp hz hk_5 hS => ?_)
    · have _ := hx
      obtain ⟨hkf, rfl, hcx⟩ := zx1 hp
      exact x_out (G := G) hout hlocks hq1 hq2 hq3 hS (by first | exact Nat.le_of_ble_eq_true rfl | exact (show 0 + 1 + 1 ≤ 8 by omega)) (by first | exact Nat.le_of_ble_eq_true rfl | exact (show 0 + 6 + 6 ≤ 60 by omega)) (zx_mk 1 (show kleave S (nI j9) = 2 from by rw [kleave_j hn20 hj9]; exact if_neg (by rw [hkf]; decide)) rfl hcx)
    · have _ := hx
      obtain ⟨hin, rfl, rfl⟩ := hp
      refine lv_aload_n hx hb dX4_leave_10 rfl (lv_at hl 0 rfl) ?_
      refine lv_iconst (v := (nI 0)) hx hb dX4_leave_11 (by decide) ?_
      refine x_putN (G := G) (ci := 4) (v := .int (nI 0)) (ty := .boolean) (C := RX3) (T := TX3) (N := 8) hx hb hts (by decide +kernel) tyX3 tyX3_ok nmX3 hown hC hS (hO.2 (22 + 6 * j9) (by omega) (by omega)) hss_3 rfl 7 (by decide) (hC.2.1 (.fieldLinkNest "Bidwhistle" 129 "Bidwhistle$Strategy" "inPool" "Z" "Bidwhistle") (by decide +kernel)) (fun _ h9 => h9) rfl (by decide +kernel) (by rfl) (by rfl) (Nat.le_of_ble_eq_true rfl) dX4_leave_12 (fun H_7 locs hss_3 hc_6 hS => ?_)
      have hss_3 : oA G (ad (22 + 6 * j9)) 4 [.int (nI j9), .ref (ad (23 + 6 * j9)), .int (xpar (zU S j9)), .int (xpar (zV S j9)), .ref (ad (26 + 6 * j9)), .int sls_3, .int (nI (kp j9)), .int (nI 0)] H_7 := hss_3
      have hx9 := hc_6.at hx9 (xn1 (hO.ne (i := 0) (j := (22 + 6 * j9)) (by omega) (by omega) (by omega)))
      have hl0 := hc_6.at hl0 (xn1 (hO.ne (i := 10) (j := (22 + 6 * j9)) (by omega) (by omega) (by omega)))
      have hK2 : XK G ad (zpool S j9 false) kp fb m9 k9 a9 H_7 := hK.pool hU9 hj9 hc_6 hss_3 hzs_3
      have hW2 : zW (zpool S j9 false) := hW.pool (by have := xct_up0 hin hj9; omega)
      refine lv_aload_n hx hb dX4_leave_15 rfl (lv_at hl 1 rfl) ?_
      refine x_intE (vx_runV (As := []) (rest := []) ⟨hx, hb, hml, hown, hts⟩ (c_X4_poolSize l hfl G ad (zpool S j9 false) kp m9 fb k9 a9 H_7 hK2.x0 hK2.l hW2 hK2.st) (cwV 0 hts gX4_leave_X4_poolSize rfl rfl rfl (by decide +kernel) ⟨(Nat.le_of_ble_eq_true rfl), (Nat.le_of_ble_eq_true rfl)⟩) (xPreV hC hS hx9 (q := (RX4, TX4, 11)) rfl) rfl rfl hl.1 rfl (lv_room (Nat.le_of_ble_eq_true rfl)) dX4_leave_16 ⟨(by first | exact Nat.le_of_ble_eq_true rfl | exact (show 0 + 1 + 1 + 0 ≤ 8 by omega)), (by first | exact Nat.le_of_ble_eq_true rfl | exact (show 0 + 6 + 6 + 0 ≤ 60 by omega))⟩) hS (fun locs hS => ?_)
      exact x_iret (G := G) hx hb hr rfl dX4_leave_19 hlocks hS (by first | exact Nat.le_of_ble_eq_true rfl | exact (show 0 + 1 + 1 ≤ 8 by omega)) (by first | exact Nat.le_of_ble_eq_true rfl | exact (show 0 + 6 + 6 ≤ 60 by omega)) ⟨by rw [kleave_j hn20 hj9]; exact if_pos hin, by rw [nI_clamp (show j9 < 2 ^ 31 by omega)] <;> rfl, by rw [nI_clamp (show j9 < 2 ^ 31 by omega)]; exact hK2.xs⟩

set_option maxHeartbeats 4000000 in
set_option maxRecDepth 100000 in
/-- forbid(step) -/
theorem c_X4_forbid (l : Launch) (hfl : l.stackTraces = false) (G : xG) (ad : Nat → Nat) (S : zS) (p9 : Int32) (H : Heap) (hX : XS G ad S H) (hW : zW S) : xMet l G yX4_forbid wsX4_forbid ({ frames := 7, cells := 8, slots := 60, locals := 110 } : Room) [.ref (ad 0), .int p9] H (fun v H1 => kval S p9 = 0 ∧ v = some (.int (nI (xct (fun j => zI S j && zline S p9.toNatClampNeg (j + 1) j) (zN S)))) ∧ XS G ad (zforb S p9.toNatClampNeg (zN S)) H1) (zx [zIA] (kval S p9) H) := by
  refine vx_ofW (cc := cX4_forbid) (maxL := 5) (ret := (some .int)) (by decide) rfl ?_
  intro Pg Ev s m args below meth c s₁ B hml hout hv
  obtain ⟨rfl, hH, hC⟩ := hv
  have hx := B.exec
  have hb := B.bytes
  have hr := B.returns
  have hts := atoms_spec (ws := wsX4_forbid) B.pre
  have hown : s.vm.findClass RX4 = some m.cls := findClass_of_methodNamed B.named
  have hlocks := B.notSynchronized
  rw [hH]
  have hS : va_S (xA G) s.heap H [] := by rw [← hH]; exact va_S.rf
  generalize ([] : List Loc) = locs at hS ⊢
  have hl := lv_entry [.ref (ad 0), .int p9] (n := 5) (Nat.le_of_ble_eq_true rfl)
  rw [lg_entry_eq]
  generalize (lg_sl [.ref (ad 0), .int p9] ++ List.replicate (5 - (lg_sl [.ref (ad 0), .int p9]).length) Slot.unset).toArray = ls at hl ⊢
  have hl : lv_has ls 5 [(0, .ref (ad 0)), (1, .int p9)] := hl
  obtain ⟨hO, ⟨fb, hfb, hx0⟩, ⟨td, hdr⟩, ⟨tc, nc, hch⟩, ⟨gs, ds, hsk⟩, ⟨m9, k9, a9, hl9⟩, ⟨f1, f2, hpr⟩, ⟨fr1, hr1⟩, ⟨fr2, hr2⟩, ⟨fr3, hr3⟩, ⟨kp, hkp, hst⟩⟩ := id hX
  have hl0 := hl9.1.1
  have hx9 := hx0
  have hn20 := hW.1
  have hU9 := hW.2.2.2.2.1
  refine lv_iload_n hx hb dX4_forbid_0 rfl (lv_at hl 1 rfl) ?_
  have hsz := hS.1
  refine x_call (vx_runS (As := [.int p9]) (rest := []) ⟨hx, hb, hml, hown, hts⟩ (c_X4_requireStep l hfl G (p9) H) (va_cwS 1 hts gX4_forbid_X4_requireStep rfl rfl rfl (by decide +kernel) ⟨(Nat.le_of_ble_eq_true rfl), (Nat.le_of_ble_eq_true rfl)⟩) (xPreS hC hS) rfl rfl hl.1 rfl (lv_room (Nat.le_of_ble_eq_true rfl)) dX4_forbid_1 ⟨(by first | exact Nat.le_of_ble_eq_true rfl | exact (show 0 + 1 ≤ 8 by omega)), (by first | exact Nat.le_of_ble_eq_true rfl | exact (show 0 + 6 ≤ 60 by omega))⟩) hS (fun _ h => h) (fun E qx9 ce H_1 locs hp hz hk_2 hS hq1 hq2 hq3 => ?_) (fun v H_1 locs hp hz hk_2 hS => ?_)
  · have _ := hx
    obtain ⟨hkf, rfl, hcx⟩ := zx1 hp
    exact x_out (G := G) hout hlocks hq1 hq2 hq3 hS (by first | exact Nat.le_of_ble_eq_true rfl | exact (show 0 + 1 ≤ 8 by omega)) (by first | exact Nat.le_of_ble_eq_true rfl | exact (show 0 + 6 ≤ 60 by omega)) (zx_mk 0 (show kval S p9 = 1 from by unfold kval; rw [hkf]; rfl) rfl hcx)
  · have _ := hx
    obtain ⟨hk_j9, rfl, rfl⟩ := hp
    obtain ⟨j9, hj9, rfl⟩ := xok_of hk_j9 (by omega)
    refine lv_aload_n hx hb dX4_forbid_4 rfl (lv_at hl 0 rfl) ?_
    refine lv_aload_n hx hb dX4_forbid_5 rfl (lv_at hl 0 rfl) ?_
    refine va_get (D := xD G) (ci := 5) (v := .int fb) (C := RX4) (T := TX4) (N := 11) hx hb hts (by decide +kernel) hown hC.1 (x1 hx9) 0 rfl rfl 4 (by decide) (hts (.fieldLink RX4 33 "Bidwhistle" "forbiddenSteps" "I") (by decide +kernel)) (fun _ h9 => h9) rfl dX4_forbid_6 ?_
    refine lv_iload_n hx hb dX4_forbid_9 rfl (lv_at hl 1 rfl) ?_
    refine x_intE (vx_runS (As := [.int (nI j9)]) (rest := [.int fb, .ref (ad 0)]) ⟨hx, hb, hml, hown, hts⟩ (c_X4_bitOf l hfl G j9 H) (va_cwS 1 hts gX4_forbid_X4_bitOf rfl rfl rfl (by decide +kernel) ⟨(Nat.le_of_ble_eq_true rfl), (Nat.le_of_ble_eq_true rfl)⟩) (xPreS hC hS) rfl rfl hl.1 rfl (lv_room (Nat.le_of_ble_eq_true rfl)) dX4_forbid_10 ⟨(by first | exact Nat.le_of_ble_eq_true rfl | exact (show 0 + 1 + 0 ≤ 8 by omega)), (by first | exact Nat.le_of_ble_eq_true rfl | exact (show 0 + 6 + 0 ≤ 60 by omega))⟩) hS (fun locs hS => ?_)
    refine lv_ior hx hb dX4_forbid_13 ?_
    refine x_put (G := G) (ci := 5) (v := .int (fb ||| (xbit j9))) (ty := .int) (C := RX4) (T := TX4) (N := 11) hx hb hts (by decide +kernel) tyX4 tyX4_ok nmX4 hown hC hS (hO.2 0 (by omega) (by omega)) hx9 rfl 4 (by decide) (hts (.fieldLink RX4 33 "Bidwhistle" "forbiddenSteps" "I") (by decide +kernel)) (fun _ h9 => h9) rfl (by decide +kernel) rfl rfl (Nat.le_of_ble_eq_true rfl) dX4_forbid_14 (fun H_4 locs hx9 hc_3 hS => ?_)
    have hx9 : oA G (ad 0) 5 [.ref (ad 1), .ref (ad 4), .ref (ad 7), .ref (ad 10), .int (fb ||| (xbit j9)), .ref (ad 12), .ref (ad 14), .int (nI (zK S)), .ref (ad 16), .ref (ad 18), .ref (ad 20)] H_4 := hx9
    have hl0 := hc_3.at hl0 (xn1 (hO.ne (i := 10) (j := 0) (by omega) (by omega) (by omega)))
    refine lv_iconst (v := (nI 0)) hx hb dX4_forbid_17 (by decide) ?_
    refine lv_istore_n (lv' := [(2, .int (nI 0)), (0, .ref (ad 0)), (1, .int (nI j9))]) hx hb dX4_forbid_18 rfl hl (by decide) rfl (fun ls hl => ?_)
    refine lv_iconst (v := (nI 0)) hx hb dX4_forbid_19 (by decide) ?_
    refine lv_istore_n (lv' := [(3, .int (nI 0)), (2, .int (nI 0)), (0, .ref (ad 0)), (1, .int (nI j9))]) hx hb dX4_forbid_20 rfl hl (by decide) rfl (fun ls hl => ?_)
    have _ := hc_3.1
    have hcf_5 : xC [ad 0] H H_4 := (hc_3.mono (fun q hq => by simp only [List.mem_append, List.mem_cons, List.not_mem_nil, or_false, false_or] at hq ⊢; omega))
    obtain ⟨q0, q1, q2, q3, q4, q5, q6, q7⟩ := zkeep (S := S) (ls := [0]) hO hcf_5 (by decide)
    have hKL0 : XK G ad (zforb S j9 0) kp (fb ||| xbit j9) m9 k9 a9 H_4 := by
      rw [zforb_0]
      exact ⟨hO, zbits_rule1 hfb hj9, hx9, ⟨td, q1 _ _ (by decide) hdr⟩, ⟨tc, nc, q2 _ _ (by decide) hch⟩, ⟨gs, ds, q3 _ _ (by decide) hsk⟩, q4 _ _ _ _ (by decide) hl9, ⟨f1, f2, q5 _ _ _ (by decide) hpr⟩, ⟨fr1, q6 16 _ (by decide) (by decide) hr1⟩, ⟨fr2, q6 18 _ (by decide) (by decide) hr2⟩, ⟨fr3, q6 20 _ (by decide) (by decide) hr3⟩, hkp.to (zsEq.rf rfl rfl rfl rfl) rfl, fun i hi => (q7 _ _ i hi (hst i hi)).to (zsEq.rf rfl rfl rfl rfl) hU9 hi rfl⟩
    have L : ∀ (kL : Nat) (i : Nat) (e9 : Nat), (i ≤ zN S) → (e9 = xct (fun j => zI S j && zline S j9 (j + 1) j) i) → zN S - i < kL → ∀ (HL : Heap), (XK G ad (zforb S j9 i) kp (fb ||| xbit j9) m9 k9 a9 HL) → ∀ (locs : List Loc), va_S (xA G) s.heap HL locs → ∀ ls : Array Slot, lv_has ls 5 [(0, .ref (ad 0)), (1, .int (nI j9)), (2, .int (nI e9)), (3, .int (nI i))] → W Pg l Ev (headSpec wsX4_forbid ({ frames := 7, cells := 8, slots := 60, locals := 110 } : Room)).room s m ([.ref (ad 0), .int (nI j9)] : List Value).toArray below meth c HL locs (0 + 1) (0 + 6) (vx_MQ below (xQ G (fun v H1 => kval S (nI j9) = 0 ∧ v = some (.int (nI (xct (fun j => zI S j && zline S (nI j9).toNatClampNeg (j + 1) j) (zN S)))) ∧ XS G ad (zforb S (nI j9).toNatClampNeg (zN S)) H1)) (xX G (zx [zIA] (kval S (nI j9)) H)) ([.ref (ad 0), .int (nI j9)] : List Value).toArray s ({ frames := 7, cells := 8, slots := 60, locals := 110 } : Room).cells ({ frames := 7, cells := 8, slots := 60, locals := 110 } : Room).slots (xA G)) (F0 m 21 ls []) := by
      intro kL
      induction kL with
      | zero => intro i e9 hi he9 hk; exact absurd hk (Nat.not_lt_zero _)
      | succ kL ihL =>
        intro i e9 hi he9 hk HL hKL locs hS ls hl
        have hx0 := hKL.x0
        have hl9 : zList G ad (zN S) m9 k9 a9 HL := hKL.l
        have hl0 := hl9.1.1
        have hst : ∀ j, (j < zN S ∧ i ≤ j) → zStrat G ad S kp j HL := fun j hj => (hKL.st j hj.1).to (zsEq.rf rfl rfl rfl rfl) hU9 hj.1 (by show zI S j = (zI S j && !(decide (j < i) && zline S j9 (j + 1) j)); rw [decide_eq_false (show ¬ j < i by omega)]; simp)
        refine lv_iload_n hx hb dX4_forbid_21 rfl (lv_at hl 3 rfl) ?_
        refine lv_aload_n hx hb dX4_forbid_22 rfl (lv_at hl 0 rfl) ?_
        refine va_get (D := xD G) (ci := 5) (v := .ref (ad 10)) (C := RX4) (T := TX4) (N := 11) hx hb hts (by decide +kernel) hown hC.1 (x1 hx0) 0 rfl rfl 3 (by decide) (hts (.fieldLink RX4 29 "Bidwhistle" "strategies" "Ljava/util/ArrayList;") (by decide +kernel)) (fun _ h9 => h9) rfl dX4_forbid_23 ?_
        refine x_intE (vx_runV (As := []) (rest := [.int (nI i)]) ⟨hx, hb, hml, hown, hts⟩ (c_Jx4a65c_size_8abf5 l hfl G (ad 10) (ad 11) (zN S) m9 HL hl0) (cwV 0 hts gX4_forbid_Jx4a65c_size_8abf5 rfl rfl rfl (by decide +kernel) ⟨(Nat.le_of_ble_eq_true rfl), (Nat.le_of_ble_eq_true rfl)⟩) (xPreV hC hS hl0 (q := (RJx4a65c, TJx4a65c, 3)) rfl) rfl rfl hl.1 rfl (lv_room (Nat.le_of_ble_eq_true rfl)) dX4_forbid_26 ⟨(by first | exact Nat.le_of_ble_eq_true rfl | exact (show 0 + 1 + 0 ≤ 8 by omega)), (by first | exact Nat.le_of_ble_eq_true rfl | exact (show 0 + 6 + 0 ≤ 60 by omega))⟩) hS (fun locs hS => ?_)
        refine lv_icmp_ge (tgt := 81) hx hb dX4_forbid_29 (by decide) (fun c_6 => ?_) (fun c_6 => ?_)
        · have _ := hx
          have c_6 : (zN S) ≤ i := (nI_leI (a := (zN S)) (b := i) (by omega) (by omega)).mp c_6
          refine lv_iload_n hx hb dX4_forbid_81 rfl (lv_at hl 2 rfl) ?_
          exact x_iret (G := G) hx hb hr rfl dX4_forbid_82 hlocks hS (by first | exact Nat.le_of_ble_eq_true rfl | exact (show 0 + 1 ≤ 8 by omega)) (by first | exact Nat.le_of_ble_eq_true rfl | exact (show 0 + 6 ≤ 60 by omega)) ⟨by unfold kval; rw [xok_nI hj9 (by decide)]; rfl, by rw [nI_clamp (show j9 < 2 ^ 31 by omega), he9, show i = zN S by omega] <;> rfl, by rw [nI_clamp (show j9 < 2 ^ 31 by omega)]; have h9 := hKL.xs; rw [show i = zN S by omega] at h9; exact h9⟩
        · have _ := hx
          have c_6 : ¬ ((zN S) ≤ i) := fun z => c_6 ((nI_leI (a := (zN S)) (b := i) (by omega) (by omega)).mpr z)
          refine lv_aload_n hx hb dX4_forbid_32 rfl (lv_at hl 0 rfl) ?_
          refine va_get (D := xD G) (ci := 5) (v := .ref (ad 10)) (C := RX4) (T := TX4) (N := 11) hx hb hts (by decide +kernel) hown hC.1 (x1 hx0) 0 rfl rfl 3 (by decide) (hts (.fieldLink RX4 29 "Bidwhistle" "strategies" "Ljava/util/ArrayList;") (by decide +kernel)) (fun _ h9 => h9) rfl dX4_forbid_33 ?_
          refine lv_iload_n hx hb dX4_forbid_36 rfl (lv_at hl 3 rfl) ?_
          have hq := lA.q hl9.1 (show i < zN S by omega)
          refine x_refE (vx_runV (As := [.int (nI i)]) (rest := []) ⟨hx, hb, hml, hown, hts⟩ (c_Jx4a65c_get_915e3 l hfl G (ad 10) (ad 11) (zN S) k9 i (ad (22 + 6 * i)) m9 a9 HL hl0 hq.1 (by omega) hq.2.1 hq.2.2 (hl9.2 i (by omega))) (cwV 1 hts gX4_forbid_Jx4a65c_get_915e3 rfl rfl rfl (by decide +kernel) ⟨(Nat.le_of_ble_eq_true rfl), (Nat.le_of_ble_eq_true rfl)⟩) (xPreV hC hS hl0 (q := (RJx4a65c, TJx4a65c, 3)) rfl) rfl rfl hl.1 rfl (lv_room (Nat.le_of_ble_eq_true rfl)) dX4_forbid_37 ⟨(by first | exact Nat.le_of_ble_eq_true rfl | exact (show 0 + 1 + 0 ≤ 8 by omega)), (by first | exact Nat.le_of_ble_eq_true rfl | exact (show 0 + 6 + 0 ≤ 60 by omega))⟩) hS (fun locs hS => ?_)
          obtain ⟨ts_7, sls_7, fs_7, hss_7, hps_7, hbs_7, hvs_7, hts_7, hfs_7, hzs_7⟩ := hst i (by omega)
          refine va_castY (C := "Bidwhistle$Strategy") hx hb hown (hts (.classLink RX4 111 "Bidwhistle$Strategy") (by decide +kernel)) (hC.2.1 _ (by decide +kernel)) (va_recv hC.1 (x1 hss_7) (q0 := 0) (ci := 4) (q := (RX3, TX3, 8)) rfl rfl) dX4_forbid_40 ?_
          refine lv_astore (lv' := [(4, .ref (ad (22 + 6 * i))), (0, .ref (ad 0)), (1, .int (nI j9)), (2, .int (nI e9)), (3, .int (nI i))]) hx hb dX4_forbid_43 hl (by decide) rfl (fun ls hl => ?_)
          refine lv_aload hx hb dX4_forbid_45 (lv_at hl 0 rfl) ?_
          refine va_getN (D := xD G) (ci := 4) (v := .int (xb (zI S i))) (C := RX3) (T := TX3) (N := 8) hx hb hts (by decide +kernel) hown hC.1 (x1 hss_7) 0 rfl rfl 7 (by decide) (va_Nw.use rfl (hC.2.1 (.fieldLinkNest "Bidwhistle" 129 "Bidwhistle$Strategy" "inPool" "Z" "Bidwhistle") (by decide +kernel))) (fun _ h9 => h9) rfl dX4_forbid_47 ?_
          refine lv_if_eq (tgt := 75) hx hb dX4_forbid_50 (by decide) (fun c_8 => ?_) (fun c_8 => ?_)
          · have _ := hx
            have hni : zI S i = false := xb_0.mp c_8
            refine lv_iinc (v := (nI (i + 1))) (lv' := [(3, .int (nI (i + 1))), (4, .ref (ad (22 + 6 * i))), (0, .ref (ad 0)), (1, .int (nI j9)), (2, .int (nI e9))]) hx hb dX4_forbid_75 hl (k := 4) rfl (xinc (by decide)) (by decide) rfl (fun ls hl => ?_)
            refine lv_goto (tgt := 21) hx hb dX4_forbid_78 (by decide) ?_
            exact ihL (i + 1) (e9) (by omega) (by rw [he9]; exact (xct_d0 (p := fun j => zI S j && zline S j9 (j + 1) j) (fun z => by have z : (zI S i && zline S j9 (i + 1) i) = true := z; rcases (Or.inl hni : zI S i = false ∨ zline S j9 (i + 1) i = false) with h9 | h9 <;> (rw [h9] at z; simp at z))).symm) (by omega) HL (zforb_no (S := S) (s := j9) (i := i) (Or.inl hni) ▸ hKL) _ hS ls (lv_sub hl [2, 3, 4, 0] rfl)
          · have _ := hx
            have hin : zI S i = true := xb_1 c_8
            refine lv_aload hx hb dX4_forbid_53 (lv_at hl 0 rfl) ?_
            refine va_getN (D := xD G) (ci := 4) (v := .int sls_7) (C := RX3) (T := TX3) (N := 8) hx hb hts (by decide +kernel) hown hC.1 (x1 hss_7) 0 rfl rfl 5 (by decide) (va_Nw.use rfl (hC.2.1 (.fieldLinkNest "Bidwhistle" 156 "Bidwhistle$Strategy" "stepsOfLine" "I" "Bidwhistle") (by decide +kernel))) (fun _ h9 => h9) rfl dX4_forbid_55 ?_
            refine lv_iload_n hx hb dX4_forbid_58 rfl (lv_at hl 2 rfl) ?_
            refine x_intE (vx_runS (As := [.int (nI j9)]) (rest := [.int sls_7]) ⟨hx, hb, hml, hown, hts⟩ (c_X4_bitOf l hfl G j9 HL) (va_cwS 1 hts gX4_forbid_X4_bitOf rfl rfl rfl (by decide +kernel) ⟨(Nat.le_of_ble_eq_true rfl), (Nat.le_of_ble_eq_true rfl)⟩) (xPreS hC hS) rfl rfl hl.1 rfl (lv_room (Nat.le_of_ble_eq_true rfl)) dX4_forbid_59 ⟨(by first | exact Nat.le_of_ble_eq_true rfl | exact (show 0 + 1 + 0 ≤ 8 by omega)), (by first | exact Nat.le_of_ble_eq_true rfl | exact (show 0 + 6 + 0 ≤ 60 by omega))⟩) hS (fun locs hS => ?_)
            refine lv_iand hx hb dX4_forbid_62 ?_
            refine lv_if_eq (tgt := 75) hx hb dX4_forbid_63 (by decide) (fun c_9 => ?_) (fun c_9 => ?_)
            · have _ := hx
              have hnl : zline S j9 (i + 1) i = false := (zbits_one hzs_7 hj9).mp c_9
              refine lv_iinc (v := (nI (i + 1))) (lv' := [(3, .int (nI (i + 1))), (4, .ref (ad (22 + 6 * i))), (0, .ref (ad 0)), (1, .int (nI j9)), (2, .int (nI e9))]) hx hb dX4_forbid_75 hl (k := 4) rfl (xinc (by decide)) (by decide) rfl (fun ls hl => ?_)
              refine lv_goto (tgt := 21) hx hb dX4_forbid_78 (by decide) ?_
              exact ihL (i + 1) (e9) (by omega) (by rw [he9]; exact (xct_d0 (p := fun j => zI S j && zline S j9 (j + 1) j) (fun z => by have z : (zI S i && zline S j9 (i + 1) i) = true := z; rcases (Or.inr hnl : zI S i = false ∨ zline S j9 (i + 1) i = false) with h9 | h9 <;> (rw [h9] at z; simp at z))).symm) (by omega) HL (zforb_no (S := S) (s := j9) (i := i) (Or.inr hnl) ▸ hKL) _ hS ls (lv_sub hl [2, 3, 4, 0] rfl)
            · have _ := hx
              have hlin : zline S j9 (i + 1) i = true := by cases h9 : zline S j9 (i + 1) i; exact absurd ((zbits_one hzs_7 hj9).mpr h9) c_9; rfl
              refine lv_aload hx hb dX4_forbid_66 (lv_at hl 0 rfl) ?_
              refine lv_iconst (v := (nI 0)) hx hb dX4_forbid_68 (by decide) ?_
              refine x_putN (G := G) (ci := 4) (v := .int (nI 0)) (ty := .boolean) (C := RX3) (T := TX3) (N := 8) hx hb hts (by decide +kernel) tyX3 tyX3_ok nmX3 hown hC hS (hO.2 (22 + 6 * i) (by omega) (by omega)) hss_7 rfl 7 (by decide) (hC.2.1 (.fieldLinkNest "Bidwhistle" 129 "Bidwhistle$Strategy" "inPool" "Z" "Bidwhistle") (by decide +kernel)) (fun _ h9 => h9) rfl (by decide +kernel) (by rfl) (by rfl) (Nat.le_of_ble_eq_true rfl) dX4_forbid_69 (fun H_11 locs hss_7 hc_10 hS => ?_)
              have hss_7 : oA G (ad (22 + 6 * i)) 4 [.int (nI i), .ref (ad (23 + 6 * i)), .int (xpar (zU S i)), .int (xpar (zV S i)), .ref (ad (26 + 6 * i)), .int sls_7, .int (nI (kp i)), .int (nI 0)] H_11 := hss_7
              have hx0 := hc_10.at hx0 (xn1 (hO.ne (i := 0) (j := (22 + 6 * i)) (by omega) (by omega) (by omega)))
              have hl0 := hc_10.at hl0 (xn1 (hO.ne (i := 10) (j := (22 + 6 * i)) (by omega) (by omega) (by omega)))
              have hKL2 : XK G ad (zpool (zforb S j9 i) i false) kp (fb ||| xbit j9) m9 k9 a9 H_11 := hKL.pool hU9 (show i < zN S by omega) hc_10 hss_7 (fun q => by rw [hzs_7 q]; show (decide (q < 17) && zline S q (i + 1) i) = (decide (q < 17) && zline (zforb S j9 i) q (i + 1) i); rw [zline_cong (S := S) (n := zN S) (S2 := zforb S j9 i) (zsEq.rf rfl rfl rfl rfl) hU9 _ _ (by omega)])
              refine lv_iinc (v := (nI (e9 + 1))) (lv' := [(2, .int (nI (e9 + 1))), (4, .ref (ad (22 + 6 * i))), (0, .ref (ad 0)), (1, .int (nI j9)), (3, .int (nI i))]) hx hb dX4_forbid_72 hl (k := 3) rfl (xinc (by decide)) (by decide) rfl (fun ls hl => ?_)
              refine lv_iinc (v := (nI (i + 1))) (lv' := [(3, .int (nI (i + 1))), (2, .int (nI (e9 + 1))), (4, .ref (ad (22 + 6 * i))), (0, .ref (ad 0)), (1, .int (nI j9))]) hx hb dX4_forbid_75 hl (k := 4) rfl (xinc (by decide)) (by decide) rfl (fun ls hl => ?_)
              refine lv_goto (tgt := 21) hx hb dX4_forbid_78 (by decide) ?_
              exact ihL (i + 1) ((e9 + 1)) (by omega) (by rw [he9]; exact (xct_d1 (p := fun j => zI S j && zline S j9 (j + 1) j) (by show (zI S i && zline S j9 (i + 1) i) = true; rw [hin, hlin]; rfl)).symm) (by omega) H_11 (zforb_yes (S := S) (s := j9) (i := i) hlin ▸ hKL2) _ hS ls (lv_sub hl [3, 4, 1, 0] rfl)
    exact L _ (0) (0) (Nat.zero_le _) (rfl) (Nat.lt_succ_self _) H_4 hKL0 _ hS ls (lv_sub hl [2, 3, 1, 0] rfl)

set_option maxHeartbeats 4000000 in
set_option maxRecDepth 100000 in
/-- profit(auction, strategy, other, value, others) -/
theorem c_X4_profit (l : Launch) (hfl : l.stackTraces = false) (G : xG) (ad : Nat → Nat) (S : zS) (u9 p9 q9 v9 w9 : Int32) (H : Heap) (hX : XS G ad S H) (hW : zW S) : xMet l G yX4_profit wsX4_profit ({ frames := 7, cells := 8, slots := 60, locals := 111 } : Room) [.ref (ad 0), .int u9, .int p9, .int q9, .int v9, .int w9] H (fun v H1 => kprofit S u9 p9 q9 v9 w9 = 0 ∧ v = some (.int (Int32.ofInt (zprof S u9.toNatClampNeg p9.toNatClampNeg q9.toNatClampNeg v9.toNatClampNeg w9.toNatClampNeg))) ∧ XS G ad S H1) (zx [zIO, zIA] (kprofit S u9 p9 q9 v9 w9) H) := by
  refine vx_ofW (cc := cX4_profit) (maxL := 8) (ret := (some .int)) (by decide) rfl ?_
  intro Pg Ev s m args below meth c s₁ B hml hout hv
  obtain ⟨rfl, hH, hC⟩ := hv
  have hx := B.exec
  have hb := B.bytes
  have hr := B.returns
  have hts := atoms_spec (ws := wsX4_profit) B.pre
  have hown : s.vm.findClass RX4 = some m.cls := findClass_of_methodNamed B.named
  have hlocks := B.notSynchronized
  rw [hH]
  have hS : va_S (xA G) s.heap H [] := by rw [← hH]; exact va_S.rf
  generalize ([] : List Loc) = locs at hS ⊢
  have hl := lv_entry [.ref (ad 0), .int u9, .int p9, .int q9, .int v9, .int w9] (n := 8) (Nat.le_of_ble_eq_true rfl)
  rw [lg_entry_eq]
  generalize (lg_sl [.ref (ad 0), .int u9, .int p9, .int q9, .int v9, .int w9] ++ List.replicate (8 - (lg_sl [.ref (ad 0), .int u9, .int p9, .int q9, .int v9, .int w9]).length) Slot.unset).toArray = ls at hl ⊢
  have hl : lv_has ls 8 [(0, .ref (ad 0)), (1, .int u9), (2, .int p9), (3, .int q9), (4, .int v9), (5, .int w9)] := hl
  obtain ⟨hO, ⟨fb, hfb, hx0⟩, ⟨td, hdr⟩, ⟨tc, nc, hch⟩, ⟨gs, ds, hsk⟩, ⟨m9, k9, a9, hl9⟩, ⟨f1, f2, hpr⟩, ⟨fr1, hr1⟩, ⟨fr2, hr2⟩, ⟨fr3, hr3⟩, ⟨kp, hkp, hst⟩⟩ := id hX
  have hl0 := hl9.1.1
  have hx9 := hx0
  have hn20 := hW.1
  have hU9 := hW.2.2.2.2.1
  refine lv_aload_n hx hb dX4_profit_0 rfl (lv_at hl 0 rfl) ?_
  refine lv_iload_n hx hb dX4_profit_1 rfl (lv_at hl 2 rfl) ?_
  have hsz := hS.1
  refine x_call (vx_runV (As := [.int p9]) (rest := []) ⟨hx, hb, hml, hown, hts⟩ (c_X4_strategyAt l hfl G ad S kp m9 fb k9 a9 (p9) H hx0 hl9 hW hst) (cwV 1 hts gX4_profit_X4_strategyAt rfl rfl rfl (by decide +kernel) ⟨(Nat.le_of_ble_eq_true rfl), (Nat.le_of_ble_eq_true rfl)⟩) (xPreV hC hS hx9 (q := (RX4, TX4, 11)) rfl) rfl rfl hl.1 rfl (lv_room (Nat.le_of_ble_eq_true rfl)) dX4_profit_2 ⟨(by first | exact Nat.le_of_ble_eq_true rfl | exact (show 0 + 1 ≤ 8 by omega)), (by first | exact Nat.le_of_ble_eq_true rfl | exact (show 0 + 6 ≤ 60 by omega))⟩) hS (fun _ h => h) (fun E qx9 ce H_1 locs hp hz hk_2 hS hq1 hq2 hq3 => ?_) (fun v H_1 locs hp hz hk_2 hS => ?_)
  · have _ := hx
    obtain ⟨hkf, rfl, hcx⟩ := zx1 hp
    exact x_out (G := G) hout hlocks hq1 hq2 hq3 hS (by first | exact Nat.le_of_ble_eq_true rfl | exact (show 0 + 1 ≤ 8 by omega)) (by first | exact Nat.le_of_ble_eq_true rfl | exact (show 0 + 6 ≤ 60 by omega)) (zx_mk 0 (show kprofit S u9 p9 q9 v9 w9 = 1 from by unfold kprofit; rw [if_neg (fun z => by rw [hkf] at z; cases z.1)]) rfl hcx)
  · have _ := hx
    obtain ⟨i9, hi9, rfl, rfl, rfl⟩ := hp
    obtain ⟨ts_3, sls_3, fs_3, hss_3, hps_3, hbs_3, hvs_3, hts_3, hfs_3, hzs_3⟩ := hst i9 (by omega)
    refine lv_astore (lv' := [(6, .ref (ad (22 + 6 * i9))), (0, .ref (ad 0)), (1, .int u9), (2, .int (nI i9)), (3, .int q9), (4, .int v9), (5, .int w9)]) hx hb dX4_profit_5 hl (by decide) rfl (fun ls hl => ?_)
    refine lv_aload_n hx hb dX4_profit_7 rfl (lv_at hl 1 rfl) ?_
    refine lv_iload_n hx hb dX4_profit_8 rfl (lv_at hl 4 rfl) ?_
    have hsz := hS.1
    refine x_call (vx_runV (As := [.int q9]) (rest := []) ⟨hx, hb, hml, hown, hts⟩ (c_X4_strategyAt l hfl G ad S kp m9 fb k9 a9 (q9) H hx0 hl9 hW hst) (cwV 1 hts gX4_profit_X4_strategyAt rfl rfl rfl (by decide +kernel) ⟨(Nat.le_of_ble_eq_true rfl), (Nat.le_of_ble_eq_true rfl)⟩) (xPreV hC hS hx9 (q := (RX4, TX4, 11)) rfl) rfl rfl hl.1 rfl (lv_room (Nat.le_of_ble_eq_true rfl)) dX4_profit_9 ⟨(by first | exact Nat.le_of_ble_eq_true rfl | exact (show 0 + 1 + 1 ≤ 8 by omega)), (by first | exact Nat.le_of_ble_eq_true rfl | exact (show 0 + 6 + 6 ≤ 60 by omega))⟩) hS (fun _ h => h) (fun E qx9 ce H_4 locs hp hz hk_5 hS hq1 hq2 hq3 => ?_) (fun v H_4 locs hp hz hk_5 hS => ?_)
    · have _ := hx
      obtain ⟨hkf, rfl, hcx⟩ := zx1 hp
      exact x_out (G := G) hout hlocks hq1 hq2 hq3 hS (by first | exact Nat.le_of_ble_eq_true rfl | exact (show 0 + 1 + 1 ≤ 8 by omega)) (by first | exact Nat.le_of_ble_eq_true rfl | exact (show 0 + 6 + 6 ≤ 60 by omega)) (zx_mk 0 (show kprofit S u9 (nI i9) q9 v9 w9 = 1 from by unfold kprofit; rw [if_neg (fun z => by rw [hkf] at z; cases z.2)]) rfl hcx)
    · have _ := hx
      obtain ⟨j9, hj9, rfl, rfl, rfl⟩ := hp
      obtain ⟨ts_6, sls_6, fs_6, hss_6, hps_6, hbs_6, hvs_6, hts_6, hfs_6, hzs_6⟩ := hst j9 (by omega)
      refine lv_astore (lv' := [(7, .ref (ad (22 + 6 * j9))), (6, .ref (ad (22 + 6 * i9))), (0, .ref (ad 0)), (1, .int u9), (2, .int (nI i9)), (3, .int (nI j9)), (4, .int v9), (5, .int w9)]) hx hb dX4_profit_12 hl (by decide) rfl (fun ls hl => ?_)
      refine lv_iload_n hx hb dX4_profit_14 rfl (lv_at hl 4 rfl) ?_
      refine lv_iload_n hx hb dX4_profit_15 rfl (lv_at hl 5 rfl) ?_
      refine lv_icmp_ne (tgt := 29) hx hb dX4_profit_16 (by decide) (fun c_7 => ?_) (fun c_7 => ?_)
      · have _ := hx
        have c_7 : ¬ (i9 = j9) := fun z => c_7 ((nI_eq (a := i9) (b := j9) (by omega) (by omega)).mpr z)
        have hne9 : i9 ≠ j9 := c_7
        refine lv_iload_n hx hb dX4_profit_29 rfl (lv_at hl 3 rfl) ?_
        have hsz := hS.1
        refine x_call (vx_runS (As := [.int u9]) (rest := []) ⟨hx, hb, hml, hown, hts⟩ (c_X4_requireAuction l hfl G (u9) H) (va_cwS 1 hts gX4_profit_X4_requireAuction rfl rfl rfl (by decide +kernel) ⟨(Nat.le_of_ble_eq_true rfl), (Nat.le_of_ble_eq_true rfl)⟩) (xPreS hC hS) rfl rfl hl.1 rfl (lv_room (Nat.le_of_ble_eq_true rfl)) dX4_profit_30 ⟨(by first | exact Nat.le_of_ble_eq_true rfl | exact (show 0 + 1 + 1 + 1 ≤ 8 by omega)), (by first | exact Nat.le_of_ble_eq_true rfl | exact (show 0 + 6 + 6 + 6 ≤ 60 by omega))⟩) hS (fun _ h => h) (fun E qx9 ce H_8 locs hp hz hk_9 hS hq1 hq2 hq3 => ?_) (fun v H_8 locs hp hz hk_9 hS => ?_)
        · have _ := hx
          obtain ⟨hkf, rfl, hcx⟩ := zx1 hp
          exact x_out (G := G) hout hlocks hq1 hq2 hq3 hS (by first | exact Nat.le_of_ble_eq_true rfl | exact (show 0 + 1 + 1 + 1 ≤ 8 by omega)) (by first | exact Nat.le_of_ble_eq_true rfl | exact (show 0 + 6 + 6 + 6 ≤ 60 by omega)) (zx_mk 1 (show kprofit S u9 (nI i9) (nI j9) v9 w9 = 2 from by rw [kprofit_j hn20 hi9 hj9]; exact if_neg (fun z => by rw [hkf] at z; cases z.2.1)) rfl hcx)
        · have _ := hx
          obtain ⟨hk_n9, rfl, rfl⟩ := hp
          obtain ⟨n9, hn9, rfl⟩ := xok_of hk_n9 (by omega)
          refine lv_iload hx hb dX4_profit_33 (lv_at hl 6 rfl) ?_
          have hsz := hS.1
          refine x_call (vx_runS (As := [.int v9]) (rest := []) ⟨hx, hb, hml, hown, hts⟩ (c_X4_requireValue l hfl G (v9) H) (va_cwS 1 hts gX4_profit_X4_requireValue rfl rfl rfl (by decide +kernel) ⟨(Nat.le_of_ble_eq_true rfl), (Nat.le_of_ble_eq_true rfl)⟩) (xPreS hC hS) rfl rfl hl.1 rfl (lv_room (Nat.le_of_ble_eq_true rfl)) dX4_profit_35 ⟨(by first | exact Nat.le_of_ble_eq_true rfl | exact (show 0 + 1 + 1 + 1 + 1 ≤ 8 by omega)), (by first | exact Nat.le_of_ble_eq_true rfl | exact (show 0 + 6 + 6 + 6 + 6 ≤ 60 by omega))⟩) hS (fun _ h => h) (fun E qx9 ce H_10 locs hp hz hk_11 hS hq1 hq2 hq3 => ?_) (fun v H_10 locs hp hz hk_11 hS => ?_)
          · have _ := hx
            obtain ⟨hkf, rfl, hcx⟩ := zx1 hp
            exact x_out (G := G) hout hlocks hq1 hq2 hq3 hS (by first | exact Nat.le_of_ble_eq_true rfl | exact (show 0 + 1 + 1 + 1 + 1 ≤ 8 by omega)) (by first | exact Nat.le_of_ble_eq_true rfl | exact (show 0 + 6 + 6 + 6 + 6 ≤ 60 by omega)) (zx_mk 1 (show kprofit S (nI n9) (nI i9) (nI j9) v9 w9 = 2 from by rw [kprofit_j hn20 hi9 hj9]; exact if_neg (fun z => by rw [hkf] at z; cases z.2.2.1)) rfl hcx)
          · have _ := hx
            obtain ⟨hk_o9, rfl, rfl⟩ := hp
            obtain ⟨o9, ho9, rfl⟩ := xok_of hk_o9 (by omega)
            refine lv_iload hx hb dX4_profit_38 (lv_at hl 7 rfl) ?_
            have hsz := hS.1
            refine x_call (vx_runS (As := [.int w9]) (rest := []) ⟨hx, hb, hml, hown, hts⟩ (c_X4_requireValue l hfl G (w9) H) (va_cwS 1 hts gX4_profit_X4_requireValue rfl rfl rfl (by decide +kernel) ⟨(Nat.le_of_ble_eq_true rfl), (Nat.le_of_ble_eq_true rfl)⟩) (xPreS hC hS) rfl rfl hl.1 rfl (lv_room (Nat.le_of_ble_eq_true rfl)) dX4_profit_40 ⟨(by first | exact Nat.le_of_ble_eq_true rfl | exact (show 0 + 1 + 1 + 1 + 1 + 1 ≤ 8 by omega)), (by first | exact Nat.le_of_ble_eq_true rfl | exact (show 0 + 6 + 6 + 6 + 6 + 6 ≤ 60 by omega))⟩) hS (fun _ h => h) (fun E qx9 ce H_12 locs hp hz hk_13 hS hq1 hq2 hq3 => ?_) (fun v H_12 locs hp hz hk_13 hS => ?_)
            · have _ := hx
              obtain ⟨hkf, rfl, hcx⟩ := zx1 hp
              exact x_out (G := G) hout hlocks hq1 hq2 hq3 hS (by first | exact Nat.le_of_ble_eq_true rfl | exact (show 0 + 1 + 1 + 1 + 1 + 1 ≤ 8 by omega)) (by first | exact Nat.le_of_ble_eq_true rfl | exact (show 0 + 6 + 6 + 6 + 6 + 6 ≤ 60 by omega)) (zx_mk 1 (show kprofit S (nI n9) (nI i9) (nI j9) (nI o9) w9 = 2 from by rw [kprofit_j hn20 hi9 hj9]; exact if_neg (fun z => by rw [hkf] at z; cases z.2.2.2)) rfl hcx)
            · have _ := hx
              obtain ⟨hk_r9, rfl, rfl⟩ := hp
              obtain ⟨r9, hr9, rfl⟩ := xok_of hk_r9 (by omega)
              refine lv_iload_n hx hb dX4_profit_43 rfl (lv_at hl 3 rfl) ?_
              refine lv_aload hx hb dX4_profit_44 (lv_at hl 1 rfl) ?_
              refine lv_aload hx hb dX4_profit_46 (lv_at hl 0 rfl) ?_
              refine lv_iload hx hb dX4_profit_48 (lv_at hl 6 rfl) ?_
              refine lv_iload hx hb dX4_profit_50 (lv_at hl 7 rfl) ?_
              refine x_intE (vx_runS (As := [.int (nI n9), .ref (ad (22 + 6 * i9)), .ref (ad (22 + 6 * j9)), .int (nI o9), .int (nI r9)]) (rest := []) ⟨hx, hb, hml, hown, hts⟩ (c_X4_profitAgainst l hfl G ad S kp n9 i9 j9 o9 r9 H hW hst hn9 hi9 hj9 ho9 hr9) (va_cwS 5 hts gX4_profit_X4_profitAgainst rfl rfl rfl (by decide +kernel) ⟨(Nat.le_of_ble_eq_true rfl), (Nat.le_of_ble_eq_true rfl)⟩) (xPreS hC hS) rfl rfl hl.1 rfl (lv_room (Nat.le_of_ble_eq_true rfl)) dX4_profit_52 ⟨(by first | exact Nat.le_of_ble_eq_true rfl | exact (show 0 + 1 + 1 + 1 + 1 + 1 + 0 ≤ 8 by omega)), (by first | exact Nat.le_of_ble_eq_true rfl | exact (show 0 + 6 + 6 + 6 + 6 + 6 + 0 ≤ 60 by omega))⟩) hS (fun locs hS => ?_)
              exact x_iret (G := G) hx hb hr rfl dX4_profit_55 hlocks hS (by first | exact Nat.le_of_ble_eq_true rfl | exact (show 0 + 1 + 1 + 1 + 1 + 1 ≤ 8 by omega)) (by first | exact Nat.le_of_ble_eq_true rfl | exact (show 0 + 6 + 6 + 6 + 6 + 6 ≤ 60 by omega)) ⟨by rw [kprofit_j hn20 hi9 hj9]; exact if_pos ⟨fun z => hne9 ((nI_eq (by omega) (by omega)).mp z), xok_nI hn9 (by decide), xok_nI ho9 (by decide), xok_nI hr9 (by decide)⟩, by rw [nI_clamp (show n9 < 2 ^ 31 by omega), nI_clamp (show i9 < 2 ^ 31 by omega), nI_clamp (show j9 < 2 ^ 31 by omega), nI_clamp (show o9 < 2 ^ 31 by omega), nI_clamp (show r9 < 2 ^ 31 by omega)], hX⟩
      · have _ := hx
        have c_7 : i9 = j9 := (nI_eq (a := i9) (b := j9) (by omega) (by omega)).mp c_7
        exact x_throw (G := G) (cls := "java/lang/IllegalArgumentException") (text := "both are the same") hx hb hfl hts hown (by decide +kernel) (by decide +kernel) (by decide +kernel) (by decide +kernel) (by decide +kernel) tbad_IA tgood_IA hC hS (by rw [hml]; exact hl.1) dX4_profit_19 dX4_profit_22 dX4_profit_23 dX4_profit_25 dX4_profit_28 hout (Nat.le_of_ble_eq_true rfl) (Nat.le_of_ble_eq_true rfl) (by first | exact Nat.le_of_ble_eq_true rfl | exact (show 0 + 1 + 1 + 1 ≤ 8 by omega)) (by first | exact Nat.le_of_ble_eq_true rfl | exact (show 0 + 6 + 6 + 6 ≤ 60 by omega)) hlocks (fun H1 hcx => zx_mk 1 (show kprofit S u9 (nI i9) (nI j9) v9 w9 = 2 from by rw [kprofit_j hn20 hi9 hj9]; exact if_neg (fun z => z.1 (by rw [c_7]))) rfl hcx) (by first | exact Nat.le_of_ble_eq_true rfl | exact (show 0 + 1 + 1 + 1 ≤ 8 by omega)) (by first | exact Nat.le_of_ble_eq_true rfl | exact (show 0 + 6 + 6 + 6 ≤ 60 by omega))

set_option maxHeartbeats 4000000 in
set_option maxRecDepth 100000 in
/-- worth(auction, strategy) -/
theorem c_X4_worth (l : Launch) (hfl : l.stackTraces = false) (G : xG) (ad : Nat → Nat) (S : zS) (u9 p9 : Int32) (H : Heap) (hX : XS G ad S H) (hW : zW S) : xMet l G yX4_worth wsX4_worth ({ frames := 7, cells := 8, slots := 60, locals := 125 } : Room) [.ref (ad 0), .int u9, .int p9] H (fun v H1 => kworth S u9 p9 = 0 ∧ v = some (.int (Int32.ofInt (zworth S u9.toNatClampNeg p9.toNatClampNeg))) ∧ XS G ad S H1) (zx [zIO, zIA, zIS] (kworth S u9 p9) H) := by
  refine vx_ofW (cc := cX4_worth) (maxL := 4) (ret := (some .int)) (by decide) rfl ?_
  intro Pg Ev s m args below meth c s₁ B hml hout hv
  obtain ⟨rfl, hH, hC⟩ := hv
  have hx := B.exec
  have hb := B.bytes
  have hr := B.returns
  have hts := atoms_spec (ws := wsX4_worth) B.pre
  have hown : s.vm.findClass RX4 = some m.cls := findClass_of_methodNamed B.named
  have hlocks := B.notSynchronized
  rw [hH]
  have hS : va_S (xA G) s.heap H [] := by rw [← hH]; exact va_S.rf
  generalize ([] : List Loc) = locs at hS ⊢
  have hl := lv_entry [.ref (ad 0), .int u9, .int p9] (n := 4) (Nat.le_of_ble_eq_true rfl)
  rw [lg_entry_eq]
  generalize (lg_sl [.ref (ad 0), .int u9, .int p9] ++ List.replicate (4 - (lg_sl [.ref (ad 0), .int u9, .int p9]).length) Slot.unset).toArray = ls at hl ⊢
  have hl : lv_has ls 4 [(0, .ref (ad 0)), (1, .int u9), (2, .int p9)] := hl
  obtain ⟨hO, ⟨fb, hfb, hx0⟩, ⟨td, hdr⟩, ⟨tc, nc, hch⟩, ⟨gs, ds, hsk⟩, ⟨m9, k9, a9, hl9⟩, ⟨f1, f2, hpr⟩, ⟨fr1, hr1⟩, ⟨fr2, hr2⟩, ⟨fr3, hr3⟩, ⟨kp, hkp, hst⟩⟩ := id hX
  have hl0 := hl9.1.1
  have hx9 := hx0
  have hn20 := hW.1
  have hU9 := hW.2.2.2.2.1
  refine lv_aload_n hx hb dX4_worth_0 rfl (lv_at hl 0 rfl) ?_
  refine lv_iload_n hx hb dX4_worth_1 rfl (lv_at hl 2 rfl) ?_
  have hsz := hS.1
  refine x_call (vx_runV (As := [.int p9]) (rest := []) ⟨hx, hb, hml, hown, hts⟩ (c_X4_strategyAt l hfl G ad S kp m9 fb k9 a9 (p9) H hx0 hl9 hW hst) (cwV 1 hts gX4_worth_X4_strategyAt rfl rfl rfl (by decide +kernel) ⟨(Nat.le_of_ble_eq_true rfl), (Nat.le_of_ble_eq_true rfl)⟩) (xPreV hC hS hx9 (q := (RX4, TX4, 11)) rfl) rfl rfl hl.1 rfl (lv_room (Nat.le_of_ble_eq_true rfl)) dX4_worth_2 ⟨(by first | exact Nat.le_of_ble_eq_true rfl | exact (show 0 + 1 ≤ 8 by omega)), (by first | exact Nat.le_of_ble_eq_true rfl | exact (show 0 + 6 ≤ 60 by omega))⟩) hS (fun _ h => h) (fun E qx9 ce H_1 locs hp hz hk_2 hS hq1 hq2 hq3 => ?_) (fun v H_1 locs hp hz hk_2 hS => ?_)
  · have _ := hx
    obtain ⟨hkf, rfl, hcx⟩ := zx1 hp
    exact x_out (G := G) hout hlocks hq1 hq2 hq3 hS (by first | exact Nat.le_of_ble_eq_true rfl | exact (show 0 + 1 ≤ 8 by omega)) (by first | exact Nat.le_of_ble_eq_true rfl | exact (show 0 + 6 ≤ 60 by omega)) (zx_mk 0 (show kworth S u9 p9 = 1 from by unfold kworth; rw [hkf]; rfl) rfl hcx)
  · have _ := hx
    obtain ⟨i9, hi9, rfl, rfl, rfl⟩ := hp
    obtain ⟨ts_3, sls_3, fs_3, hss_3, hps_3, hbs_3, hvs_3, hts_3, hfs_3, hzs_3⟩ := hst i9 (by omega)
    refine lv_astore_n (lv' := [(3, .ref (ad (22 + 6 * i9))), (0, .ref (ad 0)), (1, .int u9), (2, .int (nI i9))]) hx hb dX4_worth_5 rfl hl (by decide) rfl (fun ls hl => ?_)
    refine lv_iload_n hx hb dX4_worth_6 rfl (lv_at hl 2 rfl) ?_
    have hsz := hS.1
    refine x_call (vx_runS (As := [.int u9]) (rest := []) ⟨hx, hb, hml, hown, hts⟩ (c_X4_requireAuction l hfl G (u9) H) (va_cwS 1 hts gX4_worth_X4_requireAuction rfl rfl rfl (by decide +kernel) ⟨(Nat.le_of_ble_eq_true rfl), (Nat.le_of_ble_eq_true rfl)⟩) (xPreS hC hS) rfl rfl hl.1 rfl (lv_room (Nat.le_of_ble_eq_true rfl)) dX4_worth_7 ⟨(by first | exact Nat.le_of_ble_eq_true rfl | exact (show 0 + 1 + 1 ≤ 8 by omega)), (by first | exact Nat.le_of_ble_eq_true rfl | exact (show 0 + 6 + 6 ≤ 60 by omega))⟩) hS (fun _ h => h) (fun E qx9 ce H_4 locs hp hz hk_5 hS hq1 hq2 hq3 => ?_) (fun v H_4 locs hp hz hk_5 hS => ?_)
    · have _ := hx
      obtain ⟨hkf, rfl, hcx⟩ := zx1 hp
      exact x_out (G := G) hout hlocks hq1 hq2 hq3 hS (by first | exact Nat.le_of_ble_eq_true rfl | exact (show 0 + 1 + 1 ≤ 8 by omega)) (by first | exact Nat.le_of_ble_eq_true rfl | exact (show 0 + 6 + 6 ≤ 60 by omega)) (zx_mk 1 (show kworth S u9 (nI i9) = 2 from by rw [kworth_j hn20 hi9, hkf]; rfl) rfl hcx)
    · have _ := hx
      obtain ⟨hk_n9, rfl, rfl⟩ := hp
      obtain ⟨n9, hn9, rfl⟩ := xok_of hk_n9 (by omega)
      refine lv_aload_n hx hb dX4_worth_10 rfl (lv_at hl 0 rfl) ?_
      have hsz := hS.1
      refine x_call (vx_runS (As := [.ref (ad (22 + 6 * i9))]) (rest := []) ⟨hx, hb, hml, hown, hts⟩ (c_X4_requireInPool l hfl G (ad (22 + 6 * i9)) (ad (23 + 6 * i9)) (ad (26 + 6 * i9)) (nI i9) (xpar (zU S i9)) (xpar (zV S i9)) sls_3 (nI (kp i9)) (zI S i9) H hss_3) (va_cwS 1 hts gX4_worth_X4_requireInPool rfl rfl rfl (by decide +kernel) ⟨(Nat.le_of_ble_eq_true rfl), (Nat.le_of_ble_eq_true rfl)⟩) (xPreS hC hS) rfl rfl hl.1 rfl (lv_room (Nat.le_of_ble_eq_true rfl)) dX4_worth_11 ⟨(by first | exact Nat.le_of_ble_eq_true rfl | exact (show 0 + 1 + 1 + 1 ≤ 8 by omega)), (by first | exact Nat.le_of_ble_eq_true rfl | exact (show 0 + 6 + 6 + 6 ≤ 60 by omega))⟩) hS (fun _ h => h) (fun E qx9 ce H_6 locs hp hz hk_7 hS hq1 hq2 hq3 => ?_) (fun v H_6 locs hp hz hk_7 hS => ?_)
      · have _ := hx
        obtain ⟨hkf, rfl, hcx⟩ := zx1 hp
        exact x_out (G := G) hout hlocks hq1 hq2 hq3 hS (by first | exact Nat.le_of_ble_eq_true rfl | exact (show 0 + 1 + 1 + 1 ≤ 8 by omega)) (by first | exact Nat.le_of_ble_eq_true rfl | exact (show 0 + 6 + 6 + 6 ≤ 60 by omega)) (zx_mk 2 (show kworth S (nI n9) (nI i9) = 3 from by rw [kworth_j hn20 hi9, hkf, xok_nI hn9 (by decide)]; rfl) rfl hcx)
      · have _ := hx
        obtain ⟨hin, rfl, rfl⟩ := hp
        refine lv_aload_n hx hb dX4_worth_14 rfl (lv_at hl 1 rfl) ?_
        refine lv_iload_n hx hb dX4_worth_15 rfl (lv_at hl 2 rfl) ?_
        refine lv_aload_n hx hb dX4_worth_16 rfl (lv_at hl 0 rfl) ?_
        refine x_intE (vx_runV (As := [.int (nI n9), .ref (ad (22 + 6 * i9))]) (rest := []) ⟨hx, hb, hml, hown, hts⟩ (c_X4_worthByStrategies l hfl G ad S kp m9 fb k9 a9 n9 i9 f1 f2 H hx0 hl9 hW hst hn9 hi9 hpr) (cwV 2 hts gX4_worth_X4_worthByStrategies rfl rfl rfl (by decide +kernel) ⟨(Nat.le_of_ble_eq_true rfl), (Nat.le_of_ble_eq_true rfl)⟩) (xPreV hC hS hx9 (q := (RX4, TX4, 11)) rfl) rfl rfl hl.1 rfl (lv_room (Nat.le_of_ble_eq_true rfl)) dX4_worth_17 ⟨(by first | exact Nat.le_of_ble_eq_true rfl | exact (show 0 + 1 + 1 + 1 + 0 ≤ 8 by omega)), (by first | exact Nat.le_of_ble_eq_true rfl | exact (show 0 + 6 + 6 + 6 + 0 ≤ 60 by omega))⟩) hS (fun locs hS => ?_)
        exact x_iret (G := G) hx hb hr rfl dX4_worth_20 hlocks hS (by first | exact Nat.le_of_ble_eq_true rfl | exact (show 0 + 1 + 1 + 1 ≤ 8 by omega)) (by first | exact Nat.le_of_ble_eq_true rfl | exact (show 0 + 6 + 6 + 6 ≤ 60 by omega)) ⟨by rw [kworth_j hn20 hi9, hin, xok_nI hn9 (by decide)]; rfl, by rw [nI_clamp (show n9 < 2 ^ 31 by omega), nI_clamp (show i9 < 2 ^ 31 by omega)], hX⟩

set_option maxHeartbeats 4000000 in
set_option maxRecDepth 100000 in
/-- best(auction) -/
theorem c_X4_best (l : Launch) (hfl : l.stackTraces = false) (G : xG) (ad : Nat → Nat) (S : zS) (u9 : Int32) (H : Heap) (hX : XS G ad S H) (hW : zW S) : xMet l G yX4_best wsX4_best ({ frames := 7, cells := 8, slots := 60, locals := 148 } : Room) [.ref (ad 0), .int u9] H (fun v H1 => kbest S u9 = 0 ∧ v = some (.int (xpar (zmost (zI S) (zworth S u9.toNatClampNeg) 0 (zN S)))) ∧ XS G ad S H1) (zx [zIA] (kbest S u9) H) := by
  refine vx_ofW (cc := cX4_best) (maxL := 2) (ret := (some .int)) (by decide) rfl ?_
  intro Pg Ev s m args below meth c s₁ B hml hout hv
  obtain ⟨rfl, hH, hC⟩ := hv
  have hx := B.exec
  have hb := B.bytes
  have hr := B.returns
  have hts := atoms_spec (ws := wsX4_best) B.pre
  have hown : s.vm.findClass RX4 = some m.cls := findClass_of_methodNamed B.named
  have hlocks := B.notSynchronized
  rw [hH]
  have hS : va_S (xA G) s.heap H [] := by rw [← hH]; exact va_S.rf
  generalize ([] : List Loc) = locs at hS ⊢
  have hl := lv_entry [.ref (ad 0), .int u9] (n := 2) (Nat.le_of_ble_eq_true rfl)
  rw [lg_entry_eq]
  generalize (lg_sl [.ref (ad 0), .int u9] ++ List.replicate (2 - (lg_sl [.ref (ad 0), .int u9]).length) Slot.unset).toArray = ls at hl ⊢
  have hl : lv_has ls 2 [(0, .ref (ad 0)), (1, .int u9)] := hl
  obtain ⟨hO, ⟨fb, hfb, hx0⟩, ⟨td, hdr⟩, ⟨tc, nc, hch⟩, ⟨gs, ds, hsk⟩, ⟨m9, k9, a9, hl9⟩, ⟨f1, f2, hpr⟩, ⟨fr1, hr1⟩, ⟨fr2, hr2⟩, ⟨fr3, hr3⟩, ⟨kp, hkp, hst⟩⟩ := id hX
  have hl0 := hl9.1.1
  have hx9 := hx0
  have hn20 := hW.1
  have hU9 := hW.2.2.2.2.1
  refine lv_iload_n hx hb dX4_best_0 rfl (lv_at hl 1 rfl) ?_
  have hsz := hS.1
  refine x_call (vx_runS (As := [.int u9]) (rest := []) ⟨hx, hb, hml, hown, hts⟩ (c_X4_requireAuction l hfl G (u9) H) (va_cwS 1 hts gX4_best_X4_requireAuction rfl rfl rfl (by decide +kernel) ⟨(Nat.le_of_ble_eq_true rfl), (Nat.le_of_ble_eq_true rfl)⟩) (xPreS hC hS) rfl rfl hl.1 rfl (lv_room (Nat.le_of_ble_eq_true rfl)) dX4_best_1 ⟨(by first | exact Nat.le_of_ble_eq_true rfl | exact (show 0 + 1 ≤ 8 by omega)), (by first | exact Nat.le_of_ble_eq_true rfl | exact (show 0 + 6 ≤ 60 by omega))⟩) hS (fun _ h => h) (fun E qx9 ce H_1 locs hp hz hk_2 hS hq1 hq2 hq3 => ?_) (fun v H_1 locs hp hz hk_2 hS => ?_)
  · have _ := hx
    obtain ⟨hkf, rfl, hcx⟩ := zx1 hp
    exact x_out (G := G) hout hlocks hq1 hq2 hq3 hS (by first | exact Nat.le_of_ble_eq_true rfl | exact (show 0 + 1 ≤ 8 by omega)) (by first | exact Nat.le_of_ble_eq_true rfl | exact (show 0 + 6 ≤ 60 by omega)) (zx_mk 0 (show kbest S u9 = 1 from by unfold kbest; rw [hkf]; rfl) rfl hcx)
  · have _ := hx
    obtain ⟨hk_n9, rfl, rfl⟩ := hp
    obtain ⟨n9, hn9, rfl⟩ := xok_of hk_n9 (by omega)
    refine lv_aload_n hx hb dX4_best_4 rfl (lv_at hl 0 rfl) ?_
    refine lv_iload_n hx hb dX4_best_5 rfl (lv_at hl 1 rfl) ?_
    have hsz := hS.1
    refine x_call (px := xNo) (vx_runV (As := [.int (nI n9)]) (rest := []) ⟨hx, hb, hml, hown, hts⟩ (c_X4_layWorths l hfl G ad S kp m9 fb k9 a9 n9 fr3 f1 f2 H hx0 hl9 hW hst hO hn9 hpr hr3) (cwV 1 hts gX4_best_X4_layWorths rfl rfl rfl (by decide +kernel) ⟨(Nat.le_of_ble_eq_true rfl), (Nat.le_of_ble_eq_true rfl)⟩) (xPreV hC hS hx9 (q := (RX4, TX4, 11)) rfl) rfl rfl hl.1 rfl (lv_room (Nat.le_of_ble_eq_true rfl)) dX4_best_6 ⟨(by first | exact Nat.le_of_ble_eq_true rfl | exact (show 0 + 1 + 0 ≤ 8 by omega)), (by first | exact Nat.le_of_ble_eq_true rfl | exact (show 0 + 6 + 0 ≤ 60 by omega))⟩) hS (fun _ h => h) (fun _ _ _ _ _ h => False.elim h) (fun v H_3 locs hp hz hk_4 hS => ?_)
    obtain ⟨rfl, f'5, hrw5, hff5, hc5⟩ := hp
    have hx9 := hc5.at hx9 (xn1 (hO.ne (i := 0) (j := 21) (by omega) (by omega) (by omega)))
    have hl0 := hc5.at hl0 (xn1 (hO.ne (i := 10) (j := 21) (by omega) (by omega) (by omega)))
    obtain ⟨q0, q1, q2, q3, q4, q5, q6, q7⟩ := zkeep (S := S) (ls := [21]) hO hc5 (by decide)
    have hx05 := q0 _ _ (by decide) hx0
    have hl95 := q4 _ _ _ _ (by decide) hl9
    have hst5 := fun i hi => q7 _ _ i hi (hst i hi)
    refine lv_aload_n hx hb dX4_best_9 rfl (lv_at hl 0 rfl) ?_
    refine lv_iconst (v := xpar 0) hx hb dX4_best_10 (by decide) ?_
    refine x_intE (vx_runV (As := [.int (xpar 0)]) (rest := []) ⟨hx, hb, hml, hown, hts⟩ (c_X4_strongestBut l hfl G ad S kp m9 fb k9 a9 0 (zworth S n9) f'5 H_3 hx05 hl95 hW hst5 hrw5 (fun j => by have := zworth_in hW n9 j; omega) hff5 (by omega)) (cwV 1 hts gX4_best_X4_strongestBut rfl rfl rfl (by decide +kernel) ⟨(Nat.le_of_ble_eq_true rfl), (Nat.le_of_ble_eq_true rfl)⟩) (xPreV hC hS hx9 (q := (RX4, TX4, 11)) rfl) rfl rfl hl.1 rfl (lv_room (Nat.le_of_ble_eq_true rfl)) dX4_best_11 ⟨(by first | exact Nat.le_of_ble_eq_true rfl | exact (show 0 + 1 + 0 ≤ 8 by omega)), (by first | exact Nat.le_of_ble_eq_true rfl | exact (show 0 + 6 + 0 ≤ 60 by omega))⟩) hS (fun locs hS => ?_)
    obtain ⟨q0, q1, q2, q3, q4, q5, q6, q7⟩ := zkeep (S := S) (ls := [21]) hO hc5 (by decide)
    exact x_iret (G := G) hx hb hr rfl dX4_best_14 hlocks hS (by first | exact Nat.le_of_ble_eq_true rfl | exact (show 0 + 1 ≤ 8 by omega)) (by first | exact Nat.le_of_ble_eq_true rfl | exact (show 0 + 6 ≤ 60 by omega)) ⟨by unfold kbest; rw [xok_nI hn9 (by decide)]; rfl, by rw [nI_clamp (show n9 < 2 ^ 31 by omega)], ⟨hO, ⟨fb, hfb, q0 _ _ (by decide) hx0⟩, ⟨td, q1 _ _ (by decide) hdr⟩, ⟨tc, nc, q2 _ _ (by decide) hch⟩, ⟨gs, ds, q3 _ _ (by decide) hsk⟩, ⟨m9, k9, a9, q4 _ _ _ _ (by decide) hl9⟩, ⟨f1, f2, q5 _ _ _ (by decide) hpr⟩, ⟨fr1, q6 16 _ (by decide) (by decide) hr1⟩, ⟨fr2, q6 18 _ (by decide) (by decide) hr2⟩, ⟨f'5, hrw5⟩, ⟨kp, hkp, fun i hi => q7 _ _ i hi (hst i hi)⟩⟩⟩
