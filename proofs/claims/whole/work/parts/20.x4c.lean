/-! the class's calls: which exception (0: none), the answer, the state behind -/
def zset (S : zS) (n : Nat) (t : Nat → Nat) : zS := (zN S, va_up (zL S) 20 n, va_up (zP S) 20 t, S.2.2.2)
def zpool (S : zS) (i : Nat) (b : Bool) : zS := (S.1, S.2.1, S.2.2.1, S.2.2.2.1, S.2.2.2.2.1, va_up (zI S) i b, S.2.2.2.2.2.2)
def zrule (S : zS) (s : Nat) (b : Bool) : zS := (S.1, S.2.1, S.2.2.1, S.2.2.2.1, S.2.2.2.2.1, S.2.2.2.2.2.1, va_up (zF S) s b, S.2.2.2.2.2.2.2)
def ztell (S : zS) (v w : Nat) : zS := (S.1, S.2.1, S.2.2.1, S.2.2.2.1, S.2.2.2.2.1, S.2.2.2.2.2.1, S.2.2.2.2.2.2.1, zK S + 1, va_up (zO S) (zK S) v, va_up (zT S) (zK S) w)
def zforget (S : zS) : zS := (S.1, S.2.1, S.2.2.1, S.2.2.2.1, S.2.2.2.2.1, S.2.2.2.2.2.1, S.2.2.2.2.2.2.1, 0, S.2.2.2.2.2.2.2.2)
def kstep (S : zS) (p : Int32) : Nat := if xok p 17 = true then (if zL S 20 = 7 then 2 else 0) else 1
def kstrat (S : zS) (p : Int32) : Nat := if xok p (zN S) = true then 0 else 1
def kbid (S : zS) (p q : Int32) : Nat := if xok p (zN S) = true then (if xok q 100 = true then 0 else 2) else 1
def kjoin (S : zS) (p : Int32) : Nat := if xok p (zN S) = true then (if zI S p.toNatClampNeg = true ∨ zbad S p.toNatClampNeg = true ∨ xct (zI S) (zN S) = 8 then 2 else 0) else 1
def kleave (S : zS) (p : Int32) : Nat := if xok p (zN S) = true then (if zI S p.toNatClampNeg = true then 0 else 2) else 1
def kval (S : zS) (p : Int32) : Nat := if xok p 17 = true then 0 else 1
def ktell (S : zS) (p q : Int32) : Nat := if xok p 100 = true ∧ xok q 100 = true then (if zK S = 6 then 2 else 0) else 1
def kprofit (S : zS) (u p q v w : Int32) : Nat := if xok p (zN S) = true ∧ xok q (zN S) = true then (if p ≠ q ∧ xok u 4 = true ∧ xok v 100 = true ∧ xok w 100 = true then 0 else 2) else 1
def kworth (S : zS) (u p : Int32) : Nat := if xok p (zN S) = true then (if xok u 4 = true then (if zI S p.toNatClampNeg = true then 0 else 3) else 2) else 1
def kbest (S : zS) (u : Int32) : Nat := if xok u 4 = true then 0 else 1
def kevolve (S : zS) (u : Int32) : Nat := if xok u 4 = true then (if xct (zI S) (zN S) < 3 ∨ zN S = 20 then 2 else 0) else 1
theorem zkeep {G : xG} {ad : Nat → Nat} {S : zS} {H H1 : Heap} {ls : List Nat} (hO : zown G ad (22 + 6 * zN S)) (hc : xC (ls.map ad) H H1) (hls : ls.all (fun j => decide (j < 22)) = true) :
    (∀ fb np, 0 ∉ ls → xB G ad fb np H → xB G ad fb np H1) ∧ (∀ (S' : zS) t, (1 ∉ ls ∧ 2 ∉ ls ∧ 3 ∉ ls) → zDraft G ad S' t H → zDraft G ad S' t H1) ∧ (∀ t n, (4 ∉ ls ∧ 5 ∉ ls ∧ 6 ∉ ls) → pA G (ad 4) (ad 5) (ad 6) t n H → pA G (ad 4) (ad 5) (ad 6) t n H1) ∧ (∀ g d, (7 ∉ ls ∧ 8 ∉ ls ∧ 9 ∉ ls) → sA G (ad 7) (ad 8) (ad 9) g d H → sA G (ad 7) (ad 8) (ad 9) g d H1) ∧
    (∀ n m k a, (10 ∉ ls ∧ 11 ∉ ls) → zList G ad n m k a H → zList G ad n m k a H1) ∧ (∀ (S' : zS) f1 f2, (12 ∉ ls ∧ 13 ∉ ls ∧ 14 ∉ ls ∧ 15 ∉ ls) → zPairs G ad S' f1 f2 H → zPairs G ad S' f1 f2 H1) ∧ (∀ i f, i + 1 < 22 → (i ∉ ls ∧ i + 1 ∉ ls) → zRow G ad i f H → zRow G ad i f H1) ∧ ∀ (S' : zS) kp i, i < zN S → zStrat G ad S' kp i H → zStrat G ad S' kp i H1 := by
  have hl : ∀ j ∈ ls, j < 22 := fun j hj => by simpa using List.all_eq_true.mp hls j hj
  have hl2 : ∀ j ∈ ls, j < 22 + 6 * zN S := fun j hj => by have := hl j hj; omega
  refine ⟨fun fb np h h2 => h2.kept hO hc (by omega) hl2 h, fun S' t h h2 => h2.kept hO hc (by omega) hl2 h, fun t n h h2 => h2.kept hc (hO.nl (by omega) hl2 h.1) (hO.nl (by omega) hl2 h.2.1) (hO.nl (by omega) hl2 h.2.2), fun g d h h2 => h2.kept hc (hO.nl (by omega) hl2 h.1) (hO.nl (by omega) hl2 h.2.1) (hO.nl (by omega) hl2 h.2.2),
    fun n m k a h h2 => h2.kept hO hc (by omega) hl2 h, fun S' f1 f2 h h2 => h2.kept hO hc (by omega) hl2 (fun i h3 h4 => by rcases (show i = 12 ∨ i = 13 ∨ i = 14 ∨ i = 15 by omega) with rfl | rfl | rfl | rfl; exact h.1; exact h.2.1; exact h.2.2.1; exact h.2.2.2), fun i f h h2 h3 => h3.kept hO hc (by omega) hl2 h2, fun S' kp i hi h => h.kept hO hc (by omega) hl2 (fun j hj z => by have := hl _ z; omega)⟩
/-- strategies are the same in two states -/
def zsEq (S S2 : zS) (n : Nat) : Prop := ∀ j, j < n → zP S2 j = zP S j ∧ zL S2 j = zL S j ∧ zU S2 j = zU S j ∧ zV S2 j = zV S j
theorem zline_cong {S S2 : zS} {n s : Nat} (h : zsEq S S2 n) (hU : ∀ i, i < n → zU S i ≤ i ∧ zV S i ≤ i) : ∀ f i, i < n → zline S2 s f i = zline S s f i
  | 0, i, _ => rfl
  | f + 1, i, hi => by
    obtain ⟨h1, h2, h3, h4⟩ := h i hi
    obtain ⟨a1, a2⟩ := hU i hi
    unfold zline
    rw [h1, h2, h3, h4]
    congr 1
    congr 1
    · by_cases c : zU S i = 0
      · simp [c]
      · rw [zline_cong h hU f _ (by omega)]
    · by_cases c : zV S i = 0
      · simp [c]
      · rw [zline_cong h hU f _ (by omega)]
theorem zStrat.to {G : xG} {ad : Nat → Nat} {S S2 : zS} {kp : Nat → Nat} {n i : Nat} {H : Heap} (h : zStrat G ad S kp i H) (he : zsEq S S2 n) (hU : ∀ i, i < n → zU S i ≤ i ∧ zV S i ≤ i) (hi : i < n) (hI : zI S2 i = zI S i) : zStrat G ad S2 kp i H := by
  obtain ⟨t, sl, f, h1, h2, h3, h4, h5, h6, h7⟩ := h
  obtain ⟨e1, e2, e3, e4⟩ := he i hi
  refine ⟨t, sl, f, by rw [e3, e4, hI]; exact h1, by rw [e2]; exact h2, h3, h4, by rw [e1, e2]; exact h5, by rw [e1, e2]; exact h6, fun j => by rw [h7 j]; show (decide (j < 17) && zline S j (i + 1) i) = (decide (j < 17) && zline S2 j (i + 1) i); rw [zline_cong he hU _ _ hi]⟩
theorem zKinds.to {S S2 : zS} {kp : Nat → Nat} (h : zKinds S kp) (he : zsEq S S2 (zN S)) (hn : zN S2 = zN S) : zKinds S2 kp := by
  refine ⟨fun i hi => h.1 i (by omega), fun i j hi hj => ?_⟩
  rw [hn] at hi hj
  rw [h.2 i j hi hj]
  unfold zalike
  rw [(he i hi).1, (he i hi).2.1, (he j hj).1, (he j hj).2.1]
theorem zsEq.rf {S S2 : zS} {n : Nat} (h1 : zP S2 = zP S) (h2 : zL S2 = zL S) (h3 : zU S2 = zU S) (h4 : zV S2 = zV S) : zsEq S S2 n := fun j _ => ⟨by rw [h1], by rw [h2], by rw [h3], by rw [h4]⟩
theorem zset_L {S : zS} {n : Nat} {t : Nat → Nat} : zL (zset S n t) 20 = n := by show va_up (zL S) 20 n 20 = n; exact va_up_self ..
theorem zset_P {S : zS} {n : Nat} {t : Nat → Nat} : zP (zset S n t) 20 = t := by show va_up (zP S) 20 t 20 = t; exact va_up_self ..
theorem zsEq_set {S : zS} {m : Nat} {t : Nat → Nat} (hn : zN S ≤ 20) : zsEq S (zset S m t) (zN S) := fun j hj => ⟨va_up_ne _ _ (by omega), va_up_ne _ _ (by omega), rfl, rfl⟩
set_option maxHeartbeats 4000000 in
set_option maxRecDepth 100000 in
/-- stored() -/
theorem c_X4_stored (l : Launch) (hfl : l.stackTraces = false) (G : xG) (ad : Nat → Nat) (S : zS) (H : Heap) (hX : XS G ad S H) (hW : zW S) : xMet l G yX4_stored wsX4_stored ({ frames := 1, cells := 0, slots := 0, locals := 20 } : Room) [.ref (ad 0)] H (fun v H1 => v = some (.int (nI (zN S))) ∧ XS G ad S H1) (xNo) := by
  refine vx_ofW (cc := cX4_stored) (maxL := 1) (ret := (some .int)) (by decide) rfl ?_
  intro Pg Ev s m args below meth c s₁ B hml hout hv
  obtain ⟨rfl, hH, hC⟩ := hv
  have hx := B.exec
  have hb := B.bytes
  have hr := B.returns
  have hts := atoms_spec (ws := wsX4_stored) B.pre
  have hown : s.vm.findClass RX4 = some m.cls := findClass_of_methodNamed B.named
  have hlocks := B.notSynchronized
  rw [hH]
  have hS : va_S (xA G) s.heap H [] := by rw [← hH]; exact va_S.rf
  generalize ([] : List Loc) = locs at hS ⊢
  have hl := lv_entry [.ref (ad 0)] (n := 1) (Nat.le_of_ble_eq_true rfl)
  rw [lg_entry_eq]
  generalize (lg_sl [.ref (ad 0)] ++ List.replicate (1 - (lg_sl [.ref (ad 0)]).length) Slot.unset).toArray = ls at hl ⊢
  have hl : lv_has ls 1 [(0, .ref (ad 0))] := hl
  obtain ⟨hO, ⟨fb, hfb, hx0⟩, ⟨td, hdr⟩, ⟨tc, nc, hch⟩, ⟨gs, ds, hsk⟩, ⟨m9, k9, a9, hl9⟩, ⟨f1, f2, hpr⟩, ⟨fr1, hr1⟩, ⟨fr2, hr2⟩, ⟨fr3, hr3⟩, ⟨kp, hkp, hst⟩⟩ := id hX
  have hl0 := hl9.1.1
  have hx9 := hx0
  have hn20 := hW.1
  have hU9 := hW.2.2.2.2.1
  refine lv_aload_n hx hb dX4_stored_0 rfl (lv_at hl 0 rfl) ?_
  refine va_get (D := xD G) (ci := 5) (v := .ref (ad 10)) (C := RX4) (T := TX4) (N := 11) hx hb hts (by decide +kernel) hown hC.1 (x1 hx9) 0 rfl rfl 3 (by decide) (hts (.fieldLink RX4 29 "Bidwhistle" "strategies" "Ljava/util/ArrayList;") (by decide +kernel)) (fun _ h9 => h9) rfl dX4_stored_1 ?_
  refine x_intE (vx_runV (As := []) (rest := []) ⟨hx, hb, hml, hown, hts⟩ (c_Jx4a65c_size_8abf5 l hfl G (ad 10) (ad 11) (zN S) m9 H hl0) (cwV 0 hts gX4_stored_Jx4a65c_size_8abf5 rfl rfl rfl (by decide +kernel) ⟨(Nat.le_of_ble_eq_true rfl), (Nat.le_of_ble_eq_true rfl)⟩) (xPreV hC hS hl0 (q := (RJx4a65c, TJx4a65c, 3)) rfl) rfl rfl hl.1 rfl (lv_room (Nat.le_of_ble_eq_true rfl)) dX4_stored_4 ⟨(by first | exact Nat.le_of_ble_eq_true rfl | exact (show 0 + 0 ≤ 0 by omega)), (by first | exact Nat.le_of_ble_eq_true rfl | exact (show 0 + 0 ≤ 0 by omega))⟩) hS (fun locs hS => ?_)
  exact x_iret (G := G) hx hb hr rfl dX4_stored_7 hlocks hS (by first | exact Nat.le_of_ble_eq_true rfl | exact (show 0 ≤ 0 by omega)) (by first | exact Nat.le_of_ble_eq_true rfl | exact (show 0 ≤ 0 by omega)) ⟨rfl, hX⟩

set_option maxHeartbeats 4000000 in
set_option maxRecDepth 100000 in
/-- bid(strategy, value) -/
theorem c_X4_bid (l : Launch) (hfl : l.stackTraces = false) (G : xG) (ad : Nat → Nat) (S : zS) (p9 q9 : Int32) (H : Heap) (hX : XS G ad S H) (hW : zW S) : xMet l G yX4_bid wsX4_bid ({ frames := 7, cells := 8, slots := 60, locals := 111 } : Room) [.ref (ad 0), .int p9, .int q9] H (fun v H1 => kbid S p9 q9 = 0 ∧ v = some (.int (nI (zbid S p9.toNatClampNeg q9.toNatClampNeg))) ∧ XS G ad S H1) (zx [zIO, zIA] (kbid S p9 q9) H) := by
  refine vx_ofW (cc := cX4_bid) (maxL := 4) (ret := (some .int)) (by decide) rfl ?_
  intro Pg Ev s m args below meth c s₁ B hml hout hv
  obtain ⟨rfl, hH, hC⟩ := hv
  have hx := B.exec
  have hb := B.bytes
  have hr := B.returns
  have hts := atoms_spec (ws := wsX4_bid) B.pre
  have hown : s.vm.findClass RX4 = some m.cls := findClass_of_methodNamed B.named
  have hlocks := B.notSynchronized
  rw [hH]
  have hS : va_S (xA G) s.heap H [] := by rw [← hH]; exact va_S.rf
  generalize ([] : List Loc) = locs at hS ⊢
  have hl := lv_entry [.ref (ad 0), .int p9, .int q9] (n := 4) (Nat.le_of_ble_eq_true rfl)
  rw [lg_entry_eq]
  generalize (lg_sl [.ref (ad 0), .int p9, .int q9] ++ List.replicate (4 - (lg_sl [.ref (ad 0), .int p9, .int q9]).length) Slot.unset).toArray = ls at hl ⊢
  have hl : lv_has ls 4 [(0, .ref (ad 0)), (1, .int p9), (2, .int q9)] := hl
  obtain ⟨hO, ⟨fb, hfb, hx0⟩, ⟨td, hdr⟩, ⟨tc, nc, hch⟩, ⟨gs, ds, hsk⟩, ⟨m9, k9, a9, hl9⟩, ⟨f1, f2, hpr⟩, ⟨fr1, hr1⟩, ⟨fr2, hr2⟩, ⟨fr3, hr3⟩, ⟨kp, hkp, hst⟩⟩ := id hX
  have hl0 := hl9.1.1
  have hx9 := hx0
  have hn20 := hW.1
  have hU9 := hW.2.2.2.2.1
  refine lv_aload_n hx hb dX4_bid_0 rfl (lv_at hl 0 rfl) ?_
  refine lv_iload_n hx hb dX4_bid_1 rfl (lv_at hl 1 rfl) ?_
  have hsz := hS.1
  refine x_call (vx_runV (As := [.int p9]) (rest := []) ⟨hx, hb, hml, hown, hts⟩ (c_X4_strategyAt l hfl G ad S kp m9 fb k9 a9 (p9) H hx0 hl9 hW hst) (cwV 1 hts gX4_bid_X4_strategyAt rfl rfl rfl (by decide +kernel) ⟨(Nat.le_of_ble_eq_true rfl), (Nat.le_of_ble_eq_true rfl)⟩) (xPreV hC hS hx9 (q := (RX4, TX4, 11)) rfl) rfl rfl hl.1 rfl (lv_room (Nat.le_of_ble_eq_true rfl)) dX4_bid_2 ⟨(by first | exact Nat.le_of_ble_eq_true rfl | exact (show 0 + 1 ≤ 8 by omega)), (by first | exact Nat.le_of_ble_eq_true rfl | exact (show 0 + 6 ≤ 60 by omega))⟩) hS (fun _ h => h) (fun E qx9 ce H_1 locs hp hz hk_2 hS hq1 hq2 hq3 => ?_) (fun v H_1 locs hp hz hk_2 hS => ?_)
  · have _ := hx
    obtain ⟨hkf, rfl, hcx⟩ := zx1 hp
    exact x_out (G := G) hout hlocks hq1 hq2 hq3 hS (by first | exact Nat.le_of_ble_eq_true rfl | exact (show 0 + 1 ≤ 8 by omega)) (by first | exact Nat.le_of_ble_eq_true rfl | exact (show 0 + 6 ≤ 60 by omega)) (zx_mk 0 (show kbid S p9 q9 = 1 from by unfold kbid; rw [hkf]; rfl) rfl hcx)
  · have _ := hx
    obtain ⟨j9, hj9, rfl, rfl, rfl⟩ := hp
    obtain ⟨ts_3, sls_3, fs_3, hss_3, hps_3, hbs_3, hvs_3, hts_3, hfs_3, hzs_3⟩ := hst j9 (by omega)
    refine lv_astore_n (lv' := [(3, .ref (ad (22 + 6 * j9))), (0, .ref (ad 0)), (1, .int (nI j9)), (2, .int q9)]) hx hb dX4_bid_5 rfl hl (by decide) rfl (fun ls hl => ?_)
    refine lv_iload_n hx hb dX4_bid_6 rfl (lv_at hl 3 rfl) ?_
    have hsz := hS.1
    refine x_call (vx_runS (As := [.int q9]) (rest := []) ⟨hx, hb, hml, hown, hts⟩ (c_X4_requireValue l hfl G (q9) H) (va_cwS 1 hts gX4_bid_X4_requireValue rfl rfl rfl (by decide +kernel) ⟨(Nat.le_of_ble_eq_true rfl), (Nat.le_of_ble_eq_true rfl)⟩) (xPreS hC hS) rfl rfl hl.1 rfl (lv_room (Nat.le_of_ble_eq_true rfl)) dX4_bid_7 ⟨(by first | exact Nat.le_of_ble_eq_true rfl | exact (show 0 + 1 + 1 ≤ 8 by omega)), (by first | exact Nat.le_of_ble_eq_true rfl | exact (show 0 + 6 + 6 ≤ 60 by omega))⟩) hS (fun _ h => h) (fun E qx9 ce H_4 locs hp hz hk_5 hS hq1 hq2 hq3 => ?_) (fun v H_4 locs hp hz hk_5 hS => ?_)
    · have _ := hx
      obtain ⟨hkf, rfl, hcx⟩ := zx1 hp
      exact x_out (G := G) hout hlocks hq1 hq2 hq3 hS (by first | exact Nat.le_of_ble_eq_true rfl | exact (show 0 + 1 + 1 ≤ 8 by omega)) (by first | exact Nat.le_of_ble_eq_true rfl | exact (show 0 + 6 + 6 ≤ 60 by omega)) (zx_mk 1 (show kbid S (nI j9) q9 = 2 from by unfold kbid; rw [xok_nI hj9 (by omega), hkf]; rfl) rfl hcx)
    · have _ := hx
      obtain ⟨hk_v9, rfl, rfl⟩ := hp
      obtain ⟨v9, hv9, rfl⟩ := xok_of hk_v9 (by omega)
      refine lv_aload_n hx hb dX4_bid_10 rfl (lv_at hl 0 rfl) ?_
      refine lv_iload_n hx hb dX4_bid_11 rfl (lv_at hl 3 rfl) ?_
      refine x_intE (vx_runV (As := [.int (nI v9)]) (rest := []) ⟨hx, hb, hml, hown, hts⟩ (c_X3_bidFor l hfl G (ad (22 + 6 * j9)) (ad (26 + 6 * j9)) (ad (27 + 6 * j9)) v9 (ad (23 + 6 * j9)) fs_3 _ _ _ _ _ _ H hss_3 hbs_3 hvs_3 (by omega)) (cwV 1 hts gX4_bid_X3_bidFor rfl rfl rfl (by decide +kernel) ⟨(Nat.le_of_ble_eq_true rfl), (Nat.le_of_ble_eq_true rfl)⟩) (xPreV hC hS hss_3 (q := (RX3, TX3, 8)) rfl) rfl rfl hl.1 rfl (lv_room (Nat.le_of_ble_eq_true rfl)) dX4_bid_12 ⟨(by first | exact Nat.le_of_ble_eq_true rfl | exact (show 0 + 1 + 1 + 0 ≤ 8 by omega)), (by first | exact Nat.le_of_ble_eq_true rfl | exact (show 0 + 6 + 6 + 0 ≤ 60 by omega))⟩) hS (fun locs hS => ?_)
      rw [hfs_3 v9 (by omega), zbid_I]
      exact x_iret (G := G) hx hb hr rfl dX4_bid_15 hlocks hS (by first | exact Nat.le_of_ble_eq_true rfl | exact (show 0 + 1 + 1 ≤ 8 by omega)) (by first | exact Nat.le_of_ble_eq_true rfl | exact (show 0 + 6 + 6 ≤ 60 by omega)) ⟨by unfold kbid; rw [xok_nI hj9 (by omega), xok_nI hv9 (by decide)]; rfl, by rw [nI_clamp (show j9 < 2 ^ 31 by omega), nI_clamp (show v9 < 2 ^ 31 by omega)], hX⟩

theorem xct_d1 {p : Nat → Bool} {i : Nat} (h : p i = true) : xct p (i + 1) = xct p i + 1 := by show xct p i + (if p i = true then 1 else 0) = _; rw [if_pos h]
theorem xct_d0 {p : Nat → Bool} {i : Nat} (h : ¬ p i = true) : xct p (i + 1) = xct p i := by show xct p i + (if p i = true then 1 else 0) = _; rw [if_neg h]; rfl
set_option maxHeartbeats 4000000 in
set_option maxRecDepth 100000 in
/-- alike(strategy) -/
theorem c_X4_alike (l : Launch) (hfl : l.stackTraces = false) (G : xG) (ad : Nat → Nat) (S : zS) (p9 : Int32) (H : Heap) (hX : XS G ad S H) (hW : zW S) : xMet l G yX4_alike wsX4_alike ({ frames := 7, cells := 8, slots := 60, locals := 111 } : Room) [.ref (ad 0), .int p9] H (fun v H1 => kstrat S p9 = 0 ∧ v = some (.int (nI (xct (fun j => zalike S j p9.toNatClampNeg) (zN S)))) ∧ XS G ad S H1) (zx [zIO] (kstrat S p9) H) := by
  refine vx_ofW (cc := cX4_alike) (maxL := 5) (ret := (some .int)) (by decide) rfl ?_
  intro Pg Ev s m args below meth c s₁ B hml hout hv
  obtain ⟨rfl, hH, hC⟩ := hv
  have hx := B.exec
  have hb := B.bytes
  have hr := B.returns
  have hts := atoms_spec (ws := wsX4_alike) B.pre
  have hown : s.vm.findClass RX4 = some m.cls := findClass_of_methodNamed B.named
  have hlocks := B.notSynchronized
  rw [hH]
  have hS : va_S (xA G) s.heap H [] := by rw [← hH]; exact va_S.rf
  generalize ([] : List Loc) = locs at hS ⊢
  have hl := lv_entry [.ref (ad 0), .int p9] (n := 5) (Nat.le_of_ble_eq_true rfl)
  rw [lg_entry_eq]
  generalize (lg_sl [.ref (ad 0), .int p9] ++ List.replicate (5 - (lg_sl [.ref (ad 0), .int p9]).length) Slot.unset).toArray = ls at hl ⊢
  have hl : lv_has ls 5 [(0, .ref (ad 0)), (1, .int p9)] := hl
  obtain ⟨hO, ⟨fb, hfb, hx0⟩, ⟨td, hdr⟩, ⟨tc, nc, hch⟩, ⟨gs, ds, hsk⟩, ⟨m9, k9, a9, hl9⟩, ⟨f1, f2, hpr⟩, ⟨fr1, hr1⟩, ⟨fr2, hr2⟩, ⟨fr3, hr3⟩, ⟨kp, hkp, hst⟩⟩ := id hX
  have hl0 := hl9.1.1
  have hx9 := hx0
  have hn20 := hW.1
  have hU9 := hW.2.2.2.2.1
  refine lv_aload_n hx hb dX4_alike_0 rfl (lv_at hl 0 rfl) ?_
  refine lv_iload_n hx hb dX4_alike_1 rfl (lv_at hl 1 rfl) ?_
  have hsz := hS.1
  refine x_call (vx_runV (As := [.int p9]) (rest := []) ⟨hx, hb, hml, hown, hts⟩ (c_X4_strategyAt l hfl G ad S kp m9 fb k9 a9 (p9) H hx0 hl9 hW hst) (cwV 1 hts gX4_alike_X4_strategyAt rfl rfl rfl (by decide +kernel) ⟨(Nat.le_of_ble_eq_true rfl), (Nat.le_of_ble_eq_true rfl)⟩) (xPreV hC hS hx9 (q := (RX4, TX4, 11)) rfl) rfl rfl hl.1 rfl (lv_room (Nat.le_of_ble_eq_true rfl)) dX4_alike_2 ⟨(by first | exact Nat.le_of_ble_eq_true rfl | exact (show 0 + 1 ≤ 8 by omega)), (by first | exact Nat.le_of_ble_eq_true rfl | exact (show 0 + 6 ≤ 60 by omega))⟩) hS (fun _ h => h) (fun E qx9 ce H_1 locs hp hz hk_2 hS hq1 hq2 hq3 => ?_) (fun v H_1 locs hp hz hk_2 hS => ?_)
  · have _ := hx
    obtain ⟨hkf, rfl, hcx⟩ := zx1 hp
    exact x_out (G := G) hout hlocks hq1 hq2 hq3 hS (by first | exact Nat.le_of_ble_eq_true rfl | exact (show 0 + 1 ≤ 8 by omega)) (by first | exact Nat.le_of_ble_eq_true rfl | exact (show 0 + 6 ≤ 60 by omega)) (zx_mk 0 (show kstrat S p9 = 1 from by unfold kstrat; rw [hkf]; rfl) rfl hcx)
  · have _ := hx
    obtain ⟨j9, hj9, rfl, rfl, rfl⟩ := hp
    obtain ⟨ts_3, sls_3, fs_3, hss_3, hps_3, hbs_3, hvs_3, hts_3, hfs_3, hzs_3⟩ := hst j9 (by omega)
    refine va_getN (D := xD G) (ci := 4) (v := .int (nI (kp j9))) (C := RX3) (T := TX3) (N := 8) hx hb hts (by decide +kernel) hown hC.1 (x1 hss_3) 0 rfl rfl 6 (by decide) (va_Nw.use rfl (hC.2.1 (.fieldLinkNest "Bidwhistle" 116 "Bidwhistle$Strategy" "kind" "I" "Bidwhistle") (by decide +kernel))) (fun _ h9 => h9) rfl dX4_alike_5 ?_
    refine lv_istore_n (lv' := [(2, .int (nI (kp j9))), (0, .ref (ad 0)), (1, .int (nI j9))]) hx hb dX4_alike_8 rfl hl (by decide) rfl (fun ls hl => ?_)
    refine lv_iconst (v := (nI 0)) hx hb dX4_alike_9 (by decide) ?_
    refine lv_istore_n (lv' := [(3, .int (nI 0)), (2, .int (nI (kp j9))), (0, .ref (ad 0)), (1, .int (nI j9))]) hx hb dX4_alike_10 rfl hl (by decide) rfl (fun ls hl => ?_)
    refine lv_iconst (v := (nI 0)) hx hb dX4_alike_11 (by decide) ?_
    refine lv_istore (lv' := [(4, .int (nI 0)), (3, .int (nI 0)), (2, .int (nI (kp j9))), (0, .ref (ad 0)), (1, .int (nI j9))]) hx hb dX4_alike_12 hl (by decide) rfl (fun ls hl => ?_)
    have L : ∀ (kL : Nat) (i : Nat) (e9 : Nat), (i ≤ zN S) → (e9 = xct (fun j => zalike S j j9) i) → zN S - i < kL → ∀ (locs : List Loc), va_S (xA G) s.heap H locs → ∀ ls : Array Slot, lv_has ls 5 [(0, .ref (ad 0)), (2, .int (nI (kp j9))), (3, .int (nI e9)), (4, .int (nI i))] → W Pg l Ev (headSpec wsX4_alike ({ frames := 7, cells := 8, slots := 60, locals := 111 } : Room)).room s m ([.ref (ad 0), .int (nI j9)] : List Value).toArray below meth c H locs (0 + 1) (0 + 6) (vx_MQ below (xQ G (fun v H1 => kstrat S (nI j9) = 0 ∧ v = some (.int (nI (xct (fun j => zalike S j (nI j9).toNatClampNeg) (zN S)))) ∧ XS G ad S H1)) (xX G (zx [zIO] (kstrat S (nI j9)) H)) ([.ref (ad 0), .int (nI j9)] : List Value).toArray s ({ frames := 7, cells := 8, slots := 60, locals := 111 } : Room).cells ({ frames := 7, cells := 8, slots := 60, locals := 111 } : Room).slots (xA G)) (F0 m 14 ls []) := by
      intro kL
      induction kL with
      | zero => intro i e9 hi hc9 hk; exact absurd hk (Nat.not_lt_zero _)
      | succ kL ihL =>
        intro i e9 hi hc9 hk locs hS ls hl
        refine lv_iload hx hb dX4_alike_14 (lv_at hl 3 rfl) ?_
        refine lv_aload_n hx hb dX4_alike_16 rfl (lv_at hl 0 rfl) ?_
        refine va_get (D := xD G) (ci := 5) (v := .ref (ad 10)) (C := RX4) (T := TX4) (N := 11) hx hb hts (by decide +kernel) hown hC.1 (x1 hx9) 0 rfl rfl 3 (by decide) (hts (.fieldLink RX4 29 "Bidwhistle" "strategies" "Ljava/util/ArrayList;") (by decide +kernel)) (fun _ h9 => h9) rfl dX4_alike_17 ?_
        refine x_intE (vx_runV (As := []) (rest := [.int (nI i)]) ⟨hx, hb, hml, hown, hts⟩ (c_Jx4a65c_size_8abf5 l hfl G (ad 10) (ad 11) (zN S) m9 H hl0) (cwV 0 hts gX4_alike_Jx4a65c_size_8abf5 rfl rfl rfl (by decide +kernel) ⟨(Nat.le_of_ble_eq_true rfl), (Nat.le_of_ble_eq_true rfl)⟩) (xPreV hC hS hl0 (q := (RJx4a65c, TJx4a65c, 3)) rfl) rfl rfl hl.1 rfl (lv_room (Nat.le_of_ble_eq_true rfl)) dX4_alike_20 ⟨(by first | exact Nat.le_of_ble_eq_true rfl | exact (show 0 + 1 + 0 ≤ 8 by omega)), (by first | exact Nat.le_of_ble_eq_true rfl | exact (show 0 + 6 + 0 ≤ 60 by omega))⟩) hS (fun locs hS => ?_)
        refine lv_icmp_ge (tgt := 54) hx hb dX4_alike_23 (by decide) (fun c_4 => ?_) (fun c_4 => ?_)
        · have _ := hx
          have c_4 : (zN S) ≤ i := (nI_leI (a := (zN S)) (b := i) (by omega) (by omega)).mp c_4
          refine lv_iload_n hx hb dX4_alike_54 rfl (lv_at hl 2 rfl) ?_
          exact x_iret (G := G) hx hb hr rfl dX4_alike_55 hlocks hS (by first | exact Nat.le_of_ble_eq_true rfl | exact (show 0 + 1 ≤ 8 by omega)) (by first | exact Nat.le_of_ble_eq_true rfl | exact (show 0 + 6 ≤ 60 by omega)) ⟨by unfold kstrat; rw [xok_nI hj9 (by omega)]; rfl, by rw [nI_clamp (show j9 < 2 ^ 31 by omega), hc9, show i = zN S by omega], hX⟩
        · have _ := hx
          have c_4 : ¬ ((zN S) ≤ i) := fun z => c_4 ((nI_leI (a := (zN S)) (b := i) (by omega) (by omega)).mpr z)
          refine lv_aload_n hx hb dX4_alike_26 rfl (lv_at hl 0 rfl) ?_
          refine va_get (D := xD G) (ci := 5) (v := .ref (ad 10)) (C := RX4) (T := TX4) (N := 11) hx hb hts (by decide +kernel) hown hC.1 (x1 hx9) 0 rfl rfl 3 (by decide) (hts (.fieldLink RX4 29 "Bidwhistle" "strategies" "Ljava/util/ArrayList;") (by decide +kernel)) (fun _ h9 => h9) rfl dX4_alike_27 ?_
          refine lv_iload hx hb dX4_alike_30 (lv_at hl 3 rfl) ?_
          have hq := lA.q hl9.1 (show i < zN S by omega)
          refine x_refE (vx_runV (As := [.int (nI i)]) (rest := []) ⟨hx, hb, hml, hown, hts⟩ (c_Jx4a65c_get_915e3 l hfl G (ad 10) (ad 11) (zN S) k9 i (ad (22 + 6 * i)) m9 a9 H hl0 hq.1 (by omega) hq.2.1 hq.2.2 (hl9.2 i (by omega))) (cwV 1 hts gX4_alike_Jx4a65c_get_915e3 rfl rfl rfl (by decide +kernel) ⟨(Nat.le_of_ble_eq_true rfl), (Nat.le_of_ble_eq_true rfl)⟩) (xPreV hC hS hl0 (q := (RJx4a65c, TJx4a65c, 3)) rfl) rfl rfl hl.1 rfl (lv_room (Nat.le_of_ble_eq_true rfl)) dX4_alike_32 ⟨(by first | exact Nat.le_of_ble_eq_true rfl | exact (show 0 + 1 + 0 ≤ 8 by omega)), (by first | exact Nat.le_of_ble_eq_true rfl | exact (show 0 + 6 + 0 ≤ 60 by omega))⟩) hS (fun locs hS => ?_)
          obtain ⟨ts_5, sls_5, fs_5, hss_5, hps_5, hbs_5, hvs_5, hts_5, hfs_5, hzs_5⟩ := hst i (by omega)
          refine va_castY (C := "Bidwhistle$Strategy") hx hb hown (hts (.classLink RX4 111 "Bidwhistle$Strategy") (by decide +kernel)) (hC.2.1 _ (by decide +kernel)) (va_recv hC.1 (x1 hss_5) (q0 := 0) (ci := 4) (q := (RX3, TX3, 8)) rfl rfl) dX4_alike_35 ?_
          refine va_getN (D := xD G) (ci := 4) (v := .int (nI (kp i))) (C := RX3) (T := TX3) (N := 8) hx hb hts (by decide +kernel) hown hC.1 (x1 hss_5) 0 rfl rfl 6 (by decide) (va_Nw.use rfl (hC.2.1 (.fieldLinkNest "Bidwhistle" 116 "Bidwhistle$Strategy" "kind" "I" "Bidwhistle") (by decide +kernel))) (fun _ h9 => h9) rfl dX4_alike_38 ?_
          refine lv_iload_n hx hb dX4_alike_41 rfl (lv_at hl 1 rfl) ?_
          refine lv_icmp_ne (tgt := 48) hx hb dX4_alike_42 (by decide) (fun c_6 => ?_) (fun c_6 => ?_)
          · have _ := hx
            have c_6 : ¬ ((kp i) = (kp j9)) := fun z => c_6 ((nI_eq (a := (kp i)) (b := (kp j9)) (by first | omega | (have := hkp.1 i (by omega); omega) | (have := hkp.1 j9 (by omega); omega)) (by first | omega | (have := hkp.1 i (by omega); omega) | (have := hkp.1 j9 (by omega); omega))).mpr z)
            refine lv_iinc (v := (nI (i + 1))) (lv' := [(4, .int (nI (i + 1))), (0, .ref (ad 0)), (2, .int (nI (kp j9))), (3, .int (nI e9))]) hx hb dX4_alike_48 hl (k := 3) rfl (xinc (by decide)) (by decide) rfl (fun ls hl => ?_)
            refine lv_goto (tgt := 14) hx hb dX4_alike_51 (by decide) ?_
            exact ihL (i + 1) (e9) (by omega) (by rw [hc9]; exact (xct_d0 (p := fun j => zalike S j j9) (fun z => c_6 ((hkp.2 i j9 (by omega) hj9).mpr z))).symm) (by omega) _ hS ls (lv_sub hl [1, 2, 3, 0] rfl)
          · have _ := hx
            have c_6 : (kp i) = (kp j9) := (nI_eq (a := (kp i)) (b := (kp j9)) (by first | omega | (have := hkp.1 i (by omega); omega) | (have := hkp.1 j9 (by omega); omega)) (by first | omega | (have := hkp.1 i (by omega); omega) | (have := hkp.1 j9 (by omega); omega))).mp c_6
            refine lv_iinc (v := (nI (e9 + 1))) (lv' := [(3, .int (nI (e9 + 1))), (0, .ref (ad 0)), (2, .int (nI (kp j9))), (4, .int (nI i))]) hx hb dX4_alike_45 hl (k := 2) rfl (xinc (by decide)) (by decide) rfl (fun ls hl => ?_)
            refine lv_iinc (v := (nI (i + 1))) (lv' := [(4, .int (nI (i + 1))), (3, .int (nI (e9 + 1))), (0, .ref (ad 0)), (2, .int (nI (kp j9)))]) hx hb dX4_alike_48 hl (k := 3) rfl (xinc (by decide)) (by decide) rfl (fun ls hl => ?_)
            refine lv_goto (tgt := 14) hx hb dX4_alike_51 (by decide) ?_
            exact ihL (i + 1) ((e9 + 1)) (by omega) (by rw [hc9]; exact (xct_d1 (p := fun j => zalike S j j9) ((hkp.2 i j9 (by omega) hj9).mp c_6)).symm) (by omega) _ hS ls (lv_sub hl [2, 3, 1, 0] rfl)
    exact L _ (0) (0) (Nat.zero_le _) (rfl) (Nat.lt_succ_self _) _ hS ls (lv_sub hl [3, 2, 1, 0] rfl)

set_option maxHeartbeats 4000000 in
set_option maxRecDepth 100000 in
/-- parent(strategy, isFirst) -/
theorem c_X4_parent (l : Launch) (hfl : l.stackTraces = false) (G : xG) (ad : Nat → Nat) (S : zS) (p9 : Int32) (b9 : Bool) (H : Heap) (hX : XS G ad S H) (hW : zW S) : xMet l G yX4_parent wsX4_parent ({ frames := 7, cells := 8, slots := 60, locals := 111 } : Room) [.ref (ad 0), .int p9, .int (xb b9)] H (fun v H1 => kstrat S p9 = 0 ∧ v = some (.int (xpar (if b9 = true then zU S p9.toNatClampNeg else zV S p9.toNatClampNeg))) ∧ XS G ad S H1) (zx [zIO] (kstrat S p9) H) := by
  refine vx_ofW (cc := cX4_parent) (maxL := 4) (ret := (some .int)) (by decide) rfl ?_
  intro Pg Ev s m args below meth c s₁ B hml hout hv
  obtain ⟨rfl, hH, hC⟩ := hv
  have hx := B.exec
  have hb := B.bytes
  have hr := B.returns
  have hts := atoms_spec (ws := wsX4_parent) B.pre
  have hown : s.vm.findClass RX4 = some m.cls := findClass_of_methodNamed B.named
  have hlocks := B.notSynchronized
  rw [hH]
  have hS : va_S (xA G) s.heap H [] := by rw [← hH]; exact va_S.rf
  generalize ([] : List Loc) = locs at hS ⊢
  have hl := lv_entry [.ref (ad 0), .int p9, .int (xb b9)] (n := 4) (Nat.le_of_ble_eq_true rfl)
  rw [lg_entry_eq]
  generalize (lg_sl [.ref (ad 0), .int p9, .int (xb b9)] ++ List.replicate (4 - (lg_sl [.ref (ad 0), .int p9, .int (xb b9)]).length) Slot.unset).toArray = ls at hl ⊢
  have hl : lv_has ls 4 [(0, .ref (ad 0)), (1, .int p9), (2, .int (xb b9))] := hl
  obtain ⟨hO, ⟨fb, hfb, hx0⟩, ⟨td, hdr⟩, ⟨tc, nc, hch⟩, ⟨gs, ds, hsk⟩, ⟨m9, k9, a9, hl9⟩, ⟨f1, f2, hpr⟩, ⟨fr1, hr1⟩, ⟨fr2, hr2⟩, ⟨fr3, hr3⟩, ⟨kp, hkp, hst⟩⟩ := id hX
  have hl0 := hl9.1.1
  have hx9 := hx0
  have hn20 := hW.1
  have hU9 := hW.2.2.2.2.1
  refine lv_aload_n hx hb dX4_parent_0 rfl (lv_at hl 0 rfl) ?_
  refine lv_iload_n hx hb dX4_parent_1 rfl (lv_at hl 1 rfl) ?_
  have hsz := hS.1
  refine x_call (vx_runV (As := [.int p9]) (rest := []) ⟨hx, hb, hml, hown, hts⟩ (c_X4_strategyAt l hfl G ad S kp m9 fb k9 a9 (p9) H hx0 hl9 hW hst) (cwV 1 hts gX4_parent_X4_strategyAt rfl rfl rfl (by decide +kernel) ⟨(Nat.le_of_ble_eq_true rfl), (Nat.le_of_ble_eq_true rfl)⟩) (xPreV hC hS hx9 (q := (RX4, TX4, 11)) rfl) rfl rfl hl.1 rfl (lv_room (Nat.le_of_ble_eq_true rfl)) dX4_parent_2 ⟨(by first | exact Nat.le_of_ble_eq_true rfl | exact (show 0 + 1 ≤ 8 by omega)), (by first | exact Nat.le_of_ble_eq_true rfl | exact (show 0 + 6 ≤ 60 by omega))⟩) hS (fun _ h => h) (fun E qx9 ce H_1 locs hp hz hk_2 hS hq1 hq2 hq3 => ?_) (fun v H_1 locs hp hz hk_2 hS => ?_)
  · have _ := hx
    obtain ⟨hkf, rfl, hcx⟩ := zx1 hp
    exact x_out (G := G) hout hlocks hq1 hq2 hq3 hS (by first | exact Nat.le_of_ble_eq_true rfl | exact (show 0 + 1 ≤ 8 by omega)) (by first | exact Nat.le_of_ble_eq_true rfl | exact (show 0 + 6 ≤ 60 by omega)) (zx_mk 0 (show kstrat S p9 = 1 from by unfold kstrat; rw [hkf]; rfl) rfl hcx)
  · have _ := hx
    obtain ⟨j9, hj9, rfl, rfl, rfl⟩ := hp
    obtain ⟨ts_3, sls_3, fs_3, hss_3, hps_3, hbs_3, hvs_3, hts_3, hfs_3, hzs_3⟩ := hst j9 (by omega)
    refine lv_astore_n (lv' := [(3, .ref (ad (22 + 6 * j9))), (0, .ref (ad 0)), (1, .int (nI j9)), (2, .int (xb b9))]) hx hb dX4_parent_5 rfl hl (by decide) rfl (fun ls hl => ?_)
    refine lv_iload_n hx hb dX4_parent_6 rfl (lv_at hl 3 rfl) ?_
    refine lv_if_eq (tgt := 17) hx hb dX4_parent_7 (by decide) (fun c_4 => ?_) (fun c_4 => ?_)
    · have _ := hx
      refine lv_aload_n hx hb dX4_parent_17 rfl (lv_at hl 0 rfl) ?_
      refine va_getN (D := xD G) (ci := 4) (v := .int (xpar (zV S j9))) (C := RX3) (T := TX3) (N := 8) hx hb hts (by decide +kernel) hown hC.1 (x1 hss_3) 0 rfl rfl 3 (by decide) (va_Nw.use rfl (hC.2.1 (.fieldLinkNest "Bidwhistle" 126 "Bidwhistle$Strategy" "secondParent" "I" "Bidwhistle") (by decide +kernel))) (fun _ h9 => h9) rfl dX4_parent_18 ?_
      exact x_iret (G := G) hx hb hr rfl dX4_parent_21 hlocks hS (by first | exact Nat.le_of_ble_eq_true rfl | exact (show 0 + 1 ≤ 8 by omega)) (by first | exact Nat.le_of_ble_eq_true rfl | exact (show 0 + 6 ≤ 60 by omega)) ⟨by unfold kstrat; rw [xok_nI hj9 (by omega)]; rfl, by rw [nI_clamp (show j9 < 2 ^ 31 by omega), if_neg (by rw [show b9 = false from xb_0.mp (by first | exact c_4 | exact Classical.not_not.mp c_4)]; decide)], hX⟩
    · have _ := hx
      refine lv_aload_n hx hb dX4_parent_10 rfl (lv_at hl 0 rfl) ?_
      refine va_getN (D := xD G) (ci := 4) (v := .int (xpar (zU S j9))) (C := RX3) (T := TX3) (N := 8) hx hb hts (by decide +kernel) hown hC.1 (x1 hss_3) 0 rfl rfl 2 (by decide) (va_Nw.use rfl (hC.2.1 (.fieldLinkNest "Bidwhistle" 123 "Bidwhistle$Strategy" "firstParent" "I" "Bidwhistle") (by decide +kernel))) (fun _ h9 => h9) rfl dX4_parent_11 ?_
      refine lv_goto (tgt := 21) hx hb dX4_parent_14 (by decide) ?_
      exact x_iret (G := G) hx hb hr rfl dX4_parent_21 hlocks hS (by first | exact Nat.le_of_ble_eq_true rfl | exact (show 0 + 1 ≤ 8 by omega)) (by first | exact Nat.le_of_ble_eq_true rfl | exact (show 0 + 6 ≤ 60 by omega)) ⟨by unfold kstrat; rw [xok_nI hj9 (by omega)]; rfl, by rw [nI_clamp (show j9 < 2 ^ 31 by omega), if_pos (xb_1 c_4)], hX⟩

set_option maxHeartbeats 4000000 in
set_option maxRecDepth 100000 in
/-- isIn(strategy) -/
theorem c_X4_isIn (l : Launch) (hfl : l.stackTraces = false) (G : xG) (ad : Nat → Nat) (S : zS) (p9 : Int32) (H : Heap) (hX : XS G ad S H) (hW : zW S) : xMet l G yX4_isIn wsX4_isIn ({ frames := 7, cells := 8, slots := 60, locals := 111 } : Room) [.ref (ad 0), .int p9] H (fun v H1 => kstrat S p9 = 0 ∧ v = some (.int (xb (zI S p9.toNatClampNeg))) ∧ XS G ad S H1) (zx [zIO] (kstrat S p9) H) := by
  refine vx_ofW (cc := cX4_isIn) (maxL := 2) (ret := (some .boolean)) (by decide) rfl ?_
  intro Pg Ev s m args below meth c s₁ B hml hout hv
  obtain ⟨rfl, hH, hC⟩ := hv
  have hx := B.exec
  have hb := B.bytes
  have hr := B.returns
  have hts := atoms_spec (ws := wsX4_isIn) B.pre
  have hown : s.vm.findClass RX4 = some m.cls := findClass_of_methodNamed B.named
  have hlocks := B.notSynchronized
  rw [hH]
  have hS : va_S (xA G) s.heap H [] := by rw [← hH]; exact va_S.rf
  generalize ([] : List Loc) = locs at hS ⊢
  have hl := lv_entry [.ref (ad 0), .int p9] (n := 2) (Nat.le_of_ble_eq_true rfl)
  rw [lg_entry_eq]
  generalize (lg_sl [.ref (ad 0), .int p9] ++ List.replicate (2 - (lg_sl [.ref (ad 0), .int p9]).length) Slot.unset).toArray = ls at hl ⊢
  have hl : lv_has ls 2 [(0, .ref (ad 0)), (1, .int p9)] := hl
  obtain ⟨hO, ⟨fb, hfb, hx0⟩, ⟨td, hdr⟩, ⟨tc, nc, hch⟩, ⟨gs, ds, hsk⟩, ⟨m9, k9, a9, hl9⟩, ⟨f1, f2, hpr⟩, ⟨fr1, hr1⟩, ⟨fr2, hr2⟩, ⟨fr3, hr3⟩, ⟨kp, hkp, hst⟩⟩ := id hX
  have hl0 := hl9.1.1
  have hx9 := hx0
  have hn20 := hW.1
  have hU9 := hW.2.2.2.2.1
  refine lv_aload_n hx hb dX4_isIn_0 rfl (lv_at hl 0 rfl) ?_
  refine lv_iload_n hx hb dX4_isIn_1 rfl (lv_at hl 1 rfl) ?_
  have hsz := hS.1
  refine x_call (vx_runV (As := [.int p9]) (rest := []) ⟨hx, hb, hml, hown, hts⟩ (c_X4_strategyAt l hfl G ad S kp m9 fb k9 a9 (p9) H hx0 hl9 hW hst) (cwV 1 hts gX4_isIn_X4_strategyAt rfl rfl rfl (by decide +kernel) ⟨(Nat.le_of_ble_eq_true rfl), (Nat.le_of_ble_eq_true rfl)⟩) (xPreV hC hS hx9 (q := (RX4, TX4, 11)) rfl) rfl rfl hl.1 rfl (lv_room (Nat.le_of_ble_eq_true rfl)) dX4_isIn_2 ⟨(by first | exact Nat.le_of_ble_eq_true rfl | exact (show 0 + 1 ≤ 8 by omega)), (by first | exact Nat.le_of_ble_eq_true rfl | exact (show 0 + 6 ≤ 60 by omega))⟩) hS (fun _ h => h) (fun E qx9 ce H_1 locs hp hz hk_2 hS hq1 hq2 hq3 => ?_) (fun v H_1 locs hp hz hk_2 hS => ?_)
  · have _ := hx
    obtain ⟨hkf, rfl, hcx⟩ := zx1 hp
    exact x_out (G := G) hout hlocks hq1 hq2 hq3 hS (by first | exact Nat.le_of_ble_eq_true rfl | exact (show 0 + 1 ≤ 8 by omega)) (by first | exact Nat.le_of_ble_eq_true rfl | exact (show 0 + 6 ≤ 60 by omega)) (zx_mk 0 (show kstrat S p9 = 1 from by unfold kstrat; rw [hkf]; rfl) rfl hcx)
  · have _ := hx
    obtain ⟨j9, hj9, rfl, rfl, rfl⟩ := hp
    obtain ⟨ts_3, sls_3, fs_3, hss_3, hps_3, hbs_3, hvs_3, hts_3, hfs_3, hzs_3⟩ := hst j9 (by omega)
    refine va_getN (D := xD G) (ci := 4) (v := .int (xb (zI S j9))) (C := RX3) (T := TX3) (N := 8) hx hb hts (by decide +kernel) hown hC.1 (x1 hss_3) 0 rfl rfl 7 (by decide) (va_Nw.use rfl (hC.2.1 (.fieldLinkNest "Bidwhistle" 129 "Bidwhistle$Strategy" "inPool" "Z" "Bidwhistle") (by decide +kernel))) (fun _ h9 => h9) rfl dX4_isIn_5 ?_
    exact x_iret (G := G) hx hb hr (xb_nar _) dX4_isIn_8 hlocks hS (by first | exact Nat.le_of_ble_eq_true rfl | exact (show 0 + 1 ≤ 8 by omega)) (by first | exact Nat.le_of_ble_eq_true rfl | exact (show 0 + 6 ≤ 60 by omega)) ⟨by unfold kstrat; rw [xok_nI hj9 (by omega)]; rfl, by rw [nI_clamp (show j9 < 2 ^ 31 by omega)], hX⟩
