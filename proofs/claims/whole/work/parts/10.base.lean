/-! my words: one context for all contracts; the heap as a map; contracts that return or throw, with the heap's change in their post -/
/-- what does not change in a run: (classes, slots), array classes ([I, [Z, [Object, [J), the addresses that may be written, the texts' addresses by their entries, (the empty row of ArrayList, the mirror of [Object) -/
abbrev xG : Type := va_G × (ClassId × ClassId × ClassId × ClassId) × (Nat → Prop) × (Nat → Nat) × (Nat × Nat)
abbrev xD (G : xG) : va_G := G.1
abbrev xI (G : xG) : ClassId := G.2.1.1
abbrev xZ (G : xG) : ClassId := G.2.1.2.1
abbrev xO (G : xG) : ClassId := G.2.1.2.2.1
abbrev xJ (G : xG) : ClassId := G.2.1.2.2.2
abbrev xA (G : xG) : Nat → Prop := G.2.2.1
abbrev xT (G : xG) : Nat → Nat := G.2.2.2.1
abbrev xE (G : xG) : Nat := G.2.2.2.2.1
abbrev xM (G : xG) : Nat := G.2.2.2.2.2
abbrev xTys (G : xG) : List (ClassId × FieldType) := [(xI G, .int), (xZ G, .boolean), (xO G, .object "java/lang/Object"), (xJ G, .long)]
/-- words that only Alike tables keep -/
def xNest : List Cond := [.fieldLinkNest "Bidwhistle" 116 "Bidwhistle$Strategy" "kind" "I" "Bidwhistle", .fieldLinkNest "Bidwhistle" 123 "Bidwhistle$Strategy" "firstParent" "I" "Bidwhistle", .fieldLinkNest "Bidwhistle" 126 "Bidwhistle$Strategy" "secondParent" "I" "Bidwhistle", .fieldLinkNest "Bidwhistle" 129 "Bidwhistle$Strategy" "inPool" "Z" "Bidwhistle", .fieldLinkNest "Bidwhistle" 135 "Bidwhistle$Strategy" "program" "LBidwhistle$Program;" "Bidwhistle", .fieldLinkNest "Bidwhistle" 156 "Bidwhistle$Strategy" "stepsOfLine" "I" "Bidwhistle", .fieldLinkNest "Bidwhistle" 235 "Bidwhistle$Program" "stepBits" "I" "Bidwhistle", .fieldLinkNest "Bidwhistle" 240 "Bidwhistle$Strategy" "bids" "LBidwhistle$Row;" "Bidwhistle", .fieldLinkNest "Bidwhistle" 256 "Bidwhistle$Strategy" "number" "I" "Bidwhistle",
  .methodLinkNest "Bidwhistle" 21 yX2_init "Bidwhistle", .methodLinkNest "Bidwhistle" 9 yX0_init "Bidwhistle", .methodLinkNest "Bidwhistle$Program" 31 yX4_bitOf "Bidwhistle",
  .castable "java/lang/IllegalArgumentException" "java/lang/IllegalArgumentException", .castable "java/lang/IllegalStateException" "java/lang/IllegalStateException", .castable "java/lang/IndexOutOfBoundsException" "java/lang/IndexOutOfBoundsException",
  .castable "Bidwhistle$Strategy" "java/lang/Object", .castable "Bidwhistle$Strategy" "Bidwhistle$Strategy", .castable "[Ljava/lang/Object;" "java/lang/Object", .castable "[Ljava/lang/Object;" "[Ljava/lang/Object;",
  .declares ⟨"java/lang/Exception", "<init>", "(Ljava/lang/String;)V"⟩, .declares ⟨"java/lang/RuntimeException", "<init>", "(Ljava/lang/String;)V"⟩, .declares ⟨"java/lang/Throwable", "<init>", "(Ljava/lang/String;)V"⟩]
def xWarm : Cond → Bool
  | .fieldLinkNest .. => true
  | .methodLinkNest .. => true
  | .castable .. => true
  | .declares .. => true
  | _ => false
theorem xWarm_go {w : Cond} (h : xWarm w = true) {s U : State} (hW : s.WarmedH U.vm) (hz : va_Nw w s) : va_Nw w U := by
  cases w <;> first | exact absurd h (by decide) | exact va_Nw.warmF hW hz | exact va_Nw.warmM hW hz | exact va_Nw.warmC hW hz | exact va_Nw.warmD hW hz | simp [xWarm] at h
theorem xNest_warm : ∀ w ∈ xNest, xWarm w = true := by decide +kernel
/-- the texts of Bidwhistle's exceptions -/
def xTexts : List (Nat × String) := [(133, "it is in the pool"), (142, "it has a forbidden step"), (147, "8 are in the pool"), (159, "6 pairs are told"), (167, "both are the same"), (198, "fewer than 3 are in the pool"), (211, "no such step"), (213, "a value out of range"), (215, "no such auction"), (217, "it is not in the pool"), (221, "no such strategy"), (70, "the draft has 7 steps"), (88, "the draft is not right"), (97, "20 strategies are stored")]
def xCx (G : xG) (U : State) : Prop :=
  va_K (xD G) vwCl (xTys G) U ∧ (∀ w ∈ xNest, va_Nw w U) ∧ (∀ q, U.heap.size ≤ q → xA G q) ∧
  vx_Zq Bundle.tN "UNASSIGNED_STACK" Bundle.steD (xA G) U U.heap ∧ vx_Zq Bundle.tN "SUPPRESSED_SENTINEL" Bundle.listD (xA G) U U.heap ∧
  (∀ q ∈ xTexts, vk_R "Bidwhistle" q.1 q.2 (xT G q.1) U) ∧
  va_Z "java/util/ArrayList" "DEFAULTCAPACITY_EMPTY_ELEMENTDATA" "[Ljava/lang/Object;" (.ref (xE G)) (xA G) U U.heap ∧
  va_T (.object "java/lang/Object") (xE G) 0 (fun _ => .null) (xA G) U U.heap ∧ va_Mi "[Ljava/lang/Object;" (xM G) U ∧ va_Dc U ∧ va_AO "java/lang/Object" U
theorem xCx.go {G : xG} {s U : State} (h : xCx G s) (hW : s.WarmedH U.vm) (hs : s.heap.size ≤ U.heap.size) (hk : ∀ q, q < s.heap.size → ¬ xA G q → U.heap[q]? = s.heap[q]?) : xCx G U := by
  obtain ⟨h1, h2, h3, h4, h5, h6, h7, h8, h9, h10, h11⟩ := h
  exact ⟨h1.moved hW.alike, fun w hw => xWarm_go (xNest_warm w hw) hW (h2 w hw), fun q hq => h3 q (Nat.le_trans hs hq), (h4.kept hk).moved hW.alike, (h5.kept hk).moved hW.alike,
    fun q hq => (h6 q hq).warm hW, (h7.kept hk).moved hW.alike, (h8.kept hk).moved hW.alike, h9.moved hW.alike, h10.moved hW.alike, h11.moved hW.alike⟩
theorem xCx.goS {G : xG} {s U : State} {H : Heap} {locs : List Loc} (h : xCx G s) (hS : va_S (xA G) s.heap H locs) (hU : U.heap = H) (hW : s.WarmedH U.vm) : xCx G U := by
  subst hU
  exact h.go hW hS.1 hS.2.1
/-- a cell that holds an object, a row of ints, of booleans, of longs, of references -/
abbrev oA (G : xG) (a ci : Nat) (fs : List Value) (H : Heap) : Prop := va_at (xD G) vwCl (a, .inr (ci, fs)) H
abbrev iA (G : xG) (a n : Nat) (f : Nat → Int32) (H : Heap) : Prop := va_at (xD G) vwCl (a, .inl (xI G, n, .inl f)) H
abbrev zA (G : xG) (a n : Nat) (f : Nat → Int32) (H : Heap) : Prop := va_at (xD G) vwCl (a, .inl (xZ G, n, .inl f)) H
abbrev jA (G : xG) (a n : Nat) (f : Nat → Int64) (H : Heap) : Prop := va_at (xD G) vwCl (a, .inl (xJ G, n, .inr (.inl f))) H
abbrev qA (G : xG) (a n : Nat) (f : Nat → Option Nat) (H : Heap) : Prop := va_at (xD G) vwCl (a, .inl (xO G, n, .inr (.inr (.inr (.inr f))))) H
theorem x1 {D : va_G} {cl : List vw_C} {q : Nat × va_E} {H : Heap} (h : va_at D cl q H) : va_P D cl [q] H := by
  intro k r hk
  have hz : k < 1 := (List.getElem?_eq_some_iff.mp hk).1
  rw [show k = 0 by omega] at hk
  cases hk
  exact h
/-- between two heaps all old cells but L are the same -/
def xC (L : List Nat) (H H1 : Heap) : Prop := H.size ≤ H1.size ∧ ∀ q, q < H.size → q ∉ L → H1[q]? = H[q]?
theorem xC.rf {L : List Nat} {H : Heap} : xC L H H := ⟨Nat.le_refl _, fun _ _ _ => rfl⟩
theorem xC.tr {L1 L2 : List Nat} {H H1 H2 : Heap} (h1 : xC L1 H H1) (h2 : xC L2 H1 H2) : xC (L1 ++ L2) H H2 :=
  ⟨Nat.le_trans h1.1 h2.1, fun q hq hn => (h2.2 q (Nat.lt_of_lt_of_le hq h1.1) (fun z => hn (List.mem_append_right _ z))).trans (h1.2 q hq (fun z => hn (List.mem_append_left _ z)))⟩
theorem xC.mono {L L' : List Nat} {H H1 : Heap} (h : xC L H H1) (hL : ∀ q, q ∈ L → q ∈ L' ∨ H.size ≤ q) : xC L' H H1 :=
  ⟨h.1, fun q hq hn => h.2 q hq (fun z => (hL q z).elim hn (fun w => absurd hq (Nat.not_lt.mpr w)))⟩
theorem xC.at {L : List Nat} {H H1 : Heap} {D : va_G} {cl : List vw_C} {q : Nat × va_E} (hc : xC L H H1) (h : va_at D cl q H) (hn : q.1 ∉ L) : va_at D cl q H1 := h.kept (hc.2 q.1 h.lt hn)
theorem xC.at0 {H H1 : Heap} {D : va_G} {cl : List vw_C} {q : Nat × va_E} (hc : xC [] H H1) (h : va_at D cl q H) : va_at D cl q H1 := hc.at h (fun z => nomatch z)
theorem xn1 {a b : Nat} (h : a ≠ b) : a ∉ [b] := fun z => by rcases List.mem_cons.mp z with z | z; exact h z; cases z
theorem xn2 {a b c : Nat} (h : a ≠ b) (h2 : a ≠ c) : a ∉ [b, c] := fun z => by rcases List.mem_cons.mp z with z | z; exact h z; exact xn1 h2 z
theorem xn3 {a b c d : Nat} (h : a ≠ b) (h2 : a ≠ c) (h3 : a ≠ d) : a ∉ [b, c, d] := fun z => by rcases List.mem_cons.mp z with z | z; exact h z; exact xn2 h2 h3 z
/-- the post of a contract that returns; of one that throws; its start -/
def xQ (G : xG) (post : Option Value → Heap → Prop) : Array Value → State → Outcome → State → Prop := fun _ st o t => ∃ v, o = .returned v ∧ post v t.heap ∧ va_F (xA G) st t
def xX (G : xG) (px : String → Heap → Prop) : String → State → State → Prop := fun E st t => px E t.heap ∧ va_F (xA G) st t
def xP (G : xG) (As : List Value) (H : Heap) : Array Value → State → Prop := fun v U => v = As.toArray ∧ U.heap = H ∧ xCx G U
abbrev xMet (l : Launch) (G : xG) (y : MethodName) (ws : List Cond) (rm : Room) (As : List Value) (H : Heap) (post : Option Value → Heap → Prop) (px : String → Heap → Prop) : Prop :=
  vx_Met l y ws rm (xP G As H) (xQ G post) (xX G px) rm.cells rm.slots (xA G)
def xNo : String → Heap → Prop := fun _ _ => False
theorem xBlind {G : xG} {As : List Value} {H : Heap} : FrameBlind (xP G As H) := fun _ U g mk h => ⟨h.1, h.2.1, h.2.2.go (U := U.calling g mk _) (State.WarmedH.refl U) (Nat.le_refl _) (fun _ _ _ => rfl)⟩
section XR
variable {p : Program} {l : Launch} {e : Env} {R : Room} {s : State} {m : MethodId} {args : Array Value} {below : List Frame} {meth : Method} {c : Code} {H : Heap} {locs : List Loc} {cells slots : Nat} {Q : State → Prop}
variable {cc : ByteArray} {pc : Nat} {ls : Array Slot} {rest st0 : List Value} {G G1 : xG} {a : Nat} {mc ms : Nat} {post : Option Value → Heap → Prop} {px : String → Heap → Prop}
theorem xPreV (hC : xCx G s) (hS : va_S (xA G) s.heap H locs) {b ci : Nat} {fs : List Value} (hb : oA G b ci fs H) {q : vw_C} (hc : vwCl[ci]? = some q) {As : List Value} : PreV s H q.1 b (xP G (.ref b :: As) H) As :=
  ⟨xBlind, va_recv hC.1 (x1 hb) hc (q0 := 0) rfl, fun _ hU hW => ⟨rfl, hU, hC.goS hS hU hW⟩⟩
theorem xPreS (hC : xCx G s) (hS : va_S (xA G) s.heap H locs) {As : List Value} : PreS s H (xP G As H) As :=
  ⟨xBlind, fun _ hU hW => ⟨rfl, hU, hC.goS hS hU hW⟩⟩
/-- a call of a contract: what comes back, or what is thrown -/
theorem x_call {aa : Array Value} (hr : vx_Run p l e R s m args below meth c H locs cells slots mc ms (F0 m pc ls st0) rest (xQ G1 post aa) (xX G1 px) (xA G1)) (hS : va_S (xA G) s.heap H locs) (hA : ∀ q, xA G1 q → xA G q)
    (kx : ∀ (E : String) (q9 : Addr) (ce : Cell) (H1 : Heap) (locs1 : List Loc), px E H1 → H.size ≤ H1.size → (∀ q, q < H.size → ¬ xA G1 q → H1[q]? = H[q]?) → va_S (xA G) s.heap H1 locs1 → H1[q9]? = some ce → ce.vm = .none → s.vm.findClass E = some ce.cls → vx_W p l e R s m args below meth c H1 locs1 (cells + mc) (slots + ms) Q (F0 m pc ls rest) q9)
    (kk : ∀ (v : Option Value) (H1 : Heap) (locs1 : List Loc), post v H1 → H.size ≤ H1.size → (∀ q, q < H.size → ¬ xA G1 q → H1[q]? = H[q]?) → va_S (xA G) s.heap H1 locs1 → W p l e R s m args below meth c H1 locs1 (cells + mc) (slots + ms) Q (F0 m (pc + 3) ls (v.toList ++ rest))) : W p l e R s m args below meth c H locs cells slots Q (F0 m pc ls st0) := by
  intro T hT X
  rcases hr T hT X with ⟨v, st₀, t, T', L, h0, X', hL, e1, e2, ⟨v', hv, hp, hF⟩, st⟩ | ⟨q, st₀, t, T', L, E, ce, h0, X', hL, e1, e2, ⟨hp, hF⟩, hce, hcv, hcl, st⟩
  · cases hv
    obtain ⟨k1, k2, k3⟩ := vx_keep h0 e1 hS (fun q _ h => hA q h) hA hL hF
    rw [← e1] at hp
    obtain ⟨t2, a1, b1⟩ := kk v T'.heap (locs ++ L) hp k1 k2 k3 T' rfl X'
    exact ⟨t2, st t2 a1, b1⟩
  · obtain ⟨k1, k2, k3⟩ := vx_keep h0 e1 hS (fun q _ h => hA q h) hA hL hF
    rw [← e1] at hp
    obtain ⟨t2, a1, b1⟩ := kx E q ce T'.heap (locs ++ L) hp k1 k2 k3 (by rw [e1]; exact hce) hcv hcl T' rfl X'
    exact ⟨t2, st.trans a1, b1⟩
/-- a call of a contract that throws nothing and answers an int and leaves the heap: one row -/
theorem x_int {aa : Array Value} {pi : Int32 → Prop} (hr : vx_Run p l e R s m args below meth c H locs cells slots mc ms (F0 m pc ls st0) rest (xQ G (fun v H1 => H1 = H ∧ ∃ r : Int32, v = some (.int r) ∧ pi r) aa) (xX G xNo) (xA G)) (hS : va_S (xA G) s.heap H locs)
    (kk : ∀ (r : Int32) (locs1 : List Loc), pi r → va_S (xA G) s.heap H locs1 → W p l e R s m args below meth c H locs1 (cells + mc) (slots + ms) Q (F0 m (pc + 3) ls (.int r :: rest))) : W p l e R s m args below meth c H locs cells slots Q (F0 m pc ls st0) := by
  refine x_call hr hS (fun _ h => h) (fun _ _ _ _ _ h => h.elim) (fun v H1 locs1 hp _ _ hS1 => ?_)
  obtain ⟨rfl, r, rfl, hr⟩ := hp
  exact kk r locs1 hr hS1
/-- ends -/
theorem x_iret {v : Int32} (hx : p.tables.exec = Jvm.exec) (hb : c.code = cc) {ty : FieldType} (hr : meth.sig.returnType = some ty) (hn : narrow ty (.int v) = .int v) (hd : decode cc pc = .ok (.ireturn, 1)) (hlocks : meth.locks = false) (hS : va_S (xA G) s.heap H locs) (h1 : cells ≤ mc) (h2 : slots ≤ ms) (hp : post (some (.int v)) H) {XC : String → State → State → Prop} :
    W p l e R s m args below meth c H locs cells slots (vx_MQ below (xQ G post) XC args s mc ms (xA G)) (F0 m pc ls [.int v]) :=
  W.widen h1 h2 (vx_ret (W.zret hx hb hr hn (fun t ht _ => ⟨_, rfl, by rw [ht]; exact hp, hS.F ht⟩) hS.2.2 hd hlocks))
theorem x_lret {v : Int64} (hx : p.tables.exec = Jvm.exec) (hb : c.code = cc) (hr : meth.sig.returnType = some .long) (hd : decode cc pc = .ok (.lreturn, 1)) (hlocks : meth.locks = false) (hS : va_S (xA G) s.heap H locs) (h1 : cells ≤ mc) (h2 : slots ≤ ms) (hp : post (some (.long v)) H) {XC : String → State → State → Prop} :
    W p l e R s m args below meth c H locs cells slots (vx_MQ below (xQ G post) XC args s mc ms (xA G)) (F0 m pc ls [.long v]) :=
  W.widen h1 h2 (vx_ret (W.lret hx hb hr (fun t ht _ => ⟨_, rfl, by rw [ht]; exact hp, hS.F ht⟩) hS.2.2 hd hlocks))
theorem x_vret (hx : p.tables.exec = Jvm.exec) (hb : c.code = cc) (hr : meth.sig.returnType = none) (hd : decode cc pc = .ok (.return_, 1)) (hlocks : meth.locks = false) (hS : va_S (xA G) s.heap H locs) (h1 : cells ≤ mc) (h2 : slots ≤ ms) (hp : post none H) {XC : String → State → State → Prop} :
    W p l e R s m args below meth c H locs cells slots (vx_MQ below (xQ G post) XC args s mc ms (xA G)) (F0 m pc ls []) :=
  W.widen h1 h2 (vx_ret (W.vret hx hb hr (fun t ht _ => ⟨_, rfl, by rw [ht]; exact hp, hS.F ht⟩) hS.2.2 hd hlocks))
theorem x_aret {a : Nat} (hx : p.tables.exec = Jvm.exec) (hb : c.code = cc) {rt : FieldType} (hr : meth.sig.returnType = some rt) (hrt : (∃ n, rt = .object n) ∨ ∃ t, rt = .array t) (hd : decode cc pc = .ok (.areturn, 1)) (hlocks : meth.locks = false) (hS : va_S (xA G) s.heap H locs) (h1 : cells ≤ mc) (h2 : slots ≤ ms) (hp : post (some (.ref a)) H) {XC : String → State → State → Prop} :
    W p l e R s m args below meth c H locs cells slots (vx_MQ below (xQ G post) XC args s mc ms (xA G)) (F0 m pc ls [.ref a]) :=
  W.widen h1 h2 (vx_ret (W.aret hx hb hr hrt (Or.inr ⟨a, rfl⟩) (fun t ht _ => ⟨_, rfl, by rw [ht]; exact hp, hS.F ht⟩) hS.2.2 hd hlocks))
/-- thrown on -/
theorem x_out {E : String} {ce : Cell} {q : Addr} (hout : ∀ x ∈ c.exceptionTable.toList, False) (hlocks : meth.locks = false) (hcell : H[q]? = some ce) (hv : ce.vm = .none) (hcl : s.vm.findClass E = some ce.cls) (hS : va_S (xA G) s.heap H locs) (h1 : cells ≤ mc) (h2 : slots ≤ ms) (hp : px E H) {Qc : Array Value → State → Outcome → State → Prop} :
    vx_W p l e R s m args below meth c H locs cells slots (vx_MQ below Qc (xX G px) args s mc ms (xA G)) (F0 m pc ls rest) q :=
  vx_out (fun x hx => (hout x hx).elim) hlocks hcell hv hcl (fun t ht _ => ⟨by rw [ht]; exact hp, hS.F ht⟩) hS.2.2 h1 h2
/-- fields -/
theorem x_put (hexec : p.tables.exec = Jvm.exec) (hb : c.code = cc) {own ref C : String} {T : u_T} {N ci index : Nat} {Ts : List Cond} (hts : ∀ w ∈ Ts, w.before args s = true) (hin : ∀ w ∈ u_ws C T N, w ∈ Ts) (ty0 : Nat → FieldType) (hty : ∀ k, k < N → parseFieldDescriptor (T k).2.2.1 = some (ty0 k)) (hnm : ∀ a, a < N → ∀ b, b < N → a ≠ b → (T a).2.1 ≠ (T b).2.1) (hown : s.vm.findClass own = some m.cls) (hC : xCx G s) {H0 : Heap} (hS : va_S (xA G) H0 H locs) (ha : xA G a) {fs : List Value} (he : oA G a ci fs H) (hc : vwCl[ci]? = some (C, T, N)) (k : Nat) (hk : k < N) (hlink : (Cond.fieldLink own index ref (T k).2.1 (T k).2.2.1).before args s = true) (hsame : ∀ x, s.fieldFound? (T k).1 (T k).2.1 (T k).2.2.1 = some x → s.fieldFound? ref (T k).2.1 (T k).2.2.1 = some x) (hfin : (T k).2.2.2 = false) {ty : FieldType} {v : Value} (hd : parseFieldDescriptor (T k).2.2.1 = some ty) (hn : narrow ty v = v) (hfit : fits ty v = true) (hl : k < fs.length)
    (hdg : decode cc pc = .ok (.putfield index, 3)) (kk : ∀ (H1 : Heap) (locs1 : List Loc), oA G a ci (fs.set k v) H1 → xC [a] H H1 → va_S (xA G) H0 H1 locs1 → W p l e R s m args below meth c H1 locs1 cells slots Q (F0 m (pc + 3) ls rest)) : W p l e R s m args below meth c H locs cells slots Q (F0 m pc ls (v :: .ref a :: rest)) := by
  have hap := va_apart (own := own) hts hin ty0 hty hnm hC.1 hc
  obtain ⟨r, h1, cell, q1, q2, q3, q4⟩ := he
  have hr : r = (C, T, N) := Option.some.inj (h1.symm.trans hc)
  subst hr
  obtain ⟨hSl, hfc, kC, hkC, hkind⟩ := hC.1.1 ci _ hc
  obtain ⟨cf, kf, fi, f, hi, hsl⟩ := hSl k hk
  have hlay := hts _ (hin _ (u_in_lay hk))
  unfold u_lay at hlay
  rw [if_neg (by rw [hfin]; decide)] at hlay
  have hst := (u_facts hfc hkC (u_lays hts hin hk) hi).1
  have h6 := u_store hfc hkC hkind hlay hi hd hn hfit
  refine W.putK hexec hb (f := f) ⟨hown, hlink, ⟨_, _, _, hsame _ hi⟩, hst⟩ (by rw [q2]; exact h6) q1 q3 (by rw [hsl]; exact k2_hasslot (q4 k hk)) rfl rfl hdg fun H' e1 e2 e3 => ?_
  rw [hsl] at e1 ⊢
  exact kk H' _ ⟨_, hc, t_OB.to (V := updV (vp_V fs) k v) ⟨_, e1, q2, q3, t_set q4 hap hk v⟩ (fun j _ => vp_updV_set hl v j)⟩ ⟨Nat.le_of_eq e2.symm, fun q _ hq => e3 q (fun z => hq (by rw [z]; exact List.mem_cons_self))⟩ (hS.put e2 e3 ha)
theorem x_putN (hexec : p.tables.exec = Jvm.exec) (hb : c.code = cc) {own ref C host : String} {T : u_T} {N ci index : Nat} {Ts : List Cond} (hts : ∀ w ∈ Ts, w.before args s = true) (hin : ∀ w ∈ u_ws C T N, w ∈ Ts) (ty0 : Nat → FieldType) (hty : ∀ k, k < N → parseFieldDescriptor (T k).2.2.1 = some (ty0 k)) (hnm : ∀ a, a < N → ∀ b, b < N → a ≠ b → (T a).2.1 ≠ (T b).2.1) (hown : s.vm.findClass own = some m.cls) (hC : xCx G s) {H0 : Heap} (hS : va_S (xA G) H0 H locs) (ha : xA G a) {fs : List Value} (he : oA G a ci fs H) (hc : vwCl[ci]? = some (C, T, N)) (k : Nat) (hk : k < N) (hlink : va_Nw (.fieldLinkNest own index ref (T k).2.1 (T k).2.2.1 host) s) (hsame : ∀ x, s.fieldFound? (T k).1 (T k).2.1 (T k).2.2.1 = some x → s.fieldFound? ref (T k).2.1 (T k).2.2.1 = some x) (hfin : (T k).2.2.2 = false) {ty : FieldType} {v : Value} (hd : parseFieldDescriptor (T k).2.2.1 = some ty) (hn : narrow ty v = v) (hfit : fits ty v = true) (hl : k < fs.length)
    (hdg : decode cc pc = .ok (.putfield index, 3)) (kk : ∀ (H1 : Heap) (locs1 : List Loc), oA G a ci (fs.set k v) H1 → xC [a] H H1 → va_S (xA G) H0 H1 locs1 → W p l e R s m args below meth c H1 locs1 cells slots Q (F0 m (pc + 3) ls rest)) : W p l e R s m args below meth c H locs cells slots Q (F0 m pc ls (v :: .ref a :: rest)) := by
  have hap := va_apart (own := own) hts hin ty0 hty hnm hC.1 hc
  obtain ⟨r, h1, cell, q1, q2, q3, q4⟩ := he
  have hr : r = (C, T, N) := Option.some.inj (h1.symm.trans hc)
  subst hr
  obtain ⟨hSl, hfc, kC, hkC, hkind⟩ := hC.1.1 ci _ hc
  obtain ⟨cf, kf, fi, f, hi, hsl⟩ := hSl k hk
  have hlay := hts _ (hin _ (u_in_lay hk))
  unfold u_lay at hlay
  rw [if_neg (by rw [hfin]; decide)] at hlay
  have hst := (u_facts hfc hkC (u_lays hts hin hk) hi).1
  have h6 := u_store hfc hkC hkind hlay hi hd hn hfit
  refine va_WputK hexec hb (f := f) hown (va_Nw.use rfl hlink) (hsame _ hi) hst (by rw [q2]; exact h6) q1 q3 (by rw [hsl]; exact k2_hasslot (q4 k hk)) rfl rfl hdg fun H' e1 e2 e3 => ?_
  rw [hsl] at e1 ⊢
  exact kk H' _ ⟨_, hc, t_OB.to (V := updV (vp_V fs) k v) ⟨_, e1, q2, q3, t_set q4 hap hk v⟩ (fun j _ => vp_updV_set hl v j)⟩ ⟨Nat.le_of_eq e2.symm, fun q _ hq => e3 q (fun z => hq (by rw [z]; exact List.mem_cons_self))⟩ (hS.put e2 e3 ha)
theorem x_putF (hexec : p.tables.exec = Jvm.exec) (hb : c.code = cc) {own ref C : String} {T : u_T} {N ci index : Nat} {Ts : List Cond} (hts : ∀ w ∈ Ts, w.before args s = true) (hin : ∀ w ∈ u_ws C T N, w ∈ Ts) (ty0 : Nat → FieldType) (hty : ∀ k, k < N → parseFieldDescriptor (T k).2.2.1 = some (ty0 k)) (hnm : ∀ a, a < N → ∀ b, b < N → a ≠ b → (T a).2.1 ≠ (T b).2.1) (hown : s.vm.findClass own = some m.cls) (hC : xCx G s) {H0 : Heap} (hS : va_S (xA G) H0 H locs) (ha : xA G a) {fs : List Value} (he : oA G a ci fs H) (hc : vwCl[ci]? = some (C, T, N)) (k : Nat) (hk : k < N) (hlink : (Cond.fieldLink own index ref (T k).2.1 (T k).2.2.1).before args s = true) (hsame : ∀ x, s.fieldFound? (T k).1 (T k).2.1 (T k).2.2.1 = some x → s.fieldFound? ref (T k).2.1 (T k).2.2.1 = some x) (hfin : (T k).2.2.2 = true) (hin2 : meth.name = "<init>") (hdecl : (T k).1 = own) {ty : FieldType} {v : Value} (hd : parseFieldDescriptor (T k).2.2.1 = some ty) (hn : narrow ty v = v) (hfit : fits ty v = true) (hl : k < fs.length)
    (hdg : decode cc pc = .ok (.putfield index, 3)) (kk : ∀ (H1 : Heap) (locs1 : List Loc), oA G a ci (fs.set k v) H1 → xC [a] H H1 → va_S (xA G) H0 H1 locs1 → W p l e R s m args below meth c H1 locs1 cells slots Q (F0 m (pc + 3) ls rest)) : W p l e R s m args below meth c H locs cells slots Q (F0 m pc ls (v :: .ref a :: rest)) := by
  have hap := va_apart (own := own) hts hin ty0 hty hnm hC.1 hc
  obtain ⟨r, h1, cell, q1, q2, q3, q4⟩ := he
  have hr : r = (C, T, N) := Option.some.inj (h1.symm.trans hc)
  subst hr
  obtain ⟨hSl, hfc, kC, hkC, hkind⟩ := hC.1.1 ci _ hc
  obtain ⟨cf, kf, fi, f, hi, hsl⟩ := hSl k hk
  have hlay := hts _ (hin _ (u_in_lay hk))
  unfold u_lay at hlay
  rw [if_pos hfin] at hlay
  have hst := (u_facts hfc hkC (u_lays hts hin hk) hi).1
  have hcf : m.cls = cf := by
    obtain ⟨_, _, c', _, _, _, -, -, hf', -, -, -, hown2, -⟩ := Cond.laysFinal_spec hlay
    have e1 : c' = cf := by have := hi.symm.trans hf'; simp at this; exact this.1.symm
    rw [hdecl] at hown2
    rw [← e1]; exact Option.some.inj (hown.symm.trans hown2)
  have h6 := u_fits hfc hkC hkind (Or.inr hlay) hi hd hn hfit
  refine W.putFinK hexec hb hown hlink (hsame _ hi) hst hcf hin2 (by rw [q2]; exact h6) q1 q3 (by rw [hsl]; exact k2_hasslot (q4 k hk)) rfl rfl hdg fun H' e1 e2 e3 => ?_
  rw [hsl] at e1 ⊢
  exact kk H' _ ⟨_, hc, t_OB.to (V := updV (vp_V fs) k v) ⟨_, e1, q2, q3, t_set q4 hap hk v⟩ (fun j _ => vp_updV_set hl v j)⟩ ⟨Nat.le_of_eq e2.symm, fun q _ hq => e3 q (fun z => hq (by rw [z]; exact List.mem_cons_self))⟩ (hS.put e2 e3 ha)
/-- rows -/
theorem x_iast (hexec : p.tables.exec = Jvm.exec) (hb : c.code = cc) (hC : xCx G s) {H0 : Heap} (hS : va_S (xA G) H0 H locs) (ha : xA G a) {n : Nat} {f : Nat → Int32} (he : iA G a n f H) {i x : Int32} (hin : vp_in i n) (hdg : decode cc pc = .ok (.iastore, 1))
    (kk : ∀ (H1 : Heap) (locs1 : List Loc), iA G a n (upd f i.toNatClampNeg x) H1 → xC [a] H H1 → va_S (xA G) H0 H1 locs1 → W p l e R s m args below meth c H1 locs1 cells slots Q (F0 m (pc + 1) ls rest)) : W p l e R s m args below meth c H locs cells slots Q (F0 m pc ls (.int x :: .int i :: .ref a :: rest)) := by
  refine W.iast hexec hb he ((hC.1.2 0 _ rfl).1 n (fun j => .int (f j))) (fun q => by cases q) (by show ¬ (i < 0 ∨ (arrV _ _ _).slots.size ≤ _); rw [arrV_size]; exact hin) rfl rfl hdg fun H1 e z oq => ?_
  refine kk H1 _ ?_ ⟨Nat.le_of_eq z.symm, fun q _ hq => oq q (fun z => hq (by rw [z]; exact List.mem_cons_self))⟩ (hS.put z oq ha)
  show H1[a]? = some (vp_cell _ _)
  rw [e, vp_cell_i, vp_cell_i, arrV_store]
  congr 2
  funext q
  by_cases hq : q = i.toNatClampNeg
  · subst hq
    simp [updV, upd]
  · simp [updV, upd, hq]
theorem x_zast (hexec : p.tables.exec = Jvm.exec) (hb : c.code = cc) (hC : xCx G s) {H0 : Heap} (hS : va_S (xA G) H0 H locs) (ha : xA G a) {n : Nat} {f : Nat → Int32} (he : zA G a n f H) {i x : Int32} (hin : vp_in i n) (hdg : decode cc pc = .ok (.bastore, 1))
    (kk : ∀ (H1 : Heap) (locs1 : List Loc), zA G a n (upd f i.toNatClampNeg (vp_nar .boolean x)) H1 → xC [a] H H1 → va_S (xA G) H0 H1 locs1 → W p l e R s m args below meth c H1 locs1 cells slots Q (F0 m (pc + 1) ls rest)) : W p l e R s m args below meth c H locs cells slots Q (F0 m pc ls (.int x :: .int i :: .ref a :: rest)) := by
  refine W.zast hexec hb he ((hC.1.2 1 _ rfl).1 n (fun j => .int (f j))) (fun q => by cases q) (by show ¬ (i < 0 ∨ (arrV _ _ _).slots.size ≤ _); rw [arrV_size]; exact hin) rfl rfl hdg fun H1 e z oq => ?_
  refine kk H1 _ ?_ ⟨Nat.le_of_eq z.symm, fun q _ hq => oq q (fun z => hq (by rw [z]; exact List.mem_cons_self))⟩ (hS.put z oq ha)
  show H1[a]? = some (vp_cell _ _)
  rw [e, vp_cell_i, vp_cell_i, arrV_store]
  congr 2
  funext q
  by_cases hq : q = i.toNatClampNeg
  · subst hq
    simp [updV, upd, vp_nar]
    try rfl
  · simp [updV, upd, hq]
theorem x_last (hexec : p.tables.exec = Jvm.exec) (hb : c.code = cc) (hC : xCx G s) {H0 : Heap} (hS : va_S (xA G) H0 H locs) (ha : xA G a) {n : Nat} {f : Nat → Int64} (he : jA G a n f H) {i : Int32} {x : Int64} (hin : vp_in i n) (hdg : decode cc pc = .ok (.lastore, 1))
    (kk : ∀ (H1 : Heap) (locs1 : List Loc), jA G a n (vp_updL f i.toNatClampNeg x) H1 → xC [a] H H1 → va_S (xA G) H0 H1 locs1 → W p l e R s m args below meth c H1 locs1 cells slots Q (F0 m (pc + 1) ls rest)) : W p l e R s m args below meth c H locs cells slots Q (F0 m pc ls (.long x :: .int i :: .ref a :: rest)) := by
  refine W.last hexec hb he ((hC.1.2 3 _ rfl).1 n (fun j => .long (f j))) (fun q => by cases q) (by show ¬ (i < 0 ∨ (arrV _ _ _).slots.size ≤ _); rw [arrV_size]; exact hin) rfl rfl hdg fun H1 e z oq => ?_
  refine kk H1 _ ?_ ⟨Nat.le_of_eq z.symm, fun q _ hq => oq q (fun z => hq (by rw [z]; exact List.mem_cons_self))⟩ (hS.put z oq ha)
  show H1[a]? = some (vp_cell _ _)
  rw [e, vp_cell_l, vp_cell_l, arrV_store]
  congr 2
  funext q
  by_cases hq : q = i.toNatClampNeg
  · subst hq
    simp [updV, vp_updL]
  · simp [updV, vp_updL, hq]
/-- new objects and rows -/
theorem x_new {c0 : Code} (hexec : p.tables.exec = Jvm.exec) (hb : c0.code = cc) {own C : String} {T : u_T} {N ci index : Nat} {Ts : List Cond} (hts : ∀ w ∈ Ts, w.before args s = true) (hin : ∀ w ∈ u_ws C T N, w ∈ Ts) (ty : Nat → FieldType) (hty : ∀ k, k < N → parseFieldDescriptor (T k).2.2.1 = some (ty k)) (hown : s.vm.findClass own = some m.cls) (hcl : (Cond.classLink own index C).before args s = true) (hinst : (Cond.instantiable C N).before args s = true) (hini : (Cond.initialized C).before args s = true)
    (hC : xCx G s) {H0 : Heap} (hS : va_S (xA G) H0 H locs) (hc : vwCl[ci]? = some (C, T, N)) {fs : List Value} (hfs : ∀ j, j < N → defaultValue (ty j) = vp_V fs j) (hcells : cells + 1 ≤ R.cells) (hslots : slots + N ≤ R.slots) (hdg : decode cc pc = .ok (.new index, 3))
    (kk : ∀ (q : Nat) (H1 : Heap), q = H.size → oA G q ci fs H1 → xC [] H H1 → H1.size = H.size + 1 → va_S (xA G) H0 H1 locs →
      W p l e R s m args below meth c0 H1 locs (cells + 1) (slots + N) Q (F0 m (pc + 3) ls (.ref q :: rest))) : W p l e R s m args below meth c0 H locs cells slots Q (F0 m pc ls rest) := by
  have hKn := hC.1.1 ci _ hc
  refine W.newcK hexec hb hown hcl hinst hini rfl hdg hcells hslots hKn.2.1 rfl fun H1 kC hkC e1 z1 o1 => ?_
  exact kk H.size H1 rfl ⟨_, hc, (u_born ty hts hin hKn hkC e1 hty).to hfs⟩ ⟨by omega, fun q hq _ => o1 q hq⟩ z1 ⟨Nat.le_trans hS.1 (by omega), fun x h1 h2 => (o1 x (Nat.lt_of_lt_of_le h1 hS.1)).trans (hS.2.1 x h1 h2), hS.2.2⟩
theorem x_newI (hexec : p.tables.exec = Jvm.exec) (hb : c.code = cc) (harr : (Cond.arrayClass .int).before args s = true) (hC : xCx G s) {H0 : Heap} (hS : va_S (xA G) H0 H locs) {n : Int32} {N' : Nat} (hn : ¬ n < 0) (hN : n.toNatClampNeg = N') (hbytes : N' * componentBytes .int ≤ 536870912) (hcells : cells + 1 ≤ R.cells) (hslots : slots + N' ≤ R.slots) (hdg : decode cc pc = .ok (.newarray .int, 2))
    (kk : ∀ (q : Nat) (H1 : Heap), q = H.size → iA G q N' (fun _ => 0) H1 → xC [] H H1 → H1.size = H.size + 1 → va_S (xA G) H0 H1 locs →
      W p l e R s m args below meth c H1 locs (cells + 1) (slots + N') Q (F0 m (pc + 2) ls (.ref q :: rest))) : W p l e R s m args below meth c H locs cells slots Q (F0 m pc ls (.int n :: rest)) := by
  refine va_newaK (atype := .int) hexec hb harr rfl hdg rfl hn hN hbytes hcells hslots rfl fun H1 cA e1 z1 o1 hAr hNm => ?_
  have hc : cA = xI G := Option.some.inj (hNm.symm.trans (hC.1.2 0 _ rfl).2)
  subst hc
  exact kk H.size H1 rfl e1 ⟨by omega, fun q hq _ => o1 q hq⟩ z1 ⟨Nat.le_trans hS.1 (by omega), fun x h1 h2 => (o1 x (Nat.lt_of_lt_of_le h1 hS.1)).trans (hS.2.1 x h1 h2), hS.2.2⟩
theorem x_newZ (hexec : p.tables.exec = Jvm.exec) (hb : c.code = cc) (harr : (Cond.arrayClass .boolean).before args s = true) (hC : xCx G s) {H0 : Heap} (hS : va_S (xA G) H0 H locs) {n : Int32} {N' : Nat} (hn : ¬ n < 0) (hN : n.toNatClampNeg = N') (hbytes : N' * componentBytes .boolean ≤ 536870912) (hcells : cells + 1 ≤ R.cells) (hslots : slots + N' ≤ R.slots) (hdg : decode cc pc = .ok (.newarray .boolean, 2))
    (kk : ∀ (q : Nat) (H1 : Heap), q = H.size → zA G q N' (fun _ => 0) H1 → xC [] H H1 → H1.size = H.size + 1 → va_S (xA G) H0 H1 locs →
      W p l e R s m args below meth c H1 locs (cells + 1) (slots + N') Q (F0 m (pc + 2) ls (.ref q :: rest))) : W p l e R s m args below meth c H locs cells slots Q (F0 m pc ls (.int n :: rest)) := by
  refine va_newaK (atype := .boolean) hexec hb harr rfl hdg rfl hn hN hbytes hcells hslots rfl fun H1 cA e1 z1 o1 hAr hNm => ?_
  have hc : cA = xZ G := Option.some.inj (hNm.symm.trans (hC.1.2 1 _ rfl).2)
  subst hc
  exact kk H.size H1 rfl e1 ⟨by omega, fun q hq _ => o1 q hq⟩ z1 ⟨Nat.le_trans hS.1 (by omega), fun x h1 h2 => (o1 x (Nat.lt_of_lt_of_le h1 hS.1)).trans (hS.2.1 x h1 h2), hS.2.2⟩
/-- throw new X(text) -/
theorem x_throw (hexec : p.tables.exec = Jvm.exec) (hb : c.code = cc) (hl : l.stackTraces = false) {cls text : String} {ik is ic : Nat} {Ts : List Cond} (hts : ∀ w ∈ Ts, w.before args s = true)
    (hown : s.vm.findClass "Bidwhistle" = some m.cls) (hcls : Bundle.fit cls = true) (hk : Cond.classLink "Bidwhistle" ik cls ∈ Ts) (hini : Cond.initialized cls ∈ Ts) (htx : (is, text) ∈ xTexts) (hat : ∀ w ∈ (vx_atS "Bidwhistle" ic cls ["java/lang/RuntimeException", "java/lang/Exception"]).filter goodWord, w ∈ Ts)
    (hbad : ∀ w ∈ (vx_atS "Bidwhistle" ic cls ["java/lang/RuntimeException", "java/lang/Exception"]).filter (fun w => !goodWord w), w ∈ xNest ∧ w.onTables = true)
    (hgood : ∀ w ∈ Cond.classLink "Bidwhistle" ik cls :: Cond.initialized cls :: vx_atS "Bidwhistle" ic cls ["java/lang/RuntimeException", "java/lang/Exception"], vx_ot w = true)
    (hC : xCx G s) (hS : va_S (xA G) s.heap H locs) (hsize : ls.size = c.maxLocals)
    (d0 : decode cc pc = .ok (.new ik, 3)) (d3 : decode cc (pc + 3) = .ok (.dup, 1)) (d4 : decode cc (pc + 4) = .ok (.ldc is, 2)) (d6 : decode cc (pc + 6) = .ok (.invokespecial ic, 3)) (d9 : decode cc (pc + 9) = .ok (.athrow, 1))
    (hout : ∀ x ∈ c.exceptionTable.toList, False)
    (hRframes : 5 < R.frames) (hRlocals : (rest.map fun v => v.category).sum + 82 ≤ R.locals) (hRcells : cells + 1 ≤ R.cells) (hRslots : slots + 6 ≤ R.slots) (hlocks : meth.locks = false)
    (hx : ∀ H1 : Heap, xC [] H H1 → px cls H1) (hc : cells + 1 ≤ mc) (hs : slots + 6 ≤ ms) {Qc : Array Value → State → Outcome → State → Prop} :
    W p l e R s m args below meth c H locs cells slots (vx_MQ below Qc (xX G px) args s mc ms (xA G)) (F0 m pc ls rest) := by
  refine vx_throwS (A := xA G) (names := ["java/lang/RuntimeException", "java/lang/Exception"]) (text := text) (sa := xT G is) hexec hb hl hown hcls (by decide +kernel) (hts _ hk) (hts _ hini) (hC.2.2.2.2.2.1 _ htx) ?_ hgood hC.2.2.2.1 hC.2.2.2.2.1 hS hsize d0 d3 d4 d6 d9 (fun x hx => (hout x hx).elim) hRframes hRlocals hRcells hRslots hlocks ?_ hS.2.2 hc hs
  · intro w hw
    by_cases hg : goodWord w = true
    · exact hts _ (hat w (List.mem_filter.mpr ⟨hw, hg⟩))
    · obtain ⟨h1, h2⟩ := hbad w (List.mem_filter.mpr ⟨hw, by simp [hg]⟩)
      exact va_Nw.use h2 (hC.2.1 w h1)
  · intro t ha h1 h2
    exact ⟨hx _ ⟨h1, fun q hq _ => h2 q hq⟩, Nat.le_trans hS.1 h1, fun q hq hn => (h2 q (Nat.lt_of_lt_of_le hq hS.1)).trans (hS.2.1 q hq hn)⟩
end XR
theorem xinc {i k : Nat} {z : Int} (h : Int32.ofInt z = nI k) : nI i + Int32.ofInt z = nI (i + k) := by rw [h]; exact nI_add i k
/-- the posts of readers -/
def xi (H : Heap) (r : Int32) : Option Value → Heap → Prop := fun v H1 => H1 = H ∧ v = some (.int r)
def xl (H : Heap) (r : Int64) : Option Value → Heap → Prop := fun v H1 => H1 = H ∧ v = some (.long r)
def xr (H : Heap) (r : Nat) : Option Value → Heap → Prop := fun v H1 => H1 = H ∧ v = some (.ref r)
def xv (H : Heap) : Option Value → Heap → Prop := fun v H1 => H1 = H ∧ v = none
/-- what a method throws: one class, under a condition; the heap stays -/
def xe (H : Heap) (cls : String) (P : Prop) : String → Heap → Prop := fun E H1 => E = cls ∧ P ∧ xC [] H H1
theorem x_met {l : Launch} {G : xG} {y : MethodName} {ws : List Cond} {rm : Room} {As : List Value} {H : Heap} {post : Option Value → Heap → Prop} (h : xMet l G y ws rm As H post xNo) : Met l y ws rm (xP G As H) (xQ G post) rm.cells rm.slots (xA G) := by
  intro p e ha hc hk s m args below hf happ hP hK
  obtain ⟨n, o, h1, h2, h3, h4⟩ := h p e ha hc hk s m args below hf happ hP hK
  refine ⟨n, o, h1, h2, h3, ?_⟩
  rcases h4 with h4 | ⟨q, -, E, ce, L, hx, -⟩
  · exact h4
  · exact hx.1.elim
section XR2
variable {p : Program} {l : Launch} {e : Env} {R : Room} {s : State} {m : MethodId} {args : Array Value} {below : List Frame} {meth : Method} {c : Code} {H : Heap} {locs : List Loc} {cells slots : Nat} {Q : State → Prop}
variable {cc : ByteArray} {pc : Nat} {ls : Array Slot} {rest st0 : List Value} {G G1 : xG} {a : Nat} {mc ms : Nat} {post : Option Value → Heap → Prop} {px : String → Heap → Prop}
theorem x_runOf {g : JFrame} {Qa : State → Outcome → State → Prop} {XC : String → State → State → Prop} {free : Addr → Prop} (h : va_Run p l e R s m args below meth c H locs cells slots mc ms g rest Qa free) : vx_Run p l e R s m args below meth c H locs cells slots mc ms g rest Qa XC free := fun T hT X => Or.inl (h T hT X)
theorem x_intE {aa : Array Value} {r : Int32} (hr : vx_Run p l e R s m args below meth c H locs cells slots mc ms (F0 m pc ls st0) rest (xQ G (xi H r) aa) (xX G xNo) (xA G)) (hS : va_S (xA G) s.heap H locs)
    (kk : ∀ (locs1 : List Loc), va_S (xA G) s.heap H locs1 → W p l e R s m args below meth c H locs1 (cells + mc) (slots + ms) Q (F0 m (pc + 3) ls (.int r :: rest))) : W p l e R s m args below meth c H locs cells slots Q (F0 m pc ls st0) := by
  refine x_call hr hS (fun _ h => h) (fun _ _ _ _ _ h => h.elim) (fun v H1 locs1 hp _ _ hS1 => ?_)
  obtain ⟨rfl, rfl⟩ := hp
  exact kk locs1 hS1
theorem x_lngE {aa : Array Value} {r : Int64} (hr : vx_Run p l e R s m args below meth c H locs cells slots mc ms (F0 m pc ls st0) rest (xQ G (xl H r) aa) (xX G xNo) (xA G)) (hS : va_S (xA G) s.heap H locs)
    (kk : ∀ (locs1 : List Loc), va_S (xA G) s.heap H locs1 → W p l e R s m args below meth c H locs1 (cells + mc) (slots + ms) Q (F0 m (pc + 3) ls (.long r :: rest))) : W p l e R s m args below meth c H locs cells slots Q (F0 m pc ls st0) := by
  refine x_call hr hS (fun _ h => h) (fun _ _ _ _ _ h => h.elim) (fun v H1 locs1 hp _ _ hS1 => ?_)
  obtain ⟨rfl, rfl⟩ := hp
  exact kk locs1 hS1
theorem x_refE {aa : Array Value} {r : Nat} (hr : vx_Run p l e R s m args below meth c H locs cells slots mc ms (F0 m pc ls st0) rest (xQ G (xr H r) aa) (xX G xNo) (xA G)) (hS : va_S (xA G) s.heap H locs)
    (kk : ∀ (locs1 : List Loc), va_S (xA G) s.heap H locs1 → W p l e R s m args below meth c H locs1 (cells + mc) (slots + ms) Q (F0 m (pc + 3) ls (.ref r :: rest))) : W p l e R s m args below meth c H locs cells slots Q (F0 m pc ls st0) := by
  refine x_call hr hS (fun _ h => h) (fun _ _ _ _ _ h => h.elim) (fun v H1 locs1 hp _ _ hS1 => ?_)
  obtain ⟨rfl, rfl⟩ := hp
  exact kk locs1 hS1
theorem x_iald (hexec : p.tables.exec = Jvm.exec) (hb : c.code = cc) (hC : xCx G s) {n j : Nat} {f : Nat → Int32} (he : iA G a n f H) (hj : j < n) (hn : n < 2147483648) (hdg : decode cc pc = .ok (.iaload, 1))
    (kk : W p l e R s m args below meth c H locs cells slots Q (F0 m (pc + 1) ls (.int (f j) :: rest))) : W p l e R s m args below meth c H locs cells slots Q (F0 m pc ls (.int (nI j) :: .ref a :: rest)) := by
  refine va_iald (D := xD G) hexec hb hC.1 (x1 he) 0 0 rfl rfl (vp_in_nI hj hn) hdg ?_
  rw [nI_clamp (Nat.lt_trans hj hn)]
  exact kk
theorem x_zald (hexec : p.tables.exec = Jvm.exec) (hb : c.code = cc) (hC : xCx G s) {n j : Nat} {f : Nat → Int32} (he : zA G a n f H) (hj : j < n) (hn : n < 2147483648) (hdg : decode cc pc = .ok (.baload, 1))
    (kk : W p l e R s m args below meth c H locs cells slots Q (F0 m (pc + 1) ls (.int (f j) :: rest))) : W p l e R s m args below meth c H locs cells slots Q (F0 m pc ls (.int (nI j) :: .ref a :: rest)) := by
  refine va_zald (D := xD G) hexec hb hC.1 (x1 he) 0 1 rfl rfl (vp_in_nI hj hn) hdg ?_
  rw [nI_clamp (Nat.lt_trans hj hn)]
  exact kk
theorem x_jald (hexec : p.tables.exec = Jvm.exec) (hb : c.code = cc) (hC : xCx G s) {n j : Nat} {f : Nat → Int64} (he : jA G a n f H) (hj : j < n) (hn : n < 2147483648) (hdg : decode cc pc = .ok (.laload, 1))
    (kk : W p l e R s m args below meth c H locs cells slots Q (F0 m (pc + 1) ls (.long (f j) :: rest))) : W p l e R s m args below meth c H locs cells slots Q (F0 m pc ls (.int (nI j) :: .ref a :: rest)) := by
  refine va_lald (D := xD G) hexec hb hC.1 (x1 he) 0 3 rfl rfl (vp_in_nI hj hn) hdg ?_
  rw [nI_clamp (Nat.lt_trans hj hn)]
  exact kk
theorem x_iastn (hexec : p.tables.exec = Jvm.exec) (hb : c.code = cc) (hC : xCx G s) {H0 : Heap} (hS : va_S (xA G) H0 H locs) (ha : xA G a) {n j : Nat} {f : Nat → Int32} (he : iA G a n f H) {x : Int32} (hj : j < n) (hn : n < 2147483648) (hdg : decode cc pc = .ok (.iastore, 1))
    (kk : ∀ (H1 : Heap) (locs1 : List Loc), iA G a n (upd f j x) H1 → xC [a] H H1 → va_S (xA G) H0 H1 locs1 → W p l e R s m args below meth c H1 locs1 cells slots Q (F0 m (pc + 1) ls rest)) : W p l e R s m args below meth c H locs cells slots Q (F0 m pc ls (.int x :: .int (nI j) :: .ref a :: rest)) := by
  refine x_iast hexec hb hC hS ha he (vp_in_nI hj hn) hdg fun H1 locs1 h1 h2 h3 => kk H1 locs1 ?_ h2 h3
  rw [nI_clamp (Nat.lt_trans hj hn)] at h1
  exact h1
theorem x_zastn (hexec : p.tables.exec = Jvm.exec) (hb : c.code = cc) (hC : xCx G s) {H0 : Heap} (hS : va_S (xA G) H0 H locs) (ha : xA G a) {n j : Nat} {f : Nat → Int32} (he : zA G a n f H) {x : Int32} (hj : j < n) (hn : n < 2147483648) (hx : narrow .boolean (.int x) = .int x) (hdg : decode cc pc = .ok (.bastore, 1))
    (kk : ∀ (H1 : Heap) (locs1 : List Loc), zA G a n (upd f j x) H1 → xC [a] H H1 → va_S (xA G) H0 H1 locs1 → W p l e R s m args below meth c H1 locs1 cells slots Q (F0 m (pc + 1) ls rest)) : W p l e R s m args below meth c H locs cells slots Q (F0 m pc ls (.int x :: .int (nI j) :: .ref a :: rest)) := by
  refine x_zast hexec hb hC hS ha he (vp_in_nI hj hn) hdg fun H1 locs1 h1 h2 h3 => kk H1 locs1 ?_ h2 h3
  have e1 : vp_nar .boolean x = x := by unfold vp_nar; rw [hx]
  rw [nI_clamp (Nat.lt_trans hj hn), e1] at h1
  exact h1
theorem x_jastn (hexec : p.tables.exec = Jvm.exec) (hb : c.code = cc) (hC : xCx G s) {H0 : Heap} (hS : va_S (xA G) H0 H locs) (ha : xA G a) {n j : Nat} {f : Nat → Int64} (he : jA G a n f H) {x : Int64} (hj : j < n) (hn : n < 2147483648) (hdg : decode cc pc = .ok (.lastore, 1))
    (kk : ∀ (H1 : Heap) (locs1 : List Loc), jA G a n (vp_updL f j x) H1 → xC [a] H H1 → va_S (xA G) H0 H1 locs1 → W p l e R s m args below meth c H1 locs1 cells slots Q (F0 m (pc + 1) ls rest)) : W p l e R s m args below meth c H locs cells slots Q (F0 m pc ls (.long x :: .int (nI j) :: .ref a :: rest)) := by
  refine x_last hexec hb hC hS ha he (vp_in_nI hj hn) hdg fun H1 locs1 h1 h2 h3 => kk H1 locs1 ?_ h2 h3
  rw [nI_clamp (Nat.lt_trans hj hn)] at h1
  exact h1
end XR2
/-- a new cell's address is none of the old ones -/
theorem xlt {D : va_G} {cl : List vw_C} {q : Nat × va_E} {H : Heap} {b : Nat} (h : va_at D cl q H) (hb : b = H.size) : q.1 ≠ b := Nat.ne_of_lt (by rw [hb]; exact h.lt)
/-- booleans as ints -/
def xb (b : Bool) : Int32 := if b then 1 else 0
theorem xb_nar (b : Bool) : narrow .boolean (.int (xb b)) = .int (xb b) := by cases b <;> rfl
theorem xb_fit (b : Bool) : fits .boolean (.int (xb b)) = true := by cases b <;> rfl
theorem xb_0 {b : Bool} : xb b = 0 ↔ b = false := by cases b <;> simp [xb]
theorem xb_eq {a b : Bool} : xb a = xb b ↔ a = b := by cases a <;> cases b <;> simp [xb]
