/-! THE CLAIM OUT OF ONE WALK OF THE LAW'S BODY. Your part is whole_start (and what it stands on); all else here is the same for every law, but numbers. -/
def R_law : String := "BidwhistleLaw"
def lw_P (b : Addr) (xs : List Int32) (args : Array Value) (s : State) : Prop := args = #[.ref b] ∧ s.IntsAt b xs ∧ xs.length ≤ 3072 ∧ (Jvm.Cond.and given_1 narrow_1).before args s = true
def lw_Q (_ : Array Value) (s : State) (o : Outcome) (t : State) : Prop := o = .returned (some (.int 1)) ∧ Framed s o t [] 601024 7293034
def lw_Z (below : List Frame) (a : Array Value) (s : State) : State → Prop := fun t => ∃ o, t.status = .running ∧ Ended t below o ∧ lw_Q a s o t
/-- the law's own end, with 1 on the stack, nothing written that was there before, its room as the claim has it -/
theorem lw_ret {p : Program} {l : Launch} {e : Env} {s : State} {m : MethodId} {below : List Frame} {meth : Method} {c : Code} {b : Nat} (hx : p.tables.exec = Jvm.exec) (hb : c.code = code) (hr : meth.sig.returnType = ret) (hlocks : meth.locks = false) {pc : Nat} {H : Heap} {ls : Array Slot} (hdg : decode code pc = .ok (.ireturn, 1)) : W p l e room_1 s m #[Value.ref b] below meth c H [] 601024 7293034 (lw_Z below #[Value.ref b] s) (F0 m pc ls [.int 1]) := by
  intro T hT X
  obtain ⟨fs, hret, hrun, hended, hW, hframe⟩ := X.leave (v := some (.int 1)) (hlocks := hlocks) (fun h => by rw [hr] at h; cases h)
  have hmeth' : T.vm.method? m = some meth := X.method'
  refine ⟨T.setFrames fs, ?_, .returned (some (.int 1)), hrun, hended, rfl, ⟨_, rfl⟩, hW, hframe⟩
  jvm_step X.here [X.here.top, hx, hb, hdg, hmeth', hr, ret, narrow_b1]
  (try refine ⟨rfl, ?_⟩); (try refine ⟨rfl, ?_⟩)
  first | (intro acts; rw [hret _ acts rfl rfl rfl]) | rw [hret _ _ rfl rfl rfl]
  exact Steps.refl _
/-- what holds at the law's entry: the machine, the code, the tables' words (any of lw_tbl by 'hts w (by decide +kernel)'), the script of L ints xs at the cell b, what the Statement gives of the start (any of its parts by flat_of_before) -/
def lw_At (p : Program) (s : State) (m : MethodId) (meth : Method) (c : Code) (b L : Nat) (xs : Nat → Int32) : Prop :=
  p.tables.exec = Jvm.exec ∧ c.code = code ∧ meth.sig.returnType = ret ∧ c.maxLocals = 7 ∧ s.vm.findClass R_law = some m.cls ∧ (∀ w ∈ lw_tbl, w.before #[Value.ref b] s = true) ∧ va_X b L xs s s.heap ∧ b < s.heap.size ∧ meth.locks = false ∧ (Jvm.Cond.and given_1 narrow_1).before #[Value.ref b] s = true
/-! the law's invariant -/
abbrev lGw (G : xG) (am : Nat → Nat) : xG := xGa G (fun q => xA G q ∧ ∀ i, i < 11 → q ≠ am i)
abbrev lGm (G : xG) (am : Nat → Nat) (B : Nat) : xG := xGa G (fun q => (∃ i, i < 11 ∧ q = am i) ∨ B ≤ q)
/-- what doesn't change -/
def L0 (G : xG) (s : State) (o9 : Nat) (am : Nat → Nat) : Prop := (∀ q, xA G q ↔ s.heap.size ≤ q) ∧ xA G o9 ∧ (∀ i, i < 11 → o9 ≠ am i) ∧ xE G < s.heap.size
def LI (G : xG) (o9 : Nat) (am ad : Nat → Nat) (S : zS) (H : Heap) : Prop := lInv S ∧ (∃ f, jA G o9 1 f H) ∧ XS (xGo (lGw G am) o9) ad S H ∧ ∃ tp th g W z, MX G am S tp th g W z H
theorem xC.all {H H1 : Heap} (hz : H.size ≤ H1.size) : ∃ L, xC L H H1 ∧ ∀ q, H1[q]? = H[q]? → q ∉ L := by
  refine ⟨(List.range H.size).filter (fun q => @decide (¬ H1[q]? = H[q]?) (Classical.propDecidable _)), ⟨hz, fun q hq hn => ?_⟩, fun q he hn => ?_⟩
  · exact Classical.byContradiction fun z => hn (List.mem_filter.mpr ⟨List.mem_range.mpr hq, by simpa using z⟩)
  · have := (List.mem_filter.mp hn).2
    simp [he] at this
section LL
variable {G : xG} {s : State} {o9 tp th : Nat} {am ad : Nat → Nat} {S : zS} {g : Nat → Int} {W : Nat → Int32} {z : Nat → Bool} {H H1 : Heap} {locs : List Loc}
theorem MX.un {A : Nat → Prop} (h : MX (xGa G A) am S tp th g W z H) (hA : ∀ i, i < 11 → xA G (am i)) : MX G am S tp th g W z H := ⟨⟨h.1.1, fun i hi _ => hA i hi⟩, h.2⟩
theorem MX.owns (h : MX G am S tp th g W z H) : ∀ i, i < 11 → xA G (am i) := fun i hi => h.1.2 i hi (by omega)
/-- a call of the class leaves the reference's cells -/
theorem MX.w (h : MX G am S tp th g W z H) (hz : H.size ≤ H1.size) (hk : ∀ q, q < H.size → ¬ xA (lGw G am) q → H1[q]? = H[q]?) : MX G am S tp th g W z H1 := by
  obtain ⟨L, hc, hL⟩ := xC.all hz
  exact h.kept hc (fun i hi => hL _ (hk _ (h.lt i hi) (fun q => q.2 i hi rfl)))
theorem MX.w1 (h : MX G am S tp th g W z H) (hz : H.size ≤ H1.size) (hk : ∀ q, q < H.size → ¬ xA (xGo (lGw G am) o9) q → H1[q]? = H[q]?) : MX G am S tp th g W z H1 := h.w hz (fun q hq hn => hk q hq (fun w => hn w.1))
/-- a call of the reference leaves the class's cells, and the row of one long -/
theorem XS.m (h : XS (xGo (lGw G am) o9) ad S H) (h0 : L0 G s o9 am) (hS : va_S (xA G) s.heap H locs) (hM : ∀ i, i < 11 → xA G (am i)) (hz : H.size ≤ H1.size) (hk : ∀ q, q < H.size → ¬ xA (lGm G am H.size) q → H1[q]? = H[q]?) : XS (xGo (lGw G am) o9) ad S H1 := by
  obtain ⟨L, hc, hL⟩ := xC.all hz
  refine h.kept hc (fun i hi => hL _ ?_)
  have hlt : ad i < H.size := h.lt (Nat.lt_of_lt_of_le h0.2.2.2 hS.1) hi
  refine hk _ hlt (fun q => ?_)
  rcases q with ⟨j, hj, e⟩ | q
  · rcases h.in hi with w | w
    · exact w.1.2 j hj e
    · have w : ad i = xE G := w
      have h1 := (h0.1 _).mp (hM j hj)
      have h2 := h0.2.2.2
      rw [← e, w] at h1
      omega
  · omega
theorem L0.o (h0 : L0 G s o9 am) {f : Nat → Int64} (ho : jA G o9 1 f H) (hk : ∀ q, q < H.size → ¬ xA (lGm G am H.size) q → H1[q]? = H[q]?) : jA G o9 1 f H1 := by
  have hlt : o9 < H.size := ho.lt
  refine ho.kept (hk _ hlt (fun q => ?_))
  rcases q with ⟨j, hj, e⟩ | q
  · exact h0.2.2.1 j hj e
  · omega
theorem L0.w {A : Prop} (h0 : L0 G s o9 am) : xA (lGw G am) o9 := ⟨h0.2.1, h0.2.2.1⟩
theorem L0.w2 (hM : MX G am S tp th g W z H) (hS : va_S (xA G) s.heap H locs) (h0 : L0 G s o9 am) : ∀ q, H.size ≤ q → xA (lGw G am) q := fun q hq => ⟨(h0.1 q).mpr (Nat.le_trans hS.1 hq), fun i hi e => by have := hM.lt i hi; omega⟩
theorem L0.m1 (h0 : L0 G s o9 am) (hM : ∀ i, i < 11 → xA G (am i)) (hS : va_S (xA G) s.heap H locs) : ∀ q, xA (lGm G am H.size) q → xA G q := fun q hq => by
  rcases hq with ⟨j, hj, e⟩ | hq
  · rw [e]; exact hM j hj
  · exact (h0.1 q).mpr (Nat.le_trans hS.1 hq)
theorem lcmp_rf (x : Int64) : lg_cmp x x = 0 := (lg_cmp_eq x x).mpr rfl
end LL
theorem l_evw {S : zS} {u : Int32} (h : lInv S) (hk : kevolve S u = 0) : zW (zevolve S u.toNatClampNeg).2 := by
  have hn := h.1.1
  unfold kevolve at hk
  split at hk
  · split at hk
    · cases hk
    · exact h.1.evolve (by omega) (by omega)
  · cases hk
theorem kle_step (S : zS) (p : Int32) : kstep S p ≤ 3 := by unfold kstep; split <;> (try split) <;> omega
theorem kle_store (S : zS) : (if kstore S = 0 then 0 else 1) ≤ 3 := by split <;> omega
theorem kle_bid (S : zS) (p q : Int32) : kbid S p q ≤ 3 := by unfold kbid; split <;> (try split) <;> omega
theorem kle_strat (S : zS) (p : Int32) : kstrat S p ≤ 3 := by unfold kstrat; split <;> omega
theorem kle_join (S : zS) (p : Int32) : kjoin S p ≤ 3 := by unfold kjoin; split <;> (try split) <;> omega
theorem kle_leave (S : zS) (p : Int32) : kleave S p ≤ 3 := by unfold kleave; split <;> (try split) <;> omega
theorem kle_val (S : zS) (p : Int32) : kval S p ≤ 3 := by unfold kval; split <;> omega
theorem kle_tell (S : zS) (p q : Int32) : ktell S p q ≤ 3 := by unfold ktell; split <;> (try split) <;> omega
theorem kle_profit (S : zS) (u p q v w : Int32) : kprofit S u p q v w ≤ 3 := by unfold kprofit; split <;> (try split) <;> omega
theorem kle_worth (S : zS) (u p : Int32) : kworth S u p ≤ 3 := by unfold kworth; split <;> (try split) <;> (try split) <;> omega
theorem kle_best (S : zS) (u : Int32) : kbest S u ≤ 3 := by unfold kbest; split <;> omega
theorem kle_evolve (S : zS) (u : Int32) : kevolve S u ≤ 3 := by unfold kevolve; split <;> (try split) <;> omega
theorem nI_K {K : Nat} (h : K ≤ 3) : nI K = 0 ↔ K = 0 := nI_eq (a := K) (b := 0) (by omega) (by omega)
