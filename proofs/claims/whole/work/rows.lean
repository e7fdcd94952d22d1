section
-- ===== PART A: goes FIRST, ahead of the names: the tables' words, and 'selects' of the private methods out of them =====
/-- a private method of a class that the tables say can be made, by its rows of tables_1 -/
def lw_okq (q : MethodName × Nat) : Prop := (q.1.cls ≠ "java/lang/invoke/MethodHandle" ∧ q.1.cls ≠ "java/lang/invoke/VarHandle") ∧ Cond.instantiable q.1.cls q.2 ∈ tables_1 ∧ Cond.privateMethod q.1 ∈ tables_1 ∧ Cond.instanceMethod q.1 ∈ tables_1
theorem lw_p0 : lw_okq (⟨"java/lang/Throwable", "fillInStackTrace", "(I)Ljava/lang/Throwable;"⟩, 6) := ⟨⟨by decide +kernel, by decide +kernel⟩, List.mem_of_getElem? (i := 213) (by decide +kernel), List.mem_of_getElem? (i := 211) (by decide +kernel), List.mem_of_getElem? (i := 212) (by decide +kernel)⟩
theorem lw_p1 : lw_okq (⟨"Bidwhistle", "numberOf", "(LBidwhistle$Program;)I"⟩, 11) := ⟨⟨by decide +kernel, by decide +kernel⟩, List.mem_of_getElem? (i := 23) (by decide +kernel), List.mem_of_getElem? (i := 290) (by decide +kernel), List.mem_of_getElem? (i := 291) (by decide +kernel)⟩
theorem lw_p2 : lw_okq (⟨"Bidwhistle", "keep", "(LBidwhistle$Program;II)I"⟩, 11) := ⟨⟨by decide +kernel, by decide +kernel⟩, List.mem_of_getElem? (i := 23) (by decide +kernel), List.mem_of_getElem? (i := 314) (by decide +kernel), List.mem_of_getElem? (i := 315) (by decide +kernel)⟩
theorem lw_p3 : lw_okq (⟨"Bidwhistle", "stepsOfLine", "(I)I"⟩, 11) := ⟨⟨by decide +kernel, by decide +kernel⟩, List.mem_of_getElem? (i := 23) (by decide +kernel), List.mem_of_getElem? (i := 369) (by decide +kernel), List.mem_of_getElem? (i := 370) (by decide +kernel)⟩
theorem lw_p4 : lw_okq (⟨"Bidwhistle", "kindOf", "(LBidwhistle$Strategy;)I"⟩, 11) := ⟨⟨by decide +kernel, by decide +kernel⟩, List.mem_of_getElem? (i := 23) (by decide +kernel), List.mem_of_getElem? (i := 412) (by decide +kernel), List.mem_of_getElem? (i := 413) (by decide +kernel)⟩
theorem lw_p5 : lw_okq (⟨"java/util/ArrayList", "add", "(Ljava/lang/Object;[Ljava/lang/Object;I)V"⟩, 3) := ⟨⟨by decide +kernel, by decide +kernel⟩, List.mem_of_getElem? (i := 77) (by decide +kernel), List.mem_of_getElem? (i := 425) (by decide +kernel), List.mem_of_getElem? (i := 426) (by decide +kernel)⟩
theorem lw_p6 : lw_okq (⟨"java/util/ArrayList", "grow", "()[Ljava/lang/Object;"⟩, 3) := ⟨⟨by decide +kernel, by decide +kernel⟩, List.mem_of_getElem? (i := 77) (by decide +kernel), List.mem_of_getElem? (i := 429) (by decide +kernel), List.mem_of_getElem? (i := 430) (by decide +kernel)⟩
theorem lw_p7 : lw_okq (⟨"java/util/ArrayList", "grow", "(I)[Ljava/lang/Object;"⟩, 3) := ⟨⟨by decide +kernel, by decide +kernel⟩, List.mem_of_getElem? (i := 77) (by decide +kernel), List.mem_of_getElem? (i := 433) (by decide +kernel), List.mem_of_getElem? (i := 434) (by decide +kernel)⟩
theorem lw_p8 : lw_okq (⟨"Bidwhistle", "strategyAt", "(I)LBidwhistle$Strategy;"⟩, 11) := ⟨⟨by decide +kernel, by decide +kernel⟩, List.mem_of_getElem? (i := 23) (by decide +kernel), List.mem_of_getElem? (i := 482) (by decide +kernel), List.mem_of_getElem? (i := 483) (by decide +kernel)⟩
theorem lw_p9 : lw_okq (⟨"Bidwhistle", "poolSize", "()I"⟩, 11) := ⟨⟨by decide +kernel, by decide +kernel⟩, List.mem_of_getElem? (i := 23) (by decide +kernel), List.mem_of_getElem? (i := 538) (by decide +kernel), List.mem_of_getElem? (i := 539) (by decide +kernel)⟩
theorem lw_p10 : lw_okq (⟨"Bidwhistle", "worthByStrategies", "(ILBidwhistle$Strategy;)I"⟩, 11) := ⟨⟨by decide +kernel, by decide +kernel⟩, List.mem_of_getElem? (i := 23) (by decide +kernel), List.mem_of_getElem? (i := 615) (by decide +kernel), List.mem_of_getElem? (i := 616) (by decide +kernel)⟩
theorem lw_p11 : lw_okq (⟨"Bidwhistle", "profitOfRounds", "(ILBidwhistle$Strategy;LBidwhistle$Strategy;)I"⟩, 11) := ⟨⟨by decide +kernel, by decide +kernel⟩, List.mem_of_getElem? (i := 23) (by decide +kernel), List.mem_of_getElem? (i := 619) (by decide +kernel), List.mem_of_getElem? (i := 620) (by decide +kernel)⟩
theorem lw_p12 : lw_okq (⟨"Bidwhistle", "layBids", "(ILBidwhistle$Row;)V"⟩, 11) := ⟨⟨by decide +kernel, by decide +kernel⟩, List.mem_of_getElem? (i := 23) (by decide +kernel), List.mem_of_getElem? (i := 631) (by decide +kernel), List.mem_of_getElem? (i := 632) (by decide +kernel)⟩
theorem lw_p13 : lw_okq (⟨"Bidwhistle", "profitInRows", "(IIILBidwhistle$Row;LBidwhistle$Row;)I"⟩, 11) := ⟨⟨by decide +kernel, by decide +kernel⟩, List.mem_of_getElem? (i := 23) (by decide +kernel), List.mem_of_getElem? (i := 635) (by decide +kernel), List.mem_of_getElem? (i := 636) (by decide +kernel)⟩
theorem lw_p14 : lw_okq (⟨"Bidwhistle", "layWorths", "(I)V"⟩, 11) := ⟨⟨by decide +kernel, by decide +kernel⟩, List.mem_of_getElem? (i := 23) (by decide +kernel), List.mem_of_getElem? (i := 646) (by decide +kernel), List.mem_of_getElem? (i := 647) (by decide +kernel)⟩
theorem lw_p15 : lw_okq (⟨"Bidwhistle", "strongestBut", "(I)I"⟩, 11) := ⟨⟨by decide +kernel, by decide +kernel⟩, List.mem_of_getElem? (i := 23) (by decide +kernel), List.mem_of_getElem? (i := 650) (by decide +kernel), List.mem_of_getElem? (i := 651) (by decide +kernel)⟩
def lw_privs_1 : List (MethodName × Nat) := [(⟨"java/lang/Throwable", "fillInStackTrace", "(I)Ljava/lang/Throwable;"⟩, 6), (⟨"Bidwhistle", "numberOf", "(LBidwhistle$Program;)I"⟩, 11), (⟨"Bidwhistle", "keep", "(LBidwhistle$Program;II)I"⟩, 11), (⟨"Bidwhistle", "stepsOfLine", "(I)I"⟩, 11), (⟨"Bidwhistle", "kindOf", "(LBidwhistle$Strategy;)I"⟩, 11), (⟨"java/util/ArrayList", "add", "(Ljava/lang/Object;[Ljava/lang/Object;I)V"⟩, 3), (⟨"java/util/ArrayList", "grow", "()[Ljava/lang/Object;"⟩, 3), (⟨"java/util/ArrayList", "grow", "(I)[Ljava/lang/Object;"⟩, 3), (⟨"Bidwhistle", "strategyAt", "(I)LBidwhistle$Strategy;"⟩, 11), (⟨"Bidwhistle", "poolSize", "()I"⟩, 11), (⟨"Bidwhistle", "worthByStrategies", "(ILBidwhistle$Strategy;)I"⟩, 11), (⟨"Bidwhistle", "profitOfRounds", "(ILBidwhistle$Strategy;LBidwhistle$Strategy;)I"⟩, 11), (⟨"Bidwhistle", "layBids", "(ILBidwhistle$Row;)V"⟩, 11), (⟨"Bidwhistle", "profitInRows", "(IIILBidwhistle$Row;LBidwhistle$Row;)I"⟩, 11), (⟨"Bidwhistle", "layWorths", "(I)V"⟩, 11), (⟨"Bidwhistle", "strongestBut", "(I)I"⟩, 11)]
theorem lw_r1 : ∀ q ∈ lw_privs_1, lw_okq q := List.forall_mem_cons.mpr ⟨lw_p0, List.forall_mem_cons.mpr ⟨lw_p1, List.forall_mem_cons.mpr ⟨lw_p2, List.forall_mem_cons.mpr ⟨lw_p3, List.forall_mem_cons.mpr ⟨lw_p4, List.forall_mem_cons.mpr ⟨lw_p5, List.forall_mem_cons.mpr ⟨lw_p6, List.forall_mem_cons.mpr ⟨lw_p7, List.forall_mem_cons.mpr ⟨lw_p8, List.forall_mem_cons.mpr ⟨lw_p9, List.forall_mem_cons.mpr ⟨lw_p10, List.forall_mem_cons.mpr ⟨lw_p11, List.forall_mem_cons.mpr ⟨lw_p12, List.forall_mem_cons.mpr ⟨lw_p13, List.forall_mem_cons.mpr ⟨lw_p14, List.forall_mem_cons.mpr ⟨lw_p15, fun _ h => absurd h List.not_mem_nil⟩⟩⟩⟩⟩⟩⟩⟩⟩⟩⟩⟩⟩⟩⟩⟩
theorem lw_p16 : lw_okq (⟨"Bidwhistle", "weakest", "()I"⟩, 11) := ⟨⟨by decide +kernel, by decide +kernel⟩, List.mem_of_getElem? (i := 23) (by decide +kernel), List.mem_of_getElem? (i := 662) (by decide +kernel), List.mem_of_getElem? (i := 663) (by decide +kernel)⟩
theorem lw_p17 : lw_okq (⟨"Bidwhistle", "cross", "(LBidwhistle$Program;LBidwhistle$Program;)V"⟩, 11) := ⟨⟨by decide +kernel, by decide +kernel⟩, List.mem_of_getElem? (i := 23) (by decide +kernel), List.mem_of_getElem? (i := 666) (by decide +kernel), List.mem_of_getElem? (i := 667) (by decide +kernel)⟩
theorem lw_p18 : lw_okq (⟨"Bidwhistle", "letChildJoin", "(II)I"⟩, 11) := ⟨⟨by decide +kernel, by decide +kernel⟩, List.mem_of_getElem? (i := 23) (by decide +kernel), List.mem_of_getElem? (i := 671) (by decide +kernel), List.mem_of_getElem? (i := 672) (by decide +kernel)⟩
theorem lw_p19 : lw_okq (⟨"BidwhistleModel", "goes", "(I)Z"⟩, 14) := ⟨⟨by decide +kernel, by decide +kernel⟩, List.mem_of_getElem? (i := 675) (by decide +kernel), List.mem_of_getElem? (i := 739) (by decide +kernel), List.mem_of_getElem? (i := 740) (by decide +kernel)⟩
theorem lw_p20 : lw_okq (⟨"BidwhistleModel", "found", "(I)I"⟩, 14) := ⟨⟨by decide +kernel, by decide +kernel⟩, List.mem_of_getElem? (i := 675) (by decide +kernel), List.mem_of_getElem? (i := 751) (by decide +kernel), List.mem_of_getElem? (i := 752) (by decide +kernel)⟩
theorem lw_p21 : lw_okq (⟨"BidwhistleModel", "areSame", "(II)Z"⟩, 14) := ⟨⟨by decide +kernel, by decide +kernel⟩, List.mem_of_getElem? (i := 675) (by decide +kernel), List.mem_of_getElem? (i := 755) (by decide +kernel), List.mem_of_getElem? (i := 756) (by decide +kernel)⟩
theorem lw_p22 : lw_okq (⟨"BidwhistleModel", "runs", "(II)Z"⟩, 14) := ⟨⟨by decide +kernel, by decide +kernel⟩, List.mem_of_getElem? (i := 675) (by decide +kernel), List.mem_of_getElem? (i := 759) (by decide +kernel), List.mem_of_getElem? (i := 760) (by decide +kernel)⟩
theorem lw_p23 : lw_okq (⟨"BidwhistleModel", "keeps", "(III)V"⟩, 14) := ⟨⟨by decide +kernel, by decide +kernel⟩, List.mem_of_getElem? (i := 675) (by decide +kernel), List.mem_of_getElem? (i := 768) (by decide +kernel), List.mem_of_getElem? (i := 769) (by decide +kernel)⟩
theorem lw_p24 : lw_okq (⟨"BidwhistleModel", "isStrategy", "(I)Z"⟩, 14) := ⟨⟨by decide +kernel, by decide +kernel⟩, List.mem_of_getElem? (i := 675) (by decide +kernel), List.mem_of_getElem? (i := 780) (by decide +kernel), List.mem_of_getElem? (i := 781) (by decide +kernel)⟩
theorem lw_p25 : lw_okq (⟨"BidwhistleModel", "bidOf", "(II)I"⟩, 14) := ⟨⟨by decide +kernel, by decide +kernel⟩, List.mem_of_getElem? (i := 675) (by decide +kernel), List.mem_of_getElem? (i := 787) (by decide +kernel), List.mem_of_getElem? (i := 788) (by decide +kernel)⟩
theorem lw_p26 : lw_okq (⟨"BidwhistleModel", "hasForbidden", "(I)Z"⟩, 14) := ⟨⟨by decide +kernel, by decide +kernel⟩, List.mem_of_getElem? (i := 675) (by decide +kernel), List.mem_of_getElem? (i := 803) (by decide +kernel), List.mem_of_getElem? (i := 804) (by decide +kernel)⟩
theorem lw_p27 : lw_okq (⟨"BidwhistleModel", "hasStep", "(II)Z"⟩, 14) := ⟨⟨by decide +kernel, by decide +kernel⟩, List.mem_of_getElem? (i := 675) (by decide +kernel), List.mem_of_getElem? (i := 807) (by decide +kernel), List.mem_of_getElem? (i := 808) (by decide +kernel)⟩
theorem lw_p28 : lw_okq (⟨"BidwhistleModel", "pooled", "()I"⟩, 14) := ⟨⟨by decide +kernel, by decide +kernel⟩, List.mem_of_getElem? (i := 675) (by decide +kernel), List.mem_of_getElem? (i := 811) (by decide +kernel), List.mem_of_getElem? (i := 812) (by decide +kernel)⟩
theorem lw_p29 : lw_okq (⟨"BidwhistleModel", "profitOf", "(IIIII)I"⟩, 14) := ⟨⟨by decide +kernel, by decide +kernel⟩, List.mem_of_getElem? (i := 675) (by decide +kernel), List.mem_of_getElem? (i := 846) (by decide +kernel), List.mem_of_getElem? (i := 847) (by decide +kernel)⟩
theorem lw_p30 : lw_okq (⟨"BidwhistleModel", "worthIn", "(II)I"⟩, 14) := ⟨⟨by decide +kernel, by decide +kernel⟩, List.mem_of_getElem? (i := 675) (by decide +kernel), List.mem_of_getElem? (i := 854) (by decide +kernel), List.mem_of_getElem? (i := 855) (by decide +kernel)⟩
theorem lw_p31 : lw_okq (⟨"BidwhistleModel", "worthOf", "(II)I"⟩, 14) := ⟨⟨by decide +kernel, by decide +kernel⟩, List.mem_of_getElem? (i := 675) (by decide +kernel), List.mem_of_getElem? (i := 858) (by decide +kernel), List.mem_of_getElem? (i := 859) (by decide +kernel)⟩
def lw_privs_2 : List (MethodName × Nat) := [(⟨"Bidwhistle", "weakest", "()I"⟩, 11), (⟨"Bidwhistle", "cross", "(LBidwhistle$Program;LBidwhistle$Program;)V"⟩, 11), (⟨"Bidwhistle", "letChildJoin", "(II)I"⟩, 11), (⟨"BidwhistleModel", "goes", "(I)Z"⟩, 14), (⟨"BidwhistleModel", "found", "(I)I"⟩, 14), (⟨"BidwhistleModel", "areSame", "(II)Z"⟩, 14), (⟨"BidwhistleModel", "runs", "(II)Z"⟩, 14), (⟨"BidwhistleModel", "keeps", "(III)V"⟩, 14), (⟨"BidwhistleModel", "isStrategy", "(I)Z"⟩, 14), (⟨"BidwhistleModel", "bidOf", "(II)I"⟩, 14), (⟨"BidwhistleModel", "hasForbidden", "(I)Z"⟩, 14), (⟨"BidwhistleModel", "hasStep", "(II)Z"⟩, 14), (⟨"BidwhistleModel", "pooled", "()I"⟩, 14), (⟨"BidwhistleModel", "profitOf", "(IIIII)I"⟩, 14), (⟨"BidwhistleModel", "worthIn", "(II)I"⟩, 14), (⟨"BidwhistleModel", "worthOf", "(II)I"⟩, 14)]
theorem lw_r2 : ∀ q ∈ lw_privs_2, lw_okq q := List.forall_mem_cons.mpr ⟨lw_p16, List.forall_mem_cons.mpr ⟨lw_p17, List.forall_mem_cons.mpr ⟨lw_p18, List.forall_mem_cons.mpr ⟨lw_p19, List.forall_mem_cons.mpr ⟨lw_p20, List.forall_mem_cons.mpr ⟨lw_p21, List.forall_mem_cons.mpr ⟨lw_p22, List.forall_mem_cons.mpr ⟨lw_p23, List.forall_mem_cons.mpr ⟨lw_p24, List.forall_mem_cons.mpr ⟨lw_p25, List.forall_mem_cons.mpr ⟨lw_p26, List.forall_mem_cons.mpr ⟨lw_p27, List.forall_mem_cons.mpr ⟨lw_p28, List.forall_mem_cons.mpr ⟨lw_p29, List.forall_mem_cons.mpr ⟨lw_p30, List.forall_mem_cons.mpr ⟨lw_p31, fun _ h => absurd h List.not_mem_nil⟩⟩⟩⟩⟩⟩⟩⟩⟩⟩⟩⟩⟩⟩⟩⟩
theorem lw_p32 : lw_okq (⟨"BidwhistleModel", "laysWorths", "(I)V"⟩, 14) := ⟨⟨by decide +kernel, by decide +kernel⟩, List.mem_of_getElem? (i := 675) (by decide +kernel), List.mem_of_getElem? (i := 870) (by decide +kernel), List.mem_of_getElem? (i := 871) (by decide +kernel)⟩
theorem lw_p33 : lw_okq (⟨"BidwhistleModel", "greatest", "(I)I"⟩, 14) := ⟨⟨by decide +kernel, by decide +kernel⟩, List.mem_of_getElem? (i := 675) (by decide +kernel), List.mem_of_getElem? (i := 874) (by decide +kernel), List.mem_of_getElem? (i := 875) (by decide +kernel)⟩
theorem lw_p34 : lw_okq (⟨"BidwhistleModel", "weakest", "()I"⟩, 14) := ⟨⟨by decide +kernel, by decide +kernel⟩, List.mem_of_getElem? (i := 675) (by decide +kernel), List.mem_of_getElem? (i := 882) (by decide +kernel), List.mem_of_getElem? (i := 883) (by decide +kernel)⟩
theorem lw_p35 : lw_okq (⟨"BidwhistleModel", "crosses", "(II)V"⟩, 14) := ⟨⟨by decide +kernel, by decide +kernel⟩, List.mem_of_getElem? (i := 675) (by decide +kernel), List.mem_of_getElem? (i := 886) (by decide +kernel), List.mem_of_getElem? (i := 887) (by decide +kernel)⟩
def lw_privs_3 : List (MethodName × Nat) := [(⟨"BidwhistleModel", "laysWorths", "(I)V"⟩, 14), (⟨"BidwhistleModel", "greatest", "(I)I"⟩, 14), (⟨"BidwhistleModel", "weakest", "()I"⟩, 14), (⟨"BidwhistleModel", "crosses", "(II)V"⟩, 14)]
theorem lw_r3 : ∀ q ∈ lw_privs_3, lw_okq q := List.forall_mem_cons.mpr ⟨lw_p32, List.forall_mem_cons.mpr ⟨lw_p33, List.forall_mem_cons.mpr ⟨lw_p34, List.forall_mem_cons.mpr ⟨lw_p35, fun _ h => absurd h List.not_mem_nil⟩⟩⟩⟩
def lw_privs : List (MethodName × Nat) := lw_privs_1 ++ (lw_privs_2 ++ (lw_privs_3))
def lw_tbl : List Cond := k2_sels lw_privs ++ tables_1
theorem lw_privs_ok : ∀ q ∈ lw_privs, lw_okq q := by
  show ∀ q ∈ lw_privs_1 ++ (lw_privs_2 ++ (lw_privs_3)), lw_okq q
  exact List.forall_mem_append.mpr ⟨lw_r1, List.forall_mem_append.mpr ⟨lw_r2, lw_r3⟩⟩
-- ===== end of PART A; then your names; then what follows =====
end
section
/-! ===== BEGIN words of one list among another's, by their places ===== -/
theorem goodIn_r {big : List Cond} (ws : List Cond) (ps : List Nat) (hp : ws = ps.filterMap (fun i => big[i]?)) (h : ws.all goodWord = true) : GoodIn big ws := by
  intro w hw
  have h1 := List.all_eq_true.mp h w hw
  rw [hp] at hw
  obtain ⟨i, -, hi⟩ := List.mem_filterMap.mp hw
  have hm : w ∈ big := by first | exact List.mem_of_getElem? hi | exact List.getElem?_mem hi
  exact ⟨hm, good_of_word h1⟩
theorem goodIn_app {big a b : List Cond} (ha : GoodIn big a) (hb : GoodIn big b) : GoodIn big (a ++ b) := fun w h => (List.mem_append.mp h).elim (ha w) (hb w)
theorem goodIn_ca {big a b : List Cond} {c : Cond} (ha : GoodIn big (c :: a)) (hb : GoodIn big b) : GoodIn big (c :: (a ++ b)) := fun w h => (List.mem_cons.mp h).elim (fun e => ha w (List.mem_cons.mpr (Or.inl e))) (fun h => (List.mem_append.mp h).elim (fun h => ha w (List.mem_cons.mpr (Or.inr h))) (hb w))
theorem goodIn_sub {big ws : List Cond} (hm : ∀ w ∈ ws, w ∈ big) (h : ws.all goodWord = true) : GoodIn big ws := fun w hw => ⟨hm w hw, good_of_word (List.all_eq_true.mp h w hw)⟩
/-! ===== END ===== -/

/-! ===== BEGIN exceptions that leave a method, and their catching by the caller (launches without stack traces) ===== -/
section VXA
/-! The laws vx_back, vx_callV, vx_callS, vx_callSW, vx_throw0, vx_throwS follow proofs of the library, with one case more: JvmDerived/Free/Laws.lean (Back.of_free), Shelf42/LK1.lean (callV, callS), Shelf/KitTraced.lean (throwNew0V, throwNewS). -/
/-- where a method has thrown q: the class by its name, the cell, what was written, the world -/
def vx_T (XC : String → State → State → Prop) (st : State) (q : Addr) (t : State) (mc ms : Nat) (free : Addr → Prop) : Prop :=
  ∃ (E : String) (ce : Cell) (L : List Loc), XC E st t ∧ t.heap[q]? = some ce ∧ ce.vm = .none ∧ st.vm.findClass E = some ce.cls ∧ st.WarmedH t.vm ∧ st.sameButNew ({ t with vm := st.vm } : State) L mc ms ∧ ∀ z ∈ L, free z.base
def vx_Q (Qc : Array Value → State → Outcome → State → Prop) (XC : String → State → State → Prop) (mc ms : Nat) (free : Addr → Prop) : Array Value → State → Outcome → State → Prop := fun a st o t =>
  (Qc a st o t ∧ ∃ L, FrameEnd st o t L mc ms ∧ ∀ q ∈ L, free q.base) ∨ ∃ q, o = .threw q ∧ vx_T XC st q t mc ms free
/-- a callee that returns or throws -/
def vx_Met (l : Launch) (y : MethodName) (ws : List Cond) (rm : Room) (Pc : Array Value → State → Prop) (Qc : Array Value → State → Outcome → State → Prop) (XC : String → State → State → Prop) (mc ms : Nat) (free : Addr → Prop) : Prop :=
  MetFree l y (headSpec ws rm) Pc (fun _ _ _ _ _ => True) (vx_Q Qc XC mc ms free)
def vx_Post (XC : String → State → State → Prop) (mc ms : Nat) (free : Addr → Prop) : Pt → Array Value → Addr → Pt → Prop := fun A a q B =>
  ∃ (g : JFrame) (mk : MethodId) (t : State) (L : List Loc) (E : String) (ce : Cell), B.U.heap = t.heap ∧ B.U.vm = t.vm ∧ XC E (A.U.calling g mk a) t ∧ t.heap[q]? = some ce ∧ ce.vm = .none ∧ A.U.vm.findClass E = some ce.cls ∧ B.locs = A.locs ++ L ∧ (∀ z ∈ L, free z.base) ∧ B.cells = A.cells + mc ∧ B.slots = A.slots + ms
def vx_Back (l : Launch) (R : Room) (p : Program) (e : Env) (below : List Frame) (s : State) (sargs : Array Value) (y : MethodName) (len W9 : Nat)
    (Pre : Pt → Array Value → Prop) (Post : Pt → Array Value → Option Value → Pt → Prop) (PostX : Pt → Array Value → Addr → Pt → Prop) : Prop :=
  ∀ (m : MethodId) (meth : Method) (c : Code) (A : Pt) (g : JFrame) (ig : Instr) (mk : MethodId) (a : Array Value),
    Stand p l e R s m sargs below meth c A.U A.locs A.cells A.slots → g.method = m → g.locals.size = c.maxLocals → decode c.code g.pc = .ok (ig, len) →
    2 * g.monitorRoom + (g.stack.map fun v => v.category).sum ≤ W9 → A.U.methodNamed? y = some mk → Pre A a →
    (∃ (v : Option Value) (B : Pt), Stand p l e R s m sargs below meth c B.U B.locs B.cells B.slots ∧ Post A a v B ∧
      Steps p.tables e below (doInvoke e (A.U.setTop g) [] mk a).1 (B.U.setTop { g with pc := g.pc + len, stack := v.toList ++ g.stack })) ∨
    (∃ (q : Addr) (B : Pt), Stand p l e R s m sargs below meth c B.U B.locs B.cells B.slots ∧ PostX A a q B ∧
      Steps p.tables e below (doInvoke e (A.U.setTop g) [] mk a).1 ((B.U.setTop g).pushFrame (.throwing q)))
section Payer
variable {l : Launch} {R : Room} {p : Program} {e : Env} {below : List Frame} {s : State} {sargs : Array Value} {y : MethodName} {len W9 : Nat}
theorem vx_back {ws : List Cond} {rm : Room} {Pc : Array Value → State → Prop} {Qc : Array Value → State → Outcome → State → Prop} {XC : String → State → State → Prop} {mc ms : Nat} {free : Addr → Prop} {bytes : ByteArray} {maxL : Nat} {ret : Option FieldType}
    (hM : vx_Met l y ws rm Pc Qc XC mc ms free) (hblind : FrameBlind Pc) (hrc : rm.cells = mc) (hrs : rm.slots = ms)
    (hframes : rm.frames + 1 ≤ R.frames) (hlocals : W9 + (maxL + 11) + rm.locals ≤ R.locals)
    (hws : ∀ w ∈ ws, ∀ a' U, s.WarmedH U.vm → w.before a' U = true) (hcode : Cond.code y bytes maxL ret ∈ ws) (hinit : ∀ a' U, s.WarmedH U.vm → (Cond.initialized y.cls).before a' U = true) :
    vx_Back l R p e below s sargs y len W9 (PreOf R mc ms Pc) (PostOf Qc mc ms free) (vx_Post XC mc ms free) := by
  intro m meth c A g ig mk a X hg hsize hdg hW hn hp
  have h1 : (headSpec ws rm).pre.before a A.U = true := atoms_intro fun w hw => hws w hw _ _ X.warmed
  have h2 : (Cond.code y bytes maxL ret).before a A.U = true := hws _ hcode _ _ X.warmed
  have h3 : (Cond.initialized y.cls).before a A.U = true := hinit _ _ X.warmed
  have h4 : A.cells + (headSpec ws rm).room.cells ≤ R.cells := by rw [show (headSpec ws rm).room.cells = mc from hrc]; exact hp.1
  have h5 : A.slots + (headSpec ws rm).room.slots ≤ R.slots := by rw [show (headSpec ws rm).room.slots = ms from hrs]; exact hp.2.1
  have hPc : Pc a (A.U.calling g mk a) := hblind _ _ _ _ hp.2.2
  obtain ⟨U, Ls, c0, s0⟩ := A
  dsimp only [Pt.U, Pt.locs, Pt.cells, Pt.slots] at h1 h2 h3 h4 h5 X hn hPc ⊢
  obtain ⟨methY, cY, hmY, hcY, -, hlY, -, -, -, -⟩ := Cond.code_spec hn h2
  obtain ⟨kY, hkY, -⟩ := className_of_methodNamed hn
  have hinitY : kY.init = .initialized := Cond.initialized_spec (findClass_of_methodNamed hn) hkY h3
  have h : At U g.method c below := by rw [hg]; exact X.here
  have hlocals9 : W9 + (maxL + 11) + (headSpec ws rm).room.locals ≤ R.locals := hlocals
  have happ : (headSpec ws rm).appliesLoose y e.platform (U.calling g mk a) = true :=
    Spec.appliesLoose_calling (g := g) h hdg hn hkY hinitY
      (X.room_calling (g := g) (R' := (headSpec ws rm).room) hsize hmY hcY hframes (by rw [hlY]; omega) h4 h5) h1
  obtain ⟨mid, hmid⟩ := h.above
  have hfr : (U.setTop g).frames = (.java g :: mid) ++ below := by rw [State.frames_setTop' g h.top, hmid]; rfl
  obtain ⟨o, s₂, hsteps, -, hend, hq⟩ := Steps.callFree hM p X.admits X.cas X.clock (acts := []) hfr happ hPc trivial
  have hq' : vx_Q Qc XC mc ms free a (U.calling g mk a) o s₂ := hq
  rw [State.frames_setTop' g h.top] at hend
  obtain ⟨g₀, hg0⟩ := Option.isSome_iff_exists.mp h.top
  obtain ⟨r, hr⟩ := State.topJava?_eq_some.mp hg0
  have hr' : (({ U with heap := s₂.heap, slotsUsed := s₂.slotsUsed } : State).setVm s₂.vm).frames = .java g₀ :: r := hr
  rcases hq' with ⟨hqc, L, hfe, hL⟩ | ⟨q, rfl, E, ce, L, hx, hce, hcv, hcl, hW₂, hsm, hL⟩
  · obtain ⟨⟨v, rfl⟩, hW₂, e2, q2, q3, q4, q5, q6⟩ := id hfe
    have e3 : s₂ = ({ (U.calling g mk a).setFrames s₂.frames with heap := s₂.heap, slotsUsed := s₂.slotsUsed } : State).setVm s₂.vm := by
      have : s₂ = ({ s₂ with vm := (U.calling g mk a).vm } : State).setVm s₂.vm := rfl
      rw [e2] at this
      exact this
    obtain ⟨c₂, i₂, len₂, hc₂, hd₂, hf₂⟩ := hend
    have hW' : U.WarmedH s₂.vm := hW₂
    have hcc : c₂ = c := by
      have h1 : s₂.code? g.method = U.code? g.method := by
        rw [State.code?_eq, State.code?_eq, hW'.alike.method?]
      exact Option.some.inj (hc₂.symm.trans (h1.trans h.code))
    subst hcc
    have hlen : len₂ = len := by rw [hdg] at hd₂; cases hd₂; rfl
    subst hlen
    have hs₂ : s₂ = (({ U with heap := s₂.heap, slotsUsed := s₂.slotsUsed } : State).setVm s₂.vm).setTop { g with pc := g.pc + len₂, stack := v.toList ++ g.stack } := by
      refine e3.trans ?_
      rw [hf₂, State.calling_eq h.top, State.setFrames_setFrames, State.setTop_of_frames _ hr', hr]
      rfl
    have hsame : U.sameButNew ({ U with heap := s₂.heap, slotsUsed := s₂.slotsUsed } : State) L mc ms := by
      refine ⟨?_, q2, q3, q4, q5, q6⟩
      obtain ⟨t, ht, -⟩ := State.frames_cons hr
      show ({ U with heap := s₂.heap, slotsUsed := s₂.slotsUsed } : State) = { U.setFrames U.frames with heap := s₂.heap, slotsUsed := s₂.slotsUsed }
      rw [State.setFrames_self ht]
    subst hg
    refine Or.inl ⟨v, ⟨(({ U with heap := s₂.heap, slotsUsed := s₂.slotsUsed } : State).setVm s₂.vm), Ls ++ L, c0 + mc, s0 + ms⟩,
      ⟨X.admits, X.cas, X.clock, X.frames, X.room, X.hears, X.method, X.code, (X.here.setHeapUsed s₂.heap s₂.slotsUsed).setVm hW'.alike, X.tail, State.WarmedH.trans X.warmed hW', X.limits, X.bytes, X.same.trans (hsame.setVm s.vm)⟩,
      ⟨g, mk, s₂, L, rfl, rfl, hqc, rfl, hL, rfl, rfl⟩, ?_⟩
    show Steps p.tables e below _ ((({ U with heap := s₂.heap, slotsUsed := s₂.slotsUsed } : State).setVm s₂.vm).setTop { g with pc := g.pc + len₂, stack := v.toList ++ g.stack })
    rw [← hs₂]
    exact hsteps
  · obtain ⟨e2, q2, q3, q4, q5, q6⟩ := id hsm
    have e3 : s₂ = ({ (U.calling g mk a).setFrames s₂.frames with heap := s₂.heap, slotsUsed := s₂.slotsUsed } : State).setVm s₂.vm := by
      have : s₂ = ({ s₂ with vm := (U.calling g mk a).vm } : State).setVm s₂.vm := rfl
      rw [e2] at this
      exact this
    have hf₂ : s₂.frames = .throwing q :: .java g :: U.frames.tail := hend
    have hW' : U.WarmedH s₂.vm := hW₂
    have hs₂ : s₂ = ((({ U with heap := s₂.heap, slotsUsed := s₂.slotsUsed } : State).setVm s₂.vm).setTop g).pushFrame (.throwing q) := by
      refine e3.trans ?_
      rw [hf₂, State.calling_eq h.top, State.setFrames_setFrames, State.pushFrame, State.frames_setTop _ hr', State.setTop_of_frames _ hr', State.setFrames_setFrames, hr]
      rfl
    have hsame : U.sameButNew ({ U with heap := s₂.heap, slotsUsed := s₂.slotsUsed } : State) L mc ms := by
      refine ⟨?_, q2, q3, q4, q5, q6⟩
      obtain ⟨t, ht, -⟩ := State.frames_cons hr
      show ({ U with heap := s₂.heap, slotsUsed := s₂.slotsUsed } : State) = { U.setFrames U.frames with heap := s₂.heap, slotsUsed := s₂.slotsUsed }
      rw [State.setFrames_self ht]
    subst hg
    refine Or.inr ⟨q, ⟨(({ U with heap := s₂.heap, slotsUsed := s₂.slotsUsed } : State).setVm s₂.vm), Ls ++ L, c0 + mc, s0 + ms⟩,
      ⟨X.admits, X.cas, X.clock, X.frames, X.room, X.hears, X.method, X.code, (X.here.setHeapUsed s₂.heap s₂.slotsUsed).setVm hW'.alike, X.tail, State.WarmedH.trans X.warmed hW', X.limits, X.bytes, X.same.trans (hsame.setVm s.vm)⟩,
      ⟨g, mk, s₂, L, E, ce, rfl, rfl, hx, hce, hcv, hcl, rfl, hL, rfl, rfl⟩, ?_⟩
    show Steps p.tables e below _ (((({ U with heap := s₂.heap, slotsUsed := s₂.slotsUsed } : State).setVm s₂.vm).setTop g).pushFrame (.throwing q))
    rw [← hs₂]
    exact hsteps
end Payer
section Calls
variable {p : Program} {l : Launch} {e : Env} {R : Room} {s : State} {m : MethodId} {args : Array Value} {below : List Frame} {meth : Method} {c : Code} {T : State} {locs : List Loc} {cells slots : Nat}
theorem vx_callV (X : Stand p l e R s m args below meth c T locs cells slots) (hexec : p.tables.exec = Jvm.exec) {own C : String} {index : Nat} {y : MethodName} {bytes : ByteArray} {maxL : Nat} {ret : Option FieldType}
    (hown : s.vm.findClass own = some m.cls) (hlink : (Cond.methodLink own index y).before args s = true) (hinst : (Cond.instanceMethod y).before args s = true) (hsel : (Cond.selects C y y).before args s = true)
    (hcode : (Cond.code y bytes maxL ret).before args s = true) (hy : y.cls ≠ "java/lang/invoke/MethodHandle" ∧ y.cls ≠ "java/lang/invoke/VarHandle")
    {W9 : Nat} {Pre : Pt → Array Value → Prop} {Post : Pt → Array Value → Option Value → Pt → Prop} {PostX : Pt → Array Value → Addr → Pt → Prop} (hK : vx_Back l R p e below s args y 3 W9 Pre Post PostX)
    {b : Addr} {cellB : Cell} (hcell : T.heap[b]? = some cellB) (hobj : cellB.vm.isStatics = false) (hcls : s.vm.findClass C = some cellB.cls)
    {g : JFrame} (hg : g.method = m) (hsize : g.locals.size = c.maxLocals) {argsL rest : List Value} (hlen : ∀ sig, parseMethodDescriptor y.desc = some sig → argsL.length = sig.parameters.length)
    (hstack : g.stack = argsL.reverse ++ .ref b :: rest) (hW : 2 * g.monitorRoom + (rest.map fun v => v.category).sum ≤ W9) (hdg : decode c.code g.pc = .ok (.invokevirtual index, 3))
    (hpre : ∀ vm₁, s.WarmedH vm₁ → Pre ⟨T.setVm vm₁, locs, cells, slots⟩ (Value.ref b :: argsL).toArray) :
    (∃ (v : Option Value) (vm₁ : Vm) (B : Pt), s.WarmedH vm₁ ∧ Stand p l e R s m args below meth c B.U B.locs B.cells B.slots ∧ Post ⟨T.setVm vm₁, locs, cells, slots⟩ (Value.ref b :: argsL).toArray v B ∧
      ∀ target, Steps p.tables e below (B.U.setTop { g with pc := g.pc + 3, stack := v.toList ++ rest }) target → Steps p.tables e below (T.setTop g) target) ∨
    (∃ (q : Addr) (vm₁ : Vm) (B : Pt), s.WarmedH vm₁ ∧ Stand p l e R s m args below meth c B.U B.locs B.cells B.slots ∧ PostX ⟨T.setVm vm₁, locs, cells, slots⟩ (Value.ref b :: argsL).toArray q B ∧
      Steps p.tables e below (T.setTop g) ((B.U.setTop { g with stack := rest }).pushFrame (.throwing q))) := by
  obtain ⟨mk, methM, hnamed, hmethM, hstM, habM⟩ := Cond.instanceMethod_spec hinst
  obtain ⟨methM', cM, hmethM', -, -, -, -, -, -, hsigM⟩ := Cond.code_spec hnamed hcode
  cases hmethM.symm.trans hmethM'
  obtain ⟨c2, r2, m2, q1, q2, q3, q4, kP, hkP, hkPi⟩ := Cond.selects_spec hsel
  cases hcls.symm.trans q1
  cases (State.methodFound?_of_named hnamed hy).symm.trans q2
  cases hnamed.symm.trans q3
  have hselP : selectMethod e.platform s.vm cellB.cls mk = .method mk := by rw [Launch.admits_selectMethod X.admits]; exact q4
  obtain ⟨vm₁, X₁, hstep₁⟩ := X.invokevirtual hexec hown hlink hnamed hmethM hstM hkP hkPi hy (a := b) (cell := cellB) hcell
    (fun z h => by rw [h] at hobj; cases hobj) hselP hmethM habM hkP hkPi (g := g) hg (argsL := argsL) (rest := rest) (hlen _ hsigM) hstack hdg
  rcases hK m meth c ⟨T.setVm vm₁, locs, cells, slots⟩ { g with stack := rest } (.invokevirtual index) mk (Value.ref b :: argsL).toArray X₁ hg hsize hdg hW (X₁.named hnamed) (hpre vm₁ X₁.warmed) with ⟨v, B, X', hpost, hsteps⟩ | ⟨q, B, X', hpost, hsteps⟩
  · exact Or.inl ⟨v, vm₁, B, X₁.warmed, X', hpost, fun target h => hstep₁ _ fun acts => by rw [doInvoke_state]; exact hsteps.trans h⟩
  · exact Or.inr ⟨q, vm₁, B, X₁.warmed, X', hpost, hstep₁ _ fun acts => by rw [doInvoke_state]; exact hsteps⟩
theorem vx_callS (X : Stand p l e R s m args below meth c T locs cells slots) (hexec : p.tables.exec = Jvm.exec) {own : String} {index : Nat} {y : MethodName} {bytes : ByteArray} {maxL : Nat} {ret : Option FieldType}
    (hown : s.vm.findClass own = some m.cls) (hlink : (Cond.methodLink own index y).before args s = true) (hstat : (Cond.static y).before args s = true) (hinit : (Cond.initialized y.cls).before args s = true)
    (hcode : (Cond.code y bytes maxL ret).before args s = true) (hy : y.cls ≠ "java/lang/invoke/MethodHandle" ∧ y.cls ≠ "java/lang/invoke/VarHandle")
    {W9 : Nat} {Pre : Pt → Array Value → Prop} {Post : Pt → Array Value → Option Value → Pt → Prop} {PostX : Pt → Array Value → Addr → Pt → Prop} (hK : vx_Back l R p e below s args y 3 W9 Pre Post PostX)
    {g : JFrame} (hg : g.method = m) (hsize : g.locals.size = c.maxLocals) {argsL rest : List Value} (hlen : ∀ sig, parseMethodDescriptor y.desc = some sig → argsL.length = sig.parameters.length)
    (hstack : g.stack = argsL.reverse ++ rest) (hW : 2 * g.monitorRoom + (rest.map fun v => v.category).sum ≤ W9) (hdg : decode c.code g.pc = .ok (.invokestatic index, 3))
    (hpre : ∀ vm₁, s.WarmedH vm₁ → Pre ⟨T.setVm vm₁, locs, cells, slots⟩ argsL.toArray) :
    (∃ (v : Option Value) (vm₁ : Vm) (B : Pt), s.WarmedH vm₁ ∧ Stand p l e R s m args below meth c B.U B.locs B.cells B.slots ∧ Post ⟨T.setVm vm₁, locs, cells, slots⟩ argsL.toArray v B ∧
      ∀ target, Steps p.tables e below (B.U.setTop { g with pc := g.pc + 3, stack := v.toList ++ rest }) target → Steps p.tables e below (T.setTop g) target) ∨
    (∃ (q : Addr) (vm₁ : Vm) (B : Pt), s.WarmedH vm₁ ∧ Stand p l e R s m args below meth c B.U B.locs B.cells B.slots ∧ PostX ⟨T.setVm vm₁, locs, cells, slots⟩ argsL.toArray q B ∧
      Steps p.tables e below (T.setTop g) ((B.U.setTop { g with stack := rest }).pushFrame (.throwing q))) := by
  obtain ⟨mk, hnamed⟩ := Cond.code_named hcode
  obtain ⟨methM, cM, hmethM, -, -, -, -, -, -, hsigM⟩ := Cond.code_spec hnamed hcode
  have hstatic : methM.isStatic = true := Cond.static_spec hnamed hmethM hstat
  obtain ⟨kP, hkP, -⟩ := className_of_methodNamed hnamed
  have hinitP : kP.init = .initialized := Cond.initialized_spec (findClass_of_methodNamed hnamed) hkP hinit
  obtain ⟨vm₁, X₁, hstep₁⟩ := X.invokestatic hexec hown hlink hnamed hmethM hstatic hkP hinitP hy (g := g) hg (argsL := argsL) (rest := rest) (hlen _ hsigM) hstack hdg
  rcases hK m meth c ⟨T.setVm vm₁, locs, cells, slots⟩ { g with stack := rest } (.invokestatic index) mk argsL.toArray X₁ hg hsize hdg hW (X₁.named hnamed) (hpre vm₁ X₁.warmed) with ⟨v, B, X', hpost, hsteps⟩ | ⟨q, B, X', hpost, hsteps⟩
  · exact Or.inl ⟨v, vm₁, B, X₁.warmed, X', hpost, fun target h => hstep₁ _ fun acts => by rw [doInvoke_state]; exact hsteps.trans h⟩
  · exact Or.inr ⟨q, vm₁, B, X₁.warmed, X', hpost, hstep₁ _ fun acts => by rw [doInvoke_state]; exact hsteps⟩
end Calls
theorem vx_cls {s : State} {T : State} {vm₁ : Vm} {E : String} {k : ClassId} (hW : s.WarmedH vm₁) (h : (T.setVm vm₁).vm.findClass E = some k) : s.vm.findClass E = some k := by
  have h1 : vm₁.findClass E = some k := h
  rw [hW.alike.findClass] at h1
  exact h1
/-- the method's frame g, with q thrown over it -/
def vx_W (p : Program) (l : Launch) (e : Env) (R : Room) (s : State) (m : MethodId) (args : Array Value) (below : List Frame) (meth : Method) (c : Code) (H : Heap) (locs : List Loc) (cells slots : Nat) (Q : State → Prop) (g : JFrame) (q : Addr) : Prop :=
  ∀ T : State, T.heap = H → Stand p l e R s m args below meth c T locs cells slots → ∃ t, Steps p.tables e below ((T.setTop g).pushFrame (.throwing q)) t ∧ Q t
def vx_Run (p : Program) (l : Launch) (e : Env) (R : Room) (s : State) (m : MethodId) (args : Array Value) (below : List Frame) (meth : Method) (c : Code) (H : Heap) (locs : List Loc) (cells slots mc ms : Nat) (g : JFrame) (rest : List Value) (Qa : State → Outcome → State → Prop) (XC : String → State → State → Prop) (free : Addr → Prop) : Prop :=
  ∀ T : State, T.heap = H → Stand p l e R s m args below meth c T locs cells slots →
    (∃ (v : Option Value) (st₀ t T' : State) (L : List Loc), st₀.heap = H ∧ Stand p l e R s m args below meth c T' (locs ++ L) (cells + mc) (slots + ms) ∧ (∀ q ∈ L, free q.base) ∧ T'.heap = t.heap ∧ T'.vm = t.vm ∧ Qa st₀ (.returned v) t ∧
      Goes p e below T g T' { g with pc := g.pc + 3, stack := v.toList ++ rest }) ∨
    (∃ (q : Addr) (st₀ t T' : State) (L : List Loc) (E : String) (ce : Cell), st₀.heap = H ∧ Stand p l e R s m args below meth c T' (locs ++ L) (cells + mc) (slots + ms) ∧ (∀ z ∈ L, free z.base) ∧ T'.heap = t.heap ∧ T'.vm = t.vm ∧ XC E st₀ t ∧ t.heap[q]? = some ce ∧ ce.vm = .none ∧ s.vm.findClass E = some ce.cls ∧
      Steps p.tables e below (T.setTop g) ((T'.setTop { g with stack := rest }).pushFrame (.throwing q)))
def vx_X {S : Type} (px : S → Prop) (B : String → S → State → Prop) (A : Nat → Prop) : String → State → State → Prop := fun E st t => ∃ u : S, px u ∧ B E u t ∧ va_F A st t
section Runs
variable {p : Program} {l : Launch} {e : Env} {R : Room} {s : State} {m : MethodId} {args : Array Value} {below : List Frame} {meth : Method} {c : Code} {H : Heap} {locs : List Loc} {cells slots : Nat}
variable {y : MethodName} {bytes cc : ByteArray} {maxL nL mc ms n index : Nat} {ret : Option FieldType} {ws : List Cond} {rm : Room} {Pc : Array Value → State → Prop} {Qc : Array Value → State → Outcome → State → Prop} {XC : String → State → State → Prop} {free : Addr → Prop} {Ts : List Cond} {own C : String} {b : Addr} {As rest : List Value} {g : JFrame}
theorem vx_callBack (cb : CallB R s args own index y bytes maxL ret ws rm mc ms n) (hM : vx_Met l y ws rm Pc Qc XC mc ms free) (hbl : FrameBlind Pc) : vx_Back l R p e below s args y 3 8 (PreOf R mc ms Pc) (PostOf Qc mc ms free) (vx_Post XC mc ms free) := by
  obtain ⟨hrc, hrs, hfr, hlo, hws, hcw, -, hini, -⟩ := cb
  exact vx_back (bytes := bytes) (maxL := maxL) (ret := ret) hM hbl hrc hrs hfr hlo hws hcw (fun a' U hW => word_at hW (Or.inl (by first | rfl | simp [Cond.onTables, Cond.keeps, Cond.steady])) hini)
theorem vx_runV (S : CallFix p m c cc nL s args Ts own) (hM : vx_Met l y ws rm Pc Qc XC mc ms free) (cw : CallW R s args own C index y bytes maxL ret ws rm mc ms n) (hp : PreV s H C b Pc As)
    (hg : g.method = m) (hn : As.length = n) (hsize : g.locals.size = nL) (hstack : g.stack = As.reverse ++ .ref b :: rest) (hW : 2 * g.monitorRoom + (rest.map fun v => v.category).sum ≤ 8) (hdg : decode cc g.pc = .ok (.invokevirtual index, 3)) (hf : cells + mc ≤ R.cells ∧ slots + ms ≤ R.slots) :
    vx_Run p l e R s m args below meth c H locs cells slots mc ms g rest (Qc (Value.ref b :: As).toArray) XC free := by
  have hK : vx_Back l R p e below s args y 3 8 (PreOf R mc ms Pc) (PostOf Qc mc ms free) (vx_Post XC mc ms free) := vx_callBack cw.1 hM hp.1
  obtain ⟨⟨-, -, -, -, -, -, hcode, -, hy, hlen, hl⟩, hin, hse⟩ := cw
  obtain ⟨hx, hb, hml, ho, -⟩ := S
  obtain ⟨-, ⟨cellB, hcB, hoB, hclB⟩, hPc⟩ := hp
  intro T hT X
  rcases vx_callV X hx (C := C) (bytes := bytes) (maxL := maxL) (ret := ret) ho hl hin hse hcode hy hK (by rw [hT]; exact hcB) hoB hclB hg (hsize.trans hml.symm) (argsL := As) (rest := rest) (fun sig h => hn.trans (hlen sig h)) hstack hW (by rw [hb]; exact hdg)
    (fun vm₁ hW₁ => ⟨hf.1, hf.2, hPc (T.setVm vm₁) hT hW₁⟩) with ⟨v, vm₁, ⟨U', l2, c2, s2⟩, hW₁, X', ⟨g', mk, t, L, e1, e2, hq, h1, hL, h2, h3⟩, st⟩ | ⟨q, vm₁, ⟨U', l2, c2, s2⟩, hW₁, X', ⟨g', mk, t, L, E, ce, e1, e2, hq, hce, hcv, hcl, h1, hL, h2, h3⟩, st⟩
  · dsimp only [Pt.U, Pt.locs, Pt.cells, Pt.slots] at X' e1 e2 h1 h2 h3 st
    subst h1; subst h2; subst h3
    exact Or.inl ⟨v, (T.setVm vm₁).calling g' mk (Value.ref b :: As).toArray, t, U', L, hT, X', hL, e1, e2, hq, st⟩
  · dsimp only [Pt.U, Pt.locs, Pt.cells, Pt.slots] at X' e1 e2 h1 h2 h3 st hcl
    subst h1; subst h2; subst h3
    exact Or.inr ⟨q, (T.setVm vm₁).calling g' mk (Value.ref b :: As).toArray, t, U', L, E, ce, hT, X', hL, e1, e2, hq, hce, hcv, vx_cls hW₁ hcl, st⟩
theorem vx_runS (S : CallFix p m c cc nL s args Ts own) (hM : vx_Met l y ws rm Pc Qc XC mc ms free) (cw : CallB R s args own index y bytes maxL ret ws rm mc ms n ∧ (Cond.static y).before args s = true) (hp : PreS s H Pc As)
    (hg : g.method = m) (hn : As.length = n) (hsize : g.locals.size = nL) (hstack : g.stack = As.reverse ++ rest) (hW : 2 * g.monitorRoom + (rest.map fun v => v.category).sum ≤ 8) (hdg : decode cc g.pc = .ok (.invokestatic index, 3)) (hf : cells + mc ≤ R.cells ∧ slots + ms ≤ R.slots) :
    vx_Run p l e R s m args below meth c H locs cells slots mc ms g rest (Qc As.toArray) XC free := by
  have hK : vx_Back l R p e below s args y 3 8 (PreOf R mc ms Pc) (PostOf Qc mc ms free) (vx_Post XC mc ms free) := vx_callBack cw.1 hM hp.1
  obtain ⟨⟨-, -, -, -, -, -, hcode, hini, hy, hlen, hl⟩, hstt⟩ := cw
  obtain ⟨hx, hb, hml, ho, -⟩ := S
  intro T hT X
  rcases vx_callS X hx (bytes := bytes) (maxL := maxL) (ret := ret) ho hl hstt hini hcode hy hK hg (hsize.trans hml.symm) (argsL := As) (rest := rest) (fun sig h => hn.trans (hlen sig h)) hstack hW (by rw [hb]; exact hdg)
    (fun vm₁ hW₁ => ⟨hf.1, hf.2, hp.2 (T.setVm vm₁) hT hW₁⟩) with ⟨v, vm₁, ⟨U', l2, c2, s2⟩, hW₁, X', ⟨g', mk, t, L, e1, e2, hq, h1, hL, h2, h3⟩, st⟩ | ⟨q, vm₁, ⟨U', l2, c2, s2⟩, hW₁, X', ⟨g', mk, t, L, E, ce, e1, e2, hq, hce, hcv, hcl, h1, hL, h2, h3⟩, st⟩
  · dsimp only [Pt.U, Pt.locs, Pt.cells, Pt.slots] at X' e1 e2 h1 h2 h3 st
    subst h1; subst h2; subst h3
    exact Or.inl ⟨v, (T.setVm vm₁).calling g' mk As.toArray, t, U', L, hT, X', hL, e1, e2, hq, st⟩
  · dsimp only [Pt.U, Pt.locs, Pt.cells, Pt.slots] at X' e1 e2 h1 h2 h3 st hcl
    subst h1; subst h2; subst h3
    exact Or.inr ⟨q, (T.setVm vm₁).calling g' mk As.toArray, t, U', L, E, ce, hT, X', hL, e1, e2, hq, hce, hcv, vx_cls hW₁ hcl, st⟩
end Runs
section Rows
variable {p : Program} {l : Launch} {e : Env} {R : Room} {s : State} {m : MethodId} {args : Array Value} {below : List Frame} {meth : Method} {c : Code} {H : Heap} {locs : List Loc} {cells slots : Nat} {Q : State → Prop}
variable {mc ms : Nat} {free : Addr → Prop} {A0 A1 : Nat → Prop} {H0 : Heap} {a : Array Value} {pc : Nat} {ls : Array Slot} {st0 rest : List Value}
theorem vx_keep {st₀ t T' : State} {L : List Loc} (h0 : st₀.heap = H) (e1 : T'.heap = t.heap) (hS : va_S A0 H0 H locs) (hA : ∀ q, q < H.size → A1 q → A0 q) (hf : ∀ q, free q → A0 q) (hL : ∀ q ∈ L, free q.base) (hF : va_F A1 st₀ t) :
    H.size ≤ T'.heap.size ∧ (∀ q : Nat, q < H.size → ¬ A1 q → T'.heap[q]? = H[q]?) ∧ va_S A0 H0 T'.heap (locs ++ L) := by
  obtain ⟨hz, hk⟩ := hF
  rw [h0] at hz hk
  exact ⟨by rw [e1]; exact hz, fun q h1 h2 => by rw [e1]; exact hk q h1 h2,
    ⟨Nat.le_trans hS.1 (by rw [e1]; exact hz), fun q h1 h2 => by rw [e1, hk q (Nat.lt_of_lt_of_le h1 hS.1) (fun z => h2 (hA q (Nat.lt_of_lt_of_le h1 hS.1) z))]; exact hS.2.1 q h1 h2, fun q hq => by
      rcases List.mem_append.mp hq with h | h
      · exact hS.2.2 q h
      · exact hf _ (hL q h)⟩⟩
theorem vx_calli {S SX : Type} {post : Int32 → S → Prop} {px : SX → Prop} {B : S → State → Prop} {BX : String → SX → State → Prop} {AX : Nat → Prop} (hr : vx_Run p l e R s m args below meth c H locs cells slots mc ms (F0 m pc ls st0) rest (va_Qi post B A1 a) (vx_X px BX AX) free) (hS : va_S A0 H0 H locs) (hA : ∀ q, q < H.size → A1 q → A0 q) (hf : ∀ q, free q → A0 q) (hAX : ∀ q, q < H.size → AX q → A0 q)
    (kx : ∀ (E : String) (ce : Cell) (q9 : Addr) (u : SX) (t : State) (H1 : Heap) (locs1 : List Loc), t.heap = H1 → s.vm.Alike t.vm → px u → BX E u t → H.size ≤ H1.size → (∀ q : Nat, q < H.size → ¬ AX q → H1[q]? = H[q]?) → va_S A0 H0 H1 locs1 → H1[q9]? = some ce → ce.vm = .none → s.vm.findClass E = some ce.cls → vx_W p l e R s m args below meth c H1 locs1 (cells + mc) (slots + ms) Q (F0 m pc ls rest) q9)
    (kk : ∀ (r : Int32) (u : S) (t : State) (H1 : Heap) (locs1 : List Loc), t.heap = H1 → s.vm.Alike t.vm → post r u → B u t → H.size ≤ H1.size → (∀ q : Nat, q < H.size → ¬ A1 q → H1[q]? = H[q]?) → va_S A0 H0 H1 locs1 → W p l e R s m args below meth c H1 locs1 (cells + mc) (slots + ms) Q (F0 m (pc + 3) ls (.int r :: rest))) : W p l e R s m args below meth c H locs cells slots Q (F0 m pc ls st0) := by
  intro T hT X
  rcases hr T hT X with ⟨v, st₀, t, T', L, h0, X', hL, e1, e2, ⟨⟨r, u, hv, hp, hb⟩, hF⟩, st⟩ | ⟨q, st₀, t, T', L, E, ce, h0, X', hL, e1, e2, ⟨u, hp, hb, hF⟩, hce, hcv, hcl, st⟩
  · cases hv
    obtain ⟨k1, k2, k3⟩ := vx_keep h0 e1 hS hA hf hL hF
    obtain ⟨t2, a1, b1⟩ := kk r u t T'.heap (locs ++ L) e1.symm (by rw [← e2]; exact X'.warmed.alike) hp hb k1 k2 k3 T' rfl X'
    exact ⟨t2, st t2 a1, b1⟩
  · obtain ⟨k1, k2, k3⟩ := vx_keep h0 e1 hS hAX hf hL hF
    obtain ⟨t2, a1, b1⟩ := kx E ce q u t T'.heap (locs ++ L) e1.symm (by rw [← e2]; exact X'.warmed.alike) hp hb k1 k2 k3 (by rw [e1]; exact hce) hcv hcl T' rfl X'
    exact ⟨t2, st.trans a1, b1⟩
theorem vx_calll {S SX : Type} {post : Int64 → S → Prop} {px : SX → Prop} {B : S → State → Prop} {BX : String → SX → State → Prop} {AX : Nat → Prop} (hr : vx_Run p l e R s m args below meth c H locs cells slots mc ms (F0 m pc ls st0) rest (va_Ql post B A1 a) (vx_X px BX AX) free) (hS : va_S A0 H0 H locs) (hA : ∀ q, q < H.size → A1 q → A0 q) (hf : ∀ q, free q → A0 q) (hAX : ∀ q, q < H.size → AX q → A0 q)
    (kx : ∀ (E : String) (ce : Cell) (q9 : Addr) (u : SX) (t : State) (H1 : Heap) (locs1 : List Loc), t.heap = H1 → s.vm.Alike t.vm → px u → BX E u t → H.size ≤ H1.size → (∀ q : Nat, q < H.size → ¬ AX q → H1[q]? = H[q]?) → va_S A0 H0 H1 locs1 → H1[q9]? = some ce → ce.vm = .none → s.vm.findClass E = some ce.cls → vx_W p l e R s m args below meth c H1 locs1 (cells + mc) (slots + ms) Q (F0 m pc ls rest) q9)
    (kk : ∀ (r : Int64) (u : S) (t : State) (H1 : Heap) (locs1 : List Loc), t.heap = H1 → s.vm.Alike t.vm → post r u → B u t → H.size ≤ H1.size → (∀ q : Nat, q < H.size → ¬ A1 q → H1[q]? = H[q]?) → va_S A0 H0 H1 locs1 → W p l e R s m args below meth c H1 locs1 (cells + mc) (slots + ms) Q (F0 m (pc + 3) ls (.long r :: rest))) : W p l e R s m args below meth c H locs cells slots Q (F0 m pc ls st0) := by
  intro T hT X
  rcases hr T hT X with ⟨v, st₀, t, T', L, h0, X', hL, e1, e2, ⟨⟨r, u, hv, hp, hb⟩, hF⟩, st⟩ | ⟨q, st₀, t, T', L, E, ce, h0, X', hL, e1, e2, ⟨u, hp, hb, hF⟩, hce, hcv, hcl, st⟩
  · cases hv
    obtain ⟨k1, k2, k3⟩ := vx_keep h0 e1 hS hA hf hL hF
    obtain ⟨t2, a1, b1⟩ := kk r u t T'.heap (locs ++ L) e1.symm (by rw [← e2]; exact X'.warmed.alike) hp hb k1 k2 k3 T' rfl X'
    exact ⟨t2, st t2 a1, b1⟩
  · obtain ⟨k1, k2, k3⟩ := vx_keep h0 e1 hS hAX hf hL hF
    obtain ⟨t2, a1, b1⟩ := kx E ce q u t T'.heap (locs ++ L) e1.symm (by rw [← e2]; exact X'.warmed.alike) hp hb k1 k2 k3 (by rw [e1]; exact hce) hcv hcl T' rfl X'
    exact ⟨t2, st.trans a1, b1⟩
theorem vx_callf {S SX : Type} {post : UInt32 → S → Prop} {px : SX → Prop} {B : S → State → Prop} {BX : String → SX → State → Prop} {AX : Nat → Prop} (hr : vx_Run p l e R s m args below meth c H locs cells slots mc ms (F0 m pc ls st0) rest (va_Qf post B A1 a) (vx_X px BX AX) free) (hS : va_S A0 H0 H locs) (hA : ∀ q, q < H.size → A1 q → A0 q) (hf : ∀ q, free q → A0 q) (hAX : ∀ q, q < H.size → AX q → A0 q)
    (kx : ∀ (E : String) (ce : Cell) (q9 : Addr) (u : SX) (t : State) (H1 : Heap) (locs1 : List Loc), t.heap = H1 → s.vm.Alike t.vm → px u → BX E u t → H.size ≤ H1.size → (∀ q : Nat, q < H.size → ¬ AX q → H1[q]? = H[q]?) → va_S A0 H0 H1 locs1 → H1[q9]? = some ce → ce.vm = .none → s.vm.findClass E = some ce.cls → vx_W p l e R s m args below meth c H1 locs1 (cells + mc) (slots + ms) Q (F0 m pc ls rest) q9)
    (kk : ∀ (r : UInt32) (u : S) (t : State) (H1 : Heap) (locs1 : List Loc), t.heap = H1 → s.vm.Alike t.vm → post r u → B u t → H.size ≤ H1.size → (∀ q : Nat, q < H.size → ¬ A1 q → H1[q]? = H[q]?) → va_S A0 H0 H1 locs1 → W p l e R s m args below meth c H1 locs1 (cells + mc) (slots + ms) Q (F0 m (pc + 3) ls (.float r :: rest))) : W p l e R s m args below meth c H locs cells slots Q (F0 m pc ls st0) := by
  intro T hT X
  rcases hr T hT X with ⟨v, st₀, t, T', L, h0, X', hL, e1, e2, ⟨⟨r, u, hv, hp, hb⟩, hF⟩, st⟩ | ⟨q, st₀, t, T', L, E, ce, h0, X', hL, e1, e2, ⟨u, hp, hb, hF⟩, hce, hcv, hcl, st⟩
  · cases hv
    obtain ⟨k1, k2, k3⟩ := vx_keep h0 e1 hS hA hf hL hF
    obtain ⟨t2, a1, b1⟩ := kk r u t T'.heap (locs ++ L) e1.symm (by rw [← e2]; exact X'.warmed.alike) hp hb k1 k2 k3 T' rfl X'
    exact ⟨t2, st t2 a1, b1⟩
  · obtain ⟨k1, k2, k3⟩ := vx_keep h0 e1 hS hAX hf hL hF
    obtain ⟨t2, a1, b1⟩ := kx E ce q u t T'.heap (locs ++ L) e1.symm (by rw [← e2]; exact X'.warmed.alike) hp hb k1 k2 k3 (by rw [e1]; exact hce) hcv hcl T' rfl X'
    exact ⟨t2, st.trans a1, b1⟩
theorem vx_calld {S SX : Type} {post : UInt64 → S → Prop} {px : SX → Prop} {B : S → State → Prop} {BX : String → SX → State → Prop} {AX : Nat → Prop} (hr : vx_Run p l e R s m args below meth c H locs cells slots mc ms (F0 m pc ls st0) rest (va_Qd post B A1 a) (vx_X px BX AX) free) (hS : va_S A0 H0 H locs) (hA : ∀ q, q < H.size → A1 q → A0 q) (hf : ∀ q, free q → A0 q) (hAX : ∀ q, q < H.size → AX q → A0 q)
    (kx : ∀ (E : String) (ce : Cell) (q9 : Addr) (u : SX) (t : State) (H1 : Heap) (locs1 : List Loc), t.heap = H1 → s.vm.Alike t.vm → px u → BX E u t → H.size ≤ H1.size → (∀ q : Nat, q < H.size → ¬ AX q → H1[q]? = H[q]?) → va_S A0 H0 H1 locs1 → H1[q9]? = some ce → ce.vm = .none → s.vm.findClass E = some ce.cls → vx_W p l e R s m args below meth c H1 locs1 (cells + mc) (slots + ms) Q (F0 m pc ls rest) q9)
    (kk : ∀ (r : UInt64) (u : S) (t : State) (H1 : Heap) (locs1 : List Loc), t.heap = H1 → s.vm.Alike t.vm → post r u → B u t → H.size ≤ H1.size → (∀ q : Nat, q < H.size → ¬ A1 q → H1[q]? = H[q]?) → va_S A0 H0 H1 locs1 → W p l e R s m args below meth c H1 locs1 (cells + mc) (slots + ms) Q (F0 m (pc + 3) ls (.double r :: rest))) : W p l e R s m args below meth c H locs cells slots Q (F0 m pc ls st0) := by
  intro T hT X
  rcases hr T hT X with ⟨v, st₀, t, T', L, h0, X', hL, e1, e2, ⟨⟨r, u, hv, hp, hb⟩, hF⟩, st⟩ | ⟨q, st₀, t, T', L, E, ce, h0, X', hL, e1, e2, ⟨u, hp, hb, hF⟩, hce, hcv, hcl, st⟩
  · cases hv
    obtain ⟨k1, k2, k3⟩ := vx_keep h0 e1 hS hA hf hL hF
    obtain ⟨t2, a1, b1⟩ := kk r u t T'.heap (locs ++ L) e1.symm (by rw [← e2]; exact X'.warmed.alike) hp hb k1 k2 k3 T' rfl X'
    exact ⟨t2, st t2 a1, b1⟩
  · obtain ⟨k1, k2, k3⟩ := vx_keep h0 e1 hS hAX hf hL hF
    obtain ⟨t2, a1, b1⟩ := kx E ce q u t T'.heap (locs ++ L) e1.symm (by rw [← e2]; exact X'.warmed.alike) hp hb k1 k2 k3 (by rw [e1]; exact hce) hcv hcl T' rfl X'
    exact ⟨t2, st.trans a1, b1⟩
theorem vx_callv {S SX : Type} {post : S → Prop} {px : SX → Prop} {B : S → State → Prop} {BX : String → SX → State → Prop} {AX : Nat → Prop} (hr : vx_Run p l e R s m args below meth c H locs cells slots mc ms (F0 m pc ls st0) rest (va_Qv post B A1 a) (vx_X px BX AX) free) (hS : va_S A0 H0 H locs) (hA : ∀ q, q < H.size → A1 q → A0 q) (hf : ∀ q, free q → A0 q) (hAX : ∀ q, q < H.size → AX q → A0 q)
    (kx : ∀ (E : String) (ce : Cell) (q9 : Addr) (u : SX) (t : State) (H1 : Heap) (locs1 : List Loc), t.heap = H1 → s.vm.Alike t.vm → px u → BX E u t → H.size ≤ H1.size → (∀ q : Nat, q < H.size → ¬ AX q → H1[q]? = H[q]?) → va_S A0 H0 H1 locs1 → H1[q9]? = some ce → ce.vm = .none → s.vm.findClass E = some ce.cls → vx_W p l e R s m args below meth c H1 locs1 (cells + mc) (slots + ms) Q (F0 m pc ls rest) q9)
    (kk : ∀ (u : S) (t : State) (H1 : Heap) (locs1 : List Loc), t.heap = H1 → s.vm.Alike t.vm → post u → B u t → H.size ≤ H1.size → (∀ q : Nat, q < H.size → ¬ A1 q → H1[q]? = H[q]?) → va_S A0 H0 H1 locs1 → W p l e R s m args below meth c H1 locs1 (cells + mc) (slots + ms) Q (F0 m (pc + 3) ls (rest))) : W p l e R s m args below meth c H locs cells slots Q (F0 m pc ls st0) := by
  intro T hT X
  rcases hr T hT X with ⟨v, st₀, t, T', L, h0, X', hL, e1, e2, ⟨⟨u, hv, hp, hb⟩, hF⟩, st⟩ | ⟨q, st₀, t, T', L, E, ce, h0, X', hL, e1, e2, ⟨u, hp, hb, hF⟩, hce, hcv, hcl, st⟩
  · cases hv
    obtain ⟨k1, k2, k3⟩ := vx_keep h0 e1 hS hA hf hL hF
    obtain ⟨t2, a1, b1⟩ := kk u t T'.heap (locs ++ L) e1.symm (by rw [← e2]; exact X'.warmed.alike) hp hb k1 k2 k3 T' rfl X'
    exact ⟨t2, st t2 a1, b1⟩
  · obtain ⟨k1, k2, k3⟩ := vx_keep h0 e1 hS hAX hf hL hF
    obtain ⟨t2, a1, b1⟩ := kx E ce q u t T'.heap (locs ++ L) e1.symm (by rw [← e2]; exact X'.warmed.alike) hp hb k1 k2 k3 (by rw [e1]; exact hce) hcv hcl T' rfl X'
    exact ⟨t2, st.trans a1, b1⟩
/-- caught by the row x of this method's table; the rows ahead don't take it -/
theorem vx_catch {own name : String} {E : String} {ce : Cell} {q : Addr} (hown : s.vm.findClass own = some m.cls) (pre : List ExceptionTableEntry) (x : ExceptionTableEntry) (suf : List ExceptionTableEntry) (hsplit : c.exceptionTable.toList = pre ++ x :: suf)
    (hpass : ∀ z ∈ pre, covers z pc = false ∨ (z.catchType ≠ 0 ∧ ∃ nm : String, (Cond.classLink own z.catchType nm).before args s = true ∧ va_Nc E nm s)) (hx : covers x pc = true) (h0 : x.catchType ≠ 0)
    (hlink : (Cond.classLink own x.catchType name).before args s = true) (hcast : (Cond.castable E name).before args s = true) (hcell : H[q]? = some ce) (hv : ce.vm = .none) (hcl : s.vm.findClass E = some ce.cls)
    (kk : W p l e R s m args below meth c H locs cells slots Q (F0 m x.handlerPc ls [.ref q])) : vx_W p l e R s m args below meth c H locs cells slots Q (F0 m pc ls rest) q := by
  intro T hT X
  have hpl : e.platform.magicAccessors = ({} : Platform).magicAccessors := by rw [X.admits.platform]
  obtain ⟨c3, c4, hc3, hc4, hasg⟩ := Cond.castable_spec hcast
  cases Option.some.inj (hc3.symm.trans hcl)
  obtain ⟨c5, hc5, hcl5⟩ := Cond.classLink_spec hown hlink e.platform hpl
  cases Option.some.inj (hc4.symm.trans hc5)
  obtain ⟨vm', X', st⟩ := X.thenCaughtThrough q (g := F0 m pc ls rest) rfl (Steps.refl _) (by rw [hT]; exact hcell) (by rw [hv]; rfl) (by obtain ⟨k9, h9, -⟩ := Vm.findClass_spec hcl; exact ⟨k9, h9⟩) pre x suf hsplit
    (fun z hz => by
      rcases hpass z hz with h | ⟨hz0, nm, hl1, hn1⟩
      · exact Or.inl h
      · obtain ⟨c6, hc6, hcl6⟩ := Cond.classLink_spec hown hl1 e.platform hpl
        obtain ⟨a8, b8, h1, h2, h3⟩ := hn1
        cases Option.some.inj (h1.symm.trans hcl)
        cases Option.some.inj (h2.symm.trans hc6)
        exact Or.inr ⟨hz0, _, hcl6, h3⟩) hx (Or.inr ⟨h0, c4, hcl5, hasg⟩)
  obtain ⟨t, a1, b1⟩ := kk (T.setVm vm') hT X'
  exact ⟨t, st.trans a1, b1⟩
end Rows
section Ends
variable {p : Program} {l : Launch} {e : Env} {R : Room} {s : State} {m : MethodId} {args : Array Value} {below : List Frame} {meth : Method} {c : Code} {H : Heap} {locs : List Loc} {cells slots : Nat} {Q : State → Prop}
variable {mc ms : Nat} {free : Addr → Prop} {A0 A1 : Nat → Prop} {H0 : Heap} {a : Array Value} {ls : Array Slot} {st0 rest : List Value}
variable {Qc : Array Value → State → Outcome → State → Prop} {XC : String → State → State → Prop}
/-- what a body that may throw owes at its end -/
def vx_MQ (below : List Frame) (Qc : Array Value → State → Outcome → State → Prop) (XC : String → State → State → Prop) (a : Array Value) (s : State) (mc ms : Nat) (free : Addr → Prop) : State → Prop := fun t =>
  ∃ o, t.status = .running ∧ Ended t below o ∧ vx_Q Qc XC mc ms free a s o t
theorem vx_ret {g : JFrame} {mc ms : Nat} (k : W p l e R s m args below meth c H locs cells slots (MQ below Qc args s mc ms free) g) : W p l e R s m args below meth c H locs cells slots (vx_MQ below Qc XC args s mc ms free) g := by
  intro T hT X
  obtain ⟨t, a1, o, b1, b2, b3, b4⟩ := k T hT X
  exact ⟨t, a1, o, b1, b2, Or.inl ⟨b3, b4⟩⟩
/-- not caught here: it goes on to the caller -/
theorem vx_widen {g : JFrame} {q : Addr} {k n : Nat} (h1 : cells ≤ k) (h2 : slots ≤ n) (kk : vx_W p l e R s m args below meth c H locs k n Q g q) : vx_W p l e R s m args below meth c H locs cells slots Q g q := fun T hT X => kk T hT (stand_widen X h1 h2)
theorem vx_out {pc : Nat} {E : String} {ce : Cell} {q : Addr} {mc ms : Nat} (hout : ∀ x ∈ c.exceptionTable.toList, covers x pc = false) (hlocks : meth.locks = false) (hcell : H[q]? = some ce) (hv : ce.vm = .none) (hcl : s.vm.findClass E = some ce.cls)
    (hx : ∀ t : State, t.heap = H → s.vm.Alike t.vm → XC E s t) (hf : ∀ z ∈ locs, free z.base) (hc : cells ≤ mc) (hs : slots ≤ ms) :
    vx_W p l e R s m args below meth c H locs cells slots (vx_MQ below Qc XC args s mc ms free) (F0 m pc ls rest) q := by
  intro T hT X
  obtain ⟨st1, hrun, hend, hW, hsm⟩ := X.leaveThrown q (g := F0 m pc ls rest) rfl rfl rfl hout hlocks
  have hcell9 : (T.setFrames (.throwing q :: below)).heap[q]? = some ce := by
    show T.heap[q]? = some ce
    rw [hT]; exact hcell
  exact ⟨_, st1, .threw q, hrun, hend, Or.inr ⟨q, rfl, E, ce, locs, hx _ hT hW.alike, hcell9, hv, hcl, hW, hsm.mono hc hs, hf⟩⟩
theorem vx_frame {U : State} {k n : Nat} (h : s.sameButNew ({ U with vm := s.vm } : State) locs k n) : s.heap.size ≤ U.heap.size ∧ ∀ q : Nat, q < s.heap.size → (∀ z ∈ locs, z.base ≠ q) → U.heap[q]? = s.heap[q]? := by
  obtain ⟨-, h2, -, -, -, h6⟩ := h
  refine ⟨h2, fun q hq hz => ?_⟩
  obtain ⟨c9, e1, e2, e3, e4⟩ := h6 q _ (Array.getElem?_eq_getElem hq)
  have hs : c9.slots = (s.heap[q]).slots := Array.ext_getElem? fun i => e4 i fun hm => hz _ hm rfl
  have h9 : c9 = s.heap[q] := by
    rw [hs] at e2
    exact e2
  have e5 : U.heap[q]? = some c9 := e1
  rw [e5, h9, Array.getElem?_eq_getElem hq]
/-- the words of a throw but the four that speak of the heap -/
def vx_no (w : Cond) : Bool := decide (w ≠ .isRef (.static Bundle.tN "UNASSIGNED_STACK" Bundle.steD)) && decide (w ≠ .isRef (.static Bundle.tN "SUPPRESSED_SENTINEL" Bundle.listD)) && decide (w ≠ .laysStatic Bundle.tN "UNASSIGNED_STACK" Bundle.steD) && decide (w ≠ .laysStatic Bundle.tN "SUPPRESSED_SENTINEL" Bundle.listD)
def vx_at0 (own : String) (ic : Nat) (X : String) (names : List String) : List Cond := (Bundle.ownAtoms0 own ic X names).filter vx_no
def vx_atS (own : String) (ic : Nat) (X : String) (names : List String) : List Cond := (Bundle.ownAtoms own ic X names).filter vx_no
/-- a word that the tables alone decide, or a good one -/
def vx_ot (w : Cond) : Bool := w.onTables || goodWord w
theorem vx_ot_at {args a' : Array Value} {s U : State} {w : Cond} (hW : s.WarmedH U.vm) (hvm : s.vm = U.vm) (hg : vx_ot w = true) (h : w.before args s = true) : w.before a' U = true := by
  simp only [vx_ot, Bool.or_eq_true] at hg
  rcases hg with hg | hg
  · exact va_tabs hg hvm h
  · exact word_at hW (good_of_word hg) h
/-- a list's words: the good ones out of the method's own list, the others by premises of their own -/
theorem vx_hat {args : Array Value} {s : State} {L B : List Cond} (h1 : ∀ w ∈ L.filter goodWord, w.before args s = true) (h2 : ∀ w ∈ L.filter (fun w => !goodWord w), w ∈ B) (h3 : ∀ w ∈ B, w.before args s = true) : ∀ w ∈ L, w.before args s = true := by
  intro w hw
  by_cases g : goodWord w = true
  · exact h1 w (List.mem_filter.mpr ⟨hw, g⟩)
  · refine h3 w (h2 w (List.mem_filter.mpr ⟨hw, ?_⟩))
    show (!goodWord w) = true
    cases hgw : goodWord w
    · rfl
    · exact absurd hgw g
theorem vx_c {args : Array Value} {s : State} {w : Cond} {B : List Cond} (h : w.before args s = true) (t : ∀ w ∈ B, w.before args s = true) : ∀ w' ∈ w :: B, w'.before args s = true := fun w' h' => (List.mem_cons.mp h').elim (fun e => by rw [e]; exact h) (t w')
theorem vx_n {args : Array Value} {s : State} : ∀ w ∈ ([] : List Cond), w.before args s = true := fun _ h => nomatch h
theorem vx_own {args : Array Value} {s : State} {L : List Cond} (h1 : ∀ w ∈ L.filter vx_no, w.before args s = true)
    (hU : (Cond.isRef (.static Bundle.tN "UNASSIGNED_STACK" Bundle.steD)).before args s = true) (hN : (Cond.isRef (.static Bundle.tN "SUPPRESSED_SENTINEL" Bundle.listD)).before args s = true)
    (lU : (Cond.laysStatic Bundle.tN "UNASSIGNED_STACK" Bundle.steD).before args s = true) (lN : (Cond.laysStatic Bundle.tN "SUPPRESSED_SENTINEL" Bundle.listD).before args s = true) : ∀ w ∈ L, w.before args s = true := by
  intro w hw
  by_cases e1 : w = .isRef (.static Bundle.tN "UNASSIGNED_STACK" Bundle.steD)
  · rw [e1]; exact hU
  · by_cases e2 : w = .isRef (.static Bundle.tN "SUPPRESSED_SENTINEL" Bundle.listD)
    · rw [e2]; exact hN
    · by_cases e3 : w = .laysStatic Bundle.tN "UNASSIGNED_STACK" Bundle.steD
      · rw [e3]; exact lU
      · by_cases e4 : w = .laysStatic Bundle.tN "SUPPRESSED_SENTINEL" Bundle.listD
        · rw [e4]; exact lN
        · exact h1 w (List.mem_filter.mpr ⟨hw, by unfold vx_no; rw [decide_eq_true e1, decide_eq_true e2, decide_eq_true e3, decide_eq_true e4]; rfl⟩)
/-- where a static field lies, its class's statics cell in H -/
def vx_L (C n d : String) (A : Nat → Prop) (U : State) (H : Heap) : Prop := ∃ (c : ClassId) (k : Class) (i : Nat) (f : Field) (a : Nat) (cell : Cell), U.vm.findClass C = some c ∧ U.fieldFound? C n d = some (c, k, i, f) ∧ f.isStatic = true ∧ k.statics = some a ∧ H[a]? = some cell ∧ cell.vm.isStatics = true ∧ cell.cls = c ∧ f.slot < cell.slots.size ∧ k.staticTypes[f.slot]? = some f.type ∧ ¬ A a
theorem vx_L.moved {C n d : String} {A : Nat → Prop} {u U : State} {H : Heap} (hvm : u.vm.Alike U.vm) (h : vx_L C n d A u H) : vx_L C n d A U H := by
  obtain ⟨c, k, i, f, a, cell, h1, h2, h3, h4, h5, h6, h7, h8, h9, h10⟩ := h
  obtain ⟨k', hi', he⟩ := State.fieldFound?_setVm hvm h2
  exact ⟨c, k', i, f, a, cell, by rw [hvm.findClass]; exact h1, hi', h3, by rw [he]; exact h4, h5, h6, h7, h8, by rw [he]; exact h9, h10⟩
theorem vx_L.kept {C n d : String} {A : Nat → Prop} {U : State} {H H1 : Heap} (h : vx_L C n d A U H) (hq : ∀ a : Nat, a < H.size → ¬ A a → H1[a]? = H[a]?) : vx_L C n d A U H1 := by
  obtain ⟨c, k, i, f, a, cell, h1, h2, h3, h4, h5, h6, h7, h8, h9, h10⟩ := h
  exact ⟨c, k, i, f, a, cell, h1, h2, h3, h4, by rw [hq a (Array.getElem?_eq_some_iff.mp h5).1 h10]; exact h5, h6, h7, h8, h9, h10⟩
theorem vx_L.narrow {C n d : String} {A B : Nat → Prop} {U : State} {H : Heap} (h : vx_L C n d A U H) (hAB : ∀ q, B q → A q) : vx_L C n d B U H := by
  obtain ⟨c, k, i, f, a, cell, h1, h2, h3, h4, h5, h6, h7, h8, h9, h10⟩ := h
  exact ⟨c, k, i, f, a, cell, h1, h2, h3, h4, h5, h6, h7, h8, h9, fun z => h10 (hAB _ z)⟩
theorem vx_L.word {C n d : String} {A : Nat → Prop} {s : State} {args : Array Value} (h : vx_L C n d A s s.heap) : (Cond.laysStatic C n d).before args s = true := by
  obtain ⟨c, k, i, f, a, cell, h1, h2, h3, h4, h5, h6, h7, h8, h9, -⟩ := h
  show (Cond.laysStatic C n d).holds args s none s [] = true
  exact Cond.laysStatic_of h1 h2 h3 h4 h5 h6 h7 h8 h9
/-- .. and what it holds: null or some reference -/
def vx_Zq (C n d : String) (A : Nat → Prop) (U : State) (H : Heap) : Prop := va_Zq C n d A U H ∧ vx_L C n d A U H
theorem vx_Zq.moved {C n d : String} {A : Nat → Prop} {u U : State} {H : Heap} (hvm : u.vm.Alike U.vm) (h : vx_Zq C n d A u H) : vx_Zq C n d A U H := ⟨va_Zq.moved hvm h.1, vx_L.moved hvm h.2⟩
theorem vx_Zq.kept {C n d : String} {A : Nat → Prop} {U : State} {H H1 : Heap} (h : vx_Zq C n d A U H) (hq : ∀ a : Nat, a < H.size → ¬ A a → H1[a]? = H[a]?) : vx_Zq C n d A U H1 := ⟨va_Zq.kept h.1 hq, vx_L.kept h.2 hq⟩
theorem vx_Zq.narrow {C n d : String} {A B : Nat → Prop} {U : State} {H : Heap} (h : vx_Zq C n d A U H) (hAB : ∀ q, B q → A q) : vx_Zq C n d B U H := ⟨va_Zq.narrow h.1 hAB, vx_L.narrow h.2 hAB⟩
theorem vx_Zqof {args : Array Value} {s : State} {C n d : String} {A : Nat → Prop} (hl : (Cond.laysStatic C n d).before args s = true) (hini : (Cond.initialized C).before args s = true) (h : (Cond.isRef (.static C n d)).before args s = true) (hA : ∀ a : Nat, a < s.heap.size → ¬ A a) : vx_Zq C n d A s s.heap := by
  refine ⟨va_Zqof hl hini h hA, ?_⟩
  obtain ⟨c, k, i, f, a, cell, h1, h2, h3, h4, h5, h6, h7, h8, h9⟩ := Cond.laysStatic_spec hl
  exact ⟨c, k, i, f, a, cell, h1, h2, h3, h4, h5, h6, h7, h8, h9, hA a (Array.getElem?_eq_some_iff.mp h5).1⟩
theorem vx_isRef {C n d : String} {v : Value} {A : Nat → Prop} {s : State} {args : Array Value} (h : va_Z C n d v A s s.heap) (hv : v.isRef = true) : (Cond.isRef (.static C n d)).before args s = true := by
  obtain ⟨cf, kf, fi, f, a, cell, h1, h2, h3, h4, h5, h6, h7, -⟩ := h
  have he : (Term.static C n d).eval args s none [] s = some v := by
    simp [Term.eval, State.fieldNamed?, h1, h2, h4, h5, h6, h7]
  simp only [Cond.before, Cond.holds, Cond.value, he]
  cases v <;> simp_all [Value.isRef]
theorem vx_isRefq {C n d : String} {A : Nat → Prop} {s : State} {args : Array Value} (h : va_Zq C n d A s s.heap) : (Cond.isRef (.static C n d)).before args s = true := by
  rcases h with h | ⟨t, h⟩
  · exact vx_isRef h rfl
  · exact vx_isRef h rfl
/-- the same frame, seen from here: as if the method were called anew in this heap -/
theorem vx_rebase {T : State} (X : Stand p l e R s m args below meth c T locs cells slots) {R' : Room} (hf : R'.frames ≤ R.frames) (hl : R'.locals ≤ R.locals) (hc : cells + R'.cells ≤ R.cells) (hs : slots + R'.slots ≤ R.slots) :
    Stand p l e R' ((T.setVm s.vm).setFrames (.invoking m args :: below)) m args below meth c T [] 0 0 := by
  have htop : (T.setVm s.vm).topJava?.isSome := X.here.top
  have hF : ((T.setVm s.vm).setFrames (.invoking m args :: below)).frames = .invoking m args :: below := State.frames_setFrames _ (State.cur_lt_of_top htop)
  obtain ⟨g₀, hg0⟩ := Option.isSome_iff_exists.mp htop
  obtain ⟨r, hr⟩ := State.topJava?_eq_some.mp hg0
  have hl9 : e.platform.stackLimits (T.setVm s.vm).me = e.platform.stackLimits s.me := X.limits
  have hb9 : (T.setVm s.vm).me.stackBytes = s.me.stackBytes := X.bytes
  refine ⟨X.admits, X.cas, X.clock, hF, ?_, X.hears, X.method, X.code, X.here, X.tail, X.warmed, ?_, ?_, ?_⟩
  · have h := X.room
    have hU : ((T.setVm s.vm).setFrames (.invoking m args :: below)).localsInUse = s.localsInUse := by
      rw [State.localsInUse_invoking hF (meth := meth) (c := c) X.method X.code, State.localsInUse_invoking X.frames X.method X.code]
    simp only [State.hasRoom, Bool.and_eq_true, decide_eq_true_eq] at h ⊢
    obtain ⟨⟨⟨⟨h1, h2, h3, h4, h5, h6⟩, h7⟩, h8⟩, h9⟩ := h
    rw [X.frames, List.length_cons] at h2 h3
    have q1 := X.heapSize
    have q2 := X.used
    simp only [hF, hU, List.length_cons, State.stackLimits_setFrames, State.stackBytes_setFrames, hl9, hb9]
    refine ⟨⟨⟨⟨by omega, by omega, by omega, by omega, by omega, h6⟩, ?_⟩, ?_⟩, X.book⟩
    · show T.heap.size + R'.cells ≤ e.platform.maxCells
      omega
    · show T.slotsUsed + R'.slots ≤ e.platform.maxSlots
      omega
  · rw [State.stackLimits_setFrames]; rfl
  · rw [State.stackBytes_setFrames]; rfl
  · refine ⟨?_, Nat.le_refl _, Nat.le_refl _, ?_, ?_, fun a c9 h9 => ⟨c9, h9, rfl, rfl, fun _ _ => rfl⟩⟩
    · obtain ⟨t, ht, -⟩ := State.frames_cons hr
      show T.setVm s.vm = { ((T.setVm s.vm).setFrames (.invoking m args :: below)).setFrames (T.setVm s.vm).frames with heap := T.heap, slotsUsed := T.slotsUsed }
      rw [State.setFrames_setFrames, State.setFrames_self ht]
      rfl
    · show T.slotsUsed = T.slotsUsed + ((T.heap.toList.drop T.heap.size).map (·.slots.size)).sum
      rw [List.drop_eq_nil_of_le (Nat.le_of_eq Array.length_toList)]
      rfl
    · show ((T.heap.toList.drop T.heap.size).map (·.slots.size)).sum ≤ 0
      rw [List.drop_eq_nil_of_le (Nat.le_of_eq Array.length_toList)]
      exact Nat.le_refl _
/-- 'throw new E()': new; dup; invokespecial; athrow -/
theorem vx_throw0 {cc : ByteArray} {pc : Nat} (hexec : p.tables.exec = Jvm.exec) (hb : c.code = cc) (hl : l.stackTraces = false) {own cls : String} {names : List String} {ik ic mc ms : Nat} {A : Nat → Prop}
    (hown : s.vm.findClass own = some m.cls) (hcls : Bundle.fit cls = true) (hnames : ∀ n ∈ names, Bundle.fit n = true)
    (hk : (Cond.classLink own ik cls).before args s = true) (hini : (Cond.initialized cls).before args s = true) (hat : ∀ w ∈ vx_at0 own ic cls names, w.before args s = true)
    (hgood : ∀ w ∈ Cond.classLink own ik cls :: Cond.initialized cls :: vx_at0 own ic cls names, vx_ot w = true)
    (hU : vx_Zq Bundle.tN "UNASSIGNED_STACK" Bundle.steD A s s.heap) (hN : vx_Zq Bundle.tN "SUPPRESSED_SENTINEL" Bundle.listD A s s.heap) (hS : va_S A s.heap H locs) (hsize : ls.size = c.maxLocals)
    (d0 : decode cc pc = .ok (.new ik, 3)) (d3 : decode cc (pc + 3) = .ok (.dup, 1)) (d4 : decode cc (pc + 4) = .ok (.invokespecial ic, 3)) (d7 : decode cc (pc + 7) = .ok (.athrow, 1))
    (hout : ∀ x ∈ c.exceptionTable.toList, covers x (pc + 7) = false)
    (hRframes : names.length + 3 < R.frames) (hRlocals : (rest.map fun v => v.category).sum + (13 * (names.length + 1) + 42) ≤ R.locals) (hRcells : cells + 1 ≤ R.cells) (hRslots : slots + 6 ≤ R.slots) (hlocks : meth.locks = false)
    (hx : ∀ t : State, s.vm.Alike t.vm → H.size ≤ t.heap.size → (∀ q : Nat, q < H.size → t.heap[q]? = H[q]?) → XC cls s t)
    (hf : ∀ z ∈ locs, free z.base) (hc : cells + 1 ≤ mc) (hs : slots + 6 ≤ ms) :
    W p l e R s m args below meth c H locs cells slots (vx_MQ below Qc XC args s mc ms free) (F0 m pc ls rest) := by
  intro T hT X
  have htr : e.platform.stackTraces = false := (show e.platform.stackTraces = l.stackTraces by rw [X.admits.platform]).trans hl
  have Y := vx_rebase X (R' := { frames := R.frames, locals := R.locals, cells := 1, slots := 6 }) (Nat.le_refl _) (Nat.le_refl _) hRcells hRslots
  obtain ⟨s', hA⟩ : ∃ z, z = (T.setVm s.vm).setFrames (.invoking m args :: below) := ⟨_, rfl⟩
  rw [← hA] at Y
  have hvm : s'.vm = s.vm := by rw [hA]; rfl
  have hhp : s'.heap = H := by rw [hA]; exact hT
  have hW0 : s.WarmedH s'.vm := by rw [hvm]; exact State.WarmedH.refl s
  have hat' : ∀ w ∈ vx_at0 own ic cls names, w.before args s' = true := fun w hw => vx_ot_at hW0 hvm.symm (hgood w (List.mem_cons_of_mem _ (List.mem_cons_of_mem _ hw))) (hat w hw)
  have hk' : (Cond.classLink own ik cls).before args s' = true := vx_ot_at hW0 hvm.symm (hgood _ List.mem_cons_self) hk
  have hini' : (Cond.initialized cls).before args s' = true := vx_ot_at hW0 hvm.symm (hgood _ (List.mem_cons_of_mem _ List.mem_cons_self)) hini
  have hU' : vx_Zq Bundle.tN "UNASSIGNED_STACK" Bundle.steD A s' s'.heap := by rw [hhp]; exact vx_Zq.moved hW0.alike (hU.kept hS.2.1)
  have hN' : vx_Zq Bundle.tN "SUPPRESSED_SENTINEL" Bundle.listD A s' s'.heap := by rw [hhp]; exact vx_Zq.moved hW0.alike (hN.kept hS.2.1)
  have h : ∀ w ∈ Bundle.ownAtoms0 own ic cls names, w.before args s' = true := vx_own hat' (vx_isRefq hU'.1) (vx_isRefq hN'.1) hU'.2.word hN'.2.word
  have hown' : s'.vm.findClass own = some m.cls := by rw [hvm]; exact hown
  have hins : (Cond.instantiable cls 6).before args s' = true := h _ (by simp [Bundle.ownAtoms0])
  obtain ⟨vm₁, cX, kX, hfX, hkX, -, -, X₁, st1⟩ := Y.newCold hexec (own := own) (C := cls) (index := ik) (n := 6) hown' hk' hins hini'
    (g := F0 m pc ls rest) rfl (by rw [hb]; exact d0) (Nat.le_refl _) (Nat.le_refl _)
  generalize hT1 : (T.setVm vm₁).pushCell { cls := cX, slots := kX.instanceTypes.map defaultValue, vm := .none } = T1 at X₁ st1
  have hcat : (Value.ref T.heap.size).category = 1 := rfl
  have hcellA : T1.heap[T.heap.size]? = some (freshCell cX kX) := by rw [← hT1]; exact State.heap_pushCell_size _ _
  have d3' : decode c.code (pc + 3) = .ok (.dup, 1) := by rw [hb]; exact d3
  obtain ⟨U, hsteps, hrun, hend, hW, hsame, ce, hce, hO⟩ := X₁.ctorThrow0 hexec htr (own := own) (cls := cls) (names := names) (ic := ic) hown' hcls hnames h (fun x hx => nomatch hx) hfX hkX hcellA (by rw [hhp, hT]; exact Nat.le_refl _)
    (g := { method := m, pc := pc + 4, locals := ls, stack := .ref T.heap.size :: .ref T.heap.size :: rest, locked := none }) rfl hsize rfl rfl (rest := rest) rfl
    (by rw [hb]; exact d4) (by rw [hb]; exact d7) hout hRframes (by simp only [List.map_cons, List.sum_cons, hcat]; omega) hlocks
  obtain ⟨f1, f2⟩ := vx_frame hsame
  rw [hhp] at f1 f2
  have hWs : s.WarmedH U.vm := State.WarmedH.trans hW0 hW
  have hcl : s.vm.findClass cls = some ce.cls := by
    have h9 := hO.cls
    rw [hvm] at h9
    exact h9
  have hall : s.sameButNew ({ U with vm := s.vm } : State) locs mc ms := by
    subst hA
    obtain ⟨e1, e2⟩ := hsame
    rw [State.setFrames_setFrames] at e1
    have h2 : (T.setVm s.vm).sameButNew ({ U with vm := s.vm } : State) [] (0 + 1) (0 + 6) := ⟨e1, e2⟩
    have h3 := X.same.trans h2
    rw [List.append_nil] at h3
    exact h3.mono hc hs
  refine ⟨U, ?_, .threw T.heap.size, hrun, hend, Or.inr ⟨T.heap.size, rfl, cls, ce, locs, hx U hWs.alike f1 (fun q hq => f2 q hq (fun z hz => nomatch hz)), hce, hO.vm, hcl, hWs, hall, hf⟩⟩
  refine st1 _ ?_
  show Steps p.tables e below (T1.setTop { method := m, pc := pc + 3, locals := ls, stack := .ref T.heap.size :: rest, locked := none }) _
  jvm_step X₁.here [X₁.here.top, hexec, d3', Value.category]
  exact hsteps
/-- 'throw new E("text")': new; dup; ldc; invokespecial; athrow -/
theorem vx_throwS {cc : ByteArray} {pc : Nat} (hexec : p.tables.exec = Jvm.exec) (hb : c.code = cc) (hl : l.stackTraces = false) {own cls text : String} {names : List String} {ik is ic mc ms sa : Nat} {A : Nat → Prop}
    (hown : s.vm.findClass own = some m.cls) (hcls : Bundle.fit cls = true) (hnames : ∀ n ∈ names, Bundle.fit n = true)
    (hk : (Cond.classLink own ik cls).before args s = true) (hini : (Cond.initialized cls).before args s = true) (hstr : vk_R own is text sa s) (hat : ∀ w ∈ vx_atS own ic cls names, w.before args s = true)
    (hgood : ∀ w ∈ Cond.classLink own ik cls :: Cond.initialized cls :: vx_atS own ic cls names, vx_ot w = true)
    (hU : vx_Zq Bundle.tN "UNASSIGNED_STACK" Bundle.steD A s s.heap) (hN : vx_Zq Bundle.tN "SUPPRESSED_SENTINEL" Bundle.listD A s s.heap) (hS : va_S A s.heap H locs) (hsize : ls.size = c.maxLocals)
    (d0 : decode cc pc = .ok (.new ik, 3)) (d3 : decode cc (pc + 3) = .ok (.dup, 1)) (d4 : decode cc (pc + 4) = .ok (.ldc is, 2)) (d6 : decode cc (pc + 6) = .ok (.invokespecial ic, 3)) (d9 : decode cc (pc + 9) = .ok (.athrow, 1))
    (hout : ∀ x ∈ c.exceptionTable.toList, covers x (pc + 9) = false)
    (hRframes : names.length + 3 < R.frames) (hRlocals : (rest.map fun v => v.category).sum + (13 * (names.length + 1) + 43) ≤ R.locals) (hRcells : cells + 1 ≤ R.cells) (hRslots : slots + 6 ≤ R.slots) (hlocks : meth.locks = false)
    (hx : ∀ t : State, s.vm.Alike t.vm → H.size ≤ t.heap.size → (∀ q : Nat, q < H.size → t.heap[q]? = H[q]?) → XC cls s t)
    (hf : ∀ z ∈ locs, free z.base) (hc : cells + 1 ≤ mc) (hs : slots + 6 ≤ ms) :
    W p l e R s m args below meth c H locs cells slots (vx_MQ below Qc XC args s mc ms free) (F0 m pc ls rest) := by
  intro T hT X
  have htr : e.platform.stackTraces = false := (show e.platform.stackTraces = l.stackTraces by rw [X.admits.platform]).trans hl
  have Y := vx_rebase X (R' := { frames := R.frames, locals := R.locals, cells := 1, slots := 6 }) (Nat.le_refl _) (Nat.le_refl _) hRcells hRslots
  obtain ⟨s', hA⟩ : ∃ z, z = (T.setVm s.vm).setFrames (.invoking m args :: below) := ⟨_, rfl⟩
  rw [← hA] at Y
  have hvm : s'.vm = s.vm := by rw [hA]; rfl
  have hhp : s'.heap = H := by rw [hA]; exact hT
  have hW0 : s.WarmedH s'.vm := by rw [hvm]; exact State.WarmedH.refl s
  have hat' : ∀ w ∈ vx_atS own ic cls names, w.before args s' = true := fun w hw => vx_ot_at hW0 hvm.symm (hgood w (List.mem_cons_of_mem _ (List.mem_cons_of_mem _ hw))) (hat w hw)
  have hk' : (Cond.classLink own ik cls).before args s' = true := vx_ot_at hW0 hvm.symm (hgood _ List.mem_cons_self) hk
  have hini' : (Cond.initialized cls).before args s' = true := vx_ot_at hW0 hvm.symm (hgood _ (List.mem_cons_of_mem _ List.mem_cons_self)) hini
  have hU' : vx_Zq Bundle.tN "UNASSIGNED_STACK" Bundle.steD A s' s'.heap := by rw [hhp]; exact vx_Zq.moved hW0.alike (hU.kept hS.2.1)
  have hN' : vx_Zq Bundle.tN "SUPPRESSED_SENTINEL" Bundle.listD A s' s'.heap := by rw [hhp]; exact vx_Zq.moved hW0.alike (hN.kept hS.2.1)
  have h : ∀ w ∈ Bundle.ownAtoms own ic cls names, w.before args s' = true := vx_own hat' (vx_isRefq hU'.1) (vx_isRefq hN'.1) hU'.2.word hN'.2.word
  have hown' : s'.vm.findClass own = some m.cls := by rw [hvm]; exact hown
  have hins : (Cond.instantiable cls 6).before args s' = true := h _ (by simp [Bundle.ownAtoms])
  obtain ⟨vm₁, cX, kX, hfX, hkX, -, -, X₁, st1⟩ := Y.newCold hexec (own := own) (C := cls) (index := ik) (n := 6) hown' hk' hins hini'
    (g := F0 m pc ls rest) rfl (by rw [hb]; exact d0) (Nat.le_refl _) (Nat.le_refl _)
  generalize hT1 : (T.setVm vm₁).pushCell { cls := cX, slots := kX.instanceTypes.map defaultValue, vm := .none } = T1 at X₁ st1
  have hcat : (Value.ref T.heap.size).category = 1 := rfl
  have hcellA : T1.heap[T.heap.size]? = some (freshCell cX kX) := by rw [← hT1]; exact State.heap_pushCell_size _ _
  have d3' : decode c.code (pc + 3) = .ok (.dup, 1) := by rw [hb]; exact d3
  have d4' : decode c.code (pc + 4) = .ok (.ldc is, 2) := by rw [hb]; exact d4
  have hstr' : vk_R own is text sa s' := vk_R.warm hW0 hstr
  obtain ⟨U, hsteps, hrun, hend, hW, hsame, ce, hce, hO⟩ := X₁.ctorThrowS hexec htr (own := own) (cls := cls) (names := names) (ic := ic) hown' hcls hnames h (fun x hx => nomatch hx) hfX hkX hcellA (by rw [hhp, hT]; exact Nat.le_refl _) (msg := .ref sa) rfl
    (g := { method := m, pc := pc + 6, locals := ls, stack := .ref sa :: .ref T.heap.size :: .ref T.heap.size :: rest, locked := none }) rfl hsize rfl rfl (rest := rest) rfl
    (by rw [hb]; exact d6) (by rw [hb]; exact d9) hout hRframes (by simp only [List.map_cons, List.sum_cons, hcat]; omega) hlocks
  obtain ⟨f1, f2⟩ := vx_frame hsame
  rw [hhp] at f1 f2
  have hWs : s.WarmedH U.vm := State.WarmedH.trans hW0 hW
  have hcl : s.vm.findClass cls = some ce.cls := by
    have h9 := hO.cls
    rw [hvm] at h9
    exact h9
  have hall : s.sameButNew ({ U with vm := s.vm } : State) locs mc ms := by
    subst hA
    obtain ⟨e1, e2⟩ := hsame
    rw [State.setFrames_setFrames] at e1
    have h2 : (T.setVm s.vm).sameButNew ({ U with vm := s.vm } : State) [] (0 + 1) (0 + 6) := ⟨e1, e2⟩
    have h3 := X.same.trans h2
    rw [List.append_nil] at h3
    exact h3.mono hc hs
  refine ⟨U, ?_, .threw T.heap.size, hrun, hend, Or.inr ⟨T.heap.size, rfl, cls, ce, locs, hx U hWs.alike f1 (fun q hq => f2 q hq (fun z hz => nomatch hz)), hce, hO.vm, hcl, hWs, hall, hf⟩⟩
  refine st1 _ ?_
  show Steps p.tables e below (T1.setTop { method := m, pc := pc + 3, locals := ls, stack := .ref T.heap.size :: rest, locked := none }) _
  jvm_step X₁.here [X₁.here.top, hexec, d3', Value.category]
  exact X₁.ldcString hexec (own := own) (text := text) (index := is) (a := sa) hown' hstr'.1 hstr'.2
    (g := { method := m, pc := pc + 4, locals := ls, stack := .ref T.heap.size :: .ref T.heap.size :: rest, locked := none }) rfl d4' _ hsteps
/-- 'throw new E("text")', the text by a wide index -/
theorem vx_throwSW {cc : ByteArray} {pc : Nat} (hexec : p.tables.exec = Jvm.exec) (hb : c.code = cc) (hl : l.stackTraces = false) {own cls text : String} {names : List String} {ik is ic mc ms sa : Nat} {A : Nat → Prop}
    (hown : s.vm.findClass own = some m.cls) (hcls : Bundle.fit cls = true) (hnames : ∀ n ∈ names, Bundle.fit n = true)
    (hk : (Cond.classLink own ik cls).before args s = true) (hini : (Cond.initialized cls).before args s = true) (hstr : vk_R own is text sa s) (hat : ∀ w ∈ vx_atS own ic cls names, w.before args s = true)
    (hgood : ∀ w ∈ Cond.classLink own ik cls :: Cond.initialized cls :: vx_atS own ic cls names, vx_ot w = true)
    (hU : vx_Zq Bundle.tN "UNASSIGNED_STACK" Bundle.steD A s s.heap) (hN : vx_Zq Bundle.tN "SUPPRESSED_SENTINEL" Bundle.listD A s s.heap) (hS : va_S A s.heap H locs) (hsize : ls.size = c.maxLocals)
    (d0 : decode cc pc = .ok (.new ik, 3)) (d3 : decode cc (pc + 3) = .ok (.dup, 1)) (d4 : decode cc (pc + 4) = .ok (.ldc_w is, 3)) (d7 : decode cc (pc + 7) = .ok (.invokespecial ic, 3)) (d10 : decode cc (pc + 10) = .ok (.athrow, 1))
    (hout : ∀ x ∈ c.exceptionTable.toList, covers x (pc + 10) = false)
    (hRframes : names.length + 3 < R.frames) (hRlocals : (rest.map fun v => v.category).sum + (13 * (names.length + 1) + 43) ≤ R.locals) (hRcells : cells + 1 ≤ R.cells) (hRslots : slots + 6 ≤ R.slots) (hlocks : meth.locks = false)
    (hx : ∀ t : State, s.vm.Alike t.vm → H.size ≤ t.heap.size → (∀ q : Nat, q < H.size → t.heap[q]? = H[q]?) → XC cls s t)
    (hf : ∀ z ∈ locs, free z.base) (hc : cells + 1 ≤ mc) (hs : slots + 6 ≤ ms) :
    W p l e R s m args below meth c H locs cells slots (vx_MQ below Qc XC args s mc ms free) (F0 m pc ls rest) := by
  intro T hT X
  have htr : e.platform.stackTraces = false := (show e.platform.stackTraces = l.stackTraces by rw [X.admits.platform]).trans hl
  have Y := vx_rebase X (R' := { frames := R.frames, locals := R.locals, cells := 1, slots := 6 }) (Nat.le_refl _) (Nat.le_refl _) hRcells hRslots
  obtain ⟨s', hA⟩ : ∃ z, z = (T.setVm s.vm).setFrames (.invoking m args :: below) := ⟨_, rfl⟩
  rw [← hA] at Y
  have hvm : s'.vm = s.vm := by rw [hA]; rfl
  have hhp : s'.heap = H := by rw [hA]; exact hT
  have hW0 : s.WarmedH s'.vm := by rw [hvm]; exact State.WarmedH.refl s
  have hat' : ∀ w ∈ vx_atS own ic cls names, w.before args s' = true := fun w hw => vx_ot_at hW0 hvm.symm (hgood w (List.mem_cons_of_mem _ (List.mem_cons_of_mem _ hw))) (hat w hw)
  have hk' : (Cond.classLink own ik cls).before args s' = true := vx_ot_at hW0 hvm.symm (hgood _ List.mem_cons_self) hk
  have hini' : (Cond.initialized cls).before args s' = true := vx_ot_at hW0 hvm.symm (hgood _ (List.mem_cons_of_mem _ List.mem_cons_self)) hini
  have hU' : vx_Zq Bundle.tN "UNASSIGNED_STACK" Bundle.steD A s' s'.heap := by rw [hhp]; exact vx_Zq.moved hW0.alike (hU.kept hS.2.1)
  have hN' : vx_Zq Bundle.tN "SUPPRESSED_SENTINEL" Bundle.listD A s' s'.heap := by rw [hhp]; exact vx_Zq.moved hW0.alike (hN.kept hS.2.1)
  have h : ∀ w ∈ Bundle.ownAtoms own ic cls names, w.before args s' = true := vx_own hat' (vx_isRefq hU'.1) (vx_isRefq hN'.1) hU'.2.word hN'.2.word
  have hown' : s'.vm.findClass own = some m.cls := by rw [hvm]; exact hown
  have hins : (Cond.instantiable cls 6).before args s' = true := h _ (by simp [Bundle.ownAtoms])
  obtain ⟨vm₁, cX, kX, hfX, hkX, -, -, X₁, st1⟩ := Y.newCold hexec (own := own) (C := cls) (index := ik) (n := 6) hown' hk' hins hini'
    (g := F0 m pc ls rest) rfl (by rw [hb]; exact d0) (Nat.le_refl _) (Nat.le_refl _)
  generalize hT1 : (T.setVm vm₁).pushCell { cls := cX, slots := kX.instanceTypes.map defaultValue, vm := .none } = T1 at X₁ st1
  have hcat : (Value.ref T.heap.size).category = 1 := rfl
  have hcellA : T1.heap[T.heap.size]? = some (freshCell cX kX) := by rw [← hT1]; exact State.heap_pushCell_size _ _
  have d3' : decode c.code (pc + 3) = .ok (.dup, 1) := by rw [hb]; exact d3
  have d4' : decode c.code (pc + 4) = .ok (.ldc_w is, 3) := by rw [hb]; exact d4
  have hstr' : vk_R own is text sa s' := vk_R.warm hW0 hstr
  obtain ⟨U, hsteps, hrun, hend, hW, hsame, ce, hce, hO⟩ := X₁.ctorThrowS hexec htr (own := own) (cls := cls) (names := names) (ic := ic) hown' hcls hnames h (fun x hx => nomatch hx) hfX hkX hcellA (by rw [hhp, hT]; exact Nat.le_refl _) (msg := .ref sa) rfl
    (g := { method := m, pc := pc + 7, locals := ls, stack := .ref sa :: .ref T.heap.size :: .ref T.heap.size :: rest, locked := none }) rfl hsize rfl rfl (rest := rest) rfl
    (by rw [hb]; exact d7) (by rw [hb]; exact d10) hout hRframes (by simp only [List.map_cons, List.sum_cons, hcat]; omega) hlocks
  obtain ⟨f1, f2⟩ := vx_frame hsame
  rw [hhp] at f1 f2
  have hWs : s.WarmedH U.vm := State.WarmedH.trans hW0 hW
  have hcl : s.vm.findClass cls = some ce.cls := by
    have h9 := hO.cls
    rw [hvm] at h9
    exact h9
  have hall : s.sameButNew ({ U with vm := s.vm } : State) locs mc ms := by
    subst hA
    obtain ⟨e1, e2⟩ := hsame
    rw [State.setFrames_setFrames] at e1
    have h2 : (T.setVm s.vm).sameButNew ({ U with vm := s.vm } : State) [] (0 + 1) (0 + 6) := ⟨e1, e2⟩
    have h3 := X.same.trans h2
    rw [List.append_nil] at h3
    exact h3.mono hc hs
  refine ⟨U, ?_, .threw T.heap.size, hrun, hend, Or.inr ⟨T.heap.size, rfl, cls, ce, locs, hx U hWs.alike f1 (fun q hq => f2 q hq (fun z hz => nomatch hz)), hce, hO.vm, hcl, hWs, hall, hf⟩⟩
  refine st1 _ ?_
  show Steps p.tables e below (T1.setTop { method := m, pc := pc + 3, locals := ls, stack := .ref T.heap.size :: rest, locked := none }) _
  jvm_step X₁.here [X₁.here.top, hexec, d3', Value.category]
  exact X₁.ldcStringW hexec (own := own) (text := text) (index := is) (a := sa) hown' hstr'.1 hstr'.2
    (g := { method := m, pc := pc + 4, locals := ls, stack := .ref T.heap.size :: .ref T.heap.size :: rest, locked := none }) rfl d4' _ hsteps
end Ends
section Bodies
variable {l : Launch}
theorem vx_ofW {y : MethodName} {ws ws' : List Cond} {rm : Room} {Pc : Array Value → State → Prop} {Qc : Array Value → State → Outcome → State → Prop} {XC : String → State → State → Prop} {mc ms : Nat} {free : Addr → Prop} {cc : ByteArray} {maxL : Nat} {ret : Option FieldType}
    (hy : plainName y.cls = true) (hw : ws = Cond.code y cc maxL ret :: ws')
    (body : ∀ p e s m args below meth c s₁, BodyLoose p l y (headSpec ws rm) cc maxL ret e s m args below meth c s₁ → c.maxLocals = maxL → (∀ x ∈ c.exceptionTable.toList, False) → Pc args s →
      W p l e (headSpec ws rm).room s m args below meth c s.heap [] 0 0 (vx_MQ below Qc XC args s mc ms free) (entryFrame m args maxL)) : vx_Met l y ws rm Pc Qc XC mc ms free := by
  refine MetFree.of_bodyS (code := cc) (maxLocals := maxL) (ret := ret) hy ?_ ?_
  · intro args s m h hn
    obtain ⟨meth, c, h1, h2, h3, h4, h5, h6, -, -⟩ := Cond.code_spec hn (atoms_spec (ws := ws) h _ (by rw [hw]; exact List.mem_cons_self))
    exact ⟨meth, c, h1, h2, h3, h4, h5, h6⟩
  · intro p e s m args below meth c s₁ B hml hP _
    have hh0 : s₁.heap = s.heap := by rw [B.state]; rfl
    have ht : ∀ x ∈ c.exceptionTable.toList, False := by
      obtain ⟨meth9, c9, h1, h2, -, -, -, -, h7, -⟩ := Cond.code_spec B.named (atoms_spec (ws := ws) B.pre _ (by rw [hw]; exact List.mem_cons_self))
      cases Option.some.inj (h1.symm.trans B.method)
      cases Option.some.inj (h2.symm.trans (Stand.of_body B).code)
      intro x hx
      rw [Array.isEmpty_iff.mp h7] at hx
      cases hx
    obtain ⟨t, a1, o, b1, b2, b3⟩ := body p e s m args below meth c s₁ B hml ht hP s₁ hh0 (Stand.of_body B)
    exact ⟨t, o, a1, b1, b2, b3⟩
/-- the table of a body with handlers -/
theorem vx_table {p : Program} {x y : MethodName} {S : Spec} {cc bytes : ByteArray} {maxL maxL' : Nat} {ret ret' : Option FieldType} {e : Env} {s s₁ : State} {m : MethodId} {args : Array Value} {below : List Frame} {meth : Method} {c : Code} {hh : List (Nat × Nat × Nat × Nat)}
    (B : BodyLoose p l y S cc maxL ret e s m args below meth c s₁) (h : (Cond.codeWith y bytes maxL' ret' hh).before args s = true) : c.exceptionTable.toList = tableOf hh := by
  obtain ⟨m9, meth9, c9, hn9, h1, h2, -, -, h6, -⟩ := Cond.codeWith_spec h
  cases Option.some.inj (hn9.symm.trans B.named)
  cases Option.some.inj (h1.symm.trans B.method)
  cases Option.some.inj (h2.symm.trans (Stand.of_body B).code)
  rw [← h6, table_eq]
end Bodies
end VXA
/-! ===== END ===== -/
/-! ===== BEGIN a static call of a method with an exception table ===== -/
section VXS
variable {p : Program} {l : Launch} {e : Env} {R : Room} {s : State} {m : MethodId} {args : Array Value} {below : List Frame} {meth : Method} {c : Code} {T : State} {H : Heap} {locs : List Loc} {cells slots : Nat}
abbrev vx_CSW (R : Room) (s : State) (args : Array Value) (own : String) (index : Nat) (y : MethodName) (bytes : ByteArray) (maxL : Nat) (ret : Option FieldType) (hh : List (Nat × Nat × Nat × Nat)) (ws : List Cond) (rm : Room) (mc ms n : Nat) : Prop :=
  (rm.cells = mc ∧ rm.slots = ms ∧ rm.frames + 1 ≤ R.frames ∧ 8 + (maxL + 11) + rm.locals ≤ R.locals ∧ (∀ w ∈ ws, ∀ (a' : Array Value) (U : State), s.WarmedH U.vm → w.before a' U = true) ∧ Cond.codeWith y bytes maxL ret hh ∈ ws) ∧
  (Cond.codeWith y bytes maxL ret hh).before args s = true ∧ (Cond.initialized y.cls).before args s = true ∧ (y.cls ≠ "java/lang/invoke/MethodHandle" ∧ y.cls ≠ "java/lang/invoke/VarHandle") ∧
  (∀ sig, parseMethodDescriptor y.desc = some sig → n = sig.parameters.length) ∧ (Cond.methodLink own index y).before args s = true ∧ (Cond.static y).before args s = true
theorem vx_cwSW {own : String} {index maxL mc ms : Nat} {y : MethodName} {bytes : ByteArray} {ret : Option FieldType} {hh : List (Nat × Nat × Nat × Nat)} {Ts ws ws' : List Cond} {rm : Room} (n : Nat) (ht : ∀ w ∈ Ts, w.before args s = true) (hT : GoodIn Ts (va_wsS own index y ws)) (hw : ws = Cond.codeWith y bytes maxL ret hh :: ws') (hrc : rm.cells = mc) (hrs : rm.slots = ms)
    (hd : y.cls ≠ "java/lang/invoke/MethodHandle" ∧ y.cls ≠ "java/lang/invoke/VarHandle" ∧ (parseMethodDescriptor y.desc).map (fun d => d.parameters.length) = some n) (hR : rm.frames + 1 ≤ R.frames ∧ 8 + (maxL + 11) + rm.locals ≤ R.locals) :
    vx_CSW R s args own index y bytes maxL ret hh ws rm mc ms n := by
  have ok : ∀ w ∈ va_wsS own index y ws, w.before args s = true := fun w h => ht w (hT w h).1
  have hG : GoodIn Ts ws := fun w h => hT w (by unfold va_wsS; exact List.mem_append_right _ h)
  have hc : Cond.codeWith y bytes maxL ret hh ∈ ws := by rw [hw]; exact List.mem_cons_self
  refine ⟨⟨hrc, hrs, hR.1, hR.2, pay_in ht hG, hc⟩, ht _ (hG _ hc).1, ok _ (by simp [va_wsS]), ⟨hd.1, hd.2.1⟩, fun sig h => ?_, ok _ (by simp [va_wsS]), ok _ (by simp [va_wsS])⟩
  have h2 := hd.2.2
  rw [h] at h2
  exact (Option.some.inj h2).symm
theorem vx_callSW (X : Stand p l e R s m args below meth c T locs cells slots) (hexec : p.tables.exec = Jvm.exec) {own : String} {index : Nat} {y : MethodName} {bytes : ByteArray} {maxL : Nat} {ret : Option FieldType} {hh : List (Nat × Nat × Nat × Nat)}
    (hown : s.vm.findClass own = some m.cls) (hlink : (Cond.methodLink own index y).before args s = true) (hstat : (Cond.static y).before args s = true) (hinit : (Cond.initialized y.cls).before args s = true)
    (hcode : (Cond.codeWith y bytes maxL ret hh).before args s = true) (hy : y.cls ≠ "java/lang/invoke/MethodHandle" ∧ y.cls ≠ "java/lang/invoke/VarHandle")
    {W9 : Nat} {Pre : Pt → Array Value → Prop} {Post : Pt → Array Value → Option Value → Pt → Prop} (hK : Back l R p e below s args y 3 W9 Pre Post)
    {g : JFrame} (hg : g.method = m) (hsize : g.locals.size = c.maxLocals) {argsL rest : List Value} (hlen : ∀ sig, parseMethodDescriptor y.desc = some sig → argsL.length = sig.parameters.length)
    (hstack : g.stack = argsL.reverse ++ rest) (hW : 2 * g.monitorRoom + (rest.map fun v => v.category).sum ≤ W9) (hdg : decode c.code g.pc = .ok (.invokestatic index, 3))
    (hpre : ∀ vm₁, s.WarmedH vm₁ → Pre ⟨T.setVm vm₁, locs, cells, slots⟩ argsL.toArray) :
    ∃ (v : Option Value) (vm₁ : Vm) (B : Pt), s.WarmedH vm₁ ∧ Stand p l e R s m args below meth c B.U B.locs B.cells B.slots ∧ Post ⟨T.setVm vm₁, locs, cells, slots⟩ argsL.toArray v B ∧
      ∀ target, Steps p.tables e below (B.U.setTop { g with pc := g.pc + 3, stack := v.toList ++ rest }) target → Steps p.tables e below (T.setTop g) target := by
  obtain ⟨mk, methM, cM, hnamed, hmethM, -, -, -, -, -, -, hsigM⟩ := Cond.codeWith_spec hcode
  have hstatic : methM.isStatic = true := Cond.static_spec hnamed hmethM hstat
  obtain ⟨kP, hkP, -⟩ := className_of_methodNamed hnamed
  have hinitP : kP.init = .initialized := Cond.initialized_spec (findClass_of_methodNamed hnamed) hkP hinit
  obtain ⟨vm₁, X₁, hstep₁⟩ := X.invokestatic hexec hown hlink hnamed hmethM hstatic hkP hinitP hy (g := g) hg (argsL := argsL) (rest := rest) (hlen _ hsigM) hstack hdg
  obtain ⟨v, B, X', hpost, hsteps⟩ := hK m meth c ⟨T.setVm vm₁, locs, cells, slots⟩ { g with stack := rest } (.invokestatic index) mk argsL.toArray X₁ hg hsize hdg hW (X₁.named hnamed) (hpre vm₁ X₁.warmed)
  exact ⟨v, vm₁, B, X₁.warmed, X', hpost, fun target h => hstep₁ _ fun acts => by rw [doInvoke_state]; exact hsteps.trans h⟩
theorem vx_runSW {y : MethodName} {bytes cc : ByteArray} {maxL nL mc ms n index : Nat} {ret : Option FieldType} {hh : List (Nat × Nat × Nat × Nat)} {ws : List Cond} {rm : Room} {Pc : Array Value → State → Prop} {Qc : Array Value → State → Outcome → State → Prop} {free : Addr → Prop} {Ts : List Cond} {own : String} {As rest : List Value} {g : JFrame}
    (S : CallFix p m c cc nL s args Ts own) (hM : Met l y ws rm Pc Qc mc ms free) (cw : vx_CSW R s args own index y bytes maxL ret hh ws rm mc ms n) (hp : PreS s H Pc As)
    (hg : g.method = m) (hn : As.length = n) (hsize : g.locals.size = nL) (hstack : g.stack = As.reverse ++ rest) (hW : 2 * g.monitorRoom + (rest.map fun v => v.category).sum ≤ 8) (hdg : decode cc g.pc = .ok (.invokestatic index, 3)) (hf : cells + mc ≤ R.cells ∧ slots + ms ≤ R.slots) :
    va_Run p l e R s m args below meth c H locs cells slots mc ms g rest (Qc As.toArray) (free) := by
  obtain ⟨⟨hrc, hrs, hfr, hlo, hws, hcw⟩, hcode, hini, hy, hlen, hl, hstt⟩ := cw
  have hK : Back l R p e below s args y 3 8 (PreOf R mc ms Pc) (PostOf Qc mc ms free) := va_backW (hh := hh) (bytes := bytes) (maxL := maxL) (ret := ret) hM hp.1 hrc hrs hfr hlo hws hcw (fun a' U hW => word_at hW (Or.inl (by first | rfl | simp [Cond.onTables, Cond.keeps, Cond.steady])) hini)
  obtain ⟨hx, hb, hml, ho, -⟩ := S
  intro T hT X
  obtain ⟨v, vm₁, ⟨U', l2, c2, s2⟩, hW₁, X', ⟨g', mk, t, L, e1, e2, hq, h1, hL, h2, h3⟩, st⟩ := vx_callSW X hx (hh := hh) (bytes := bytes) (maxL := maxL) (ret := ret) ho hl hstt hini hcode hy hK hg (hsize.trans hml.symm) (argsL := As) (rest := rest) (fun sig h => hn.trans (hlen sig h)) hstack hW (by rw [hb]; exact hdg)
    (fun vm₁ hW₁ => ⟨hf.1, hf.2, hp.2 (T.setVm vm₁) hT hW₁⟩)
  dsimp only [Pt.U, Pt.locs, Pt.cells, Pt.slots] at X' e1 e2 h1 h2 h3 st
  subst h1; subst h2; subst h3
  exact ⟨v, (T.setVm vm₁).calling g' mk As.toArray, t, U', L, hT, X', hL, e1, e2, hq, st⟩
/-- not caught here, past rows that name other classes: it goes on to the caller -/
theorem vx_outP {p : Program} {l : Launch} {e : Env} {R : Room} {s : State} {m : MethodId} {args : Array Value} {below : List Frame} {meth : Method} {c : Code} {H : Heap} {locs : List Loc} {cells slots : Nat} {free : Addr → Prop} {ls : Array Slot} {rest : List Value} {Qc : Array Value → State → Outcome → State → Prop} {XC : String → State → State → Prop}
    {pc : Nat} {own E : String} {ce : Cell} {q : Addr} {mc ms : Nat} (hown : s.vm.findClass own = some m.cls) (hlocks : meth.locks = false)
    (hpass : ∀ z ∈ c.exceptionTable.toList, covers z pc = false ∨ (z.catchType ≠ 0 ∧ ∃ nm : String, (Cond.classLink own z.catchType nm).before args s = true ∧ va_Nc E nm s)) (hcell : H[q]? = some ce) (hv : ce.vm = .none) (hcl : s.vm.findClass E = some ce.cls)
    (hx : ∀ t : State, t.heap = H → s.vm.Alike t.vm → XC E s t) (hf : ∀ z ∈ locs, free z.base) (hc : cells ≤ mc) (hs : slots ≤ ms) :
    vx_W p l e R s m args below meth c H locs cells slots (vx_MQ below Qc XC args s mc ms free) (F0 m pc ls rest) q := by
  intro T hT X
  have hpl : e.platform.magicAccessors = ({} : Platform).magicAccessors := by rw [X.admits.platform]
  obtain ⟨vm', hW', X', st⟩ := X.outThrough hlocks q (g := F0 m pc ls rest) rfl rfl rfl (cell := ce) (by rw [hT]; exact hcell) (by rw [hv]; rfl)
    (by obtain ⟨k9, h9, -⟩ := Vm.findClass_spec hcl; exact ⟨k9, h9⟩) (fun z hz => by
      rcases hpass z hz with h | ⟨hz0, nm, hl1, hn1⟩
      · exact Or.inl h
      · obtain ⟨c6, hc6, hcl6⟩ := Cond.classLink_spec hown hl1 e.platform hpl
        obtain ⟨a8, b8, h1, h2, h3⟩ := hn1
        cases Option.some.inj (h1.symm.trans hcl)
        cases Option.some.inj (h2.symm.trans hc6)
        exact Or.inr ⟨hz0, _, hcl6, h3⟩)
  obtain ⟨g₀, hfr⟩ := X'.frames_eq
  have hcell9 : ((T.setVm vm').setFrames (.throwing q :: below)).heap[q]? = some ce := by
    show T.heap[q]? = some ce
    rw [hT]; exact hcell
  have hend : Ended ((T.setVm vm').setFrames (.throwing q :: below)) below (.threw q) := State.frames_setFrames _ (State.cur_lt_of_frames hfr)
  refine ⟨(T.setVm vm').setFrames (.throwing q :: below), ?_, .threw q, X'.here.running, hend, Or.inr ⟨q, rfl, E, ce, locs, hx _ hT (X'.ends _).1.alike, hcell9, hv, hcl, (X'.ends _).1, (X'.ends _).2.mono hc hs, hf⟩⟩
  rw [X.pushThrowing_eq]
  exact st
/-- a thing of a world lies in the heap -/
theorem vx_lt {D : va_G} {cl : List vw_C} {ws : va_W} {H1 : Heap} (h : va_P D cl ws H1) {k : Nat} {q : Nat × va_E} (hk : ws[k]? = some q) : q.1 < H1.size := (h k q hk).lt
end VXS
/-! ===== END ===== -/
/-! ===== BEGIN methods with a table of their own: called by a name, returning or throwing ===== -/
section VXH
/-! vx_backW, vx_callVX, vx_callSX, vx_callVW, vx_runVW, vx_runVX, vx_runSX, vx_ofWH follow the same proofs as their sisters above (Free/Laws.lean, Shelf42/LK1.lean); vx_outP calls Shelf42/NT130.lean (outThrough). -/
section
variable {l : Launch} {R : Room} {p : Program} {e : Env} {below : List Frame} {s : State} {sargs : Array Value} {y : MethodName} {len W9 : Nat}
theorem vx_backW {ws : List Cond} {rm : Room} {Pc : Array Value → State → Prop} {Qc : Array Value → State → Outcome → State → Prop} {XC : String → State → State → Prop} {mc ms : Nat} {free : Addr → Prop} {bytes : ByteArray} {maxL : Nat} {ret : Option FieldType} {hh : List (Nat × Nat × Nat × Nat)}
    (hM : vx_Met l y ws rm Pc Qc XC mc ms free) (hblind : FrameBlind Pc) (hrc : rm.cells = mc) (hrs : rm.slots = ms)
    (hframes : rm.frames + 1 ≤ R.frames) (hlocals : W9 + (maxL + 11) + rm.locals ≤ R.locals)
    (hws : ∀ w ∈ ws, ∀ a' U, s.WarmedH U.vm → w.before a' U = true) (hcode : Cond.codeWith y bytes maxL ret hh ∈ ws) (hinit : ∀ a' U, s.WarmedH U.vm → (Cond.initialized y.cls).before a' U = true) :
    vx_Back l R p e below s sargs y len W9 (PreOf R mc ms Pc) (PostOf Qc mc ms free) (vx_Post XC mc ms free) := by
  intro m meth c A g ig mk a X hg hsize hdg hW hn hp
  have h1 : (headSpec ws rm).pre.before a A.U = true := atoms_intro fun w hw => hws w hw _ _ X.warmed
  have h2 : (Cond.codeWith y bytes maxL ret hh).before a A.U = true := hws _ hcode _ _ X.warmed
  have h3 : (Cond.initialized y.cls).before a A.U = true := hinit _ _ X.warmed
  have h4 : A.cells + (headSpec ws rm).room.cells ≤ R.cells := by rw [show (headSpec ws rm).room.cells = mc from hrc]; exact hp.1
  have h5 : A.slots + (headSpec ws rm).room.slots ≤ R.slots := by rw [show (headSpec ws rm).room.slots = ms from hrs]; exact hp.2.1
  have hPc : Pc a (A.U.calling g mk a) := hblind _ _ _ _ hp.2.2
  obtain ⟨U, Ls, c0, s0⟩ := A
  dsimp only [Pt.U, Pt.locs, Pt.cells, Pt.slots] at h1 h2 h3 h4 h5 X hn hPc ⊢
  obtain ⟨m9, methY, cY, hn9, hmY, hcY, -, hlY, -⟩ := Cond.codeWith_spec h2
  cases Option.some.inj (hn9.symm.trans hn)
  obtain ⟨kY, hkY, -⟩ := className_of_methodNamed hn
  have hinitY : kY.init = .initialized := Cond.initialized_spec (findClass_of_methodNamed hn) hkY h3
  have h : At U g.method c below := by rw [hg]; exact X.here
  have hlocals9 : W9 + (maxL + 11) + (headSpec ws rm).room.locals ≤ R.locals := hlocals
  have happ : (headSpec ws rm).appliesLoose y e.platform (U.calling g mk a) = true :=
    Spec.appliesLoose_calling (g := g) h hdg hn hkY hinitY
      (X.room_calling (g := g) (R' := (headSpec ws rm).room) hsize hmY hcY hframes (by rw [hlY]; omega) h4 h5) h1
  obtain ⟨mid, hmid⟩ := h.above
  have hfr : (U.setTop g).frames = (.java g :: mid) ++ below := by rw [State.frames_setTop' g h.top, hmid]; rfl
  obtain ⟨o, s₂, hsteps, -, hend, hq⟩ := Steps.callFree hM p X.admits X.cas X.clock (acts := []) hfr happ hPc trivial
  have hq' : vx_Q Qc XC mc ms free a (U.calling g mk a) o s₂ := hq
  rw [State.frames_setTop' g h.top] at hend
  obtain ⟨g₀, hg0⟩ := Option.isSome_iff_exists.mp h.top
  obtain ⟨r, hr⟩ := State.topJava?_eq_some.mp hg0
  have hr' : (({ U with heap := s₂.heap, slotsUsed := s₂.slotsUsed } : State).setVm s₂.vm).frames = .java g₀ :: r := hr
  rcases hq' with ⟨hqc, L, hfe, hL⟩ | ⟨q, rfl, E, ce, L, hx, hce, hcv, hcl, hW₂, hsm, hL⟩
  · obtain ⟨⟨v, rfl⟩, hW₂, e2, q2, q3, q4, q5, q6⟩ := id hfe
    have e3 : s₂ = ({ (U.calling g mk a).setFrames s₂.frames with heap := s₂.heap, slotsUsed := s₂.slotsUsed } : State).setVm s₂.vm := by
      have : s₂ = ({ s₂ with vm := (U.calling g mk a).vm } : State).setVm s₂.vm := rfl
      rw [e2] at this
      exact this
    obtain ⟨c₂, i₂, len₂, hc₂, hd₂, hf₂⟩ := hend
    have hW' : U.WarmedH s₂.vm := hW₂
    have hcc : c₂ = c := by
      have h1 : s₂.code? g.method = U.code? g.method := by
        rw [State.code?_eq, State.code?_eq, hW'.alike.method?]
      exact Option.some.inj (hc₂.symm.trans (h1.trans h.code))
    subst hcc
    have hlen : len₂ = len := by rw [hdg] at hd₂; cases hd₂; rfl
    subst hlen
    have hs₂ : s₂ = (({ U with heap := s₂.heap, slotsUsed := s₂.slotsUsed } : State).setVm s₂.vm).setTop { g with pc := g.pc + len₂, stack := v.toList ++ g.stack } := by
      refine e3.trans ?_
      rw [hf₂, State.calling_eq h.top, State.setFrames_setFrames, State.setTop_of_frames _ hr', hr]
      rfl
    have hsame : U.sameButNew ({ U with heap := s₂.heap, slotsUsed := s₂.slotsUsed } : State) L mc ms := by
      refine ⟨?_, q2, q3, q4, q5, q6⟩
      obtain ⟨t, ht, -⟩ := State.frames_cons hr
      show ({ U with heap := s₂.heap, slotsUsed := s₂.slotsUsed } : State) = { U.setFrames U.frames with heap := s₂.heap, slotsUsed := s₂.slotsUsed }
      rw [State.setFrames_self ht]
    subst hg
    refine Or.inl ⟨v, ⟨(({ U with heap := s₂.heap, slotsUsed := s₂.slotsUsed } : State).setVm s₂.vm), Ls ++ L, c0 + mc, s0 + ms⟩,
      ⟨X.admits, X.cas, X.clock, X.frames, X.room, X.hears, X.method, X.code, (X.here.setHeapUsed s₂.heap s₂.slotsUsed).setVm hW'.alike, X.tail, State.WarmedH.trans X.warmed hW', X.limits, X.bytes, X.same.trans (hsame.setVm s.vm)⟩,
      ⟨g, mk, s₂, L, rfl, rfl, hqc, rfl, hL, rfl, rfl⟩, ?_⟩
    show Steps p.tables e below _ ((({ U with heap := s₂.heap, slotsUsed := s₂.slotsUsed } : State).setVm s₂.vm).setTop { g with pc := g.pc + len₂, stack := v.toList ++ g.stack })
    rw [← hs₂]
    exact hsteps
  · obtain ⟨e2, q2, q3, q4, q5, q6⟩ := id hsm
    have e3 : s₂ = ({ (U.calling g mk a).setFrames s₂.frames with heap := s₂.heap, slotsUsed := s₂.slotsUsed } : State).setVm s₂.vm := by
      have : s₂ = ({ s₂ with vm := (U.calling g mk a).vm } : State).setVm s₂.vm := rfl
      rw [e2] at this
      exact this
    have hf₂ : s₂.frames = .throwing q :: .java g :: U.frames.tail := hend
    have hW' : U.WarmedH s₂.vm := hW₂
    have hs₂ : s₂ = ((({ U with heap := s₂.heap, slotsUsed := s₂.slotsUsed } : State).setVm s₂.vm).setTop g).pushFrame (.throwing q) := by
      refine e3.trans ?_
      rw [hf₂, State.calling_eq h.top, State.setFrames_setFrames, State.pushFrame, State.frames_setTop _ hr', State.setTop_of_frames _ hr', State.setFrames_setFrames, hr]
      rfl
    have hsame : U.sameButNew ({ U with heap := s₂.heap, slotsUsed := s₂.slotsUsed } : State) L mc ms := by
      refine ⟨?_, q2, q3, q4, q5, q6⟩
      obtain ⟨t, ht, -⟩ := State.frames_cons hr
      show ({ U with heap := s₂.heap, slotsUsed := s₂.slotsUsed } : State) = { U.setFrames U.frames with heap := s₂.heap, slotsUsed := s₂.slotsUsed }
      rw [State.setFrames_self ht]
    subst hg
    refine Or.inr ⟨q, ⟨(({ U with heap := s₂.heap, slotsUsed := s₂.slotsUsed } : State).setVm s₂.vm), Ls ++ L, c0 + mc, s0 + ms⟩,
      ⟨X.admits, X.cas, X.clock, X.frames, X.room, X.hears, X.method, X.code, (X.here.setHeapUsed s₂.heap s₂.slotsUsed).setVm hW'.alike, X.tail, State.WarmedH.trans X.warmed hW', X.limits, X.bytes, X.same.trans (hsame.setVm s.vm)⟩,
      ⟨g, mk, s₂, L, E, ce, rfl, rfl, hx, hce, hcv, hcl, rfl, hL, rfl, rfl⟩, ?_⟩
    show Steps p.tables e below _ (((({ U with heap := s₂.heap, slotsUsed := s₂.slotsUsed } : State).setVm s₂.vm).setTop g).pushFrame (.throwing q))
    rw [← hs₂]
    exact hsteps
end
variable {p : Program} {l : Launch} {e : Env} {R : Room} {s : State} {m : MethodId} {args : Array Value} {below : List Frame} {meth : Method} {c : Code} {T : State} {H : Heap} {locs : List Loc} {cells slots : Nat}
theorem vx_callVX (X : Stand p l e R s m args below meth c T locs cells slots) (hexec : p.tables.exec = Jvm.exec) {own C : String} {index : Nat} {y : MethodName} {bytes : ByteArray} {maxL : Nat} {ret : Option FieldType} {hh : List (Nat × Nat × Nat × Nat)}
    (hown : s.vm.findClass own = some m.cls) (hlink : (Cond.methodLink own index y).before args s = true) (hinst : (Cond.instanceMethod y).before args s = true) (hsel : (Cond.selects C y y).before args s = true)
    (hcode : (Cond.codeWith y bytes maxL ret hh).before args s = true) (hy : y.cls ≠ "java/lang/invoke/MethodHandle" ∧ y.cls ≠ "java/lang/invoke/VarHandle")
    {W9 : Nat} {Pre : Pt → Array Value → Prop} {Post : Pt → Array Value → Option Value → Pt → Prop} {PostX : Pt → Array Value → Addr → Pt → Prop} (hK : vx_Back l R p e below s args y 3 W9 Pre Post PostX)
    {b : Addr} {cellB : Cell} (hcell : T.heap[b]? = some cellB) (hobj : cellB.vm.isStatics = false) (hcls : s.vm.findClass C = some cellB.cls)
    {g : JFrame} (hg : g.method = m) (hsize : g.locals.size = c.maxLocals) {argsL rest : List Value} (hlen : ∀ sig, parseMethodDescriptor y.desc = some sig → argsL.length = sig.parameters.length)
    (hstack : g.stack = argsL.reverse ++ .ref b :: rest) (hW : 2 * g.monitorRoom + (rest.map fun v => v.category).sum ≤ W9) (hdg : decode c.code g.pc = .ok (.invokevirtual index, 3))
    (hpre : ∀ vm₁, s.WarmedH vm₁ → Pre ⟨T.setVm vm₁, locs, cells, slots⟩ (Value.ref b :: argsL).toArray) :
    (∃ (v : Option Value) (vm₁ : Vm) (B : Pt), s.WarmedH vm₁ ∧ Stand p l e R s m args below meth c B.U B.locs B.cells B.slots ∧ Post ⟨T.setVm vm₁, locs, cells, slots⟩ (Value.ref b :: argsL).toArray v B ∧
      ∀ target, Steps p.tables e below (B.U.setTop { g with pc := g.pc + 3, stack := v.toList ++ rest }) target → Steps p.tables e below (T.setTop g) target) ∨
    (∃ (q : Addr) (vm₁ : Vm) (B : Pt), s.WarmedH vm₁ ∧ Stand p l e R s m args below meth c B.U B.locs B.cells B.slots ∧ PostX ⟨T.setVm vm₁, locs, cells, slots⟩ (Value.ref b :: argsL).toArray q B ∧
      Steps p.tables e below (T.setTop g) ((B.U.setTop { g with stack := rest }).pushFrame (.throwing q))) := by
  obtain ⟨mk, methM, hnamed, hmethM, hstM, habM⟩ := Cond.instanceMethod_spec hinst
  obtain ⟨m8, methM', cM, hn8, hmethM', -, -, -, -, -, -, hsigM⟩ := Cond.codeWith_spec hcode
  cases Option.some.inj (hn8.symm.trans hnamed)
  cases hmethM.symm.trans hmethM'
  obtain ⟨c2, r2, m2, q1, q2, q3, q4, kP, hkP, hkPi⟩ := Cond.selects_spec hsel
  cases hcls.symm.trans q1
  cases (State.methodFound?_of_named hnamed hy).symm.trans q2
  cases hnamed.symm.trans q3
  have hselP : selectMethod e.platform s.vm cellB.cls mk = .method mk := by rw [Launch.admits_selectMethod X.admits]; exact q4
  obtain ⟨vm₁, X₁, hstep₁⟩ := X.invokevirtual hexec hown hlink hnamed hmethM hstM hkP hkPi hy (a := b) (cell := cellB) hcell
    (fun z h => by rw [h] at hobj; cases hobj) hselP hmethM habM hkP hkPi (g := g) hg (argsL := argsL) (rest := rest) (hlen _ hsigM) hstack hdg
  rcases hK m meth c ⟨T.setVm vm₁, locs, cells, slots⟩ { g with stack := rest } (.invokevirtual index) mk (Value.ref b :: argsL).toArray X₁ hg hsize hdg hW (X₁.named hnamed) (hpre vm₁ X₁.warmed) with ⟨v, B, X', hpost, hsteps⟩ | ⟨q, B, X', hpost, hsteps⟩
  · exact Or.inl ⟨v, vm₁, B, X₁.warmed, X', hpost, fun target h => hstep₁ _ fun acts => by rw [doInvoke_state]; exact hsteps.trans h⟩
  · exact Or.inr ⟨q, vm₁, B, X₁.warmed, X', hpost, hstep₁ _ fun acts => by rw [doInvoke_state]; exact hsteps⟩
theorem vx_callSX (X : Stand p l e R s m args below meth c T locs cells slots) (hexec : p.tables.exec = Jvm.exec) {own : String} {index : Nat} {y : MethodName} {bytes : ByteArray} {maxL : Nat} {ret : Option FieldType} {hh : List (Nat × Nat × Nat × Nat)}
    (hown : s.vm.findClass own = some m.cls) (hlink : (Cond.methodLink own index y).before args s = true) (hstat : (Cond.static y).before args s = true) (hinit : (Cond.initialized y.cls).before args s = true)
    (hcode : (Cond.codeWith y bytes maxL ret hh).before args s = true) (hy : y.cls ≠ "java/lang/invoke/MethodHandle" ∧ y.cls ≠ "java/lang/invoke/VarHandle")
    {W9 : Nat} {Pre : Pt → Array Value → Prop} {Post : Pt → Array Value → Option Value → Pt → Prop} {PostX : Pt → Array Value → Addr → Pt → Prop} (hK : vx_Back l R p e below s args y 3 W9 Pre Post PostX)
    {g : JFrame} (hg : g.method = m) (hsize : g.locals.size = c.maxLocals) {argsL rest : List Value} (hlen : ∀ sig, parseMethodDescriptor y.desc = some sig → argsL.length = sig.parameters.length)
    (hstack : g.stack = argsL.reverse ++ rest) (hW : 2 * g.monitorRoom + (rest.map fun v => v.category).sum ≤ W9) (hdg : decode c.code g.pc = .ok (.invokestatic index, 3))
    (hpre : ∀ vm₁, s.WarmedH vm₁ → Pre ⟨T.setVm vm₁, locs, cells, slots⟩ argsL.toArray) :
    (∃ (v : Option Value) (vm₁ : Vm) (B : Pt), s.WarmedH vm₁ ∧ Stand p l e R s m args below meth c B.U B.locs B.cells B.slots ∧ Post ⟨T.setVm vm₁, locs, cells, slots⟩ argsL.toArray v B ∧
      ∀ target, Steps p.tables e below (B.U.setTop { g with pc := g.pc + 3, stack := v.toList ++ rest }) target → Steps p.tables e below (T.setTop g) target) ∨
    (∃ (q : Addr) (vm₁ : Vm) (B : Pt), s.WarmedH vm₁ ∧ Stand p l e R s m args below meth c B.U B.locs B.cells B.slots ∧ PostX ⟨T.setVm vm₁, locs, cells, slots⟩ argsL.toArray q B ∧
      Steps p.tables e below (T.setTop g) ((B.U.setTop { g with stack := rest }).pushFrame (.throwing q))) := by
  obtain ⟨mk, methM, cM, hnamed, hmethM, -, -, -, -, -, -, hsigM⟩ := Cond.codeWith_spec hcode
  have hstatic : methM.isStatic = true := Cond.static_spec hnamed hmethM hstat
  obtain ⟨kP, hkP, -⟩ := className_of_methodNamed hnamed
  have hinitP : kP.init = .initialized := Cond.initialized_spec (findClass_of_methodNamed hnamed) hkP hinit
  obtain ⟨vm₁, X₁, hstep₁⟩ := X.invokestatic hexec hown hlink hnamed hmethM hstatic hkP hinitP hy (g := g) hg (argsL := argsL) (rest := rest) (hlen _ hsigM) hstack hdg
  rcases hK m meth c ⟨T.setVm vm₁, locs, cells, slots⟩ { g with stack := rest } (.invokestatic index) mk argsL.toArray X₁ hg hsize hdg hW (X₁.named hnamed) (hpre vm₁ X₁.warmed) with ⟨v, B, X', hpost, hsteps⟩ | ⟨q, B, X', hpost, hsteps⟩
  · exact Or.inl ⟨v, vm₁, B, X₁.warmed, X', hpost, fun target h => hstep₁ _ fun acts => by rw [doInvoke_state]; exact hsteps.trans h⟩
  · exact Or.inr ⟨q, vm₁, B, X₁.warmed, X', hpost, hstep₁ _ fun acts => by rw [doInvoke_state]; exact hsteps⟩
theorem vx_callVW (X : Stand p l e R s m args below meth c T locs cells slots) (hexec : p.tables.exec = Jvm.exec) {own C : String} {index : Nat} {y : MethodName} {bytes : ByteArray} {maxL : Nat} {ret : Option FieldType} {hh : List (Nat × Nat × Nat × Nat)}
    (hown : s.vm.findClass own = some m.cls) (hlink : (Cond.methodLink own index y).before args s = true) (hinst : (Cond.instanceMethod y).before args s = true) (hsel : (Cond.selects C y y).before args s = true)
    (hcode : (Cond.codeWith y bytes maxL ret hh).before args s = true) (hy : y.cls ≠ "java/lang/invoke/MethodHandle" ∧ y.cls ≠ "java/lang/invoke/VarHandle")
    {W9 : Nat} {Pre : Pt → Array Value → Prop} {Post : Pt → Array Value → Option Value → Pt → Prop} (hK : Back l R p e below s args y 3 W9 Pre Post)
    {b : Addr} {cellB : Cell} (hcell : T.heap[b]? = some cellB) (hobj : cellB.vm.isStatics = false) (hcls : s.vm.findClass C = some cellB.cls)
    {g : JFrame} (hg : g.method = m) (hsize : g.locals.size = c.maxLocals) {argsL rest : List Value} (hlen : ∀ sig, parseMethodDescriptor y.desc = some sig → argsL.length = sig.parameters.length)
    (hstack : g.stack = argsL.reverse ++ .ref b :: rest) (hW : 2 * g.monitorRoom + (rest.map fun v => v.category).sum ≤ W9) (hdg : decode c.code g.pc = .ok (.invokevirtual index, 3))
    (hpre : ∀ vm₁, s.WarmedH vm₁ → Pre ⟨T.setVm vm₁, locs, cells, slots⟩ (Value.ref b :: argsL).toArray) :
    ∃ (v : Option Value) (vm₁ : Vm) (B : Pt), s.WarmedH vm₁ ∧ Stand p l e R s m args below meth c B.U B.locs B.cells B.slots ∧ Post ⟨T.setVm vm₁, locs, cells, slots⟩ (Value.ref b :: argsL).toArray v B ∧
      ∀ target, Steps p.tables e below (B.U.setTop { g with pc := g.pc + 3, stack := v.toList ++ rest }) target → Steps p.tables e below (T.setTop g) target := by
  obtain ⟨mk, methM, hnamed, hmethM, hstM, habM⟩ := Cond.instanceMethod_spec hinst
  obtain ⟨m8, methM', cM, hn8, hmethM', -, -, -, -, -, -, hsigM⟩ := Cond.codeWith_spec hcode
  cases Option.some.inj (hn8.symm.trans hnamed)
  cases hmethM.symm.trans hmethM'
  obtain ⟨c2, r2, m2, q1, q2, q3, q4, kP, hkP, hkPi⟩ := Cond.selects_spec hsel
  cases hcls.symm.trans q1
  cases (State.methodFound?_of_named hnamed hy).symm.trans q2
  cases hnamed.symm.trans q3
  have hselP : selectMethod e.platform s.vm cellB.cls mk = .method mk := by rw [Launch.admits_selectMethod X.admits]; exact q4
  obtain ⟨vm₁, X₁, hstep₁⟩ := X.invokevirtual hexec hown hlink hnamed hmethM hstM hkP hkPi hy (a := b) (cell := cellB) hcell
    (fun z h => by rw [h] at hobj; cases hobj) hselP hmethM habM hkP hkPi (g := g) hg (argsL := argsL) (rest := rest) (hlen _ hsigM) hstack hdg
  obtain ⟨v, B, X', hpost, hsteps⟩ := hK m meth c ⟨T.setVm vm₁, locs, cells, slots⟩ { g with stack := rest } (.invokevirtual index) mk (Value.ref b :: argsL).toArray X₁ hg hsize hdg hW (X₁.named hnamed) (hpre vm₁ X₁.warmed)
  exact ⟨v, vm₁, B, X₁.warmed, X', hpost, fun target h => hstep₁ _ fun acts => by rw [doInvoke_state]; exact hsteps.trans h⟩
abbrev vx_CVW (R : Room) (s : State) (args : Array Value) (own C : String) (index : Nat) (y : MethodName) (bytes : ByteArray) (maxL : Nat) (ret : Option FieldType) (hh : List (Nat × Nat × Nat × Nat)) (ws : List Cond) (rm : Room) (mc ms n : Nat) : Prop :=
  (rm.cells = mc ∧ rm.slots = ms ∧ rm.frames + 1 ≤ R.frames ∧ 8 + (maxL + 11) + rm.locals ≤ R.locals ∧ (∀ w ∈ ws, ∀ (a' : Array Value) (U : State), s.WarmedH U.vm → w.before a' U = true) ∧ Cond.codeWith y bytes maxL ret hh ∈ ws) ∧
  (Cond.codeWith y bytes maxL ret hh).before args s = true ∧ (Cond.initialized y.cls).before args s = true ∧ (y.cls ≠ "java/lang/invoke/MethodHandle" ∧ y.cls ≠ "java/lang/invoke/VarHandle") ∧
  (∀ sig, parseMethodDescriptor y.desc = some sig → n = sig.parameters.length) ∧ (Cond.methodLink own index y).before args s = true ∧ (Cond.instanceMethod y).before args s = true ∧ (Cond.selects C y y).before args s = true
theorem vx_cwVW {own C : String} {index maxL mc ms : Nat} {y : MethodName} {bytes : ByteArray} {ret : Option FieldType} {hh : List (Nat × Nat × Nat × Nat)} {Ts ws ws' : List Cond} {rm : Room} (n : Nat) (ht : ∀ w ∈ Ts, w.before args s = true) (hT : GoodIn Ts (wsV own index C y ws)) (hw : ws = Cond.codeWith y bytes maxL ret hh :: ws') (hrc : rm.cells = mc) (hrs : rm.slots = ms)
    (hd : y.cls = C ∧ y.cls ≠ "java/lang/invoke/MethodHandle" ∧ y.cls ≠ "java/lang/invoke/VarHandle" ∧ (parseMethodDescriptor y.desc).map (fun d => d.parameters.length) = some n) (hR : rm.frames + 1 ≤ R.frames ∧ 8 + (maxL + 11) + rm.locals ≤ R.locals) :
    vx_CVW R s args own C index y bytes maxL ret hh ws rm mc ms n := by
  obtain ⟨hC, hd⟩ := hd
  subst hC
  have ok : ∀ w ∈ wsV own index y.cls y ws, w.before args s = true := fun w h => ht w (hT w h).1
  have hG : GoodIn Ts ws := fun w h => hT w (by unfold wsV; exact List.mem_append_right _ h)
  have hc : Cond.codeWith y bytes maxL ret hh ∈ ws := by rw [hw]; exact List.mem_cons_self
  refine ⟨⟨hrc, hrs, hR.1, hR.2, pay_in ht hG, hc⟩, ht _ (hG _ hc).1, ok _ (by simp [wsV]), ⟨hd.1, hd.2.1⟩, fun sig h => ?_, ok _ (by simp [wsV]), ok _ (by simp [wsV]), ok _ (by simp [wsV])⟩
  have h2 := hd.2.2
  rw [h] at h2
  exact (Option.some.inj h2).symm
theorem vx_runVW {y : MethodName} {bytes cc : ByteArray} {maxL nL mc ms n index : Nat} {ret : Option FieldType} {hh : List (Nat × Nat × Nat × Nat)} {ws : List Cond} {rm : Room} {Pc : Array Value → State → Prop} {Qc : Array Value → State → Outcome → State → Prop} {free : Addr → Prop} {Ts : List Cond} {own C : String} {b : Addr} {As rest : List Value} {g : JFrame}
    (S : CallFix p m c cc nL s args Ts own) (hM : Met l y ws rm Pc Qc mc ms free) (cw : vx_CVW R s args own C index y bytes maxL ret hh ws rm mc ms n) (hp : PreV s H C b Pc As)
    (hg : g.method = m) (hn : As.length = n) (hsize : g.locals.size = nL) (hstack : g.stack = As.reverse ++ .ref b :: rest) (hW : 2 * g.monitorRoom + (rest.map fun v => v.category).sum ≤ 8) (hdg : decode cc g.pc = .ok (.invokevirtual index, 3)) (hf : cells + mc ≤ R.cells ∧ slots + ms ≤ R.slots) :
    va_Run p l e R s m args below meth c H locs cells slots mc ms g rest (Qc (Value.ref b :: As).toArray) free := by
  obtain ⟨⟨hrc, hrs, hfr, hlo, hws, hcw⟩, hcode, hini, hy, hlen, hl, hin, hse⟩ := cw
  have hK : Back l R p e below s args y 3 8 (PreOf R mc ms Pc) (PostOf Qc mc ms free) := va_backW (hh := hh) (bytes := bytes) (maxL := maxL) (ret := ret) hM hp.1 hrc hrs hfr hlo hws hcw (fun a' U hW => word_at hW (Or.inl (by first | rfl | simp [Cond.onTables, Cond.keeps, Cond.steady])) hini)
  obtain ⟨hx, hb, hml, ho, -⟩ := S
  obtain ⟨-, ⟨cellB, hcB, hoB, hclB⟩, hPc⟩ := hp
  intro T hT X
  obtain ⟨v, vm₁, ⟨U', l2, c2, s2⟩, hW₁, X', ⟨g', mk, t, L, e1, e2, hq, h1, hL, h2, h3⟩, st⟩ := vx_callVW X hx (C := C) (hh := hh) (bytes := bytes) (maxL := maxL) (ret := ret) ho hl hin hse hcode hy hK (by rw [hT]; exact hcB) hoB hclB hg (hsize.trans hml.symm) (argsL := As) (rest := rest) (fun sig h => hn.trans (hlen sig h)) hstack hW (by rw [hb]; exact hdg)
    (fun vm₁ hW₁ => ⟨hf.1, hf.2, hPc (T.setVm vm₁) hT hW₁⟩)
  dsimp only [Pt.U, Pt.locs, Pt.cells, Pt.slots] at X' e1 e2 h1 h2 h3 st
  subst h1; subst h2; subst h3
  exact ⟨v, (T.setVm vm₁).calling g' mk (Value.ref b :: As).toArray, t, U', L, hT, X', hL, e1, e2, hq, st⟩
section
variable {y : MethodName} {bytes cc : ByteArray} {maxL nL mc ms n index : Nat} {ret : Option FieldType} {ws : List Cond} {rm : Room} {Pc : Array Value → State → Prop} {Qc : Array Value → State → Outcome → State → Prop} {XC : String → State → State → Prop} {free : Addr → Prop} {Ts : List Cond} {own C : String} {b : Addr} {As rest : List Value} {g : JFrame}
theorem vx_runVX {hh : List (Nat × Nat × Nat × Nat)} (S : CallFix p m c cc nL s args Ts own) (hM : vx_Met l y ws rm Pc Qc XC mc ms free) (cw : vx_CVW R s args own C index y bytes maxL ret hh ws rm mc ms n) (hp : PreV s H C b Pc As)
    (hg : g.method = m) (hn : As.length = n) (hsize : g.locals.size = nL) (hstack : g.stack = As.reverse ++ .ref b :: rest) (hW : 2 * g.monitorRoom + (rest.map fun v => v.category).sum ≤ 8) (hdg : decode cc g.pc = .ok (.invokevirtual index, 3)) (hf : cells + mc ≤ R.cells ∧ slots + ms ≤ R.slots) :
    vx_Run p l e R s m args below meth c H locs cells slots mc ms g rest (Qc (Value.ref b :: As).toArray) XC free := by
  obtain ⟨⟨hrc, hrs, hfr, hlo, hws, hcw⟩, hcode, hini, hy, hlen, hl, hin, hse⟩ := cw
  have hK : vx_Back l R p e below s args y 3 8 (PreOf R mc ms Pc) (PostOf Qc mc ms free) (vx_Post XC mc ms free) := vx_backW (hh := hh) (bytes := bytes) (maxL := maxL) (ret := ret) hM hp.1 hrc hrs hfr hlo hws hcw (fun a' U hW => word_at hW (Or.inl (by first | rfl | simp [Cond.onTables, Cond.keeps, Cond.steady])) hini)
  obtain ⟨hx, hb, hml, ho, -⟩ := S
  obtain ⟨-, ⟨cellB, hcB, hoB, hclB⟩, hPc⟩ := hp
  intro T hT X
  rcases vx_callVX X hx (C := C) (hh := hh) (bytes := bytes) (maxL := maxL) (ret := ret) ho hl hin hse hcode hy hK (by rw [hT]; exact hcB) hoB hclB hg (hsize.trans hml.symm) (argsL := As) (rest := rest) (fun sig h => hn.trans (hlen sig h)) hstack hW (by rw [hb]; exact hdg)
    (fun vm₁ hW₁ => ⟨hf.1, hf.2, hPc (T.setVm vm₁) hT hW₁⟩) with ⟨v, vm₁, ⟨U', l2, c2, s2⟩, hW₁, X', ⟨g', mk, t, L, e1, e2, hq, h1, hL, h2, h3⟩, st⟩ | ⟨q, vm₁, ⟨U', l2, c2, s2⟩, hW₁, X', ⟨g', mk, t, L, E, ce, e1, e2, hq, hce, hcv, hcl, h1, hL, h2, h3⟩, st⟩
  · dsimp only [Pt.U, Pt.locs, Pt.cells, Pt.slots] at X' e1 e2 h1 h2 h3 st
    subst h1; subst h2; subst h3
    exact Or.inl ⟨v, (T.setVm vm₁).calling g' mk (Value.ref b :: As).toArray, t, U', L, hT, X', hL, e1, e2, hq, st⟩
  · dsimp only [Pt.U, Pt.locs, Pt.cells, Pt.slots] at X' e1 e2 h1 h2 h3 st hcl
    subst h1; subst h2; subst h3
    exact Or.inr ⟨q, (T.setVm vm₁).calling g' mk (Value.ref b :: As).toArray, t, U', L, E, ce, hT, X', hL, e1, e2, hq, hce, hcv, vx_cls hW₁ hcl, st⟩
theorem vx_runSX {hh : List (Nat × Nat × Nat × Nat)} (S : CallFix p m c cc nL s args Ts own) (hM : vx_Met l y ws rm Pc Qc XC mc ms free) (cw : vx_CSW R s args own index y bytes maxL ret hh ws rm mc ms n) (hp : PreS s H Pc As)
    (hg : g.method = m) (hn : As.length = n) (hsize : g.locals.size = nL) (hstack : g.stack = As.reverse ++ rest) (hW : 2 * g.monitorRoom + (rest.map fun v => v.category).sum ≤ 8) (hdg : decode cc g.pc = .ok (.invokestatic index, 3)) (hf : cells + mc ≤ R.cells ∧ slots + ms ≤ R.slots) :
    vx_Run p l e R s m args below meth c H locs cells slots mc ms g rest (Qc As.toArray) XC free := by
  obtain ⟨⟨hrc, hrs, hfr, hlo, hws, hcw⟩, hcode, hini, hy, hlen, hl, hstt⟩ := cw
  have hK : vx_Back l R p e below s args y 3 8 (PreOf R mc ms Pc) (PostOf Qc mc ms free) (vx_Post XC mc ms free) := vx_backW (hh := hh) (bytes := bytes) (maxL := maxL) (ret := ret) hM hp.1 hrc hrs hfr hlo hws hcw (fun a' U hW => word_at hW (Or.inl (by first | rfl | simp [Cond.onTables, Cond.keeps, Cond.steady])) hini)
  obtain ⟨hx, hb, hml, ho, -⟩ := S
  intro T hT X
  rcases vx_callSX X hx (hh := hh) (bytes := bytes) (maxL := maxL) (ret := ret) ho hl hstt hini hcode hy hK hg (hsize.trans hml.symm) (argsL := As) (rest := rest) (fun sig h => hn.trans (hlen sig h)) hstack hW (by rw [hb]; exact hdg)
    (fun vm₁ hW₁ => ⟨hf.1, hf.2, hp.2 (T.setVm vm₁) hT hW₁⟩) with ⟨v, vm₁, ⟨U', l2, c2, s2⟩, hW₁, X', ⟨g', mk, t, L, e1, e2, hq, h1, hL, h2, h3⟩, st⟩ | ⟨q, vm₁, ⟨U', l2, c2, s2⟩, hW₁, X', ⟨g', mk, t, L, E, ce, e1, e2, hq, hce, hcv, hcl, h1, hL, h2, h3⟩, st⟩
  · dsimp only [Pt.U, Pt.locs, Pt.cells, Pt.slots] at X' e1 e2 h1 h2 h3 st
    subst h1; subst h2; subst h3
    exact Or.inl ⟨v, (T.setVm vm₁).calling g' mk As.toArray, t, U', L, hT, X', hL, e1, e2, hq, st⟩
  · dsimp only [Pt.U, Pt.locs, Pt.cells, Pt.slots] at X' e1 e2 h1 h2 h3 st hcl
    subst h1; subst h2; subst h3
    exact Or.inr ⟨q, (T.setVm vm₁).calling g' mk As.toArray, t, U', L, E, ce, hT, X', hL, e1, e2, hq, hce, hcv, vx_cls hW₁ hcl, st⟩
end
end VXH
theorem vx_ofWH {l : Launch} {y : MethodName} {ws ws' : List Cond} {rm : Room} {Pc : Array Value → State → Prop} {Qc : Array Value → State → Outcome → State → Prop} {XC : String → State → State → Prop} {mc ms : Nat} {free : Addr → Prop} {cc : ByteArray} {maxL : Nat} {ret : Option FieldType} {hh : List (Nat × Nat × Nat × Nat)}
    (hy : plainName y.cls = true) (hw : ws = Cond.codeWith y cc maxL ret hh :: ws')
    (body : ∀ p e s m args below meth c s₁, BodyLoose p l y (headSpec ws rm) cc maxL ret e s m args below meth c s₁ → c.maxLocals = maxL → Pc args s →
      W p l e (headSpec ws rm).room s m args below meth c s.heap [] 0 0 (vx_MQ below Qc XC args s mc ms free) (entryFrame m args maxL)) : vx_Met l y ws rm Pc Qc XC mc ms free := by
  refine MetFree.of_bodyS (code := cc) (maxLocals := maxL) (ret := ret) hy ?_ ?_
  · intro args s m h hn
    obtain ⟨m9, meth, c, hn9, h1, h2, h3, h4, -, h5, h6, -⟩ := Cond.codeWith_spec (atoms_spec (ws := ws) h _ (by rw [hw]; exact List.mem_cons_self))
    cases hn.symm.trans hn9
    exact ⟨meth, c, h1, h2, h3, h4, h5, h6⟩
  · intro p e s m args below meth c s₁ B hml hP _
    have hh0 : s₁.heap = s.heap := by rw [B.state]; rfl
    obtain ⟨t, a1, o, b1, b2, b3⟩ := body p e s m args below meth c s₁ B hml hP s₁ hh0 (Stand.of_body B)
    exact ⟨t, o, a1, b1, b2, b3⟩
/-! ===== END ===== -/
end
section
/-! ===== BEGIN printed: names, fields, word lists, decode rows ===== -/
def RX0 : String := "Bidwhistle$Program"
def TX0 : u_T := fun k => match k with
  | 0 => ("Bidwhistle$Program", "steps", "LBidwhistle$Row;", true)
  | 1 => ("Bidwhistle$Program", "length", "I", false)
  | _ => ("Bidwhistle$Program", "stepBits", "I", false)
def tyX0 : Nat → FieldType := fun k => match k with
  | 0 => .object "Bidwhistle$Row"
  | 1 => .int
  | _ => .int
abbrev wsX00 : List Cond := u_ws RX0 TX0 3
theorem nmX0 : ∀ a, a < 3 → ∀ b, b < 3 → a ≠ b → (TX0 a).2.1 ≠ (TX0 b).2.1 := by decide +kernel
theorem tyX0_ok : ∀ k, k < 3 → parseFieldDescriptor (TX0 k).2.2.1 = some (tyX0 k) := by decide +kernel
abbrev cX0_init : ByteArray := prog_2_method_1_code
def yX0_init : MethodName := ⟨RX0, "<init>", "()V"⟩
abbrev cX0_length : ByteArray := prog_2_method_2_code
def yX0_length : MethodName := ⟨RX0, "length", "()I"⟩
abbrev cX0_isFull : ByteArray := prog_2_method_3_code
def yX0_isFull : MethodName := ⟨RX0, "isFull", "()Z"⟩
abbrev cX0_empty : ByteArray := prog_2_method_4_code
def yX0_empty : MethodName := ⟨RX0, "empty", "()V"⟩
abbrev cX0_add : ByteArray := prog_2_method_5_code
def yX0_add : MethodName := ⟨RX0, "add", "(I)V"⟩
abbrev cX0_addPart : ByteArray := prog_2_method_6_code
def yX0_addPart : MethodName := ⟨RX0, "addPart", "(LBidwhistle$Program;II)V"⟩
abbrev cX0_copy : ByteArray := prog_2_method_7_code
def yX0_copy : MethodName := ⟨RX0, "copy", "()LBidwhistle$Program;"⟩
abbrev cX0_isSameAs : ByteArray := prog_2_method_8_code
def yX0_isSameAs : MethodName := ⟨RX0, "isSameAs", "(LBidwhistle$Program;)Z"⟩
abbrev cX0_hasAnyOf : ByteArray := prog_2_method_9_code
def yX0_hasAnyOf : MethodName := ⟨RX0, "hasAnyOf", "(I)Z"⟩
abbrev cX0_isRight : ByteArray := prog_2_method_10_code
def yX0_isRight : MethodName := ⟨RX0, "isRight", "()Z"⟩
abbrev cX0_bidFor : ByteArray := prog_2_method_11_code
def yX0_bidFor : MethodName := ⟨RX0, "bidFor", "(ILBidwhistle$Stack;)I"⟩
abbrev cX0_perform : ByteArray := prog_2_method_12_code
def yX0_perform : MethodName := ⟨RX0, "perform", "(IILBidwhistle$Stack;)V"⟩
abbrev cX0_resultOf : ByteArray := prog_2_method_13_code
def yX0_resultOf : MethodName := ⟨RX0, "resultOf", "(IJJ)J"⟩
def RX1 : String := "Bidwhistle$Row"
def TX1 : u_T := fun k => match k with
  | _ => ("Bidwhistle$Row", "numbers", "[I", true)
def tyX1 : Nat → FieldType := fun k => match k with
  | _ => .array .int
abbrev wsX10 : List Cond := u_ws RX1 TX1 1
theorem nmX1 : ∀ a, a < 1 → ∀ b, b < 1 → a ≠ b → (TX1 a).2.1 ≠ (TX1 b).2.1 := by decide +kernel
theorem tyX1_ok : ∀ k, k < 1 → parseFieldDescriptor (TX1 k).2.2.1 = some (tyX1 k) := by decide +kernel
abbrev cX1_init : ByteArray := prog_3_method_1_code
def yX1_init : MethodName := ⟨RX1, "<init>", "(I)V"⟩
abbrev cX1_at : ByteArray := prog_3_method_2_code
def yX1_at : MethodName := ⟨RX1, "at", "(I)I"⟩
abbrev cX1_put : ByteArray := prog_3_method_3_code
def yX1_put : MethodName := ⟨RX1, "put", "(II)V"⟩
abbrev cX1_isSameAs : ByteArray := prog_3_method_4_code
def yX1_isSameAs : MethodName := ⟨RX1, "isSameAs", "(LBidwhistle$Row;)Z"⟩
def RX2 : String := "Bidwhistle$Stack"
def TX2 : u_T := fun k => match k with
  | 0 => ("Bidwhistle$Stack", "numbers", "LBidwhistle$Row;", true)
  | _ => ("Bidwhistle$Stack", "depth", "I", false)
def tyX2 : Nat → FieldType := fun k => match k with
  | 0 => .object "Bidwhistle$Row"
  | _ => .int
abbrev wsX20 : List Cond := u_ws RX2 TX2 2
theorem nmX2 : ∀ a, a < 2 → ∀ b, b < 2 → a ≠ b → (TX2 a).2.1 ≠ (TX2 b).2.1 := by decide +kernel
theorem tyX2_ok : ∀ k, k < 2 → parseFieldDescriptor (TX2 k).2.2.1 = some (tyX2 k) := by decide +kernel
abbrev cX2_init : ByteArray := prog_4_method_1_code
def yX2_init : MethodName := ⟨RX2, "<init>", "()V"⟩
abbrev cX2_empty : ByteArray := prog_4_method_2_code
def yX2_empty : MethodName := ⟨RX2, "empty", "()V"⟩
abbrev cX2_push : ByteArray := prog_4_method_3_code
def yX2_push : MethodName := ⟨RX2, "push", "(J)V"⟩
abbrev cX2_pop : ByteArray := prog_4_method_4_code
def yX2_pop : MethodName := ⟨RX2, "pop", "()I"⟩
def RX3 : String := "Bidwhistle$Strategy"
def TX3 : u_T := fun k => match k with
  | 0 => ("Bidwhistle$Strategy", "number", "I", true)
  | 1 => ("Bidwhistle$Strategy", "program", "LBidwhistle$Program;", true)
  | 2 => ("Bidwhistle$Strategy", "firstParent", "I", true)
  | 3 => ("Bidwhistle$Strategy", "secondParent", "I", true)
  | 4 => ("Bidwhistle$Strategy", "bids", "LBidwhistle$Row;", true)
  | 5 => ("Bidwhistle$Strategy", "stepsOfLine", "I", false)
  | 6 => ("Bidwhistle$Strategy", "kind", "I", false)
  | _ => ("Bidwhistle$Strategy", "inPool", "Z", false)
def tyX3 : Nat → FieldType := fun k => match k with
  | 0 => .int
  | 1 => .object "Bidwhistle$Program"
  | 2 => .int
  | 3 => .int
  | 4 => .object "Bidwhistle$Row"
  | 5 => .int
  | 6 => .int
  | _ => .boolean
abbrev wsX30 : List Cond := u_ws RX3 TX3 8
theorem nmX3 : ∀ a, a < 8 → ∀ b, b < 8 → a ≠ b → (TX3 a).2.1 ≠ (TX3 b).2.1 := by decide +kernel
theorem tyX3_ok : ∀ k, k < 8 → parseFieldDescriptor (TX3 k).2.2.1 = some (tyX3 k) := by decide +kernel
abbrev cX3_init : ByteArray := prog_5_method_1_code
def yX3_init : MethodName := ⟨RX3, "<init>", "(ILBidwhistle$Program;II)V"⟩
abbrev cX3_bidFor : ByteArray := prog_5_method_2_code
def yX3_bidFor : MethodName := ⟨RX3, "bidFor", "(I)I"⟩
def RX4 : String := "Bidwhistle"
def TX4 : u_T := fun k => match k with
  | 0 => ("Bidwhistle", "draft", "LBidwhistle$Program;", true)
  | 1 => ("Bidwhistle", "child", "LBidwhistle$Program;", true)
  | 2 => ("Bidwhistle", "stack", "LBidwhistle$Stack;", true)
  | 3 => ("Bidwhistle", "strategies", "Ljava/util/ArrayList;", true)
  | 4 => ("Bidwhistle", "forbiddenSteps", "I", false)
  | 5 => ("Bidwhistle", "firstValues", "LBidwhistle$Row;", true)
  | 6 => ("Bidwhistle", "secondValues", "LBidwhistle$Row;", true)
  | 7 => ("Bidwhistle", "pairsTold", "I", false)
  | 8 => ("Bidwhistle", "bidsForFirst", "LBidwhistle$Row;", true)
  | 9 => ("Bidwhistle", "bidsForSecond", "LBidwhistle$Row;", true)
  | _ => ("Bidwhistle", "worths", "LBidwhistle$Row;", true)
def tyX4 : Nat → FieldType := fun k => match k with
  | 0 => .object "Bidwhistle$Program"
  | 1 => .object "Bidwhistle$Program"
  | 2 => .object "Bidwhistle$Stack"
  | 3 => .object "java/util/ArrayList"
  | 4 => .int
  | 5 => .object "Bidwhistle$Row"
  | 6 => .object "Bidwhistle$Row"
  | 7 => .int
  | 8 => .object "Bidwhistle$Row"
  | 9 => .object "Bidwhistle$Row"
  | _ => .object "Bidwhistle$Row"
abbrev wsX40 : List Cond := u_ws RX4 TX4 11
theorem nmX4 : ∀ a, a < 11 → ∀ b, b < 11 → a ≠ b → (TX4 a).2.1 ≠ (TX4 b).2.1 := by decide +kernel
theorem tyX4_ok : ∀ k, k < 11 → parseFieldDescriptor (TX4 k).2.2.1 = some (tyX4 k) := by decide +kernel
abbrev cX4_init : ByteArray := prog_1_method_1_code
def yX4_init : MethodName := ⟨RX4, "<init>", "()V"⟩
abbrev cX4_step : ByteArray := prog_1_method_2_code
def yX4_step : MethodName := ⟨RX4, "step", "(I)I"⟩
abbrev cX4_scrap : ByteArray := prog_1_method_3_code
def yX4_scrap : MethodName := ⟨RX4, "scrap", "()I"⟩
abbrev cX4_store : ByteArray := prog_1_method_4_code
def yX4_store : MethodName := ⟨RX4, "store", "()I"⟩
abbrev cX4_stored : ByteArray := prog_1_method_5_code
def yX4_stored : MethodName := ⟨RX4, "stored", "()I"⟩
abbrev cX4_bid : ByteArray := prog_1_method_6_code
def yX4_bid : MethodName := ⟨RX4, "bid", "(II)I"⟩
abbrev cX4_alike : ByteArray := prog_1_method_7_code
def yX4_alike : MethodName := ⟨RX4, "alike", "(I)I"⟩
abbrev cX4_parent : ByteArray := prog_1_method_8_code
def yX4_parent : MethodName := ⟨RX4, "parent", "(IZ)I"⟩
abbrev cX4_join : ByteArray := prog_1_method_9_code
def yX4_join : MethodName := ⟨RX4, "join", "(I)I"⟩
abbrev cX4_leave : ByteArray := prog_1_method_10_code
def yX4_leave : MethodName := ⟨RX4, "leave", "(I)I"⟩
abbrev cX4_isIn : ByteArray := prog_1_method_11_code
def yX4_isIn : MethodName := ⟨RX4, "isIn", "(I)Z"⟩
abbrev cX4_forbid : ByteArray := prog_1_method_12_code
def yX4_forbid : MethodName := ⟨RX4, "forbid", "(I)I"⟩
abbrev cX4_allow : ByteArray := prog_1_method_13_code
def yX4_allow : MethodName := ⟨RX4, "allow", "(I)Z"⟩
abbrev cX4_tell : ByteArray := prog_1_method_14_code
def yX4_tell : MethodName := ⟨RX4, "tell", "(II)I"⟩
abbrev cX4_forget : ByteArray := prog_1_method_15_code
def yX4_forget : MethodName := ⟨RX4, "forget", "()I"⟩
abbrev cX4_profit : ByteArray := prog_1_method_16_code
def yX4_profit : MethodName := ⟨RX4, "profit", "(IIIII)I"⟩
abbrev cX4_worth : ByteArray := prog_1_method_17_code
def yX4_worth : MethodName := ⟨RX4, "worth", "(II)I"⟩
abbrev cX4_worthByValues : ByteArray := prog_1_method_18_code
def yX4_worthByValues : MethodName := ⟨RX4, "worthByValues", "(II)I"⟩
abbrev cX4_best : ByteArray := prog_1_method_19_code
def yX4_best : MethodName := ⟨RX4, "best", "(I)I"⟩
abbrev cX4_evolve : ByteArray := prog_1_method_20_code
def yX4_evolve : MethodName := ⟨RX4, "evolve", "(I)I"⟩
abbrev cX4_requireStep : ByteArray := prog_1_method_21_code
def yX4_requireStep : MethodName := ⟨RX4, "requireStep", "(I)V"⟩
abbrev cX4_requireValue : ByteArray := prog_1_method_22_code
def yX4_requireValue : MethodName := ⟨RX4, "requireValue", "(I)V"⟩
abbrev cX4_requireAuction : ByteArray := prog_1_method_23_code
def yX4_requireAuction : MethodName := ⟨RX4, "requireAuction", "(I)V"⟩
abbrev cX4_requireInPool : ByteArray := prog_1_method_24_code
def yX4_requireInPool : MethodName := ⟨RX4, "requireInPool", "(LBidwhistle$Strategy;)V"⟩
abbrev cX4_strategyAt : ByteArray := prog_1_method_25_code
def yX4_strategyAt : MethodName := ⟨RX4, "strategyAt", "(I)LBidwhistle$Strategy;"⟩
abbrev cX4_numberOf : ByteArray := prog_1_method_26_code
def yX4_numberOf : MethodName := ⟨RX4, "numberOf", "(LBidwhistle$Program;)I"⟩
abbrev cX4_keep : ByteArray := prog_1_method_27_code
def yX4_keep : MethodName := ⟨RX4, "keep", "(LBidwhistle$Program;II)I"⟩
abbrev cX4_stepsOfLine : ByteArray := prog_1_method_28_code
def yX4_stepsOfLine : MethodName := ⟨RX4, "stepsOfLine", "(I)I"⟩
abbrev cX4_kindOf : ByteArray := prog_1_method_29_code
def yX4_kindOf : MethodName := ⟨RX4, "kindOf", "(LBidwhistle$Strategy;)I"⟩
abbrev cX4_bitOf : ByteArray := prog_1_method_30_code
def yX4_bitOf : MethodName := ⟨RX4, "bitOf", "(I)I"⟩
abbrev cX4_poolSize : ByteArray := prog_1_method_31_code
def yX4_poolSize : MethodName := ⟨RX4, "poolSize", "()I"⟩
abbrev cX4_wins : ByteArray := prog_1_method_32_code
def yX4_wins : MethodName := ⟨RX4, "wins", "(IIII)Z"⟩
abbrev cX4_paid : ByteArray := prog_1_method_33_code
def yX4_paid : MethodName := ⟨RX4, "paid", "(IZII)I"⟩
abbrev cX4_profitOf : ByteArray := prog_1_method_34_code
def yX4_profitOf : MethodName := ⟨RX4, "profitOf", "(IZIII)I"⟩
abbrev cX4_profitAgainst : ByteArray := prog_1_method_35_code
def yX4_profitAgainst : MethodName := ⟨RX4, "profitAgainst", "(ILBidwhistle$Strategy;LBidwhistle$Strategy;II)I"⟩
abbrev cX4_worthByStrategies : ByteArray := prog_1_method_36_code
def yX4_worthByStrategies : MethodName := ⟨RX4, "worthByStrategies", "(ILBidwhistle$Strategy;)I"⟩
abbrev cX4_profitOfRounds : ByteArray := prog_1_method_37_code
def yX4_profitOfRounds : MethodName := ⟨RX4, "profitOfRounds", "(ILBidwhistle$Strategy;LBidwhistle$Strategy;)I"⟩
abbrev cX4_layBids : ByteArray := prog_1_method_38_code
def yX4_layBids : MethodName := ⟨RX4, "layBids", "(ILBidwhistle$Row;)V"⟩
abbrev cX4_profitInRows : ByteArray := prog_1_method_39_code
def yX4_profitInRows : MethodName := ⟨RX4, "profitInRows", "(IIILBidwhistle$Row;LBidwhistle$Row;)I"⟩
abbrev cX4_layWorths : ByteArray := prog_1_method_40_code
def yX4_layWorths : MethodName := ⟨RX4, "layWorths", "(I)V"⟩
abbrev cX4_strongestBut : ByteArray := prog_1_method_41_code
def yX4_strongestBut : MethodName := ⟨RX4, "strongestBut", "(I)I"⟩
abbrev cX4_weakest : ByteArray := prog_1_method_42_code
def yX4_weakest : MethodName := ⟨RX4, "weakest", "()I"⟩
abbrev cX4_cross : ByteArray := prog_1_method_43_code
def yX4_cross : MethodName := ⟨RX4, "cross", "(LBidwhistle$Program;LBidwhistle$Program;)V"⟩
abbrev cX4_letChildJoin : ByteArray := prog_1_method_44_code
def yX4_letChildJoin : MethodName := ⟨RX4, "letChildJoin", "(II)I"⟩
def RX5 : String := "BidwhistleModel"
def TX5 : u_T := fun k => match k with
  | 0 => ("BidwhistleModel", "steps", "[I", true)
  | 1 => ("BidwhistleModel", "lengths", "[I", true)
  | 2 => ("BidwhistleModel", "stored", "I", false)
  | 3 => ("BidwhistleModel", "parents", "[I", true)
  | 4 => ("BidwhistleModel", "isIn", "[Z", true)
  | 5 => ("BidwhistleModel", "isForbidden", "[Z", true)
  | 6 => ("BidwhistleModel", "pairs", "I", false)
  | 7 => ("BidwhistleModel", "ones", "[I", true)
  | 8 => ("BidwhistleModel", "twos", "[I", true)
  | 9 => ("BidwhistleModel", "stack", "[I", true)
  | 10 => ("BidwhistleModel", "top", "I", false)
  | 11 => ("BidwhistleModel", "worths", "[I", true)
  | 12 => ("BidwhistleModel", "isOfLine", "[Z", true)
  | _ => ("BidwhistleModel", "thrown", "I", false)
def tyX5 : Nat → FieldType := fun k => match k with
  | 0 => .array .int
  | 1 => .array .int
  | 2 => .int
  | 3 => .array .int
  | 4 => .array .boolean
  | 5 => .array .boolean
  | 6 => .int
  | 7 => .array .int
  | 8 => .array .int
  | 9 => .array .int
  | 10 => .int
  | 11 => .array .int
  | 12 => .array .boolean
  | _ => .int
abbrev wsX50 : List Cond := u_ws RX5 TX5 14
theorem nmX5 : ∀ a, a < 14 → ∀ b, b < 14 → a ≠ b → (TX5 a).2.1 ≠ (TX5 b).2.1 := by decide +kernel
theorem tyX5_ok : ∀ k, k < 14 → parseFieldDescriptor (TX5 k).2.2.1 = some (tyX5 k) := by decide +kernel
abbrev cX5_init : ByteArray := prog_7_method_1_code
def yX5_init : MethodName := ⟨RX5, "<init>", "()V"⟩
abbrev cX5_thrown : ByteArray := prog_7_method_2_code
def yX5_thrown : MethodName := ⟨RX5, "thrown", "()I"⟩
abbrev cX5_goes : ByteArray := prog_7_method_3_code
def yX5_goes : MethodName := ⟨RX5, "goes", "(I)Z"⟩
abbrev cX5_lies : ByteArray := prog_7_method_4_code
def yX5_lies : MethodName := ⟨RX5, "lies", "(III)Z"⟩
abbrev cX5_isStrategy : ByteArray := prog_7_method_5_code
def yX5_isStrategy : MethodName := ⟨RX5, "isStrategy", "(I)Z"⟩
abbrev cX5_isStep : ByteArray := prog_7_method_6_code
def yX5_isStep : MethodName := ⟨RX5, "isStep", "(I)Z"⟩
abbrev cX5_isValue : ByteArray := prog_7_method_7_code
def yX5_isValue : MethodName := ⟨RX5, "isValue", "(I)Z"⟩
abbrev cX5_isAuction : ByteArray := prog_7_method_8_code
def yX5_isAuction : MethodName := ⟨RX5, "isAuction", "(I)Z"⟩
abbrev cX5_made : ByteArray := prog_7_method_9_code
def yX5_made : MethodName := ⟨RX5, "made", "(III)I"⟩
abbrev cX5_runs : ByteArray := prog_7_method_10_code
def yX5_runs : MethodName := ⟨RX5, "runs", "(II)Z"⟩
abbrev cX5_bidOf : ByteArray := prog_7_method_11_code
def yX5_bidOf : MethodName := ⟨RX5, "bidOf", "(II)I"⟩
abbrev cX5_hasStep : ByteArray := prog_7_method_12_code
def yX5_hasStep : MethodName := ⟨RX5, "hasStep", "(II)Z"⟩
abbrev cX5_hasForbidden : ByteArray := prog_7_method_13_code
def yX5_hasForbidden : MethodName := ⟨RX5, "hasForbidden", "(I)Z"⟩
abbrev cX5_areSame : ByteArray := prog_7_method_14_code
def yX5_areSame : MethodName := ⟨RX5, "areSame", "(II)Z"⟩
abbrev cX5_found : ByteArray := prog_7_method_15_code
def yX5_found : MethodName := ⟨RX5, "found", "(I)I"⟩
abbrev cX5_step : ByteArray := prog_7_method_16_code
def yX5_step : MethodName := ⟨RX5, "step", "(I)I"⟩
abbrev cX5_scrap : ByteArray := prog_7_method_17_code
def yX5_scrap : MethodName := ⟨RX5, "scrap", "()I"⟩
abbrev cX5_keeps : ByteArray := prog_7_method_18_code
def yX5_keeps : MethodName := ⟨RX5, "keeps", "(III)V"⟩
abbrev cX5_store : ByteArray := prog_7_method_19_code
def yX5_store : MethodName := ⟨RX5, "store", "()I"⟩
abbrev cX5_stored : ByteArray := prog_7_method_20_code
def yX5_stored : MethodName := ⟨RX5, "stored", "()I"⟩
abbrev cX5_bid : ByteArray := prog_7_method_21_code
def yX5_bid : MethodName := ⟨RX5, "bid", "(II)I"⟩
abbrev cX5_alike : ByteArray := prog_7_method_22_code
def yX5_alike : MethodName := ⟨RX5, "alike", "(I)I"⟩
abbrev cX5_parent : ByteArray := prog_7_method_23_code
def yX5_parent : MethodName := ⟨RX5, "parent", "(IZ)I"⟩
abbrev cX5_pooled : ByteArray := prog_7_method_24_code
def yX5_pooled : MethodName := ⟨RX5, "pooled", "()I"⟩
abbrev cX5_join : ByteArray := prog_7_method_25_code
def yX5_join : MethodName := ⟨RX5, "join", "(I)I"⟩
abbrev cX5_leave : ByteArray := prog_7_method_26_code
def yX5_leave : MethodName := ⟨RX5, "leave", "(I)I"⟩
abbrev cX5_isIn : ByteArray := prog_7_method_27_code
def yX5_isIn : MethodName := ⟨RX5, "isIn", "(I)Z"⟩
abbrev cX5_forbid : ByteArray := prog_7_method_28_code
def yX5_forbid : MethodName := ⟨RX5, "forbid", "(I)I"⟩
abbrev cX5_allow : ByteArray := prog_7_method_29_code
def yX5_allow : MethodName := ⟨RX5, "allow", "(I)Z"⟩
abbrev cX5_tell : ByteArray := prog_7_method_30_code
def yX5_tell : MethodName := ⟨RX5, "tell", "(II)I"⟩
abbrev cX5_forget : ByteArray := prog_7_method_31_code
def yX5_forget : MethodName := ⟨RX5, "forget", "()I"⟩
abbrev cX5_profitOf : ByteArray := prog_7_method_32_code
def yX5_profitOf : MethodName := ⟨RX5, "profitOf", "(IIIII)I"⟩
abbrev cX5_profit : ByteArray := prog_7_method_33_code
def yX5_profit : MethodName := ⟨RX5, "profit", "(IIIII)I"⟩
abbrev cX5_worthOf : ByteArray := prog_7_method_34_code
def yX5_worthOf : MethodName := ⟨RX5, "worthOf", "(II)I"⟩
abbrev cX5_worthIn : ByteArray := prog_7_method_35_code
def yX5_worthIn : MethodName := ⟨RX5, "worthIn", "(II)I"⟩
abbrev cX5_worth : ByteArray := prog_7_method_36_code
def yX5_worth : MethodName := ⟨RX5, "worth", "(II)I"⟩
abbrev cX5_worthByValues : ByteArray := prog_7_method_37_code
def yX5_worthByValues : MethodName := ⟨RX5, "worthByValues", "(II)I"⟩
abbrev cX5_laysWorths : ByteArray := prog_7_method_38_code
def yX5_laysWorths : MethodName := ⟨RX5, "laysWorths", "(I)V"⟩
abbrev cX5_greatest : ByteArray := prog_7_method_39_code
def yX5_greatest : MethodName := ⟨RX5, "greatest", "(I)I"⟩
abbrev cX5_best : ByteArray := prog_7_method_40_code
def yX5_best : MethodName := ⟨RX5, "best", "(I)I"⟩
abbrev cX5_weakest : ByteArray := prog_7_method_41_code
def yX5_weakest : MethodName := ⟨RX5, "weakest", "()I"⟩
abbrev cX5_crosses : ByteArray := prog_7_method_42_code
def yX5_crosses : MethodName := ⟨RX5, "crosses", "(II)V"⟩
abbrev cX5_evolve : ByteArray := prog_7_method_43_code
def yX5_evolve : MethodName := ⟨RX5, "evolve", "(I)I"⟩
def RJx145de : String := "java/io/Serializable"
def TJx145de : u_T := fun k => match k with
  | _ => ("", "", "", false)
def tyJx145de : Nat → FieldType := fun k => match k with
  | _ => .int
abbrev wsJx145de0 : List Cond := u_ws RJx145de TJx145de 0
theorem nmJx145de : ∀ a, a < 0 → ∀ b, b < 0 → a ≠ b → (TJx145de a).2.1 ≠ (TJx145de b).2.1 := by decide +kernel
theorem tyJx145de_ok : ∀ k, k < 0 → parseFieldDescriptor (TJx145de k).2.2.1 = some (tyJx145de k) := by decide +kernel
def RJx8e188 : String := "java/lang/Cloneable"
def TJx8e188 : u_T := fun k => match k with
  | _ => ("", "", "", false)
def tyJx8e188 : Nat → FieldType := fun k => match k with
  | _ => .int
abbrev wsJx8e1880 : List Cond := u_ws RJx8e188 TJx8e188 0
theorem nmJx8e188 : ∀ a, a < 0 → ∀ b, b < 0 → a ≠ b → (TJx8e188 a).2.1 ≠ (TJx8e188 b).2.1 := by decide +kernel
theorem tyJx8e188_ok : ∀ k, k < 0 → parseFieldDescriptor (TJx8e188 k).2.2.1 = some (tyJx8e188 k) := by decide +kernel
def RJxab1ab : String := "java/lang/Iterable"
def TJxab1ab : u_T := fun k => match k with
  | _ => ("", "", "", false)
def tyJxab1ab : Nat → FieldType := fun k => match k with
  | _ => .int
abbrev wsJxab1ab0 : List Cond := u_ws RJxab1ab TJxab1ab 0
theorem nmJxab1ab : ∀ a, a < 0 → ∀ b, b < 0 → a ≠ b → (TJxab1ab a).2.1 ≠ (TJxab1ab b).2.1 := by decide +kernel
theorem tyJxab1ab_ok : ∀ k, k < 0 → parseFieldDescriptor (TJxab1ab k).2.2.1 = some (tyJxab1ab k) := by decide +kernel
def RJ9 : String := "java/lang/Math"
def TJ9 : u_T := fun k => match k with
  | _ => ("", "", "", false)
def tyJ9 : Nat → FieldType := fun k => match k with
  | _ => .int
abbrev wsJ90 : List Cond := u_ws RJ9 TJ9 0
theorem nmJ9 : ∀ a, a < 0 → ∀ b, b < 0 → a ≠ b → (TJ9 a).2.1 ≠ (TJ9 b).2.1 := by decide +kernel
theorem tyJ9_ok : ∀ k, k < 0 → parseFieldDescriptor (TJ9 k).2.2.1 = some (tyJ9 k) := by decide +kernel
abbrev cJ9_max_7cf53 : ByteArray := prog_15_method_65_code
def yJ9_max_7cf53 : MethodName := ⟨RJ9, "max", "(II)I"⟩
abbrev cJ9_max_f86c9 : ByteArray := prog_15_method_66_code
def yJ9_max_f86c9 : MethodName := ⟨RJ9, "max", "(JJ)J"⟩
abbrev cJ9_min_7cf53 : ByteArray := prog_15_method_69_code
def yJ9_min_7cf53 : MethodName := ⟨RJ9, "min", "(II)I"⟩
abbrev cJ9_min_f86c9 : ByteArray := prog_15_method_70_code
def yJ9_min_f86c9 : MethodName := ⟨RJ9, "min", "(JJ)J"⟩
def RJ0 : String := "java/lang/String"
def TJ0 : u_T := fun k => match k with
  | _ => ("", "", "", false)
def tyJ0 : Nat → FieldType := fun k => match k with
  | _ => .int
abbrev wsJ00 : List Cond := u_ws RJ0 TJ0 0
theorem nmJ0 : ∀ a, a < 0 → ∀ b, b < 0 → a ≠ b → (TJ0 a).2.1 ≠ (TJ0 b).2.1 := by decide +kernel
theorem tyJ0_ok : ∀ k, k < 0 → parseFieldDescriptor (TJ0 k).2.2.1 = some (tyJ0 k) := by decide +kernel
def RJ10 : String := "java/lang/System"
def TJ10 : u_T := fun k => match k with
  | _ => ("", "", "", false)
def tyJ10 : Nat → FieldType := fun k => match k with
  | _ => .int
abbrev wsJ100 : List Cond := u_ws RJ10 TJ10 0
theorem nmJ10 : ∀ a, a < 0 → ∀ b, b < 0 → a ≠ b → (TJ10 a).2.1 ≠ (TJ10 b).2.1 := by decide +kernel
theorem tyJ10_ok : ∀ k, k < 0 → parseFieldDescriptor (TJ10 k).2.2.1 = some (tyJ10 k) := by decide +kernel
def RJxa1e45 : String := "java/util/AbstractCollection"
def TJxa1e45 : u_T := fun k => match k with
  | _ => ("", "", "", false)
def tyJxa1e45 : Nat → FieldType := fun k => match k with
  | _ => .int
abbrev wsJxa1e450 : List Cond := u_ws RJxa1e45 TJxa1e45 0
theorem nmJxa1e45 : ∀ a, a < 0 → ∀ b, b < 0 → a ≠ b → (TJxa1e45 a).2.1 ≠ (TJxa1e45 b).2.1 := by decide +kernel
theorem tyJxa1e45_ok : ∀ k, k < 0 → parseFieldDescriptor (TJxa1e45 k).2.2.1 = some (tyJxa1e45 k) := by decide +kernel
abbrev cJxa1e45_init_da8c8 : ByteArray := prog_20_method_1_code
def yJxa1e45_init_da8c8 : MethodName := ⟨RJxa1e45, "<init>", "()V"⟩
def RJxc12de : String := "java/util/AbstractList"
def TJxc12de : u_T := fun k => match k with
  | _ => ("", "", "", false)
def tyJxc12de : Nat → FieldType := fun k => match k with
  | _ => .int
abbrev wsJxc12de0 : List Cond := u_ws RJxc12de TJxc12de 0
theorem nmJxc12de : ∀ a, a < 0 → ∀ b, b < 0 → a ≠ b → (TJxc12de a).2.1 ≠ (TJxc12de b).2.1 := by decide +kernel
theorem tyJxc12de_ok : ∀ k, k < 0 → parseFieldDescriptor (TJxc12de k).2.2.1 = some (tyJxc12de k) := by decide +kernel
abbrev cJxc12de_init_da8c8 : ByteArray := prog_21_method_1_code
def yJxc12de_init_da8c8 : MethodName := ⟨RJxc12de, "<init>", "()V"⟩
def RJx4a65c : String := "java/util/ArrayList"
def TJx4a65c : u_T := fun k => match k with
  | 0 => ("java/util/AbstractList", "modCount", "I", false)
  | 1 => ("java/util/ArrayList", "elementData", "[Ljava/lang/Object;", false)
  | _ => ("java/util/ArrayList", "size", "I", false)
def tyJx4a65c : Nat → FieldType := fun k => match k with
  | 0 => .int
  | 1 => .array (.object "java/lang/Object")
  | _ => .int
abbrev wsJx4a65c0 : List Cond := u_ws RJx4a65c TJx4a65c 3
theorem nmJx4a65c : ∀ a, a < 3 → ∀ b, b < 3 → a ≠ b → (TJx4a65c a).2.1 ≠ (TJx4a65c b).2.1 := by decide +kernel
theorem tyJx4a65c_ok : ∀ k, k < 3 → parseFieldDescriptor (TJx4a65c k).2.2.1 = some (tyJx4a65c k) := by decide +kernel
abbrev cJx4a65c_init_da8c8 : ByteArray := prog_22_method_2_code
def yJx4a65c_init_da8c8 : MethodName := ⟨RJx4a65c, "<init>", "()V"⟩
abbrev cJx4a65c_grow_92f84 : ByteArray := prog_22_method_6_code
def yJx4a65c_grow_92f84 : MethodName := ⟨RJx4a65c, "grow", "(I)[Ljava/lang/Object;"⟩
abbrev cJx4a65c_grow_d5877 : ByteArray := prog_22_method_7_code
def yJx4a65c_grow_d5877 : MethodName := ⟨RJx4a65c, "grow", "()[Ljava/lang/Object;"⟩
abbrev cJx4a65c_size_8abf5 : ByteArray := prog_22_method_8_code
def yJx4a65c_size_8abf5 : MethodName := ⟨RJx4a65c, "size", "()I"⟩
abbrev cJx4a65c_elementData_915e3 : ByteArray := prog_22_method_18_code
def yJx4a65c_elementData_915e3 : MethodName := ⟨RJx4a65c, "elementData", "(I)Ljava/lang/Object;"⟩
abbrev cJx4a65c_get_915e3 : ByteArray := prog_22_method_20_code
def yJx4a65c_get_915e3 : MethodName := ⟨RJx4a65c, "get", "(I)Ljava/lang/Object;"⟩
abbrev cJx4a65c_add_72be8 : ByteArray := prog_22_method_24_code
def yJx4a65c_add_72be8 : MethodName := ⟨RJx4a65c, "add", "(Ljava/lang/Object;[Ljava/lang/Object;I)V"⟩
abbrev cJx4a65c_add_9ea2d : ByteArray := prog_22_method_25_code
def yJx4a65c_add_9ea2d : MethodName := ⟨RJx4a65c, "add", "(Ljava/lang/Object;)Z"⟩
def RJ7 : String := "java/util/Arrays"
def TJ7 : u_T := fun k => match k with
  | _ => ("", "", "", false)
def tyJ7 : Nat → FieldType := fun k => match k with
  | _ => .int
abbrev wsJ70 : List Cond := u_ws RJ7 TJ7 0
theorem nmJ7 : ∀ a, a < 0 → ∀ b, b < 0 → a ≠ b → (TJ7 a).2.1 ≠ (TJ7 b).2.1 := by decide +kernel
theorem tyJ7_ok : ∀ k, k < 0 → parseFieldDescriptor (TJ7 k).2.2.1 = some (tyJ7 k) := by decide +kernel
abbrev cJ7_copyOf_1904c : ByteArray := prog_23_method_119_code
def yJ7_copyOf_1904c : MethodName := ⟨RJ7, "copyOf", "([Ljava/lang/Object;I)[Ljava/lang/Object;"⟩
abbrev cJ7_copyOf_6403c : ByteArray := prog_23_method_120_code
def yJ7_copyOf_6403c : MethodName := ⟨RJ7, "copyOf", "([Ljava/lang/Object;ILjava/lang/Class;)[Ljava/lang/Object;"⟩
def RJx5ef63 : String := "java/util/Collection"
def TJx5ef63 : u_T := fun k => match k with
  | _ => ("", "", "", false)
def tyJx5ef63 : Nat → FieldType := fun k => match k with
  | _ => .int
abbrev wsJx5ef630 : List Cond := u_ws RJx5ef63 TJx5ef63 0
theorem nmJx5ef63 : ∀ a, a < 0 → ∀ b, b < 0 → a ≠ b → (TJx5ef63 a).2.1 ≠ (TJx5ef63 b).2.1 := by decide +kernel
theorem tyJx5ef63_ok : ∀ k, k < 0 → parseFieldDescriptor (TJx5ef63 k).2.2.1 = some (tyJx5ef63 k) := by decide +kernel
def RJxbd725 : String := "java/util/List"
def TJxbd725 : u_T := fun k => match k with
  | _ => ("", "", "", false)
def tyJxbd725 : Nat → FieldType := fun k => match k with
  | _ => .int
abbrev wsJxbd7250 : List Cond := u_ws RJxbd725 TJxbd725 0
theorem nmJxbd725 : ∀ a, a < 0 → ∀ b, b < 0 → a ≠ b → (TJxbd725 a).2.1 ≠ (TJxbd725 b).2.1 := by decide +kernel
theorem tyJxbd725_ok : ∀ k, k < 0 → parseFieldDescriptor (TJxbd725 k).2.2.1 = some (tyJxbd725 k) := by decide +kernel
def RJ15 : String := "java/util/Objects"
def TJ15 : u_T := fun k => match k with
  | _ => ("", "", "", false)
def tyJ15 : Nat → FieldType := fun k => match k with
  | _ => .int
abbrev wsJ150 : List Cond := u_ws RJ15 TJ15 0
theorem nmJ15 : ∀ a, a < 0 → ∀ b, b < 0 → a ≠ b → (TJ15 a).2.1 ≠ (TJ15 b).2.1 := by decide +kernel
theorem tyJ15_ok : ∀ k, k < 0 → parseFieldDescriptor (TJ15 k).2.2.1 = some (tyJ15 k) := by decide +kernel
abbrev cJ15_checkIndex_7cf53 : ByteArray := prog_26_method_17_code
def yJ15_checkIndex_7cf53 : MethodName := ⟨RJ15, "checkIndex", "(II)I"⟩
def RJxf0a74 : String := "java/util/RandomAccess"
def TJxf0a74 : u_T := fun k => match k with
  | _ => ("", "", "", false)
def tyJxf0a74 : Nat → FieldType := fun k => match k with
  | _ => .int
abbrev wsJxf0a740 : List Cond := u_ws RJxf0a74 TJxf0a74 0
theorem nmJxf0a74 : ∀ a, a < 0 → ∀ b, b < 0 → a ≠ b → (TJxf0a74 a).2.1 ≠ (TJxf0a74 b).2.1 := by decide +kernel
theorem tyJxf0a74_ok : ∀ k, k < 0 → parseFieldDescriptor (TJxf0a74 k).2.2.1 = some (tyJxf0a74 k) := by decide +kernel
def RJxa66e6 : String := "java/util/SequencedCollection"
def TJxa66e6 : u_T := fun k => match k with
  | _ => ("", "", "", false)
def tyJxa66e6 : Nat → FieldType := fun k => match k with
  | _ => .int
abbrev wsJxa66e60 : List Cond := u_ws RJxa66e6 TJxa66e6 0
theorem nmJxa66e6 : ∀ a, a < 0 → ∀ b, b < 0 → a ≠ b → (TJxa66e6 a).2.1 ≠ (TJxa66e6 b).2.1 := by decide +kernel
theorem tyJxa66e6_ok : ∀ k, k < 0 → parseFieldDescriptor (TJxa66e6 k).2.2.1 = some (tyJxa66e6 k) := by decide +kernel
def RJ8 : String := "jdk/internal/util/ArraysSupport"
def TJ8 : u_T := fun k => match k with
  | _ => ("", "", "", false)
def tyJ8 : Nat → FieldType := fun k => match k with
  | _ => .int
abbrev wsJ80 : List Cond := u_ws RJ8 TJ8 0
theorem nmJ8 : ∀ a, a < 0 → ∀ b, b < 0 → a ≠ b → (TJ8 a).2.1 ≠ (TJ8 b).2.1 := by decide +kernel
theorem tyJ8_ok : ∀ k, k < 0 → parseFieldDescriptor (TJ8 k).2.2.1 = some (tyJ8 k) := by decide +kernel
abbrev cJ8_newLength_cabcc : ByteArray := prog_29_method_27_code
def yJ8_newLength_cabcc : MethodName := ⟨RJ8, "newLength", "(III)I"⟩
abbrev cJ8_hugeLength_7cf53 : ByteArray := prog_29_method_28_code
def yJ8_hugeLength_7cf53 : MethodName := ⟨RJ8, "hugeLength", "(II)I"⟩
def RJ3 : String := "jdk/internal/util/Preconditions"
def TJ3 : u_T := fun k => match k with
  | _ => ("", "", "", false)
def tyJ3 : Nat → FieldType := fun k => match k with
  | _ => .int
abbrev wsJ30 : List Cond := u_ws RJ3 TJ3 0
theorem nmJ3 : ∀ a, a < 0 → ∀ b, b < 0 → a ≠ b → (TJ3 a).2.1 ≠ (TJ3 b).2.1 := by decide +kernel
theorem tyJ3_ok : ∀ k, k < 0 → parseFieldDescriptor (TJ3 k).2.2.1 = some (tyJ3 k) := by decide +kernel
abbrev cJ3_checkIndex_8e157 : ByteArray := prog_30_method_11_code
def yJ3_checkIndex_8e157 : MethodName := ⟨RJ3, "checkIndex", "(IILjava/util/function/BiFunction;)I"⟩
def RL : String := "BidwhistleLaw"
abbrev cL_step : ByteArray := method_3_code
def yL_step : MethodName := ⟨RL, "step", "(LBidwhistle;I[J)I"⟩
abbrev cL_store : ByteArray := method_4_code
def yL_store : MethodName := ⟨RL, "store", "(LBidwhistle;[J)I"⟩
abbrev cL_bid : ByteArray := method_5_code
def yL_bid : MethodName := ⟨RL, "bid", "(LBidwhistle;II[J)I"⟩
abbrev cL_alike : ByteArray := method_6_code
def yL_alike : MethodName := ⟨RL, "alike", "(LBidwhistle;I[J)I"⟩
abbrev cL_parent : ByteArray := method_7_code
def yL_parent : MethodName := ⟨RL, "parent", "(LBidwhistle;IZ[J)I"⟩
abbrev cL_join : ByteArray := method_8_code
def yL_join : MethodName := ⟨RL, "join", "(LBidwhistle;I[J)I"⟩
abbrev cL_leave : ByteArray := method_9_code
def yL_leave : MethodName := ⟨RL, "leave", "(LBidwhistle;I[J)I"⟩
abbrev cL_isIn : ByteArray := method_10_code
def yL_isIn : MethodName := ⟨RL, "isIn", "(LBidwhistle;I[J)I"⟩
abbrev cL_forbid : ByteArray := method_11_code
def yL_forbid : MethodName := ⟨RL, "forbid", "(LBidwhistle;I[J)I"⟩
abbrev cL_allow : ByteArray := method_12_code
def yL_allow : MethodName := ⟨RL, "allow", "(LBidwhistle;I[J)I"⟩
abbrev cL_tell : ByteArray := method_13_code
def yL_tell : MethodName := ⟨RL, "tell", "(LBidwhistle;II[J)I"⟩
abbrev cL_profit : ByteArray := method_14_code
def yL_profit : MethodName := ⟨RL, "profit", "(LBidwhistle;IIIII[J)I"⟩
abbrev cL_worth : ByteArray := method_15_code
def yL_worth : MethodName := ⟨RL, "worth", "(LBidwhistle;II[J)I"⟩
abbrev cL_worthByValues : ByteArray := method_16_code
def yL_worthByValues : MethodName := ⟨RL, "worthByValues", "(LBidwhistle;II[J)I"⟩
abbrev cL_best : ByteArray := method_17_code
def yL_best : MethodName := ⟨RL, "best", "(LBidwhistle;I[J)I"⟩
abbrev cL_evolve : ByteArray := method_18_code
def yL_evolve : MethodName := ⟨RL, "evolve", "(LBidwhistle;I[J)I"⟩
abbrev cL_law : ByteArray := code
def yL_law : MethodName := ⟨RL, "law", "([I)Z"⟩
def wsX1_init : List Cond := .code yX1_init cX1_init 2 none :: ([.methodLink RX1 1 objectInit, .instanceMethod objectInit, .code objectInit ⟨#[0xb1]⟩ 1 none, .methodLink RX1 7 Lib.Math.max.name, .static Lib.Math.max.name, .initialized "java/lang/Math", .code Lib.Math.max.name Lib.Math.max.code 2 (some .int), .arrayClass .int, .fieldLink RX1 13 "Bidwhistle$Row" "numbers" "[I"] ++ wsX10)
def wsX0_init : List Cond := .code yX0_init cX0_init 1 none :: ([.methodLink RX0 3 objectInit, .instanceMethod objectInit, .code objectInit ⟨#[0xb1]⟩ 1 none, .classLink RX0 9 RX1, .instantiable RX1 1, .initialized RX1, .fieldLink RX0 14 "Bidwhistle$Program" "steps" "LBidwhistle$Row;", .fieldLink RX0 20 "Bidwhistle$Program" "length" "I", .fieldLink RX0 24 "Bidwhistle$Program" "stepBits" "I", .methodLink RX0 11 yX1_init, .instanceMethod yX1_init, .code yX1_init cX1_init 2 none, .methodLink RX1 1 objectInit, .methodLink RX1 7 Lib.Math.max.name, .static Lib.Math.max.name, .initialized "java/lang/Math", .code Lib.Math.max.name Lib.Math.max.code 2 (some .int), .arrayClass .int, .fieldLink RX1 13 "Bidwhistle$Row" "numbers" "[I"] ++ wsX10 ++ wsX00)
def wsX0_length : List Cond := .code yX0_length cX0_length 1 (some .int) :: ([.fieldLink RX0 20 "Bidwhistle$Program" "length" "I"] ++ wsX00)
def wsX0_isFull : List Cond := .code yX0_isFull cX0_isFull 1 (some .boolean) :: ([.fieldLink RX0 20 "Bidwhistle$Program" "length" "I"] ++ wsX00)
def wsX0_empty : List Cond := .code yX0_empty cX0_empty 1 none :: ([.fieldLink RX0 20 "Bidwhistle$Program" "length" "I", .fieldLink RX0 24 "Bidwhistle$Program" "stepBits" "I"] ++ wsX00)
def wsX1_put : List Cond := .code yX1_put cX1_put 3 none :: ([.fieldLink RX1 13 "Bidwhistle$Row" "numbers" "[I"] ++ wsX10)
def wsX4_bitOf : List Cond := .code yX4_bitOf cX4_bitOf 1 (some .int) :: ([])
def wsX0_add : List Cond := .code yX0_add cX0_add 2 none :: ([.fieldLink RX0 20 "Bidwhistle$Program" "length" "I", .fieldLink RX0 14 "Bidwhistle$Program" "steps" "LBidwhistle$Row;", .fieldLink RX0 24 "Bidwhistle$Program" "stepBits" "I", .methodLink RX0 27 yX1_put, .instanceMethod yX1_put, .selects RX1 yX1_put yX1_put, .initialized RX1, .code yX1_put cX1_put 3 none, .fieldLink RX1 13 "Bidwhistle$Row" "numbers" "[I", .static yX4_bitOf, .initialized RX4, .code yX4_bitOf cX4_bitOf 1 (some .int)] ++ wsX00 ++ wsX10)
def wsX1_at : List Cond := .code yX1_at cX1_at 2 (some .int) :: ([.fieldLink RX1 13 "Bidwhistle$Row" "numbers" "[I"] ++ wsX10)
def wsX0_addPart : List Cond := .code yX0_addPart cX0_addPart 5 none :: ([.fieldLink RX0 14 "Bidwhistle$Program" "steps" "LBidwhistle$Row;", .methodLink RX0 35 yX1_at, .instanceMethod yX1_at, .selects RX1 yX1_at yX1_at, .initialized RX1, .code yX1_at cX1_at 2 (some .int), .fieldLink RX1 13 "Bidwhistle$Row" "numbers" "[I", .methodLink RX0 38 yX0_add, .instanceMethod yX0_add, .selects RX0 yX0_add yX0_add, .initialized RX0, .code yX0_add cX0_add 2 none, .fieldLink RX0 20 "Bidwhistle$Program" "length" "I", .fieldLink RX0 24 "Bidwhistle$Program" "stepBits" "I", .methodLink RX0 27 yX1_put, .instanceMethod yX1_put, .selects RX1 yX1_put yX1_put, .code yX1_put cX1_put 3 none, .static yX4_bitOf, .initialized RX4, .code yX4_bitOf cX4_bitOf 1 (some .int)] ++ wsX00 ++ wsX10)
def wsX0_copy_r1 : List Cond := [Cond.classLink RX0 15 RX0, Cond.instantiable RX0 3, Cond.initialized RX0, Cond.fieldLink RX0 20 "Bidwhistle$Program" "length" "I", Cond.methodLink RX0 41 yX0_init, Cond.instanceMethod yX0_init, Cond.code yX0_init cX0_init 1 none, Cond.methodLink RX0 3 objectInit, Cond.instanceMethod objectInit, Cond.code objectInit ⟨#[0xb1]⟩ 1 none, Cond.classLink RX0 9 RX1, Cond.instantiable RX1 1, Cond.initialized RX1, Cond.fieldLink RX0 14 "Bidwhistle$Program" "steps" "LBidwhistle$Row;", Cond.fieldLink RX0 24 "Bidwhistle$Program" "stepBits" "I", Cond.methodLink RX0 11 yX1_init, Cond.instanceMethod yX1_init, Cond.code yX1_init cX1_init 2 none, Cond.methodLink RX1 1 objectInit, Cond.methodLink RX1 7 Lib.Math.max.name, Cond.static Lib.Math.max.name, Cond.initialized "java/lang/Math", Cond.code Lib.Math.max.name Lib.Math.max.code 2 (some .int), Cond.arrayClass .int]
def wsX0_copy_r2 : List Cond := [Cond.fieldLink RX1 13 "Bidwhistle$Row" "numbers" "[I", Cond.methodLink RX0 42 yX0_addPart, Cond.instanceMethod yX0_addPart, Cond.selects RX0 yX0_addPart yX0_addPart, Cond.code yX0_addPart cX0_addPart 5 none, Cond.methodLink RX0 35 yX1_at, Cond.instanceMethod yX1_at, Cond.selects RX1 yX1_at yX1_at, Cond.code yX1_at cX1_at 2 (some .int), Cond.methodLink RX0 38 yX0_add, Cond.instanceMethod yX0_add, Cond.selects RX0 yX0_add yX0_add, Cond.code yX0_add cX0_add 2 none, Cond.methodLink RX0 27 yX1_put, Cond.instanceMethod yX1_put, Cond.selects RX1 yX1_put yX1_put, Cond.code yX1_put cX1_put 3 none, Cond.static yX4_bitOf, Cond.initialized RX4, Cond.code yX4_bitOf cX4_bitOf 1 (some .int)]
def wsX0_copy : List Cond := .code yX0_copy cX0_copy 2 (some (.object "Bidwhistle$Program")) :: ((wsX0_copy_r1 ++ wsX0_copy_r2) ++ wsX00 ++ wsX10)
def wsX0_isSameAs : List Cond := .code yX0_isSameAs cX0_isSameAs 3 (some .boolean) :: ([.fieldLink RX0 20 "Bidwhistle$Program" "length" "I", .fieldLink RX0 14 "Bidwhistle$Program" "steps" "LBidwhistle$Row;", .methodLink RX0 35 yX1_at, .instanceMethod yX1_at, .selects RX1 yX1_at yX1_at, .initialized RX1, .code yX1_at cX1_at 2 (some .int), .fieldLink RX1 13 "Bidwhistle$Row" "numbers" "[I"] ++ wsX00 ++ wsX10)
def wsX0_hasAnyOf : List Cond := .code yX0_hasAnyOf cX0_hasAnyOf 2 (some .boolean) :: ([.fieldLink RX0 24 "Bidwhistle$Program" "stepBits" "I"] ++ wsX00)
def wsX0_isRight : List Cond := .code yX0_isRight cX0_isRight 3 (some .boolean) :: ([.fieldLink RX0 20 "Bidwhistle$Program" "length" "I", .fieldLink RX0 14 "Bidwhistle$Program" "steps" "LBidwhistle$Row;", .methodLink RX0 35 yX1_at, .instanceMethod yX1_at, .selects RX1 yX1_at yX1_at, .initialized RX1, .code yX1_at cX1_at 2 (some .int), .fieldLink RX1 13 "Bidwhistle$Row" "numbers" "[I"] ++ wsX00 ++ wsX10)
def wsX2_empty : List Cond := .code yX2_empty cX2_empty 1 none :: ([.fieldLink RX2 20 "Bidwhistle$Stack" "depth" "I"] ++ wsX20)
def wsX2_push : List Cond := .code yX2_push cX2_push 3 none :: ([.fieldLink RX2 20 "Bidwhistle$Stack" "depth" "I", .fieldLink RX2 14 "Bidwhistle$Stack" "numbers" "LBidwhistle$Row;", .constantLong RX2 24 (-100000), .constantLong RX2 26 (100000), .methodLink RX2 28 Lib.MathLoose.min_long.x, .static Lib.MathLoose.min_long.x, .initialized "java/lang/Math", .code Lib.MathLoose.min_long.x Lib.MathLoose.min_long.code 4 (some .long), .methodLink RX2 34 Lib.MathLoose.max_long.x, .static Lib.MathLoose.max_long.x, .code Lib.MathLoose.max_long.x Lib.MathLoose.max_long.code 4 (some .long), .methodLink RX2 37 yX1_put, .instanceMethod yX1_put, .selects RX1 yX1_put yX1_put, .initialized RX1, .code yX1_put cX1_put 3 none, .fieldLink RX1 13 "Bidwhistle$Row" "numbers" "[I"] ++ wsX20 ++ wsX10)
def wsX2_pop : List Cond := .code yX2_pop cX2_pop 1 (some .int) :: ([.fieldLink RX2 20 "Bidwhistle$Stack" "depth" "I", .fieldLink RX2 14 "Bidwhistle$Stack" "numbers" "LBidwhistle$Row;", .methodLink RX2 41 yX1_at, .instanceMethod yX1_at, .selects RX1 yX1_at yX1_at, .initialized RX1, .code yX1_at cX1_at 2 (some .int), .fieldLink RX1 13 "Bidwhistle$Row" "numbers" "[I"] ++ wsX20 ++ wsX10)
def wsX0_resultOf : List Cond := .code yX0_resultOf cX0_resultOf 5 (some .long) :: ([.methodLink RX0 76 Lib.MathLoose.min_long.x, .static Lib.MathLoose.min_long.x, .initialized "java/lang/Math", .code Lib.MathLoose.min_long.x Lib.MathLoose.min_long.code 4 (some .long), .methodLink RX0 79 Lib.MathLoose.max_long.x, .static Lib.MathLoose.max_long.x, .code Lib.MathLoose.max_long.x Lib.MathLoose.max_long.code 4 (some .long)])
def wsX0_perform_r1 : List Cond := [Cond.methodLink RX0 68 yX2_push, Cond.instanceMethod yX2_push, Cond.selects RX2 yX2_push yX2_push, Cond.initialized RX2, Cond.code yX2_push cX2_push 3 none, Cond.fieldLink RX2 20 "Bidwhistle$Stack" "depth" "I", Cond.fieldLink RX2 14 "Bidwhistle$Stack" "numbers" "LBidwhistle$Row;", Cond.constantLong RX2 24 (-100000), Cond.constantLong RX2 26 (100000), Cond.methodLink RX2 28 Lib.MathLoose.min_long.x, Cond.static Lib.MathLoose.min_long.x, Cond.initialized "java/lang/Math", Cond.code Lib.MathLoose.min_long.x Lib.MathLoose.min_long.code 4 (some .long), Cond.methodLink RX2 34 Lib.MathLoose.max_long.x, Cond.static Lib.MathLoose.max_long.x, Cond.code Lib.MathLoose.max_long.x Lib.MathLoose.max_long.code 4 (some .long), Cond.methodLink RX2 37 yX1_put, Cond.instanceMethod yX1_put, Cond.selects RX1 yX1_put yX1_put, Cond.initialized RX1, Cond.code yX1_put cX1_put 3 none, Cond.fieldLink RX1 13 "Bidwhistle$Row" "numbers" "[I", Cond.methodLink RX0 55 yX2_pop, Cond.instanceMethod yX2_pop]
def wsX0_perform_r2 : List Cond := [Cond.selects RX2 yX2_pop yX2_pop, Cond.code yX2_pop cX2_pop 1 (some .int), Cond.methodLink RX2 41 yX1_at, Cond.instanceMethod yX1_at, Cond.selects RX1 yX1_at yX1_at, Cond.code yX1_at cX1_at 2 (some .int), Cond.methodLink RX0 72 yX0_resultOf, Cond.static yX0_resultOf, Cond.initialized RX0, Cond.code yX0_resultOf cX0_resultOf 5 (some .long), Cond.methodLink RX0 76 Lib.MathLoose.min_long.x, Cond.methodLink RX0 79 Lib.MathLoose.max_long.x]
def wsX0_perform : List Cond := .code yX0_perform cX0_perform 7 none :: ((wsX0_perform_r1 ++ wsX0_perform_r2) ++ wsX20 ++ wsX10)
def wsX0_bidFor_r1 : List Cond := [Cond.fieldLink RX0 20 "Bidwhistle$Program" "length" "I", Cond.fieldLink RX0 14 "Bidwhistle$Program" "steps" "LBidwhistle$Row;", Cond.methodLink RX0 59 Lib.Math.min.name, Cond.static Lib.Math.min.name, Cond.initialized "java/lang/Math", Cond.code Lib.Math.min.name Lib.Math.min.code 2 (some .int), Cond.methodLink RX0 65 Lib.Math.max.name, Cond.static Lib.Math.max.name, Cond.code Lib.Math.max.name Lib.Math.max.code 2 (some .int), Cond.methodLink RX0 46 yX2_empty, Cond.instanceMethod yX2_empty, Cond.selects RX2 yX2_empty yX2_empty, Cond.initialized RX2, Cond.code yX2_empty cX2_empty 1 none, Cond.fieldLink RX2 20 "Bidwhistle$Stack" "depth" "I", Cond.methodLink RX0 35 yX1_at, Cond.instanceMethod yX1_at, Cond.selects RX1 yX1_at yX1_at, Cond.initialized RX1, Cond.code yX1_at cX1_at 2 (some .int), Cond.fieldLink RX1 13 "Bidwhistle$Row" "numbers" "[I", Cond.methodLink RX0 51 yX0_perform, Cond.static yX0_perform, Cond.initialized RX0]
def wsX0_bidFor_r2 : List Cond := [Cond.code yX0_perform cX0_perform 7 none, Cond.methodLink RX0 68 yX2_push, Cond.instanceMethod yX2_push, Cond.selects RX2 yX2_push yX2_push, Cond.code yX2_push cX2_push 3 none, Cond.fieldLink RX2 14 "Bidwhistle$Stack" "numbers" "LBidwhistle$Row;", Cond.constantLong RX2 24 (-100000), Cond.constantLong RX2 26 (100000), Cond.methodLink RX2 28 Lib.MathLoose.min_long.x, Cond.static Lib.MathLoose.min_long.x, Cond.code Lib.MathLoose.min_long.x Lib.MathLoose.min_long.code 4 (some .long), Cond.methodLink RX2 34 Lib.MathLoose.max_long.x, Cond.static Lib.MathLoose.max_long.x, Cond.code Lib.MathLoose.max_long.x Lib.MathLoose.max_long.code 4 (some .long), Cond.methodLink RX2 37 yX1_put, Cond.instanceMethod yX1_put, Cond.selects RX1 yX1_put yX1_put, Cond.code yX1_put cX1_put 3 none, Cond.methodLink RX0 55 yX2_pop, Cond.instanceMethod yX2_pop, Cond.selects RX2 yX2_pop yX2_pop, Cond.code yX2_pop cX2_pop 1 (some .int), Cond.methodLink RX2 41 yX1_at, Cond.methodLink RX0 72 yX0_resultOf]
def wsX0_bidFor_r3 : List Cond := [Cond.static yX0_resultOf, Cond.code yX0_resultOf cX0_resultOf 5 (some .long), Cond.methodLink RX0 76 Lib.MathLoose.min_long.x, Cond.methodLink RX0 79 Lib.MathLoose.max_long.x]
def wsX0_bidFor : List Cond := .code yX0_bidFor cX0_bidFor 4 (some .int) :: ((wsX0_bidFor_r1 ++ (wsX0_bidFor_r2 ++ wsX0_bidFor_r3)) ++ wsX00 ++ wsX20 ++ wsX10)
def wsX1_isSameAs : List Cond := .code yX1_isSameAs cX1_isSameAs 3 (some .boolean) :: ([.fieldLink RX1 13 "Bidwhistle$Row" "numbers" "[I", .methodLink RX1 19 yX1_at, .instanceMethod yX1_at, .selects RX1 yX1_at yX1_at, .initialized RX1, .code yX1_at cX1_at 2 (some .int)] ++ wsX10)
def wsX2_init : List Cond := .code yX2_init cX2_init 1 none :: ([.methodLink RX2 3 objectInit, .instanceMethod objectInit, .code objectInit ⟨#[0xb1]⟩ 1 none, .classLink RX2 9 RX1, .instantiable RX1 1, .initialized RX1, .fieldLink RX2 14 "Bidwhistle$Stack" "numbers" "LBidwhistle$Row;", .fieldLink RX2 20 "Bidwhistle$Stack" "depth" "I", .methodLink RX2 11 yX1_init, .instanceMethod yX1_init, .code yX1_init cX1_init 2 none, .methodLink RX1 1 objectInit, .methodLink RX1 7 Lib.Math.max.name, .static Lib.Math.max.name, .initialized "java/lang/Math", .code Lib.Math.max.name Lib.Math.max.code 2 (some .int), .arrayClass .int, .fieldLink RX1 13 "Bidwhistle$Row" "numbers" "[I"] ++ wsX10 ++ wsX20)
def wsX3_init : List Cond := .code yX3_init cX3_init 5 none :: ([.methodLink RX3 3 objectInit, .instanceMethod objectInit, .code objectInit ⟨#[0xb1]⟩ 1 none, .classLink RX3 9 RX1, .instantiable RX1 1, .initialized RX1, .fieldLink RX3 14 "Bidwhistle$Strategy" "bids" "LBidwhistle$Row;", .fieldLink RX3 20 "Bidwhistle$Strategy" "stepsOfLine" "I", .fieldLink RX3 24 "Bidwhistle$Strategy" "kind" "I", .fieldLink RX3 27 "Bidwhistle$Strategy" "inPool" "Z", .fieldLink RX3 31 "Bidwhistle$Strategy" "number" "I", .fieldLink RX3 34 "Bidwhistle$Strategy" "program" "LBidwhistle$Program;", .fieldLink RX3 38 "Bidwhistle$Strategy" "firstParent" "I", .fieldLink RX3 41 "Bidwhistle$Strategy" "secondParent" "I", .methodLink RX3 11 yX1_init, .instanceMethod yX1_init, .code yX1_init cX1_init 2 none, .methodLink RX1 1 objectInit, .methodLink RX1 7 Lib.Math.max.name, .static Lib.Math.max.name, .initialized "java/lang/Math", .code Lib.Math.max.name Lib.Math.max.code 2 (some .int), .arrayClass .int, .fieldLink RX1 13 "Bidwhistle$Row" "numbers" "[I"] ++ wsX10 ++ wsX30)
def wsX3_bidFor : List Cond := .code yX3_bidFor cX3_bidFor 2 (some .int) :: ([.fieldLink RX3 14 "Bidwhistle$Strategy" "bids" "LBidwhistle$Row;", .methodLink RX3 44 yX1_at, .instanceMethod yX1_at, .selects RX1 yX1_at yX1_at, .initialized RX1, .code yX1_at cX1_at 2 (some .int), .fieldLink RX1 13 "Bidwhistle$Row" "numbers" "[I"] ++ wsX30 ++ wsX10)
def wsJxa1e45_init_da8c8 : List Cond := .code yJxa1e45_init_da8c8 cJxa1e45_init_da8c8 1 none :: ([.methodLink RJxa1e45 1 objectInit, .instanceMethod objectInit, .code objectInit ⟨#[0xb1]⟩ 1 none])
def wsJxc12de_init_da8c8 : List Cond := .code yJxc12de_init_da8c8 cJxc12de_init_da8c8 1 none :: ([.fieldLink RJxc12de 7 "java/util/AbstractList" "modCount" "I", .methodLink RJxc12de 1 yJxa1e45_init_da8c8, .instanceMethod yJxa1e45_init_da8c8, .initialized RJxa1e45, .code yJxa1e45_init_da8c8 cJxa1e45_init_da8c8 1 none, .methodLink RJxa1e45 1 objectInit, .instanceMethod objectInit, .code objectInit ⟨#[0xb1]⟩ 1 none] ++ wsJx4a65c0)
def wsJx4a65c_init_da8c8 : List Cond := .code yJx4a65c_init_da8c8 cJx4a65c_init_da8c8 1 none :: ([.fieldLink RJx4a65c 39 "java/util/ArrayList" "DEFAULTCAPACITY_EMPTY_ELEMENTDATA" "[Ljava/lang/Object;", .fieldLink RJx4a65c 9 "java/util/ArrayList" "elementData" "[Ljava/lang/Object;", .methodLink RJx4a65c 1 yJxc12de_init_da8c8, .instanceMethod yJxc12de_init_da8c8, .initialized RJxc12de, .code yJxc12de_init_da8c8 cJxc12de_init_da8c8 1 none, .fieldLink RJxc12de 7 "java/util/AbstractList" "modCount" "I", .methodLink RJxc12de 1 yJxa1e45_init_da8c8, .instanceMethod yJxa1e45_init_da8c8, .initialized RJxa1e45, .code yJxa1e45_init_da8c8 cJxa1e45_init_da8c8 1 none, .methodLink RJxa1e45 1 objectInit, .instanceMethod objectInit, .code objectInit ⟨#[0xb1]⟩ 1 none] ++ wsJx4a65c0)
def wsX4_init_r1 : List Cond := [Cond.methodLink RX4 1 objectInit, Cond.instanceMethod objectInit, Cond.code objectInit ⟨#[0xb1]⟩ 1 none, Cond.classLink RX4 7 RX0, Cond.instantiable RX0 3, Cond.initialized RX0, Cond.fieldLink RX4 10 "Bidwhistle" "draft" "LBidwhistle$Program;", Cond.fieldLink RX4 16 "Bidwhistle" "child" "LBidwhistle$Program;", Cond.classLink RX4 19 RX2, Cond.instantiable RX2 2, Cond.initialized RX2, Cond.fieldLink RX4 22 "Bidwhistle" "stack" "LBidwhistle$Stack;", Cond.classLink RX4 26 RJx4a65c, Cond.instantiable RJx4a65c 3, Cond.initialized RJx4a65c, Cond.fieldLink RX4 29 "Bidwhistle" "strategies" "Ljava/util/ArrayList;", Cond.fieldLink RX4 33 "Bidwhistle" "forbiddenSteps" "I", Cond.classLink RX4 37 RX1, Cond.instantiable RX1 1, Cond.initialized RX1, Cond.fieldLink RX4 42 "Bidwhistle" "firstValues" "LBidwhistle$Row;", Cond.fieldLink RX4 46 "Bidwhistle" "secondValues" "LBidwhistle$Row;", Cond.fieldLink RX4 49 "Bidwhistle" "pairsTold" "I", Cond.fieldLink RX4 52 "Bidwhistle" "bidsForFirst" "LBidwhistle$Row;"]
def wsX4_init_r2 : List Cond := [Cond.fieldLink RX4 55 "Bidwhistle" "bidsForSecond" "LBidwhistle$Row;", Cond.fieldLink RX4 58 "Bidwhistle" "worths" "LBidwhistle$Row;", Cond.instanceMethod yX0_init, Cond.code yX0_init cX0_init 1 none, Cond.methodLink RX0 3 objectInit, Cond.classLink RX0 9 RX1, Cond.fieldLink RX0 14 "Bidwhistle$Program" "steps" "LBidwhistle$Row;", Cond.fieldLink RX0 20 "Bidwhistle$Program" "length" "I", Cond.fieldLink RX0 24 "Bidwhistle$Program" "stepBits" "I", Cond.methodLink RX0 11 yX1_init, Cond.instanceMethod yX1_init, Cond.code yX1_init cX1_init 2 none, Cond.methodLink RX1 1 objectInit, Cond.methodLink RX1 7 Lib.Math.max.name, Cond.static Lib.Math.max.name, Cond.initialized "java/lang/Math", Cond.code Lib.Math.max.name Lib.Math.max.code 2 (some .int), Cond.arrayClass .int, Cond.fieldLink RX1 13 "Bidwhistle$Row" "numbers" "[I", Cond.instanceMethod yX2_init, Cond.code yX2_init cX2_init 1 none, Cond.methodLink RX2 3 objectInit, Cond.classLink RX2 9 RX1, Cond.fieldLink RX2 14 "Bidwhistle$Stack" "numbers" "LBidwhistle$Row;"]
def wsX4_init_r3 : List Cond := [Cond.fieldLink RX2 20 "Bidwhistle$Stack" "depth" "I", Cond.methodLink RX2 11 yX1_init, Cond.methodLink RX4 28 yJx4a65c_init_da8c8, Cond.instanceMethod yJx4a65c_init_da8c8, Cond.code yJx4a65c_init_da8c8 cJx4a65c_init_da8c8 1 none, Cond.fieldLink RJx4a65c 39 "java/util/ArrayList" "DEFAULTCAPACITY_EMPTY_ELEMENTDATA" "[Ljava/lang/Object;", Cond.fieldLink RJx4a65c 9 "java/util/ArrayList" "elementData" "[Ljava/lang/Object;", Cond.methodLink RJx4a65c 1 yJxc12de_init_da8c8, Cond.instanceMethod yJxc12de_init_da8c8, Cond.initialized RJxc12de, Cond.code yJxc12de_init_da8c8 cJxc12de_init_da8c8 1 none, Cond.fieldLink RJxc12de 7 "java/util/AbstractList" "modCount" "I", Cond.methodLink RJxc12de 1 yJxa1e45_init_da8c8, Cond.instanceMethod yJxa1e45_init_da8c8, Cond.initialized RJxa1e45, Cond.code yJxa1e45_init_da8c8 cJxa1e45_init_da8c8 1 none, Cond.methodLink RJxa1e45 1 objectInit, Cond.methodLink RX4 39 yX1_init]
def wsX4_init : List Cond := .code yX4_init cX4_init 1 none :: ((wsX4_init_r1 ++ (wsX4_init_r2 ++ wsX4_init_r3)) ++ wsX00 ++ wsX40 ++ wsX20 ++ wsJx4a65c0 ++ wsX10)
def wsX4_requireStep : List Cond := .code yX4_requireStep cX4_requireStep 1 none :: ([.classLink RX4 165 "java/lang/IllegalArgumentException", .initialized "java/lang/IllegalArgumentException"] ++ (vx_atS RX4 169 "java/lang/IllegalArgumentException" ["java/lang/RuntimeException", "java/lang/Exception"]).filter goodWord)
def wsX4_step_r1 : List Cond := [Cond.classLink RX4 68 "java/lang/IllegalStateException", Cond.initialized "java/lang/IllegalStateException", Cond.fieldLink RX4 10 "Bidwhistle" "draft" "LBidwhistle$Program;", Cond.methodLink RX4 61 yX4_requireStep, Cond.static yX4_requireStep, Cond.initialized RX4, Cond.code yX4_requireStep cX4_requireStep 1 none, Cond.classLink RX4 165 "java/lang/IllegalArgumentException", Cond.initialized "java/lang/IllegalArgumentException", Cond.methodLink RX4 64 yX0_isFull, Cond.instanceMethod yX0_isFull, Cond.selects RX0 yX0_isFull yX0_isFull, Cond.initialized RX0, Cond.code yX0_isFull cX0_isFull 1 (some .boolean), Cond.fieldLink RX0 20 "Bidwhistle$Program" "length" "I", Cond.methodLink RX4 75 yX0_add, Cond.instanceMethod yX0_add, Cond.selects RX0 yX0_add yX0_add, Cond.code yX0_add cX0_add 2 none, Cond.fieldLink RX0 14 "Bidwhistle$Program" "steps" "LBidwhistle$Row;", Cond.fieldLink RX0 24 "Bidwhistle$Program" "stepBits" "I", Cond.methodLink RX0 27 yX1_put, Cond.instanceMethod yX1_put, Cond.selects RX1 yX1_put yX1_put]
def wsX4_step_r2 : List Cond := [Cond.initialized RX1, Cond.code yX1_put cX1_put 3 none, Cond.fieldLink RX1 13 "Bidwhistle$Row" "numbers" "[I", Cond.static yX4_bitOf, Cond.code yX4_bitOf cX4_bitOf 1 (some .int), Cond.methodLink RX4 78 yX0_length, Cond.instanceMethod yX0_length, Cond.selects RX0 yX0_length yX0_length, Cond.code yX0_length cX0_length 1 (some .int)]
def wsX4_step : List Cond := .code yX4_step cX4_step 2 (some .int) :: ((wsX4_step_r1 ++ wsX4_step_r2) ++ wsX40 ++ wsX00 ++ wsX10 ++ (vx_atS RX4 72 "java/lang/IllegalStateException" ["java/lang/RuntimeException", "java/lang/Exception"]).filter goodWord ++ (vx_atS RX4 169 "java/lang/IllegalArgumentException" ["java/lang/RuntimeException", "java/lang/Exception"]).filter goodWord)
def wsX4_scrap : List Cond := .code yX4_scrap cX4_scrap 2 (some .int) :: ([.fieldLink RX4 10 "Bidwhistle" "draft" "LBidwhistle$Program;", .methodLink RX4 78 yX0_length, .instanceMethod yX0_length, .selects RX0 yX0_length yX0_length, .initialized RX0, .code yX0_length cX0_length 1 (some .int), .fieldLink RX0 20 "Bidwhistle$Program" "length" "I", .methodLink RX4 82 yX0_empty, .instanceMethod yX0_empty, .selects RX0 yX0_empty yX0_empty, .code yX0_empty cX0_empty 1 none, .fieldLink RX0 24 "Bidwhistle$Program" "stepBits" "I"] ++ wsX40 ++ wsX00)
def wsJx4a65c_size_8abf5 : List Cond := .code yJx4a65c_size_8abf5 cJx4a65c_size_8abf5 1 (some .int) :: ([.fieldLink RJx4a65c 48 "java/util/ArrayList" "size" "I"] ++ wsJx4a65c0)
def wsJ3_checkIndex_8e157 : List Cond := .code yJ3_checkIndex_8e157 cJ3_checkIndex_8e157 3 (some .int) :: ([])
def wsJ15_checkIndex_7cf53 : List Cond := .code yJ15_checkIndex_7cf53 cJ15_checkIndex_7cf53 2 (some .int) :: ([.methodLink RJ15 105 yJ3_checkIndex_8e157, .static yJ3_checkIndex_8e157, .initialized RJ3, .code yJ3_checkIndex_8e157 cJ3_checkIndex_8e157 3 (some .int)])
def wsJx4a65c_elementData_915e3 : List Cond := .code yJx4a65c_elementData_915e3 cJx4a65c_elementData_915e3 2 (some (.object "java/lang/Object")) :: ([.fieldLink RJx4a65c 9 "java/util/ArrayList" "elementData" "[Ljava/lang/Object;"] ++ wsJx4a65c0)
def wsJx4a65c_get_915e3 : List Cond := .code yJx4a65c_get_915e3 cJx4a65c_get_915e3 2 (some (.object "java/lang/Object")) :: ([.fieldLink RJx4a65c 48 "java/util/ArrayList" "size" "I", .methodLink RJx4a65c 118 yJ15_checkIndex_7cf53, .static yJ15_checkIndex_7cf53, .initialized RJ15, .code yJ15_checkIndex_7cf53 cJ15_checkIndex_7cf53 2 (some .int), .methodLink RJ15 105 yJ3_checkIndex_8e157, .static yJ3_checkIndex_8e157, .initialized RJ3, .code yJ3_checkIndex_8e157 cJ3_checkIndex_8e157 3 (some .int), .methodLink RJx4a65c 123 yJx4a65c_elementData_915e3, .instanceMethod yJx4a65c_elementData_915e3, .selects RJx4a65c yJx4a65c_elementData_915e3 yJx4a65c_elementData_915e3, .initialized RJx4a65c, .code yJx4a65c_elementData_915e3 cJx4a65c_elementData_915e3 2 (some (.object "java/lang/Object")), .fieldLink RJx4a65c 9 "java/util/ArrayList" "elementData" "[Ljava/lang/Object;"] ++ wsJx4a65c0)
def wsX4_numberOf_r1 : List Cond := [Cond.fieldLink RX4 29 "Bidwhistle" "strategies" "Ljava/util/ArrayList;", Cond.classLink RX4 111 "Bidwhistle$Strategy", Cond.methodLink RX4 94 yJx4a65c_size_8abf5, Cond.instanceMethod yJx4a65c_size_8abf5, Cond.selects RJx4a65c yJx4a65c_size_8abf5 yJx4a65c_size_8abf5, Cond.initialized RJx4a65c, Cond.code yJx4a65c_size_8abf5 cJx4a65c_size_8abf5 1 (some .int), Cond.fieldLink RJx4a65c 48 "java/util/ArrayList" "size" "I", Cond.methodLink RX4 119 yJx4a65c_get_915e3, Cond.instanceMethod yJx4a65c_get_915e3, Cond.selects RJx4a65c yJx4a65c_get_915e3 yJx4a65c_get_915e3, Cond.code yJx4a65c_get_915e3 cJx4a65c_get_915e3 2 (some (.object "java/lang/Object")), Cond.methodLink RJx4a65c 118 yJ15_checkIndex_7cf53, Cond.static yJ15_checkIndex_7cf53, Cond.initialized RJ15, Cond.code yJ15_checkIndex_7cf53 cJ15_checkIndex_7cf53 2 (some .int), Cond.methodLink RJ15 105 yJ3_checkIndex_8e157, Cond.static yJ3_checkIndex_8e157, Cond.initialized RJ3, Cond.code yJ3_checkIndex_8e157 cJ3_checkIndex_8e157 3 (some .int), Cond.methodLink RJx4a65c 123 yJx4a65c_elementData_915e3, Cond.instanceMethod yJx4a65c_elementData_915e3, Cond.selects RJx4a65c yJx4a65c_elementData_915e3 yJx4a65c_elementData_915e3, Cond.code yJx4a65c_elementData_915e3 cJx4a65c_elementData_915e3 2 (some (.object "java/lang/Object"))]
def wsX4_numberOf_r2 : List Cond := [Cond.fieldLink RJx4a65c 9 "java/util/ArrayList" "elementData" "[Ljava/lang/Object;", Cond.methodLink RX4 224 yX0_isSameAs, Cond.instanceMethod yX0_isSameAs, Cond.selects RX0 yX0_isSameAs yX0_isSameAs, Cond.initialized RX0, Cond.code yX0_isSameAs cX0_isSameAs 3 (some .boolean), Cond.fieldLink RX0 20 "Bidwhistle$Program" "length" "I", Cond.fieldLink RX0 14 "Bidwhistle$Program" "steps" "LBidwhistle$Row;", Cond.methodLink RX0 35 yX1_at, Cond.instanceMethod yX1_at, Cond.selects RX1 yX1_at yX1_at, Cond.initialized RX1, Cond.code yX1_at cX1_at 2 (some .int), Cond.fieldLink RX1 13 "Bidwhistle$Row" "numbers" "[I"]
def wsX4_numberOf : List Cond := .code yX4_numberOf cX4_numberOf 3 (some .int) :: ((wsX4_numberOf_r1 ++ wsX4_numberOf_r2) ++ wsX40 ++ wsX30 ++ wsJx4a65c0 ++ wsX00 ++ wsX10)
def wsX4_stepsOfLine_r1 : List Cond := [Cond.fieldLink RX4 29 "Bidwhistle" "strategies" "Ljava/util/ArrayList;", Cond.classLink RX4 111 "Bidwhistle$Strategy", Cond.methodLink RX4 94 yJx4a65c_size_8abf5, Cond.instanceMethod yJx4a65c_size_8abf5, Cond.selects RJx4a65c yJx4a65c_size_8abf5 yJx4a65c_size_8abf5, Cond.initialized RJx4a65c, Cond.code yJx4a65c_size_8abf5 cJx4a65c_size_8abf5 1 (some .int), Cond.fieldLink RJx4a65c 48 "java/util/ArrayList" "size" "I", Cond.methodLink RX4 119 yJx4a65c_get_915e3, Cond.instanceMethod yJx4a65c_get_915e3, Cond.selects RJx4a65c yJx4a65c_get_915e3 yJx4a65c_get_915e3, Cond.code yJx4a65c_get_915e3 cJx4a65c_get_915e3 2 (some (.object "java/lang/Object")), Cond.methodLink RJx4a65c 118 yJ15_checkIndex_7cf53, Cond.static yJ15_checkIndex_7cf53, Cond.initialized RJ15, Cond.code yJ15_checkIndex_7cf53 cJ15_checkIndex_7cf53 2 (some .int), Cond.methodLink RJ15 105 yJ3_checkIndex_8e157, Cond.static yJ3_checkIndex_8e157, Cond.initialized RJ3, Cond.code yJ3_checkIndex_8e157 cJ3_checkIndex_8e157 3 (some .int), Cond.methodLink RJx4a65c 123 yJx4a65c_elementData_915e3, Cond.instanceMethod yJx4a65c_elementData_915e3, Cond.selects RJx4a65c yJx4a65c_elementData_915e3 yJx4a65c_elementData_915e3, Cond.code yJx4a65c_elementData_915e3 cJx4a65c_elementData_915e3 2 (some (.object "java/lang/Object"))]
def wsX4_stepsOfLine_r2 : List Cond := [Cond.fieldLink RJx4a65c 9 "java/util/ArrayList" "elementData" "[Ljava/lang/Object;"]
def wsX4_stepsOfLine : List Cond := .code yX4_stepsOfLine cX4_stepsOfLine 2 (some .int) :: ((wsX4_stepsOfLine_r1 ++ wsX4_stepsOfLine_r2) ++ wsX40 ++ wsX30 ++ wsJx4a65c0)
def wsX4_kindOf_r1 : List Cond := [Cond.fieldLink RX4 29 "Bidwhistle" "strategies" "Ljava/util/ArrayList;", Cond.classLink RX4 111 "Bidwhistle$Strategy", Cond.methodLink RX4 94 yJx4a65c_size_8abf5, Cond.instanceMethod yJx4a65c_size_8abf5, Cond.selects RJx4a65c yJx4a65c_size_8abf5 yJx4a65c_size_8abf5, Cond.initialized RJx4a65c, Cond.code yJx4a65c_size_8abf5 cJx4a65c_size_8abf5 1 (some .int), Cond.fieldLink RJx4a65c 48 "java/util/ArrayList" "size" "I", Cond.methodLink RX4 119 yJx4a65c_get_915e3, Cond.instanceMethod yJx4a65c_get_915e3, Cond.selects RJx4a65c yJx4a65c_get_915e3 yJx4a65c_get_915e3, Cond.code yJx4a65c_get_915e3 cJx4a65c_get_915e3 2 (some (.object "java/lang/Object")), Cond.methodLink RJx4a65c 118 yJ15_checkIndex_7cf53, Cond.static yJ15_checkIndex_7cf53, Cond.initialized RJ15, Cond.code yJ15_checkIndex_7cf53 cJ15_checkIndex_7cf53 2 (some .int), Cond.methodLink RJ15 105 yJ3_checkIndex_8e157, Cond.static yJ3_checkIndex_8e157, Cond.initialized RJ3, Cond.code yJ3_checkIndex_8e157 cJ3_checkIndex_8e157 3 (some .int), Cond.methodLink RJx4a65c 123 yJx4a65c_elementData_915e3, Cond.instanceMethod yJx4a65c_elementData_915e3, Cond.selects RJx4a65c yJx4a65c_elementData_915e3 yJx4a65c_elementData_915e3, Cond.code yJx4a65c_elementData_915e3 cJx4a65c_elementData_915e3 2 (some (.object "java/lang/Object"))]
def wsX4_kindOf_r2 : List Cond := [Cond.fieldLink RJx4a65c 9 "java/util/ArrayList" "elementData" "[Ljava/lang/Object;", Cond.methodLink RX4 253 yX1_isSameAs, Cond.instanceMethod yX1_isSameAs, Cond.selects RX1 yX1_isSameAs yX1_isSameAs, Cond.initialized RX1, Cond.code yX1_isSameAs cX1_isSameAs 3 (some .boolean), Cond.fieldLink RX1 13 "Bidwhistle$Row" "numbers" "[I", Cond.methodLink RX1 19 yX1_at, Cond.instanceMethod yX1_at, Cond.selects RX1 yX1_at yX1_at, Cond.code yX1_at cX1_at 2 (some .int)]
def wsX4_kindOf : List Cond := .code yX4_kindOf cX4_kindOf 4 (some .int) :: ((wsX4_kindOf_r1 ++ wsX4_kindOf_r2) ++ wsX40 ++ wsX30 ++ wsJx4a65c0 ++ wsX10)
def wsJ8_hugeLength_7cf53 : List Cond := .code yJ8_hugeLength_7cf53 cJ8_hugeLength_7cf53 3 (some .int) :: ([.constant RJ8 200 (2147483639)])
def wsJ8_newLength_cabcc : List Cond := .code yJ8_newLength_cabcc cJ8_newLength_cabcc 4 (some .int) :: ([.methodLink RJ8 194 Lib.Math.max.name, .static Lib.Math.max.name, .initialized "java/lang/Math", .code Lib.Math.max.name Lib.Math.max.code 2 (some .int), .constant RJ8 200 (2147483639), .methodLink RJ8 201 yJ8_hugeLength_7cf53, .static yJ8_hugeLength_7cf53, .initialized RJ8, .code yJ8_hugeLength_7cf53 cJ8_hugeLength_7cf53 3 (some .int)])
def wsJ7_copyOf_6403c : List Cond := .code yJ7_copyOf_6403c cJ7_copyOf_6403c 4 (some (.array (.object "java/lang/Object"))) :: ([.classLink RJ7 110 "[Ljava/lang/Object;", .classLink RJ7 2 "java/lang/Object", .methodLink RJ7 304 Lib.Math.min.name, .static Lib.Math.min.name, .initialized "java/lang/Math", .code Lib.Math.min.name Lib.Math.min.code 2 (some .int), .methodLink RJ7 150 arraycopyName, .native arraycopyName, .static arraycopyName, .initialized "java/lang/System"])
def wsJ7_copyOf_1904c : List Cond := .code yJ7_copyOf_1904c cJ7_copyOf_1904c 2 (some (.array (.object "java/lang/Object"))) :: ([.methodLink RJ7 86 ⟨"java/lang/Object", "getClass", "()Ljava/lang/Class;"⟩, .selects "[Ljava/lang/Object;" ⟨"java/lang/Object", "getClass", "()Ljava/lang/Class;"⟩ ⟨"java/lang/Object", "getClass", "()Ljava/lang/Class;"⟩, .instanceMethod ⟨"java/lang/Object", "getClass", "()Ljava/lang/Class;"⟩, .native ⟨"java/lang/Object", "getClass", "()Ljava/lang/Class;"⟩, .methodLink RJ7 300 yJ7_copyOf_6403c, .static yJ7_copyOf_6403c, .initialized RJ7, .code yJ7_copyOf_6403c cJ7_copyOf_6403c 4 (some (.array (.object "java/lang/Object"))), .classLink RJ7 110 "[Ljava/lang/Object;", .classLink RJ7 2 "java/lang/Object", .methodLink RJ7 304 Lib.Math.min.name, .static Lib.Math.min.name, .initialized "java/lang/Math", .code Lib.Math.min.name Lib.Math.min.code 2 (some .int), .methodLink RJ7 150 arraycopyName, .native arraycopyName, .static arraycopyName, .initialized "java/lang/System"])
def wsJx4a65c_grow_92f84_r1 : List Cond := [Cond.fieldLink RJx4a65c 9 "java/util/ArrayList" "elementData" "[Ljava/lang/Object;", Cond.fieldLink RJx4a65c 39 "java/util/ArrayList" "DEFAULTCAPACITY_EMPTY_ELEMENTDATA" "[Ljava/lang/Object;", Cond.methodLink RJx4a65c 79 Lib.Math.max.name, Cond.static Lib.Math.max.name, Cond.initialized "java/lang/Math", Cond.code Lib.Math.max.name Lib.Math.max.code 2 (some .int), Cond.classLink RJx4a65c 7 "java/lang/Object", Cond.methodLink RJx4a65c 73 yJ8_newLength_cabcc, Cond.static yJ8_newLength_cabcc, Cond.initialized RJ8, Cond.code yJ8_newLength_cabcc cJ8_newLength_cabcc 4 (some .int), Cond.methodLink RJ8 194 Lib.Math.max.name, Cond.constant RJ8 200 (2147483639), Cond.methodLink RJ8 201 yJ8_hugeLength_7cf53, Cond.static yJ8_hugeLength_7cf53, Cond.code yJ8_hugeLength_7cf53 cJ8_hugeLength_7cf53 3 (some .int), Cond.methodLink RJx4a65c 66 yJ7_copyOf_1904c, Cond.static yJ7_copyOf_1904c, Cond.initialized RJ7, Cond.code yJ7_copyOf_1904c cJ7_copyOf_1904c 2 (some (.array (.object "java/lang/Object"))), Cond.methodLink RJ7 86 ⟨"java/lang/Object", "getClass", "()Ljava/lang/Class;"⟩, Cond.selects "[Ljava/lang/Object;" ⟨"java/lang/Object", "getClass", "()Ljava/lang/Class;"⟩ ⟨"java/lang/Object", "getClass", "()Ljava/lang/Class;"⟩, Cond.instanceMethod ⟨"java/lang/Object", "getClass", "()Ljava/lang/Class;"⟩, Cond.native ⟨"java/lang/Object", "getClass", "()Ljava/lang/Class;"⟩]
def wsJx4a65c_grow_92f84_r2 : List Cond := [Cond.methodLink RJ7 300 yJ7_copyOf_6403c, Cond.static yJ7_copyOf_6403c, Cond.code yJ7_copyOf_6403c cJ7_copyOf_6403c 4 (some (.array (.object "java/lang/Object"))), Cond.classLink RJ7 110 "[Ljava/lang/Object;", Cond.classLink RJ7 2 "java/lang/Object", Cond.methodLink RJ7 304 Lib.Math.min.name, Cond.static Lib.Math.min.name, Cond.code Lib.Math.min.name Lib.Math.min.code 2 (some .int), Cond.methodLink RJ7 150 arraycopyName, Cond.native arraycopyName, Cond.static arraycopyName, Cond.initialized "java/lang/System"]
def wsJx4a65c_grow_92f84 : List Cond := .code yJx4a65c_grow_92f84 cJx4a65c_grow_92f84 4 (some (.array (.object "java/lang/Object"))) :: ((wsJx4a65c_grow_92f84_r1 ++ wsJx4a65c_grow_92f84_r2) ++ wsJx4a65c0)
def wsJx4a65c_grow_d5877_r1 : List Cond := [Cond.fieldLink RJx4a65c 48 "java/util/ArrayList" "size" "I", Cond.methodLink RJx4a65c 69 yJx4a65c_grow_92f84, Cond.instanceMethod yJx4a65c_grow_92f84, Cond.selects RJx4a65c yJx4a65c_grow_92f84 yJx4a65c_grow_92f84, Cond.initialized RJx4a65c, Cond.code yJx4a65c_grow_92f84 cJx4a65c_grow_92f84 4 (some (.array (.object "java/lang/Object"))), Cond.fieldLink RJx4a65c 9 "java/util/ArrayList" "elementData" "[Ljava/lang/Object;", Cond.fieldLink RJx4a65c 39 "java/util/ArrayList" "DEFAULTCAPACITY_EMPTY_ELEMENTDATA" "[Ljava/lang/Object;", Cond.methodLink RJx4a65c 79 Lib.Math.max.name, Cond.static Lib.Math.max.name, Cond.initialized "java/lang/Math", Cond.code Lib.Math.max.name Lib.Math.max.code 2 (some .int), Cond.classLink RJx4a65c 7 "java/lang/Object", Cond.methodLink RJx4a65c 73 yJ8_newLength_cabcc, Cond.static yJ8_newLength_cabcc, Cond.initialized RJ8, Cond.code yJ8_newLength_cabcc cJ8_newLength_cabcc 4 (some .int), Cond.methodLink RJ8 194 Lib.Math.max.name, Cond.constant RJ8 200 (2147483639), Cond.methodLink RJ8 201 yJ8_hugeLength_7cf53, Cond.static yJ8_hugeLength_7cf53, Cond.code yJ8_hugeLength_7cf53 cJ8_hugeLength_7cf53 3 (some .int), Cond.methodLink RJx4a65c 66 yJ7_copyOf_1904c, Cond.static yJ7_copyOf_1904c]
def wsJx4a65c_grow_d5877_r2 : List Cond := [Cond.initialized RJ7, Cond.code yJ7_copyOf_1904c cJ7_copyOf_1904c 2 (some (.array (.object "java/lang/Object"))), Cond.methodLink RJ7 86 ⟨"java/lang/Object", "getClass", "()Ljava/lang/Class;"⟩, Cond.selects "[Ljava/lang/Object;" ⟨"java/lang/Object", "getClass", "()Ljava/lang/Class;"⟩ ⟨"java/lang/Object", "getClass", "()Ljava/lang/Class;"⟩, Cond.instanceMethod ⟨"java/lang/Object", "getClass", "()Ljava/lang/Class;"⟩, Cond.native ⟨"java/lang/Object", "getClass", "()Ljava/lang/Class;"⟩, Cond.methodLink RJ7 300 yJ7_copyOf_6403c, Cond.static yJ7_copyOf_6403c, Cond.code yJ7_copyOf_6403c cJ7_copyOf_6403c 4 (some (.array (.object "java/lang/Object"))), Cond.classLink RJ7 110 "[Ljava/lang/Object;", Cond.classLink RJ7 2 "java/lang/Object", Cond.methodLink RJ7 304 Lib.Math.min.name, Cond.static Lib.Math.min.name, Cond.code Lib.Math.min.name Lib.Math.min.code 2 (some .int), Cond.methodLink RJ7 150 arraycopyName, Cond.native arraycopyName, Cond.static arraycopyName, Cond.initialized "java/lang/System"]
def wsJx4a65c_grow_d5877 : List Cond := .code yJx4a65c_grow_d5877 cJx4a65c_grow_d5877 1 (some (.array (.object "java/lang/Object"))) :: ((wsJx4a65c_grow_d5877_r1 ++ wsJx4a65c_grow_d5877_r2) ++ wsJx4a65c0)
def wsJx4a65c_add_72be8_r1 : List Cond := [Cond.fieldLink RJx4a65c 48 "java/util/ArrayList" "size" "I", Cond.methodLink RJx4a65c 129 yJx4a65c_grow_d5877, Cond.instanceMethod yJx4a65c_grow_d5877, Cond.selects RJx4a65c yJx4a65c_grow_d5877 yJx4a65c_grow_d5877, Cond.initialized RJx4a65c, Cond.code yJx4a65c_grow_d5877 cJx4a65c_grow_d5877 1 (some (.array (.object "java/lang/Object"))), Cond.methodLink RJx4a65c 69 yJx4a65c_grow_92f84, Cond.instanceMethod yJx4a65c_grow_92f84, Cond.selects RJx4a65c yJx4a65c_grow_92f84 yJx4a65c_grow_92f84, Cond.code yJx4a65c_grow_92f84 cJx4a65c_grow_92f84 4 (some (.array (.object "java/lang/Object"))), Cond.fieldLink RJx4a65c 9 "java/util/ArrayList" "elementData" "[Ljava/lang/Object;", Cond.fieldLink RJx4a65c 39 "java/util/ArrayList" "DEFAULTCAPACITY_EMPTY_ELEMENTDATA" "[Ljava/lang/Object;", Cond.methodLink RJx4a65c 79 Lib.Math.max.name, Cond.static Lib.Math.max.name, Cond.initialized "java/lang/Math", Cond.code Lib.Math.max.name Lib.Math.max.code 2 (some .int), Cond.classLink RJx4a65c 7 "java/lang/Object", Cond.methodLink RJx4a65c 73 yJ8_newLength_cabcc, Cond.static yJ8_newLength_cabcc, Cond.initialized RJ8, Cond.code yJ8_newLength_cabcc cJ8_newLength_cabcc 4 (some .int), Cond.methodLink RJ8 194 Lib.Math.max.name, Cond.constant RJ8 200 (2147483639), Cond.methodLink RJ8 201 yJ8_hugeLength_7cf53]
def wsJx4a65c_add_72be8_r2 : List Cond := [Cond.static yJ8_hugeLength_7cf53, Cond.code yJ8_hugeLength_7cf53 cJ8_hugeLength_7cf53 3 (some .int), Cond.methodLink RJx4a65c 66 yJ7_copyOf_1904c, Cond.static yJ7_copyOf_1904c, Cond.initialized RJ7, Cond.code yJ7_copyOf_1904c cJ7_copyOf_1904c 2 (some (.array (.object "java/lang/Object"))), Cond.methodLink RJ7 86 ⟨"java/lang/Object", "getClass", "()Ljava/lang/Class;"⟩, Cond.selects "[Ljava/lang/Object;" ⟨"java/lang/Object", "getClass", "()Ljava/lang/Class;"⟩ ⟨"java/lang/Object", "getClass", "()Ljava/lang/Class;"⟩, Cond.instanceMethod ⟨"java/lang/Object", "getClass", "()Ljava/lang/Class;"⟩, Cond.native ⟨"java/lang/Object", "getClass", "()Ljava/lang/Class;"⟩, Cond.methodLink RJ7 300 yJ7_copyOf_6403c, Cond.static yJ7_copyOf_6403c, Cond.code yJ7_copyOf_6403c cJ7_copyOf_6403c 4 (some (.array (.object "java/lang/Object"))), Cond.classLink RJ7 110 "[Ljava/lang/Object;", Cond.classLink RJ7 2 "java/lang/Object", Cond.methodLink RJ7 304 Lib.Math.min.name, Cond.static Lib.Math.min.name, Cond.code Lib.Math.min.name Lib.Math.min.code 2 (some .int), Cond.methodLink RJ7 150 arraycopyName, Cond.native arraycopyName, Cond.static arraycopyName, Cond.initialized "java/lang/System"]
def wsJx4a65c_add_72be8 : List Cond := .code yJx4a65c_add_72be8 cJx4a65c_add_72be8 4 none :: ((wsJx4a65c_add_72be8_r1 ++ wsJx4a65c_add_72be8_r2) ++ wsJx4a65c0)
def wsJx4a65c_add_9ea2d_r1 : List Cond := [Cond.fieldLink RJx4a65c 63 "java/util/ArrayList" "modCount" "I", Cond.sameField "java/util/ArrayList" "java/util/AbstractList" "modCount" "I", Cond.fieldLink RJx4a65c 9 "java/util/ArrayList" "elementData" "[Ljava/lang/Object;", Cond.fieldLink RJx4a65c 48 "java/util/ArrayList" "size" "I", Cond.methodLink RJx4a65c 131 yJx4a65c_add_72be8, Cond.instanceMethod yJx4a65c_add_72be8, Cond.selects RJx4a65c yJx4a65c_add_72be8 yJx4a65c_add_72be8, Cond.initialized RJx4a65c, Cond.code yJx4a65c_add_72be8 cJx4a65c_add_72be8 4 none, Cond.methodLink RJx4a65c 129 yJx4a65c_grow_d5877, Cond.instanceMethod yJx4a65c_grow_d5877, Cond.selects RJx4a65c yJx4a65c_grow_d5877 yJx4a65c_grow_d5877, Cond.code yJx4a65c_grow_d5877 cJx4a65c_grow_d5877 1 (some (.array (.object "java/lang/Object"))), Cond.methodLink RJx4a65c 69 yJx4a65c_grow_92f84, Cond.instanceMethod yJx4a65c_grow_92f84, Cond.selects RJx4a65c yJx4a65c_grow_92f84 yJx4a65c_grow_92f84, Cond.code yJx4a65c_grow_92f84 cJx4a65c_grow_92f84 4 (some (.array (.object "java/lang/Object"))), Cond.fieldLink RJx4a65c 39 "java/util/ArrayList" "DEFAULTCAPACITY_EMPTY_ELEMENTDATA" "[Ljava/lang/Object;", Cond.methodLink RJx4a65c 79 Lib.Math.max.name, Cond.static Lib.Math.max.name, Cond.initialized "java/lang/Math", Cond.code Lib.Math.max.name Lib.Math.max.code 2 (some .int), Cond.classLink RJx4a65c 7 "java/lang/Object", Cond.methodLink RJx4a65c 73 yJ8_newLength_cabcc]
def wsJx4a65c_add_9ea2d_r2 : List Cond := [Cond.static yJ8_newLength_cabcc, Cond.initialized RJ8, Cond.code yJ8_newLength_cabcc cJ8_newLength_cabcc 4 (some .int), Cond.methodLink RJ8 194 Lib.Math.max.name, Cond.constant RJ8 200 (2147483639), Cond.methodLink RJ8 201 yJ8_hugeLength_7cf53, Cond.static yJ8_hugeLength_7cf53, Cond.code yJ8_hugeLength_7cf53 cJ8_hugeLength_7cf53 3 (some .int), Cond.methodLink RJx4a65c 66 yJ7_copyOf_1904c, Cond.static yJ7_copyOf_1904c, Cond.initialized RJ7, Cond.code yJ7_copyOf_1904c cJ7_copyOf_1904c 2 (some (.array (.object "java/lang/Object"))), Cond.methodLink RJ7 86 ⟨"java/lang/Object", "getClass", "()Ljava/lang/Class;"⟩, Cond.selects "[Ljava/lang/Object;" ⟨"java/lang/Object", "getClass", "()Ljava/lang/Class;"⟩ ⟨"java/lang/Object", "getClass", "()Ljava/lang/Class;"⟩, Cond.instanceMethod ⟨"java/lang/Object", "getClass", "()Ljava/lang/Class;"⟩, Cond.native ⟨"java/lang/Object", "getClass", "()Ljava/lang/Class;"⟩, Cond.methodLink RJ7 300 yJ7_copyOf_6403c, Cond.static yJ7_copyOf_6403c, Cond.code yJ7_copyOf_6403c cJ7_copyOf_6403c 4 (some (.array (.object "java/lang/Object"))), Cond.classLink RJ7 110 "[Ljava/lang/Object;", Cond.classLink RJ7 2 "java/lang/Object", Cond.methodLink RJ7 304 Lib.Math.min.name, Cond.static Lib.Math.min.name, Cond.code Lib.Math.min.name Lib.Math.min.code 2 (some .int)]
def wsJx4a65c_add_9ea2d_r3 : List Cond := [Cond.methodLink RJ7 150 arraycopyName, Cond.native arraycopyName, Cond.static arraycopyName, Cond.initialized "java/lang/System"]
def wsJx4a65c_add_9ea2d : List Cond := .code yJx4a65c_add_9ea2d cJx4a65c_add_9ea2d 2 (some .boolean) :: ((wsJx4a65c_add_9ea2d_r1 ++ (wsJx4a65c_add_9ea2d_r2 ++ wsJx4a65c_add_9ea2d_r3)) ++ wsJx4a65c0)
def wsX4_keep_r1 : List Cond := [Cond.fieldLink RX4 29 "Bidwhistle" "strategies" "Ljava/util/ArrayList;", Cond.classLink RX4 111 RX3, Cond.instantiable RX3 8, Cond.initialized RX3, Cond.fieldLink RX4 22 "Bidwhistle" "stack" "LBidwhistle$Stack;", Cond.methodLink RX4 94 yJx4a65c_size_8abf5, Cond.instanceMethod yJx4a65c_size_8abf5, Cond.selects RJx4a65c yJx4a65c_size_8abf5 yJx4a65c_size_8abf5, Cond.initialized RJx4a65c, Cond.code yJx4a65c_size_8abf5 cJx4a65c_size_8abf5 1 (some .int), Cond.fieldLink RJx4a65c 48 "java/util/ArrayList" "size" "I", Cond.methodLink RX4 228 yX0_copy, Cond.instanceMethod yX0_copy, Cond.selects RX0 yX0_copy yX0_copy, Cond.initialized RX0, Cond.code yX0_copy cX0_copy 2 (some (.object "Bidwhistle$Program")), Cond.classLink RX0 15 RX0, Cond.instantiable RX0 3, Cond.fieldLink RX0 20 "Bidwhistle$Program" "length" "I", Cond.methodLink RX0 41 yX0_init, Cond.instanceMethod yX0_init, Cond.code yX0_init cX0_init 1 none, Cond.methodLink RX0 3 objectInit, Cond.instanceMethod objectInit]
def wsX4_keep_r2 : List Cond := [Cond.code objectInit ⟨#[0xb1]⟩ 1 none, Cond.classLink RX0 9 RX1, Cond.instantiable RX1 1, Cond.initialized RX1, Cond.fieldLink RX0 14 "Bidwhistle$Program" "steps" "LBidwhistle$Row;", Cond.fieldLink RX0 24 "Bidwhistle$Program" "stepBits" "I", Cond.methodLink RX0 11 yX1_init, Cond.instanceMethod yX1_init, Cond.code yX1_init cX1_init 2 none, Cond.methodLink RX1 1 objectInit, Cond.methodLink RX1 7 Lib.Math.max.name, Cond.static Lib.Math.max.name, Cond.initialized "java/lang/Math", Cond.code Lib.Math.max.name Lib.Math.max.code 2 (some .int), Cond.arrayClass .int, Cond.fieldLink RX1 13 "Bidwhistle$Row" "numbers" "[I", Cond.methodLink RX0 42 yX0_addPart, Cond.instanceMethod yX0_addPart, Cond.selects RX0 yX0_addPart yX0_addPart, Cond.code yX0_addPart cX0_addPart 5 none, Cond.methodLink RX0 35 yX1_at, Cond.instanceMethod yX1_at, Cond.selects RX1 yX1_at yX1_at, Cond.code yX1_at cX1_at 2 (some .int)]
def wsX4_keep_r3 : List Cond := [Cond.methodLink RX0 38 yX0_add, Cond.instanceMethod yX0_add, Cond.selects RX0 yX0_add yX0_add, Cond.code yX0_add cX0_add 2 none, Cond.methodLink RX0 27 yX1_put, Cond.instanceMethod yX1_put, Cond.selects RX1 yX1_put yX1_put, Cond.code yX1_put cX1_put 3 none, Cond.static yX4_bitOf, Cond.initialized RX4, Cond.code yX4_bitOf cX4_bitOf 1 (some .int), Cond.methodLink RX4 232 yX3_init, Cond.instanceMethod yX3_init, Cond.code yX3_init cX3_init 5 none, Cond.methodLink RX3 3 objectInit, Cond.classLink RX3 9 RX1, Cond.fieldLink RX3 14 "Bidwhistle$Strategy" "bids" "LBidwhistle$Row;", Cond.fieldLink RX3 20 "Bidwhistle$Strategy" "stepsOfLine" "I", Cond.fieldLink RX3 24 "Bidwhistle$Strategy" "kind" "I", Cond.fieldLink RX3 27 "Bidwhistle$Strategy" "inPool" "Z", Cond.fieldLink RX3 31 "Bidwhistle$Strategy" "number" "I", Cond.fieldLink RX3 34 "Bidwhistle$Strategy" "program" "LBidwhistle$Program;", Cond.fieldLink RX3 38 "Bidwhistle$Strategy" "firstParent" "I", Cond.fieldLink RX3 41 "Bidwhistle$Strategy" "secondParent" "I"]
def wsX4_keep_r4 : List Cond := [Cond.methodLink RX3 11 yX1_init, Cond.methodLink RX4 238 yX4_stepsOfLine, Cond.instanceMethod yX4_stepsOfLine, Cond.selects RX4 yX4_stepsOfLine yX4_stepsOfLine, Cond.code yX4_stepsOfLine cX4_stepsOfLine 2 (some .int), Cond.classLink RX4 111 "Bidwhistle$Strategy", Cond.methodLink RX4 119 yJx4a65c_get_915e3, Cond.instanceMethod yJx4a65c_get_915e3, Cond.selects RJx4a65c yJx4a65c_get_915e3 yJx4a65c_get_915e3, Cond.code yJx4a65c_get_915e3 cJx4a65c_get_915e3 2 (some (.object "java/lang/Object")), Cond.methodLink RJx4a65c 118 yJ15_checkIndex_7cf53, Cond.static yJ15_checkIndex_7cf53, Cond.initialized RJ15, Cond.code yJ15_checkIndex_7cf53 cJ15_checkIndex_7cf53 2 (some .int), Cond.methodLink RJ15 105 yJ3_checkIndex_8e157, Cond.static yJ3_checkIndex_8e157, Cond.initialized RJ3, Cond.code yJ3_checkIndex_8e157 cJ3_checkIndex_8e157 3 (some .int), Cond.methodLink RJx4a65c 123 yJx4a65c_elementData_915e3, Cond.instanceMethod yJx4a65c_elementData_915e3, Cond.selects RJx4a65c yJx4a65c_elementData_915e3 yJx4a65c_elementData_915e3, Cond.code yJx4a65c_elementData_915e3 cJx4a65c_elementData_915e3 2 (some (.object "java/lang/Object")), Cond.fieldLink RJx4a65c 9 "java/util/ArrayList" "elementData" "[Ljava/lang/Object;", Cond.methodLink RX4 243 yX0_bidFor]
def wsX4_keep_r5 : List Cond := [Cond.instanceMethod yX0_bidFor, Cond.selects RX0 yX0_bidFor yX0_bidFor, Cond.code yX0_bidFor cX0_bidFor 4 (some .int), Cond.methodLink RX0 59 Lib.Math.min.name, Cond.static Lib.Math.min.name, Cond.code Lib.Math.min.name Lib.Math.min.code 2 (some .int), Cond.methodLink RX0 65 Lib.Math.max.name, Cond.methodLink RX0 46 yX2_empty, Cond.instanceMethod yX2_empty, Cond.selects RX2 yX2_empty yX2_empty, Cond.initialized RX2, Cond.code yX2_empty cX2_empty 1 none, Cond.fieldLink RX2 20 "Bidwhistle$Stack" "depth" "I", Cond.methodLink RX0 51 yX0_perform, Cond.static yX0_perform, Cond.code yX0_perform cX0_perform 7 none, Cond.methodLink RX0 68 yX2_push, Cond.instanceMethod yX2_push, Cond.selects RX2 yX2_push yX2_push, Cond.code yX2_push cX2_push 3 none, Cond.fieldLink RX2 14 "Bidwhistle$Stack" "numbers" "LBidwhistle$Row;", Cond.constantLong RX2 24 (-100000), Cond.constantLong RX2 26 (100000), Cond.methodLink RX2 28 Lib.MathLoose.min_long.x]
def wsX4_keep_r6 : List Cond := [Cond.static Lib.MathLoose.min_long.x, Cond.code Lib.MathLoose.min_long.x Lib.MathLoose.min_long.code 4 (some .long), Cond.methodLink RX2 34 Lib.MathLoose.max_long.x, Cond.static Lib.MathLoose.max_long.x, Cond.code Lib.MathLoose.max_long.x Lib.MathLoose.max_long.code 4 (some .long), Cond.methodLink RX2 37 yX1_put, Cond.methodLink RX0 55 yX2_pop, Cond.instanceMethod yX2_pop, Cond.selects RX2 yX2_pop yX2_pop, Cond.code yX2_pop cX2_pop 1 (some .int), Cond.methodLink RX2 41 yX1_at, Cond.methodLink RX0 72 yX0_resultOf, Cond.static yX0_resultOf, Cond.code yX0_resultOf cX0_resultOf 5 (some .long), Cond.methodLink RX0 76 Lib.MathLoose.min_long.x, Cond.methodLink RX0 79 Lib.MathLoose.max_long.x, Cond.methodLink RX4 161 yX1_put, Cond.methodLink RX4 246 yX4_kindOf, Cond.instanceMethod yX4_kindOf, Cond.selects RX4 yX4_kindOf yX4_kindOf, Cond.code yX4_kindOf cX4_kindOf 4 (some .int), Cond.methodLink RX4 253 yX1_isSameAs, Cond.instanceMethod yX1_isSameAs, Cond.selects RX1 yX1_isSameAs yX1_isSameAs]
def wsX4_keep_r7 : List Cond := [Cond.code yX1_isSameAs cX1_isSameAs 3 (some .boolean), Cond.methodLink RX1 19 yX1_at, Cond.methodLink RX4 250 yJx4a65c_add_9ea2d, Cond.instanceMethod yJx4a65c_add_9ea2d, Cond.selects RJx4a65c yJx4a65c_add_9ea2d yJx4a65c_add_9ea2d, Cond.code yJx4a65c_add_9ea2d cJx4a65c_add_9ea2d 2 (some .boolean), Cond.fieldLink RJx4a65c 63 "java/util/ArrayList" "modCount" "I", Cond.sameField "java/util/ArrayList" "java/util/AbstractList" "modCount" "I", Cond.methodLink RJx4a65c 131 yJx4a65c_add_72be8, Cond.instanceMethod yJx4a65c_add_72be8, Cond.selects RJx4a65c yJx4a65c_add_72be8 yJx4a65c_add_72be8, Cond.code yJx4a65c_add_72be8 cJx4a65c_add_72be8 4 none, Cond.methodLink RJx4a65c 129 yJx4a65c_grow_d5877, Cond.instanceMethod yJx4a65c_grow_d5877, Cond.selects RJx4a65c yJx4a65c_grow_d5877 yJx4a65c_grow_d5877, Cond.code yJx4a65c_grow_d5877 cJx4a65c_grow_d5877 1 (some (.array (.object "java/lang/Object"))), Cond.methodLink RJx4a65c 69 yJx4a65c_grow_92f84, Cond.instanceMethod yJx4a65c_grow_92f84, Cond.selects RJx4a65c yJx4a65c_grow_92f84 yJx4a65c_grow_92f84, Cond.code yJx4a65c_grow_92f84 cJx4a65c_grow_92f84 4 (some (.array (.object "java/lang/Object"))), Cond.fieldLink RJx4a65c 39 "java/util/ArrayList" "DEFAULTCAPACITY_EMPTY_ELEMENTDATA" "[Ljava/lang/Object;", Cond.methodLink RJx4a65c 79 Lib.Math.max.name, Cond.classLink RJx4a65c 7 "java/lang/Object", Cond.methodLink RJx4a65c 73 yJ8_newLength_cabcc]
def wsX4_keep_r8 : List Cond := [Cond.static yJ8_newLength_cabcc, Cond.initialized RJ8, Cond.code yJ8_newLength_cabcc cJ8_newLength_cabcc 4 (some .int), Cond.methodLink RJ8 194 Lib.Math.max.name, Cond.constant RJ8 200 (2147483639), Cond.methodLink RJ8 201 yJ8_hugeLength_7cf53, Cond.static yJ8_hugeLength_7cf53, Cond.code yJ8_hugeLength_7cf53 cJ8_hugeLength_7cf53 3 (some .int), Cond.methodLink RJx4a65c 66 yJ7_copyOf_1904c, Cond.static yJ7_copyOf_1904c, Cond.initialized RJ7, Cond.code yJ7_copyOf_1904c cJ7_copyOf_1904c 2 (some (.array (.object "java/lang/Object"))), Cond.methodLink RJ7 86 ⟨"java/lang/Object", "getClass", "()Ljava/lang/Class;"⟩, Cond.selects "[Ljava/lang/Object;" ⟨"java/lang/Object", "getClass", "()Ljava/lang/Class;"⟩ ⟨"java/lang/Object", "getClass", "()Ljava/lang/Class;"⟩, Cond.instanceMethod ⟨"java/lang/Object", "getClass", "()Ljava/lang/Class;"⟩, Cond.native ⟨"java/lang/Object", "getClass", "()Ljava/lang/Class;"⟩, Cond.methodLink RJ7 300 yJ7_copyOf_6403c, Cond.static yJ7_copyOf_6403c, Cond.code yJ7_copyOf_6403c cJ7_copyOf_6403c 4 (some (.array (.object "java/lang/Object"))), Cond.classLink RJ7 110 "[Ljava/lang/Object;", Cond.classLink RJ7 2 "java/lang/Object", Cond.methodLink RJ7 304 Lib.Math.min.name, Cond.methodLink RJ7 150 arraycopyName, Cond.native arraycopyName]
def wsX4_keep_r9 : List Cond := [Cond.static arraycopyName, Cond.initialized "java/lang/System"]
def wsX4_keep : List Cond := .code yX4_keep cX4_keep 7 (some .int) :: ((wsX4_keep_r1 ++ (wsX4_keep_r2 ++ (wsX4_keep_r3 ++ (wsX4_keep_r4 ++ (wsX4_keep_r5 ++ (wsX4_keep_r6 ++ (wsX4_keep_r7 ++ (wsX4_keep_r8 ++ wsX4_keep_r9)))))))) ++ wsX40 ++ wsX30 ++ wsX00 ++ wsJx4a65c0 ++ wsX10 ++ wsX20)
def wsX4_store_r1 : List Cond := [Cond.classLink RX4 68 "java/lang/IllegalStateException", Cond.initialized "java/lang/IllegalStateException", Cond.fieldLink RX4 10 "Bidwhistle" "draft" "LBidwhistle$Program;", Cond.fieldLink RX4 29 "Bidwhistle" "strategies" "Ljava/util/ArrayList;", Cond.methodLink RX4 85 yX0_isRight, Cond.instanceMethod yX0_isRight, Cond.selects RX0 yX0_isRight yX0_isRight, Cond.initialized RX0, Cond.code yX0_isRight cX0_isRight 3 (some .boolean), Cond.fieldLink RX0 20 "Bidwhistle$Program" "length" "I", Cond.fieldLink RX0 14 "Bidwhistle$Program" "steps" "LBidwhistle$Row;", Cond.methodLink RX0 35 yX1_at, Cond.instanceMethod yX1_at, Cond.selects RX1 yX1_at yX1_at, Cond.initialized RX1, Cond.code yX1_at cX1_at 2 (some .int), Cond.fieldLink RX1 13 "Bidwhistle$Row" "numbers" "[I", Cond.methodLink RX4 90 yX4_numberOf, Cond.instanceMethod yX4_numberOf, Cond.selects RX4 yX4_numberOf yX4_numberOf, Cond.initialized RX4, Cond.code yX4_numberOf cX4_numberOf 3 (some .int), Cond.classLink RX4 111 "Bidwhistle$Strategy", Cond.methodLink RX4 94 yJx4a65c_size_8abf5]
def wsX4_store_r2 : List Cond := [Cond.instanceMethod yJx4a65c_size_8abf5, Cond.selects RJx4a65c yJx4a65c_size_8abf5 yJx4a65c_size_8abf5, Cond.initialized RJx4a65c, Cond.code yJx4a65c_size_8abf5 cJx4a65c_size_8abf5 1 (some .int), Cond.fieldLink RJx4a65c 48 "java/util/ArrayList" "size" "I", Cond.methodLink RX4 119 yJx4a65c_get_915e3, Cond.instanceMethod yJx4a65c_get_915e3, Cond.selects RJx4a65c yJx4a65c_get_915e3 yJx4a65c_get_915e3, Cond.code yJx4a65c_get_915e3 cJx4a65c_get_915e3 2 (some (.object "java/lang/Object")), Cond.methodLink RJx4a65c 118 yJ15_checkIndex_7cf53, Cond.static yJ15_checkIndex_7cf53, Cond.initialized RJ15, Cond.code yJ15_checkIndex_7cf53 cJ15_checkIndex_7cf53 2 (some .int), Cond.methodLink RJ15 105 yJ3_checkIndex_8e157, Cond.static yJ3_checkIndex_8e157, Cond.initialized RJ3, Cond.code yJ3_checkIndex_8e157 cJ3_checkIndex_8e157 3 (some .int), Cond.methodLink RJx4a65c 123 yJx4a65c_elementData_915e3, Cond.instanceMethod yJx4a65c_elementData_915e3, Cond.selects RJx4a65c yJx4a65c_elementData_915e3 yJx4a65c_elementData_915e3, Cond.code yJx4a65c_elementData_915e3 cJx4a65c_elementData_915e3 2 (some (.object "java/lang/Object")), Cond.fieldLink RJx4a65c 9 "java/util/ArrayList" "elementData" "[Ljava/lang/Object;", Cond.methodLink RX4 224 yX0_isSameAs, Cond.instanceMethod yX0_isSameAs]
def wsX4_store_r3 : List Cond := [Cond.selects RX0 yX0_isSameAs yX0_isSameAs, Cond.code yX0_isSameAs cX0_isSameAs 3 (some .boolean), Cond.methodLink RX4 99 yX4_keep, Cond.instanceMethod yX4_keep, Cond.selects RX4 yX4_keep yX4_keep, Cond.code yX4_keep cX4_keep 7 (some .int), Cond.classLink RX4 111 RX3, Cond.instantiable RX3 8, Cond.initialized RX3, Cond.fieldLink RX4 22 "Bidwhistle" "stack" "LBidwhistle$Stack;", Cond.methodLink RX4 228 yX0_copy, Cond.instanceMethod yX0_copy, Cond.selects RX0 yX0_copy yX0_copy, Cond.code yX0_copy cX0_copy 2 (some (.object "Bidwhistle$Program")), Cond.classLink RX0 15 RX0, Cond.instantiable RX0 3, Cond.methodLink RX0 41 yX0_init, Cond.instanceMethod yX0_init, Cond.code yX0_init cX0_init 1 none, Cond.methodLink RX0 3 objectInit, Cond.instanceMethod objectInit, Cond.code objectInit ⟨#[0xb1]⟩ 1 none, Cond.classLink RX0 9 RX1, Cond.instantiable RX1 1]
def wsX4_store_r4 : List Cond := [Cond.fieldLink RX0 24 "Bidwhistle$Program" "stepBits" "I", Cond.methodLink RX0 11 yX1_init, Cond.instanceMethod yX1_init, Cond.code yX1_init cX1_init 2 none, Cond.methodLink RX1 1 objectInit, Cond.methodLink RX1 7 Lib.Math.max.name, Cond.static Lib.Math.max.name, Cond.initialized "java/lang/Math", Cond.code Lib.Math.max.name Lib.Math.max.code 2 (some .int), Cond.arrayClass .int, Cond.methodLink RX0 42 yX0_addPart, Cond.instanceMethod yX0_addPart, Cond.selects RX0 yX0_addPart yX0_addPart, Cond.code yX0_addPart cX0_addPart 5 none, Cond.methodLink RX0 38 yX0_add, Cond.instanceMethod yX0_add, Cond.selects RX0 yX0_add yX0_add, Cond.code yX0_add cX0_add 2 none, Cond.methodLink RX0 27 yX1_put, Cond.instanceMethod yX1_put, Cond.selects RX1 yX1_put yX1_put, Cond.code yX1_put cX1_put 3 none, Cond.static yX4_bitOf, Cond.code yX4_bitOf cX4_bitOf 1 (some .int)]
def wsX4_store_r5 : List Cond := [Cond.methodLink RX4 232 yX3_init, Cond.instanceMethod yX3_init, Cond.code yX3_init cX3_init 5 none, Cond.methodLink RX3 3 objectInit, Cond.classLink RX3 9 RX1, Cond.fieldLink RX3 14 "Bidwhistle$Strategy" "bids" "LBidwhistle$Row;", Cond.fieldLink RX3 20 "Bidwhistle$Strategy" "stepsOfLine" "I", Cond.fieldLink RX3 24 "Bidwhistle$Strategy" "kind" "I", Cond.fieldLink RX3 27 "Bidwhistle$Strategy" "inPool" "Z", Cond.fieldLink RX3 31 "Bidwhistle$Strategy" "number" "I", Cond.fieldLink RX3 34 "Bidwhistle$Strategy" "program" "LBidwhistle$Program;", Cond.fieldLink RX3 38 "Bidwhistle$Strategy" "firstParent" "I", Cond.fieldLink RX3 41 "Bidwhistle$Strategy" "secondParent" "I", Cond.methodLink RX3 11 yX1_init, Cond.methodLink RX4 238 yX4_stepsOfLine, Cond.instanceMethod yX4_stepsOfLine, Cond.selects RX4 yX4_stepsOfLine yX4_stepsOfLine, Cond.code yX4_stepsOfLine cX4_stepsOfLine 2 (some .int), Cond.methodLink RX4 243 yX0_bidFor, Cond.instanceMethod yX0_bidFor, Cond.selects RX0 yX0_bidFor yX0_bidFor, Cond.code yX0_bidFor cX0_bidFor 4 (some .int), Cond.methodLink RX0 59 Lib.Math.min.name, Cond.static Lib.Math.min.name]
def wsX4_store_r6 : List Cond := [Cond.code Lib.Math.min.name Lib.Math.min.code 2 (some .int), Cond.methodLink RX0 65 Lib.Math.max.name, Cond.methodLink RX0 46 yX2_empty, Cond.instanceMethod yX2_empty, Cond.selects RX2 yX2_empty yX2_empty, Cond.initialized RX2, Cond.code yX2_empty cX2_empty 1 none, Cond.fieldLink RX2 20 "Bidwhistle$Stack" "depth" "I", Cond.methodLink RX0 51 yX0_perform, Cond.static yX0_perform, Cond.code yX0_perform cX0_perform 7 none, Cond.methodLink RX0 68 yX2_push, Cond.instanceMethod yX2_push, Cond.selects RX2 yX2_push yX2_push, Cond.code yX2_push cX2_push 3 none, Cond.fieldLink RX2 14 "Bidwhistle$Stack" "numbers" "LBidwhistle$Row;", Cond.constantLong RX2 24 (-100000), Cond.constantLong RX2 26 (100000), Cond.methodLink RX2 28 Lib.MathLoose.min_long.x, Cond.static Lib.MathLoose.min_long.x, Cond.code Lib.MathLoose.min_long.x Lib.MathLoose.min_long.code 4 (some .long), Cond.methodLink RX2 34 Lib.MathLoose.max_long.x, Cond.static Lib.MathLoose.max_long.x, Cond.code Lib.MathLoose.max_long.x Lib.MathLoose.max_long.code 4 (some .long)]
def wsX4_store_r7 : List Cond := [Cond.methodLink RX2 37 yX1_put, Cond.methodLink RX0 55 yX2_pop, Cond.instanceMethod yX2_pop, Cond.selects RX2 yX2_pop yX2_pop, Cond.code yX2_pop cX2_pop 1 (some .int), Cond.methodLink RX2 41 yX1_at, Cond.methodLink RX0 72 yX0_resultOf, Cond.static yX0_resultOf, Cond.code yX0_resultOf cX0_resultOf 5 (some .long), Cond.methodLink RX0 76 Lib.MathLoose.min_long.x, Cond.methodLink RX0 79 Lib.MathLoose.max_long.x, Cond.methodLink RX4 161 yX1_put, Cond.methodLink RX4 246 yX4_kindOf, Cond.instanceMethod yX4_kindOf, Cond.selects RX4 yX4_kindOf yX4_kindOf, Cond.code yX4_kindOf cX4_kindOf 4 (some .int), Cond.methodLink RX4 253 yX1_isSameAs, Cond.instanceMethod yX1_isSameAs, Cond.selects RX1 yX1_isSameAs yX1_isSameAs, Cond.code yX1_isSameAs cX1_isSameAs 3 (some .boolean), Cond.methodLink RX1 19 yX1_at, Cond.methodLink RX4 250 yJx4a65c_add_9ea2d, Cond.instanceMethod yJx4a65c_add_9ea2d, Cond.selects RJx4a65c yJx4a65c_add_9ea2d yJx4a65c_add_9ea2d]
def wsX4_store_r8 : List Cond := [Cond.code yJx4a65c_add_9ea2d cJx4a65c_add_9ea2d 2 (some .boolean), Cond.fieldLink RJx4a65c 63 "java/util/ArrayList" "modCount" "I", Cond.sameField "java/util/ArrayList" "java/util/AbstractList" "modCount" "I", Cond.methodLink RJx4a65c 131 yJx4a65c_add_72be8, Cond.instanceMethod yJx4a65c_add_72be8, Cond.selects RJx4a65c yJx4a65c_add_72be8 yJx4a65c_add_72be8, Cond.code yJx4a65c_add_72be8 cJx4a65c_add_72be8 4 none, Cond.methodLink RJx4a65c 129 yJx4a65c_grow_d5877, Cond.instanceMethod yJx4a65c_grow_d5877, Cond.selects RJx4a65c yJx4a65c_grow_d5877 yJx4a65c_grow_d5877, Cond.code yJx4a65c_grow_d5877 cJx4a65c_grow_d5877 1 (some (.array (.object "java/lang/Object"))), Cond.methodLink RJx4a65c 69 yJx4a65c_grow_92f84, Cond.instanceMethod yJx4a65c_grow_92f84, Cond.selects RJx4a65c yJx4a65c_grow_92f84 yJx4a65c_grow_92f84, Cond.code yJx4a65c_grow_92f84 cJx4a65c_grow_92f84 4 (some (.array (.object "java/lang/Object"))), Cond.fieldLink RJx4a65c 39 "java/util/ArrayList" "DEFAULTCAPACITY_EMPTY_ELEMENTDATA" "[Ljava/lang/Object;", Cond.methodLink RJx4a65c 79 Lib.Math.max.name, Cond.classLink RJx4a65c 7 "java/lang/Object", Cond.methodLink RJx4a65c 73 yJ8_newLength_cabcc, Cond.static yJ8_newLength_cabcc, Cond.initialized RJ8, Cond.code yJ8_newLength_cabcc cJ8_newLength_cabcc 4 (some .int), Cond.methodLink RJ8 194 Lib.Math.max.name, Cond.constant RJ8 200 (2147483639)]
def wsX4_store_r9 : List Cond := [Cond.methodLink RJ8 201 yJ8_hugeLength_7cf53, Cond.static yJ8_hugeLength_7cf53, Cond.code yJ8_hugeLength_7cf53 cJ8_hugeLength_7cf53 3 (some .int), Cond.methodLink RJx4a65c 66 yJ7_copyOf_1904c, Cond.static yJ7_copyOf_1904c, Cond.initialized RJ7, Cond.code yJ7_copyOf_1904c cJ7_copyOf_1904c 2 (some (.array (.object "java/lang/Object"))), Cond.methodLink RJ7 86 ⟨"java/lang/Object", "getClass", "()Ljava/lang/Class;"⟩, Cond.selects "[Ljava/lang/Object;" ⟨"java/lang/Object", "getClass", "()Ljava/lang/Class;"⟩ ⟨"java/lang/Object", "getClass", "()Ljava/lang/Class;"⟩, Cond.instanceMethod ⟨"java/lang/Object", "getClass", "()Ljava/lang/Class;"⟩, Cond.native ⟨"java/lang/Object", "getClass", "()Ljava/lang/Class;"⟩, Cond.methodLink RJ7 300 yJ7_copyOf_6403c, Cond.static yJ7_copyOf_6403c, Cond.code yJ7_copyOf_6403c cJ7_copyOf_6403c 4 (some (.array (.object "java/lang/Object"))), Cond.classLink RJ7 110 "[Ljava/lang/Object;", Cond.classLink RJ7 2 "java/lang/Object", Cond.methodLink RJ7 304 Lib.Math.min.name, Cond.methodLink RJ7 150 arraycopyName, Cond.native arraycopyName, Cond.static arraycopyName, Cond.initialized "java/lang/System", Cond.methodLink RX4 82 yX0_empty, Cond.instanceMethod yX0_empty, Cond.selects RX0 yX0_empty yX0_empty]
def wsX4_store_r10 : List Cond := [Cond.code yX0_empty cX0_empty 1 none]
def wsX4_store : List Cond := .code yX4_store cX4_store 2 (some .int) :: ((wsX4_store_r1 ++ (wsX4_store_r2 ++ (wsX4_store_r3 ++ (wsX4_store_r4 ++ (wsX4_store_r5 ++ (wsX4_store_r6 ++ (wsX4_store_r7 ++ (wsX4_store_r8 ++ (wsX4_store_r9 ++ wsX4_store_r10))))))))) ++ wsX40 ++ wsX00 ++ wsX10 ++ wsX30 ++ wsJx4a65c0 ++ wsX20 ++ (vx_atS RX4 72 "java/lang/IllegalStateException" ["java/lang/RuntimeException", "java/lang/Exception"]).filter goodWord)
def wsX4_stored : List Cond := .code yX4_stored cX4_stored 1 (some .int) :: ([.fieldLink RX4 29 "Bidwhistle" "strategies" "Ljava/util/ArrayList;", .methodLink RX4 94 yJx4a65c_size_8abf5, .instanceMethod yJx4a65c_size_8abf5, .selects RJx4a65c yJx4a65c_size_8abf5 yJx4a65c_size_8abf5, .initialized RJx4a65c, .code yJx4a65c_size_8abf5 cJx4a65c_size_8abf5 1 (some .int), .fieldLink RJx4a65c 48 "java/util/ArrayList" "size" "I"] ++ wsX40 ++ wsJx4a65c0)
def wsX4_strategyAt_r1 : List Cond := [Cond.classLink RX4 219 "java/lang/IndexOutOfBoundsException", Cond.initialized "java/lang/IndexOutOfBoundsException", Cond.fieldLink RX4 29 "Bidwhistle" "strategies" "Ljava/util/ArrayList;", Cond.classLink RX4 111 "Bidwhistle$Strategy", Cond.methodLink RX4 94 yJx4a65c_size_8abf5, Cond.instanceMethod yJx4a65c_size_8abf5, Cond.selects RJx4a65c yJx4a65c_size_8abf5 yJx4a65c_size_8abf5, Cond.initialized RJx4a65c, Cond.code yJx4a65c_size_8abf5 cJx4a65c_size_8abf5 1 (some .int), Cond.fieldLink RJx4a65c 48 "java/util/ArrayList" "size" "I", Cond.methodLink RX4 119 yJx4a65c_get_915e3, Cond.instanceMethod yJx4a65c_get_915e3, Cond.selects RJx4a65c yJx4a65c_get_915e3 yJx4a65c_get_915e3, Cond.code yJx4a65c_get_915e3 cJx4a65c_get_915e3 2 (some (.object "java/lang/Object")), Cond.methodLink RJx4a65c 118 yJ15_checkIndex_7cf53, Cond.static yJ15_checkIndex_7cf53, Cond.initialized RJ15, Cond.code yJ15_checkIndex_7cf53 cJ15_checkIndex_7cf53 2 (some .int), Cond.methodLink RJ15 105 yJ3_checkIndex_8e157, Cond.static yJ3_checkIndex_8e157, Cond.initialized RJ3, Cond.code yJ3_checkIndex_8e157 cJ3_checkIndex_8e157 3 (some .int), Cond.methodLink RJx4a65c 123 yJx4a65c_elementData_915e3, Cond.instanceMethod yJx4a65c_elementData_915e3]
def wsX4_strategyAt_r2 : List Cond := [Cond.selects RJx4a65c yJx4a65c_elementData_915e3 yJx4a65c_elementData_915e3, Cond.code yJx4a65c_elementData_915e3 cJx4a65c_elementData_915e3 2 (some (.object "java/lang/Object")), Cond.fieldLink RJx4a65c 9 "java/util/ArrayList" "elementData" "[Ljava/lang/Object;"]
def wsX4_strategyAt : List Cond := .code yX4_strategyAt cX4_strategyAt 2 (some (.object "Bidwhistle$Strategy")) :: ((wsX4_strategyAt_r1 ++ wsX4_strategyAt_r2) ++ wsX40 ++ wsJx4a65c0 ++ (vx_atS RX4 223 "java/lang/IndexOutOfBoundsException" ["java/lang/RuntimeException", "java/lang/Exception"]).filter goodWord)
def wsX4_requireValue : List Cond := .code yX4_requireValue cX4_requireValue 1 none :: ([.classLink RX4 165 "java/lang/IllegalArgumentException", .initialized "java/lang/IllegalArgumentException"] ++ (vx_atS RX4 169 "java/lang/IllegalArgumentException" ["java/lang/RuntimeException", "java/lang/Exception"]).filter goodWord)
def wsX4_bid_r1 : List Cond := [Cond.methodLink RX4 103 yX4_strategyAt, Cond.instanceMethod yX4_strategyAt, Cond.selects RX4 yX4_strategyAt yX4_strategyAt, Cond.initialized RX4, Cond.code yX4_strategyAt cX4_strategyAt 2 (some (.object "Bidwhistle$Strategy")), Cond.classLink RX4 219 "java/lang/IndexOutOfBoundsException", Cond.initialized "java/lang/IndexOutOfBoundsException", Cond.fieldLink RX4 29 "Bidwhistle" "strategies" "Ljava/util/ArrayList;", Cond.classLink RX4 111 "Bidwhistle$Strategy", Cond.methodLink RX4 94 yJx4a65c_size_8abf5, Cond.instanceMethod yJx4a65c_size_8abf5, Cond.selects RJx4a65c yJx4a65c_size_8abf5 yJx4a65c_size_8abf5, Cond.initialized RJx4a65c, Cond.code yJx4a65c_size_8abf5 cJx4a65c_size_8abf5 1 (some .int), Cond.fieldLink RJx4a65c 48 "java/util/ArrayList" "size" "I", Cond.methodLink RX4 119 yJx4a65c_get_915e3, Cond.instanceMethod yJx4a65c_get_915e3, Cond.selects RJx4a65c yJx4a65c_get_915e3 yJx4a65c_get_915e3, Cond.code yJx4a65c_get_915e3 cJx4a65c_get_915e3 2 (some (.object "java/lang/Object")), Cond.methodLink RJx4a65c 118 yJ15_checkIndex_7cf53, Cond.static yJ15_checkIndex_7cf53, Cond.initialized RJ15, Cond.code yJ15_checkIndex_7cf53 cJ15_checkIndex_7cf53 2 (some .int), Cond.methodLink RJ15 105 yJ3_checkIndex_8e157]
def wsX4_bid_r2 : List Cond := [Cond.static yJ3_checkIndex_8e157, Cond.initialized RJ3, Cond.code yJ3_checkIndex_8e157 cJ3_checkIndex_8e157 3 (some .int), Cond.methodLink RJx4a65c 123 yJx4a65c_elementData_915e3, Cond.instanceMethod yJx4a65c_elementData_915e3, Cond.selects RJx4a65c yJx4a65c_elementData_915e3 yJx4a65c_elementData_915e3, Cond.code yJx4a65c_elementData_915e3 cJx4a65c_elementData_915e3 2 (some (.object "java/lang/Object")), Cond.fieldLink RJx4a65c 9 "java/util/ArrayList" "elementData" "[Ljava/lang/Object;", Cond.methodLink RX4 107 yX4_requireValue, Cond.static yX4_requireValue, Cond.code yX4_requireValue cX4_requireValue 1 none, Cond.classLink RX4 165 "java/lang/IllegalArgumentException", Cond.initialized "java/lang/IllegalArgumentException", Cond.methodLink RX4 110 yX3_bidFor, Cond.instanceMethod yX3_bidFor, Cond.selects RX3 yX3_bidFor yX3_bidFor, Cond.initialized RX3, Cond.code yX3_bidFor cX3_bidFor 2 (some .int), Cond.fieldLink RX3 14 "Bidwhistle$Strategy" "bids" "LBidwhistle$Row;", Cond.methodLink RX3 44 yX1_at, Cond.instanceMethod yX1_at, Cond.selects RX1 yX1_at yX1_at, Cond.initialized RX1, Cond.code yX1_at cX1_at 2 (some .int)]
def wsX4_bid_r3 : List Cond := [Cond.fieldLink RX1 13 "Bidwhistle$Row" "numbers" "[I"]
def wsX4_bid : List Cond := .code yX4_bid cX4_bid 4 (some .int) :: ((wsX4_bid_r1 ++ (wsX4_bid_r2 ++ wsX4_bid_r3)) ++ wsX40 ++ wsJx4a65c0 ++ wsX30 ++ wsX10 ++ (vx_atS RX4 223 "java/lang/IndexOutOfBoundsException" ["java/lang/RuntimeException", "java/lang/Exception"]).filter goodWord ++ (vx_atS RX4 169 "java/lang/IllegalArgumentException" ["java/lang/RuntimeException", "java/lang/Exception"]).filter goodWord)
def wsX4_alike_r1 : List Cond := [Cond.fieldLink RX4 29 "Bidwhistle" "strategies" "Ljava/util/ArrayList;", Cond.classLink RX4 111 "Bidwhistle$Strategy", Cond.methodLink RX4 103 yX4_strategyAt, Cond.instanceMethod yX4_strategyAt, Cond.selects RX4 yX4_strategyAt yX4_strategyAt, Cond.initialized RX4, Cond.code yX4_strategyAt cX4_strategyAt 2 (some (.object "Bidwhistle$Strategy")), Cond.classLink RX4 219 "java/lang/IndexOutOfBoundsException", Cond.initialized "java/lang/IndexOutOfBoundsException", Cond.methodLink RX4 94 yJx4a65c_size_8abf5, Cond.instanceMethod yJx4a65c_size_8abf5, Cond.selects RJx4a65c yJx4a65c_size_8abf5 yJx4a65c_size_8abf5, Cond.initialized RJx4a65c, Cond.code yJx4a65c_size_8abf5 cJx4a65c_size_8abf5 1 (some .int), Cond.fieldLink RJx4a65c 48 "java/util/ArrayList" "size" "I", Cond.methodLink RX4 119 yJx4a65c_get_915e3, Cond.instanceMethod yJx4a65c_get_915e3, Cond.selects RJx4a65c yJx4a65c_get_915e3 yJx4a65c_get_915e3, Cond.code yJx4a65c_get_915e3 cJx4a65c_get_915e3 2 (some (.object "java/lang/Object")), Cond.methodLink RJx4a65c 118 yJ15_checkIndex_7cf53, Cond.static yJ15_checkIndex_7cf53, Cond.initialized RJ15, Cond.code yJ15_checkIndex_7cf53 cJ15_checkIndex_7cf53 2 (some .int), Cond.methodLink RJ15 105 yJ3_checkIndex_8e157]
def wsX4_alike_r2 : List Cond := [Cond.static yJ3_checkIndex_8e157, Cond.initialized RJ3, Cond.code yJ3_checkIndex_8e157 cJ3_checkIndex_8e157 3 (some .int), Cond.methodLink RJx4a65c 123 yJx4a65c_elementData_915e3, Cond.instanceMethod yJx4a65c_elementData_915e3, Cond.selects RJx4a65c yJx4a65c_elementData_915e3 yJx4a65c_elementData_915e3, Cond.code yJx4a65c_elementData_915e3 cJx4a65c_elementData_915e3 2 (some (.object "java/lang/Object")), Cond.fieldLink RJx4a65c 9 "java/util/ArrayList" "elementData" "[Ljava/lang/Object;"]
def wsX4_alike : List Cond := .code yX4_alike cX4_alike 5 (some .int) :: ((wsX4_alike_r1 ++ wsX4_alike_r2) ++ wsX30 ++ wsX40 ++ wsJx4a65c0 ++ (vx_atS RX4 223 "java/lang/IndexOutOfBoundsException" ["java/lang/RuntimeException", "java/lang/Exception"]).filter goodWord)
def wsX4_parent_r1 : List Cond := [Cond.methodLink RX4 103 yX4_strategyAt, Cond.instanceMethod yX4_strategyAt, Cond.selects RX4 yX4_strategyAt yX4_strategyAt, Cond.initialized RX4, Cond.code yX4_strategyAt cX4_strategyAt 2 (some (.object "Bidwhistle$Strategy")), Cond.classLink RX4 219 "java/lang/IndexOutOfBoundsException", Cond.initialized "java/lang/IndexOutOfBoundsException", Cond.fieldLink RX4 29 "Bidwhistle" "strategies" "Ljava/util/ArrayList;", Cond.classLink RX4 111 "Bidwhistle$Strategy", Cond.methodLink RX4 94 yJx4a65c_size_8abf5, Cond.instanceMethod yJx4a65c_size_8abf5, Cond.selects RJx4a65c yJx4a65c_size_8abf5 yJx4a65c_size_8abf5, Cond.initialized RJx4a65c, Cond.code yJx4a65c_size_8abf5 cJx4a65c_size_8abf5 1 (some .int), Cond.fieldLink RJx4a65c 48 "java/util/ArrayList" "size" "I", Cond.methodLink RX4 119 yJx4a65c_get_915e3, Cond.instanceMethod yJx4a65c_get_915e3, Cond.selects RJx4a65c yJx4a65c_get_915e3 yJx4a65c_get_915e3, Cond.code yJx4a65c_get_915e3 cJx4a65c_get_915e3 2 (some (.object "java/lang/Object")), Cond.methodLink RJx4a65c 118 yJ15_checkIndex_7cf53, Cond.static yJ15_checkIndex_7cf53, Cond.initialized RJ15, Cond.code yJ15_checkIndex_7cf53 cJ15_checkIndex_7cf53 2 (some .int), Cond.methodLink RJ15 105 yJ3_checkIndex_8e157]
def wsX4_parent_r2 : List Cond := [Cond.static yJ3_checkIndex_8e157, Cond.initialized RJ3, Cond.code yJ3_checkIndex_8e157 cJ3_checkIndex_8e157 3 (some .int), Cond.methodLink RJx4a65c 123 yJx4a65c_elementData_915e3, Cond.instanceMethod yJx4a65c_elementData_915e3, Cond.selects RJx4a65c yJx4a65c_elementData_915e3 yJx4a65c_elementData_915e3, Cond.code yJx4a65c_elementData_915e3 cJx4a65c_elementData_915e3 2 (some (.object "java/lang/Object")), Cond.fieldLink RJx4a65c 9 "java/util/ArrayList" "elementData" "[Ljava/lang/Object;"]
def wsX4_parent : List Cond := .code yX4_parent cX4_parent 4 (some .int) :: ((wsX4_parent_r1 ++ wsX4_parent_r2) ++ wsX30 ++ wsX40 ++ wsJx4a65c0 ++ (vx_atS RX4 223 "java/lang/IndexOutOfBoundsException" ["java/lang/RuntimeException", "java/lang/Exception"]).filter goodWord)
def wsX4_poolSize_r1 : List Cond := [Cond.fieldLink RX4 29 "Bidwhistle" "strategies" "Ljava/util/ArrayList;", Cond.classLink RX4 111 "Bidwhistle$Strategy", Cond.methodLink RX4 94 yJx4a65c_size_8abf5, Cond.instanceMethod yJx4a65c_size_8abf5, Cond.selects RJx4a65c yJx4a65c_size_8abf5 yJx4a65c_size_8abf5, Cond.initialized RJx4a65c, Cond.code yJx4a65c_size_8abf5 cJx4a65c_size_8abf5 1 (some .int), Cond.fieldLink RJx4a65c 48 "java/util/ArrayList" "size" "I", Cond.methodLink RX4 119 yJx4a65c_get_915e3, Cond.instanceMethod yJx4a65c_get_915e3, Cond.selects RJx4a65c yJx4a65c_get_915e3 yJx4a65c_get_915e3, Cond.code yJx4a65c_get_915e3 cJx4a65c_get_915e3 2 (some (.object "java/lang/Object")), Cond.methodLink RJx4a65c 118 yJ15_checkIndex_7cf53, Cond.static yJ15_checkIndex_7cf53, Cond.initialized RJ15, Cond.code yJ15_checkIndex_7cf53 cJ15_checkIndex_7cf53 2 (some .int), Cond.methodLink RJ15 105 yJ3_checkIndex_8e157, Cond.static yJ3_checkIndex_8e157, Cond.initialized RJ3, Cond.code yJ3_checkIndex_8e157 cJ3_checkIndex_8e157 3 (some .int), Cond.methodLink RJx4a65c 123 yJx4a65c_elementData_915e3, Cond.instanceMethod yJx4a65c_elementData_915e3, Cond.selects RJx4a65c yJx4a65c_elementData_915e3 yJx4a65c_elementData_915e3, Cond.code yJx4a65c_elementData_915e3 cJx4a65c_elementData_915e3 2 (some (.object "java/lang/Object"))]
def wsX4_poolSize_r2 : List Cond := [Cond.fieldLink RJx4a65c 9 "java/util/ArrayList" "elementData" "[Ljava/lang/Object;"]
def wsX4_poolSize : List Cond := .code yX4_poolSize cX4_poolSize 3 (some .int) :: ((wsX4_poolSize_r1 ++ wsX4_poolSize_r2) ++ wsX40 ++ wsX30 ++ wsJx4a65c0)
def wsX4_join_r1 : List Cond := [Cond.classLink RX4 68 "java/lang/IllegalStateException", Cond.initialized "java/lang/IllegalStateException", Cond.fieldLink RX4 33 "Bidwhistle" "forbiddenSteps" "I", Cond.methodLink RX4 103 yX4_strategyAt, Cond.instanceMethod yX4_strategyAt, Cond.selects RX4 yX4_strategyAt yX4_strategyAt, Cond.initialized RX4, Cond.code yX4_strategyAt cX4_strategyAt 2 (some (.object "Bidwhistle$Strategy")), Cond.classLink RX4 219 "java/lang/IndexOutOfBoundsException", Cond.initialized "java/lang/IndexOutOfBoundsException", Cond.fieldLink RX4 29 "Bidwhistle" "strategies" "Ljava/util/ArrayList;", Cond.classLink RX4 111 "Bidwhistle$Strategy", Cond.methodLink RX4 94 yJx4a65c_size_8abf5, Cond.instanceMethod yJx4a65c_size_8abf5, Cond.selects RJx4a65c yJx4a65c_size_8abf5 yJx4a65c_size_8abf5, Cond.initialized RJx4a65c, Cond.code yJx4a65c_size_8abf5 cJx4a65c_size_8abf5 1 (some .int), Cond.fieldLink RJx4a65c 48 "java/util/ArrayList" "size" "I", Cond.methodLink RX4 119 yJx4a65c_get_915e3, Cond.instanceMethod yJx4a65c_get_915e3, Cond.selects RJx4a65c yJx4a65c_get_915e3 yJx4a65c_get_915e3, Cond.code yJx4a65c_get_915e3 cJx4a65c_get_915e3 2 (some (.object "java/lang/Object")), Cond.methodLink RJx4a65c 118 yJ15_checkIndex_7cf53, Cond.static yJ15_checkIndex_7cf53]
def wsX4_join_r2 : List Cond := [Cond.initialized RJ15, Cond.code yJ15_checkIndex_7cf53 cJ15_checkIndex_7cf53 2 (some .int), Cond.methodLink RJ15 105 yJ3_checkIndex_8e157, Cond.static yJ3_checkIndex_8e157, Cond.initialized RJ3, Cond.code yJ3_checkIndex_8e157 cJ3_checkIndex_8e157 3 (some .int), Cond.methodLink RJx4a65c 123 yJx4a65c_elementData_915e3, Cond.instanceMethod yJx4a65c_elementData_915e3, Cond.selects RJx4a65c yJx4a65c_elementData_915e3 yJx4a65c_elementData_915e3, Cond.code yJx4a65c_elementData_915e3 cJx4a65c_elementData_915e3 2 (some (.object "java/lang/Object")), Cond.fieldLink RJx4a65c 9 "java/util/ArrayList" "elementData" "[Ljava/lang/Object;", Cond.methodLink RX4 138 yX0_hasAnyOf, Cond.instanceMethod yX0_hasAnyOf, Cond.selects RX0 yX0_hasAnyOf yX0_hasAnyOf, Cond.initialized RX0, Cond.code yX0_hasAnyOf cX0_hasAnyOf 2 (some .boolean), Cond.fieldLink RX0 24 "Bidwhistle$Program" "stepBits" "I", Cond.methodLink RX4 144 yX4_poolSize, Cond.instanceMethod yX4_poolSize, Cond.selects RX4 yX4_poolSize yX4_poolSize, Cond.code yX4_poolSize cX4_poolSize 3 (some .int)]
def wsX4_join : List Cond := .code yX4_join cX4_join 3 (some .int) :: ((wsX4_join_r1 ++ wsX4_join_r2) ++ wsX30 ++ wsX40 ++ wsJx4a65c0 ++ wsX00 ++ (vx_atS RX4 72 "java/lang/IllegalStateException" ["java/lang/RuntimeException", "java/lang/Exception"]).filter goodWord ++ (vx_atS RX4 223 "java/lang/IndexOutOfBoundsException" ["java/lang/RuntimeException", "java/lang/Exception"]).filter goodWord)
def wsX4_requireInPool : List Cond := .code yX4_requireInPool cX4_requireInPool 1 none :: ([.classLink RX4 68 "java/lang/IllegalStateException", .initialized "java/lang/IllegalStateException"] ++ wsX30 ++ (vx_atS RX4 72 "java/lang/IllegalStateException" ["java/lang/RuntimeException", "java/lang/Exception"]).filter goodWord)
def wsX4_leave_r1 : List Cond := [Cond.methodLink RX4 103 yX4_strategyAt, Cond.instanceMethod yX4_strategyAt, Cond.selects RX4 yX4_strategyAt yX4_strategyAt, Cond.initialized RX4, Cond.code yX4_strategyAt cX4_strategyAt 2 (some (.object "Bidwhistle$Strategy")), Cond.classLink RX4 219 "java/lang/IndexOutOfBoundsException", Cond.initialized "java/lang/IndexOutOfBoundsException", Cond.fieldLink RX4 29 "Bidwhistle" "strategies" "Ljava/util/ArrayList;", Cond.classLink RX4 111 "Bidwhistle$Strategy", Cond.methodLink RX4 94 yJx4a65c_size_8abf5, Cond.instanceMethod yJx4a65c_size_8abf5, Cond.selects RJx4a65c yJx4a65c_size_8abf5 yJx4a65c_size_8abf5, Cond.initialized RJx4a65c, Cond.code yJx4a65c_size_8abf5 cJx4a65c_size_8abf5 1 (some .int), Cond.fieldLink RJx4a65c 48 "java/util/ArrayList" "size" "I", Cond.methodLink RX4 119 yJx4a65c_get_915e3, Cond.instanceMethod yJx4a65c_get_915e3, Cond.selects RJx4a65c yJx4a65c_get_915e3 yJx4a65c_get_915e3, Cond.code yJx4a65c_get_915e3 cJx4a65c_get_915e3 2 (some (.object "java/lang/Object")), Cond.methodLink RJx4a65c 118 yJ15_checkIndex_7cf53, Cond.static yJ15_checkIndex_7cf53, Cond.initialized RJ15, Cond.code yJ15_checkIndex_7cf53 cJ15_checkIndex_7cf53 2 (some .int), Cond.methodLink RJ15 105 yJ3_checkIndex_8e157]
def wsX4_leave_r2 : List Cond := [Cond.static yJ3_checkIndex_8e157, Cond.initialized RJ3, Cond.code yJ3_checkIndex_8e157 cJ3_checkIndex_8e157 3 (some .int), Cond.methodLink RJx4a65c 123 yJx4a65c_elementData_915e3, Cond.instanceMethod yJx4a65c_elementData_915e3, Cond.selects RJx4a65c yJx4a65c_elementData_915e3 yJx4a65c_elementData_915e3, Cond.code yJx4a65c_elementData_915e3 cJx4a65c_elementData_915e3 2 (some (.object "java/lang/Object")), Cond.fieldLink RJx4a65c 9 "java/util/ArrayList" "elementData" "[Ljava/lang/Object;", Cond.methodLink RX4 149 yX4_requireInPool, Cond.static yX4_requireInPool, Cond.code yX4_requireInPool cX4_requireInPool 1 none, Cond.classLink RX4 68 "java/lang/IllegalStateException", Cond.initialized "java/lang/IllegalStateException", Cond.methodLink RX4 144 yX4_poolSize, Cond.instanceMethod yX4_poolSize, Cond.selects RX4 yX4_poolSize yX4_poolSize, Cond.code yX4_poolSize cX4_poolSize 3 (some .int)]
def wsX4_leave : List Cond := .code yX4_leave cX4_leave 3 (some .int) :: ((wsX4_leave_r1 ++ wsX4_leave_r2) ++ wsX30 ++ wsX40 ++ wsJx4a65c0 ++ (vx_atS RX4 223 "java/lang/IndexOutOfBoundsException" ["java/lang/RuntimeException", "java/lang/Exception"]).filter goodWord ++ (vx_atS RX4 72 "java/lang/IllegalStateException" ["java/lang/RuntimeException", "java/lang/Exception"]).filter goodWord)
def wsX4_isIn_r1 : List Cond := [Cond.methodLink RX4 103 yX4_strategyAt, Cond.instanceMethod yX4_strategyAt, Cond.selects RX4 yX4_strategyAt yX4_strategyAt, Cond.initialized RX4, Cond.code yX4_strategyAt cX4_strategyAt 2 (some (.object "Bidwhistle$Strategy")), Cond.classLink RX4 219 "java/lang/IndexOutOfBoundsException", Cond.initialized "java/lang/IndexOutOfBoundsException", Cond.fieldLink RX4 29 "Bidwhistle" "strategies" "Ljava/util/ArrayList;", Cond.classLink RX4 111 "Bidwhistle$Strategy", Cond.methodLink RX4 94 yJx4a65c_size_8abf5, Cond.instanceMethod yJx4a65c_size_8abf5, Cond.selects RJx4a65c yJx4a65c_size_8abf5 yJx4a65c_size_8abf5, Cond.initialized RJx4a65c, Cond.code yJx4a65c_size_8abf5 cJx4a65c_size_8abf5 1 (some .int), Cond.fieldLink RJx4a65c 48 "java/util/ArrayList" "size" "I", Cond.methodLink RX4 119 yJx4a65c_get_915e3, Cond.instanceMethod yJx4a65c_get_915e3, Cond.selects RJx4a65c yJx4a65c_get_915e3 yJx4a65c_get_915e3, Cond.code yJx4a65c_get_915e3 cJx4a65c_get_915e3 2 (some (.object "java/lang/Object")), Cond.methodLink RJx4a65c 118 yJ15_checkIndex_7cf53, Cond.static yJ15_checkIndex_7cf53, Cond.initialized RJ15, Cond.code yJ15_checkIndex_7cf53 cJ15_checkIndex_7cf53 2 (some .int), Cond.methodLink RJ15 105 yJ3_checkIndex_8e157]
def wsX4_isIn_r2 : List Cond := [Cond.static yJ3_checkIndex_8e157, Cond.initialized RJ3, Cond.code yJ3_checkIndex_8e157 cJ3_checkIndex_8e157 3 (some .int), Cond.methodLink RJx4a65c 123 yJx4a65c_elementData_915e3, Cond.instanceMethod yJx4a65c_elementData_915e3, Cond.selects RJx4a65c yJx4a65c_elementData_915e3 yJx4a65c_elementData_915e3, Cond.code yJx4a65c_elementData_915e3 cJx4a65c_elementData_915e3 2 (some (.object "java/lang/Object")), Cond.fieldLink RJx4a65c 9 "java/util/ArrayList" "elementData" "[Ljava/lang/Object;"]
def wsX4_isIn : List Cond := .code yX4_isIn cX4_isIn 2 (some .boolean) :: ((wsX4_isIn_r1 ++ wsX4_isIn_r2) ++ wsX30 ++ wsX40 ++ wsJx4a65c0 ++ (vx_atS RX4 223 "java/lang/IndexOutOfBoundsException" ["java/lang/RuntimeException", "java/lang/Exception"]).filter goodWord)
def wsX4_forbid_r1 : List Cond := [Cond.fieldLink RX4 33 "Bidwhistle" "forbiddenSteps" "I", Cond.fieldLink RX4 29 "Bidwhistle" "strategies" "Ljava/util/ArrayList;", Cond.classLink RX4 111 "Bidwhistle$Strategy", Cond.methodLink RX4 61 yX4_requireStep, Cond.static yX4_requireStep, Cond.initialized RX4, Cond.code yX4_requireStep cX4_requireStep 1 none, Cond.classLink RX4 165 "java/lang/IllegalArgumentException", Cond.initialized "java/lang/IllegalArgumentException", Cond.methodLink RX4 153 yX4_bitOf, Cond.static yX4_bitOf, Cond.code yX4_bitOf cX4_bitOf 1 (some .int), Cond.methodLink RX4 94 yJx4a65c_size_8abf5, Cond.instanceMethod yJx4a65c_size_8abf5, Cond.selects RJx4a65c yJx4a65c_size_8abf5 yJx4a65c_size_8abf5, Cond.initialized RJx4a65c, Cond.code yJx4a65c_size_8abf5 cJx4a65c_size_8abf5 1 (some .int), Cond.fieldLink RJx4a65c 48 "java/util/ArrayList" "size" "I", Cond.methodLink RX4 119 yJx4a65c_get_915e3, Cond.instanceMethod yJx4a65c_get_915e3, Cond.selects RJx4a65c yJx4a65c_get_915e3 yJx4a65c_get_915e3, Cond.code yJx4a65c_get_915e3 cJx4a65c_get_915e3 2 (some (.object "java/lang/Object")), Cond.methodLink RJx4a65c 118 yJ15_checkIndex_7cf53, Cond.static yJ15_checkIndex_7cf53]
def wsX4_forbid_r2 : List Cond := [Cond.initialized RJ15, Cond.code yJ15_checkIndex_7cf53 cJ15_checkIndex_7cf53 2 (some .int), Cond.methodLink RJ15 105 yJ3_checkIndex_8e157, Cond.static yJ3_checkIndex_8e157, Cond.initialized RJ3, Cond.code yJ3_checkIndex_8e157 cJ3_checkIndex_8e157 3 (some .int), Cond.methodLink RJx4a65c 123 yJx4a65c_elementData_915e3, Cond.instanceMethod yJx4a65c_elementData_915e3, Cond.selects RJx4a65c yJx4a65c_elementData_915e3 yJx4a65c_elementData_915e3, Cond.code yJx4a65c_elementData_915e3 cJx4a65c_elementData_915e3 2 (some (.object "java/lang/Object")), Cond.fieldLink RJx4a65c 9 "java/util/ArrayList" "elementData" "[Ljava/lang/Object;"]
def wsX4_forbid : List Cond := .code yX4_forbid cX4_forbid 5 (some .int) :: ((wsX4_forbid_r1 ++ wsX4_forbid_r2) ++ wsX40 ++ wsX30 ++ wsJx4a65c0 ++ (vx_atS RX4 169 "java/lang/IllegalArgumentException" ["java/lang/RuntimeException", "java/lang/Exception"]).filter goodWord)
def wsX4_allow : List Cond := .code yX4_allow cX4_allow 3 (some .boolean) :: ([.fieldLink RX4 33 "Bidwhistle" "forbiddenSteps" "I", .methodLink RX4 61 yX4_requireStep, .static yX4_requireStep, .initialized RX4, .code yX4_requireStep cX4_requireStep 1 none, .classLink RX4 165 "java/lang/IllegalArgumentException", .initialized "java/lang/IllegalArgumentException", .methodLink RX4 153 yX4_bitOf, .static yX4_bitOf, .code yX4_bitOf cX4_bitOf 1 (some .int)] ++ wsX40 ++ (vx_atS RX4 169 "java/lang/IllegalArgumentException" ["java/lang/RuntimeException", "java/lang/Exception"]).filter goodWord)
def wsX4_tell : List Cond := .code yX4_tell cX4_tell 3 (some .int) :: ([.classLink RX4 68 "java/lang/IllegalStateException", .initialized "java/lang/IllegalStateException", .fieldLink RX4 49 "Bidwhistle" "pairsTold" "I", .fieldLink RX4 42 "Bidwhistle" "firstValues" "LBidwhistle$Row;", .fieldLink RX4 46 "Bidwhistle" "secondValues" "LBidwhistle$Row;", .methodLink RX4 107 yX4_requireValue, .static yX4_requireValue, .initialized RX4, .code yX4_requireValue cX4_requireValue 1 none, .classLink RX4 165 "java/lang/IllegalArgumentException", .initialized "java/lang/IllegalArgumentException", .methodLink RX4 161 yX1_put, .instanceMethod yX1_put, .selects RX1 yX1_put yX1_put, .initialized RX1, .code yX1_put cX1_put 3 none, .fieldLink RX1 13 "Bidwhistle$Row" "numbers" "[I"] ++ wsX40 ++ wsX10 ++ (vx_atS RX4 72 "java/lang/IllegalStateException" ["java/lang/RuntimeException", "java/lang/Exception"]).filter goodWord ++ (vx_atS RX4 169 "java/lang/IllegalArgumentException" ["java/lang/RuntimeException", "java/lang/Exception"]).filter goodWord)
def wsX4_forget : List Cond := .code yX4_forget cX4_forget 2 (some .int) :: ([.fieldLink RX4 49 "Bidwhistle" "pairsTold" "I"] ++ wsX40)
def wsX4_requireAuction : List Cond := .code yX4_requireAuction cX4_requireAuction 1 none :: ([.classLink RX4 165 "java/lang/IllegalArgumentException", .initialized "java/lang/IllegalArgumentException"] ++ (vx_atS RX4 169 "java/lang/IllegalArgumentException" ["java/lang/RuntimeException", "java/lang/Exception"]).filter goodWord)
def wsX4_wins : List Cond := .code yX4_wins cX4_wins 4 (some .boolean) :: ([])
def wsX4_paid : List Cond := .code yX4_paid cX4_paid 4 (some .int) :: ([])
def wsX4_profitOf : List Cond := .code yX4_profitOf cX4_profitOf 5 (some .int) :: ([.methodLink RX4 259 yX4_paid, .static yX4_paid, .initialized RX4, .code yX4_paid cX4_paid 4 (some .int)])
def wsX4_profitAgainst : List Cond := .code yX4_profitAgainst cX4_profitAgainst 7 (some .int) :: ([.methodLink RX4 110 yX3_bidFor, .instanceMethod yX3_bidFor, .selects RX3 yX3_bidFor yX3_bidFor, .initialized RX3, .code yX3_bidFor cX3_bidFor 2 (some .int), .fieldLink RX3 14 "Bidwhistle$Strategy" "bids" "LBidwhistle$Row;", .methodLink RX3 44 yX1_at, .instanceMethod yX1_at, .selects RX1 yX1_at yX1_at, .initialized RX1, .code yX1_at cX1_at 2 (some .int), .fieldLink RX1 13 "Bidwhistle$Row" "numbers" "[I", .methodLink RX4 263 yX4_wins, .static yX4_wins, .initialized RX4, .code yX4_wins cX4_wins 4 (some .boolean), .methodLink RX4 267 yX4_profitOf, .static yX4_profitOf, .code yX4_profitOf cX4_profitOf 5 (some .int), .methodLink RX4 259 yX4_paid, .static yX4_paid, .code yX4_paid cX4_paid 4 (some .int)] ++ wsX30 ++ wsX10)
def wsX4_profit_r1 : List Cond := [Cond.classLink RX4 165 "java/lang/IllegalArgumentException", Cond.initialized "java/lang/IllegalArgumentException", Cond.methodLink RX4 103 yX4_strategyAt, Cond.instanceMethod yX4_strategyAt, Cond.selects RX4 yX4_strategyAt yX4_strategyAt, Cond.initialized RX4, Cond.code yX4_strategyAt cX4_strategyAt 2 (some (.object "Bidwhistle$Strategy")), Cond.classLink RX4 219 "java/lang/IndexOutOfBoundsException", Cond.initialized "java/lang/IndexOutOfBoundsException", Cond.fieldLink RX4 29 "Bidwhistle" "strategies" "Ljava/util/ArrayList;", Cond.classLink RX4 111 "Bidwhistle$Strategy", Cond.methodLink RX4 94 yJx4a65c_size_8abf5, Cond.instanceMethod yJx4a65c_size_8abf5, Cond.selects RJx4a65c yJx4a65c_size_8abf5 yJx4a65c_size_8abf5, Cond.initialized RJx4a65c, Cond.code yJx4a65c_size_8abf5 cJx4a65c_size_8abf5 1 (some .int), Cond.fieldLink RJx4a65c 48 "java/util/ArrayList" "size" "I", Cond.methodLink RX4 119 yJx4a65c_get_915e3, Cond.instanceMethod yJx4a65c_get_915e3, Cond.selects RJx4a65c yJx4a65c_get_915e3 yJx4a65c_get_915e3, Cond.code yJx4a65c_get_915e3 cJx4a65c_get_915e3 2 (some (.object "java/lang/Object")), Cond.methodLink RJx4a65c 118 yJ15_checkIndex_7cf53, Cond.static yJ15_checkIndex_7cf53, Cond.initialized RJ15]
def wsX4_profit_r2 : List Cond := [Cond.code yJ15_checkIndex_7cf53 cJ15_checkIndex_7cf53 2 (some .int), Cond.methodLink RJ15 105 yJ3_checkIndex_8e157, Cond.static yJ3_checkIndex_8e157, Cond.initialized RJ3, Cond.code yJ3_checkIndex_8e157 cJ3_checkIndex_8e157 3 (some .int), Cond.methodLink RJx4a65c 123 yJx4a65c_elementData_915e3, Cond.instanceMethod yJx4a65c_elementData_915e3, Cond.selects RJx4a65c yJx4a65c_elementData_915e3 yJx4a65c_elementData_915e3, Cond.code yJx4a65c_elementData_915e3 cJx4a65c_elementData_915e3 2 (some (.object "java/lang/Object")), Cond.fieldLink RJx4a65c 9 "java/util/ArrayList" "elementData" "[Ljava/lang/Object;", Cond.methodLink RX4 170 yX4_requireAuction, Cond.static yX4_requireAuction, Cond.code yX4_requireAuction cX4_requireAuction 1 none, Cond.methodLink RX4 107 yX4_requireValue, Cond.static yX4_requireValue, Cond.code yX4_requireValue cX4_requireValue 1 none, Cond.methodLink RX4 173 yX4_profitAgainst, Cond.static yX4_profitAgainst, Cond.code yX4_profitAgainst cX4_profitAgainst 7 (some .int), Cond.methodLink RX4 110 yX3_bidFor, Cond.instanceMethod yX3_bidFor, Cond.selects RX3 yX3_bidFor yX3_bidFor, Cond.initialized RX3, Cond.code yX3_bidFor cX3_bidFor 2 (some .int)]
def wsX4_profit_r3 : List Cond := [Cond.fieldLink RX3 14 "Bidwhistle$Strategy" "bids" "LBidwhistle$Row;", Cond.methodLink RX3 44 yX1_at, Cond.instanceMethod yX1_at, Cond.selects RX1 yX1_at yX1_at, Cond.initialized RX1, Cond.code yX1_at cX1_at 2 (some .int), Cond.fieldLink RX1 13 "Bidwhistle$Row" "numbers" "[I", Cond.methodLink RX4 263 yX4_wins, Cond.static yX4_wins, Cond.code yX4_wins cX4_wins 4 (some .boolean), Cond.methodLink RX4 267 yX4_profitOf, Cond.static yX4_profitOf, Cond.code yX4_profitOf cX4_profitOf 5 (some .int), Cond.methodLink RX4 259 yX4_paid, Cond.static yX4_paid, Cond.code yX4_paid cX4_paid 4 (some .int)]
def wsX4_profit : List Cond := .code yX4_profit cX4_profit 8 (some .int) :: ((wsX4_profit_r1 ++ (wsX4_profit_r2 ++ wsX4_profit_r3)) ++ wsX40 ++ wsJx4a65c0 ++ wsX30 ++ wsX10 ++ (vx_atS RX4 169 "java/lang/IllegalArgumentException" ["java/lang/RuntimeException", "java/lang/Exception"]).filter goodWord ++ (vx_atS RX4 223 "java/lang/IndexOutOfBoundsException" ["java/lang/RuntimeException", "java/lang/Exception"]).filter goodWord)
def wsX4_profitOfRounds_r1 : List Cond := [Cond.fieldLink RX4 49 "Bidwhistle" "pairsTold" "I", Cond.fieldLink RX4 42 "Bidwhistle" "firstValues" "LBidwhistle$Row;", Cond.fieldLink RX4 46 "Bidwhistle" "secondValues" "LBidwhistle$Row;", Cond.methodLink RX4 181 yX1_at, Cond.instanceMethod yX1_at, Cond.selects RX1 yX1_at yX1_at, Cond.initialized RX1, Cond.code yX1_at cX1_at 2 (some .int), Cond.fieldLink RX1 13 "Bidwhistle$Row" "numbers" "[I", Cond.methodLink RX4 173 yX4_profitAgainst, Cond.static yX4_profitAgainst, Cond.initialized RX4, Cond.code yX4_profitAgainst cX4_profitAgainst 7 (some .int), Cond.methodLink RX4 110 yX3_bidFor, Cond.instanceMethod yX3_bidFor, Cond.selects RX3 yX3_bidFor yX3_bidFor, Cond.initialized RX3, Cond.code yX3_bidFor cX3_bidFor 2 (some .int), Cond.fieldLink RX3 14 "Bidwhistle$Strategy" "bids" "LBidwhistle$Row;", Cond.methodLink RX3 44 yX1_at, Cond.methodLink RX4 263 yX4_wins, Cond.static yX4_wins, Cond.code yX4_wins cX4_wins 4 (some .boolean), Cond.methodLink RX4 267 yX4_profitOf]
def wsX4_profitOfRounds_r2 : List Cond := [Cond.static yX4_profitOf, Cond.code yX4_profitOf cX4_profitOf 5 (some .int), Cond.methodLink RX4 259 yX4_paid, Cond.static yX4_paid, Cond.code yX4_paid cX4_paid 4 (some .int)]
def wsX4_profitOfRounds : List Cond := .code yX4_profitOfRounds cX4_profitOfRounds 8 (some .int) :: ((wsX4_profitOfRounds_r1 ++ wsX4_profitOfRounds_r2) ++ wsX40 ++ wsX10 ++ wsX30)
def wsX4_worthByStrategies_r1 : List Cond := [Cond.fieldLink RX4 29 "Bidwhistle" "strategies" "Ljava/util/ArrayList;", Cond.classLink RX4 111 "Bidwhistle$Strategy", Cond.methodLink RX4 94 yJx4a65c_size_8abf5, Cond.instanceMethod yJx4a65c_size_8abf5, Cond.selects RJx4a65c yJx4a65c_size_8abf5 yJx4a65c_size_8abf5, Cond.initialized RJx4a65c, Cond.code yJx4a65c_size_8abf5 cJx4a65c_size_8abf5 1 (some .int), Cond.fieldLink RJx4a65c 48 "java/util/ArrayList" "size" "I", Cond.methodLink RX4 119 yJx4a65c_get_915e3, Cond.instanceMethod yJx4a65c_get_915e3, Cond.selects RJx4a65c yJx4a65c_get_915e3 yJx4a65c_get_915e3, Cond.code yJx4a65c_get_915e3 cJx4a65c_get_915e3 2 (some (.object "java/lang/Object")), Cond.methodLink RJx4a65c 118 yJ15_checkIndex_7cf53, Cond.static yJ15_checkIndex_7cf53, Cond.initialized RJ15, Cond.code yJ15_checkIndex_7cf53 cJ15_checkIndex_7cf53 2 (some .int), Cond.methodLink RJ15 105 yJ3_checkIndex_8e157, Cond.static yJ3_checkIndex_8e157, Cond.initialized RJ3, Cond.code yJ3_checkIndex_8e157 cJ3_checkIndex_8e157 3 (some .int), Cond.methodLink RJx4a65c 123 yJx4a65c_elementData_915e3, Cond.instanceMethod yJx4a65c_elementData_915e3, Cond.selects RJx4a65c yJx4a65c_elementData_915e3 yJx4a65c_elementData_915e3, Cond.code yJx4a65c_elementData_915e3 cJx4a65c_elementData_915e3 2 (some (.object "java/lang/Object"))]
def wsX4_worthByStrategies_r2 : List Cond := [Cond.fieldLink RJx4a65c 9 "java/util/ArrayList" "elementData" "[Ljava/lang/Object;", Cond.methodLink RX4 271 yX4_profitOfRounds, Cond.instanceMethod yX4_profitOfRounds, Cond.selects RX4 yX4_profitOfRounds yX4_profitOfRounds, Cond.initialized RX4, Cond.code yX4_profitOfRounds cX4_profitOfRounds 8 (some .int), Cond.fieldLink RX4 49 "Bidwhistle" "pairsTold" "I", Cond.fieldLink RX4 42 "Bidwhistle" "firstValues" "LBidwhistle$Row;", Cond.fieldLink RX4 46 "Bidwhistle" "secondValues" "LBidwhistle$Row;", Cond.methodLink RX4 181 yX1_at, Cond.instanceMethod yX1_at, Cond.selects RX1 yX1_at yX1_at, Cond.initialized RX1, Cond.code yX1_at cX1_at 2 (some .int), Cond.fieldLink RX1 13 "Bidwhistle$Row" "numbers" "[I", Cond.methodLink RX4 173 yX4_profitAgainst, Cond.static yX4_profitAgainst, Cond.code yX4_profitAgainst cX4_profitAgainst 7 (some .int), Cond.methodLink RX4 110 yX3_bidFor, Cond.instanceMethod yX3_bidFor, Cond.selects RX3 yX3_bidFor yX3_bidFor, Cond.initialized RX3, Cond.code yX3_bidFor cX3_bidFor 2 (some .int), Cond.fieldLink RX3 14 "Bidwhistle$Strategy" "bids" "LBidwhistle$Row;"]
def wsX4_worthByStrategies_r3 : List Cond := [Cond.methodLink RX3 44 yX1_at, Cond.methodLink RX4 263 yX4_wins, Cond.static yX4_wins, Cond.code yX4_wins cX4_wins 4 (some .boolean), Cond.methodLink RX4 267 yX4_profitOf, Cond.static yX4_profitOf, Cond.code yX4_profitOf cX4_profitOf 5 (some .int), Cond.methodLink RX4 259 yX4_paid, Cond.static yX4_paid, Cond.code yX4_paid cX4_paid 4 (some .int)]
def wsX4_worthByStrategies : List Cond := .code yX4_worthByStrategies cX4_worthByStrategies 6 (some .int) :: ((wsX4_worthByStrategies_r1 ++ (wsX4_worthByStrategies_r2 ++ wsX4_worthByStrategies_r3)) ++ wsX40 ++ wsX30 ++ wsJx4a65c0 ++ wsX10)
def wsX4_worth_r1 : List Cond := [Cond.methodLink RX4 103 yX4_strategyAt, Cond.instanceMethod yX4_strategyAt, Cond.selects RX4 yX4_strategyAt yX4_strategyAt, Cond.initialized RX4, Cond.code yX4_strategyAt cX4_strategyAt 2 (some (.object "Bidwhistle$Strategy")), Cond.classLink RX4 219 "java/lang/IndexOutOfBoundsException", Cond.initialized "java/lang/IndexOutOfBoundsException", Cond.fieldLink RX4 29 "Bidwhistle" "strategies" "Ljava/util/ArrayList;", Cond.classLink RX4 111 "Bidwhistle$Strategy", Cond.methodLink RX4 94 yJx4a65c_size_8abf5, Cond.instanceMethod yJx4a65c_size_8abf5, Cond.selects RJx4a65c yJx4a65c_size_8abf5 yJx4a65c_size_8abf5, Cond.initialized RJx4a65c, Cond.code yJx4a65c_size_8abf5 cJx4a65c_size_8abf5 1 (some .int), Cond.fieldLink RJx4a65c 48 "java/util/ArrayList" "size" "I", Cond.methodLink RX4 119 yJx4a65c_get_915e3, Cond.instanceMethod yJx4a65c_get_915e3, Cond.selects RJx4a65c yJx4a65c_get_915e3 yJx4a65c_get_915e3, Cond.code yJx4a65c_get_915e3 cJx4a65c_get_915e3 2 (some (.object "java/lang/Object")), Cond.methodLink RJx4a65c 118 yJ15_checkIndex_7cf53, Cond.static yJ15_checkIndex_7cf53, Cond.initialized RJ15, Cond.code yJ15_checkIndex_7cf53 cJ15_checkIndex_7cf53 2 (some .int), Cond.methodLink RJ15 105 yJ3_checkIndex_8e157]
def wsX4_worth_r2 : List Cond := [Cond.static yJ3_checkIndex_8e157, Cond.initialized RJ3, Cond.code yJ3_checkIndex_8e157 cJ3_checkIndex_8e157 3 (some .int), Cond.methodLink RJx4a65c 123 yJx4a65c_elementData_915e3, Cond.instanceMethod yJx4a65c_elementData_915e3, Cond.selects RJx4a65c yJx4a65c_elementData_915e3 yJx4a65c_elementData_915e3, Cond.code yJx4a65c_elementData_915e3 cJx4a65c_elementData_915e3 2 (some (.object "java/lang/Object")), Cond.fieldLink RJx4a65c 9 "java/util/ArrayList" "elementData" "[Ljava/lang/Object;", Cond.methodLink RX4 170 yX4_requireAuction, Cond.static yX4_requireAuction, Cond.code yX4_requireAuction cX4_requireAuction 1 none, Cond.classLink RX4 165 "java/lang/IllegalArgumentException", Cond.initialized "java/lang/IllegalArgumentException", Cond.methodLink RX4 149 yX4_requireInPool, Cond.static yX4_requireInPool, Cond.code yX4_requireInPool cX4_requireInPool 1 none, Cond.classLink RX4 68 "java/lang/IllegalStateException", Cond.initialized "java/lang/IllegalStateException", Cond.methodLink RX4 177 yX4_worthByStrategies, Cond.instanceMethod yX4_worthByStrategies, Cond.selects RX4 yX4_worthByStrategies yX4_worthByStrategies, Cond.code yX4_worthByStrategies cX4_worthByStrategies 6 (some .int), Cond.methodLink RX4 271 yX4_profitOfRounds, Cond.instanceMethod yX4_profitOfRounds]
def wsX4_worth_r3 : List Cond := [Cond.selects RX4 yX4_profitOfRounds yX4_profitOfRounds, Cond.code yX4_profitOfRounds cX4_profitOfRounds 8 (some .int), Cond.fieldLink RX4 49 "Bidwhistle" "pairsTold" "I", Cond.fieldLink RX4 42 "Bidwhistle" "firstValues" "LBidwhistle$Row;", Cond.fieldLink RX4 46 "Bidwhistle" "secondValues" "LBidwhistle$Row;", Cond.methodLink RX4 181 yX1_at, Cond.instanceMethod yX1_at, Cond.selects RX1 yX1_at yX1_at, Cond.initialized RX1, Cond.code yX1_at cX1_at 2 (some .int), Cond.fieldLink RX1 13 "Bidwhistle$Row" "numbers" "[I", Cond.methodLink RX4 173 yX4_profitAgainst, Cond.static yX4_profitAgainst, Cond.code yX4_profitAgainst cX4_profitAgainst 7 (some .int), Cond.methodLink RX4 110 yX3_bidFor, Cond.instanceMethod yX3_bidFor, Cond.selects RX3 yX3_bidFor yX3_bidFor, Cond.initialized RX3, Cond.code yX3_bidFor cX3_bidFor 2 (some .int), Cond.fieldLink RX3 14 "Bidwhistle$Strategy" "bids" "LBidwhistle$Row;", Cond.methodLink RX3 44 yX1_at, Cond.methodLink RX4 263 yX4_wins, Cond.static yX4_wins, Cond.code yX4_wins cX4_wins 4 (some .boolean)]
def wsX4_worth_r4 : List Cond := [Cond.methodLink RX4 267 yX4_profitOf, Cond.static yX4_profitOf, Cond.code yX4_profitOf cX4_profitOf 5 (some .int), Cond.methodLink RX4 259 yX4_paid, Cond.static yX4_paid, Cond.code yX4_paid cX4_paid 4 (some .int)]
def wsX4_worth : List Cond := .code yX4_worth cX4_worth 4 (some .int) :: ((wsX4_worth_r1 ++ (wsX4_worth_r2 ++ (wsX4_worth_r3 ++ wsX4_worth_r4))) ++ wsX40 ++ wsJx4a65c0 ++ wsX30 ++ wsX10 ++ (vx_atS RX4 223 "java/lang/IndexOutOfBoundsException" ["java/lang/RuntimeException", "java/lang/Exception"]).filter goodWord ++ (vx_atS RX4 169 "java/lang/IllegalArgumentException" ["java/lang/RuntimeException", "java/lang/Exception"]).filter goodWord ++ (vx_atS RX4 72 "java/lang/IllegalStateException" ["java/lang/RuntimeException", "java/lang/Exception"]).filter goodWord)
def wsX4_layBids_r1 : List Cond := [Cond.fieldLink RX4 29 "Bidwhistle" "strategies" "Ljava/util/ArrayList;", Cond.classLink RX4 111 "Bidwhistle$Strategy", Cond.methodLink RX4 94 yJx4a65c_size_8abf5, Cond.instanceMethod yJx4a65c_size_8abf5, Cond.selects RJx4a65c yJx4a65c_size_8abf5 yJx4a65c_size_8abf5, Cond.initialized RJx4a65c, Cond.code yJx4a65c_size_8abf5 cJx4a65c_size_8abf5 1 (some .int), Cond.fieldLink RJx4a65c 48 "java/util/ArrayList" "size" "I", Cond.methodLink RX4 119 yJx4a65c_get_915e3, Cond.instanceMethod yJx4a65c_get_915e3, Cond.selects RJx4a65c yJx4a65c_get_915e3 yJx4a65c_get_915e3, Cond.code yJx4a65c_get_915e3 cJx4a65c_get_915e3 2 (some (.object "java/lang/Object")), Cond.methodLink RJx4a65c 118 yJ15_checkIndex_7cf53, Cond.static yJ15_checkIndex_7cf53, Cond.initialized RJ15, Cond.code yJ15_checkIndex_7cf53 cJ15_checkIndex_7cf53 2 (some .int), Cond.methodLink RJ15 105 yJ3_checkIndex_8e157, Cond.static yJ3_checkIndex_8e157, Cond.initialized RJ3, Cond.code yJ3_checkIndex_8e157 cJ3_checkIndex_8e157 3 (some .int), Cond.methodLink RJx4a65c 123 yJx4a65c_elementData_915e3, Cond.instanceMethod yJx4a65c_elementData_915e3, Cond.selects RJx4a65c yJx4a65c_elementData_915e3 yJx4a65c_elementData_915e3, Cond.code yJx4a65c_elementData_915e3 cJx4a65c_elementData_915e3 2 (some (.object "java/lang/Object"))]
def wsX4_layBids_r2 : List Cond := [Cond.fieldLink RJx4a65c 9 "java/util/ArrayList" "elementData" "[Ljava/lang/Object;", Cond.methodLink RX4 110 yX3_bidFor, Cond.instanceMethod yX3_bidFor, Cond.selects RX3 yX3_bidFor yX3_bidFor, Cond.initialized RX3, Cond.code yX3_bidFor cX3_bidFor 2 (some .int), Cond.fieldLink RX3 14 "Bidwhistle$Strategy" "bids" "LBidwhistle$Row;", Cond.methodLink RX3 44 yX1_at, Cond.instanceMethod yX1_at, Cond.selects RX1 yX1_at yX1_at, Cond.initialized RX1, Cond.code yX1_at cX1_at 2 (some .int), Cond.fieldLink RX1 13 "Bidwhistle$Row" "numbers" "[I", Cond.methodLink RX4 161 yX1_put, Cond.instanceMethod yX1_put, Cond.selects RX1 yX1_put yX1_put, Cond.code yX1_put cX1_put 3 none]
def wsX4_layBids : List Cond := .code yX4_layBids cX4_layBids 5 none :: ((wsX4_layBids_r1 ++ wsX4_layBids_r2) ++ wsX40 ++ wsX30 ++ wsJx4a65c0 ++ wsX10)
def wsX4_profitInRows_r1 : List Cond := [Cond.fieldLink RX4 29 "Bidwhistle" "strategies" "Ljava/util/ArrayList;", Cond.classLink RX4 111 "Bidwhistle$Strategy", Cond.methodLink RX4 181 yX1_at, Cond.instanceMethod yX1_at, Cond.selects RX1 yX1_at yX1_at, Cond.initialized RX1, Cond.code yX1_at cX1_at 2 (some .int), Cond.fieldLink RX1 13 "Bidwhistle$Row" "numbers" "[I", Cond.methodLink RX4 94 yJx4a65c_size_8abf5, Cond.instanceMethod yJx4a65c_size_8abf5, Cond.selects RJx4a65c yJx4a65c_size_8abf5 yJx4a65c_size_8abf5, Cond.initialized RJx4a65c, Cond.code yJx4a65c_size_8abf5 cJx4a65c_size_8abf5 1 (some .int), Cond.fieldLink RJx4a65c 48 "java/util/ArrayList" "size" "I", Cond.methodLink RX4 119 yJx4a65c_get_915e3, Cond.instanceMethod yJx4a65c_get_915e3, Cond.selects RJx4a65c yJx4a65c_get_915e3 yJx4a65c_get_915e3, Cond.code yJx4a65c_get_915e3 cJx4a65c_get_915e3 2 (some (.object "java/lang/Object")), Cond.methodLink RJx4a65c 118 yJ15_checkIndex_7cf53, Cond.static yJ15_checkIndex_7cf53, Cond.initialized RJ15, Cond.code yJ15_checkIndex_7cf53 cJ15_checkIndex_7cf53 2 (some .int), Cond.methodLink RJ15 105 yJ3_checkIndex_8e157, Cond.static yJ3_checkIndex_8e157]
def wsX4_profitInRows_r2 : List Cond := [Cond.initialized RJ3, Cond.code yJ3_checkIndex_8e157 cJ3_checkIndex_8e157 3 (some .int), Cond.methodLink RJx4a65c 123 yJx4a65c_elementData_915e3, Cond.instanceMethod yJx4a65c_elementData_915e3, Cond.selects RJx4a65c yJx4a65c_elementData_915e3 yJx4a65c_elementData_915e3, Cond.code yJx4a65c_elementData_915e3 cJx4a65c_elementData_915e3 2 (some (.object "java/lang/Object")), Cond.fieldLink RJx4a65c 9 "java/util/ArrayList" "elementData" "[Ljava/lang/Object;", Cond.methodLink RX4 263 yX4_wins, Cond.static yX4_wins, Cond.initialized RX4, Cond.code yX4_wins cX4_wins 4 (some .boolean), Cond.methodLink RX4 267 yX4_profitOf, Cond.static yX4_profitOf, Cond.code yX4_profitOf cX4_profitOf 5 (some .int), Cond.methodLink RX4 259 yX4_paid, Cond.static yX4_paid, Cond.code yX4_paid cX4_paid 4 (some .int)]
def wsX4_profitInRows : List Cond := .code yX4_profitInRows cX4_profitInRows 10 (some .int) :: ((wsX4_profitInRows_r1 ++ wsX4_profitInRows_r2) ++ wsX40 ++ wsX30 ++ wsX10 ++ wsJx4a65c0)
def wsX4_worthByValues_r1 : List Cond := [Cond.fieldLink RX4 49 "Bidwhistle" "pairsTold" "I", Cond.fieldLink RX4 42 "Bidwhistle" "firstValues" "LBidwhistle$Row;", Cond.fieldLink RX4 46 "Bidwhistle" "secondValues" "LBidwhistle$Row;", Cond.fieldLink RX4 52 "Bidwhistle" "bidsForFirst" "LBidwhistle$Row;", Cond.fieldLink RX4 55 "Bidwhistle" "bidsForSecond" "LBidwhistle$Row;", Cond.methodLink RX4 103 yX4_strategyAt, Cond.instanceMethod yX4_strategyAt, Cond.selects RX4 yX4_strategyAt yX4_strategyAt, Cond.initialized RX4, Cond.code yX4_strategyAt cX4_strategyAt 2 (some (.object "Bidwhistle$Strategy")), Cond.classLink RX4 219 "java/lang/IndexOutOfBoundsException", Cond.initialized "java/lang/IndexOutOfBoundsException", Cond.fieldLink RX4 29 "Bidwhistle" "strategies" "Ljava/util/ArrayList;", Cond.classLink RX4 111 "Bidwhistle$Strategy", Cond.methodLink RX4 94 yJx4a65c_size_8abf5, Cond.instanceMethod yJx4a65c_size_8abf5, Cond.selects RJx4a65c yJx4a65c_size_8abf5 yJx4a65c_size_8abf5, Cond.initialized RJx4a65c, Cond.code yJx4a65c_size_8abf5 cJx4a65c_size_8abf5 1 (some .int), Cond.fieldLink RJx4a65c 48 "java/util/ArrayList" "size" "I", Cond.methodLink RX4 119 yJx4a65c_get_915e3, Cond.instanceMethod yJx4a65c_get_915e3, Cond.selects RJx4a65c yJx4a65c_get_915e3 yJx4a65c_get_915e3, Cond.code yJx4a65c_get_915e3 cJx4a65c_get_915e3 2 (some (.object "java/lang/Object"))]
def wsX4_worthByValues_r2 : List Cond := [Cond.methodLink RJx4a65c 118 yJ15_checkIndex_7cf53, Cond.static yJ15_checkIndex_7cf53, Cond.initialized RJ15, Cond.code yJ15_checkIndex_7cf53 cJ15_checkIndex_7cf53 2 (some .int), Cond.methodLink RJ15 105 yJ3_checkIndex_8e157, Cond.static yJ3_checkIndex_8e157, Cond.initialized RJ3, Cond.code yJ3_checkIndex_8e157 cJ3_checkIndex_8e157 3 (some .int), Cond.methodLink RJx4a65c 123 yJx4a65c_elementData_915e3, Cond.instanceMethod yJx4a65c_elementData_915e3, Cond.selects RJx4a65c yJx4a65c_elementData_915e3 yJx4a65c_elementData_915e3, Cond.code yJx4a65c_elementData_915e3 cJx4a65c_elementData_915e3 2 (some (.object "java/lang/Object")), Cond.fieldLink RJx4a65c 9 "java/util/ArrayList" "elementData" "[Ljava/lang/Object;", Cond.methodLink RX4 170 yX4_requireAuction, Cond.static yX4_requireAuction, Cond.code yX4_requireAuction cX4_requireAuction 1 none, Cond.classLink RX4 165 "java/lang/IllegalArgumentException", Cond.initialized "java/lang/IllegalArgumentException", Cond.methodLink RX4 149 yX4_requireInPool, Cond.static yX4_requireInPool, Cond.code yX4_requireInPool cX4_requireInPool 1 none, Cond.classLink RX4 68 "java/lang/IllegalStateException", Cond.initialized "java/lang/IllegalStateException", Cond.methodLink RX4 181 yX1_at]
def wsX4_worthByValues_r3 : List Cond := [Cond.instanceMethod yX1_at, Cond.selects RX1 yX1_at yX1_at, Cond.initialized RX1, Cond.code yX1_at cX1_at 2 (some .int), Cond.fieldLink RX1 13 "Bidwhistle$Row" "numbers" "[I", Cond.methodLink RX4 184 yX4_layBids, Cond.instanceMethod yX4_layBids, Cond.selects RX4 yX4_layBids yX4_layBids, Cond.code yX4_layBids cX4_layBids 5 none, Cond.methodLink RX4 110 yX3_bidFor, Cond.instanceMethod yX3_bidFor, Cond.selects RX3 yX3_bidFor yX3_bidFor, Cond.initialized RX3, Cond.code yX3_bidFor cX3_bidFor 2 (some .int), Cond.fieldLink RX3 14 "Bidwhistle$Strategy" "bids" "LBidwhistle$Row;", Cond.methodLink RX3 44 yX1_at, Cond.methodLink RX4 161 yX1_put, Cond.instanceMethod yX1_put, Cond.selects RX1 yX1_put yX1_put, Cond.code yX1_put cX1_put 3 none, Cond.methodLink RX4 188 yX4_profitInRows, Cond.instanceMethod yX4_profitInRows, Cond.selects RX4 yX4_profitInRows yX4_profitInRows, Cond.code yX4_profitInRows cX4_profitInRows 10 (some .int)]
def wsX4_worthByValues_r4 : List Cond := [Cond.methodLink RX4 263 yX4_wins, Cond.static yX4_wins, Cond.code yX4_wins cX4_wins 4 (some .boolean), Cond.methodLink RX4 267 yX4_profitOf, Cond.static yX4_profitOf, Cond.code yX4_profitOf cX4_profitOf 5 (some .int), Cond.methodLink RX4 259 yX4_paid, Cond.static yX4_paid, Cond.code yX4_paid cX4_paid 4 (some .int)]
def wsX4_worthByValues : List Cond := .code yX4_worthByValues cX4_worthByValues 8 (some .int) :: ((wsX4_worthByValues_r1 ++ (wsX4_worthByValues_r2 ++ (wsX4_worthByValues_r3 ++ wsX4_worthByValues_r4))) ++ wsX40 ++ wsJx4a65c0 ++ wsX30 ++ wsX10 ++ (vx_atS RX4 223 "java/lang/IndexOutOfBoundsException" ["java/lang/RuntimeException", "java/lang/Exception"]).filter goodWord ++ (vx_atS RX4 169 "java/lang/IllegalArgumentException" ["java/lang/RuntimeException", "java/lang/Exception"]).filter goodWord ++ (vx_atS RX4 72 "java/lang/IllegalStateException" ["java/lang/RuntimeException", "java/lang/Exception"]).filter goodWord)
def wsX4_layWorths_r1 : List Cond := [Cond.fieldLink RX4 29 "Bidwhistle" "strategies" "Ljava/util/ArrayList;", Cond.classLink RX4 111 "Bidwhistle$Strategy", Cond.fieldLink RX4 58 "Bidwhistle" "worths" "LBidwhistle$Row;", Cond.methodLink RX4 94 yJx4a65c_size_8abf5, Cond.instanceMethod yJx4a65c_size_8abf5, Cond.selects RJx4a65c yJx4a65c_size_8abf5 yJx4a65c_size_8abf5, Cond.initialized RJx4a65c, Cond.code yJx4a65c_size_8abf5 cJx4a65c_size_8abf5 1 (some .int), Cond.fieldLink RJx4a65c 48 "java/util/ArrayList" "size" "I", Cond.methodLink RX4 119 yJx4a65c_get_915e3, Cond.instanceMethod yJx4a65c_get_915e3, Cond.selects RJx4a65c yJx4a65c_get_915e3 yJx4a65c_get_915e3, Cond.code yJx4a65c_get_915e3 cJx4a65c_get_915e3 2 (some (.object "java/lang/Object")), Cond.methodLink RJx4a65c 118 yJ15_checkIndex_7cf53, Cond.static yJ15_checkIndex_7cf53, Cond.initialized RJ15, Cond.code yJ15_checkIndex_7cf53 cJ15_checkIndex_7cf53 2 (some .int), Cond.methodLink RJ15 105 yJ3_checkIndex_8e157, Cond.static yJ3_checkIndex_8e157, Cond.initialized RJ3, Cond.code yJ3_checkIndex_8e157 cJ3_checkIndex_8e157 3 (some .int), Cond.methodLink RJx4a65c 123 yJx4a65c_elementData_915e3, Cond.instanceMethod yJx4a65c_elementData_915e3, Cond.selects RJx4a65c yJx4a65c_elementData_915e3 yJx4a65c_elementData_915e3]
def wsX4_layWorths_r2 : List Cond := [Cond.code yJx4a65c_elementData_915e3 cJx4a65c_elementData_915e3 2 (some (.object "java/lang/Object")), Cond.fieldLink RJx4a65c 9 "java/util/ArrayList" "elementData" "[Ljava/lang/Object;", Cond.methodLink RX4 177 yX4_worthByStrategies, Cond.instanceMethod yX4_worthByStrategies, Cond.selects RX4 yX4_worthByStrategies yX4_worthByStrategies, Cond.initialized RX4, Cond.code yX4_worthByStrategies cX4_worthByStrategies 6 (some .int), Cond.methodLink RX4 271 yX4_profitOfRounds, Cond.instanceMethod yX4_profitOfRounds, Cond.selects RX4 yX4_profitOfRounds yX4_profitOfRounds, Cond.code yX4_profitOfRounds cX4_profitOfRounds 8 (some .int), Cond.fieldLink RX4 49 "Bidwhistle" "pairsTold" "I", Cond.fieldLink RX4 42 "Bidwhistle" "firstValues" "LBidwhistle$Row;", Cond.fieldLink RX4 46 "Bidwhistle" "secondValues" "LBidwhistle$Row;", Cond.methodLink RX4 181 yX1_at, Cond.instanceMethod yX1_at, Cond.selects RX1 yX1_at yX1_at, Cond.initialized RX1, Cond.code yX1_at cX1_at 2 (some .int), Cond.fieldLink RX1 13 "Bidwhistle$Row" "numbers" "[I", Cond.methodLink RX4 173 yX4_profitAgainst, Cond.static yX4_profitAgainst, Cond.code yX4_profitAgainst cX4_profitAgainst 7 (some .int), Cond.methodLink RX4 110 yX3_bidFor]
def wsX4_layWorths_r3 : List Cond := [Cond.instanceMethod yX3_bidFor, Cond.selects RX3 yX3_bidFor yX3_bidFor, Cond.initialized RX3, Cond.code yX3_bidFor cX3_bidFor 2 (some .int), Cond.fieldLink RX3 14 "Bidwhistle$Strategy" "bids" "LBidwhistle$Row;", Cond.methodLink RX3 44 yX1_at, Cond.methodLink RX4 263 yX4_wins, Cond.static yX4_wins, Cond.code yX4_wins cX4_wins 4 (some .boolean), Cond.methodLink RX4 267 yX4_profitOf, Cond.static yX4_profitOf, Cond.code yX4_profitOf cX4_profitOf 5 (some .int), Cond.methodLink RX4 259 yX4_paid, Cond.static yX4_paid, Cond.code yX4_paid cX4_paid 4 (some .int), Cond.methodLink RX4 161 yX1_put, Cond.instanceMethod yX1_put, Cond.selects RX1 yX1_put yX1_put, Cond.code yX1_put cX1_put 3 none]
def wsX4_layWorths : List Cond := .code yX4_layWorths cX4_layWorths 4 none :: ((wsX4_layWorths_r1 ++ (wsX4_layWorths_r2 ++ wsX4_layWorths_r3)) ++ wsX40 ++ wsX30 ++ wsJx4a65c0 ++ wsX10)
def wsX4_strongestBut_r1 : List Cond := [Cond.fieldLink RX4 29 "Bidwhistle" "strategies" "Ljava/util/ArrayList;", Cond.classLink RX4 111 "Bidwhistle$Strategy", Cond.fieldLink RX4 58 "Bidwhistle" "worths" "LBidwhistle$Row;", Cond.methodLink RX4 94 yJx4a65c_size_8abf5, Cond.instanceMethod yJx4a65c_size_8abf5, Cond.selects RJx4a65c yJx4a65c_size_8abf5 yJx4a65c_size_8abf5, Cond.initialized RJx4a65c, Cond.code yJx4a65c_size_8abf5 cJx4a65c_size_8abf5 1 (some .int), Cond.fieldLink RJx4a65c 48 "java/util/ArrayList" "size" "I", Cond.methodLink RX4 119 yJx4a65c_get_915e3, Cond.instanceMethod yJx4a65c_get_915e3, Cond.selects RJx4a65c yJx4a65c_get_915e3 yJx4a65c_get_915e3, Cond.code yJx4a65c_get_915e3 cJx4a65c_get_915e3 2 (some (.object "java/lang/Object")), Cond.methodLink RJx4a65c 118 yJ15_checkIndex_7cf53, Cond.static yJ15_checkIndex_7cf53, Cond.initialized RJ15, Cond.code yJ15_checkIndex_7cf53 cJ15_checkIndex_7cf53 2 (some .int), Cond.methodLink RJ15 105 yJ3_checkIndex_8e157, Cond.static yJ3_checkIndex_8e157, Cond.initialized RJ3, Cond.code yJ3_checkIndex_8e157 cJ3_checkIndex_8e157 3 (some .int), Cond.methodLink RJx4a65c 123 yJx4a65c_elementData_915e3, Cond.instanceMethod yJx4a65c_elementData_915e3, Cond.selects RJx4a65c yJx4a65c_elementData_915e3 yJx4a65c_elementData_915e3]
def wsX4_strongestBut_r2 : List Cond := [Cond.code yJx4a65c_elementData_915e3 cJx4a65c_elementData_915e3 2 (some (.object "java/lang/Object")), Cond.fieldLink RJx4a65c 9 "java/util/ArrayList" "elementData" "[Ljava/lang/Object;", Cond.methodLink RX4 181 yX1_at, Cond.instanceMethod yX1_at, Cond.selects RX1 yX1_at yX1_at, Cond.initialized RX1, Cond.code yX1_at cX1_at 2 (some .int), Cond.fieldLink RX1 13 "Bidwhistle$Row" "numbers" "[I"]
def wsX4_strongestBut : List Cond := .code yX4_strongestBut cX4_strongestBut 4 (some .int) :: ((wsX4_strongestBut_r1 ++ wsX4_strongestBut_r2) ++ wsX40 ++ wsX30 ++ wsJx4a65c0 ++ wsX10)
def wsX4_best_r1 : List Cond := [Cond.methodLink RX4 170 yX4_requireAuction, Cond.static yX4_requireAuction, Cond.initialized RX4, Cond.code yX4_requireAuction cX4_requireAuction 1 none, Cond.classLink RX4 165 "java/lang/IllegalArgumentException", Cond.initialized "java/lang/IllegalArgumentException", Cond.methodLink RX4 192 yX4_layWorths, Cond.instanceMethod yX4_layWorths, Cond.selects RX4 yX4_layWorths yX4_layWorths, Cond.code yX4_layWorths cX4_layWorths 4 none, Cond.fieldLink RX4 29 "Bidwhistle" "strategies" "Ljava/util/ArrayList;", Cond.classLink RX4 111 "Bidwhistle$Strategy", Cond.fieldLink RX4 58 "Bidwhistle" "worths" "LBidwhistle$Row;", Cond.methodLink RX4 94 yJx4a65c_size_8abf5, Cond.instanceMethod yJx4a65c_size_8abf5, Cond.selects RJx4a65c yJx4a65c_size_8abf5 yJx4a65c_size_8abf5, Cond.initialized RJx4a65c, Cond.code yJx4a65c_size_8abf5 cJx4a65c_size_8abf5 1 (some .int), Cond.fieldLink RJx4a65c 48 "java/util/ArrayList" "size" "I", Cond.methodLink RX4 119 yJx4a65c_get_915e3, Cond.instanceMethod yJx4a65c_get_915e3, Cond.selects RJx4a65c yJx4a65c_get_915e3 yJx4a65c_get_915e3, Cond.code yJx4a65c_get_915e3 cJx4a65c_get_915e3 2 (some (.object "java/lang/Object")), Cond.methodLink RJx4a65c 118 yJ15_checkIndex_7cf53]
def wsX4_best_r2 : List Cond := [Cond.static yJ15_checkIndex_7cf53, Cond.initialized RJ15, Cond.code yJ15_checkIndex_7cf53 cJ15_checkIndex_7cf53 2 (some .int), Cond.methodLink RJ15 105 yJ3_checkIndex_8e157, Cond.static yJ3_checkIndex_8e157, Cond.initialized RJ3, Cond.code yJ3_checkIndex_8e157 cJ3_checkIndex_8e157 3 (some .int), Cond.methodLink RJx4a65c 123 yJx4a65c_elementData_915e3, Cond.instanceMethod yJx4a65c_elementData_915e3, Cond.selects RJx4a65c yJx4a65c_elementData_915e3 yJx4a65c_elementData_915e3, Cond.code yJx4a65c_elementData_915e3 cJx4a65c_elementData_915e3 2 (some (.object "java/lang/Object")), Cond.fieldLink RJx4a65c 9 "java/util/ArrayList" "elementData" "[Ljava/lang/Object;", Cond.methodLink RX4 177 yX4_worthByStrategies, Cond.instanceMethod yX4_worthByStrategies, Cond.selects RX4 yX4_worthByStrategies yX4_worthByStrategies, Cond.code yX4_worthByStrategies cX4_worthByStrategies 6 (some .int), Cond.methodLink RX4 271 yX4_profitOfRounds, Cond.instanceMethod yX4_profitOfRounds, Cond.selects RX4 yX4_profitOfRounds yX4_profitOfRounds, Cond.code yX4_profitOfRounds cX4_profitOfRounds 8 (some .int), Cond.fieldLink RX4 49 "Bidwhistle" "pairsTold" "I", Cond.fieldLink RX4 42 "Bidwhistle" "firstValues" "LBidwhistle$Row;", Cond.fieldLink RX4 46 "Bidwhistle" "secondValues" "LBidwhistle$Row;", Cond.methodLink RX4 181 yX1_at]
def wsX4_best_r3 : List Cond := [Cond.instanceMethod yX1_at, Cond.selects RX1 yX1_at yX1_at, Cond.initialized RX1, Cond.code yX1_at cX1_at 2 (some .int), Cond.fieldLink RX1 13 "Bidwhistle$Row" "numbers" "[I", Cond.methodLink RX4 173 yX4_profitAgainst, Cond.static yX4_profitAgainst, Cond.code yX4_profitAgainst cX4_profitAgainst 7 (some .int), Cond.methodLink RX4 110 yX3_bidFor, Cond.instanceMethod yX3_bidFor, Cond.selects RX3 yX3_bidFor yX3_bidFor, Cond.initialized RX3, Cond.code yX3_bidFor cX3_bidFor 2 (some .int), Cond.fieldLink RX3 14 "Bidwhistle$Strategy" "bids" "LBidwhistle$Row;", Cond.methodLink RX3 44 yX1_at, Cond.methodLink RX4 263 yX4_wins, Cond.static yX4_wins, Cond.code yX4_wins cX4_wins 4 (some .boolean), Cond.methodLink RX4 267 yX4_profitOf, Cond.static yX4_profitOf, Cond.code yX4_profitOf cX4_profitOf 5 (some .int), Cond.methodLink RX4 259 yX4_paid, Cond.static yX4_paid, Cond.code yX4_paid cX4_paid 4 (some .int)]
def wsX4_best_r4 : List Cond := [Cond.methodLink RX4 161 yX1_put, Cond.instanceMethod yX1_put, Cond.selects RX1 yX1_put yX1_put, Cond.code yX1_put cX1_put 3 none, Cond.methodLink RX4 195 yX4_strongestBut, Cond.instanceMethod yX4_strongestBut, Cond.selects RX4 yX4_strongestBut yX4_strongestBut, Cond.code yX4_strongestBut cX4_strongestBut 4 (some .int)]
def wsX4_best : List Cond := .code yX4_best cX4_best 2 (some .int) :: ((wsX4_best_r1 ++ (wsX4_best_r2 ++ (wsX4_best_r3 ++ wsX4_best_r4))) ++ wsX40 ++ wsX30 ++ wsJx4a65c0 ++ wsX10 ++ (vx_atS RX4 169 "java/lang/IllegalArgumentException" ["java/lang/RuntimeException", "java/lang/Exception"]).filter goodWord)
def wsX4_weakest_r1 : List Cond := [Cond.fieldLink RX4 29 "Bidwhistle" "strategies" "Ljava/util/ArrayList;", Cond.classLink RX4 111 "Bidwhistle$Strategy", Cond.fieldLink RX4 58 "Bidwhistle" "worths" "LBidwhistle$Row;", Cond.methodLink RX4 94 yJx4a65c_size_8abf5, Cond.instanceMethod yJx4a65c_size_8abf5, Cond.selects RJx4a65c yJx4a65c_size_8abf5 yJx4a65c_size_8abf5, Cond.initialized RJx4a65c, Cond.code yJx4a65c_size_8abf5 cJx4a65c_size_8abf5 1 (some .int), Cond.fieldLink RJx4a65c 48 "java/util/ArrayList" "size" "I", Cond.methodLink RX4 119 yJx4a65c_get_915e3, Cond.instanceMethod yJx4a65c_get_915e3, Cond.selects RJx4a65c yJx4a65c_get_915e3 yJx4a65c_get_915e3, Cond.code yJx4a65c_get_915e3 cJx4a65c_get_915e3 2 (some (.object "java/lang/Object")), Cond.methodLink RJx4a65c 118 yJ15_checkIndex_7cf53, Cond.static yJ15_checkIndex_7cf53, Cond.initialized RJ15, Cond.code yJ15_checkIndex_7cf53 cJ15_checkIndex_7cf53 2 (some .int), Cond.methodLink RJ15 105 yJ3_checkIndex_8e157, Cond.static yJ3_checkIndex_8e157, Cond.initialized RJ3, Cond.code yJ3_checkIndex_8e157 cJ3_checkIndex_8e157 3 (some .int), Cond.methodLink RJx4a65c 123 yJx4a65c_elementData_915e3, Cond.instanceMethod yJx4a65c_elementData_915e3, Cond.selects RJx4a65c yJx4a65c_elementData_915e3 yJx4a65c_elementData_915e3]
def wsX4_weakest_r2 : List Cond := [Cond.code yJx4a65c_elementData_915e3 cJx4a65c_elementData_915e3 2 (some (.object "java/lang/Object")), Cond.fieldLink RJx4a65c 9 "java/util/ArrayList" "elementData" "[Ljava/lang/Object;", Cond.methodLink RX4 181 yX1_at, Cond.instanceMethod yX1_at, Cond.selects RX1 yX1_at yX1_at, Cond.initialized RX1, Cond.code yX1_at cX1_at 2 (some .int), Cond.fieldLink RX1 13 "Bidwhistle$Row" "numbers" "[I"]
def wsX4_weakest : List Cond := .code yX4_weakest cX4_weakest 3 (some .int) :: ((wsX4_weakest_r1 ++ wsX4_weakest_r2) ++ wsX40 ++ wsX30 ++ wsJx4a65c0 ++ wsX10)
def wsX4_cross_r1 : List Cond := [Cond.fieldLink RX4 16 "Bidwhistle" "child" "LBidwhistle$Program;", Cond.methodLink RX4 82 yX0_empty, Cond.instanceMethod yX0_empty, Cond.selects RX0 yX0_empty yX0_empty, Cond.initialized RX0, Cond.code yX0_empty cX0_empty 1 none, Cond.fieldLink RX0 20 "Bidwhistle$Program" "length" "I", Cond.fieldLink RX0 24 "Bidwhistle$Program" "stepBits" "I", Cond.methodLink RX4 78 yX0_length, Cond.instanceMethod yX0_length, Cond.selects RX0 yX0_length yX0_length, Cond.code yX0_length cX0_length 1 (some .int), Cond.methodLink RX4 275 yX0_addPart, Cond.instanceMethod yX0_addPart, Cond.selects RX0 yX0_addPart yX0_addPart, Cond.code yX0_addPart cX0_addPart 5 none, Cond.fieldLink RX0 14 "Bidwhistle$Program" "steps" "LBidwhistle$Row;", Cond.methodLink RX0 35 yX1_at, Cond.instanceMethod yX1_at, Cond.selects RX1 yX1_at yX1_at, Cond.initialized RX1, Cond.code yX1_at cX1_at 2 (some .int), Cond.fieldLink RX1 13 "Bidwhistle$Row" "numbers" "[I", Cond.methodLink RX0 38 yX0_add]
def wsX4_cross_r2 : List Cond := [Cond.instanceMethod yX0_add, Cond.selects RX0 yX0_add yX0_add, Cond.code yX0_add cX0_add 2 none, Cond.methodLink RX0 27 yX1_put, Cond.instanceMethod yX1_put, Cond.selects RX1 yX1_put yX1_put, Cond.code yX1_put cX1_put 3 none, Cond.static yX4_bitOf, Cond.initialized RX4, Cond.code yX4_bitOf cX4_bitOf 1 (some .int)]
def wsX4_cross : List Cond := .code yX4_cross cX4_cross 3 none :: ((wsX4_cross_r1 ++ wsX4_cross_r2) ++ wsX40 ++ wsX00 ++ wsX10)
def wsX4_letChildJoin_r1 : List Cond := [Cond.fieldLink RX4 16 "Bidwhistle" "child" "LBidwhistle$Program;", Cond.fieldLink RX4 33 "Bidwhistle" "forbiddenSteps" "I", Cond.methodLink RX4 85 yX0_isRight, Cond.instanceMethod yX0_isRight, Cond.selects RX0 yX0_isRight yX0_isRight, Cond.initialized RX0, Cond.code yX0_isRight cX0_isRight 3 (some .boolean), Cond.fieldLink RX0 20 "Bidwhistle$Program" "length" "I", Cond.fieldLink RX0 14 "Bidwhistle$Program" "steps" "LBidwhistle$Row;", Cond.methodLink RX0 35 yX1_at, Cond.instanceMethod yX1_at, Cond.selects RX1 yX1_at yX1_at, Cond.initialized RX1, Cond.code yX1_at cX1_at 2 (some .int), Cond.fieldLink RX1 13 "Bidwhistle$Row" "numbers" "[I", Cond.methodLink RX4 138 yX0_hasAnyOf, Cond.instanceMethod yX0_hasAnyOf, Cond.selects RX0 yX0_hasAnyOf yX0_hasAnyOf, Cond.code yX0_hasAnyOf cX0_hasAnyOf 2 (some .boolean), Cond.fieldLink RX0 24 "Bidwhistle$Program" "stepBits" "I", Cond.methodLink RX4 90 yX4_numberOf, Cond.instanceMethod yX4_numberOf, Cond.selects RX4 yX4_numberOf yX4_numberOf, Cond.initialized RX4]
def wsX4_letChildJoin_r2 : List Cond := [Cond.code yX4_numberOf cX4_numberOf 3 (some .int), Cond.fieldLink RX4 29 "Bidwhistle" "strategies" "Ljava/util/ArrayList;", Cond.classLink RX4 111 "Bidwhistle$Strategy", Cond.methodLink RX4 94 yJx4a65c_size_8abf5, Cond.instanceMethod yJx4a65c_size_8abf5, Cond.selects RJx4a65c yJx4a65c_size_8abf5 yJx4a65c_size_8abf5, Cond.initialized RJx4a65c, Cond.code yJx4a65c_size_8abf5 cJx4a65c_size_8abf5 1 (some .int), Cond.fieldLink RJx4a65c 48 "java/util/ArrayList" "size" "I", Cond.methodLink RX4 119 yJx4a65c_get_915e3, Cond.instanceMethod yJx4a65c_get_915e3, Cond.selects RJx4a65c yJx4a65c_get_915e3 yJx4a65c_get_915e3, Cond.code yJx4a65c_get_915e3 cJx4a65c_get_915e3 2 (some (.object "java/lang/Object")), Cond.methodLink RJx4a65c 118 yJ15_checkIndex_7cf53, Cond.static yJ15_checkIndex_7cf53, Cond.initialized RJ15, Cond.code yJ15_checkIndex_7cf53 cJ15_checkIndex_7cf53 2 (some .int), Cond.methodLink RJ15 105 yJ3_checkIndex_8e157, Cond.static yJ3_checkIndex_8e157, Cond.initialized RJ3, Cond.code yJ3_checkIndex_8e157 cJ3_checkIndex_8e157 3 (some .int), Cond.methodLink RJx4a65c 123 yJx4a65c_elementData_915e3, Cond.instanceMethod yJx4a65c_elementData_915e3, Cond.selects RJx4a65c yJx4a65c_elementData_915e3 yJx4a65c_elementData_915e3]
def wsX4_letChildJoin_r3 : List Cond := [Cond.code yJx4a65c_elementData_915e3 cJx4a65c_elementData_915e3 2 (some (.object "java/lang/Object")), Cond.fieldLink RJx4a65c 9 "java/util/ArrayList" "elementData" "[Ljava/lang/Object;", Cond.methodLink RX4 224 yX0_isSameAs, Cond.instanceMethod yX0_isSameAs, Cond.selects RX0 yX0_isSameAs yX0_isSameAs, Cond.code yX0_isSameAs cX0_isSameAs 3 (some .boolean), Cond.methodLink RX4 99 yX4_keep, Cond.instanceMethod yX4_keep, Cond.selects RX4 yX4_keep yX4_keep, Cond.code yX4_keep cX4_keep 7 (some .int), Cond.classLink RX4 111 RX3, Cond.instantiable RX3 8, Cond.initialized RX3, Cond.fieldLink RX4 22 "Bidwhistle" "stack" "LBidwhistle$Stack;", Cond.methodLink RX4 228 yX0_copy, Cond.instanceMethod yX0_copy, Cond.selects RX0 yX0_copy yX0_copy, Cond.code yX0_copy cX0_copy 2 (some (.object "Bidwhistle$Program")), Cond.classLink RX0 15 RX0, Cond.instantiable RX0 3, Cond.methodLink RX0 41 yX0_init, Cond.instanceMethod yX0_init, Cond.code yX0_init cX0_init 1 none, Cond.methodLink RX0 3 objectInit]
def wsX4_letChildJoin_r4 : List Cond := [Cond.instanceMethod objectInit, Cond.code objectInit ⟨#[0xb1]⟩ 1 none, Cond.classLink RX0 9 RX1, Cond.instantiable RX1 1, Cond.methodLink RX0 11 yX1_init, Cond.instanceMethod yX1_init, Cond.code yX1_init cX1_init 2 none, Cond.methodLink RX1 1 objectInit, Cond.methodLink RX1 7 Lib.Math.max.name, Cond.static Lib.Math.max.name, Cond.initialized "java/lang/Math", Cond.code Lib.Math.max.name Lib.Math.max.code 2 (some .int), Cond.arrayClass .int, Cond.methodLink RX0 42 yX0_addPart, Cond.instanceMethod yX0_addPart, Cond.selects RX0 yX0_addPart yX0_addPart, Cond.code yX0_addPart cX0_addPart 5 none, Cond.methodLink RX0 38 yX0_add, Cond.instanceMethod yX0_add, Cond.selects RX0 yX0_add yX0_add, Cond.code yX0_add cX0_add 2 none, Cond.methodLink RX0 27 yX1_put, Cond.instanceMethod yX1_put, Cond.selects RX1 yX1_put yX1_put]
def wsX4_letChildJoin_r5 : List Cond := [Cond.code yX1_put cX1_put 3 none, Cond.static yX4_bitOf, Cond.code yX4_bitOf cX4_bitOf 1 (some .int), Cond.methodLink RX4 232 yX3_init, Cond.instanceMethod yX3_init, Cond.code yX3_init cX3_init 5 none, Cond.methodLink RX3 3 objectInit, Cond.classLink RX3 9 RX1, Cond.fieldLink RX3 14 "Bidwhistle$Strategy" "bids" "LBidwhistle$Row;", Cond.fieldLink RX3 20 "Bidwhistle$Strategy" "stepsOfLine" "I", Cond.fieldLink RX3 24 "Bidwhistle$Strategy" "kind" "I", Cond.fieldLink RX3 27 "Bidwhistle$Strategy" "inPool" "Z", Cond.fieldLink RX3 31 "Bidwhistle$Strategy" "number" "I", Cond.fieldLink RX3 34 "Bidwhistle$Strategy" "program" "LBidwhistle$Program;", Cond.fieldLink RX3 38 "Bidwhistle$Strategy" "firstParent" "I", Cond.fieldLink RX3 41 "Bidwhistle$Strategy" "secondParent" "I", Cond.methodLink RX3 11 yX1_init, Cond.methodLink RX4 238 yX4_stepsOfLine, Cond.instanceMethod yX4_stepsOfLine, Cond.selects RX4 yX4_stepsOfLine yX4_stepsOfLine, Cond.code yX4_stepsOfLine cX4_stepsOfLine 2 (some .int), Cond.methodLink RX4 243 yX0_bidFor, Cond.instanceMethod yX0_bidFor, Cond.selects RX0 yX0_bidFor yX0_bidFor]
def wsX4_letChildJoin_r6 : List Cond := [Cond.code yX0_bidFor cX0_bidFor 4 (some .int), Cond.methodLink RX0 59 Lib.Math.min.name, Cond.static Lib.Math.min.name, Cond.code Lib.Math.min.name Lib.Math.min.code 2 (some .int), Cond.methodLink RX0 65 Lib.Math.max.name, Cond.methodLink RX0 46 yX2_empty, Cond.instanceMethod yX2_empty, Cond.selects RX2 yX2_empty yX2_empty, Cond.initialized RX2, Cond.code yX2_empty cX2_empty 1 none, Cond.fieldLink RX2 20 "Bidwhistle$Stack" "depth" "I", Cond.methodLink RX0 51 yX0_perform, Cond.static yX0_perform, Cond.code yX0_perform cX0_perform 7 none, Cond.methodLink RX0 68 yX2_push, Cond.instanceMethod yX2_push, Cond.selects RX2 yX2_push yX2_push, Cond.code yX2_push cX2_push 3 none, Cond.fieldLink RX2 14 "Bidwhistle$Stack" "numbers" "LBidwhistle$Row;", Cond.constantLong RX2 24 (-100000), Cond.constantLong RX2 26 (100000), Cond.methodLink RX2 28 Lib.MathLoose.min_long.x, Cond.static Lib.MathLoose.min_long.x, Cond.code Lib.MathLoose.min_long.x Lib.MathLoose.min_long.code 4 (some .long)]
def wsX4_letChildJoin_r7 : List Cond := [Cond.methodLink RX2 34 Lib.MathLoose.max_long.x, Cond.static Lib.MathLoose.max_long.x, Cond.code Lib.MathLoose.max_long.x Lib.MathLoose.max_long.code 4 (some .long), Cond.methodLink RX2 37 yX1_put, Cond.methodLink RX0 55 yX2_pop, Cond.instanceMethod yX2_pop, Cond.selects RX2 yX2_pop yX2_pop, Cond.code yX2_pop cX2_pop 1 (some .int), Cond.methodLink RX2 41 yX1_at, Cond.methodLink RX0 72 yX0_resultOf, Cond.static yX0_resultOf, Cond.code yX0_resultOf cX0_resultOf 5 (some .long), Cond.methodLink RX0 76 Lib.MathLoose.min_long.x, Cond.methodLink RX0 79 Lib.MathLoose.max_long.x, Cond.methodLink RX4 161 yX1_put, Cond.methodLink RX4 246 yX4_kindOf, Cond.instanceMethod yX4_kindOf, Cond.selects RX4 yX4_kindOf yX4_kindOf, Cond.code yX4_kindOf cX4_kindOf 4 (some .int), Cond.methodLink RX4 253 yX1_isSameAs, Cond.instanceMethod yX1_isSameAs, Cond.selects RX1 yX1_isSameAs yX1_isSameAs, Cond.code yX1_isSameAs cX1_isSameAs 3 (some .boolean), Cond.methodLink RX1 19 yX1_at]
def wsX4_letChildJoin_r8 : List Cond := [Cond.methodLink RX4 250 yJx4a65c_add_9ea2d, Cond.instanceMethod yJx4a65c_add_9ea2d, Cond.selects RJx4a65c yJx4a65c_add_9ea2d yJx4a65c_add_9ea2d, Cond.code yJx4a65c_add_9ea2d cJx4a65c_add_9ea2d 2 (some .boolean), Cond.fieldLink RJx4a65c 63 "java/util/ArrayList" "modCount" "I", Cond.sameField "java/util/ArrayList" "java/util/AbstractList" "modCount" "I", Cond.methodLink RJx4a65c 131 yJx4a65c_add_72be8, Cond.instanceMethod yJx4a65c_add_72be8, Cond.selects RJx4a65c yJx4a65c_add_72be8 yJx4a65c_add_72be8, Cond.code yJx4a65c_add_72be8 cJx4a65c_add_72be8 4 none, Cond.methodLink RJx4a65c 129 yJx4a65c_grow_d5877, Cond.instanceMethod yJx4a65c_grow_d5877, Cond.selects RJx4a65c yJx4a65c_grow_d5877 yJx4a65c_grow_d5877, Cond.code yJx4a65c_grow_d5877 cJx4a65c_grow_d5877 1 (some (.array (.object "java/lang/Object"))), Cond.methodLink RJx4a65c 69 yJx4a65c_grow_92f84, Cond.instanceMethod yJx4a65c_grow_92f84, Cond.selects RJx4a65c yJx4a65c_grow_92f84 yJx4a65c_grow_92f84, Cond.code yJx4a65c_grow_92f84 cJx4a65c_grow_92f84 4 (some (.array (.object "java/lang/Object"))), Cond.fieldLink RJx4a65c 39 "java/util/ArrayList" "DEFAULTCAPACITY_EMPTY_ELEMENTDATA" "[Ljava/lang/Object;", Cond.methodLink RJx4a65c 79 Lib.Math.max.name, Cond.classLink RJx4a65c 7 "java/lang/Object", Cond.methodLink RJx4a65c 73 yJ8_newLength_cabcc, Cond.static yJ8_newLength_cabcc, Cond.initialized RJ8]
def wsX4_letChildJoin_r9 : List Cond := [Cond.code yJ8_newLength_cabcc cJ8_newLength_cabcc 4 (some .int), Cond.methodLink RJ8 194 Lib.Math.max.name, Cond.constant RJ8 200 (2147483639), Cond.methodLink RJ8 201 yJ8_hugeLength_7cf53, Cond.static yJ8_hugeLength_7cf53, Cond.code yJ8_hugeLength_7cf53 cJ8_hugeLength_7cf53 3 (some .int), Cond.methodLink RJx4a65c 66 yJ7_copyOf_1904c, Cond.static yJ7_copyOf_1904c, Cond.initialized RJ7, Cond.code yJ7_copyOf_1904c cJ7_copyOf_1904c 2 (some (.array (.object "java/lang/Object"))), Cond.methodLink RJ7 86 ⟨"java/lang/Object", "getClass", "()Ljava/lang/Class;"⟩, Cond.selects "[Ljava/lang/Object;" ⟨"java/lang/Object", "getClass", "()Ljava/lang/Class;"⟩ ⟨"java/lang/Object", "getClass", "()Ljava/lang/Class;"⟩, Cond.instanceMethod ⟨"java/lang/Object", "getClass", "()Ljava/lang/Class;"⟩, Cond.native ⟨"java/lang/Object", "getClass", "()Ljava/lang/Class;"⟩, Cond.methodLink RJ7 300 yJ7_copyOf_6403c, Cond.static yJ7_copyOf_6403c, Cond.code yJ7_copyOf_6403c cJ7_copyOf_6403c 4 (some (.array (.object "java/lang/Object"))), Cond.classLink RJ7 110 "[Ljava/lang/Object;", Cond.classLink RJ7 2 "java/lang/Object", Cond.methodLink RJ7 304 Lib.Math.min.name, Cond.methodLink RJ7 150 arraycopyName, Cond.native arraycopyName, Cond.static arraycopyName, Cond.initialized "java/lang/System"]
def wsX4_letChildJoin_r10 : List Cond := [Cond.methodLink RX4 103 yX4_strategyAt, Cond.instanceMethod yX4_strategyAt, Cond.selects RX4 yX4_strategyAt yX4_strategyAt, Cond.code yX4_strategyAt cX4_strategyAt 2 (some (.object "Bidwhistle$Strategy")), Cond.classLink RX4 219 "java/lang/IndexOutOfBoundsException", Cond.initialized "java/lang/IndexOutOfBoundsException"]
def wsX4_letChildJoin : List Cond := .code yX4_letChildJoin cX4_letChildJoin 5 (some .int) :: ((wsX4_letChildJoin_r1 ++ (wsX4_letChildJoin_r2 ++ (wsX4_letChildJoin_r3 ++ (wsX4_letChildJoin_r4 ++ (wsX4_letChildJoin_r5 ++ (wsX4_letChildJoin_r6 ++ (wsX4_letChildJoin_r7 ++ (wsX4_letChildJoin_r8 ++ (wsX4_letChildJoin_r9 ++ wsX4_letChildJoin_r10))))))))) ++ wsX40 ++ wsX30 ++ wsX00 ++ wsX10 ++ wsJx4a65c0 ++ wsX20 ++ (vx_atS RX4 223 "java/lang/IndexOutOfBoundsException" ["java/lang/RuntimeException", "java/lang/Exception"]).filter goodWord)
def wsX4_evolve_r1 : List Cond := [Cond.classLink RX4 68 "java/lang/IllegalStateException", Cond.initialized "java/lang/IllegalStateException", Cond.fieldLink RX4 29 "Bidwhistle" "strategies" "Ljava/util/ArrayList;", Cond.methodLink RX4 170 yX4_requireAuction, Cond.static yX4_requireAuction, Cond.initialized RX4, Cond.code yX4_requireAuction cX4_requireAuction 1 none, Cond.classLink RX4 165 "java/lang/IllegalArgumentException", Cond.initialized "java/lang/IllegalArgumentException", Cond.methodLink RX4 144 yX4_poolSize, Cond.instanceMethod yX4_poolSize, Cond.selects RX4 yX4_poolSize yX4_poolSize, Cond.code yX4_poolSize cX4_poolSize 3 (some .int), Cond.classLink RX4 111 "Bidwhistle$Strategy", Cond.methodLink RX4 94 yJx4a65c_size_8abf5, Cond.instanceMethod yJx4a65c_size_8abf5, Cond.selects RJx4a65c yJx4a65c_size_8abf5 yJx4a65c_size_8abf5, Cond.initialized RJx4a65c, Cond.code yJx4a65c_size_8abf5 cJx4a65c_size_8abf5 1 (some .int), Cond.fieldLink RJx4a65c 48 "java/util/ArrayList" "size" "I", Cond.methodLink RX4 119 yJx4a65c_get_915e3, Cond.instanceMethod yJx4a65c_get_915e3, Cond.selects RJx4a65c yJx4a65c_get_915e3 yJx4a65c_get_915e3, Cond.code yJx4a65c_get_915e3 cJx4a65c_get_915e3 2 (some (.object "java/lang/Object"))]
def wsX4_evolve_r2 : List Cond := [Cond.methodLink RJx4a65c 118 yJ15_checkIndex_7cf53, Cond.static yJ15_checkIndex_7cf53, Cond.initialized RJ15, Cond.code yJ15_checkIndex_7cf53 cJ15_checkIndex_7cf53 2 (some .int), Cond.methodLink RJ15 105 yJ3_checkIndex_8e157, Cond.static yJ3_checkIndex_8e157, Cond.initialized RJ3, Cond.code yJ3_checkIndex_8e157 cJ3_checkIndex_8e157 3 (some .int), Cond.methodLink RJx4a65c 123 yJx4a65c_elementData_915e3, Cond.instanceMethod yJx4a65c_elementData_915e3, Cond.selects RJx4a65c yJx4a65c_elementData_915e3 yJx4a65c_elementData_915e3, Cond.code yJx4a65c_elementData_915e3 cJx4a65c_elementData_915e3 2 (some (.object "java/lang/Object")), Cond.fieldLink RJx4a65c 9 "java/util/ArrayList" "elementData" "[Ljava/lang/Object;", Cond.methodLink RX4 192 yX4_layWorths, Cond.instanceMethod yX4_layWorths, Cond.selects RX4 yX4_layWorths yX4_layWorths, Cond.code yX4_layWorths cX4_layWorths 4 none, Cond.fieldLink RX4 58 "Bidwhistle" "worths" "LBidwhistle$Row;", Cond.methodLink RX4 177 yX4_worthByStrategies, Cond.instanceMethod yX4_worthByStrategies, Cond.selects RX4 yX4_worthByStrategies yX4_worthByStrategies, Cond.code yX4_worthByStrategies cX4_worthByStrategies 6 (some .int), Cond.methodLink RX4 271 yX4_profitOfRounds, Cond.instanceMethod yX4_profitOfRounds]
def wsX4_evolve_r3 : List Cond := [Cond.selects RX4 yX4_profitOfRounds yX4_profitOfRounds, Cond.code yX4_profitOfRounds cX4_profitOfRounds 8 (some .int), Cond.fieldLink RX4 49 "Bidwhistle" "pairsTold" "I", Cond.fieldLink RX4 42 "Bidwhistle" "firstValues" "LBidwhistle$Row;", Cond.fieldLink RX4 46 "Bidwhistle" "secondValues" "LBidwhistle$Row;", Cond.methodLink RX4 181 yX1_at, Cond.instanceMethod yX1_at, Cond.selects RX1 yX1_at yX1_at, Cond.initialized RX1, Cond.code yX1_at cX1_at 2 (some .int), Cond.fieldLink RX1 13 "Bidwhistle$Row" "numbers" "[I", Cond.methodLink RX4 173 yX4_profitAgainst, Cond.static yX4_profitAgainst, Cond.code yX4_profitAgainst cX4_profitAgainst 7 (some .int), Cond.methodLink RX4 110 yX3_bidFor, Cond.instanceMethod yX3_bidFor, Cond.selects RX3 yX3_bidFor yX3_bidFor, Cond.initialized RX3, Cond.code yX3_bidFor cX3_bidFor 2 (some .int), Cond.fieldLink RX3 14 "Bidwhistle$Strategy" "bids" "LBidwhistle$Row;", Cond.methodLink RX3 44 yX1_at, Cond.methodLink RX4 263 yX4_wins, Cond.static yX4_wins, Cond.code yX4_wins cX4_wins 4 (some .boolean)]
def wsX4_evolve_r4 : List Cond := [Cond.methodLink RX4 267 yX4_profitOf, Cond.static yX4_profitOf, Cond.code yX4_profitOf cX4_profitOf 5 (some .int), Cond.methodLink RX4 259 yX4_paid, Cond.static yX4_paid, Cond.code yX4_paid cX4_paid 4 (some .int), Cond.methodLink RX4 161 yX1_put, Cond.instanceMethod yX1_put, Cond.selects RX1 yX1_put yX1_put, Cond.code yX1_put cX1_put 3 none, Cond.methodLink RX4 200 yX4_weakest, Cond.instanceMethod yX4_weakest, Cond.selects RX4 yX4_weakest yX4_weakest, Cond.code yX4_weakest cX4_weakest 3 (some .int), Cond.methodLink RX4 103 yX4_strategyAt, Cond.instanceMethod yX4_strategyAt, Cond.selects RX4 yX4_strategyAt yX4_strategyAt, Cond.code yX4_strategyAt cX4_strategyAt 2 (some (.object "Bidwhistle$Strategy")), Cond.classLink RX4 219 "java/lang/IndexOutOfBoundsException", Cond.initialized "java/lang/IndexOutOfBoundsException", Cond.methodLink RX4 195 yX4_strongestBut, Cond.instanceMethod yX4_strongestBut, Cond.selects RX4 yX4_strongestBut yX4_strongestBut, Cond.code yX4_strongestBut cX4_strongestBut 4 (some .int)]
def wsX4_evolve_r5 : List Cond := [Cond.methodLink RX4 203 yX4_cross, Cond.instanceMethod yX4_cross, Cond.selects RX4 yX4_cross yX4_cross, Cond.code yX4_cross cX4_cross 3 none, Cond.fieldLink RX4 16 "Bidwhistle" "child" "LBidwhistle$Program;", Cond.methodLink RX4 82 yX0_empty, Cond.instanceMethod yX0_empty, Cond.selects RX0 yX0_empty yX0_empty, Cond.initialized RX0, Cond.code yX0_empty cX0_empty 1 none, Cond.fieldLink RX0 20 "Bidwhistle$Program" "length" "I", Cond.fieldLink RX0 24 "Bidwhistle$Program" "stepBits" "I", Cond.methodLink RX4 78 yX0_length, Cond.instanceMethod yX0_length, Cond.selects RX0 yX0_length yX0_length, Cond.code yX0_length cX0_length 1 (some .int), Cond.methodLink RX4 275 yX0_addPart, Cond.instanceMethod yX0_addPart, Cond.selects RX0 yX0_addPart yX0_addPart, Cond.code yX0_addPart cX0_addPart 5 none, Cond.fieldLink RX0 14 "Bidwhistle$Program" "steps" "LBidwhistle$Row;", Cond.methodLink RX0 35 yX1_at, Cond.methodLink RX0 38 yX0_add, Cond.instanceMethod yX0_add]
def wsX4_evolve_r6 : List Cond := [Cond.selects RX0 yX0_add yX0_add, Cond.code yX0_add cX0_add 2 none, Cond.methodLink RX0 27 yX1_put, Cond.static yX4_bitOf, Cond.code yX4_bitOf cX4_bitOf 1 (some .int), Cond.methodLink RX4 207 yX4_letChildJoin, Cond.instanceMethod yX4_letChildJoin, Cond.selects RX4 yX4_letChildJoin yX4_letChildJoin, Cond.code yX4_letChildJoin cX4_letChildJoin 5 (some .int), Cond.fieldLink RX4 33 "Bidwhistle" "forbiddenSteps" "I", Cond.methodLink RX4 85 yX0_isRight, Cond.instanceMethod yX0_isRight, Cond.selects RX0 yX0_isRight yX0_isRight, Cond.code yX0_isRight cX0_isRight 3 (some .boolean), Cond.methodLink RX4 138 yX0_hasAnyOf, Cond.instanceMethod yX0_hasAnyOf, Cond.selects RX0 yX0_hasAnyOf yX0_hasAnyOf, Cond.code yX0_hasAnyOf cX0_hasAnyOf 2 (some .boolean), Cond.methodLink RX4 90 yX4_numberOf, Cond.instanceMethod yX4_numberOf, Cond.selects RX4 yX4_numberOf yX4_numberOf, Cond.code yX4_numberOf cX4_numberOf 3 (some .int), Cond.methodLink RX4 224 yX0_isSameAs, Cond.instanceMethod yX0_isSameAs]
def wsX4_evolve_r7 : List Cond := [Cond.selects RX0 yX0_isSameAs yX0_isSameAs, Cond.code yX0_isSameAs cX0_isSameAs 3 (some .boolean), Cond.methodLink RX4 99 yX4_keep, Cond.instanceMethod yX4_keep, Cond.selects RX4 yX4_keep yX4_keep, Cond.code yX4_keep cX4_keep 7 (some .int), Cond.classLink RX4 111 RX3, Cond.instantiable RX3 8, Cond.fieldLink RX4 22 "Bidwhistle" "stack" "LBidwhistle$Stack;", Cond.methodLink RX4 228 yX0_copy, Cond.instanceMethod yX0_copy, Cond.selects RX0 yX0_copy yX0_copy, Cond.code yX0_copy cX0_copy 2 (some (.object "Bidwhistle$Program")), Cond.classLink RX0 15 RX0, Cond.instantiable RX0 3, Cond.methodLink RX0 41 yX0_init, Cond.instanceMethod yX0_init, Cond.code yX0_init cX0_init 1 none, Cond.methodLink RX0 3 objectInit, Cond.instanceMethod objectInit, Cond.code objectInit ⟨#[0xb1]⟩ 1 none, Cond.classLink RX0 9 RX1, Cond.instantiable RX1 1, Cond.methodLink RX0 11 yX1_init]
def wsX4_evolve_r8 : List Cond := [Cond.instanceMethod yX1_init, Cond.code yX1_init cX1_init 2 none, Cond.methodLink RX1 1 objectInit, Cond.methodLink RX1 7 Lib.Math.max.name, Cond.static Lib.Math.max.name, Cond.initialized "java/lang/Math", Cond.code Lib.Math.max.name Lib.Math.max.code 2 (some .int), Cond.arrayClass .int, Cond.methodLink RX0 42 yX0_addPart, Cond.methodLink RX4 232 yX3_init, Cond.instanceMethod yX3_init, Cond.code yX3_init cX3_init 5 none, Cond.methodLink RX3 3 objectInit, Cond.classLink RX3 9 RX1, Cond.fieldLink RX3 20 "Bidwhistle$Strategy" "stepsOfLine" "I", Cond.fieldLink RX3 24 "Bidwhistle$Strategy" "kind" "I", Cond.fieldLink RX3 27 "Bidwhistle$Strategy" "inPool" "Z", Cond.fieldLink RX3 31 "Bidwhistle$Strategy" "number" "I", Cond.fieldLink RX3 34 "Bidwhistle$Strategy" "program" "LBidwhistle$Program;", Cond.fieldLink RX3 38 "Bidwhistle$Strategy" "firstParent" "I", Cond.fieldLink RX3 41 "Bidwhistle$Strategy" "secondParent" "I", Cond.methodLink RX3 11 yX1_init, Cond.methodLink RX4 238 yX4_stepsOfLine, Cond.instanceMethod yX4_stepsOfLine]
def wsX4_evolve_r9 : List Cond := [Cond.selects RX4 yX4_stepsOfLine yX4_stepsOfLine, Cond.code yX4_stepsOfLine cX4_stepsOfLine 2 (some .int), Cond.methodLink RX4 243 yX0_bidFor, Cond.instanceMethod yX0_bidFor, Cond.selects RX0 yX0_bidFor yX0_bidFor, Cond.code yX0_bidFor cX0_bidFor 4 (some .int), Cond.methodLink RX0 59 Lib.Math.min.name, Cond.static Lib.Math.min.name, Cond.code Lib.Math.min.name Lib.Math.min.code 2 (some .int), Cond.methodLink RX0 65 Lib.Math.max.name, Cond.methodLink RX0 46 yX2_empty, Cond.instanceMethod yX2_empty, Cond.selects RX2 yX2_empty yX2_empty, Cond.initialized RX2, Cond.code yX2_empty cX2_empty 1 none, Cond.fieldLink RX2 20 "Bidwhistle$Stack" "depth" "I", Cond.methodLink RX0 51 yX0_perform, Cond.static yX0_perform, Cond.code yX0_perform cX0_perform 7 none, Cond.methodLink RX0 68 yX2_push, Cond.instanceMethod yX2_push, Cond.selects RX2 yX2_push yX2_push, Cond.code yX2_push cX2_push 3 none, Cond.fieldLink RX2 14 "Bidwhistle$Stack" "numbers" "LBidwhistle$Row;"]
def wsX4_evolve_r10 : List Cond := [Cond.constantLong RX2 24 (-100000), Cond.constantLong RX2 26 (100000), Cond.methodLink RX2 28 Lib.MathLoose.min_long.x, Cond.static Lib.MathLoose.min_long.x, Cond.code Lib.MathLoose.min_long.x Lib.MathLoose.min_long.code 4 (some .long), Cond.methodLink RX2 34 Lib.MathLoose.max_long.x, Cond.static Lib.MathLoose.max_long.x, Cond.code Lib.MathLoose.max_long.x Lib.MathLoose.max_long.code 4 (some .long), Cond.methodLink RX2 37 yX1_put, Cond.methodLink RX0 55 yX2_pop, Cond.instanceMethod yX2_pop, Cond.selects RX2 yX2_pop yX2_pop, Cond.code yX2_pop cX2_pop 1 (some .int), Cond.methodLink RX2 41 yX1_at, Cond.methodLink RX0 72 yX0_resultOf, Cond.static yX0_resultOf, Cond.code yX0_resultOf cX0_resultOf 5 (some .long), Cond.methodLink RX0 76 Lib.MathLoose.min_long.x, Cond.methodLink RX0 79 Lib.MathLoose.max_long.x, Cond.methodLink RX4 246 yX4_kindOf, Cond.instanceMethod yX4_kindOf, Cond.selects RX4 yX4_kindOf yX4_kindOf, Cond.code yX4_kindOf cX4_kindOf 4 (some .int), Cond.methodLink RX4 253 yX1_isSameAs]
def wsX4_evolve_r11 : List Cond := [Cond.instanceMethod yX1_isSameAs, Cond.selects RX1 yX1_isSameAs yX1_isSameAs, Cond.code yX1_isSameAs cX1_isSameAs 3 (some .boolean), Cond.methodLink RX1 19 yX1_at, Cond.methodLink RX4 250 yJx4a65c_add_9ea2d, Cond.instanceMethod yJx4a65c_add_9ea2d, Cond.selects RJx4a65c yJx4a65c_add_9ea2d yJx4a65c_add_9ea2d, Cond.code yJx4a65c_add_9ea2d cJx4a65c_add_9ea2d 2 (some .boolean), Cond.fieldLink RJx4a65c 63 "java/util/ArrayList" "modCount" "I", Cond.sameField "java/util/ArrayList" "java/util/AbstractList" "modCount" "I", Cond.methodLink RJx4a65c 131 yJx4a65c_add_72be8, Cond.instanceMethod yJx4a65c_add_72be8, Cond.selects RJx4a65c yJx4a65c_add_72be8 yJx4a65c_add_72be8, Cond.code yJx4a65c_add_72be8 cJx4a65c_add_72be8 4 none, Cond.methodLink RJx4a65c 129 yJx4a65c_grow_d5877, Cond.instanceMethod yJx4a65c_grow_d5877, Cond.selects RJx4a65c yJx4a65c_grow_d5877 yJx4a65c_grow_d5877, Cond.code yJx4a65c_grow_d5877 cJx4a65c_grow_d5877 1 (some (.array (.object "java/lang/Object"))), Cond.methodLink RJx4a65c 69 yJx4a65c_grow_92f84, Cond.instanceMethod yJx4a65c_grow_92f84, Cond.selects RJx4a65c yJx4a65c_grow_92f84 yJx4a65c_grow_92f84, Cond.code yJx4a65c_grow_92f84 cJx4a65c_grow_92f84 4 (some (.array (.object "java/lang/Object"))), Cond.fieldLink RJx4a65c 39 "java/util/ArrayList" "DEFAULTCAPACITY_EMPTY_ELEMENTDATA" "[Ljava/lang/Object;", Cond.methodLink RJx4a65c 79 Lib.Math.max.name]
def wsX4_evolve_r12 : List Cond := [Cond.classLink RJx4a65c 7 "java/lang/Object", Cond.methodLink RJx4a65c 73 yJ8_newLength_cabcc, Cond.static yJ8_newLength_cabcc, Cond.initialized RJ8, Cond.code yJ8_newLength_cabcc cJ8_newLength_cabcc 4 (some .int), Cond.methodLink RJ8 194 Lib.Math.max.name, Cond.constant RJ8 200 (2147483639), Cond.methodLink RJ8 201 yJ8_hugeLength_7cf53, Cond.static yJ8_hugeLength_7cf53, Cond.code yJ8_hugeLength_7cf53 cJ8_hugeLength_7cf53 3 (some .int), Cond.methodLink RJx4a65c 66 yJ7_copyOf_1904c, Cond.static yJ7_copyOf_1904c, Cond.initialized RJ7, Cond.code yJ7_copyOf_1904c cJ7_copyOf_1904c 2 (some (.array (.object "java/lang/Object"))), Cond.methodLink RJ7 86 ⟨"java/lang/Object", "getClass", "()Ljava/lang/Class;"⟩, Cond.selects "[Ljava/lang/Object;" ⟨"java/lang/Object", "getClass", "()Ljava/lang/Class;"⟩ ⟨"java/lang/Object", "getClass", "()Ljava/lang/Class;"⟩, Cond.instanceMethod ⟨"java/lang/Object", "getClass", "()Ljava/lang/Class;"⟩, Cond.native ⟨"java/lang/Object", "getClass", "()Ljava/lang/Class;"⟩, Cond.methodLink RJ7 300 yJ7_copyOf_6403c, Cond.static yJ7_copyOf_6403c, Cond.code yJ7_copyOf_6403c cJ7_copyOf_6403c 4 (some (.array (.object "java/lang/Object"))), Cond.classLink RJ7 110 "[Ljava/lang/Object;", Cond.classLink RJ7 2 "java/lang/Object", Cond.methodLink RJ7 304 Lib.Math.min.name]
def wsX4_evolve_r13 : List Cond := [Cond.methodLink RJ7 150 arraycopyName, Cond.native arraycopyName, Cond.static arraycopyName, Cond.initialized "java/lang/System"]
def wsX4_evolve : List Cond := .code yX4_evolve cX4_evolve 4 (some .int) :: ((wsX4_evolve_r1 ++ (wsX4_evolve_r2 ++ (wsX4_evolve_r3 ++ (wsX4_evolve_r4 ++ (wsX4_evolve_r5 ++ (wsX4_evolve_r6 ++ (wsX4_evolve_r7 ++ (wsX4_evolve_r8 ++ (wsX4_evolve_r9 ++ (wsX4_evolve_r10 ++ (wsX4_evolve_r11 ++ (wsX4_evolve_r12 ++ wsX4_evolve_r13)))))))))))) ++ wsX40 ++ wsX30 ++ wsJx4a65c0 ++ wsX10 ++ wsX00 ++ wsX20 ++ (vx_atS RX4 72 "java/lang/IllegalStateException" ["java/lang/RuntimeException", "java/lang/Exception"]).filter goodWord ++ (vx_atS RX4 169 "java/lang/IllegalArgumentException" ["java/lang/RuntimeException", "java/lang/Exception"]).filter goodWord ++ (vx_atS RX4 223 "java/lang/IndexOutOfBoundsException" ["java/lang/RuntimeException", "java/lang/Exception"]).filter goodWord)
def wsX5_init : List Cond := .code yX5_init cX5_init 1 none :: ([.methodLink RX5 1 objectInit, .instanceMethod objectInit, .code objectInit ⟨#[0xb1]⟩ 1 none, .arrayClass .int, .fieldLink RX5 7 "BidwhistleModel" "steps" "[I", .fieldLink RX5 13 "BidwhistleModel" "lengths" "[I", .fieldLink RX5 16 "BidwhistleModel" "parents" "[I", .arrayClass .boolean, .fieldLink RX5 19 "BidwhistleModel" "isIn" "[Z", .fieldLink RX5 23 "BidwhistleModel" "isForbidden" "[Z", .fieldLink RX5 26 "BidwhistleModel" "ones" "[I", .fieldLink RX5 29 "BidwhistleModel" "twos" "[I", .fieldLink RX5 32 "BidwhistleModel" "stack" "[I", .fieldLink RX5 35 "BidwhistleModel" "worths" "[I", .fieldLink RX5 38 "BidwhistleModel" "isOfLine" "[Z"] ++ wsX50)
def wsX5_thrown : List Cond := .code yX5_thrown cX5_thrown 1 (some .int) :: ([.fieldLink RX5 41 "BidwhistleModel" "thrown" "I"] ++ wsX50)
def wsX5_goes : List Cond := .code yX5_goes cX5_goes 2 (some .boolean) :: ([.fieldLink RX5 41 "BidwhistleModel" "thrown" "I"] ++ wsX50)
def wsX5_lies : List Cond := .code yX5_lies cX5_lies 3 (some .boolean) :: ([])
def wsX5_isStrategy : List Cond := .code yX5_isStrategy cX5_isStrategy 2 (some .boolean) :: ([.fieldLink RX5 45 "BidwhistleModel" "stored" "I", .methodLink RX5 48 yX5_lies, .static yX5_lies, .initialized RX5, .code yX5_lies cX5_lies 3 (some .boolean)] ++ wsX50)
def wsX5_isStep : List Cond := .code yX5_isStep cX5_isStep 1 (some .boolean) :: ([.methodLink RX5 48 yX5_lies, .static yX5_lies, .initialized RX5, .code yX5_lies cX5_lies 3 (some .boolean)])
def wsX5_isValue : List Cond := .code yX5_isValue cX5_isValue 1 (some .boolean) :: ([.methodLink RX5 48 yX5_lies, .static yX5_lies, .initialized RX5, .code yX5_lies cX5_lies 3 (some .boolean)])
def wsX5_isAuction : List Cond := .code yX5_isAuction cX5_isAuction 1 (some .boolean) :: ([.methodLink RX5 48 yX5_lies, .static yX5_lies, .initialized RX5, .code yX5_lies cX5_lies 3 (some .boolean)])
def wsX5_made : List Cond := .code yX5_made cX5_made 5 (some .int) :: ([.constantLong RX5 52 (100000), .constantLong RX5 54 (-100000)])
def wsX5_runs : List Cond := .code yX5_runs cX5_runs 4 (some .boolean) :: ([.fieldLink RX5 56 "BidwhistleModel" "top" "I", .fieldLink RX5 13 "BidwhistleModel" "lengths" "[I", .fieldLink RX5 7 "BidwhistleModel" "steps" "[I", .fieldLink RX5 32 "BidwhistleModel" "stack" "[I", .methodLink RX5 59 yX5_made, .static yX5_made, .initialized RX5, .code yX5_made cX5_made 5 (some .int), .constantLong RX5 52 (100000), .constantLong RX5 54 (-100000)] ++ wsX50)
def wsX5_bidOf : List Cond := .code yX5_bidOf cX5_bidOf 3 (some .int) :: ([.fieldLink RX5 32 "BidwhistleModel" "stack" "[I", .methodLink RX5 63 yX5_runs, .instanceMethod yX5_runs, .selects RX5 yX5_runs yX5_runs, .initialized RX5, .code yX5_runs cX5_runs 4 (some .boolean), .fieldLink RX5 56 "BidwhistleModel" "top" "I", .fieldLink RX5 13 "BidwhistleModel" "lengths" "[I", .fieldLink RX5 7 "BidwhistleModel" "steps" "[I", .methodLink RX5 59 yX5_made, .static yX5_made, .code yX5_made cX5_made 5 (some .int), .constantLong RX5 52 (100000), .constantLong RX5 54 (-100000)] ++ wsX50)
def wsX5_hasStep : List Cond := .code yX5_hasStep cX5_hasStep 5 (some .boolean) :: ([.fieldLink RX5 13 "BidwhistleModel" "lengths" "[I", .fieldLink RX5 7 "BidwhistleModel" "steps" "[I"] ++ wsX50)
def wsX5_hasForbidden : List Cond := .code yX5_hasForbidden cX5_hasForbidden 4 (some .boolean) :: ([.fieldLink RX5 23 "BidwhistleModel" "isForbidden" "[Z", .methodLink RX5 67 yX5_hasStep, .instanceMethod yX5_hasStep, .selects RX5 yX5_hasStep yX5_hasStep, .initialized RX5, .code yX5_hasStep cX5_hasStep 5 (some .boolean), .fieldLink RX5 13 "BidwhistleModel" "lengths" "[I", .fieldLink RX5 7 "BidwhistleModel" "steps" "[I"] ++ wsX50)
def wsX5_areSame : List Cond := .code yX5_areSame cX5_areSame 5 (some .boolean) :: ([.fieldLink RX5 13 "BidwhistleModel" "lengths" "[I", .fieldLink RX5 7 "BidwhistleModel" "steps" "[I"] ++ wsX50)
def wsX5_found : List Cond := .code yX5_found cX5_found 4 (some .int) :: ([.fieldLink RX5 45 "BidwhistleModel" "stored" "I", .methodLink RX5 70 yX5_areSame, .instanceMethod yX5_areSame, .selects RX5 yX5_areSame yX5_areSame, .initialized RX5, .code yX5_areSame cX5_areSame 5 (some .boolean), .fieldLink RX5 13 "BidwhistleModel" "lengths" "[I", .fieldLink RX5 7 "BidwhistleModel" "steps" "[I"] ++ wsX50)
def wsX5_step : List Cond := .code yX5_step cX5_step 2 (some .int) :: ([.fieldLink RX5 13 "BidwhistleModel" "lengths" "[I", .fieldLink RX5 7 "BidwhistleModel" "steps" "[I", .methodLink RX5 73 yX5_isStep, .static yX5_isStep, .initialized RX5, .code yX5_isStep cX5_isStep 1 (some .boolean), .methodLink RX5 48 yX5_lies, .static yX5_lies, .code yX5_lies cX5_lies 3 (some .boolean), .methodLink RX5 77 yX5_goes, .instanceMethod yX5_goes, .selects RX5 yX5_goes yX5_goes, .code yX5_goes cX5_goes 2 (some .boolean), .fieldLink RX5 41 "BidwhistleModel" "thrown" "I"] ++ wsX50)
def wsX5_scrap : List Cond := .code yX5_scrap cX5_scrap 2 (some .int) :: ([.fieldLink RX5 41 "BidwhistleModel" "thrown" "I", .fieldLink RX5 13 "BidwhistleModel" "lengths" "[I"] ++ wsX50)
def wsX5_keeps : List Cond := .code yX5_keeps cX5_keeps 5 none :: ([.fieldLink RX5 13 "BidwhistleModel" "lengths" "[I", .fieldLink RX5 45 "BidwhistleModel" "stored" "I", .fieldLink RX5 7 "BidwhistleModel" "steps" "[I", .fieldLink RX5 16 "BidwhistleModel" "parents" "[I"] ++ wsX50)
def wsX5_store_r1 : List Cond := [Cond.fieldLink RX5 45 "BidwhistleModel" "stored" "I", Cond.fieldLink RX5 13 "BidwhistleModel" "lengths" "[I", Cond.methodLink RX5 80 yX5_found, Cond.instanceMethod yX5_found, Cond.selects RX5 yX5_found yX5_found, Cond.initialized RX5, Cond.code yX5_found cX5_found 4 (some .int), Cond.methodLink RX5 70 yX5_areSame, Cond.instanceMethod yX5_areSame, Cond.selects RX5 yX5_areSame yX5_areSame, Cond.code yX5_areSame cX5_areSame 5 (some .boolean), Cond.fieldLink RX5 7 "BidwhistleModel" "steps" "[I", Cond.methodLink RX5 63 yX5_runs, Cond.instanceMethod yX5_runs, Cond.selects RX5 yX5_runs yX5_runs, Cond.code yX5_runs cX5_runs 4 (some .boolean), Cond.fieldLink RX5 56 "BidwhistleModel" "top" "I", Cond.fieldLink RX5 32 "BidwhistleModel" "stack" "[I", Cond.methodLink RX5 59 yX5_made, Cond.static yX5_made, Cond.code yX5_made cX5_made 5 (some .int), Cond.constantLong RX5 52 (100000), Cond.constantLong RX5 54 (-100000), Cond.methodLink RX5 77 yX5_goes]
def wsX5_store_r2 : List Cond := [Cond.instanceMethod yX5_goes, Cond.selects RX5 yX5_goes yX5_goes, Cond.code yX5_goes cX5_goes 2 (some .boolean), Cond.fieldLink RX5 41 "BidwhistleModel" "thrown" "I", Cond.methodLink RX5 84 yX5_keeps, Cond.instanceMethod yX5_keeps, Cond.selects RX5 yX5_keeps yX5_keeps, Cond.code yX5_keeps cX5_keeps 5 none, Cond.fieldLink RX5 16 "BidwhistleModel" "parents" "[I"]
def wsX5_store : List Cond := .code yX5_store cX5_store 2 (some .int) :: ((wsX5_store_r1 ++ wsX5_store_r2) ++ wsX50)
def wsX5_stored : List Cond := .code yX5_stored cX5_stored 1 (some .int) :: ([.fieldLink RX5 41 "BidwhistleModel" "thrown" "I", .fieldLink RX5 45 "BidwhistleModel" "stored" "I"] ++ wsX50)
def wsX5_bid_r1 : List Cond := [Cond.methodLink RX5 88 yX5_isStrategy, Cond.instanceMethod yX5_isStrategy, Cond.selects RX5 yX5_isStrategy yX5_isStrategy, Cond.initialized RX5, Cond.code yX5_isStrategy cX5_isStrategy 2 (some .boolean), Cond.fieldLink RX5 45 "BidwhistleModel" "stored" "I", Cond.methodLink RX5 48 yX5_lies, Cond.static yX5_lies, Cond.code yX5_lies cX5_lies 3 (some .boolean), Cond.methodLink RX5 91 yX5_isValue, Cond.static yX5_isValue, Cond.code yX5_isValue cX5_isValue 1 (some .boolean), Cond.methodLink RX5 77 yX5_goes, Cond.instanceMethod yX5_goes, Cond.selects RX5 yX5_goes yX5_goes, Cond.code yX5_goes cX5_goes 2 (some .boolean), Cond.fieldLink RX5 41 "BidwhistleModel" "thrown" "I", Cond.methodLink RX5 94 yX5_bidOf, Cond.instanceMethod yX5_bidOf, Cond.selects RX5 yX5_bidOf yX5_bidOf, Cond.code yX5_bidOf cX5_bidOf 3 (some .int), Cond.fieldLink RX5 32 "BidwhistleModel" "stack" "[I", Cond.methodLink RX5 63 yX5_runs, Cond.instanceMethod yX5_runs]
def wsX5_bid_r2 : List Cond := [Cond.selects RX5 yX5_runs yX5_runs, Cond.code yX5_runs cX5_runs 4 (some .boolean), Cond.fieldLink RX5 56 "BidwhistleModel" "top" "I", Cond.fieldLink RX5 13 "BidwhistleModel" "lengths" "[I", Cond.fieldLink RX5 7 "BidwhistleModel" "steps" "[I", Cond.methodLink RX5 59 yX5_made, Cond.static yX5_made, Cond.code yX5_made cX5_made 5 (some .int), Cond.constantLong RX5 52 (100000), Cond.constantLong RX5 54 (-100000)]
def wsX5_bid : List Cond := .code yX5_bid cX5_bid 3 (some .int) :: ((wsX5_bid_r1 ++ wsX5_bid_r2) ++ wsX50)
def wsX5_alike_r1 : List Cond := [Cond.fieldLink RX5 45 "BidwhistleModel" "stored" "I", Cond.methodLink RX5 88 yX5_isStrategy, Cond.instanceMethod yX5_isStrategy, Cond.selects RX5 yX5_isStrategy yX5_isStrategy, Cond.initialized RX5, Cond.code yX5_isStrategy cX5_isStrategy 2 (some .boolean), Cond.methodLink RX5 48 yX5_lies, Cond.static yX5_lies, Cond.code yX5_lies cX5_lies 3 (some .boolean), Cond.methodLink RX5 77 yX5_goes, Cond.instanceMethod yX5_goes, Cond.selects RX5 yX5_goes yX5_goes, Cond.code yX5_goes cX5_goes 2 (some .boolean), Cond.fieldLink RX5 41 "BidwhistleModel" "thrown" "I", Cond.methodLink RX5 94 yX5_bidOf, Cond.instanceMethod yX5_bidOf, Cond.selects RX5 yX5_bidOf yX5_bidOf, Cond.code yX5_bidOf cX5_bidOf 3 (some .int), Cond.fieldLink RX5 32 "BidwhistleModel" "stack" "[I", Cond.methodLink RX5 63 yX5_runs, Cond.instanceMethod yX5_runs, Cond.selects RX5 yX5_runs yX5_runs, Cond.code yX5_runs cX5_runs 4 (some .boolean), Cond.fieldLink RX5 56 "BidwhistleModel" "top" "I"]
def wsX5_alike_r2 : List Cond := [Cond.fieldLink RX5 13 "BidwhistleModel" "lengths" "[I", Cond.fieldLink RX5 7 "BidwhistleModel" "steps" "[I", Cond.methodLink RX5 59 yX5_made, Cond.static yX5_made, Cond.code yX5_made cX5_made 5 (some .int), Cond.constantLong RX5 52 (100000), Cond.constantLong RX5 54 (-100000)]
def wsX5_alike : List Cond := .code yX5_alike cX5_alike 6 (some .int) :: ((wsX5_alike_r1 ++ wsX5_alike_r2) ++ wsX50)
def wsX5_parent : List Cond := .code yX5_parent cX5_parent 3 (some .int) :: ([.fieldLink RX5 16 "BidwhistleModel" "parents" "[I", .methodLink RX5 88 yX5_isStrategy, .instanceMethod yX5_isStrategy, .selects RX5 yX5_isStrategy yX5_isStrategy, .initialized RX5, .code yX5_isStrategy cX5_isStrategy 2 (some .boolean), .fieldLink RX5 45 "BidwhistleModel" "stored" "I", .methodLink RX5 48 yX5_lies, .static yX5_lies, .code yX5_lies cX5_lies 3 (some .boolean), .methodLink RX5 77 yX5_goes, .instanceMethod yX5_goes, .selects RX5 yX5_goes yX5_goes, .code yX5_goes cX5_goes 2 (some .boolean), .fieldLink RX5 41 "BidwhistleModel" "thrown" "I"] ++ wsX50)
def wsX5_pooled : List Cond := .code yX5_pooled cX5_pooled 3 (some .int) :: ([.fieldLink RX5 45 "BidwhistleModel" "stored" "I", .fieldLink RX5 19 "BidwhistleModel" "isIn" "[Z"] ++ wsX50)
def wsX5_join_r1 : List Cond := [Cond.fieldLink RX5 19 "BidwhistleModel" "isIn" "[Z", Cond.methodLink RX5 88 yX5_isStrategy, Cond.instanceMethod yX5_isStrategy, Cond.selects RX5 yX5_isStrategy yX5_isStrategy, Cond.initialized RX5, Cond.code yX5_isStrategy cX5_isStrategy 2 (some .boolean), Cond.fieldLink RX5 45 "BidwhistleModel" "stored" "I", Cond.methodLink RX5 48 yX5_lies, Cond.static yX5_lies, Cond.code yX5_lies cX5_lies 3 (some .boolean), Cond.methodLink RX5 98 yX5_hasForbidden, Cond.instanceMethod yX5_hasForbidden, Cond.selects RX5 yX5_hasForbidden yX5_hasForbidden, Cond.code yX5_hasForbidden cX5_hasForbidden 4 (some .boolean), Cond.fieldLink RX5 23 "BidwhistleModel" "isForbidden" "[Z", Cond.methodLink RX5 67 yX5_hasStep, Cond.instanceMethod yX5_hasStep, Cond.selects RX5 yX5_hasStep yX5_hasStep, Cond.code yX5_hasStep cX5_hasStep 5 (some .boolean), Cond.fieldLink RX5 13 "BidwhistleModel" "lengths" "[I", Cond.fieldLink RX5 7 "BidwhistleModel" "steps" "[I", Cond.methodLink RX5 101 yX5_pooled, Cond.instanceMethod yX5_pooled, Cond.selects RX5 yX5_pooled yX5_pooled]
def wsX5_join_r2 : List Cond := [Cond.code yX5_pooled cX5_pooled 3 (some .int), Cond.methodLink RX5 77 yX5_goes, Cond.instanceMethod yX5_goes, Cond.selects RX5 yX5_goes yX5_goes, Cond.code yX5_goes cX5_goes 2 (some .boolean), Cond.fieldLink RX5 41 "BidwhistleModel" "thrown" "I"]
def wsX5_join : List Cond := .code yX5_join cX5_join 2 (some .int) :: ((wsX5_join_r1 ++ wsX5_join_r2) ++ wsX50)
def wsX5_leave : List Cond := .code yX5_leave cX5_leave 2 (some .int) :: ([.fieldLink RX5 19 "BidwhistleModel" "isIn" "[Z", .methodLink RX5 88 yX5_isStrategy, .instanceMethod yX5_isStrategy, .selects RX5 yX5_isStrategy yX5_isStrategy, .initialized RX5, .code yX5_isStrategy cX5_isStrategy 2 (some .boolean), .fieldLink RX5 45 "BidwhistleModel" "stored" "I", .methodLink RX5 48 yX5_lies, .static yX5_lies, .code yX5_lies cX5_lies 3 (some .boolean), .methodLink RX5 77 yX5_goes, .instanceMethod yX5_goes, .selects RX5 yX5_goes yX5_goes, .code yX5_goes cX5_goes 2 (some .boolean), .fieldLink RX5 41 "BidwhistleModel" "thrown" "I", .methodLink RX5 101 yX5_pooled, .instanceMethod yX5_pooled, .selects RX5 yX5_pooled yX5_pooled, .code yX5_pooled cX5_pooled 3 (some .int)] ++ wsX50)
def wsX5_isIn : List Cond := .code yX5_isIn cX5_isIn 2 (some .boolean) :: ([.fieldLink RX5 19 "BidwhistleModel" "isIn" "[Z", .methodLink RX5 88 yX5_isStrategy, .instanceMethod yX5_isStrategy, .selects RX5 yX5_isStrategy yX5_isStrategy, .initialized RX5, .code yX5_isStrategy cX5_isStrategy 2 (some .boolean), .fieldLink RX5 45 "BidwhistleModel" "stored" "I", .methodLink RX5 48 yX5_lies, .static yX5_lies, .code yX5_lies cX5_lies 3 (some .boolean), .methodLink RX5 77 yX5_goes, .instanceMethod yX5_goes, .selects RX5 yX5_goes yX5_goes, .code yX5_goes cX5_goes 2 (some .boolean), .fieldLink RX5 41 "BidwhistleModel" "thrown" "I"] ++ wsX50)
def wsX5_forbid : List Cond := .code yX5_forbid cX5_forbid 6 (some .int) :: ([.fieldLink RX5 23 "BidwhistleModel" "isForbidden" "[Z", .fieldLink RX5 45 "BidwhistleModel" "stored" "I", .fieldLink RX5 16 "BidwhistleModel" "parents" "[I", .fieldLink RX5 38 "BidwhistleModel" "isOfLine" "[Z", .fieldLink RX5 19 "BidwhistleModel" "isIn" "[Z", .methodLink RX5 73 yX5_isStep, .static yX5_isStep, .initialized RX5, .code yX5_isStep cX5_isStep 1 (some .boolean), .methodLink RX5 48 yX5_lies, .static yX5_lies, .code yX5_lies cX5_lies 3 (some .boolean), .methodLink RX5 77 yX5_goes, .instanceMethod yX5_goes, .selects RX5 yX5_goes yX5_goes, .code yX5_goes cX5_goes 2 (some .boolean), .fieldLink RX5 41 "BidwhistleModel" "thrown" "I", .methodLink RX5 67 yX5_hasStep, .instanceMethod yX5_hasStep, .selects RX5 yX5_hasStep yX5_hasStep, .code yX5_hasStep cX5_hasStep 5 (some .boolean), .fieldLink RX5 13 "BidwhistleModel" "lengths" "[I", .fieldLink RX5 7 "BidwhistleModel" "steps" "[I"] ++ wsX50)
def wsX5_allow : List Cond := .code yX5_allow cX5_allow 3 (some .boolean) :: ([.fieldLink RX5 23 "BidwhistleModel" "isForbidden" "[Z", .methodLink RX5 73 yX5_isStep, .static yX5_isStep, .initialized RX5, .code yX5_isStep cX5_isStep 1 (some .boolean), .methodLink RX5 48 yX5_lies, .static yX5_lies, .code yX5_lies cX5_lies 3 (some .boolean), .methodLink RX5 77 yX5_goes, .instanceMethod yX5_goes, .selects RX5 yX5_goes yX5_goes, .code yX5_goes cX5_goes 2 (some .boolean), .fieldLink RX5 41 "BidwhistleModel" "thrown" "I"] ++ wsX50)
def wsX5_tell : List Cond := .code yX5_tell cX5_tell 3 (some .int) :: ([.fieldLink RX5 105 "BidwhistleModel" "pairs" "I", .fieldLink RX5 26 "BidwhistleModel" "ones" "[I", .fieldLink RX5 29 "BidwhistleModel" "twos" "[I", .methodLink RX5 91 yX5_isValue, .static yX5_isValue, .initialized RX5, .code yX5_isValue cX5_isValue 1 (some .boolean), .methodLink RX5 48 yX5_lies, .static yX5_lies, .code yX5_lies cX5_lies 3 (some .boolean), .methodLink RX5 77 yX5_goes, .instanceMethod yX5_goes, .selects RX5 yX5_goes yX5_goes, .code yX5_goes cX5_goes 2 (some .boolean), .fieldLink RX5 41 "BidwhistleModel" "thrown" "I"] ++ wsX50)
def wsX5_forget : List Cond := .code yX5_forget cX5_forget 2 (some .int) :: ([.fieldLink RX5 41 "BidwhistleModel" "thrown" "I", .fieldLink RX5 105 "BidwhistleModel" "pairs" "I"] ++ wsX50)
def wsX5_profitOf : List Cond := .code yX5_profitOf cX5_profitOf 10 (some .int) :: ([.methodLink RX5 94 yX5_bidOf, .instanceMethod yX5_bidOf, .selects RX5 yX5_bidOf yX5_bidOf, .initialized RX5, .code yX5_bidOf cX5_bidOf 3 (some .int), .fieldLink RX5 32 "BidwhistleModel" "stack" "[I", .methodLink RX5 63 yX5_runs, .instanceMethod yX5_runs, .selects RX5 yX5_runs yX5_runs, .code yX5_runs cX5_runs 4 (some .boolean), .fieldLink RX5 56 "BidwhistleModel" "top" "I", .fieldLink RX5 13 "BidwhistleModel" "lengths" "[I", .fieldLink RX5 7 "BidwhistleModel" "steps" "[I", .methodLink RX5 59 yX5_made, .static yX5_made, .code yX5_made cX5_made 5 (some .int), .constantLong RX5 52 (100000), .constantLong RX5 54 (-100000)] ++ wsX50)
def wsX5_profit_r1 : List Cond := [Cond.methodLink RX5 108 yX5_isAuction, Cond.static yX5_isAuction, Cond.initialized RX5, Cond.code yX5_isAuction cX5_isAuction 1 (some .boolean), Cond.methodLink RX5 48 yX5_lies, Cond.static yX5_lies, Cond.code yX5_lies cX5_lies 3 (some .boolean), Cond.methodLink RX5 91 yX5_isValue, Cond.static yX5_isValue, Cond.code yX5_isValue cX5_isValue 1 (some .boolean), Cond.methodLink RX5 88 yX5_isStrategy, Cond.instanceMethod yX5_isStrategy, Cond.selects RX5 yX5_isStrategy yX5_isStrategy, Cond.code yX5_isStrategy cX5_isStrategy 2 (some .boolean), Cond.fieldLink RX5 45 "BidwhistleModel" "stored" "I", Cond.methodLink RX5 77 yX5_goes, Cond.instanceMethod yX5_goes, Cond.selects RX5 yX5_goes yX5_goes, Cond.code yX5_goes cX5_goes 2 (some .boolean), Cond.fieldLink RX5 41 "BidwhistleModel" "thrown" "I", Cond.methodLink RX5 111 yX5_profitOf, Cond.instanceMethod yX5_profitOf, Cond.selects RX5 yX5_profitOf yX5_profitOf, Cond.code yX5_profitOf cX5_profitOf 10 (some .int)]
def wsX5_profit_r2 : List Cond := [Cond.methodLink RX5 94 yX5_bidOf, Cond.instanceMethod yX5_bidOf, Cond.selects RX5 yX5_bidOf yX5_bidOf, Cond.code yX5_bidOf cX5_bidOf 3 (some .int), Cond.fieldLink RX5 32 "BidwhistleModel" "stack" "[I", Cond.methodLink RX5 63 yX5_runs, Cond.instanceMethod yX5_runs, Cond.selects RX5 yX5_runs yX5_runs, Cond.code yX5_runs cX5_runs 4 (some .boolean), Cond.fieldLink RX5 56 "BidwhistleModel" "top" "I", Cond.fieldLink RX5 13 "BidwhistleModel" "lengths" "[I", Cond.fieldLink RX5 7 "BidwhistleModel" "steps" "[I", Cond.methodLink RX5 59 yX5_made, Cond.static yX5_made, Cond.code yX5_made cX5_made 5 (some .int), Cond.constantLong RX5 52 (100000), Cond.constantLong RX5 54 (-100000)]
def wsX5_profit : List Cond := .code yX5_profit cX5_profit 7 (some .int) :: ((wsX5_profit_r1 ++ wsX5_profit_r2) ++ wsX50)
def wsX5_worthOf_r1 : List Cond := [Cond.fieldLink RX5 45 "BidwhistleModel" "stored" "I", Cond.fieldLink RX5 105 "BidwhistleModel" "pairs" "I", Cond.fieldLink RX5 19 "BidwhistleModel" "isIn" "[Z", Cond.fieldLink RX5 26 "BidwhistleModel" "ones" "[I", Cond.fieldLink RX5 29 "BidwhistleModel" "twos" "[I", Cond.methodLink RX5 111 yX5_profitOf, Cond.instanceMethod yX5_profitOf, Cond.selects RX5 yX5_profitOf yX5_profitOf, Cond.initialized RX5, Cond.code yX5_profitOf cX5_profitOf 10 (some .int), Cond.methodLink RX5 94 yX5_bidOf, Cond.instanceMethod yX5_bidOf, Cond.selects RX5 yX5_bidOf yX5_bidOf, Cond.code yX5_bidOf cX5_bidOf 3 (some .int), Cond.fieldLink RX5 32 "BidwhistleModel" "stack" "[I", Cond.methodLink RX5 63 yX5_runs, Cond.instanceMethod yX5_runs, Cond.selects RX5 yX5_runs yX5_runs, Cond.code yX5_runs cX5_runs 4 (some .boolean), Cond.fieldLink RX5 56 "BidwhistleModel" "top" "I", Cond.fieldLink RX5 13 "BidwhistleModel" "lengths" "[I", Cond.fieldLink RX5 7 "BidwhistleModel" "steps" "[I", Cond.methodLink RX5 59 yX5_made, Cond.static yX5_made]
def wsX5_worthOf_r2 : List Cond := [Cond.code yX5_made cX5_made 5 (some .int), Cond.constantLong RX5 52 (100000), Cond.constantLong RX5 54 (-100000)]
def wsX5_worthOf : List Cond := .code yX5_worthOf cX5_worthOf 6 (some .int) :: ((wsX5_worthOf_r1 ++ wsX5_worthOf_r2) ++ wsX50)
def wsX5_worthIn_r1 : List Cond := [Cond.fieldLink RX5 19 "BidwhistleModel" "isIn" "[Z", Cond.methodLink RX5 88 yX5_isStrategy, Cond.instanceMethod yX5_isStrategy, Cond.selects RX5 yX5_isStrategy yX5_isStrategy, Cond.initialized RX5, Cond.code yX5_isStrategy cX5_isStrategy 2 (some .boolean), Cond.fieldLink RX5 45 "BidwhistleModel" "stored" "I", Cond.methodLink RX5 48 yX5_lies, Cond.static yX5_lies, Cond.code yX5_lies cX5_lies 3 (some .boolean), Cond.methodLink RX5 108 yX5_isAuction, Cond.static yX5_isAuction, Cond.code yX5_isAuction cX5_isAuction 1 (some .boolean), Cond.methodLink RX5 77 yX5_goes, Cond.instanceMethod yX5_goes, Cond.selects RX5 yX5_goes yX5_goes, Cond.code yX5_goes cX5_goes 2 (some .boolean), Cond.fieldLink RX5 41 "BidwhistleModel" "thrown" "I", Cond.methodLink RX5 115 yX5_worthOf, Cond.instanceMethod yX5_worthOf, Cond.selects RX5 yX5_worthOf yX5_worthOf, Cond.code yX5_worthOf cX5_worthOf 6 (some .int), Cond.fieldLink RX5 105 "BidwhistleModel" "pairs" "I", Cond.fieldLink RX5 26 "BidwhistleModel" "ones" "[I"]
def wsX5_worthIn_r2 : List Cond := [Cond.fieldLink RX5 29 "BidwhistleModel" "twos" "[I", Cond.methodLink RX5 111 yX5_profitOf, Cond.instanceMethod yX5_profitOf, Cond.selects RX5 yX5_profitOf yX5_profitOf, Cond.code yX5_profitOf cX5_profitOf 10 (some .int), Cond.methodLink RX5 94 yX5_bidOf, Cond.instanceMethod yX5_bidOf, Cond.selects RX5 yX5_bidOf yX5_bidOf, Cond.code yX5_bidOf cX5_bidOf 3 (some .int), Cond.fieldLink RX5 32 "BidwhistleModel" "stack" "[I", Cond.methodLink RX5 63 yX5_runs, Cond.instanceMethod yX5_runs, Cond.selects RX5 yX5_runs yX5_runs, Cond.code yX5_runs cX5_runs 4 (some .boolean), Cond.fieldLink RX5 56 "BidwhistleModel" "top" "I", Cond.fieldLink RX5 13 "BidwhistleModel" "lengths" "[I", Cond.fieldLink RX5 7 "BidwhistleModel" "steps" "[I", Cond.methodLink RX5 59 yX5_made, Cond.static yX5_made, Cond.code yX5_made cX5_made 5 (some .int), Cond.constantLong RX5 52 (100000), Cond.constantLong RX5 54 (-100000)]
def wsX5_worthIn : List Cond := .code yX5_worthIn cX5_worthIn 3 (some .int) :: ((wsX5_worthIn_r1 ++ wsX5_worthIn_r2) ++ wsX50)
def wsX5_worth_r1 : List Cond := [Cond.methodLink RX5 118 yX5_worthIn, Cond.instanceMethod yX5_worthIn, Cond.selects RX5 yX5_worthIn yX5_worthIn, Cond.initialized RX5, Cond.code yX5_worthIn cX5_worthIn 3 (some .int), Cond.fieldLink RX5 19 "BidwhistleModel" "isIn" "[Z", Cond.methodLink RX5 88 yX5_isStrategy, Cond.instanceMethod yX5_isStrategy, Cond.selects RX5 yX5_isStrategy yX5_isStrategy, Cond.code yX5_isStrategy cX5_isStrategy 2 (some .boolean), Cond.fieldLink RX5 45 "BidwhistleModel" "stored" "I", Cond.methodLink RX5 48 yX5_lies, Cond.static yX5_lies, Cond.code yX5_lies cX5_lies 3 (some .boolean), Cond.methodLink RX5 108 yX5_isAuction, Cond.static yX5_isAuction, Cond.code yX5_isAuction cX5_isAuction 1 (some .boolean), Cond.methodLink RX5 77 yX5_goes, Cond.instanceMethod yX5_goes, Cond.selects RX5 yX5_goes yX5_goes, Cond.code yX5_goes cX5_goes 2 (some .boolean), Cond.fieldLink RX5 41 "BidwhistleModel" "thrown" "I", Cond.methodLink RX5 115 yX5_worthOf, Cond.instanceMethod yX5_worthOf]
def wsX5_worth_r2 : List Cond := [Cond.selects RX5 yX5_worthOf yX5_worthOf, Cond.code yX5_worthOf cX5_worthOf 6 (some .int), Cond.fieldLink RX5 105 "BidwhistleModel" "pairs" "I", Cond.fieldLink RX5 26 "BidwhistleModel" "ones" "[I", Cond.fieldLink RX5 29 "BidwhistleModel" "twos" "[I", Cond.methodLink RX5 111 yX5_profitOf, Cond.instanceMethod yX5_profitOf, Cond.selects RX5 yX5_profitOf yX5_profitOf, Cond.code yX5_profitOf cX5_profitOf 10 (some .int), Cond.methodLink RX5 94 yX5_bidOf, Cond.instanceMethod yX5_bidOf, Cond.selects RX5 yX5_bidOf yX5_bidOf, Cond.code yX5_bidOf cX5_bidOf 3 (some .int), Cond.fieldLink RX5 32 "BidwhistleModel" "stack" "[I", Cond.methodLink RX5 63 yX5_runs, Cond.instanceMethod yX5_runs, Cond.selects RX5 yX5_runs yX5_runs, Cond.code yX5_runs cX5_runs 4 (some .boolean), Cond.fieldLink RX5 56 "BidwhistleModel" "top" "I", Cond.fieldLink RX5 13 "BidwhistleModel" "lengths" "[I", Cond.fieldLink RX5 7 "BidwhistleModel" "steps" "[I", Cond.methodLink RX5 59 yX5_made, Cond.static yX5_made, Cond.code yX5_made cX5_made 5 (some .int)]
def wsX5_worth_r3 : List Cond := [Cond.constantLong RX5 52 (100000), Cond.constantLong RX5 54 (-100000)]
def wsX5_worth : List Cond := .code yX5_worth cX5_worth 3 (some .int) :: ((wsX5_worth_r1 ++ (wsX5_worth_r2 ++ wsX5_worth_r3)) ++ wsX50)
def wsX5_worthByValues_r1 : List Cond := [Cond.methodLink RX5 118 yX5_worthIn, Cond.instanceMethod yX5_worthIn, Cond.selects RX5 yX5_worthIn yX5_worthIn, Cond.initialized RX5, Cond.code yX5_worthIn cX5_worthIn 3 (some .int), Cond.fieldLink RX5 19 "BidwhistleModel" "isIn" "[Z", Cond.methodLink RX5 88 yX5_isStrategy, Cond.instanceMethod yX5_isStrategy, Cond.selects RX5 yX5_isStrategy yX5_isStrategy, Cond.code yX5_isStrategy cX5_isStrategy 2 (some .boolean), Cond.fieldLink RX5 45 "BidwhistleModel" "stored" "I", Cond.methodLink RX5 48 yX5_lies, Cond.static yX5_lies, Cond.code yX5_lies cX5_lies 3 (some .boolean), Cond.methodLink RX5 108 yX5_isAuction, Cond.static yX5_isAuction, Cond.code yX5_isAuction cX5_isAuction 1 (some .boolean), Cond.methodLink RX5 77 yX5_goes, Cond.instanceMethod yX5_goes, Cond.selects RX5 yX5_goes yX5_goes, Cond.code yX5_goes cX5_goes 2 (some .boolean), Cond.fieldLink RX5 41 "BidwhistleModel" "thrown" "I", Cond.methodLink RX5 115 yX5_worthOf, Cond.instanceMethod yX5_worthOf]
def wsX5_worthByValues_r2 : List Cond := [Cond.selects RX5 yX5_worthOf yX5_worthOf, Cond.code yX5_worthOf cX5_worthOf 6 (some .int), Cond.fieldLink RX5 105 "BidwhistleModel" "pairs" "I", Cond.fieldLink RX5 26 "BidwhistleModel" "ones" "[I", Cond.fieldLink RX5 29 "BidwhistleModel" "twos" "[I", Cond.methodLink RX5 111 yX5_profitOf, Cond.instanceMethod yX5_profitOf, Cond.selects RX5 yX5_profitOf yX5_profitOf, Cond.code yX5_profitOf cX5_profitOf 10 (some .int), Cond.methodLink RX5 94 yX5_bidOf, Cond.instanceMethod yX5_bidOf, Cond.selects RX5 yX5_bidOf yX5_bidOf, Cond.code yX5_bidOf cX5_bidOf 3 (some .int), Cond.fieldLink RX5 32 "BidwhistleModel" "stack" "[I", Cond.methodLink RX5 63 yX5_runs, Cond.instanceMethod yX5_runs, Cond.selects RX5 yX5_runs yX5_runs, Cond.code yX5_runs cX5_runs 4 (some .boolean), Cond.fieldLink RX5 56 "BidwhistleModel" "top" "I", Cond.fieldLink RX5 13 "BidwhistleModel" "lengths" "[I", Cond.fieldLink RX5 7 "BidwhistleModel" "steps" "[I", Cond.methodLink RX5 59 yX5_made, Cond.static yX5_made, Cond.code yX5_made cX5_made 5 (some .int)]
def wsX5_worthByValues_r3 : List Cond := [Cond.constantLong RX5 52 (100000), Cond.constantLong RX5 54 (-100000)]
def wsX5_worthByValues : List Cond := .code yX5_worthByValues cX5_worthByValues 3 (some .int) :: ((wsX5_worthByValues_r1 ++ (wsX5_worthByValues_r2 ++ wsX5_worthByValues_r3)) ++ wsX50)
def wsX5_laysWorths_r1 : List Cond := [Cond.fieldLink RX5 45 "BidwhistleModel" "stored" "I", Cond.fieldLink RX5 35 "BidwhistleModel" "worths" "[I", Cond.fieldLink RX5 19 "BidwhistleModel" "isIn" "[Z", Cond.methodLink RX5 115 yX5_worthOf, Cond.instanceMethod yX5_worthOf, Cond.selects RX5 yX5_worthOf yX5_worthOf, Cond.initialized RX5, Cond.code yX5_worthOf cX5_worthOf 6 (some .int), Cond.fieldLink RX5 105 "BidwhistleModel" "pairs" "I", Cond.fieldLink RX5 26 "BidwhistleModel" "ones" "[I", Cond.fieldLink RX5 29 "BidwhistleModel" "twos" "[I", Cond.methodLink RX5 111 yX5_profitOf, Cond.instanceMethod yX5_profitOf, Cond.selects RX5 yX5_profitOf yX5_profitOf, Cond.code yX5_profitOf cX5_profitOf 10 (some .int), Cond.methodLink RX5 94 yX5_bidOf, Cond.instanceMethod yX5_bidOf, Cond.selects RX5 yX5_bidOf yX5_bidOf, Cond.code yX5_bidOf cX5_bidOf 3 (some .int), Cond.fieldLink RX5 32 "BidwhistleModel" "stack" "[I", Cond.methodLink RX5 63 yX5_runs, Cond.instanceMethod yX5_runs, Cond.selects RX5 yX5_runs yX5_runs, Cond.code yX5_runs cX5_runs 4 (some .boolean)]
def wsX5_laysWorths_r2 : List Cond := [Cond.fieldLink RX5 56 "BidwhistleModel" "top" "I", Cond.fieldLink RX5 13 "BidwhistleModel" "lengths" "[I", Cond.fieldLink RX5 7 "BidwhistleModel" "steps" "[I", Cond.methodLink RX5 59 yX5_made, Cond.static yX5_made, Cond.code yX5_made cX5_made 5 (some .int), Cond.constantLong RX5 52 (100000), Cond.constantLong RX5 54 (-100000)]
def wsX5_laysWorths : List Cond := .code yX5_laysWorths cX5_laysWorths 3 none :: ((wsX5_laysWorths_r1 ++ wsX5_laysWorths_r2) ++ wsX50)
def wsX5_greatest : List Cond := .code yX5_greatest cX5_greatest 5 (some .int) :: ([.fieldLink RX5 45 "BidwhistleModel" "stored" "I", .fieldLink RX5 19 "BidwhistleModel" "isIn" "[Z", .fieldLink RX5 35 "BidwhistleModel" "worths" "[I"] ++ wsX50)
def wsX5_best_r1 : List Cond := [Cond.methodLink RX5 108 yX5_isAuction, Cond.static yX5_isAuction, Cond.initialized RX5, Cond.code yX5_isAuction cX5_isAuction 1 (some .boolean), Cond.methodLink RX5 48 yX5_lies, Cond.static yX5_lies, Cond.code yX5_lies cX5_lies 3 (some .boolean), Cond.methodLink RX5 77 yX5_goes, Cond.instanceMethod yX5_goes, Cond.selects RX5 yX5_goes yX5_goes, Cond.code yX5_goes cX5_goes 2 (some .boolean), Cond.fieldLink RX5 41 "BidwhistleModel" "thrown" "I", Cond.methodLink RX5 121 yX5_laysWorths, Cond.instanceMethod yX5_laysWorths, Cond.selects RX5 yX5_laysWorths yX5_laysWorths, Cond.code yX5_laysWorths cX5_laysWorths 3 none, Cond.fieldLink RX5 45 "BidwhistleModel" "stored" "I", Cond.fieldLink RX5 35 "BidwhistleModel" "worths" "[I", Cond.fieldLink RX5 19 "BidwhistleModel" "isIn" "[Z", Cond.methodLink RX5 115 yX5_worthOf, Cond.instanceMethod yX5_worthOf, Cond.selects RX5 yX5_worthOf yX5_worthOf, Cond.code yX5_worthOf cX5_worthOf 6 (some .int), Cond.fieldLink RX5 105 "BidwhistleModel" "pairs" "I"]
def wsX5_best_r2 : List Cond := [Cond.fieldLink RX5 26 "BidwhistleModel" "ones" "[I", Cond.fieldLink RX5 29 "BidwhistleModel" "twos" "[I", Cond.methodLink RX5 111 yX5_profitOf, Cond.instanceMethod yX5_profitOf, Cond.selects RX5 yX5_profitOf yX5_profitOf, Cond.code yX5_profitOf cX5_profitOf 10 (some .int), Cond.methodLink RX5 94 yX5_bidOf, Cond.instanceMethod yX5_bidOf, Cond.selects RX5 yX5_bidOf yX5_bidOf, Cond.code yX5_bidOf cX5_bidOf 3 (some .int), Cond.fieldLink RX5 32 "BidwhistleModel" "stack" "[I", Cond.methodLink RX5 63 yX5_runs, Cond.instanceMethod yX5_runs, Cond.selects RX5 yX5_runs yX5_runs, Cond.code yX5_runs cX5_runs 4 (some .boolean), Cond.fieldLink RX5 56 "BidwhistleModel" "top" "I", Cond.fieldLink RX5 13 "BidwhistleModel" "lengths" "[I", Cond.fieldLink RX5 7 "BidwhistleModel" "steps" "[I", Cond.methodLink RX5 59 yX5_made, Cond.static yX5_made, Cond.code yX5_made cX5_made 5 (some .int), Cond.constantLong RX5 52 (100000), Cond.constantLong RX5 54 (-100000), Cond.methodLink RX5 125 yX5_greatest]
def wsX5_best_r3 : List Cond := [Cond.instanceMethod yX5_greatest, Cond.selects RX5 yX5_greatest yX5_greatest, Cond.code yX5_greatest cX5_greatest 5 (some .int)]
def wsX5_best : List Cond := .code yX5_best cX5_best 2 (some .int) :: ((wsX5_best_r1 ++ (wsX5_best_r2 ++ wsX5_best_r3)) ++ wsX50)
def wsX5_weakest : List Cond := .code yX5_weakest cX5_weakest 3 (some .int) :: ([.fieldLink RX5 45 "BidwhistleModel" "stored" "I", .fieldLink RX5 19 "BidwhistleModel" "isIn" "[Z", .fieldLink RX5 35 "BidwhistleModel" "worths" "[I"] ++ wsX50)
def wsX5_crosses : List Cond := .code yX5_crosses cX5_crosses 6 none :: ([.fieldLink RX5 13 "BidwhistleModel" "lengths" "[I", .fieldLink RX5 7 "BidwhistleModel" "steps" "[I", .fieldLink RX5 45 "BidwhistleModel" "stored" "I"] ++ wsX50)
def wsX5_evolve_r1 : List Cond := [Cond.fieldLink RX5 45 "BidwhistleModel" "stored" "I", Cond.fieldLink RX5 19 "BidwhistleModel" "isIn" "[Z", Cond.methodLink RX5 108 yX5_isAuction, Cond.static yX5_isAuction, Cond.initialized RX5, Cond.code yX5_isAuction cX5_isAuction 1 (some .boolean), Cond.methodLink RX5 48 yX5_lies, Cond.static yX5_lies, Cond.code yX5_lies cX5_lies 3 (some .boolean), Cond.methodLink RX5 101 yX5_pooled, Cond.instanceMethod yX5_pooled, Cond.selects RX5 yX5_pooled yX5_pooled, Cond.code yX5_pooled cX5_pooled 3 (some .int), Cond.methodLink RX5 77 yX5_goes, Cond.instanceMethod yX5_goes, Cond.selects RX5 yX5_goes yX5_goes, Cond.code yX5_goes cX5_goes 2 (some .boolean), Cond.fieldLink RX5 41 "BidwhistleModel" "thrown" "I", Cond.methodLink RX5 121 yX5_laysWorths, Cond.instanceMethod yX5_laysWorths, Cond.selects RX5 yX5_laysWorths yX5_laysWorths, Cond.code yX5_laysWorths cX5_laysWorths 3 none, Cond.fieldLink RX5 35 "BidwhistleModel" "worths" "[I", Cond.methodLink RX5 115 yX5_worthOf]
def wsX5_evolve_r2 : List Cond := [Cond.instanceMethod yX5_worthOf, Cond.selects RX5 yX5_worthOf yX5_worthOf, Cond.code yX5_worthOf cX5_worthOf 6 (some .int), Cond.fieldLink RX5 105 "BidwhistleModel" "pairs" "I", Cond.fieldLink RX5 26 "BidwhistleModel" "ones" "[I", Cond.fieldLink RX5 29 "BidwhistleModel" "twos" "[I", Cond.methodLink RX5 111 yX5_profitOf, Cond.instanceMethod yX5_profitOf, Cond.selects RX5 yX5_profitOf yX5_profitOf, Cond.code yX5_profitOf cX5_profitOf 10 (some .int), Cond.methodLink RX5 94 yX5_bidOf, Cond.instanceMethod yX5_bidOf, Cond.selects RX5 yX5_bidOf yX5_bidOf, Cond.code yX5_bidOf cX5_bidOf 3 (some .int), Cond.fieldLink RX5 32 "BidwhistleModel" "stack" "[I", Cond.methodLink RX5 63 yX5_runs, Cond.instanceMethod yX5_runs, Cond.selects RX5 yX5_runs yX5_runs, Cond.code yX5_runs cX5_runs 4 (some .boolean), Cond.fieldLink RX5 56 "BidwhistleModel" "top" "I", Cond.fieldLink RX5 13 "BidwhistleModel" "lengths" "[I", Cond.fieldLink RX5 7 "BidwhistleModel" "steps" "[I", Cond.methodLink RX5 59 yX5_made, Cond.static yX5_made]
def wsX5_evolve_r3 : List Cond := [Cond.code yX5_made cX5_made 5 (some .int), Cond.constantLong RX5 52 (100000), Cond.constantLong RX5 54 (-100000), Cond.methodLink RX5 128 yX5_weakest, Cond.instanceMethod yX5_weakest, Cond.selects RX5 yX5_weakest yX5_weakest, Cond.code yX5_weakest cX5_weakest 3 (some .int), Cond.methodLink RX5 125 yX5_greatest, Cond.instanceMethod yX5_greatest, Cond.selects RX5 yX5_greatest yX5_greatest, Cond.code yX5_greatest cX5_greatest 5 (some .int), Cond.methodLink RX5 131 yX5_crosses, Cond.instanceMethod yX5_crosses, Cond.selects RX5 yX5_crosses yX5_crosses, Cond.code yX5_crosses cX5_crosses 6 none, Cond.methodLink RX5 80 yX5_found, Cond.instanceMethod yX5_found, Cond.selects RX5 yX5_found yX5_found, Cond.code yX5_found cX5_found 4 (some .int), Cond.methodLink RX5 70 yX5_areSame, Cond.instanceMethod yX5_areSame, Cond.selects RX5 yX5_areSame yX5_areSame, Cond.code yX5_areSame cX5_areSame 5 (some .boolean), Cond.methodLink RX5 98 yX5_hasForbidden]
def wsX5_evolve_r4 : List Cond := [Cond.instanceMethod yX5_hasForbidden, Cond.selects RX5 yX5_hasForbidden yX5_hasForbidden, Cond.code yX5_hasForbidden cX5_hasForbidden 4 (some .boolean), Cond.fieldLink RX5 23 "BidwhistleModel" "isForbidden" "[Z", Cond.methodLink RX5 67 yX5_hasStep, Cond.instanceMethod yX5_hasStep, Cond.selects RX5 yX5_hasStep yX5_hasStep, Cond.code yX5_hasStep cX5_hasStep 5 (some .boolean), Cond.methodLink RX5 84 yX5_keeps, Cond.instanceMethod yX5_keeps, Cond.selects RX5 yX5_keeps yX5_keeps, Cond.code yX5_keeps cX5_keeps 5 none, Cond.fieldLink RX5 16 "BidwhistleModel" "parents" "[I"]
def wsX5_evolve : List Cond := .code yX5_evolve cX5_evolve 6 (some .int) :: ((wsX5_evolve_r1 ++ (wsX5_evolve_r2 ++ (wsX5_evolve_r3 ++ wsX5_evolve_r4))) ++ wsX50)
def wsJ9_max_7cf53 : List Cond := .code yJ9_max_7cf53 cJ9_max_7cf53 2 (some .int) :: ([])
def wsJ9_max_f86c9 : List Cond := .code yJ9_max_f86c9 cJ9_max_f86c9 4 (some .long) :: ([])
def wsJ9_min_7cf53 : List Cond := .code yJ9_min_7cf53 cJ9_min_7cf53 2 (some .int) :: ([])
def wsJ9_min_f86c9 : List Cond := .code yJ9_min_f86c9 cJ9_min_f86c9 4 (some .long) :: ([])
def wsL_step_r1 : List Cond := [Cond.classLink RL 13 "java/lang/IllegalArgumentException", Cond.classLink RL 15 "java/lang/IllegalStateException", Cond.methodLink RL 7 yX4_step, Cond.instanceMethod yX4_step, Cond.selects RX4 yX4_step yX4_step, Cond.initialized RX4, Cond.code yX4_step cX4_step 2 (some .int), Cond.classLink RX4 68 "java/lang/IllegalStateException", Cond.initialized "java/lang/IllegalStateException", Cond.fieldLink RX4 10 "Bidwhistle" "draft" "LBidwhistle$Program;", Cond.methodLink RX4 61 yX4_requireStep, Cond.static yX4_requireStep, Cond.code yX4_requireStep cX4_requireStep 1 none, Cond.classLink RX4 165 "java/lang/IllegalArgumentException", Cond.initialized "java/lang/IllegalArgumentException", Cond.methodLink RX4 64 yX0_isFull, Cond.instanceMethod yX0_isFull, Cond.selects RX0 yX0_isFull yX0_isFull, Cond.initialized RX0, Cond.code yX0_isFull cX0_isFull 1 (some .boolean), Cond.fieldLink RX0 20 "Bidwhistle$Program" "length" "I", Cond.methodLink RX4 75 yX0_add, Cond.instanceMethod yX0_add, Cond.selects RX0 yX0_add yX0_add]
def wsL_step_r2 : List Cond := [Cond.code yX0_add cX0_add 2 none, Cond.fieldLink RX0 14 "Bidwhistle$Program" "steps" "LBidwhistle$Row;", Cond.fieldLink RX0 24 "Bidwhistle$Program" "stepBits" "I", Cond.methodLink RX0 27 yX1_put, Cond.instanceMethod yX1_put, Cond.selects RX1 yX1_put yX1_put, Cond.initialized RX1, Cond.code yX1_put cX1_put 3 none, Cond.fieldLink RX1 13 "Bidwhistle$Row" "numbers" "[I", Cond.static yX4_bitOf, Cond.code yX4_bitOf cX4_bitOf 1 (some .int), Cond.methodLink RX4 78 yX0_length, Cond.instanceMethod yX0_length, Cond.selects RX0 yX0_length yX0_length, Cond.code yX0_length cX0_length 1 (some .int)]
def wsL_step : List Cond := .codeWith yL_step cL_step 4 (some .int) [(0, 9, 12, 13), (0, 9, 15, 15)] :: ((wsL_step_r1 ++ wsL_step_r2) ++ wsX40 ++ wsX00 ++ wsX10 ++ (vx_atS RX4 72 "java/lang/IllegalStateException" ["java/lang/RuntimeException", "java/lang/Exception"]).filter goodWord ++ (vx_atS RX4 169 "java/lang/IllegalArgumentException" ["java/lang/RuntimeException", "java/lang/Exception"]).filter goodWord)
def wsL_store_r1 : List Cond := [Cond.classLink RL 15 "java/lang/IllegalStateException", Cond.methodLink RL 17 yX4_store, Cond.instanceMethod yX4_store, Cond.selects RX4 yX4_store yX4_store, Cond.initialized RX4, Cond.code yX4_store cX4_store 2 (some .int), Cond.classLink RX4 68 "java/lang/IllegalStateException", Cond.initialized "java/lang/IllegalStateException", Cond.fieldLink RX4 10 "Bidwhistle" "draft" "LBidwhistle$Program;", Cond.fieldLink RX4 29 "Bidwhistle" "strategies" "Ljava/util/ArrayList;", Cond.methodLink RX4 85 yX0_isRight, Cond.instanceMethod yX0_isRight, Cond.selects RX0 yX0_isRight yX0_isRight, Cond.initialized RX0, Cond.code yX0_isRight cX0_isRight 3 (some .boolean), Cond.fieldLink RX0 20 "Bidwhistle$Program" "length" "I", Cond.fieldLink RX0 14 "Bidwhistle$Program" "steps" "LBidwhistle$Row;", Cond.methodLink RX0 35 yX1_at, Cond.instanceMethod yX1_at, Cond.selects RX1 yX1_at yX1_at, Cond.initialized RX1, Cond.code yX1_at cX1_at 2 (some .int), Cond.fieldLink RX1 13 "Bidwhistle$Row" "numbers" "[I", Cond.methodLink RX4 90 yX4_numberOf]
def wsL_store_r2 : List Cond := [Cond.instanceMethod yX4_numberOf, Cond.selects RX4 yX4_numberOf yX4_numberOf, Cond.code yX4_numberOf cX4_numberOf 3 (some .int), Cond.classLink RX4 111 "Bidwhistle$Strategy", Cond.methodLink RX4 94 yJx4a65c_size_8abf5, Cond.instanceMethod yJx4a65c_size_8abf5, Cond.selects RJx4a65c yJx4a65c_size_8abf5 yJx4a65c_size_8abf5, Cond.initialized RJx4a65c, Cond.code yJx4a65c_size_8abf5 cJx4a65c_size_8abf5 1 (some .int), Cond.fieldLink RJx4a65c 48 "java/util/ArrayList" "size" "I", Cond.methodLink RX4 119 yJx4a65c_get_915e3, Cond.instanceMethod yJx4a65c_get_915e3, Cond.selects RJx4a65c yJx4a65c_get_915e3 yJx4a65c_get_915e3, Cond.code yJx4a65c_get_915e3 cJx4a65c_get_915e3 2 (some (.object "java/lang/Object")), Cond.methodLink RJx4a65c 118 yJ15_checkIndex_7cf53, Cond.static yJ15_checkIndex_7cf53, Cond.initialized RJ15, Cond.code yJ15_checkIndex_7cf53 cJ15_checkIndex_7cf53 2 (some .int), Cond.methodLink RJ15 105 yJ3_checkIndex_8e157, Cond.static yJ3_checkIndex_8e157, Cond.initialized RJ3, Cond.code yJ3_checkIndex_8e157 cJ3_checkIndex_8e157 3 (some .int), Cond.methodLink RJx4a65c 123 yJx4a65c_elementData_915e3, Cond.instanceMethod yJx4a65c_elementData_915e3]
def wsL_store_r3 : List Cond := [Cond.selects RJx4a65c yJx4a65c_elementData_915e3 yJx4a65c_elementData_915e3, Cond.code yJx4a65c_elementData_915e3 cJx4a65c_elementData_915e3 2 (some (.object "java/lang/Object")), Cond.fieldLink RJx4a65c 9 "java/util/ArrayList" "elementData" "[Ljava/lang/Object;", Cond.methodLink RX4 224 yX0_isSameAs, Cond.instanceMethod yX0_isSameAs, Cond.selects RX0 yX0_isSameAs yX0_isSameAs, Cond.code yX0_isSameAs cX0_isSameAs 3 (some .boolean), Cond.methodLink RX4 99 yX4_keep, Cond.instanceMethod yX4_keep, Cond.selects RX4 yX4_keep yX4_keep, Cond.code yX4_keep cX4_keep 7 (some .int), Cond.classLink RX4 111 RX3, Cond.instantiable RX3 8, Cond.initialized RX3, Cond.fieldLink RX4 22 "Bidwhistle" "stack" "LBidwhistle$Stack;", Cond.methodLink RX4 228 yX0_copy, Cond.instanceMethod yX0_copy, Cond.selects RX0 yX0_copy yX0_copy, Cond.code yX0_copy cX0_copy 2 (some (.object "Bidwhistle$Program")), Cond.classLink RX0 15 RX0, Cond.instantiable RX0 3, Cond.methodLink RX0 41 yX0_init, Cond.instanceMethod yX0_init, Cond.code yX0_init cX0_init 1 none]
def wsL_store_r4 : List Cond := [Cond.methodLink RX0 3 objectInit, Cond.instanceMethod objectInit, Cond.code objectInit ⟨#[0xb1]⟩ 1 none, Cond.classLink RX0 9 RX1, Cond.instantiable RX1 1, Cond.fieldLink RX0 24 "Bidwhistle$Program" "stepBits" "I", Cond.methodLink RX0 11 yX1_init, Cond.instanceMethod yX1_init, Cond.code yX1_init cX1_init 2 none, Cond.methodLink RX1 1 objectInit, Cond.methodLink RX1 7 Lib.Math.max.name, Cond.static Lib.Math.max.name, Cond.initialized "java/lang/Math", Cond.code Lib.Math.max.name Lib.Math.max.code 2 (some .int), Cond.arrayClass .int, Cond.methodLink RX0 42 yX0_addPart, Cond.instanceMethod yX0_addPart, Cond.selects RX0 yX0_addPart yX0_addPart, Cond.code yX0_addPart cX0_addPart 5 none, Cond.methodLink RX0 38 yX0_add, Cond.instanceMethod yX0_add, Cond.selects RX0 yX0_add yX0_add, Cond.code yX0_add cX0_add 2 none, Cond.methodLink RX0 27 yX1_put]
def wsL_store_r5 : List Cond := [Cond.instanceMethod yX1_put, Cond.selects RX1 yX1_put yX1_put, Cond.code yX1_put cX1_put 3 none, Cond.static yX4_bitOf, Cond.code yX4_bitOf cX4_bitOf 1 (some .int), Cond.methodLink RX4 232 yX3_init, Cond.instanceMethod yX3_init, Cond.code yX3_init cX3_init 5 none, Cond.methodLink RX3 3 objectInit, Cond.classLink RX3 9 RX1, Cond.fieldLink RX3 14 "Bidwhistle$Strategy" "bids" "LBidwhistle$Row;", Cond.fieldLink RX3 20 "Bidwhistle$Strategy" "stepsOfLine" "I", Cond.fieldLink RX3 24 "Bidwhistle$Strategy" "kind" "I", Cond.fieldLink RX3 27 "Bidwhistle$Strategy" "inPool" "Z", Cond.fieldLink RX3 31 "Bidwhistle$Strategy" "number" "I", Cond.fieldLink RX3 34 "Bidwhistle$Strategy" "program" "LBidwhistle$Program;", Cond.fieldLink RX3 38 "Bidwhistle$Strategy" "firstParent" "I", Cond.fieldLink RX3 41 "Bidwhistle$Strategy" "secondParent" "I", Cond.methodLink RX3 11 yX1_init, Cond.methodLink RX4 238 yX4_stepsOfLine, Cond.instanceMethod yX4_stepsOfLine, Cond.selects RX4 yX4_stepsOfLine yX4_stepsOfLine, Cond.code yX4_stepsOfLine cX4_stepsOfLine 2 (some .int), Cond.methodLink RX4 243 yX0_bidFor]
def wsL_store_r6 : List Cond := [Cond.instanceMethod yX0_bidFor, Cond.selects RX0 yX0_bidFor yX0_bidFor, Cond.code yX0_bidFor cX0_bidFor 4 (some .int), Cond.methodLink RX0 59 Lib.Math.min.name, Cond.static Lib.Math.min.name, Cond.code Lib.Math.min.name Lib.Math.min.code 2 (some .int), Cond.methodLink RX0 65 Lib.Math.max.name, Cond.methodLink RX0 46 yX2_empty, Cond.instanceMethod yX2_empty, Cond.selects RX2 yX2_empty yX2_empty, Cond.initialized RX2, Cond.code yX2_empty cX2_empty 1 none, Cond.fieldLink RX2 20 "Bidwhistle$Stack" "depth" "I", Cond.methodLink RX0 51 yX0_perform, Cond.static yX0_perform, Cond.code yX0_perform cX0_perform 7 none, Cond.methodLink RX0 68 yX2_push, Cond.instanceMethod yX2_push, Cond.selects RX2 yX2_push yX2_push, Cond.code yX2_push cX2_push 3 none, Cond.fieldLink RX2 14 "Bidwhistle$Stack" "numbers" "LBidwhistle$Row;", Cond.constantLong RX2 24 (-100000), Cond.constantLong RX2 26 (100000), Cond.methodLink RX2 28 Lib.MathLoose.min_long.x]
def wsL_store_r7 : List Cond := [Cond.static Lib.MathLoose.min_long.x, Cond.code Lib.MathLoose.min_long.x Lib.MathLoose.min_long.code 4 (some .long), Cond.methodLink RX2 34 Lib.MathLoose.max_long.x, Cond.static Lib.MathLoose.max_long.x, Cond.code Lib.MathLoose.max_long.x Lib.MathLoose.max_long.code 4 (some .long), Cond.methodLink RX2 37 yX1_put, Cond.methodLink RX0 55 yX2_pop, Cond.instanceMethod yX2_pop, Cond.selects RX2 yX2_pop yX2_pop, Cond.code yX2_pop cX2_pop 1 (some .int), Cond.methodLink RX2 41 yX1_at, Cond.methodLink RX0 72 yX0_resultOf, Cond.static yX0_resultOf, Cond.code yX0_resultOf cX0_resultOf 5 (some .long), Cond.methodLink RX0 76 Lib.MathLoose.min_long.x, Cond.methodLink RX0 79 Lib.MathLoose.max_long.x, Cond.methodLink RX4 161 yX1_put, Cond.methodLink RX4 246 yX4_kindOf, Cond.instanceMethod yX4_kindOf, Cond.selects RX4 yX4_kindOf yX4_kindOf, Cond.code yX4_kindOf cX4_kindOf 4 (some .int), Cond.methodLink RX4 253 yX1_isSameAs, Cond.instanceMethod yX1_isSameAs, Cond.selects RX1 yX1_isSameAs yX1_isSameAs]
def wsL_store_r8 : List Cond := [Cond.code yX1_isSameAs cX1_isSameAs 3 (some .boolean), Cond.methodLink RX1 19 yX1_at, Cond.methodLink RX4 250 yJx4a65c_add_9ea2d, Cond.instanceMethod yJx4a65c_add_9ea2d, Cond.selects RJx4a65c yJx4a65c_add_9ea2d yJx4a65c_add_9ea2d, Cond.code yJx4a65c_add_9ea2d cJx4a65c_add_9ea2d 2 (some .boolean), Cond.fieldLink RJx4a65c 63 "java/util/ArrayList" "modCount" "I", Cond.sameField "java/util/ArrayList" "java/util/AbstractList" "modCount" "I", Cond.methodLink RJx4a65c 131 yJx4a65c_add_72be8, Cond.instanceMethod yJx4a65c_add_72be8, Cond.selects RJx4a65c yJx4a65c_add_72be8 yJx4a65c_add_72be8, Cond.code yJx4a65c_add_72be8 cJx4a65c_add_72be8 4 none, Cond.methodLink RJx4a65c 129 yJx4a65c_grow_d5877, Cond.instanceMethod yJx4a65c_grow_d5877, Cond.selects RJx4a65c yJx4a65c_grow_d5877 yJx4a65c_grow_d5877, Cond.code yJx4a65c_grow_d5877 cJx4a65c_grow_d5877 1 (some (.array (.object "java/lang/Object"))), Cond.methodLink RJx4a65c 69 yJx4a65c_grow_92f84, Cond.instanceMethod yJx4a65c_grow_92f84, Cond.selects RJx4a65c yJx4a65c_grow_92f84 yJx4a65c_grow_92f84, Cond.code yJx4a65c_grow_92f84 cJx4a65c_grow_92f84 4 (some (.array (.object "java/lang/Object"))), Cond.fieldLink RJx4a65c 39 "java/util/ArrayList" "DEFAULTCAPACITY_EMPTY_ELEMENTDATA" "[Ljava/lang/Object;", Cond.methodLink RJx4a65c 79 Lib.Math.max.name, Cond.classLink RJx4a65c 7 "java/lang/Object", Cond.methodLink RJx4a65c 73 yJ8_newLength_cabcc]
def wsL_store_r9 : List Cond := [Cond.static yJ8_newLength_cabcc, Cond.initialized RJ8, Cond.code yJ8_newLength_cabcc cJ8_newLength_cabcc 4 (some .int), Cond.methodLink RJ8 194 Lib.Math.max.name, Cond.constant RJ8 200 (2147483639), Cond.methodLink RJ8 201 yJ8_hugeLength_7cf53, Cond.static yJ8_hugeLength_7cf53, Cond.code yJ8_hugeLength_7cf53 cJ8_hugeLength_7cf53 3 (some .int), Cond.methodLink RJx4a65c 66 yJ7_copyOf_1904c, Cond.static yJ7_copyOf_1904c, Cond.initialized RJ7, Cond.code yJ7_copyOf_1904c cJ7_copyOf_1904c 2 (some (.array (.object "java/lang/Object"))), Cond.methodLink RJ7 86 ⟨"java/lang/Object", "getClass", "()Ljava/lang/Class;"⟩, Cond.selects "[Ljava/lang/Object;" ⟨"java/lang/Object", "getClass", "()Ljava/lang/Class;"⟩ ⟨"java/lang/Object", "getClass", "()Ljava/lang/Class;"⟩, Cond.instanceMethod ⟨"java/lang/Object", "getClass", "()Ljava/lang/Class;"⟩, Cond.native ⟨"java/lang/Object", "getClass", "()Ljava/lang/Class;"⟩, Cond.methodLink RJ7 300 yJ7_copyOf_6403c, Cond.static yJ7_copyOf_6403c, Cond.code yJ7_copyOf_6403c cJ7_copyOf_6403c 4 (some (.array (.object "java/lang/Object"))), Cond.classLink RJ7 110 "[Ljava/lang/Object;", Cond.classLink RJ7 2 "java/lang/Object", Cond.methodLink RJ7 304 Lib.Math.min.name, Cond.methodLink RJ7 150 arraycopyName, Cond.native arraycopyName]
def wsL_store_r10 : List Cond := [Cond.static arraycopyName, Cond.initialized "java/lang/System", Cond.methodLink RX4 82 yX0_empty, Cond.instanceMethod yX0_empty, Cond.selects RX0 yX0_empty yX0_empty, Cond.code yX0_empty cX0_empty 1 none]
def wsL_store : List Cond := .codeWith yL_store cL_store 3 (some .int) [(0, 8, 11, 15)] :: ((wsL_store_r1 ++ (wsL_store_r2 ++ (wsL_store_r3 ++ (wsL_store_r4 ++ (wsL_store_r5 ++ (wsL_store_r6 ++ (wsL_store_r7 ++ (wsL_store_r8 ++ (wsL_store_r9 ++ wsL_store_r10))))))))) ++ wsX40 ++ wsX00 ++ wsX10 ++ wsX30 ++ wsJx4a65c0 ++ wsX20 ++ (vx_atS RX4 72 "java/lang/IllegalStateException" ["java/lang/RuntimeException", "java/lang/Exception"]).filter goodWord)
def wsL_bid_r1 : List Cond := [Cond.classLink RL 25 "java/lang/IndexOutOfBoundsException", Cond.classLink RL 13 "java/lang/IllegalArgumentException", Cond.methodLink RL 21 yX4_bid, Cond.instanceMethod yX4_bid, Cond.selects RX4 yX4_bid yX4_bid, Cond.initialized RX4, Cond.code yX4_bid cX4_bid 4 (some .int), Cond.methodLink RX4 103 yX4_strategyAt, Cond.instanceMethod yX4_strategyAt, Cond.selects RX4 yX4_strategyAt yX4_strategyAt, Cond.code yX4_strategyAt cX4_strategyAt 2 (some (.object "Bidwhistle$Strategy")), Cond.classLink RX4 219 "java/lang/IndexOutOfBoundsException", Cond.initialized "java/lang/IndexOutOfBoundsException", Cond.fieldLink RX4 29 "Bidwhistle" "strategies" "Ljava/util/ArrayList;", Cond.classLink RX4 111 "Bidwhistle$Strategy", Cond.methodLink RX4 94 yJx4a65c_size_8abf5, Cond.instanceMethod yJx4a65c_size_8abf5, Cond.selects RJx4a65c yJx4a65c_size_8abf5 yJx4a65c_size_8abf5, Cond.initialized RJx4a65c, Cond.code yJx4a65c_size_8abf5 cJx4a65c_size_8abf5 1 (some .int), Cond.fieldLink RJx4a65c 48 "java/util/ArrayList" "size" "I", Cond.methodLink RX4 119 yJx4a65c_get_915e3, Cond.instanceMethod yJx4a65c_get_915e3, Cond.selects RJx4a65c yJx4a65c_get_915e3 yJx4a65c_get_915e3]
def wsL_bid_r2 : List Cond := [Cond.code yJx4a65c_get_915e3 cJx4a65c_get_915e3 2 (some (.object "java/lang/Object")), Cond.methodLink RJx4a65c 118 yJ15_checkIndex_7cf53, Cond.static yJ15_checkIndex_7cf53, Cond.initialized RJ15, Cond.code yJ15_checkIndex_7cf53 cJ15_checkIndex_7cf53 2 (some .int), Cond.methodLink RJ15 105 yJ3_checkIndex_8e157, Cond.static yJ3_checkIndex_8e157, Cond.initialized RJ3, Cond.code yJ3_checkIndex_8e157 cJ3_checkIndex_8e157 3 (some .int), Cond.methodLink RJx4a65c 123 yJx4a65c_elementData_915e3, Cond.instanceMethod yJx4a65c_elementData_915e3, Cond.selects RJx4a65c yJx4a65c_elementData_915e3 yJx4a65c_elementData_915e3, Cond.code yJx4a65c_elementData_915e3 cJx4a65c_elementData_915e3 2 (some (.object "java/lang/Object")), Cond.fieldLink RJx4a65c 9 "java/util/ArrayList" "elementData" "[Ljava/lang/Object;", Cond.methodLink RX4 107 yX4_requireValue, Cond.static yX4_requireValue, Cond.code yX4_requireValue cX4_requireValue 1 none, Cond.classLink RX4 165 "java/lang/IllegalArgumentException", Cond.initialized "java/lang/IllegalArgumentException", Cond.methodLink RX4 110 yX3_bidFor, Cond.instanceMethod yX3_bidFor, Cond.selects RX3 yX3_bidFor yX3_bidFor, Cond.initialized RX3, Cond.code yX3_bidFor cX3_bidFor 2 (some .int)]
def wsL_bid_r3 : List Cond := [Cond.fieldLink RX3 14 "Bidwhistle$Strategy" "bids" "LBidwhistle$Row;", Cond.methodLink RX3 44 yX1_at, Cond.instanceMethod yX1_at, Cond.selects RX1 yX1_at yX1_at, Cond.initialized RX1, Cond.code yX1_at cX1_at 2 (some .int), Cond.fieldLink RX1 13 "Bidwhistle$Row" "numbers" "[I"]
def wsL_bid : List Cond := .codeWith yL_bid cL_bid 5 (some .int) [(0, 10, 13, 25), (0, 10, 17, 13)] :: ((wsL_bid_r1 ++ (wsL_bid_r2 ++ wsL_bid_r3)) ++ wsX40 ++ wsJx4a65c0 ++ wsX30 ++ wsX10 ++ (vx_atS RX4 223 "java/lang/IndexOutOfBoundsException" ["java/lang/RuntimeException", "java/lang/Exception"]).filter goodWord ++ (vx_atS RX4 169 "java/lang/IllegalArgumentException" ["java/lang/RuntimeException", "java/lang/Exception"]).filter goodWord)
def wsL_alike_r1 : List Cond := [Cond.classLink RL 25 "java/lang/IndexOutOfBoundsException", Cond.methodLink RL 27 yX4_alike, Cond.instanceMethod yX4_alike, Cond.selects RX4 yX4_alike yX4_alike, Cond.initialized RX4, Cond.code yX4_alike cX4_alike 5 (some .int), Cond.fieldLink RX4 29 "Bidwhistle" "strategies" "Ljava/util/ArrayList;", Cond.classLink RX4 111 "Bidwhistle$Strategy", Cond.methodLink RX4 103 yX4_strategyAt, Cond.instanceMethod yX4_strategyAt, Cond.selects RX4 yX4_strategyAt yX4_strategyAt, Cond.code yX4_strategyAt cX4_strategyAt 2 (some (.object "Bidwhistle$Strategy")), Cond.classLink RX4 219 "java/lang/IndexOutOfBoundsException", Cond.initialized "java/lang/IndexOutOfBoundsException", Cond.methodLink RX4 94 yJx4a65c_size_8abf5, Cond.instanceMethod yJx4a65c_size_8abf5, Cond.selects RJx4a65c yJx4a65c_size_8abf5 yJx4a65c_size_8abf5, Cond.initialized RJx4a65c, Cond.code yJx4a65c_size_8abf5 cJx4a65c_size_8abf5 1 (some .int), Cond.fieldLink RJx4a65c 48 "java/util/ArrayList" "size" "I", Cond.methodLink RX4 119 yJx4a65c_get_915e3, Cond.instanceMethod yJx4a65c_get_915e3, Cond.selects RJx4a65c yJx4a65c_get_915e3 yJx4a65c_get_915e3, Cond.code yJx4a65c_get_915e3 cJx4a65c_get_915e3 2 (some (.object "java/lang/Object"))]
def wsL_alike_r2 : List Cond := [Cond.methodLink RJx4a65c 118 yJ15_checkIndex_7cf53, Cond.static yJ15_checkIndex_7cf53, Cond.initialized RJ15, Cond.code yJ15_checkIndex_7cf53 cJ15_checkIndex_7cf53 2 (some .int), Cond.methodLink RJ15 105 yJ3_checkIndex_8e157, Cond.static yJ3_checkIndex_8e157, Cond.initialized RJ3, Cond.code yJ3_checkIndex_8e157 cJ3_checkIndex_8e157 3 (some .int), Cond.methodLink RJx4a65c 123 yJx4a65c_elementData_915e3, Cond.instanceMethod yJx4a65c_elementData_915e3, Cond.selects RJx4a65c yJx4a65c_elementData_915e3 yJx4a65c_elementData_915e3, Cond.code yJx4a65c_elementData_915e3 cJx4a65c_elementData_915e3 2 (some (.object "java/lang/Object")), Cond.fieldLink RJx4a65c 9 "java/util/ArrayList" "elementData" "[Ljava/lang/Object;"]
def wsL_alike : List Cond := .codeWith yL_alike cL_alike 4 (some .int) [(0, 9, 12, 25)] :: ((wsL_alike_r1 ++ wsL_alike_r2) ++ wsX30 ++ wsX40 ++ wsJx4a65c0 ++ (vx_atS RX4 223 "java/lang/IndexOutOfBoundsException" ["java/lang/RuntimeException", "java/lang/Exception"]).filter goodWord)
def wsL_parent_r1 : List Cond := [Cond.classLink RL 25 "java/lang/IndexOutOfBoundsException", Cond.methodLink RL 30 yX4_parent, Cond.instanceMethod yX4_parent, Cond.selects RX4 yX4_parent yX4_parent, Cond.initialized RX4, Cond.code yX4_parent cX4_parent 4 (some .int), Cond.methodLink RX4 103 yX4_strategyAt, Cond.instanceMethod yX4_strategyAt, Cond.selects RX4 yX4_strategyAt yX4_strategyAt, Cond.code yX4_strategyAt cX4_strategyAt 2 (some (.object "Bidwhistle$Strategy")), Cond.classLink RX4 219 "java/lang/IndexOutOfBoundsException", Cond.initialized "java/lang/IndexOutOfBoundsException", Cond.fieldLink RX4 29 "Bidwhistle" "strategies" "Ljava/util/ArrayList;", Cond.classLink RX4 111 "Bidwhistle$Strategy", Cond.methodLink RX4 94 yJx4a65c_size_8abf5, Cond.instanceMethod yJx4a65c_size_8abf5, Cond.selects RJx4a65c yJx4a65c_size_8abf5 yJx4a65c_size_8abf5, Cond.initialized RJx4a65c, Cond.code yJx4a65c_size_8abf5 cJx4a65c_size_8abf5 1 (some .int), Cond.fieldLink RJx4a65c 48 "java/util/ArrayList" "size" "I", Cond.methodLink RX4 119 yJx4a65c_get_915e3, Cond.instanceMethod yJx4a65c_get_915e3, Cond.selects RJx4a65c yJx4a65c_get_915e3 yJx4a65c_get_915e3, Cond.code yJx4a65c_get_915e3 cJx4a65c_get_915e3 2 (some (.object "java/lang/Object"))]
def wsL_parent_r2 : List Cond := [Cond.methodLink RJx4a65c 118 yJ15_checkIndex_7cf53, Cond.static yJ15_checkIndex_7cf53, Cond.initialized RJ15, Cond.code yJ15_checkIndex_7cf53 cJ15_checkIndex_7cf53 2 (some .int), Cond.methodLink RJ15 105 yJ3_checkIndex_8e157, Cond.static yJ3_checkIndex_8e157, Cond.initialized RJ3, Cond.code yJ3_checkIndex_8e157 cJ3_checkIndex_8e157 3 (some .int), Cond.methodLink RJx4a65c 123 yJx4a65c_elementData_915e3, Cond.instanceMethod yJx4a65c_elementData_915e3, Cond.selects RJx4a65c yJx4a65c_elementData_915e3 yJx4a65c_elementData_915e3, Cond.code yJx4a65c_elementData_915e3 cJx4a65c_elementData_915e3 2 (some (.object "java/lang/Object")), Cond.fieldLink RJx4a65c 9 "java/util/ArrayList" "elementData" "[Ljava/lang/Object;"]
def wsL_parent : List Cond := .codeWith yL_parent cL_parent 5 (some .int) [(0, 10, 13, 25)] :: ((wsL_parent_r1 ++ wsL_parent_r2) ++ wsX30 ++ wsX40 ++ wsJx4a65c0 ++ (vx_atS RX4 223 "java/lang/IndexOutOfBoundsException" ["java/lang/RuntimeException", "java/lang/Exception"]).filter goodWord)
def wsL_join_r1 : List Cond := [Cond.classLink RL 25 "java/lang/IndexOutOfBoundsException", Cond.classLink RL 15 "java/lang/IllegalStateException", Cond.methodLink RL 34 yX4_join, Cond.instanceMethod yX4_join, Cond.selects RX4 yX4_join yX4_join, Cond.initialized RX4, Cond.code yX4_join cX4_join 3 (some .int), Cond.classLink RX4 68 "java/lang/IllegalStateException", Cond.initialized "java/lang/IllegalStateException", Cond.fieldLink RX4 33 "Bidwhistle" "forbiddenSteps" "I", Cond.methodLink RX4 103 yX4_strategyAt, Cond.instanceMethod yX4_strategyAt, Cond.selects RX4 yX4_strategyAt yX4_strategyAt, Cond.code yX4_strategyAt cX4_strategyAt 2 (some (.object "Bidwhistle$Strategy")), Cond.classLink RX4 219 "java/lang/IndexOutOfBoundsException", Cond.initialized "java/lang/IndexOutOfBoundsException", Cond.fieldLink RX4 29 "Bidwhistle" "strategies" "Ljava/util/ArrayList;", Cond.classLink RX4 111 "Bidwhistle$Strategy", Cond.methodLink RX4 94 yJx4a65c_size_8abf5, Cond.instanceMethod yJx4a65c_size_8abf5, Cond.selects RJx4a65c yJx4a65c_size_8abf5 yJx4a65c_size_8abf5, Cond.initialized RJx4a65c, Cond.code yJx4a65c_size_8abf5 cJx4a65c_size_8abf5 1 (some .int), Cond.fieldLink RJx4a65c 48 "java/util/ArrayList" "size" "I"]
def wsL_join_r2 : List Cond := [Cond.methodLink RX4 119 yJx4a65c_get_915e3, Cond.instanceMethod yJx4a65c_get_915e3, Cond.selects RJx4a65c yJx4a65c_get_915e3 yJx4a65c_get_915e3, Cond.code yJx4a65c_get_915e3 cJx4a65c_get_915e3 2 (some (.object "java/lang/Object")), Cond.methodLink RJx4a65c 118 yJ15_checkIndex_7cf53, Cond.static yJ15_checkIndex_7cf53, Cond.initialized RJ15, Cond.code yJ15_checkIndex_7cf53 cJ15_checkIndex_7cf53 2 (some .int), Cond.methodLink RJ15 105 yJ3_checkIndex_8e157, Cond.static yJ3_checkIndex_8e157, Cond.initialized RJ3, Cond.code yJ3_checkIndex_8e157 cJ3_checkIndex_8e157 3 (some .int), Cond.methodLink RJx4a65c 123 yJx4a65c_elementData_915e3, Cond.instanceMethod yJx4a65c_elementData_915e3, Cond.selects RJx4a65c yJx4a65c_elementData_915e3 yJx4a65c_elementData_915e3, Cond.code yJx4a65c_elementData_915e3 cJx4a65c_elementData_915e3 2 (some (.object "java/lang/Object")), Cond.fieldLink RJx4a65c 9 "java/util/ArrayList" "elementData" "[Ljava/lang/Object;", Cond.methodLink RX4 138 yX0_hasAnyOf, Cond.instanceMethod yX0_hasAnyOf, Cond.selects RX0 yX0_hasAnyOf yX0_hasAnyOf, Cond.initialized RX0, Cond.code yX0_hasAnyOf cX0_hasAnyOf 2 (some .boolean), Cond.fieldLink RX0 24 "Bidwhistle$Program" "stepBits" "I", Cond.methodLink RX4 144 yX4_poolSize]
def wsL_join_r3 : List Cond := [Cond.instanceMethod yX4_poolSize, Cond.selects RX4 yX4_poolSize yX4_poolSize, Cond.code yX4_poolSize cX4_poolSize 3 (some .int)]
def wsL_join : List Cond := .codeWith yL_join cL_join 4 (some .int) [(0, 9, 12, 25), (0, 9, 15, 15)] :: ((wsL_join_r1 ++ (wsL_join_r2 ++ wsL_join_r3)) ++ wsX30 ++ wsX40 ++ wsJx4a65c0 ++ wsX00 ++ (vx_atS RX4 72 "java/lang/IllegalStateException" ["java/lang/RuntimeException", "java/lang/Exception"]).filter goodWord ++ (vx_atS RX4 223 "java/lang/IndexOutOfBoundsException" ["java/lang/RuntimeException", "java/lang/Exception"]).filter goodWord)
def wsL_leave_r1 : List Cond := [Cond.classLink RL 25 "java/lang/IndexOutOfBoundsException", Cond.classLink RL 15 "java/lang/IllegalStateException", Cond.methodLink RL 37 yX4_leave, Cond.instanceMethod yX4_leave, Cond.selects RX4 yX4_leave yX4_leave, Cond.initialized RX4, Cond.code yX4_leave cX4_leave 3 (some .int), Cond.methodLink RX4 103 yX4_strategyAt, Cond.instanceMethod yX4_strategyAt, Cond.selects RX4 yX4_strategyAt yX4_strategyAt, Cond.code yX4_strategyAt cX4_strategyAt 2 (some (.object "Bidwhistle$Strategy")), Cond.classLink RX4 219 "java/lang/IndexOutOfBoundsException", Cond.initialized "java/lang/IndexOutOfBoundsException", Cond.fieldLink RX4 29 "Bidwhistle" "strategies" "Ljava/util/ArrayList;", Cond.classLink RX4 111 "Bidwhistle$Strategy", Cond.methodLink RX4 94 yJx4a65c_size_8abf5, Cond.instanceMethod yJx4a65c_size_8abf5, Cond.selects RJx4a65c yJx4a65c_size_8abf5 yJx4a65c_size_8abf5, Cond.initialized RJx4a65c, Cond.code yJx4a65c_size_8abf5 cJx4a65c_size_8abf5 1 (some .int), Cond.fieldLink RJx4a65c 48 "java/util/ArrayList" "size" "I", Cond.methodLink RX4 119 yJx4a65c_get_915e3, Cond.instanceMethod yJx4a65c_get_915e3, Cond.selects RJx4a65c yJx4a65c_get_915e3 yJx4a65c_get_915e3]
def wsL_leave_r2 : List Cond := [Cond.code yJx4a65c_get_915e3 cJx4a65c_get_915e3 2 (some (.object "java/lang/Object")), Cond.methodLink RJx4a65c 118 yJ15_checkIndex_7cf53, Cond.static yJ15_checkIndex_7cf53, Cond.initialized RJ15, Cond.code yJ15_checkIndex_7cf53 cJ15_checkIndex_7cf53 2 (some .int), Cond.methodLink RJ15 105 yJ3_checkIndex_8e157, Cond.static yJ3_checkIndex_8e157, Cond.initialized RJ3, Cond.code yJ3_checkIndex_8e157 cJ3_checkIndex_8e157 3 (some .int), Cond.methodLink RJx4a65c 123 yJx4a65c_elementData_915e3, Cond.instanceMethod yJx4a65c_elementData_915e3, Cond.selects RJx4a65c yJx4a65c_elementData_915e3 yJx4a65c_elementData_915e3, Cond.code yJx4a65c_elementData_915e3 cJx4a65c_elementData_915e3 2 (some (.object "java/lang/Object")), Cond.fieldLink RJx4a65c 9 "java/util/ArrayList" "elementData" "[Ljava/lang/Object;", Cond.methodLink RX4 149 yX4_requireInPool, Cond.static yX4_requireInPool, Cond.code yX4_requireInPool cX4_requireInPool 1 none, Cond.classLink RX4 68 "java/lang/IllegalStateException", Cond.initialized "java/lang/IllegalStateException", Cond.methodLink RX4 144 yX4_poolSize, Cond.instanceMethod yX4_poolSize, Cond.selects RX4 yX4_poolSize yX4_poolSize, Cond.code yX4_poolSize cX4_poolSize 3 (some .int)]
def wsL_leave : List Cond := .codeWith yL_leave cL_leave 4 (some .int) [(0, 9, 12, 25), (0, 9, 15, 15)] :: ((wsL_leave_r1 ++ wsL_leave_r2) ++ wsX30 ++ wsX40 ++ wsJx4a65c0 ++ (vx_atS RX4 223 "java/lang/IndexOutOfBoundsException" ["java/lang/RuntimeException", "java/lang/Exception"]).filter goodWord ++ (vx_atS RX4 72 "java/lang/IllegalStateException" ["java/lang/RuntimeException", "java/lang/Exception"]).filter goodWord)
def wsL_isIn_r1 : List Cond := [Cond.classLink RL 25 "java/lang/IndexOutOfBoundsException", Cond.methodLink RL 40 yX4_isIn, Cond.instanceMethod yX4_isIn, Cond.selects RX4 yX4_isIn yX4_isIn, Cond.initialized RX4, Cond.code yX4_isIn cX4_isIn 2 (some .boolean), Cond.methodLink RX4 103 yX4_strategyAt, Cond.instanceMethod yX4_strategyAt, Cond.selects RX4 yX4_strategyAt yX4_strategyAt, Cond.code yX4_strategyAt cX4_strategyAt 2 (some (.object "Bidwhistle$Strategy")), Cond.classLink RX4 219 "java/lang/IndexOutOfBoundsException", Cond.initialized "java/lang/IndexOutOfBoundsException", Cond.fieldLink RX4 29 "Bidwhistle" "strategies" "Ljava/util/ArrayList;", Cond.classLink RX4 111 "Bidwhistle$Strategy", Cond.methodLink RX4 94 yJx4a65c_size_8abf5, Cond.instanceMethod yJx4a65c_size_8abf5, Cond.selects RJx4a65c yJx4a65c_size_8abf5 yJx4a65c_size_8abf5, Cond.initialized RJx4a65c, Cond.code yJx4a65c_size_8abf5 cJx4a65c_size_8abf5 1 (some .int), Cond.fieldLink RJx4a65c 48 "java/util/ArrayList" "size" "I", Cond.methodLink RX4 119 yJx4a65c_get_915e3, Cond.instanceMethod yJx4a65c_get_915e3, Cond.selects RJx4a65c yJx4a65c_get_915e3 yJx4a65c_get_915e3, Cond.code yJx4a65c_get_915e3 cJx4a65c_get_915e3 2 (some (.object "java/lang/Object"))]
def wsL_isIn_r2 : List Cond := [Cond.methodLink RJx4a65c 118 yJ15_checkIndex_7cf53, Cond.static yJ15_checkIndex_7cf53, Cond.initialized RJ15, Cond.code yJ15_checkIndex_7cf53 cJ15_checkIndex_7cf53 2 (some .int), Cond.methodLink RJ15 105 yJ3_checkIndex_8e157, Cond.static yJ3_checkIndex_8e157, Cond.initialized RJ3, Cond.code yJ3_checkIndex_8e157 cJ3_checkIndex_8e157 3 (some .int), Cond.methodLink RJx4a65c 123 yJx4a65c_elementData_915e3, Cond.instanceMethod yJx4a65c_elementData_915e3, Cond.selects RJx4a65c yJx4a65c_elementData_915e3 yJx4a65c_elementData_915e3, Cond.code yJx4a65c_elementData_915e3 cJx4a65c_elementData_915e3 2 (some (.object "java/lang/Object")), Cond.fieldLink RJx4a65c 9 "java/util/ArrayList" "elementData" "[Ljava/lang/Object;"]
def wsL_isIn : List Cond := .codeWith yL_isIn cL_isIn 4 (some .int) [(0, 16, 19, 25)] :: ((wsL_isIn_r1 ++ wsL_isIn_r2) ++ wsX30 ++ wsX40 ++ wsJx4a65c0 ++ (vx_atS RX4 223 "java/lang/IndexOutOfBoundsException" ["java/lang/RuntimeException", "java/lang/Exception"]).filter goodWord)
def wsL_forbid_r1 : List Cond := [Cond.classLink RL 13 "java/lang/IllegalArgumentException", Cond.methodLink RL 44 yX4_forbid, Cond.instanceMethod yX4_forbid, Cond.selects RX4 yX4_forbid yX4_forbid, Cond.initialized RX4, Cond.code yX4_forbid cX4_forbid 5 (some .int), Cond.fieldLink RX4 33 "Bidwhistle" "forbiddenSteps" "I", Cond.fieldLink RX4 29 "Bidwhistle" "strategies" "Ljava/util/ArrayList;", Cond.classLink RX4 111 "Bidwhistle$Strategy", Cond.methodLink RX4 61 yX4_requireStep, Cond.static yX4_requireStep, Cond.code yX4_requireStep cX4_requireStep 1 none, Cond.classLink RX4 165 "java/lang/IllegalArgumentException", Cond.initialized "java/lang/IllegalArgumentException", Cond.methodLink RX4 153 yX4_bitOf, Cond.static yX4_bitOf, Cond.code yX4_bitOf cX4_bitOf 1 (some .int), Cond.methodLink RX4 94 yJx4a65c_size_8abf5, Cond.instanceMethod yJx4a65c_size_8abf5, Cond.selects RJx4a65c yJx4a65c_size_8abf5 yJx4a65c_size_8abf5, Cond.initialized RJx4a65c, Cond.code yJx4a65c_size_8abf5 cJx4a65c_size_8abf5 1 (some .int), Cond.fieldLink RJx4a65c 48 "java/util/ArrayList" "size" "I", Cond.methodLink RX4 119 yJx4a65c_get_915e3]
def wsL_forbid_r2 : List Cond := [Cond.instanceMethod yJx4a65c_get_915e3, Cond.selects RJx4a65c yJx4a65c_get_915e3 yJx4a65c_get_915e3, Cond.code yJx4a65c_get_915e3 cJx4a65c_get_915e3 2 (some (.object "java/lang/Object")), Cond.methodLink RJx4a65c 118 yJ15_checkIndex_7cf53, Cond.static yJ15_checkIndex_7cf53, Cond.initialized RJ15, Cond.code yJ15_checkIndex_7cf53 cJ15_checkIndex_7cf53 2 (some .int), Cond.methodLink RJ15 105 yJ3_checkIndex_8e157, Cond.static yJ3_checkIndex_8e157, Cond.initialized RJ3, Cond.code yJ3_checkIndex_8e157 cJ3_checkIndex_8e157 3 (some .int), Cond.methodLink RJx4a65c 123 yJx4a65c_elementData_915e3, Cond.instanceMethod yJx4a65c_elementData_915e3, Cond.selects RJx4a65c yJx4a65c_elementData_915e3 yJx4a65c_elementData_915e3, Cond.code yJx4a65c_elementData_915e3 cJx4a65c_elementData_915e3 2 (some (.object "java/lang/Object")), Cond.fieldLink RJx4a65c 9 "java/util/ArrayList" "elementData" "[Ljava/lang/Object;"]
def wsL_forbid : List Cond := .codeWith yL_forbid cL_forbid 4 (some .int) [(0, 9, 12, 13)] :: ((wsL_forbid_r1 ++ wsL_forbid_r2) ++ wsX40 ++ wsX30 ++ wsJx4a65c0 ++ (vx_atS RX4 169 "java/lang/IllegalArgumentException" ["java/lang/RuntimeException", "java/lang/Exception"]).filter goodWord)
def wsL_allow : List Cond := .codeWith yL_allow cL_allow 4 (some .int) [(0, 16, 19, 13)] :: ([.classLink RL 13 "java/lang/IllegalArgumentException", .methodLink RL 47 yX4_allow, .instanceMethod yX4_allow, .selects RX4 yX4_allow yX4_allow, .initialized RX4, .code yX4_allow cX4_allow 3 (some .boolean), .fieldLink RX4 33 "Bidwhistle" "forbiddenSteps" "I", .methodLink RX4 61 yX4_requireStep, .static yX4_requireStep, .code yX4_requireStep cX4_requireStep 1 none, .classLink RX4 165 "java/lang/IllegalArgumentException", .initialized "java/lang/IllegalArgumentException", .methodLink RX4 153 yX4_bitOf, .static yX4_bitOf, .code yX4_bitOf cX4_bitOf 1 (some .int)] ++ wsX40 ++ (vx_atS RX4 169 "java/lang/IllegalArgumentException" ["java/lang/RuntimeException", "java/lang/Exception"]).filter goodWord)
def wsL_tell : List Cond := .codeWith yL_tell cL_tell 5 (some .int) [(0, 10, 13, 13), (0, 10, 17, 15)] :: ([.classLink RL 13 "java/lang/IllegalArgumentException", .classLink RL 15 "java/lang/IllegalStateException", .methodLink RL 50 yX4_tell, .instanceMethod yX4_tell, .selects RX4 yX4_tell yX4_tell, .initialized RX4, .code yX4_tell cX4_tell 3 (some .int), .classLink RX4 68 "java/lang/IllegalStateException", .initialized "java/lang/IllegalStateException", .fieldLink RX4 49 "Bidwhistle" "pairsTold" "I", .fieldLink RX4 42 "Bidwhistle" "firstValues" "LBidwhistle$Row;", .fieldLink RX4 46 "Bidwhistle" "secondValues" "LBidwhistle$Row;", .methodLink RX4 107 yX4_requireValue, .static yX4_requireValue, .code yX4_requireValue cX4_requireValue 1 none, .classLink RX4 165 "java/lang/IllegalArgumentException", .initialized "java/lang/IllegalArgumentException", .methodLink RX4 161 yX1_put, .instanceMethod yX1_put, .selects RX1 yX1_put yX1_put, .initialized RX1, .code yX1_put cX1_put 3 none, .fieldLink RX1 13 "Bidwhistle$Row" "numbers" "[I"] ++ wsX40 ++ wsX10 ++ (vx_atS RX4 72 "java/lang/IllegalStateException" ["java/lang/RuntimeException", "java/lang/Exception"]).filter goodWord ++ (vx_atS RX4 169 "java/lang/IllegalArgumentException" ["java/lang/RuntimeException", "java/lang/Exception"]).filter goodWord)
def wsL_profit_r1 : List Cond := [Cond.classLink RL 25 "java/lang/IndexOutOfBoundsException", Cond.classLink RL 13 "java/lang/IllegalArgumentException", Cond.methodLink RL 53 yX4_profit, Cond.instanceMethod yX4_profit, Cond.selects RX4 yX4_profit yX4_profit, Cond.initialized RX4, Cond.code yX4_profit cX4_profit 8 (some .int), Cond.classLink RX4 165 "java/lang/IllegalArgumentException", Cond.initialized "java/lang/IllegalArgumentException", Cond.methodLink RX4 103 yX4_strategyAt, Cond.instanceMethod yX4_strategyAt, Cond.selects RX4 yX4_strategyAt yX4_strategyAt, Cond.code yX4_strategyAt cX4_strategyAt 2 (some (.object "Bidwhistle$Strategy")), Cond.classLink RX4 219 "java/lang/IndexOutOfBoundsException", Cond.initialized "java/lang/IndexOutOfBoundsException", Cond.fieldLink RX4 29 "Bidwhistle" "strategies" "Ljava/util/ArrayList;", Cond.classLink RX4 111 "Bidwhistle$Strategy", Cond.methodLink RX4 94 yJx4a65c_size_8abf5, Cond.instanceMethod yJx4a65c_size_8abf5, Cond.selects RJx4a65c yJx4a65c_size_8abf5 yJx4a65c_size_8abf5, Cond.initialized RJx4a65c, Cond.code yJx4a65c_size_8abf5 cJx4a65c_size_8abf5 1 (some .int), Cond.fieldLink RJx4a65c 48 "java/util/ArrayList" "size" "I", Cond.methodLink RX4 119 yJx4a65c_get_915e3]
def wsL_profit_r2 : List Cond := [Cond.instanceMethod yJx4a65c_get_915e3, Cond.selects RJx4a65c yJx4a65c_get_915e3 yJx4a65c_get_915e3, Cond.code yJx4a65c_get_915e3 cJx4a65c_get_915e3 2 (some (.object "java/lang/Object")), Cond.methodLink RJx4a65c 118 yJ15_checkIndex_7cf53, Cond.static yJ15_checkIndex_7cf53, Cond.initialized RJ15, Cond.code yJ15_checkIndex_7cf53 cJ15_checkIndex_7cf53 2 (some .int), Cond.methodLink RJ15 105 yJ3_checkIndex_8e157, Cond.static yJ3_checkIndex_8e157, Cond.initialized RJ3, Cond.code yJ3_checkIndex_8e157 cJ3_checkIndex_8e157 3 (some .int), Cond.methodLink RJx4a65c 123 yJx4a65c_elementData_915e3, Cond.instanceMethod yJx4a65c_elementData_915e3, Cond.selects RJx4a65c yJx4a65c_elementData_915e3 yJx4a65c_elementData_915e3, Cond.code yJx4a65c_elementData_915e3 cJx4a65c_elementData_915e3 2 (some (.object "java/lang/Object")), Cond.fieldLink RJx4a65c 9 "java/util/ArrayList" "elementData" "[Ljava/lang/Object;", Cond.methodLink RX4 170 yX4_requireAuction, Cond.static yX4_requireAuction, Cond.code yX4_requireAuction cX4_requireAuction 1 none, Cond.methodLink RX4 107 yX4_requireValue, Cond.static yX4_requireValue, Cond.code yX4_requireValue cX4_requireValue 1 none, Cond.methodLink RX4 173 yX4_profitAgainst, Cond.static yX4_profitAgainst]
def wsL_profit_r3 : List Cond := [Cond.code yX4_profitAgainst cX4_profitAgainst 7 (some .int), Cond.methodLink RX4 110 yX3_bidFor, Cond.instanceMethod yX3_bidFor, Cond.selects RX3 yX3_bidFor yX3_bidFor, Cond.initialized RX3, Cond.code yX3_bidFor cX3_bidFor 2 (some .int), Cond.fieldLink RX3 14 "Bidwhistle$Strategy" "bids" "LBidwhistle$Row;", Cond.methodLink RX3 44 yX1_at, Cond.instanceMethod yX1_at, Cond.selects RX1 yX1_at yX1_at, Cond.initialized RX1, Cond.code yX1_at cX1_at 2 (some .int), Cond.fieldLink RX1 13 "Bidwhistle$Row" "numbers" "[I", Cond.methodLink RX4 263 yX4_wins, Cond.static yX4_wins, Cond.code yX4_wins cX4_wins 4 (some .boolean), Cond.methodLink RX4 267 yX4_profitOf, Cond.static yX4_profitOf, Cond.code yX4_profitOf cX4_profitOf 5 (some .int), Cond.methodLink RX4 259 yX4_paid, Cond.static yX4_paid, Cond.code yX4_paid cX4_paid 4 (some .int)]
def wsL_profit : List Cond := .codeWith yL_profit cL_profit 8 (some .int) [(0, 16, 19, 25), (0, 16, 23, 13)] :: ((wsL_profit_r1 ++ (wsL_profit_r2 ++ wsL_profit_r3)) ++ wsX40 ++ wsJx4a65c0 ++ wsX30 ++ wsX10 ++ (vx_atS RX4 169 "java/lang/IllegalArgumentException" ["java/lang/RuntimeException", "java/lang/Exception"]).filter goodWord ++ (vx_atS RX4 223 "java/lang/IndexOutOfBoundsException" ["java/lang/RuntimeException", "java/lang/Exception"]).filter goodWord)
def wsL_worth_r1 : List Cond := [Cond.classLink RL 25 "java/lang/IndexOutOfBoundsException", Cond.classLink RL 13 "java/lang/IllegalArgumentException", Cond.classLink RL 15 "java/lang/IllegalStateException", Cond.methodLink RL 57 yX4_worth, Cond.instanceMethod yX4_worth, Cond.selects RX4 yX4_worth yX4_worth, Cond.initialized RX4, Cond.code yX4_worth cX4_worth 4 (some .int), Cond.methodLink RX4 103 yX4_strategyAt, Cond.instanceMethod yX4_strategyAt, Cond.selects RX4 yX4_strategyAt yX4_strategyAt, Cond.code yX4_strategyAt cX4_strategyAt 2 (some (.object "Bidwhistle$Strategy")), Cond.classLink RX4 219 "java/lang/IndexOutOfBoundsException", Cond.initialized "java/lang/IndexOutOfBoundsException", Cond.fieldLink RX4 29 "Bidwhistle" "strategies" "Ljava/util/ArrayList;", Cond.classLink RX4 111 "Bidwhistle$Strategy", Cond.methodLink RX4 94 yJx4a65c_size_8abf5, Cond.instanceMethod yJx4a65c_size_8abf5, Cond.selects RJx4a65c yJx4a65c_size_8abf5 yJx4a65c_size_8abf5, Cond.initialized RJx4a65c, Cond.code yJx4a65c_size_8abf5 cJx4a65c_size_8abf5 1 (some .int), Cond.fieldLink RJx4a65c 48 "java/util/ArrayList" "size" "I", Cond.methodLink RX4 119 yJx4a65c_get_915e3, Cond.instanceMethod yJx4a65c_get_915e3]
def wsL_worth_r2 : List Cond := [Cond.selects RJx4a65c yJx4a65c_get_915e3 yJx4a65c_get_915e3, Cond.code yJx4a65c_get_915e3 cJx4a65c_get_915e3 2 (some (.object "java/lang/Object")), Cond.methodLink RJx4a65c 118 yJ15_checkIndex_7cf53, Cond.static yJ15_checkIndex_7cf53, Cond.initialized RJ15, Cond.code yJ15_checkIndex_7cf53 cJ15_checkIndex_7cf53 2 (some .int), Cond.methodLink RJ15 105 yJ3_checkIndex_8e157, Cond.static yJ3_checkIndex_8e157, Cond.initialized RJ3, Cond.code yJ3_checkIndex_8e157 cJ3_checkIndex_8e157 3 (some .int), Cond.methodLink RJx4a65c 123 yJx4a65c_elementData_915e3, Cond.instanceMethod yJx4a65c_elementData_915e3, Cond.selects RJx4a65c yJx4a65c_elementData_915e3 yJx4a65c_elementData_915e3, Cond.code yJx4a65c_elementData_915e3 cJx4a65c_elementData_915e3 2 (some (.object "java/lang/Object")), Cond.fieldLink RJx4a65c 9 "java/util/ArrayList" "elementData" "[Ljava/lang/Object;", Cond.methodLink RX4 170 yX4_requireAuction, Cond.static yX4_requireAuction, Cond.code yX4_requireAuction cX4_requireAuction 1 none, Cond.classLink RX4 165 "java/lang/IllegalArgumentException", Cond.initialized "java/lang/IllegalArgumentException", Cond.methodLink RX4 149 yX4_requireInPool, Cond.static yX4_requireInPool, Cond.code yX4_requireInPool cX4_requireInPool 1 none, Cond.classLink RX4 68 "java/lang/IllegalStateException"]
def wsL_worth_r3 : List Cond := [Cond.initialized "java/lang/IllegalStateException", Cond.methodLink RX4 177 yX4_worthByStrategies, Cond.instanceMethod yX4_worthByStrategies, Cond.selects RX4 yX4_worthByStrategies yX4_worthByStrategies, Cond.code yX4_worthByStrategies cX4_worthByStrategies 6 (some .int), Cond.methodLink RX4 271 yX4_profitOfRounds, Cond.instanceMethod yX4_profitOfRounds, Cond.selects RX4 yX4_profitOfRounds yX4_profitOfRounds, Cond.code yX4_profitOfRounds cX4_profitOfRounds 8 (some .int), Cond.fieldLink RX4 49 "Bidwhistle" "pairsTold" "I", Cond.fieldLink RX4 42 "Bidwhistle" "firstValues" "LBidwhistle$Row;", Cond.fieldLink RX4 46 "Bidwhistle" "secondValues" "LBidwhistle$Row;", Cond.methodLink RX4 181 yX1_at, Cond.instanceMethod yX1_at, Cond.selects RX1 yX1_at yX1_at, Cond.initialized RX1, Cond.code yX1_at cX1_at 2 (some .int), Cond.fieldLink RX1 13 "Bidwhistle$Row" "numbers" "[I", Cond.methodLink RX4 173 yX4_profitAgainst, Cond.static yX4_profitAgainst, Cond.code yX4_profitAgainst cX4_profitAgainst 7 (some .int), Cond.methodLink RX4 110 yX3_bidFor, Cond.instanceMethod yX3_bidFor, Cond.selects RX3 yX3_bidFor yX3_bidFor]
def wsL_worth_r4 : List Cond := [Cond.initialized RX3, Cond.code yX3_bidFor cX3_bidFor 2 (some .int), Cond.fieldLink RX3 14 "Bidwhistle$Strategy" "bids" "LBidwhistle$Row;", Cond.methodLink RX3 44 yX1_at, Cond.methodLink RX4 263 yX4_wins, Cond.static yX4_wins, Cond.code yX4_wins cX4_wins 4 (some .boolean), Cond.methodLink RX4 267 yX4_profitOf, Cond.static yX4_profitOf, Cond.code yX4_profitOf cX4_profitOf 5 (some .int), Cond.methodLink RX4 259 yX4_paid, Cond.static yX4_paid, Cond.code yX4_paid cX4_paid 4 (some .int)]
def wsL_worth : List Cond := .codeWith yL_worth cL_worth 5 (some .int) [(0, 10, 13, 25), (0, 10, 17, 13), (0, 10, 21, 15)] :: ((wsL_worth_r1 ++ (wsL_worth_r2 ++ (wsL_worth_r3 ++ wsL_worth_r4))) ++ wsX40 ++ wsJx4a65c0 ++ wsX30 ++ wsX10 ++ (vx_atS RX4 223 "java/lang/IndexOutOfBoundsException" ["java/lang/RuntimeException", "java/lang/Exception"]).filter goodWord ++ (vx_atS RX4 169 "java/lang/IllegalArgumentException" ["java/lang/RuntimeException", "java/lang/Exception"]).filter goodWord ++ (vx_atS RX4 72 "java/lang/IllegalStateException" ["java/lang/RuntimeException", "java/lang/Exception"]).filter goodWord)
def wsL_worthByValues_r1 : List Cond := [Cond.classLink RL 25 "java/lang/IndexOutOfBoundsException", Cond.classLink RL 13 "java/lang/IllegalArgumentException", Cond.classLink RL 15 "java/lang/IllegalStateException", Cond.methodLink RL 60 yX4_worthByValues, Cond.instanceMethod yX4_worthByValues, Cond.selects RX4 yX4_worthByValues yX4_worthByValues, Cond.initialized RX4, Cond.code yX4_worthByValues cX4_worthByValues 8 (some .int), Cond.fieldLink RX4 49 "Bidwhistle" "pairsTold" "I", Cond.fieldLink RX4 42 "Bidwhistle" "firstValues" "LBidwhistle$Row;", Cond.fieldLink RX4 46 "Bidwhistle" "secondValues" "LBidwhistle$Row;", Cond.fieldLink RX4 52 "Bidwhistle" "bidsForFirst" "LBidwhistle$Row;", Cond.fieldLink RX4 55 "Bidwhistle" "bidsForSecond" "LBidwhistle$Row;", Cond.methodLink RX4 103 yX4_strategyAt, Cond.instanceMethod yX4_strategyAt, Cond.selects RX4 yX4_strategyAt yX4_strategyAt, Cond.code yX4_strategyAt cX4_strategyAt 2 (some (.object "Bidwhistle$Strategy")), Cond.classLink RX4 219 "java/lang/IndexOutOfBoundsException", Cond.initialized "java/lang/IndexOutOfBoundsException", Cond.fieldLink RX4 29 "Bidwhistle" "strategies" "Ljava/util/ArrayList;", Cond.classLink RX4 111 "Bidwhistle$Strategy", Cond.methodLink RX4 94 yJx4a65c_size_8abf5, Cond.instanceMethod yJx4a65c_size_8abf5, Cond.selects RJx4a65c yJx4a65c_size_8abf5 yJx4a65c_size_8abf5]
def wsL_worthByValues_r2 : List Cond := [Cond.initialized RJx4a65c, Cond.code yJx4a65c_size_8abf5 cJx4a65c_size_8abf5 1 (some .int), Cond.fieldLink RJx4a65c 48 "java/util/ArrayList" "size" "I", Cond.methodLink RX4 119 yJx4a65c_get_915e3, Cond.instanceMethod yJx4a65c_get_915e3, Cond.selects RJx4a65c yJx4a65c_get_915e3 yJx4a65c_get_915e3, Cond.code yJx4a65c_get_915e3 cJx4a65c_get_915e3 2 (some (.object "java/lang/Object")), Cond.methodLink RJx4a65c 118 yJ15_checkIndex_7cf53, Cond.static yJ15_checkIndex_7cf53, Cond.initialized RJ15, Cond.code yJ15_checkIndex_7cf53 cJ15_checkIndex_7cf53 2 (some .int), Cond.methodLink RJ15 105 yJ3_checkIndex_8e157, Cond.static yJ3_checkIndex_8e157, Cond.initialized RJ3, Cond.code yJ3_checkIndex_8e157 cJ3_checkIndex_8e157 3 (some .int), Cond.methodLink RJx4a65c 123 yJx4a65c_elementData_915e3, Cond.instanceMethod yJx4a65c_elementData_915e3, Cond.selects RJx4a65c yJx4a65c_elementData_915e3 yJx4a65c_elementData_915e3, Cond.code yJx4a65c_elementData_915e3 cJx4a65c_elementData_915e3 2 (some (.object "java/lang/Object")), Cond.fieldLink RJx4a65c 9 "java/util/ArrayList" "elementData" "[Ljava/lang/Object;", Cond.methodLink RX4 170 yX4_requireAuction, Cond.static yX4_requireAuction, Cond.code yX4_requireAuction cX4_requireAuction 1 none, Cond.classLink RX4 165 "java/lang/IllegalArgumentException"]
def wsL_worthByValues_r3 : List Cond := [Cond.initialized "java/lang/IllegalArgumentException", Cond.methodLink RX4 149 yX4_requireInPool, Cond.static yX4_requireInPool, Cond.code yX4_requireInPool cX4_requireInPool 1 none, Cond.classLink RX4 68 "java/lang/IllegalStateException", Cond.initialized "java/lang/IllegalStateException", Cond.methodLink RX4 181 yX1_at, Cond.instanceMethod yX1_at, Cond.selects RX1 yX1_at yX1_at, Cond.initialized RX1, Cond.code yX1_at cX1_at 2 (some .int), Cond.fieldLink RX1 13 "Bidwhistle$Row" "numbers" "[I", Cond.methodLink RX4 184 yX4_layBids, Cond.instanceMethod yX4_layBids, Cond.selects RX4 yX4_layBids yX4_layBids, Cond.code yX4_layBids cX4_layBids 5 none, Cond.methodLink RX4 110 yX3_bidFor, Cond.instanceMethod yX3_bidFor, Cond.selects RX3 yX3_bidFor yX3_bidFor, Cond.initialized RX3, Cond.code yX3_bidFor cX3_bidFor 2 (some .int), Cond.fieldLink RX3 14 "Bidwhistle$Strategy" "bids" "LBidwhistle$Row;", Cond.methodLink RX3 44 yX1_at, Cond.methodLink RX4 161 yX1_put]
def wsL_worthByValues_r4 : List Cond := [Cond.instanceMethod yX1_put, Cond.selects RX1 yX1_put yX1_put, Cond.code yX1_put cX1_put 3 none, Cond.methodLink RX4 188 yX4_profitInRows, Cond.instanceMethod yX4_profitInRows, Cond.selects RX4 yX4_profitInRows yX4_profitInRows, Cond.code yX4_profitInRows cX4_profitInRows 10 (some .int), Cond.methodLink RX4 263 yX4_wins, Cond.static yX4_wins, Cond.code yX4_wins cX4_wins 4 (some .boolean), Cond.methodLink RX4 267 yX4_profitOf, Cond.static yX4_profitOf, Cond.code yX4_profitOf cX4_profitOf 5 (some .int), Cond.methodLink RX4 259 yX4_paid, Cond.static yX4_paid, Cond.code yX4_paid cX4_paid 4 (some .int)]
def wsL_worthByValues : List Cond := .codeWith yL_worthByValues cL_worthByValues 5 (some .int) [(0, 10, 13, 25), (0, 10, 17, 13), (0, 10, 21, 15)] :: ((wsL_worthByValues_r1 ++ (wsL_worthByValues_r2 ++ (wsL_worthByValues_r3 ++ wsL_worthByValues_r4))) ++ wsX40 ++ wsJx4a65c0 ++ wsX30 ++ wsX10 ++ (vx_atS RX4 223 "java/lang/IndexOutOfBoundsException" ["java/lang/RuntimeException", "java/lang/Exception"]).filter goodWord ++ (vx_atS RX4 169 "java/lang/IllegalArgumentException" ["java/lang/RuntimeException", "java/lang/Exception"]).filter goodWord ++ (vx_atS RX4 72 "java/lang/IllegalStateException" ["java/lang/RuntimeException", "java/lang/Exception"]).filter goodWord)
def wsL_best_r1 : List Cond := [Cond.classLink RL 13 "java/lang/IllegalArgumentException", Cond.methodLink RL 63 yX4_best, Cond.instanceMethod yX4_best, Cond.selects RX4 yX4_best yX4_best, Cond.initialized RX4, Cond.code yX4_best cX4_best 2 (some .int), Cond.methodLink RX4 170 yX4_requireAuction, Cond.static yX4_requireAuction, Cond.code yX4_requireAuction cX4_requireAuction 1 none, Cond.classLink RX4 165 "java/lang/IllegalArgumentException", Cond.initialized "java/lang/IllegalArgumentException", Cond.methodLink RX4 192 yX4_layWorths, Cond.instanceMethod yX4_layWorths, Cond.selects RX4 yX4_layWorths yX4_layWorths, Cond.code yX4_layWorths cX4_layWorths 4 none, Cond.fieldLink RX4 29 "Bidwhistle" "strategies" "Ljava/util/ArrayList;", Cond.classLink RX4 111 "Bidwhistle$Strategy", Cond.fieldLink RX4 58 "Bidwhistle" "worths" "LBidwhistle$Row;", Cond.methodLink RX4 94 yJx4a65c_size_8abf5, Cond.instanceMethod yJx4a65c_size_8abf5, Cond.selects RJx4a65c yJx4a65c_size_8abf5 yJx4a65c_size_8abf5, Cond.initialized RJx4a65c, Cond.code yJx4a65c_size_8abf5 cJx4a65c_size_8abf5 1 (some .int), Cond.fieldLink RJx4a65c 48 "java/util/ArrayList" "size" "I"]
def wsL_best_r2 : List Cond := [Cond.methodLink RX4 119 yJx4a65c_get_915e3, Cond.instanceMethod yJx4a65c_get_915e3, Cond.selects RJx4a65c yJx4a65c_get_915e3 yJx4a65c_get_915e3, Cond.code yJx4a65c_get_915e3 cJx4a65c_get_915e3 2 (some (.object "java/lang/Object")), Cond.methodLink RJx4a65c 118 yJ15_checkIndex_7cf53, Cond.static yJ15_checkIndex_7cf53, Cond.initialized RJ15, Cond.code yJ15_checkIndex_7cf53 cJ15_checkIndex_7cf53 2 (some .int), Cond.methodLink RJ15 105 yJ3_checkIndex_8e157, Cond.static yJ3_checkIndex_8e157, Cond.initialized RJ3, Cond.code yJ3_checkIndex_8e157 cJ3_checkIndex_8e157 3 (some .int), Cond.methodLink RJx4a65c 123 yJx4a65c_elementData_915e3, Cond.instanceMethod yJx4a65c_elementData_915e3, Cond.selects RJx4a65c yJx4a65c_elementData_915e3 yJx4a65c_elementData_915e3, Cond.code yJx4a65c_elementData_915e3 cJx4a65c_elementData_915e3 2 (some (.object "java/lang/Object")), Cond.fieldLink RJx4a65c 9 "java/util/ArrayList" "elementData" "[Ljava/lang/Object;", Cond.methodLink RX4 177 yX4_worthByStrategies, Cond.instanceMethod yX4_worthByStrategies, Cond.selects RX4 yX4_worthByStrategies yX4_worthByStrategies, Cond.code yX4_worthByStrategies cX4_worthByStrategies 6 (some .int), Cond.methodLink RX4 271 yX4_profitOfRounds, Cond.instanceMethod yX4_profitOfRounds, Cond.selects RX4 yX4_profitOfRounds yX4_profitOfRounds]
def wsL_best_r3 : List Cond := [Cond.code yX4_profitOfRounds cX4_profitOfRounds 8 (some .int), Cond.fieldLink RX4 49 "Bidwhistle" "pairsTold" "I", Cond.fieldLink RX4 42 "Bidwhistle" "firstValues" "LBidwhistle$Row;", Cond.fieldLink RX4 46 "Bidwhistle" "secondValues" "LBidwhistle$Row;", Cond.methodLink RX4 181 yX1_at, Cond.instanceMethod yX1_at, Cond.selects RX1 yX1_at yX1_at, Cond.initialized RX1, Cond.code yX1_at cX1_at 2 (some .int), Cond.fieldLink RX1 13 "Bidwhistle$Row" "numbers" "[I", Cond.methodLink RX4 173 yX4_profitAgainst, Cond.static yX4_profitAgainst, Cond.code yX4_profitAgainst cX4_profitAgainst 7 (some .int), Cond.methodLink RX4 110 yX3_bidFor, Cond.instanceMethod yX3_bidFor, Cond.selects RX3 yX3_bidFor yX3_bidFor, Cond.initialized RX3, Cond.code yX3_bidFor cX3_bidFor 2 (some .int), Cond.fieldLink RX3 14 "Bidwhistle$Strategy" "bids" "LBidwhistle$Row;", Cond.methodLink RX3 44 yX1_at, Cond.methodLink RX4 263 yX4_wins, Cond.static yX4_wins, Cond.code yX4_wins cX4_wins 4 (some .boolean), Cond.methodLink RX4 267 yX4_profitOf]
def wsL_best_r4 : List Cond := [Cond.static yX4_profitOf, Cond.code yX4_profitOf cX4_profitOf 5 (some .int), Cond.methodLink RX4 259 yX4_paid, Cond.static yX4_paid, Cond.code yX4_paid cX4_paid 4 (some .int), Cond.methodLink RX4 161 yX1_put, Cond.instanceMethod yX1_put, Cond.selects RX1 yX1_put yX1_put, Cond.code yX1_put cX1_put 3 none, Cond.methodLink RX4 195 yX4_strongestBut, Cond.instanceMethod yX4_strongestBut, Cond.selects RX4 yX4_strongestBut yX4_strongestBut, Cond.code yX4_strongestBut cX4_strongestBut 4 (some .int)]
def wsL_best : List Cond := .codeWith yL_best cL_best 4 (some .int) [(0, 9, 12, 13)] :: ((wsL_best_r1 ++ (wsL_best_r2 ++ (wsL_best_r3 ++ wsL_best_r4))) ++ wsX40 ++ wsX30 ++ wsJx4a65c0 ++ wsX10 ++ (vx_atS RX4 169 "java/lang/IllegalArgumentException" ["java/lang/RuntimeException", "java/lang/Exception"]).filter goodWord)
def wsL_evolve_r1 : List Cond := [Cond.classLink RL 13 "java/lang/IllegalArgumentException", Cond.classLink RL 15 "java/lang/IllegalStateException", Cond.methodLink RL 66 yX4_evolve, Cond.instanceMethod yX4_evolve, Cond.selects RX4 yX4_evolve yX4_evolve, Cond.initialized RX4, Cond.code yX4_evolve cX4_evolve 4 (some .int), Cond.classLink RX4 68 "java/lang/IllegalStateException", Cond.initialized "java/lang/IllegalStateException", Cond.fieldLink RX4 29 "Bidwhistle" "strategies" "Ljava/util/ArrayList;", Cond.methodLink RX4 170 yX4_requireAuction, Cond.static yX4_requireAuction, Cond.code yX4_requireAuction cX4_requireAuction 1 none, Cond.classLink RX4 165 "java/lang/IllegalArgumentException", Cond.initialized "java/lang/IllegalArgumentException", Cond.methodLink RX4 144 yX4_poolSize, Cond.instanceMethod yX4_poolSize, Cond.selects RX4 yX4_poolSize yX4_poolSize, Cond.code yX4_poolSize cX4_poolSize 3 (some .int), Cond.classLink RX4 111 "Bidwhistle$Strategy", Cond.methodLink RX4 94 yJx4a65c_size_8abf5, Cond.instanceMethod yJx4a65c_size_8abf5, Cond.selects RJx4a65c yJx4a65c_size_8abf5 yJx4a65c_size_8abf5, Cond.initialized RJx4a65c]
def wsL_evolve_r2 : List Cond := [Cond.code yJx4a65c_size_8abf5 cJx4a65c_size_8abf5 1 (some .int), Cond.fieldLink RJx4a65c 48 "java/util/ArrayList" "size" "I", Cond.methodLink RX4 119 yJx4a65c_get_915e3, Cond.instanceMethod yJx4a65c_get_915e3, Cond.selects RJx4a65c yJx4a65c_get_915e3 yJx4a65c_get_915e3, Cond.code yJx4a65c_get_915e3 cJx4a65c_get_915e3 2 (some (.object "java/lang/Object")), Cond.methodLink RJx4a65c 118 yJ15_checkIndex_7cf53, Cond.static yJ15_checkIndex_7cf53, Cond.initialized RJ15, Cond.code yJ15_checkIndex_7cf53 cJ15_checkIndex_7cf53 2 (some .int), Cond.methodLink RJ15 105 yJ3_checkIndex_8e157, Cond.static yJ3_checkIndex_8e157, Cond.initialized RJ3, Cond.code yJ3_checkIndex_8e157 cJ3_checkIndex_8e157 3 (some .int), Cond.methodLink RJx4a65c 123 yJx4a65c_elementData_915e3, Cond.instanceMethod yJx4a65c_elementData_915e3, Cond.selects RJx4a65c yJx4a65c_elementData_915e3 yJx4a65c_elementData_915e3, Cond.code yJx4a65c_elementData_915e3 cJx4a65c_elementData_915e3 2 (some (.object "java/lang/Object")), Cond.fieldLink RJx4a65c 9 "java/util/ArrayList" "elementData" "[Ljava/lang/Object;", Cond.methodLink RX4 192 yX4_layWorths, Cond.instanceMethod yX4_layWorths, Cond.selects RX4 yX4_layWorths yX4_layWorths, Cond.code yX4_layWorths cX4_layWorths 4 none, Cond.fieldLink RX4 58 "Bidwhistle" "worths" "LBidwhistle$Row;"]
def wsL_evolve_r3 : List Cond := [Cond.methodLink RX4 177 yX4_worthByStrategies, Cond.instanceMethod yX4_worthByStrategies, Cond.selects RX4 yX4_worthByStrategies yX4_worthByStrategies, Cond.code yX4_worthByStrategies cX4_worthByStrategies 6 (some .int), Cond.methodLink RX4 271 yX4_profitOfRounds, Cond.instanceMethod yX4_profitOfRounds, Cond.selects RX4 yX4_profitOfRounds yX4_profitOfRounds, Cond.code yX4_profitOfRounds cX4_profitOfRounds 8 (some .int), Cond.fieldLink RX4 49 "Bidwhistle" "pairsTold" "I", Cond.fieldLink RX4 42 "Bidwhistle" "firstValues" "LBidwhistle$Row;", Cond.fieldLink RX4 46 "Bidwhistle" "secondValues" "LBidwhistle$Row;", Cond.methodLink RX4 181 yX1_at, Cond.instanceMethod yX1_at, Cond.selects RX1 yX1_at yX1_at, Cond.initialized RX1, Cond.code yX1_at cX1_at 2 (some .int), Cond.fieldLink RX1 13 "Bidwhistle$Row" "numbers" "[I", Cond.methodLink RX4 173 yX4_profitAgainst, Cond.static yX4_profitAgainst, Cond.code yX4_profitAgainst cX4_profitAgainst 7 (some .int), Cond.methodLink RX4 110 yX3_bidFor, Cond.instanceMethod yX3_bidFor, Cond.selects RX3 yX3_bidFor yX3_bidFor, Cond.initialized RX3]
def wsL_evolve_r4 : List Cond := [Cond.code yX3_bidFor cX3_bidFor 2 (some .int), Cond.fieldLink RX3 14 "Bidwhistle$Strategy" "bids" "LBidwhistle$Row;", Cond.methodLink RX3 44 yX1_at, Cond.methodLink RX4 263 yX4_wins, Cond.static yX4_wins, Cond.code yX4_wins cX4_wins 4 (some .boolean), Cond.methodLink RX4 267 yX4_profitOf, Cond.static yX4_profitOf, Cond.code yX4_profitOf cX4_profitOf 5 (some .int), Cond.methodLink RX4 259 yX4_paid, Cond.static yX4_paid, Cond.code yX4_paid cX4_paid 4 (some .int), Cond.methodLink RX4 161 yX1_put, Cond.instanceMethod yX1_put, Cond.selects RX1 yX1_put yX1_put, Cond.code yX1_put cX1_put 3 none, Cond.methodLink RX4 200 yX4_weakest, Cond.instanceMethod yX4_weakest, Cond.selects RX4 yX4_weakest yX4_weakest, Cond.code yX4_weakest cX4_weakest 3 (some .int), Cond.methodLink RX4 103 yX4_strategyAt, Cond.instanceMethod yX4_strategyAt, Cond.selects RX4 yX4_strategyAt yX4_strategyAt, Cond.code yX4_strategyAt cX4_strategyAt 2 (some (.object "Bidwhistle$Strategy"))]
def wsL_evolve_r5 : List Cond := [Cond.classLink RX4 219 "java/lang/IndexOutOfBoundsException", Cond.initialized "java/lang/IndexOutOfBoundsException", Cond.methodLink RX4 195 yX4_strongestBut, Cond.instanceMethod yX4_strongestBut, Cond.selects RX4 yX4_strongestBut yX4_strongestBut, Cond.code yX4_strongestBut cX4_strongestBut 4 (some .int), Cond.methodLink RX4 203 yX4_cross, Cond.instanceMethod yX4_cross, Cond.selects RX4 yX4_cross yX4_cross, Cond.code yX4_cross cX4_cross 3 none, Cond.fieldLink RX4 16 "Bidwhistle" "child" "LBidwhistle$Program;", Cond.methodLink RX4 82 yX0_empty, Cond.instanceMethod yX0_empty, Cond.selects RX0 yX0_empty yX0_empty, Cond.initialized RX0, Cond.code yX0_empty cX0_empty 1 none, Cond.fieldLink RX0 20 "Bidwhistle$Program" "length" "I", Cond.fieldLink RX0 24 "Bidwhistle$Program" "stepBits" "I", Cond.methodLink RX4 78 yX0_length, Cond.instanceMethod yX0_length, Cond.selects RX0 yX0_length yX0_length, Cond.code yX0_length cX0_length 1 (some .int), Cond.methodLink RX4 275 yX0_addPart, Cond.instanceMethod yX0_addPart]
def wsL_evolve_r6 : List Cond := [Cond.selects RX0 yX0_addPart yX0_addPart, Cond.code yX0_addPart cX0_addPart 5 none, Cond.fieldLink RX0 14 "Bidwhistle$Program" "steps" "LBidwhistle$Row;", Cond.methodLink RX0 35 yX1_at, Cond.methodLink RX0 38 yX0_add, Cond.instanceMethod yX0_add, Cond.selects RX0 yX0_add yX0_add, Cond.code yX0_add cX0_add 2 none, Cond.methodLink RX0 27 yX1_put, Cond.static yX4_bitOf, Cond.code yX4_bitOf cX4_bitOf 1 (some .int), Cond.methodLink RX4 207 yX4_letChildJoin, Cond.instanceMethod yX4_letChildJoin, Cond.selects RX4 yX4_letChildJoin yX4_letChildJoin, Cond.code yX4_letChildJoin cX4_letChildJoin 5 (some .int), Cond.fieldLink RX4 33 "Bidwhistle" "forbiddenSteps" "I", Cond.methodLink RX4 85 yX0_isRight, Cond.instanceMethod yX0_isRight, Cond.selects RX0 yX0_isRight yX0_isRight, Cond.code yX0_isRight cX0_isRight 3 (some .boolean), Cond.methodLink RX4 138 yX0_hasAnyOf, Cond.instanceMethod yX0_hasAnyOf, Cond.selects RX0 yX0_hasAnyOf yX0_hasAnyOf, Cond.code yX0_hasAnyOf cX0_hasAnyOf 2 (some .boolean)]
def wsL_evolve_r7 : List Cond := [Cond.methodLink RX4 90 yX4_numberOf, Cond.instanceMethod yX4_numberOf, Cond.selects RX4 yX4_numberOf yX4_numberOf, Cond.code yX4_numberOf cX4_numberOf 3 (some .int), Cond.methodLink RX4 224 yX0_isSameAs, Cond.instanceMethod yX0_isSameAs, Cond.selects RX0 yX0_isSameAs yX0_isSameAs, Cond.code yX0_isSameAs cX0_isSameAs 3 (some .boolean), Cond.methodLink RX4 99 yX4_keep, Cond.instanceMethod yX4_keep, Cond.selects RX4 yX4_keep yX4_keep, Cond.code yX4_keep cX4_keep 7 (some .int), Cond.classLink RX4 111 RX3, Cond.instantiable RX3 8, Cond.fieldLink RX4 22 "Bidwhistle" "stack" "LBidwhistle$Stack;", Cond.methodLink RX4 228 yX0_copy, Cond.instanceMethod yX0_copy, Cond.selects RX0 yX0_copy yX0_copy, Cond.code yX0_copy cX0_copy 2 (some (.object "Bidwhistle$Program")), Cond.classLink RX0 15 RX0, Cond.instantiable RX0 3, Cond.methodLink RX0 41 yX0_init, Cond.instanceMethod yX0_init, Cond.code yX0_init cX0_init 1 none]
def wsL_evolve_r8 : List Cond := [Cond.methodLink RX0 3 objectInit, Cond.instanceMethod objectInit, Cond.code objectInit ⟨#[0xb1]⟩ 1 none, Cond.classLink RX0 9 RX1, Cond.instantiable RX1 1, Cond.methodLink RX0 11 yX1_init, Cond.instanceMethod yX1_init, Cond.code yX1_init cX1_init 2 none, Cond.methodLink RX1 1 objectInit, Cond.methodLink RX1 7 Lib.Math.max.name, Cond.static Lib.Math.max.name, Cond.initialized "java/lang/Math", Cond.code Lib.Math.max.name Lib.Math.max.code 2 (some .int), Cond.arrayClass .int, Cond.methodLink RX0 42 yX0_addPart, Cond.methodLink RX4 232 yX3_init, Cond.instanceMethod yX3_init, Cond.code yX3_init cX3_init 5 none, Cond.methodLink RX3 3 objectInit, Cond.classLink RX3 9 RX1, Cond.fieldLink RX3 20 "Bidwhistle$Strategy" "stepsOfLine" "I", Cond.fieldLink RX3 24 "Bidwhistle$Strategy" "kind" "I", Cond.fieldLink RX3 27 "Bidwhistle$Strategy" "inPool" "Z", Cond.fieldLink RX3 31 "Bidwhistle$Strategy" "number" "I"]
def wsL_evolve_r9 : List Cond := [Cond.fieldLink RX3 34 "Bidwhistle$Strategy" "program" "LBidwhistle$Program;", Cond.fieldLink RX3 38 "Bidwhistle$Strategy" "firstParent" "I", Cond.fieldLink RX3 41 "Bidwhistle$Strategy" "secondParent" "I", Cond.methodLink RX3 11 yX1_init, Cond.methodLink RX4 238 yX4_stepsOfLine, Cond.instanceMethod yX4_stepsOfLine, Cond.selects RX4 yX4_stepsOfLine yX4_stepsOfLine, Cond.code yX4_stepsOfLine cX4_stepsOfLine 2 (some .int), Cond.methodLink RX4 243 yX0_bidFor, Cond.instanceMethod yX0_bidFor, Cond.selects RX0 yX0_bidFor yX0_bidFor, Cond.code yX0_bidFor cX0_bidFor 4 (some .int), Cond.methodLink RX0 59 Lib.Math.min.name, Cond.static Lib.Math.min.name, Cond.code Lib.Math.min.name Lib.Math.min.code 2 (some .int), Cond.methodLink RX0 65 Lib.Math.max.name, Cond.methodLink RX0 46 yX2_empty, Cond.instanceMethod yX2_empty, Cond.selects RX2 yX2_empty yX2_empty, Cond.initialized RX2, Cond.code yX2_empty cX2_empty 1 none, Cond.fieldLink RX2 20 "Bidwhistle$Stack" "depth" "I", Cond.methodLink RX0 51 yX0_perform, Cond.static yX0_perform]
def wsL_evolve_r10 : List Cond := [Cond.code yX0_perform cX0_perform 7 none, Cond.methodLink RX0 68 yX2_push, Cond.instanceMethod yX2_push, Cond.selects RX2 yX2_push yX2_push, Cond.code yX2_push cX2_push 3 none, Cond.fieldLink RX2 14 "Bidwhistle$Stack" "numbers" "LBidwhistle$Row;", Cond.constantLong RX2 24 (-100000), Cond.constantLong RX2 26 (100000), Cond.methodLink RX2 28 Lib.MathLoose.min_long.x, Cond.static Lib.MathLoose.min_long.x, Cond.code Lib.MathLoose.min_long.x Lib.MathLoose.min_long.code 4 (some .long), Cond.methodLink RX2 34 Lib.MathLoose.max_long.x, Cond.static Lib.MathLoose.max_long.x, Cond.code Lib.MathLoose.max_long.x Lib.MathLoose.max_long.code 4 (some .long), Cond.methodLink RX2 37 yX1_put, Cond.methodLink RX0 55 yX2_pop, Cond.instanceMethod yX2_pop, Cond.selects RX2 yX2_pop yX2_pop, Cond.code yX2_pop cX2_pop 1 (some .int), Cond.methodLink RX2 41 yX1_at, Cond.methodLink RX0 72 yX0_resultOf, Cond.static yX0_resultOf, Cond.code yX0_resultOf cX0_resultOf 5 (some .long), Cond.methodLink RX0 76 Lib.MathLoose.min_long.x]
def wsL_evolve_r11 : List Cond := [Cond.methodLink RX0 79 Lib.MathLoose.max_long.x, Cond.methodLink RX4 246 yX4_kindOf, Cond.instanceMethod yX4_kindOf, Cond.selects RX4 yX4_kindOf yX4_kindOf, Cond.code yX4_kindOf cX4_kindOf 4 (some .int), Cond.methodLink RX4 253 yX1_isSameAs, Cond.instanceMethod yX1_isSameAs, Cond.selects RX1 yX1_isSameAs yX1_isSameAs, Cond.code yX1_isSameAs cX1_isSameAs 3 (some .boolean), Cond.methodLink RX1 19 yX1_at, Cond.methodLink RX4 250 yJx4a65c_add_9ea2d, Cond.instanceMethod yJx4a65c_add_9ea2d, Cond.selects RJx4a65c yJx4a65c_add_9ea2d yJx4a65c_add_9ea2d, Cond.code yJx4a65c_add_9ea2d cJx4a65c_add_9ea2d 2 (some .boolean), Cond.fieldLink RJx4a65c 63 "java/util/ArrayList" "modCount" "I", Cond.sameField "java/util/ArrayList" "java/util/AbstractList" "modCount" "I", Cond.methodLink RJx4a65c 131 yJx4a65c_add_72be8, Cond.instanceMethod yJx4a65c_add_72be8, Cond.selects RJx4a65c yJx4a65c_add_72be8 yJx4a65c_add_72be8, Cond.code yJx4a65c_add_72be8 cJx4a65c_add_72be8 4 none, Cond.methodLink RJx4a65c 129 yJx4a65c_grow_d5877, Cond.instanceMethod yJx4a65c_grow_d5877, Cond.selects RJx4a65c yJx4a65c_grow_d5877 yJx4a65c_grow_d5877, Cond.code yJx4a65c_grow_d5877 cJx4a65c_grow_d5877 1 (some (.array (.object "java/lang/Object")))]
def wsL_evolve_r12 : List Cond := [Cond.methodLink RJx4a65c 69 yJx4a65c_grow_92f84, Cond.instanceMethod yJx4a65c_grow_92f84, Cond.selects RJx4a65c yJx4a65c_grow_92f84 yJx4a65c_grow_92f84, Cond.code yJx4a65c_grow_92f84 cJx4a65c_grow_92f84 4 (some (.array (.object "java/lang/Object"))), Cond.fieldLink RJx4a65c 39 "java/util/ArrayList" "DEFAULTCAPACITY_EMPTY_ELEMENTDATA" "[Ljava/lang/Object;", Cond.methodLink RJx4a65c 79 Lib.Math.max.name, Cond.classLink RJx4a65c 7 "java/lang/Object", Cond.methodLink RJx4a65c 73 yJ8_newLength_cabcc, Cond.static yJ8_newLength_cabcc, Cond.initialized RJ8, Cond.code yJ8_newLength_cabcc cJ8_newLength_cabcc 4 (some .int), Cond.methodLink RJ8 194 Lib.Math.max.name, Cond.constant RJ8 200 (2147483639), Cond.methodLink RJ8 201 yJ8_hugeLength_7cf53, Cond.static yJ8_hugeLength_7cf53, Cond.code yJ8_hugeLength_7cf53 cJ8_hugeLength_7cf53 3 (some .int), Cond.methodLink RJx4a65c 66 yJ7_copyOf_1904c, Cond.static yJ7_copyOf_1904c, Cond.initialized RJ7, Cond.code yJ7_copyOf_1904c cJ7_copyOf_1904c 2 (some (.array (.object "java/lang/Object"))), Cond.methodLink RJ7 86 ⟨"java/lang/Object", "getClass", "()Ljava/lang/Class;"⟩, Cond.selects "[Ljava/lang/Object;" ⟨"java/lang/Object", "getClass", "()Ljava/lang/Class;"⟩ ⟨"java/lang/Object", "getClass", "()Ljava/lang/Class;"⟩, Cond.instanceMethod ⟨"java/lang/Object", "getClass", "()Ljava/lang/Class;"⟩, Cond.native ⟨"java/lang/Object", "getClass", "()Ljava/lang/Class;"⟩]
def wsL_evolve_r13 : List Cond := [Cond.methodLink RJ7 300 yJ7_copyOf_6403c, Cond.static yJ7_copyOf_6403c, Cond.code yJ7_copyOf_6403c cJ7_copyOf_6403c 4 (some (.array (.object "java/lang/Object"))), Cond.classLink RJ7 110 "[Ljava/lang/Object;", Cond.classLink RJ7 2 "java/lang/Object", Cond.methodLink RJ7 304 Lib.Math.min.name, Cond.methodLink RJ7 150 arraycopyName, Cond.native arraycopyName, Cond.static arraycopyName, Cond.initialized "java/lang/System"]
def wsL_evolve : List Cond := .codeWith yL_evolve cL_evolve 4 (some .int) [(0, 9, 12, 13), (0, 9, 15, 15)] :: ((wsL_evolve_r1 ++ (wsL_evolve_r2 ++ (wsL_evolve_r3 ++ (wsL_evolve_r4 ++ (wsL_evolve_r5 ++ (wsL_evolve_r6 ++ (wsL_evolve_r7 ++ (wsL_evolve_r8 ++ (wsL_evolve_r9 ++ (wsL_evolve_r10 ++ (wsL_evolve_r11 ++ (wsL_evolve_r12 ++ wsL_evolve_r13)))))))))))) ++ wsX40 ++ wsX30 ++ wsJx4a65c0 ++ wsX10 ++ wsX00 ++ wsX20 ++ (vx_atS RX4 72 "java/lang/IllegalStateException" ["java/lang/RuntimeException", "java/lang/Exception"]).filter goodWord ++ (vx_atS RX4 169 "java/lang/IllegalArgumentException" ["java/lang/RuntimeException", "java/lang/Exception"]).filter goodWord ++ (vx_atS RX4 223 "java/lang/IndexOutOfBoundsException" ["java/lang/RuntimeException", "java/lang/Exception"]).filter goodWord)
def wsL_law0_r1 : List Cond := [Cond.classLink RL 8 RX4, Cond.instantiable RX4 11, Cond.initialized RX4, Cond.classLink RL 70 RX5, Cond.instantiable RX5 14, Cond.initialized RX5, Cond.arrayClass .long, Cond.methodLink RL 69 yX4_init, Cond.instanceMethod yX4_init, Cond.code yX4_init cX4_init 1 none, Cond.methodLink RX4 1 objectInit, Cond.instanceMethod objectInit, Cond.code objectInit ⟨#[0xb1]⟩ 1 none, Cond.classLink RX4 7 RX0, Cond.instantiable RX0 3, Cond.initialized RX0, Cond.fieldLink RX4 10 "Bidwhistle" "draft" "LBidwhistle$Program;", Cond.fieldLink RX4 16 "Bidwhistle" "child" "LBidwhistle$Program;", Cond.classLink RX4 19 RX2, Cond.instantiable RX2 2, Cond.initialized RX2, Cond.fieldLink RX4 22 "Bidwhistle" "stack" "LBidwhistle$Stack;", Cond.classLink RX4 26 RJx4a65c, Cond.instantiable RJx4a65c 3]
def wsL_law0_r2 : List Cond := [Cond.initialized RJx4a65c, Cond.fieldLink RX4 29 "Bidwhistle" "strategies" "Ljava/util/ArrayList;", Cond.fieldLink RX4 33 "Bidwhistle" "forbiddenSteps" "I", Cond.classLink RX4 37 RX1, Cond.instantiable RX1 1, Cond.initialized RX1, Cond.fieldLink RX4 42 "Bidwhistle" "firstValues" "LBidwhistle$Row;", Cond.fieldLink RX4 46 "Bidwhistle" "secondValues" "LBidwhistle$Row;", Cond.fieldLink RX4 49 "Bidwhistle" "pairsTold" "I", Cond.fieldLink RX4 52 "Bidwhistle" "bidsForFirst" "LBidwhistle$Row;", Cond.fieldLink RX4 55 "Bidwhistle" "bidsForSecond" "LBidwhistle$Row;", Cond.fieldLink RX4 58 "Bidwhistle" "worths" "LBidwhistle$Row;", Cond.instanceMethod yX0_init, Cond.code yX0_init cX0_init 1 none, Cond.methodLink RX0 3 objectInit, Cond.classLink RX0 9 RX1, Cond.fieldLink RX0 14 "Bidwhistle$Program" "steps" "LBidwhistle$Row;", Cond.fieldLink RX0 20 "Bidwhistle$Program" "length" "I", Cond.fieldLink RX0 24 "Bidwhistle$Program" "stepBits" "I", Cond.methodLink RX0 11 yX1_init, Cond.instanceMethod yX1_init, Cond.code yX1_init cX1_init 2 none, Cond.methodLink RX1 1 objectInit, Cond.methodLink RX1 7 Lib.Math.max.name]
def wsL_law0_r3 : List Cond := [Cond.static Lib.Math.max.name, Cond.initialized "java/lang/Math", Cond.code Lib.Math.max.name Lib.Math.max.code 2 (some .int), Cond.arrayClass .int, Cond.fieldLink RX1 13 "Bidwhistle$Row" "numbers" "[I", Cond.instanceMethod yX2_init, Cond.code yX2_init cX2_init 1 none, Cond.methodLink RX2 3 objectInit, Cond.classLink RX2 9 RX1, Cond.fieldLink RX2 14 "Bidwhistle$Stack" "numbers" "LBidwhistle$Row;", Cond.fieldLink RX2 20 "Bidwhistle$Stack" "depth" "I", Cond.methodLink RX2 11 yX1_init, Cond.methodLink RX4 28 yJx4a65c_init_da8c8, Cond.instanceMethod yJx4a65c_init_da8c8, Cond.code yJx4a65c_init_da8c8 cJx4a65c_init_da8c8 1 none, Cond.fieldLink RJx4a65c 39 "java/util/ArrayList" "DEFAULTCAPACITY_EMPTY_ELEMENTDATA" "[Ljava/lang/Object;", Cond.fieldLink RJx4a65c 9 "java/util/ArrayList" "elementData" "[Ljava/lang/Object;", Cond.methodLink RJx4a65c 1 yJxc12de_init_da8c8, Cond.instanceMethod yJxc12de_init_da8c8, Cond.initialized RJxc12de, Cond.code yJxc12de_init_da8c8 cJxc12de_init_da8c8 1 none, Cond.fieldLink RJxc12de 7 "java/util/AbstractList" "modCount" "I", Cond.methodLink RJxc12de 1 yJxa1e45_init_da8c8, Cond.instanceMethod yJxa1e45_init_da8c8]
def wsL_law0_r4 : List Cond := [Cond.initialized RJxa1e45, Cond.code yJxa1e45_init_da8c8 cJxa1e45_init_da8c8 1 none, Cond.methodLink RJxa1e45 1 objectInit, Cond.methodLink RX4 39 yX1_init, Cond.methodLink RL 72 yX5_init, Cond.instanceMethod yX5_init, Cond.code yX5_init cX5_init 1 none, Cond.methodLink RX5 1 objectInit, Cond.fieldLink RX5 7 "BidwhistleModel" "steps" "[I", Cond.fieldLink RX5 13 "BidwhistleModel" "lengths" "[I", Cond.fieldLink RX5 16 "BidwhistleModel" "parents" "[I", Cond.arrayClass .boolean, Cond.fieldLink RX5 19 "BidwhistleModel" "isIn" "[Z", Cond.fieldLink RX5 23 "BidwhistleModel" "isForbidden" "[Z", Cond.fieldLink RX5 26 "BidwhistleModel" "ones" "[I", Cond.fieldLink RX5 29 "BidwhistleModel" "twos" "[I", Cond.fieldLink RX5 32 "BidwhistleModel" "stack" "[I", Cond.fieldLink RX5 35 "BidwhistleModel" "worths" "[I", Cond.fieldLink RX5 38 "BidwhistleModel" "isOfLine" "[Z", Cond.methodLink RL 73 yL_step, Cond.static yL_step, Cond.initialized RL, Cond.codeWith yL_step cL_step 4 (some .int) [(0, 9, 12, 13), (0, 9, 15, 15)], Cond.classLink RL 13 "java/lang/IllegalArgumentException"]
def wsL_law0_r5 : List Cond := [Cond.classLink RL 15 "java/lang/IllegalStateException", Cond.methodLink RL 7 yX4_step, Cond.instanceMethod yX4_step, Cond.selects RX4 yX4_step yX4_step, Cond.code yX4_step cX4_step 2 (some .int), Cond.classLink RX4 68 "java/lang/IllegalStateException", Cond.initialized "java/lang/IllegalStateException", Cond.methodLink RX4 61 yX4_requireStep, Cond.static yX4_requireStep, Cond.code yX4_requireStep cX4_requireStep 1 none, Cond.classLink RX4 165 "java/lang/IllegalArgumentException", Cond.initialized "java/lang/IllegalArgumentException", Cond.methodLink RX4 64 yX0_isFull, Cond.instanceMethod yX0_isFull, Cond.selects RX0 yX0_isFull yX0_isFull, Cond.code yX0_isFull cX0_isFull 1 (some .boolean), Cond.methodLink RX4 75 yX0_add, Cond.instanceMethod yX0_add, Cond.selects RX0 yX0_add yX0_add, Cond.code yX0_add cX0_add 2 none, Cond.methodLink RX0 27 yX1_put, Cond.instanceMethod yX1_put, Cond.selects RX1 yX1_put yX1_put, Cond.code yX1_put cX1_put 3 none]
def wsL_law0_r6 : List Cond := [Cond.static yX4_bitOf, Cond.code yX4_bitOf cX4_bitOf 1 (some .int), Cond.methodLink RX4 78 yX0_length, Cond.instanceMethod yX0_length, Cond.selects RX0 yX0_length yX0_length, Cond.code yX0_length cX0_length 1 (some .int), Cond.methodLink RL 78 yX5_step, Cond.instanceMethod yX5_step, Cond.selects RX5 yX5_step yX5_step, Cond.code yX5_step cX5_step 2 (some .int), Cond.methodLink RX5 73 yX5_isStep, Cond.static yX5_isStep, Cond.code yX5_isStep cX5_isStep 1 (some .boolean), Cond.methodLink RX5 48 yX5_lies, Cond.static yX5_lies, Cond.code yX5_lies cX5_lies 3 (some .boolean), Cond.methodLink RX5 77 yX5_goes, Cond.instanceMethod yX5_goes, Cond.selects RX5 yX5_goes yX5_goes, Cond.code yX5_goes cX5_goes 2 (some .boolean), Cond.fieldLink RX5 41 "BidwhistleModel" "thrown" "I", Cond.methodLink RL 79 yX5_thrown, Cond.instanceMethod yX5_thrown, Cond.selects RX5 yX5_thrown yX5_thrown]
def wsL_law0_r7 : List Cond := [Cond.code yX5_thrown cX5_thrown 1 (some .int), Cond.methodLink RL 82 yX4_scrap, Cond.instanceMethod yX4_scrap, Cond.selects RX4 yX4_scrap yX4_scrap, Cond.code yX4_scrap cX4_scrap 2 (some .int), Cond.methodLink RX4 82 yX0_empty, Cond.instanceMethod yX0_empty, Cond.selects RX0 yX0_empty yX0_empty, Cond.code yX0_empty cX0_empty 1 none, Cond.methodLink RL 85 yX5_scrap, Cond.instanceMethod yX5_scrap, Cond.selects RX5 yX5_scrap yX5_scrap, Cond.code yX5_scrap cX5_scrap 2 (some .int), Cond.methodLink RL 86 yL_store, Cond.static yL_store, Cond.codeWith yL_store cL_store 3 (some .int) [(0, 8, 11, 15)], Cond.methodLink RL 17 yX4_store, Cond.instanceMethod yX4_store, Cond.selects RX4 yX4_store yX4_store, Cond.code yX4_store cX4_store 2 (some .int), Cond.methodLink RX4 85 yX0_isRight, Cond.instanceMethod yX0_isRight, Cond.selects RX0 yX0_isRight yX0_isRight, Cond.code yX0_isRight cX0_isRight 3 (some .boolean)]
def wsL_law0_r8 : List Cond := [Cond.methodLink RX0 35 yX1_at, Cond.instanceMethod yX1_at, Cond.selects RX1 yX1_at yX1_at, Cond.code yX1_at cX1_at 2 (some .int), Cond.methodLink RX4 90 yX4_numberOf, Cond.instanceMethod yX4_numberOf, Cond.selects RX4 yX4_numberOf yX4_numberOf, Cond.code yX4_numberOf cX4_numberOf 3 (some .int), Cond.classLink RX4 111 "Bidwhistle$Strategy", Cond.methodLink RX4 94 yJx4a65c_size_8abf5, Cond.instanceMethod yJx4a65c_size_8abf5, Cond.selects RJx4a65c yJx4a65c_size_8abf5 yJx4a65c_size_8abf5, Cond.code yJx4a65c_size_8abf5 cJx4a65c_size_8abf5 1 (some .int), Cond.fieldLink RJx4a65c 48 "java/util/ArrayList" "size" "I", Cond.methodLink RX4 119 yJx4a65c_get_915e3, Cond.instanceMethod yJx4a65c_get_915e3, Cond.selects RJx4a65c yJx4a65c_get_915e3 yJx4a65c_get_915e3, Cond.code yJx4a65c_get_915e3 cJx4a65c_get_915e3 2 (some (.object "java/lang/Object")), Cond.methodLink RJx4a65c 118 yJ15_checkIndex_7cf53, Cond.static yJ15_checkIndex_7cf53, Cond.initialized RJ15, Cond.code yJ15_checkIndex_7cf53 cJ15_checkIndex_7cf53 2 (some .int), Cond.methodLink RJ15 105 yJ3_checkIndex_8e157, Cond.static yJ3_checkIndex_8e157]
def wsL_law0_r9 : List Cond := [Cond.initialized RJ3, Cond.code yJ3_checkIndex_8e157 cJ3_checkIndex_8e157 3 (some .int), Cond.methodLink RJx4a65c 123 yJx4a65c_elementData_915e3, Cond.instanceMethod yJx4a65c_elementData_915e3, Cond.selects RJx4a65c yJx4a65c_elementData_915e3 yJx4a65c_elementData_915e3, Cond.code yJx4a65c_elementData_915e3 cJx4a65c_elementData_915e3 2 (some (.object "java/lang/Object")), Cond.methodLink RX4 224 yX0_isSameAs, Cond.instanceMethod yX0_isSameAs, Cond.selects RX0 yX0_isSameAs yX0_isSameAs, Cond.code yX0_isSameAs cX0_isSameAs 3 (some .boolean), Cond.methodLink RX4 99 yX4_keep, Cond.instanceMethod yX4_keep, Cond.selects RX4 yX4_keep yX4_keep, Cond.code yX4_keep cX4_keep 7 (some .int), Cond.classLink RX4 111 RX3, Cond.instantiable RX3 8, Cond.initialized RX3, Cond.methodLink RX4 228 yX0_copy, Cond.instanceMethod yX0_copy, Cond.selects RX0 yX0_copy yX0_copy, Cond.code yX0_copy cX0_copy 2 (some (.object "Bidwhistle$Program")), Cond.classLink RX0 15 RX0, Cond.methodLink RX0 41 yX0_init, Cond.methodLink RX0 42 yX0_addPart]
def wsL_law0_r10 : List Cond := [Cond.instanceMethod yX0_addPart, Cond.selects RX0 yX0_addPart yX0_addPart, Cond.code yX0_addPart cX0_addPart 5 none, Cond.methodLink RX0 38 yX0_add, Cond.methodLink RX4 232 yX3_init, Cond.instanceMethod yX3_init, Cond.code yX3_init cX3_init 5 none, Cond.methodLink RX3 3 objectInit, Cond.classLink RX3 9 RX1, Cond.fieldLink RX3 14 "Bidwhistle$Strategy" "bids" "LBidwhistle$Row;", Cond.fieldLink RX3 20 "Bidwhistle$Strategy" "stepsOfLine" "I", Cond.fieldLink RX3 24 "Bidwhistle$Strategy" "kind" "I", Cond.fieldLink RX3 27 "Bidwhistle$Strategy" "inPool" "Z", Cond.fieldLink RX3 31 "Bidwhistle$Strategy" "number" "I", Cond.fieldLink RX3 34 "Bidwhistle$Strategy" "program" "LBidwhistle$Program;", Cond.fieldLink RX3 38 "Bidwhistle$Strategy" "firstParent" "I", Cond.fieldLink RX3 41 "Bidwhistle$Strategy" "secondParent" "I", Cond.methodLink RX3 11 yX1_init, Cond.methodLink RX4 238 yX4_stepsOfLine, Cond.instanceMethod yX4_stepsOfLine, Cond.selects RX4 yX4_stepsOfLine yX4_stepsOfLine, Cond.code yX4_stepsOfLine cX4_stepsOfLine 2 (some .int), Cond.methodLink RX4 243 yX0_bidFor, Cond.instanceMethod yX0_bidFor]
def wsL_law0_r11 : List Cond := [Cond.selects RX0 yX0_bidFor yX0_bidFor, Cond.code yX0_bidFor cX0_bidFor 4 (some .int), Cond.methodLink RX0 59 Lib.Math.min.name, Cond.static Lib.Math.min.name, Cond.code Lib.Math.min.name Lib.Math.min.code 2 (some .int), Cond.methodLink RX0 65 Lib.Math.max.name, Cond.methodLink RX0 46 yX2_empty, Cond.instanceMethod yX2_empty, Cond.selects RX2 yX2_empty yX2_empty, Cond.code yX2_empty cX2_empty 1 none, Cond.methodLink RX0 51 yX0_perform, Cond.static yX0_perform, Cond.code yX0_perform cX0_perform 7 none, Cond.methodLink RX0 68 yX2_push, Cond.instanceMethod yX2_push, Cond.selects RX2 yX2_push yX2_push, Cond.code yX2_push cX2_push 3 none, Cond.constantLong RX2 24 (-100000), Cond.constantLong RX2 26 (100000), Cond.methodLink RX2 28 Lib.MathLoose.min_long.x, Cond.static Lib.MathLoose.min_long.x, Cond.code Lib.MathLoose.min_long.x Lib.MathLoose.min_long.code 4 (some .long), Cond.methodLink RX2 34 Lib.MathLoose.max_long.x, Cond.static Lib.MathLoose.max_long.x]
def wsL_law0_r12 : List Cond := [Cond.code Lib.MathLoose.max_long.x Lib.MathLoose.max_long.code 4 (some .long), Cond.methodLink RX2 37 yX1_put, Cond.methodLink RX0 55 yX2_pop, Cond.instanceMethod yX2_pop, Cond.selects RX2 yX2_pop yX2_pop, Cond.code yX2_pop cX2_pop 1 (some .int), Cond.methodLink RX2 41 yX1_at, Cond.methodLink RX0 72 yX0_resultOf, Cond.static yX0_resultOf, Cond.code yX0_resultOf cX0_resultOf 5 (some .long), Cond.methodLink RX0 76 Lib.MathLoose.min_long.x, Cond.methodLink RX0 79 Lib.MathLoose.max_long.x, Cond.methodLink RX4 161 yX1_put, Cond.methodLink RX4 246 yX4_kindOf, Cond.instanceMethod yX4_kindOf, Cond.selects RX4 yX4_kindOf yX4_kindOf, Cond.code yX4_kindOf cX4_kindOf 4 (some .int), Cond.methodLink RX4 253 yX1_isSameAs, Cond.instanceMethod yX1_isSameAs, Cond.selects RX1 yX1_isSameAs yX1_isSameAs, Cond.code yX1_isSameAs cX1_isSameAs 3 (some .boolean), Cond.methodLink RX1 19 yX1_at, Cond.methodLink RX4 250 yJx4a65c_add_9ea2d, Cond.instanceMethod yJx4a65c_add_9ea2d]
def wsL_law0_r13 : List Cond := [Cond.selects RJx4a65c yJx4a65c_add_9ea2d yJx4a65c_add_9ea2d, Cond.code yJx4a65c_add_9ea2d cJx4a65c_add_9ea2d 2 (some .boolean), Cond.fieldLink RJx4a65c 63 "java/util/ArrayList" "modCount" "I", Cond.sameField "java/util/ArrayList" "java/util/AbstractList" "modCount" "I", Cond.methodLink RJx4a65c 131 yJx4a65c_add_72be8, Cond.instanceMethod yJx4a65c_add_72be8, Cond.selects RJx4a65c yJx4a65c_add_72be8 yJx4a65c_add_72be8, Cond.code yJx4a65c_add_72be8 cJx4a65c_add_72be8 4 none, Cond.methodLink RJx4a65c 129 yJx4a65c_grow_d5877, Cond.instanceMethod yJx4a65c_grow_d5877, Cond.selects RJx4a65c yJx4a65c_grow_d5877 yJx4a65c_grow_d5877, Cond.code yJx4a65c_grow_d5877 cJx4a65c_grow_d5877 1 (some (.array (.object "java/lang/Object"))), Cond.methodLink RJx4a65c 69 yJx4a65c_grow_92f84, Cond.instanceMethod yJx4a65c_grow_92f84, Cond.selects RJx4a65c yJx4a65c_grow_92f84 yJx4a65c_grow_92f84, Cond.code yJx4a65c_grow_92f84 cJx4a65c_grow_92f84 4 (some (.array (.object "java/lang/Object"))), Cond.methodLink RJx4a65c 79 Lib.Math.max.name, Cond.classLink RJx4a65c 7 "java/lang/Object", Cond.methodLink RJx4a65c 73 yJ8_newLength_cabcc, Cond.static yJ8_newLength_cabcc, Cond.initialized RJ8, Cond.code yJ8_newLength_cabcc cJ8_newLength_cabcc 4 (some .int), Cond.methodLink RJ8 194 Lib.Math.max.name, Cond.constant RJ8 200 (2147483639)]
def wsL_law0_r14 : List Cond := [Cond.methodLink RJ8 201 yJ8_hugeLength_7cf53, Cond.static yJ8_hugeLength_7cf53, Cond.code yJ8_hugeLength_7cf53 cJ8_hugeLength_7cf53 3 (some .int), Cond.methodLink RJx4a65c 66 yJ7_copyOf_1904c, Cond.static yJ7_copyOf_1904c, Cond.initialized RJ7, Cond.code yJ7_copyOf_1904c cJ7_copyOf_1904c 2 (some (.array (.object "java/lang/Object"))), Cond.methodLink RJ7 86 ⟨"java/lang/Object", "getClass", "()Ljava/lang/Class;"⟩, Cond.selects "[Ljava/lang/Object;" ⟨"java/lang/Object", "getClass", "()Ljava/lang/Class;"⟩ ⟨"java/lang/Object", "getClass", "()Ljava/lang/Class;"⟩, Cond.instanceMethod ⟨"java/lang/Object", "getClass", "()Ljava/lang/Class;"⟩, Cond.native ⟨"java/lang/Object", "getClass", "()Ljava/lang/Class;"⟩, Cond.methodLink RJ7 300 yJ7_copyOf_6403c, Cond.static yJ7_copyOf_6403c, Cond.code yJ7_copyOf_6403c cJ7_copyOf_6403c 4 (some (.array (.object "java/lang/Object"))), Cond.classLink RJ7 110 "[Ljava/lang/Object;", Cond.classLink RJ7 2 "java/lang/Object", Cond.methodLink RJ7 304 Lib.Math.min.name, Cond.methodLink RJ7 150 arraycopyName, Cond.native arraycopyName, Cond.static arraycopyName, Cond.initialized "java/lang/System", Cond.methodLink RL 89 yX5_store, Cond.instanceMethod yX5_store, Cond.selects RX5 yX5_store yX5_store]
def wsL_law0_r15 : List Cond := [Cond.code yX5_store cX5_store 2 (some .int), Cond.fieldLink RX5 45 "BidwhistleModel" "stored" "I", Cond.methodLink RX5 80 yX5_found, Cond.instanceMethod yX5_found, Cond.selects RX5 yX5_found yX5_found, Cond.code yX5_found cX5_found 4 (some .int), Cond.methodLink RX5 70 yX5_areSame, Cond.instanceMethod yX5_areSame, Cond.selects RX5 yX5_areSame yX5_areSame, Cond.code yX5_areSame cX5_areSame 5 (some .boolean), Cond.methodLink RX5 63 yX5_runs, Cond.instanceMethod yX5_runs, Cond.selects RX5 yX5_runs yX5_runs, Cond.code yX5_runs cX5_runs 4 (some .boolean), Cond.fieldLink RX5 56 "BidwhistleModel" "top" "I", Cond.methodLink RX5 59 yX5_made, Cond.static yX5_made, Cond.code yX5_made cX5_made 5 (some .int), Cond.constantLong RX5 52 (100000), Cond.constantLong RX5 54 (-100000), Cond.methodLink RX5 84 yX5_keeps, Cond.instanceMethod yX5_keeps, Cond.selects RX5 yX5_keeps yX5_keeps, Cond.code yX5_keeps cX5_keeps 5 none]
def wsL_law0_r16 : List Cond := [Cond.methodLink RL 90 yX4_stored, Cond.instanceMethod yX4_stored, Cond.selects RX4 yX4_stored yX4_stored, Cond.code yX4_stored cX4_stored 1 (some .int), Cond.methodLink RL 93 yX5_stored, Cond.instanceMethod yX5_stored, Cond.selects RX5 yX5_stored yX5_stored, Cond.code yX5_stored cX5_stored 1 (some .int), Cond.methodLink RL 94 yL_bid, Cond.static yL_bid, Cond.codeWith yL_bid cL_bid 5 (some .int) [(0, 10, 13, 25), (0, 10, 17, 13)], Cond.classLink RL 25 "java/lang/IndexOutOfBoundsException", Cond.methodLink RL 21 yX4_bid, Cond.instanceMethod yX4_bid, Cond.selects RX4 yX4_bid yX4_bid, Cond.code yX4_bid cX4_bid 4 (some .int), Cond.methodLink RX4 103 yX4_strategyAt, Cond.instanceMethod yX4_strategyAt, Cond.selects RX4 yX4_strategyAt yX4_strategyAt, Cond.code yX4_strategyAt cX4_strategyAt 2 (some (.object "Bidwhistle$Strategy")), Cond.classLink RX4 219 "java/lang/IndexOutOfBoundsException", Cond.initialized "java/lang/IndexOutOfBoundsException", Cond.methodLink RX4 107 yX4_requireValue, Cond.static yX4_requireValue]
def wsL_law0_r17 : List Cond := [Cond.code yX4_requireValue cX4_requireValue 1 none, Cond.methodLink RX4 110 yX3_bidFor, Cond.instanceMethod yX3_bidFor, Cond.selects RX3 yX3_bidFor yX3_bidFor, Cond.code yX3_bidFor cX3_bidFor 2 (some .int), Cond.methodLink RX3 44 yX1_at, Cond.methodLink RL 97 yX5_bid, Cond.instanceMethod yX5_bid, Cond.selects RX5 yX5_bid yX5_bid, Cond.code yX5_bid cX5_bid 3 (some .int), Cond.methodLink RX5 88 yX5_isStrategy, Cond.instanceMethod yX5_isStrategy, Cond.selects RX5 yX5_isStrategy yX5_isStrategy, Cond.code yX5_isStrategy cX5_isStrategy 2 (some .boolean), Cond.methodLink RX5 91 yX5_isValue, Cond.static yX5_isValue, Cond.code yX5_isValue cX5_isValue 1 (some .boolean), Cond.methodLink RX5 94 yX5_bidOf, Cond.instanceMethod yX5_bidOf, Cond.selects RX5 yX5_bidOf yX5_bidOf, Cond.code yX5_bidOf cX5_bidOf 3 (some .int), Cond.methodLink RL 98 yL_alike, Cond.static yL_alike, Cond.codeWith yL_alike cL_alike 4 (some .int) [(0, 9, 12, 25)]]
def wsL_law0_r18 : List Cond := [Cond.methodLink RL 27 yX4_alike, Cond.instanceMethod yX4_alike, Cond.selects RX4 yX4_alike yX4_alike, Cond.code yX4_alike cX4_alike 5 (some .int), Cond.methodLink RL 100 yX5_alike, Cond.instanceMethod yX5_alike, Cond.selects RX5 yX5_alike yX5_alike, Cond.code yX5_alike cX5_alike 6 (some .int), Cond.methodLink RL 101 yL_parent, Cond.static yL_parent, Cond.codeWith yL_parent cL_parent 5 (some .int) [(0, 10, 13, 25)], Cond.methodLink RL 30 yX4_parent, Cond.instanceMethod yX4_parent, Cond.selects RX4 yX4_parent yX4_parent, Cond.code yX4_parent cX4_parent 4 (some .int), Cond.methodLink RL 104 yX5_parent, Cond.instanceMethod yX5_parent, Cond.selects RX5 yX5_parent yX5_parent, Cond.code yX5_parent cX5_parent 3 (some .int), Cond.methodLink RL 105 yL_join, Cond.static yL_join, Cond.codeWith yL_join cL_join 4 (some .int) [(0, 9, 12, 25), (0, 9, 15, 15)], Cond.methodLink RL 34 yX4_join, Cond.instanceMethod yX4_join]
def wsL_law0_r19 : List Cond := [Cond.selects RX4 yX4_join yX4_join, Cond.code yX4_join cX4_join 3 (some .int), Cond.methodLink RX4 138 yX0_hasAnyOf, Cond.instanceMethod yX0_hasAnyOf, Cond.selects RX0 yX0_hasAnyOf yX0_hasAnyOf, Cond.code yX0_hasAnyOf cX0_hasAnyOf 2 (some .boolean), Cond.methodLink RX4 144 yX4_poolSize, Cond.instanceMethod yX4_poolSize, Cond.selects RX4 yX4_poolSize yX4_poolSize, Cond.code yX4_poolSize cX4_poolSize 3 (some .int), Cond.methodLink RL 107 yX5_join, Cond.instanceMethod yX5_join, Cond.selects RX5 yX5_join yX5_join, Cond.code yX5_join cX5_join 2 (some .int), Cond.methodLink RX5 98 yX5_hasForbidden, Cond.instanceMethod yX5_hasForbidden, Cond.selects RX5 yX5_hasForbidden yX5_hasForbidden, Cond.code yX5_hasForbidden cX5_hasForbidden 4 (some .boolean), Cond.methodLink RX5 67 yX5_hasStep, Cond.instanceMethod yX5_hasStep, Cond.selects RX5 yX5_hasStep yX5_hasStep, Cond.code yX5_hasStep cX5_hasStep 5 (some .boolean), Cond.methodLink RX5 101 yX5_pooled, Cond.instanceMethod yX5_pooled]
def wsL_law0_r20 : List Cond := [Cond.selects RX5 yX5_pooled yX5_pooled, Cond.code yX5_pooled cX5_pooled 3 (some .int), Cond.methodLink RL 108 yL_leave, Cond.static yL_leave, Cond.codeWith yL_leave cL_leave 4 (some .int) [(0, 9, 12, 25), (0, 9, 15, 15)], Cond.methodLink RL 37 yX4_leave, Cond.instanceMethod yX4_leave, Cond.selects RX4 yX4_leave yX4_leave, Cond.code yX4_leave cX4_leave 3 (some .int), Cond.methodLink RX4 149 yX4_requireInPool, Cond.static yX4_requireInPool, Cond.code yX4_requireInPool cX4_requireInPool 1 none, Cond.methodLink RL 110 yX5_leave, Cond.instanceMethod yX5_leave, Cond.selects RX5 yX5_leave yX5_leave, Cond.code yX5_leave cX5_leave 2 (some .int), Cond.methodLink RL 111 yL_isIn, Cond.static yL_isIn, Cond.codeWith yL_isIn cL_isIn 4 (some .int) [(0, 16, 19, 25)], Cond.methodLink RL 40 yX4_isIn, Cond.instanceMethod yX4_isIn, Cond.selects RX4 yX4_isIn yX4_isIn, Cond.code yX4_isIn cX4_isIn 2 (some .boolean), Cond.methodLink RL 113 yX5_isIn]
def wsL_law0_r21 : List Cond := [Cond.instanceMethod yX5_isIn, Cond.selects RX5 yX5_isIn yX5_isIn, Cond.code yX5_isIn cX5_isIn 2 (some .boolean), Cond.methodLink RL 114 yL_forbid, Cond.static yL_forbid, Cond.codeWith yL_forbid cL_forbid 4 (some .int) [(0, 9, 12, 13)], Cond.methodLink RL 44 yX4_forbid, Cond.instanceMethod yX4_forbid, Cond.selects RX4 yX4_forbid yX4_forbid, Cond.code yX4_forbid cX4_forbid 5 (some .int), Cond.methodLink RX4 153 yX4_bitOf, Cond.methodLink RL 116 yX5_forbid, Cond.instanceMethod yX5_forbid, Cond.selects RX5 yX5_forbid yX5_forbid, Cond.code yX5_forbid cX5_forbid 6 (some .int), Cond.methodLink RL 117 yL_allow, Cond.static yL_allow, Cond.codeWith yL_allow cL_allow 4 (some .int) [(0, 16, 19, 13)], Cond.methodLink RL 47 yX4_allow, Cond.instanceMethod yX4_allow, Cond.selects RX4 yX4_allow yX4_allow, Cond.code yX4_allow cX4_allow 3 (some .boolean), Cond.methodLink RL 119 yX5_allow, Cond.instanceMethod yX5_allow]
def wsL_law0_r22 : List Cond := [Cond.selects RX5 yX5_allow yX5_allow, Cond.code yX5_allow cX5_allow 3 (some .boolean), Cond.methodLink RL 120 yL_tell, Cond.static yL_tell, Cond.codeWith yL_tell cL_tell 5 (some .int) [(0, 10, 13, 13), (0, 10, 17, 15)], Cond.methodLink RL 50 yX4_tell, Cond.instanceMethod yX4_tell, Cond.selects RX4 yX4_tell yX4_tell, Cond.code yX4_tell cX4_tell 3 (some .int), Cond.methodLink RL 122 yX5_tell, Cond.instanceMethod yX5_tell, Cond.selects RX5 yX5_tell yX5_tell, Cond.code yX5_tell cX5_tell 3 (some .int), Cond.fieldLink RX5 105 "BidwhistleModel" "pairs" "I", Cond.methodLink RL 123 yX4_forget, Cond.instanceMethod yX4_forget, Cond.selects RX4 yX4_forget yX4_forget, Cond.code yX4_forget cX4_forget 2 (some .int), Cond.methodLink RL 126 yX5_forget, Cond.instanceMethod yX5_forget, Cond.selects RX5 yX5_forget yX5_forget, Cond.code yX5_forget cX5_forget 2 (some .int), Cond.methodLink RL 127 yL_profit, Cond.static yL_profit]
def wsL_law0_r23 : List Cond := [Cond.codeWith yL_profit cL_profit 8 (some .int) [(0, 16, 19, 25), (0, 16, 23, 13)], Cond.methodLink RL 53 yX4_profit, Cond.instanceMethod yX4_profit, Cond.selects RX4 yX4_profit yX4_profit, Cond.code yX4_profit cX4_profit 8 (some .int), Cond.methodLink RX4 170 yX4_requireAuction, Cond.static yX4_requireAuction, Cond.code yX4_requireAuction cX4_requireAuction 1 none, Cond.methodLink RX4 173 yX4_profitAgainst, Cond.static yX4_profitAgainst, Cond.code yX4_profitAgainst cX4_profitAgainst 7 (some .int), Cond.methodLink RX4 263 yX4_wins, Cond.static yX4_wins, Cond.code yX4_wins cX4_wins 4 (some .boolean), Cond.methodLink RX4 267 yX4_profitOf, Cond.static yX4_profitOf, Cond.code yX4_profitOf cX4_profitOf 5 (some .int), Cond.methodLink RX4 259 yX4_paid, Cond.static yX4_paid, Cond.code yX4_paid cX4_paid 4 (some .int), Cond.methodLink RL 130 yX5_profit, Cond.instanceMethod yX5_profit, Cond.selects RX5 yX5_profit yX5_profit, Cond.code yX5_profit cX5_profit 7 (some .int)]
def wsL_law0_r24 : List Cond := [Cond.methodLink RX5 108 yX5_isAuction, Cond.static yX5_isAuction, Cond.code yX5_isAuction cX5_isAuction 1 (some .boolean), Cond.methodLink RX5 111 yX5_profitOf, Cond.instanceMethod yX5_profitOf, Cond.selects RX5 yX5_profitOf yX5_profitOf, Cond.code yX5_profitOf cX5_profitOf 10 (some .int), Cond.methodLink RL 131 yL_worth, Cond.static yL_worth, Cond.codeWith yL_worth cL_worth 5 (some .int) [(0, 10, 13, 25), (0, 10, 17, 13), (0, 10, 21, 15)], Cond.methodLink RL 57 yX4_worth, Cond.instanceMethod yX4_worth, Cond.selects RX4 yX4_worth yX4_worth, Cond.code yX4_worth cX4_worth 4 (some .int), Cond.methodLink RX4 177 yX4_worthByStrategies, Cond.instanceMethod yX4_worthByStrategies, Cond.selects RX4 yX4_worthByStrategies yX4_worthByStrategies, Cond.code yX4_worthByStrategies cX4_worthByStrategies 6 (some .int), Cond.methodLink RX4 271 yX4_profitOfRounds, Cond.instanceMethod yX4_profitOfRounds, Cond.selects RX4 yX4_profitOfRounds yX4_profitOfRounds, Cond.code yX4_profitOfRounds cX4_profitOfRounds 8 (some .int), Cond.methodLink RX4 181 yX1_at, Cond.methodLink RL 133 yX5_worth]
def wsL_law0_r25 : List Cond := [Cond.instanceMethod yX5_worth, Cond.selects RX5 yX5_worth yX5_worth, Cond.code yX5_worth cX5_worth 3 (some .int), Cond.methodLink RX5 118 yX5_worthIn, Cond.instanceMethod yX5_worthIn, Cond.selects RX5 yX5_worthIn yX5_worthIn, Cond.code yX5_worthIn cX5_worthIn 3 (some .int), Cond.methodLink RX5 115 yX5_worthOf, Cond.instanceMethod yX5_worthOf, Cond.selects RX5 yX5_worthOf yX5_worthOf, Cond.code yX5_worthOf cX5_worthOf 6 (some .int), Cond.methodLink RL 134 yL_worthByValues, Cond.static yL_worthByValues, Cond.codeWith yL_worthByValues cL_worthByValues 5 (some .int) [(0, 10, 13, 25), (0, 10, 17, 13), (0, 10, 21, 15)], Cond.methodLink RL 60 yX4_worthByValues, Cond.instanceMethod yX4_worthByValues, Cond.selects RX4 yX4_worthByValues yX4_worthByValues, Cond.code yX4_worthByValues cX4_worthByValues 8 (some .int), Cond.methodLink RX4 184 yX4_layBids, Cond.instanceMethod yX4_layBids, Cond.selects RX4 yX4_layBids yX4_layBids, Cond.code yX4_layBids cX4_layBids 5 none, Cond.methodLink RX4 188 yX4_profitInRows, Cond.instanceMethod yX4_profitInRows]
def wsL_law0_r26 : List Cond := [Cond.selects RX4 yX4_profitInRows yX4_profitInRows, Cond.code yX4_profitInRows cX4_profitInRows 10 (some .int), Cond.methodLink RL 136 yX5_worthByValues, Cond.instanceMethod yX5_worthByValues, Cond.selects RX5 yX5_worthByValues yX5_worthByValues, Cond.code yX5_worthByValues cX5_worthByValues 3 (some .int), Cond.methodLink RL 137 yL_best, Cond.static yL_best, Cond.codeWith yL_best cL_best 4 (some .int) [(0, 9, 12, 13)], Cond.methodLink RL 63 yX4_best, Cond.instanceMethod yX4_best, Cond.selects RX4 yX4_best yX4_best, Cond.code yX4_best cX4_best 2 (some .int), Cond.methodLink RX4 192 yX4_layWorths, Cond.instanceMethod yX4_layWorths, Cond.selects RX4 yX4_layWorths yX4_layWorths, Cond.code yX4_layWorths cX4_layWorths 4 none, Cond.methodLink RX4 195 yX4_strongestBut, Cond.instanceMethod yX4_strongestBut, Cond.selects RX4 yX4_strongestBut yX4_strongestBut, Cond.code yX4_strongestBut cX4_strongestBut 4 (some .int), Cond.methodLink RL 139 yX5_best, Cond.instanceMethod yX5_best, Cond.selects RX5 yX5_best yX5_best]
def wsL_law0_r27 : List Cond := [Cond.code yX5_best cX5_best 2 (some .int), Cond.methodLink RX5 121 yX5_laysWorths, Cond.instanceMethod yX5_laysWorths, Cond.selects RX5 yX5_laysWorths yX5_laysWorths, Cond.code yX5_laysWorths cX5_laysWorths 3 none, Cond.methodLink RX5 125 yX5_greatest, Cond.instanceMethod yX5_greatest, Cond.selects RX5 yX5_greatest yX5_greatest, Cond.code yX5_greatest cX5_greatest 5 (some .int), Cond.methodLink RL 140 yL_evolve, Cond.static yL_evolve, Cond.codeWith yL_evolve cL_evolve 4 (some .int) [(0, 9, 12, 13), (0, 9, 15, 15)], Cond.methodLink RL 66 yX4_evolve, Cond.instanceMethod yX4_evolve, Cond.selects RX4 yX4_evolve yX4_evolve, Cond.code yX4_evolve cX4_evolve 4 (some .int), Cond.methodLink RX4 200 yX4_weakest, Cond.instanceMethod yX4_weakest, Cond.selects RX4 yX4_weakest yX4_weakest, Cond.code yX4_weakest cX4_weakest 3 (some .int), Cond.methodLink RX4 203 yX4_cross, Cond.instanceMethod yX4_cross, Cond.selects RX4 yX4_cross yX4_cross, Cond.code yX4_cross cX4_cross 3 none]
def wsL_law0_r28 : List Cond := [Cond.methodLink RX4 275 yX0_addPart, Cond.methodLink RX4 207 yX4_letChildJoin, Cond.instanceMethod yX4_letChildJoin, Cond.selects RX4 yX4_letChildJoin yX4_letChildJoin, Cond.code yX4_letChildJoin cX4_letChildJoin 5 (some .int), Cond.methodLink RL 142 yX5_evolve, Cond.instanceMethod yX5_evolve, Cond.selects RX5 yX5_evolve yX5_evolve, Cond.code yX5_evolve cX5_evolve 6 (some .int), Cond.methodLink RX5 128 yX5_weakest, Cond.instanceMethod yX5_weakest, Cond.selects RX5 yX5_weakest yX5_weakest, Cond.code yX5_weakest cX5_weakest 3 (some .int), Cond.methodLink RX5 131 yX5_crosses, Cond.instanceMethod yX5_crosses, Cond.selects RX5 yX5_crosses yX5_crosses, Cond.code yX5_crosses cX5_crosses 6 none]
def wsL_law0 : List Cond := (wsL_law0_r1 ++ (wsL_law0_r2 ++ (wsL_law0_r3 ++ (wsL_law0_r4 ++ (wsL_law0_r5 ++ (wsL_law0_r6 ++ (wsL_law0_r7 ++ (wsL_law0_r8 ++ (wsL_law0_r9 ++ (wsL_law0_r10 ++ (wsL_law0_r11 ++ (wsL_law0_r12 ++ (wsL_law0_r13 ++ (wsL_law0_r14 ++ (wsL_law0_r15 ++ (wsL_law0_r16 ++ (wsL_law0_r17 ++ (wsL_law0_r18 ++ (wsL_law0_r19 ++ (wsL_law0_r20 ++ (wsL_law0_r21 ++ (wsL_law0_r22 ++ (wsL_law0_r23 ++ (wsL_law0_r24 ++ (wsL_law0_r25 ++ (wsL_law0_r26 ++ (wsL_law0_r27 ++ wsL_law0_r28))))))))))))))))))))))))))) ++ wsX40 ++ wsX50 ++ wsX00 ++ wsX20 ++ wsJx4a65c0 ++ wsX10 ++ wsX30 ++ ([] : List Cond)
def wsL_law : List Cond := wsL_law0 ++ (vx_atS RX4 72 "java/lang/IllegalStateException" ["java/lang/RuntimeException", "java/lang/Exception"]).filter goodWord ++ (vx_atS RX4 169 "java/lang/IllegalArgumentException" ["java/lang/RuntimeException", "java/lang/Exception"]).filter goodWord ++ (vx_atS RX4 223 "java/lang/IndexOutOfBoundsException" ["java/lang/RuntimeException", "java/lang/Exception"]).filter goodWord
abbrev vwCl : List vw_C := [(RJx4a65c, TJx4a65c, 3), (RX0, TX0, 3), (RX1, TX1, 1), (RX2, TX2, 2), (RX3, TX3, 8), (RX4, TX4, 11), (RX5, TX5, 14)]
end
section
theorem dX0_init_0 : decode cX0_init 0 = .ok (.aload_n 0, 1) := by decide +kernel
theorem dX0_init_1 : decode cX0_init 1 = .ok (.invokespecial 3, 3) := by decide +kernel
theorem dX0_init_4 : decode cX0_init 4 = .ok (.aload_n 0, 1) := by decide +kernel
theorem dX0_init_5 : decode cX0_init 5 = .ok (.new 9, 3) := by decide +kernel
theorem dX0_init_8 : decode cX0_init 8 = .ok (.dup, 1) := by decide +kernel
theorem dX0_init_9 : decode cX0_init 9 = .ok (.bipush 7, 2) := by decide +kernel
theorem dX0_init_11 : decode cX0_init 11 = .ok (.invokespecial 11, 3) := by decide +kernel
theorem dX0_init_14 : decode cX0_init 14 = .ok (.putfield 14, 3) := by decide +kernel
theorem dX0_init_17 : decode cX0_init 17 = .ok (.aload_n 0, 1) := by decide +kernel
theorem dX0_init_18 : decode cX0_init 18 = .ok (.iconst 0, 1) := by decide +kernel
theorem dX0_init_19 : decode cX0_init 19 = .ok (.putfield 20, 3) := by decide +kernel
theorem dX0_init_22 : decode cX0_init 22 = .ok (.aload_n 0, 1) := by decide +kernel
theorem dX0_init_23 : decode cX0_init 23 = .ok (.iconst 0, 1) := by decide +kernel
theorem dX0_init_24 : decode cX0_init 24 = .ok (.putfield 24, 3) := by decide +kernel
theorem dX0_init_27 : decode cX0_init 27 = .ok (.return_, 1) := by decide +kernel
theorem dX0_length_0 : decode cX0_length 0 = .ok (.aload_n 0, 1) := by decide +kernel
theorem dX0_length_1 : decode cX0_length 1 = .ok (.getfield 20, 3) := by decide +kernel
theorem dX0_length_4 : decode cX0_length 4 = .ok (.ireturn, 1) := by decide +kernel
theorem dX0_isFull_0 : decode cX0_isFull 0 = .ok (.aload_n 0, 1) := by decide +kernel
theorem dX0_isFull_1 : decode cX0_isFull 1 = .ok (.getfield 20, 3) := by decide +kernel
theorem dX0_isFull_4 : decode cX0_isFull 4 = .ok (.bipush 7, 2) := by decide +kernel
theorem dX0_isFull_6 : decode cX0_isFull 6 = .ok (.if_icmp .lt 7, 3) := by decide +kernel
theorem dX0_isFull_9 : decode cX0_isFull 9 = .ok (.iconst 1, 1) := by decide +kernel
theorem dX0_isFull_10 : decode cX0_isFull 10 = .ok (.goto 4, 3) := by decide +kernel
theorem dX0_isFull_13 : decode cX0_isFull 13 = .ok (.iconst 0, 1) := by decide +kernel
theorem dX0_isFull_14 : decode cX0_isFull 14 = .ok (.ireturn, 1) := by decide +kernel
theorem dX0_empty_0 : decode cX0_empty 0 = .ok (.aload_n 0, 1) := by decide +kernel
theorem dX0_empty_1 : decode cX0_empty 1 = .ok (.iconst 0, 1) := by decide +kernel
theorem dX0_empty_2 : decode cX0_empty 2 = .ok (.putfield 20, 3) := by decide +kernel
theorem dX0_empty_5 : decode cX0_empty 5 = .ok (.aload_n 0, 1) := by decide +kernel
theorem dX0_empty_6 : decode cX0_empty 6 = .ok (.iconst 0, 1) := by decide +kernel
theorem dX0_empty_7 : decode cX0_empty 7 = .ok (.putfield 24, 3) := by decide +kernel
theorem dX0_empty_10 : decode cX0_empty 10 = .ok (.return_, 1) := by decide +kernel
theorem dX0_add_0 : decode cX0_add 0 = .ok (.aload_n 0, 1) := by decide +kernel
theorem dX0_add_1 : decode cX0_add 1 = .ok (.getfield 20, 3) := by decide +kernel
theorem dX0_add_4 : decode cX0_add 4 = .ok (.bipush 7, 2) := by decide +kernel
theorem dX0_add_6 : decode cX0_add 6 = .ok (.if_icmp .ge 38, 3) := by decide +kernel
theorem dX0_add_9 : decode cX0_add 9 = .ok (.aload_n 0, 1) := by decide +kernel
theorem dX0_add_10 : decode cX0_add 10 = .ok (.getfield 14, 3) := by decide +kernel
theorem dX0_add_13 : decode cX0_add 13 = .ok (.aload_n 0, 1) := by decide +kernel
theorem dX0_add_14 : decode cX0_add 14 = .ok (.getfield 20, 3) := by decide +kernel
theorem dX0_add_17 : decode cX0_add 17 = .ok (.iload_n 1, 1) := by decide +kernel
theorem dX0_add_18 : decode cX0_add 18 = .ok (.invokevirtual 27, 3) := by decide +kernel
theorem dX0_add_21 : decode cX0_add 21 = .ok (.aload_n 0, 1) := by decide +kernel
theorem dX0_add_22 : decode cX0_add 22 = .ok (.dup, 1) := by decide +kernel
theorem dX0_add_23 : decode cX0_add 23 = .ok (.getfield 20, 3) := by decide +kernel
theorem dX0_add_26 : decode cX0_add 26 = .ok (.iconst 1, 1) := by decide +kernel
theorem dX0_add_27 : decode cX0_add 27 = .ok (.iadd, 1) := by decide +kernel
theorem dX0_add_28 : decode cX0_add 28 = .ok (.putfield 20, 3) := by decide +kernel
theorem dX0_add_31 : decode cX0_add 31 = .ok (.aload_n 0, 1) := by decide +kernel
theorem dX0_add_32 : decode cX0_add 32 = .ok (.aload_n 0, 1) := by decide +kernel
theorem dX0_add_33 : decode cX0_add 33 = .ok (.getfield 24, 3) := by decide +kernel
theorem dX0_add_36 : decode cX0_add 36 = .ok (.iload_n 1, 1) := by decide +kernel
theorem dX0_add_37 : decode cX0_add 37 = .ok (.invokestatic 31, 3) := by decide +kernel
theorem dX0_add_40 : decode cX0_add 40 = .ok (.ior, 1) := by decide +kernel
theorem dX0_add_41 : decode cX0_add 41 = .ok (.putfield 24, 3) := by decide +kernel
theorem dX0_add_44 : decode cX0_add 44 = .ok (.return_, 1) := by decide +kernel
theorem dX0_addPart_0 : decode cX0_addPart 0 = .ok (.iload_n 2, 1) := by decide +kernel
theorem dX0_addPart_1 : decode cX0_addPart 1 = .ok (.istore 4, 2) := by decide +kernel
theorem dX0_addPart_3 : decode cX0_addPart 3 = .ok (.iload 4, 2) := by decide +kernel
theorem dX0_addPart_5 : decode cX0_addPart 5 = .ok (.iload_n 3, 1) := by decide +kernel
theorem dX0_addPart_6 : decode cX0_addPart 6 = .ok (.if_icmp .ge 22, 3) := by decide +kernel
theorem dX0_addPart_9 : decode cX0_addPart 9 = .ok (.aload_n 0, 1) := by decide +kernel
theorem dX0_addPart_10 : decode cX0_addPart 10 = .ok (.aload_n 1, 1) := by decide +kernel
theorem dX0_addPart_11 : decode cX0_addPart 11 = .ok (.getfield 14, 3) := by decide +kernel
theorem dX0_addPart_14 : decode cX0_addPart 14 = .ok (.iload 4, 2) := by decide +kernel
theorem dX0_addPart_16 : decode cX0_addPart 16 = .ok (.invokevirtual 35, 3) := by decide +kernel
theorem dX0_addPart_19 : decode cX0_addPart 19 = .ok (.invokevirtual 38, 3) := by decide +kernel
theorem dX0_addPart_22 : decode cX0_addPart 22 = .ok (.iinc 4 1, 3) := by decide +kernel
theorem dX0_addPart_25 : decode cX0_addPart 25 = .ok (.goto (-22), 3) := by decide +kernel
theorem dX0_addPart_28 : decode cX0_addPart 28 = .ok (.return_, 1) := by decide +kernel
theorem dX0_copy_0 : decode cX0_copy 0 = .ok (.new 15, 3) := by decide +kernel
theorem dX0_copy_3 : decode cX0_copy 3 = .ok (.dup, 1) := by decide +kernel
theorem dX0_copy_4 : decode cX0_copy 4 = .ok (.invokespecial 41, 3) := by decide +kernel
theorem dX0_copy_7 : decode cX0_copy 7 = .ok (.astore_n 1, 1) := by decide +kernel
theorem dX0_copy_8 : decode cX0_copy 8 = .ok (.aload_n 1, 1) := by decide +kernel
theorem dX0_copy_9 : decode cX0_copy 9 = .ok (.aload_n 0, 1) := by decide +kernel
theorem dX0_copy_10 : decode cX0_copy 10 = .ok (.iconst 0, 1) := by decide +kernel
theorem dX0_copy_11 : decode cX0_copy 11 = .ok (.aload_n 0, 1) := by decide +kernel
theorem dX0_copy_12 : decode cX0_copy 12 = .ok (.getfield 20, 3) := by decide +kernel
theorem dX0_copy_15 : decode cX0_copy 15 = .ok (.invokevirtual 42, 3) := by decide +kernel
theorem dX0_copy_18 : decode cX0_copy 18 = .ok (.aload_n 1, 1) := by decide +kernel
theorem dX0_copy_19 : decode cX0_copy 19 = .ok (.areturn, 1) := by decide +kernel
theorem dX0_isSameAs_0 : decode cX0_isSameAs 0 = .ok (.aload_n 0, 1) := by decide +kernel
theorem dX0_isSameAs_1 : decode cX0_isSameAs 1 = .ok (.getfield 20, 3) := by decide +kernel
theorem dX0_isSameAs_4 : decode cX0_isSameAs 4 = .ok (.aload_n 1, 1) := by decide +kernel
theorem dX0_isSameAs_5 : decode cX0_isSameAs 5 = .ok (.getfield 20, 3) := by decide +kernel
theorem dX0_isSameAs_8 : decode cX0_isSameAs 8 = .ok (.if_icmp .eq 5, 3) := by decide +kernel
theorem dX0_isSameAs_11 : decode cX0_isSameAs 11 = .ok (.iconst 0, 1) := by decide +kernel
theorem dX0_isSameAs_12 : decode cX0_isSameAs 12 = .ok (.ireturn, 1) := by decide +kernel
theorem dX0_isSameAs_13 : decode cX0_isSameAs 13 = .ok (.iconst 0, 1) := by decide +kernel
theorem dX0_isSameAs_14 : decode cX0_isSameAs 14 = .ok (.istore_n 2, 1) := by decide +kernel
theorem dX0_isSameAs_15 : decode cX0_isSameAs 15 = .ok (.iload_n 2, 1) := by decide +kernel
theorem dX0_isSameAs_16 : decode cX0_isSameAs 16 = .ok (.aload_n 0, 1) := by decide +kernel
theorem dX0_isSameAs_17 : decode cX0_isSameAs 17 = .ok (.getfield 20, 3) := by decide +kernel
theorem dX0_isSameAs_20 : decode cX0_isSameAs 20 = .ok (.if_icmp .ge 30, 3) := by decide +kernel
theorem dX0_isSameAs_23 : decode cX0_isSameAs 23 = .ok (.aload_n 0, 1) := by decide +kernel
theorem dX0_isSameAs_24 : decode cX0_isSameAs 24 = .ok (.getfield 14, 3) := by decide +kernel
theorem dX0_isSameAs_27 : decode cX0_isSameAs 27 = .ok (.iload_n 2, 1) := by decide +kernel
theorem dX0_isSameAs_28 : decode cX0_isSameAs 28 = .ok (.invokevirtual 35, 3) := by decide +kernel
theorem dX0_isSameAs_31 : decode cX0_isSameAs 31 = .ok (.aload_n 1, 1) := by decide +kernel
theorem dX0_isSameAs_32 : decode cX0_isSameAs 32 = .ok (.getfield 14, 3) := by decide +kernel
theorem dX0_isSameAs_35 : decode cX0_isSameAs 35 = .ok (.iload_n 2, 1) := by decide +kernel
theorem dX0_isSameAs_36 : decode cX0_isSameAs 36 = .ok (.invokevirtual 35, 3) := by decide +kernel
theorem dX0_isSameAs_39 : decode cX0_isSameAs 39 = .ok (.if_icmp .eq 5, 3) := by decide +kernel
theorem dX0_isSameAs_42 : decode cX0_isSameAs 42 = .ok (.iconst 0, 1) := by decide +kernel
theorem dX0_isSameAs_43 : decode cX0_isSameAs 43 = .ok (.ireturn, 1) := by decide +kernel
theorem dX0_isSameAs_44 : decode cX0_isSameAs 44 = .ok (.iinc 2 1, 3) := by decide +kernel
theorem dX0_isSameAs_47 : decode cX0_isSameAs 47 = .ok (.goto (-32), 3) := by decide +kernel
theorem dX0_isSameAs_50 : decode cX0_isSameAs 50 = .ok (.iconst 1, 1) := by decide +kernel
theorem dX0_isSameAs_51 : decode cX0_isSameAs 51 = .ok (.ireturn, 1) := by decide +kernel
theorem dX0_hasAnyOf_0 : decode cX0_hasAnyOf 0 = .ok (.aload_n 0, 1) := by decide +kernel
theorem dX0_hasAnyOf_1 : decode cX0_hasAnyOf 1 = .ok (.getfield 24, 3) := by decide +kernel
theorem dX0_hasAnyOf_4 : decode cX0_hasAnyOf 4 = .ok (.iload_n 1, 1) := by decide +kernel
theorem dX0_hasAnyOf_5 : decode cX0_hasAnyOf 5 = .ok (.iand, 1) := by decide +kernel
theorem dX0_hasAnyOf_6 : decode cX0_hasAnyOf 6 = .ok (.ifCond .eq 7, 3) := by decide +kernel
theorem dX0_hasAnyOf_9 : decode cX0_hasAnyOf 9 = .ok (.iconst 1, 1) := by decide +kernel
theorem dX0_hasAnyOf_10 : decode cX0_hasAnyOf 10 = .ok (.goto 4, 3) := by decide +kernel
theorem dX0_hasAnyOf_13 : decode cX0_hasAnyOf 13 = .ok (.iconst 0, 1) := by decide +kernel
theorem dX0_hasAnyOf_14 : decode cX0_hasAnyOf 14 = .ok (.ireturn, 1) := by decide +kernel
theorem dX0_isRight_0 : decode cX0_isRight 0 = .ok (.iconst 0, 1) := by decide +kernel
theorem dX0_isRight_1 : decode cX0_isRight 1 = .ok (.istore_n 1, 1) := by decide +kernel
theorem dX0_isRight_2 : decode cX0_isRight 2 = .ok (.iconst 0, 1) := by decide +kernel
theorem dX0_isRight_3 : decode cX0_isRight 3 = .ok (.istore_n 2, 1) := by decide +kernel
theorem dX0_isRight_4 : decode cX0_isRight 4 = .ok (.iload_n 2, 1) := by decide +kernel
theorem dX0_isRight_5 : decode cX0_isRight 5 = .ok (.aload_n 0, 1) := by decide +kernel
theorem dX0_isRight_6 : decode cX0_isRight 6 = .ok (.getfield 20, 3) := by decide +kernel
theorem dX0_isRight_9 : decode cX0_isRight 9 = .ok (.if_icmp .ge 38, 3) := by decide +kernel
theorem dX0_isRight_12 : decode cX0_isRight 12 = .ok (.aload_n 0, 1) := by decide +kernel
theorem dX0_isRight_13 : decode cX0_isRight 13 = .ok (.getfield 14, 3) := by decide +kernel
theorem dX0_isRight_16 : decode cX0_isRight 16 = .ok (.iload_n 2, 1) := by decide +kernel
theorem dX0_isRight_17 : decode cX0_isRight 17 = .ok (.invokevirtual 35, 3) := by decide +kernel
theorem dX0_isRight_20 : decode cX0_isRight 20 = .ok (.bipush 10, 2) := by decide +kernel
theorem dX0_isRight_22 : decode cX0_isRight 22 = .ok (.if_icmp .gt 9, 3) := by decide +kernel
theorem dX0_isRight_25 : decode cX0_isRight 25 = .ok (.iinc 1 1, 3) := by decide +kernel
theorem dX0_isRight_28 : decode cX0_isRight 28 = .ok (.goto 13, 3) := by decide +kernel
theorem dX0_isRight_31 : decode cX0_isRight 31 = .ok (.iload_n 1, 1) := by decide +kernel
theorem dX0_isRight_32 : decode cX0_isRight 32 = .ok (.iconst 2, 1) := by decide +kernel
theorem dX0_isRight_33 : decode cX0_isRight 33 = .ok (.if_icmp .ge 5, 3) := by decide +kernel
theorem dX0_isRight_36 : decode cX0_isRight 36 = .ok (.iconst 0, 1) := by decide +kernel
theorem dX0_isRight_37 : decode cX0_isRight 37 = .ok (.ireturn, 1) := by decide +kernel
theorem dX0_isRight_38 : decode cX0_isRight 38 = .ok (.iinc 1 (-1), 3) := by decide +kernel
theorem dX0_isRight_41 : decode cX0_isRight 41 = .ok (.iinc 2 1, 3) := by decide +kernel
theorem dX0_isRight_44 : decode cX0_isRight 44 = .ok (.goto (-40), 3) := by decide +kernel
theorem dX0_isRight_47 : decode cX0_isRight 47 = .ok (.iload_n 1, 1) := by decide +kernel
theorem dX0_isRight_48 : decode cX0_isRight 48 = .ok (.iconst 1, 1) := by decide +kernel
theorem dX0_isRight_49 : decode cX0_isRight 49 = .ok (.if_icmp .ne 7, 3) := by decide +kernel
theorem dX0_isRight_52 : decode cX0_isRight 52 = .ok (.iconst 1, 1) := by decide +kernel
theorem dX0_isRight_53 : decode cX0_isRight 53 = .ok (.goto 4, 3) := by decide +kernel
theorem dX0_isRight_56 : decode cX0_isRight 56 = .ok (.iconst 0, 1) := by decide +kernel
theorem dX0_isRight_57 : decode cX0_isRight 57 = .ok (.ireturn, 1) := by decide +kernel
theorem dX0_bidFor_0 : decode cX0_bidFor 0 = .ok (.aload_n 2, 1) := by decide +kernel
theorem dX0_bidFor_1 : decode cX0_bidFor 1 = .ok (.invokevirtual 46, 3) := by decide +kernel
theorem dX0_bidFor_4 : decode cX0_bidFor 4 = .ok (.iconst 0, 1) := by decide +kernel
theorem dX0_bidFor_5 : decode cX0_bidFor 5 = .ok (.istore_n 3, 1) := by decide +kernel
theorem dX0_bidFor_6 : decode cX0_bidFor 6 = .ok (.iload_n 3, 1) := by decide +kernel
theorem dX0_bidFor_7 : decode cX0_bidFor 7 = .ok (.aload_n 0, 1) := by decide +kernel
theorem dX0_bidFor_8 : decode cX0_bidFor 8 = .ok (.getfield 20, 3) := by decide +kernel
theorem dX0_bidFor_11 : decode cX0_bidFor 11 = .ok (.if_icmp .ge 22, 3) := by decide +kernel
theorem dX0_bidFor_14 : decode cX0_bidFor 14 = .ok (.aload_n 0, 1) := by decide +kernel
theorem dX0_bidFor_15 : decode cX0_bidFor 15 = .ok (.getfield 14, 3) := by decide +kernel
theorem dX0_bidFor_18 : decode cX0_bidFor 18 = .ok (.iload_n 3, 1) := by decide +kernel
theorem dX0_bidFor_19 : decode cX0_bidFor 19 = .ok (.invokevirtual 35, 3) := by decide +kernel
theorem dX0_bidFor_22 : decode cX0_bidFor 22 = .ok (.iload_n 1, 1) := by decide +kernel
theorem dX0_bidFor_23 : decode cX0_bidFor 23 = .ok (.aload_n 2, 1) := by decide +kernel
theorem dX0_bidFor_24 : decode cX0_bidFor 24 = .ok (.invokestatic 51, 3) := by decide +kernel
theorem dX0_bidFor_27 : decode cX0_bidFor 27 = .ok (.iinc 3 1, 3) := by decide +kernel
theorem dX0_bidFor_30 : decode cX0_bidFor 30 = .ok (.goto (-24), 3) := by decide +kernel
theorem dX0_bidFor_33 : decode cX0_bidFor 33 = .ok (.iconst 0, 1) := by decide +kernel
theorem dX0_bidFor_34 : decode cX0_bidFor 34 = .ok (.sipush 999, 3) := by decide +kernel
theorem dX0_bidFor_37 : decode cX0_bidFor 37 = .ok (.aload_n 2, 1) := by decide +kernel
theorem dX0_bidFor_38 : decode cX0_bidFor 38 = .ok (.invokevirtual 55, 3) := by decide +kernel
theorem dX0_bidFor_41 : decode cX0_bidFor 41 = .ok (.invokestatic 59, 3) := by decide +kernel
theorem dX0_bidFor_44 : decode cX0_bidFor 44 = .ok (.invokestatic 65, 3) := by decide +kernel
theorem dX0_bidFor_47 : decode cX0_bidFor 47 = .ok (.ireturn, 1) := by decide +kernel
theorem dX0_perform_0 : decode cX0_perform 0 = .ok (.iload_n 0, 1) := by decide +kernel
theorem dX0_perform_1 : decode cX0_perform 1 = .ok (.bipush 10, 2) := by decide +kernel
theorem dX0_perform_3 : decode cX0_perform 3 = .ok (.if_icmp .ge 12, 3) := by decide +kernel
theorem dX0_perform_6 : decode cX0_perform 6 = .ok (.aload_n 2, 1) := by decide +kernel
theorem dX0_perform_7 : decode cX0_perform 7 = .ok (.iload_n 0, 1) := by decide +kernel
theorem dX0_perform_8 : decode cX0_perform 8 = .ok (.i2l, 1) := by decide +kernel
theorem dX0_perform_9 : decode cX0_perform 9 = .ok (.invokevirtual 68, 3) := by decide +kernel
theorem dX0_perform_12 : decode cX0_perform 12 = .ok (.goto 42, 3) := by decide +kernel
theorem dX0_perform_15 : decode cX0_perform 15 = .ok (.iload_n 0, 1) := by decide +kernel
theorem dX0_perform_16 : decode cX0_perform 16 = .ok (.bipush 10, 2) := by decide +kernel
theorem dX0_perform_18 : decode cX0_perform 18 = .ok (.if_icmp .ne 12, 3) := by decide +kernel
theorem dX0_perform_21 : decode cX0_perform 21 = .ok (.aload_n 2, 1) := by decide +kernel
theorem dX0_perform_22 : decode cX0_perform 22 = .ok (.iload_n 1, 1) := by decide +kernel
theorem dX0_perform_23 : decode cX0_perform 23 = .ok (.i2l, 1) := by decide +kernel
theorem dX0_perform_24 : decode cX0_perform 24 = .ok (.invokevirtual 68, 3) := by decide +kernel
theorem dX0_perform_27 : decode cX0_perform 27 = .ok (.goto 27, 3) := by decide +kernel
theorem dX0_perform_30 : decode cX0_perform 30 = .ok (.aload_n 2, 1) := by decide +kernel
theorem dX0_perform_31 : decode cX0_perform 31 = .ok (.invokevirtual 55, 3) := by decide +kernel
theorem dX0_perform_34 : decode cX0_perform 34 = .ok (.i2l, 1) := by decide +kernel
theorem dX0_perform_35 : decode cX0_perform 35 = .ok (.lstore_n 3, 1) := by decide +kernel
theorem dX0_perform_36 : decode cX0_perform 36 = .ok (.aload_n 2, 1) := by decide +kernel
theorem dX0_perform_37 : decode cX0_perform 37 = .ok (.invokevirtual 55, 3) := by decide +kernel
theorem dX0_perform_40 : decode cX0_perform 40 = .ok (.i2l, 1) := by decide +kernel
theorem dX0_perform_41 : decode cX0_perform 41 = .ok (.lstore 5, 2) := by decide +kernel
theorem dX0_perform_43 : decode cX0_perform 43 = .ok (.aload_n 2, 1) := by decide +kernel
theorem dX0_perform_44 : decode cX0_perform 44 = .ok (.iload_n 0, 1) := by decide +kernel
theorem dX0_perform_45 : decode cX0_perform 45 = .ok (.lload 5, 2) := by decide +kernel
theorem dX0_perform_47 : decode cX0_perform 47 = .ok (.lload_n 3, 1) := by decide +kernel
theorem dX0_perform_48 : decode cX0_perform 48 = .ok (.invokestatic 72, 3) := by decide +kernel
theorem dX0_perform_51 : decode cX0_perform 51 = .ok (.invokevirtual 68, 3) := by decide +kernel
theorem dX0_perform_54 : decode cX0_perform 54 = .ok (.return_, 1) := by decide +kernel
theorem dX0_resultOf_0 : decode cX0_resultOf 0 = .ok (.iload_n 0, 1) := by decide +kernel
theorem dX0_resultOf_1 : decode cX0_resultOf 1 = .ok (.tableswitch 67 11 15 #[35, 39, 43, 47, 61], 35) := by decide +kernel
theorem dX0_resultOf_36 : decode cX0_resultOf 36 = .ok (.lload_n 1, 1) := by decide +kernel
theorem dX0_resultOf_37 : decode cX0_resultOf 37 = .ok (.lload_n 3, 1) := by decide +kernel
theorem dX0_resultOf_38 : decode cX0_resultOf 38 = .ok (.ladd, 1) := by decide +kernel
theorem dX0_resultOf_39 : decode cX0_resultOf 39 = .ok (.lreturn, 1) := by decide +kernel
theorem dX0_resultOf_40 : decode cX0_resultOf 40 = .ok (.lload_n 1, 1) := by decide +kernel
theorem dX0_resultOf_41 : decode cX0_resultOf 41 = .ok (.lload_n 3, 1) := by decide +kernel
theorem dX0_resultOf_42 : decode cX0_resultOf 42 = .ok (.lsub, 1) := by decide +kernel
theorem dX0_resultOf_43 : decode cX0_resultOf 43 = .ok (.lreturn, 1) := by decide +kernel
theorem dX0_resultOf_44 : decode cX0_resultOf 44 = .ok (.lload_n 1, 1) := by decide +kernel
theorem dX0_resultOf_45 : decode cX0_resultOf 45 = .ok (.lload_n 3, 1) := by decide +kernel
theorem dX0_resultOf_46 : decode cX0_resultOf 46 = .ok (.lmul, 1) := by decide +kernel
theorem dX0_resultOf_47 : decode cX0_resultOf 47 = .ok (.lreturn, 1) := by decide +kernel
theorem dX0_resultOf_48 : decode cX0_resultOf 48 = .ok (.lload_n 3, 1) := by decide +kernel
theorem dX0_resultOf_49 : decode cX0_resultOf 49 = .ok (.lconst 0, 1) := by decide +kernel
theorem dX0_resultOf_50 : decode cX0_resultOf 50 = .ok (.lcmp, 1) := by decide +kernel
theorem dX0_resultOf_51 : decode cX0_resultOf 51 = .ok (.ifCond .ne 7, 3) := by decide +kernel
theorem dX0_resultOf_54 : decode cX0_resultOf 54 = .ok (.lconst 0, 1) := by decide +kernel
theorem dX0_resultOf_55 : decode cX0_resultOf 55 = .ok (.goto 6, 3) := by decide +kernel
theorem dX0_resultOf_58 : decode cX0_resultOf 58 = .ok (.lload_n 1, 1) := by decide +kernel
theorem dX0_resultOf_59 : decode cX0_resultOf 59 = .ok (.lload_n 3, 1) := by decide +kernel
theorem dX0_resultOf_60 : decode cX0_resultOf 60 = .ok (.ldiv, 1) := by decide +kernel
theorem dX0_resultOf_61 : decode cX0_resultOf 61 = .ok (.lreturn, 1) := by decide +kernel
theorem dX0_resultOf_62 : decode cX0_resultOf 62 = .ok (.lload_n 1, 1) := by decide +kernel
theorem dX0_resultOf_63 : decode cX0_resultOf 63 = .ok (.lload_n 3, 1) := by decide +kernel
theorem dX0_resultOf_64 : decode cX0_resultOf 64 = .ok (.invokestatic 76, 3) := by decide +kernel
theorem dX0_resultOf_67 : decode cX0_resultOf 67 = .ok (.lreturn, 1) := by decide +kernel
theorem dX0_resultOf_68 : decode cX0_resultOf 68 = .ok (.lload_n 1, 1) := by decide +kernel
theorem dX0_resultOf_69 : decode cX0_resultOf 69 = .ok (.lload_n 3, 1) := by decide +kernel
theorem dX0_resultOf_70 : decode cX0_resultOf 70 = .ok (.invokestatic 79, 3) := by decide +kernel
theorem dX0_resultOf_73 : decode cX0_resultOf 73 = .ok (.lreturn, 1) := by decide +kernel
theorem dX1_init_0 : decode cX1_init 0 = .ok (.aload_n 0, 1) := by decide +kernel
theorem dX1_init_1 : decode cX1_init 1 = .ok (.invokespecial 1, 3) := by decide +kernel
theorem dX1_init_4 : decode cX1_init 4 = .ok (.aload_n 0, 1) := by decide +kernel
theorem dX1_init_5 : decode cX1_init 5 = .ok (.iconst 0, 1) := by decide +kernel
theorem dX1_init_6 : decode cX1_init 6 = .ok (.iload_n 1, 1) := by decide +kernel
theorem dX1_init_7 : decode cX1_init 7 = .ok (.invokestatic 7, 3) := by decide +kernel
theorem dX1_init_10 : decode cX1_init 10 = .ok (.newarray .int, 2) := by decide +kernel
theorem dX1_init_12 : decode cX1_init 12 = .ok (.putfield 13, 3) := by decide +kernel
theorem dX1_init_15 : decode cX1_init 15 = .ok (.return_, 1) := by decide +kernel
theorem dX1_at_0 : decode cX1_at 0 = .ok (.iload_n 1, 1) := by decide +kernel
theorem dX1_at_1 : decode cX1_at 1 = .ok (.ifCond .lt 21, 3) := by decide +kernel
theorem dX1_at_4 : decode cX1_at 4 = .ok (.iload_n 1, 1) := by decide +kernel
theorem dX1_at_5 : decode cX1_at 5 = .ok (.aload_n 0, 1) := by decide +kernel
theorem dX1_at_6 : decode cX1_at 6 = .ok (.getfield 13, 3) := by decide +kernel
theorem dX1_at_9 : decode cX1_at 9 = .ok (.arraylength, 1) := by decide +kernel
theorem dX1_at_10 : decode cX1_at 10 = .ok (.if_icmp .ge 12, 3) := by decide +kernel
theorem dX1_at_13 : decode cX1_at 13 = .ok (.aload_n 0, 1) := by decide +kernel
theorem dX1_at_14 : decode cX1_at 14 = .ok (.getfield 13, 3) := by decide +kernel
theorem dX1_at_17 : decode cX1_at 17 = .ok (.iload_n 1, 1) := by decide +kernel
theorem dX1_at_18 : decode cX1_at 18 = .ok (.iaload, 1) := by decide +kernel
theorem dX1_at_19 : decode cX1_at 19 = .ok (.goto 4, 3) := by decide +kernel
theorem dX1_at_22 : decode cX1_at 22 = .ok (.iconst 0, 1) := by decide +kernel
theorem dX1_at_23 : decode cX1_at 23 = .ok (.ireturn, 1) := by decide +kernel
theorem dX1_put_0 : decode cX1_put 0 = .ok (.iload_n 1, 1) := by decide +kernel
theorem dX1_put_1 : decode cX1_put 1 = .ok (.ifCond .lt 19, 3) := by decide +kernel
theorem dX1_put_4 : decode cX1_put 4 = .ok (.iload_n 1, 1) := by decide +kernel
theorem dX1_put_5 : decode cX1_put 5 = .ok (.aload_n 0, 1) := by decide +kernel
theorem dX1_put_6 : decode cX1_put 6 = .ok (.getfield 13, 3) := by decide +kernel
theorem dX1_put_9 : decode cX1_put 9 = .ok (.arraylength, 1) := by decide +kernel
theorem dX1_put_10 : decode cX1_put 10 = .ok (.if_icmp .ge 10, 3) := by decide +kernel
theorem dX1_put_13 : decode cX1_put 13 = .ok (.aload_n 0, 1) := by decide +kernel
theorem dX1_put_14 : decode cX1_put 14 = .ok (.getfield 13, 3) := by decide +kernel
theorem dX1_put_17 : decode cX1_put 17 = .ok (.iload_n 1, 1) := by decide +kernel
theorem dX1_put_18 : decode cX1_put 18 = .ok (.iload_n 2, 1) := by decide +kernel
theorem dX1_put_19 : decode cX1_put 19 = .ok (.iastore, 1) := by decide +kernel
theorem dX1_put_20 : decode cX1_put 20 = .ok (.return_, 1) := by decide +kernel
theorem dX1_isSameAs_0 : decode cX1_isSameAs 0 = .ok (.aload_n 0, 1) := by decide +kernel
theorem dX1_isSameAs_1 : decode cX1_isSameAs 1 = .ok (.getfield 13, 3) := by decide +kernel
theorem dX1_isSameAs_4 : decode cX1_isSameAs 4 = .ok (.arraylength, 1) := by decide +kernel
theorem dX1_isSameAs_5 : decode cX1_isSameAs 5 = .ok (.aload_n 1, 1) := by decide +kernel
theorem dX1_isSameAs_6 : decode cX1_isSameAs 6 = .ok (.getfield 13, 3) := by decide +kernel
theorem dX1_isSameAs_9 : decode cX1_isSameAs 9 = .ok (.arraylength, 1) := by decide +kernel
theorem dX1_isSameAs_10 : decode cX1_isSameAs 10 = .ok (.if_icmp .eq 5, 3) := by decide +kernel
theorem dX1_isSameAs_13 : decode cX1_isSameAs 13 = .ok (.iconst 0, 1) := by decide +kernel
theorem dX1_isSameAs_14 : decode cX1_isSameAs 14 = .ok (.ireturn, 1) := by decide +kernel
theorem dX1_isSameAs_15 : decode cX1_isSameAs 15 = .ok (.iconst 0, 1) := by decide +kernel
theorem dX1_isSameAs_16 : decode cX1_isSameAs 16 = .ok (.istore_n 2, 1) := by decide +kernel
theorem dX1_isSameAs_17 : decode cX1_isSameAs 17 = .ok (.iload_n 2, 1) := by decide +kernel
theorem dX1_isSameAs_18 : decode cX1_isSameAs 18 = .ok (.aload_n 0, 1) := by decide +kernel
theorem dX1_isSameAs_19 : decode cX1_isSameAs 19 = .ok (.getfield 13, 3) := by decide +kernel
theorem dX1_isSameAs_22 : decode cX1_isSameAs 22 = .ok (.arraylength, 1) := by decide +kernel
theorem dX1_isSameAs_23 : decode cX1_isSameAs 23 = .ok (.if_icmp .ge 25, 3) := by decide +kernel
theorem dX1_isSameAs_26 : decode cX1_isSameAs 26 = .ok (.aload_n 0, 1) := by decide +kernel
theorem dX1_isSameAs_27 : decode cX1_isSameAs 27 = .ok (.getfield 13, 3) := by decide +kernel
theorem dX1_isSameAs_30 : decode cX1_isSameAs 30 = .ok (.iload_n 2, 1) := by decide +kernel
theorem dX1_isSameAs_31 : decode cX1_isSameAs 31 = .ok (.iaload, 1) := by decide +kernel
theorem dX1_isSameAs_32 : decode cX1_isSameAs 32 = .ok (.aload_n 1, 1) := by decide +kernel
theorem dX1_isSameAs_33 : decode cX1_isSameAs 33 = .ok (.iload_n 2, 1) := by decide +kernel
theorem dX1_isSameAs_34 : decode cX1_isSameAs 34 = .ok (.invokevirtual 19, 3) := by decide +kernel
theorem dX1_isSameAs_37 : decode cX1_isSameAs 37 = .ok (.if_icmp .eq 5, 3) := by decide +kernel
theorem dX1_isSameAs_40 : decode cX1_isSameAs 40 = .ok (.iconst 0, 1) := by decide +kernel
theorem dX1_isSameAs_41 : decode cX1_isSameAs 41 = .ok (.ireturn, 1) := by decide +kernel
theorem dX1_isSameAs_42 : decode cX1_isSameAs 42 = .ok (.iinc 2 1, 3) := by decide +kernel
theorem dX1_isSameAs_45 : decode cX1_isSameAs 45 = .ok (.goto (-28), 3) := by decide +kernel
theorem dX1_isSameAs_48 : decode cX1_isSameAs 48 = .ok (.iconst 1, 1) := by decide +kernel
theorem dX1_isSameAs_49 : decode cX1_isSameAs 49 = .ok (.ireturn, 1) := by decide +kernel
theorem dX2_init_0 : decode cX2_init 0 = .ok (.aload_n 0, 1) := by decide +kernel
theorem dX2_init_1 : decode cX2_init 1 = .ok (.invokespecial 3, 3) := by decide +kernel
theorem dX2_init_4 : decode cX2_init 4 = .ok (.aload_n 0, 1) := by decide +kernel
theorem dX2_init_5 : decode cX2_init 5 = .ok (.new 9, 3) := by decide +kernel
theorem dX2_init_8 : decode cX2_init 8 = .ok (.dup, 1) := by decide +kernel
theorem dX2_init_9 : decode cX2_init 9 = .ok (.bipush 7, 2) := by decide +kernel
theorem dX2_init_11 : decode cX2_init 11 = .ok (.invokespecial 11, 3) := by decide +kernel
theorem dX2_init_14 : decode cX2_init 14 = .ok (.putfield 14, 3) := by decide +kernel
theorem dX2_init_17 : decode cX2_init 17 = .ok (.aload_n 0, 1) := by decide +kernel
theorem dX2_init_18 : decode cX2_init 18 = .ok (.iconst 0, 1) := by decide +kernel
theorem dX2_init_19 : decode cX2_init 19 = .ok (.putfield 20, 3) := by decide +kernel
theorem dX2_init_22 : decode cX2_init 22 = .ok (.return_, 1) := by decide +kernel
theorem dX2_empty_0 : decode cX2_empty 0 = .ok (.aload_n 0, 1) := by decide +kernel
theorem dX2_empty_1 : decode cX2_empty 1 = .ok (.iconst 0, 1) := by decide +kernel
theorem dX2_empty_2 : decode cX2_empty 2 = .ok (.putfield 20, 3) := by decide +kernel
theorem dX2_empty_5 : decode cX2_empty 5 = .ok (.return_, 1) := by decide +kernel
theorem dX2_push_0 : decode cX2_push 0 = .ok (.aload_n 0, 1) := by decide +kernel
theorem dX2_push_1 : decode cX2_push 1 = .ok (.getfield 20, 3) := by decide +kernel
theorem dX2_push_4 : decode cX2_push 4 = .ok (.bipush 7, 2) := by decide +kernel
theorem dX2_push_6 : decode cX2_push 6 = .ok (.if_icmp .ge 38, 3) := by decide +kernel
theorem dX2_push_9 : decode cX2_push 9 = .ok (.aload_n 0, 1) := by decide +kernel
theorem dX2_push_10 : decode cX2_push 10 = .ok (.getfield 14, 3) := by decide +kernel
theorem dX2_push_13 : decode cX2_push 13 = .ok (.aload_n 0, 1) := by decide +kernel
theorem dX2_push_14 : decode cX2_push 14 = .ok (.getfield 20, 3) := by decide +kernel
theorem dX2_push_17 : decode cX2_push 17 = .ok (.ldc2_w 24, 3) := by decide +kernel
theorem dX2_push_20 : decode cX2_push 20 = .ok (.ldc2_w 26, 3) := by decide +kernel
theorem dX2_push_23 : decode cX2_push 23 = .ok (.lload_n 1, 1) := by decide +kernel
theorem dX2_push_24 : decode cX2_push 24 = .ok (.invokestatic 28, 3) := by decide +kernel
theorem dX2_push_27 : decode cX2_push 27 = .ok (.invokestatic 34, 3) := by decide +kernel
theorem dX2_push_30 : decode cX2_push 30 = .ok (.l2i, 1) := by decide +kernel
theorem dX2_push_31 : decode cX2_push 31 = .ok (.invokevirtual 37, 3) := by decide +kernel
theorem dX2_push_34 : decode cX2_push 34 = .ok (.aload_n 0, 1) := by decide +kernel
theorem dX2_push_35 : decode cX2_push 35 = .ok (.dup, 1) := by decide +kernel
theorem dX2_push_36 : decode cX2_push 36 = .ok (.getfield 20, 3) := by decide +kernel
theorem dX2_push_39 : decode cX2_push 39 = .ok (.iconst 1, 1) := by decide +kernel
theorem dX2_push_40 : decode cX2_push 40 = .ok (.iadd, 1) := by decide +kernel
theorem dX2_push_41 : decode cX2_push 41 = .ok (.putfield 20, 3) := by decide +kernel
theorem dX2_push_44 : decode cX2_push 44 = .ok (.return_, 1) := by decide +kernel
theorem dX2_pop_0 : decode cX2_pop 0 = .ok (.aload_n 0, 1) := by decide +kernel
theorem dX2_pop_1 : decode cX2_pop 1 = .ok (.getfield 20, 3) := by decide +kernel
theorem dX2_pop_4 : decode cX2_pop 4 = .ok (.iconst 1, 1) := by decide +kernel
theorem dX2_pop_5 : decode cX2_pop 5 = .ok (.if_icmp .ge 5, 3) := by decide +kernel
theorem dX2_pop_8 : decode cX2_pop 8 = .ok (.iconst 0, 1) := by decide +kernel
theorem dX2_pop_9 : decode cX2_pop 9 = .ok (.ireturn, 1) := by decide +kernel
theorem dX2_pop_10 : decode cX2_pop 10 = .ok (.aload_n 0, 1) := by decide +kernel
theorem dX2_pop_11 : decode cX2_pop 11 = .ok (.dup, 1) := by decide +kernel
theorem dX2_pop_12 : decode cX2_pop 12 = .ok (.getfield 20, 3) := by decide +kernel
theorem dX2_pop_15 : decode cX2_pop 15 = .ok (.iconst 1, 1) := by decide +kernel
theorem dX2_pop_16 : decode cX2_pop 16 = .ok (.isub, 1) := by decide +kernel
theorem dX2_pop_17 : decode cX2_pop 17 = .ok (.putfield 20, 3) := by decide +kernel
theorem dX2_pop_20 : decode cX2_pop 20 = .ok (.aload_n 0, 1) := by decide +kernel
theorem dX2_pop_21 : decode cX2_pop 21 = .ok (.getfield 14, 3) := by decide +kernel
theorem dX2_pop_24 : decode cX2_pop 24 = .ok (.aload_n 0, 1) := by decide +kernel
theorem dX2_pop_25 : decode cX2_pop 25 = .ok (.getfield 20, 3) := by decide +kernel
theorem dX2_pop_28 : decode cX2_pop 28 = .ok (.invokevirtual 41, 3) := by decide +kernel
theorem dX2_pop_31 : decode cX2_pop 31 = .ok (.ireturn, 1) := by decide +kernel
theorem dX3_init_0 : decode cX3_init 0 = .ok (.aload_n 0, 1) := by decide +kernel
theorem dX3_init_1 : decode cX3_init 1 = .ok (.invokespecial 3, 3) := by decide +kernel
theorem dX3_init_4 : decode cX3_init 4 = .ok (.aload_n 0, 1) := by decide +kernel
theorem dX3_init_5 : decode cX3_init 5 = .ok (.new 9, 3) := by decide +kernel
theorem dX3_init_8 : decode cX3_init 8 = .ok (.dup, 1) := by decide +kernel
theorem dX3_init_9 : decode cX3_init 9 = .ok (.bipush 100, 2) := by decide +kernel
theorem dX3_init_11 : decode cX3_init 11 = .ok (.invokespecial 11, 3) := by decide +kernel
theorem dX3_init_14 : decode cX3_init 14 = .ok (.putfield 14, 3) := by decide +kernel
theorem dX3_init_17 : decode cX3_init 17 = .ok (.aload_n 0, 1) := by decide +kernel
theorem dX3_init_18 : decode cX3_init 18 = .ok (.iconst 0, 1) := by decide +kernel
theorem dX3_init_19 : decode cX3_init 19 = .ok (.putfield 20, 3) := by decide +kernel
theorem dX3_init_22 : decode cX3_init 22 = .ok (.aload_n 0, 1) := by decide +kernel
theorem dX3_init_23 : decode cX3_init 23 = .ok (.iconst (-1), 1) := by decide +kernel
theorem dX3_init_24 : decode cX3_init 24 = .ok (.putfield 24, 3) := by decide +kernel
theorem dX3_init_27 : decode cX3_init 27 = .ok (.aload_n 0, 1) := by decide +kernel
theorem dX3_init_28 : decode cX3_init 28 = .ok (.iconst 0, 1) := by decide +kernel
theorem dX3_init_29 : decode cX3_init 29 = .ok (.putfield 27, 3) := by decide +kernel
theorem dX3_init_32 : decode cX3_init 32 = .ok (.aload_n 0, 1) := by decide +kernel
theorem dX3_init_33 : decode cX3_init 33 = .ok (.iload_n 1, 1) := by decide +kernel
theorem dX3_init_34 : decode cX3_init 34 = .ok (.putfield 31, 3) := by decide +kernel
theorem dX3_init_37 : decode cX3_init 37 = .ok (.aload_n 0, 1) := by decide +kernel
theorem dX3_init_38 : decode cX3_init 38 = .ok (.aload_n 2, 1) := by decide +kernel
theorem dX3_init_39 : decode cX3_init 39 = .ok (.putfield 34, 3) := by decide +kernel
theorem dX3_init_42 : decode cX3_init 42 = .ok (.aload_n 0, 1) := by decide +kernel
theorem dX3_init_43 : decode cX3_init 43 = .ok (.iload_n 3, 1) := by decide +kernel
theorem dX3_init_44 : decode cX3_init 44 = .ok (.putfield 38, 3) := by decide +kernel
theorem dX3_init_47 : decode cX3_init 47 = .ok (.aload_n 0, 1) := by decide +kernel
theorem dX3_init_48 : decode cX3_init 48 = .ok (.iload 4, 2) := by decide +kernel
theorem dX3_init_50 : decode cX3_init 50 = .ok (.putfield 41, 3) := by decide +kernel
theorem dX3_init_53 : decode cX3_init 53 = .ok (.return_, 1) := by decide +kernel
theorem dX3_bidFor_0 : decode cX3_bidFor 0 = .ok (.aload_n 0, 1) := by decide +kernel
theorem dX3_bidFor_1 : decode cX3_bidFor 1 = .ok (.getfield 14, 3) := by decide +kernel
theorem dX3_bidFor_4 : decode cX3_bidFor 4 = .ok (.iload_n 1, 1) := by decide +kernel
theorem dX3_bidFor_5 : decode cX3_bidFor 5 = .ok (.invokevirtual 44, 3) := by decide +kernel
theorem dX3_bidFor_8 : decode cX3_bidFor 8 = .ok (.ireturn, 1) := by decide +kernel
theorem dJ9_max_7cf53_0 : decode cJ9_max_7cf53 0 = .ok (.iload_n 0, 1) := by decide +kernel
theorem dJ9_max_7cf53_1 : decode cJ9_max_7cf53 1 = .ok (.iload_n 1, 1) := by decide +kernel
theorem dJ9_max_7cf53_2 : decode cJ9_max_7cf53 2 = .ok (.if_icmp .lt 7, 3) := by decide +kernel
theorem dJ9_max_7cf53_5 : decode cJ9_max_7cf53 5 = .ok (.iload_n 0, 1) := by decide +kernel
theorem dJ9_max_7cf53_6 : decode cJ9_max_7cf53 6 = .ok (.goto 4, 3) := by decide +kernel
theorem dJ9_max_7cf53_9 : decode cJ9_max_7cf53 9 = .ok (.iload_n 1, 1) := by decide +kernel
theorem dJ9_max_7cf53_10 : decode cJ9_max_7cf53 10 = .ok (.ireturn, 1) := by decide +kernel
theorem dJ9_max_f86c9_0 : decode cJ9_max_f86c9 0 = .ok (.lload_n 0, 1) := by decide +kernel
theorem dJ9_max_f86c9_1 : decode cJ9_max_f86c9 1 = .ok (.lload_n 2, 1) := by decide +kernel
theorem dJ9_max_f86c9_2 : decode cJ9_max_f86c9 2 = .ok (.lcmp, 1) := by decide +kernel
theorem dJ9_max_f86c9_3 : decode cJ9_max_f86c9 3 = .ok (.ifCond .lt 7, 3) := by decide +kernel
theorem dJ9_max_f86c9_6 : decode cJ9_max_f86c9 6 = .ok (.lload_n 0, 1) := by decide +kernel
theorem dJ9_max_f86c9_7 : decode cJ9_max_f86c9 7 = .ok (.goto 4, 3) := by decide +kernel
theorem dJ9_max_f86c9_10 : decode cJ9_max_f86c9 10 = .ok (.lload_n 2, 1) := by decide +kernel
theorem dJ9_max_f86c9_11 : decode cJ9_max_f86c9 11 = .ok (.lreturn, 1) := by decide +kernel
theorem dJ9_min_7cf53_0 : decode cJ9_min_7cf53 0 = .ok (.iload_n 0, 1) := by decide +kernel
theorem dJ9_min_7cf53_1 : decode cJ9_min_7cf53 1 = .ok (.iload_n 1, 1) := by decide +kernel
theorem dJ9_min_7cf53_2 : decode cJ9_min_7cf53 2 = .ok (.if_icmp .gt 7, 3) := by decide +kernel
theorem dJ9_min_7cf53_5 : decode cJ9_min_7cf53 5 = .ok (.iload_n 0, 1) := by decide +kernel
theorem dJ9_min_7cf53_6 : decode cJ9_min_7cf53 6 = .ok (.goto 4, 3) := by decide +kernel
theorem dJ9_min_7cf53_9 : decode cJ9_min_7cf53 9 = .ok (.iload_n 1, 1) := by decide +kernel
theorem dJ9_min_7cf53_10 : decode cJ9_min_7cf53 10 = .ok (.ireturn, 1) := by decide +kernel
theorem dJ9_min_f86c9_0 : decode cJ9_min_f86c9 0 = .ok (.lload_n 0, 1) := by decide +kernel
theorem dJ9_min_f86c9_1 : decode cJ9_min_f86c9 1 = .ok (.lload_n 2, 1) := by decide +kernel
theorem dJ9_min_f86c9_2 : decode cJ9_min_f86c9 2 = .ok (.lcmp, 1) := by decide +kernel
theorem dJ9_min_f86c9_3 : decode cJ9_min_f86c9 3 = .ok (.ifCond .gt 7, 3) := by decide +kernel
theorem dJ9_min_f86c9_6 : decode cJ9_min_f86c9 6 = .ok (.lload_n 0, 1) := by decide +kernel
theorem dJ9_min_f86c9_7 : decode cJ9_min_f86c9 7 = .ok (.goto 4, 3) := by decide +kernel
theorem dJ9_min_f86c9_10 : decode cJ9_min_f86c9 10 = .ok (.lload_n 2, 1) := by decide +kernel
theorem dJ9_min_f86c9_11 : decode cJ9_min_f86c9 11 = .ok (.lreturn, 1) := by decide +kernel
theorem dJxa1e45_init_da8c8_0 : decode cJxa1e45_init_da8c8 0 = .ok (.aload_n 0, 1) := by decide +kernel
theorem dJxa1e45_init_da8c8_1 : decode cJxa1e45_init_da8c8 1 = .ok (.invokespecial 1, 3) := by decide +kernel
theorem dJxa1e45_init_da8c8_4 : decode cJxa1e45_init_da8c8 4 = .ok (.return_, 1) := by decide +kernel
theorem dJxc12de_init_da8c8_0 : decode cJxc12de_init_da8c8 0 = .ok (.aload_n 0, 1) := by decide +kernel
theorem dJxc12de_init_da8c8_1 : decode cJxc12de_init_da8c8 1 = .ok (.invokespecial 1, 3) := by decide +kernel
theorem dJxc12de_init_da8c8_4 : decode cJxc12de_init_da8c8 4 = .ok (.aload_n 0, 1) := by decide +kernel
theorem dJxc12de_init_da8c8_5 : decode cJxc12de_init_da8c8 5 = .ok (.iconst 0, 1) := by decide +kernel
theorem dJxc12de_init_da8c8_6 : decode cJxc12de_init_da8c8 6 = .ok (.putfield 7, 3) := by decide +kernel
theorem dJxc12de_init_da8c8_9 : decode cJxc12de_init_da8c8 9 = .ok (.return_, 1) := by decide +kernel
theorem dJx4a65c_init_da8c8_0 : decode cJx4a65c_init_da8c8 0 = .ok (.aload_n 0, 1) := by decide +kernel
theorem dJx4a65c_init_da8c8_1 : decode cJx4a65c_init_da8c8 1 = .ok (.invokespecial 1, 3) := by decide +kernel
theorem dJx4a65c_init_da8c8_4 : decode cJx4a65c_init_da8c8 4 = .ok (.aload_n 0, 1) := by decide +kernel
theorem dJx4a65c_init_da8c8_5 : decode cJx4a65c_init_da8c8 5 = .ok (.getstatic 39, 3) := by decide +kernel
theorem dJx4a65c_init_da8c8_8 : decode cJx4a65c_init_da8c8 8 = .ok (.putfield 9, 3) := by decide +kernel
theorem dJx4a65c_init_da8c8_11 : decode cJx4a65c_init_da8c8 11 = .ok (.return_, 1) := by decide +kernel
theorem dJx4a65c_grow_92f84_0 : decode cJx4a65c_grow_92f84 0 = .ok (.aload_n 0, 1) := by decide +kernel
theorem dJx4a65c_grow_92f84_1 : decode cJx4a65c_grow_92f84 1 = .ok (.getfield 9, 3) := by decide +kernel
theorem dJx4a65c_grow_92f84_4 : decode cJx4a65c_grow_92f84 4 = .ok (.arraylength, 1) := by decide +kernel
theorem dJx4a65c_grow_92f84_5 : decode cJx4a65c_grow_92f84 5 = .ok (.istore_n 2, 1) := by decide +kernel
theorem dJx4a65c_grow_92f84_6 : decode cJx4a65c_grow_92f84 6 = .ok (.iload_n 2, 1) := by decide +kernel
theorem dJx4a65c_grow_92f84_7 : decode cJx4a65c_grow_92f84 7 = .ok (.ifCond .gt 13, 3) := by decide +kernel
theorem dJx4a65c_grow_92f84_10 : decode cJx4a65c_grow_92f84 10 = .ok (.aload_n 0, 1) := by decide +kernel
theorem dJx4a65c_grow_92f84_11 : decode cJx4a65c_grow_92f84 11 = .ok (.getfield 9, 3) := by decide +kernel
theorem dJx4a65c_grow_92f84_14 : decode cJx4a65c_grow_92f84 14 = .ok (.getstatic 39, 3) := by decide +kernel
theorem dJx4a65c_grow_92f84_17 : decode cJx4a65c_grow_92f84 17 = .ok (.if_acmp .eq 28, 3) := by decide +kernel
theorem dJx4a65c_grow_92f84_20 : decode cJx4a65c_grow_92f84 20 = .ok (.iload_n 2, 1) := by decide +kernel
theorem dJx4a65c_grow_92f84_21 : decode cJx4a65c_grow_92f84 21 = .ok (.iload_n 1, 1) := by decide +kernel
theorem dJx4a65c_grow_92f84_22 : decode cJx4a65c_grow_92f84 22 = .ok (.iload_n 2, 1) := by decide +kernel
theorem dJx4a65c_grow_92f84_23 : decode cJx4a65c_grow_92f84 23 = .ok (.isub, 1) := by decide +kernel
theorem dJx4a65c_grow_92f84_24 : decode cJx4a65c_grow_92f84 24 = .ok (.iload_n 2, 1) := by decide +kernel
theorem dJx4a65c_grow_92f84_25 : decode cJx4a65c_grow_92f84 25 = .ok (.iconst 1, 1) := by decide +kernel
theorem dJx4a65c_grow_92f84_26 : decode cJx4a65c_grow_92f84 26 = .ok (.ishr, 1) := by decide +kernel
theorem dJx4a65c_grow_92f84_27 : decode cJx4a65c_grow_92f84 27 = .ok (.invokestatic 73, 3) := by decide +kernel
theorem dJx4a65c_grow_92f84_30 : decode cJx4a65c_grow_92f84 30 = .ok (.istore_n 3, 1) := by decide +kernel
theorem dJx4a65c_grow_92f84_31 : decode cJx4a65c_grow_92f84 31 = .ok (.aload_n 0, 1) := by decide +kernel
theorem dJx4a65c_grow_92f84_32 : decode cJx4a65c_grow_92f84 32 = .ok (.aload_n 0, 1) := by decide +kernel
theorem dJx4a65c_grow_92f84_33 : decode cJx4a65c_grow_92f84 33 = .ok (.getfield 9, 3) := by decide +kernel
theorem dJx4a65c_grow_92f84_36 : decode cJx4a65c_grow_92f84 36 = .ok (.iload_n 3, 1) := by decide +kernel
theorem dJx4a65c_grow_92f84_37 : decode cJx4a65c_grow_92f84 37 = .ok (.invokestatic 66, 3) := by decide +kernel
theorem dJx4a65c_grow_92f84_40 : decode cJx4a65c_grow_92f84 40 = .ok (.dup_x1, 1) := by decide +kernel
theorem dJx4a65c_grow_92f84_41 : decode cJx4a65c_grow_92f84 41 = .ok (.putfield 9, 3) := by decide +kernel
theorem dJx4a65c_grow_92f84_44 : decode cJx4a65c_grow_92f84 44 = .ok (.areturn, 1) := by decide +kernel
theorem dJx4a65c_grow_92f84_45 : decode cJx4a65c_grow_92f84 45 = .ok (.aload_n 0, 1) := by decide +kernel
theorem dJx4a65c_grow_92f84_46 : decode cJx4a65c_grow_92f84 46 = .ok (.bipush 10, 2) := by decide +kernel
theorem dJx4a65c_grow_92f84_48 : decode cJx4a65c_grow_92f84 48 = .ok (.iload_n 1, 1) := by decide +kernel
theorem dJx4a65c_grow_92f84_49 : decode cJx4a65c_grow_92f84 49 = .ok (.invokestatic 79, 3) := by decide +kernel
theorem dJx4a65c_grow_92f84_52 : decode cJx4a65c_grow_92f84 52 = .ok (.anewarray 7, 3) := by decide +kernel
theorem dJx4a65c_grow_92f84_55 : decode cJx4a65c_grow_92f84 55 = .ok (.dup_x1, 1) := by decide +kernel
theorem dJx4a65c_grow_92f84_56 : decode cJx4a65c_grow_92f84 56 = .ok (.putfield 9, 3) := by decide +kernel
theorem dJx4a65c_grow_92f84_59 : decode cJx4a65c_grow_92f84 59 = .ok (.areturn, 1) := by decide +kernel
theorem dJx4a65c_grow_d5877_0 : decode cJx4a65c_grow_d5877 0 = .ok (.aload_n 0, 1) := by decide +kernel
theorem dJx4a65c_grow_d5877_1 : decode cJx4a65c_grow_d5877 1 = .ok (.aload_n 0, 1) := by decide +kernel
theorem dJx4a65c_grow_d5877_2 : decode cJx4a65c_grow_d5877 2 = .ok (.getfield 48, 3) := by decide +kernel
theorem dJx4a65c_grow_d5877_5 : decode cJx4a65c_grow_d5877 5 = .ok (.iconst 1, 1) := by decide +kernel
theorem dJx4a65c_grow_d5877_6 : decode cJx4a65c_grow_d5877 6 = .ok (.iadd, 1) := by decide +kernel
theorem dJx4a65c_grow_d5877_7 : decode cJx4a65c_grow_d5877 7 = .ok (.invokevirtual 69, 3) := by decide +kernel
theorem dJx4a65c_grow_d5877_10 : decode cJx4a65c_grow_d5877 10 = .ok (.areturn, 1) := by decide +kernel
theorem dJx4a65c_size_8abf5_0 : decode cJx4a65c_size_8abf5 0 = .ok (.aload_n 0, 1) := by decide +kernel
theorem dJx4a65c_size_8abf5_1 : decode cJx4a65c_size_8abf5 1 = .ok (.getfield 48, 3) := by decide +kernel
theorem dJx4a65c_size_8abf5_4 : decode cJx4a65c_size_8abf5 4 = .ok (.ireturn, 1) := by decide +kernel
theorem dJx4a65c_elementData_915e3_0 : decode cJx4a65c_elementData_915e3 0 = .ok (.aload_n 0, 1) := by decide +kernel
theorem dJx4a65c_elementData_915e3_1 : decode cJx4a65c_elementData_915e3 1 = .ok (.getfield 9, 3) := by decide +kernel
theorem dJx4a65c_elementData_915e3_4 : decode cJx4a65c_elementData_915e3 4 = .ok (.iload_n 1, 1) := by decide +kernel
theorem dJx4a65c_elementData_915e3_5 : decode cJx4a65c_elementData_915e3 5 = .ok (.aaload, 1) := by decide +kernel
theorem dJx4a65c_elementData_915e3_6 : decode cJx4a65c_elementData_915e3 6 = .ok (.areturn, 1) := by decide +kernel
theorem dJx4a65c_get_915e3_0 : decode cJx4a65c_get_915e3 0 = .ok (.iload_n 1, 1) := by decide +kernel
theorem dJx4a65c_get_915e3_1 : decode cJx4a65c_get_915e3 1 = .ok (.aload_n 0, 1) := by decide +kernel
theorem dJx4a65c_get_915e3_2 : decode cJx4a65c_get_915e3 2 = .ok (.getfield 48, 3) := by decide +kernel
theorem dJx4a65c_get_915e3_5 : decode cJx4a65c_get_915e3 5 = .ok (.invokestatic 118, 3) := by decide +kernel
theorem dJx4a65c_get_915e3_8 : decode cJx4a65c_get_915e3 8 = .ok (.pop, 1) := by decide +kernel
theorem dJx4a65c_get_915e3_9 : decode cJx4a65c_get_915e3 9 = .ok (.aload_n 0, 1) := by decide +kernel
theorem dJx4a65c_get_915e3_10 : decode cJx4a65c_get_915e3 10 = .ok (.iload_n 1, 1) := by decide +kernel
theorem dJx4a65c_get_915e3_11 : decode cJx4a65c_get_915e3 11 = .ok (.invokevirtual 123, 3) := by decide +kernel
theorem dJx4a65c_get_915e3_14 : decode cJx4a65c_get_915e3 14 = .ok (.areturn, 1) := by decide +kernel
theorem dJx4a65c_add_72be8_0 : decode cJx4a65c_add_72be8 0 = .ok (.iload_n 3, 1) := by decide +kernel
theorem dJx4a65c_add_72be8_1 : decode cJx4a65c_add_72be8 1 = .ok (.aload_n 2, 1) := by decide +kernel
theorem dJx4a65c_add_72be8_2 : decode cJx4a65c_add_72be8 2 = .ok (.arraylength, 1) := by decide +kernel
theorem dJx4a65c_add_72be8_3 : decode cJx4a65c_add_72be8 3 = .ok (.if_icmp .ne 8, 3) := by decide +kernel
theorem dJx4a65c_add_72be8_6 : decode cJx4a65c_add_72be8 6 = .ok (.aload_n 0, 1) := by decide +kernel
theorem dJx4a65c_add_72be8_7 : decode cJx4a65c_add_72be8 7 = .ok (.invokevirtual 129, 3) := by decide +kernel
theorem dJx4a65c_add_72be8_10 : decode cJx4a65c_add_72be8 10 = .ok (.astore_n 2, 1) := by decide +kernel
theorem dJx4a65c_add_72be8_11 : decode cJx4a65c_add_72be8 11 = .ok (.aload_n 2, 1) := by decide +kernel
theorem dJx4a65c_add_72be8_12 : decode cJx4a65c_add_72be8 12 = .ok (.iload_n 3, 1) := by decide +kernel
theorem dJx4a65c_add_72be8_13 : decode cJx4a65c_add_72be8 13 = .ok (.aload_n 1, 1) := by decide +kernel
theorem dJx4a65c_add_72be8_14 : decode cJx4a65c_add_72be8 14 = .ok (.aastore, 1) := by decide +kernel
theorem dJx4a65c_add_72be8_15 : decode cJx4a65c_add_72be8 15 = .ok (.aload_n 0, 1) := by decide +kernel
theorem dJx4a65c_add_72be8_16 : decode cJx4a65c_add_72be8 16 = .ok (.iload_n 3, 1) := by decide +kernel
theorem dJx4a65c_add_72be8_17 : decode cJx4a65c_add_72be8 17 = .ok (.iconst 1, 1) := by decide +kernel
theorem dJx4a65c_add_72be8_18 : decode cJx4a65c_add_72be8 18 = .ok (.iadd, 1) := by decide +kernel
theorem dJx4a65c_add_72be8_19 : decode cJx4a65c_add_72be8 19 = .ok (.putfield 48, 3) := by decide +kernel
theorem dJx4a65c_add_72be8_22 : decode cJx4a65c_add_72be8 22 = .ok (.return_, 1) := by decide +kernel
theorem dJx4a65c_add_9ea2d_0 : decode cJx4a65c_add_9ea2d 0 = .ok (.aload_n 0, 1) := by decide +kernel
theorem dJx4a65c_add_9ea2d_1 : decode cJx4a65c_add_9ea2d 1 = .ok (.dup, 1) := by decide +kernel
theorem dJx4a65c_add_9ea2d_2 : decode cJx4a65c_add_9ea2d 2 = .ok (.getfield 63, 3) := by decide +kernel
theorem dJx4a65c_add_9ea2d_5 : decode cJx4a65c_add_9ea2d 5 = .ok (.iconst 1, 1) := by decide +kernel
theorem dJx4a65c_add_9ea2d_6 : decode cJx4a65c_add_9ea2d 6 = .ok (.iadd, 1) := by decide +kernel
theorem dJx4a65c_add_9ea2d_7 : decode cJx4a65c_add_9ea2d 7 = .ok (.putfield 63, 3) := by decide +kernel
theorem dJx4a65c_add_9ea2d_10 : decode cJx4a65c_add_9ea2d 10 = .ok (.aload_n 0, 1) := by decide +kernel
theorem dJx4a65c_add_9ea2d_11 : decode cJx4a65c_add_9ea2d 11 = .ok (.aload_n 1, 1) := by decide +kernel
theorem dJx4a65c_add_9ea2d_12 : decode cJx4a65c_add_9ea2d 12 = .ok (.aload_n 0, 1) := by decide +kernel
theorem dJx4a65c_add_9ea2d_13 : decode cJx4a65c_add_9ea2d 13 = .ok (.getfield 9, 3) := by decide +kernel
theorem dJx4a65c_add_9ea2d_16 : decode cJx4a65c_add_9ea2d 16 = .ok (.aload_n 0, 1) := by decide +kernel
theorem dJx4a65c_add_9ea2d_17 : decode cJx4a65c_add_9ea2d 17 = .ok (.getfield 48, 3) := by decide +kernel
theorem dJx4a65c_add_9ea2d_20 : decode cJx4a65c_add_9ea2d 20 = .ok (.invokevirtual 131, 3) := by decide +kernel
theorem dJx4a65c_add_9ea2d_23 : decode cJx4a65c_add_9ea2d 23 = .ok (.iconst 1, 1) := by decide +kernel
theorem dJx4a65c_add_9ea2d_24 : decode cJx4a65c_add_9ea2d 24 = .ok (.ireturn, 1) := by decide +kernel
theorem dJ7_copyOf_1904c_0 : decode cJ7_copyOf_1904c 0 = .ok (.aload_n 0, 1) := by decide +kernel
theorem dJ7_copyOf_1904c_1 : decode cJ7_copyOf_1904c 1 = .ok (.iload_n 1, 1) := by decide +kernel
theorem dJ7_copyOf_1904c_2 : decode cJ7_copyOf_1904c 2 = .ok (.aload_n 0, 1) := by decide +kernel
theorem dJ7_copyOf_1904c_3 : decode cJ7_copyOf_1904c 3 = .ok (.invokevirtual 86, 3) := by decide +kernel
theorem dJ7_copyOf_1904c_6 : decode cJ7_copyOf_1904c 6 = .ok (.invokestatic 300, 3) := by decide +kernel
theorem dJ7_copyOf_1904c_9 : decode cJ7_copyOf_1904c 9 = .ok (.areturn, 1) := by decide +kernel
theorem dJ7_copyOf_6403c_0 : decode cJ7_copyOf_6403c 0 = .ok (.aload_n 2, 1) := by decide +kernel
theorem dJ7_copyOf_6403c_1 : decode cJ7_copyOf_6403c 1 = .ok (.ldc 110, 2) := by decide +kernel
theorem dJ7_copyOf_6403c_3 : decode cJ7_copyOf_6403c 3 = .ok (.if_acmp .ne 10, 3) := by decide +kernel
theorem dJ7_copyOf_6403c_6 : decode cJ7_copyOf_6403c 6 = .ok (.iload_n 1, 1) := by decide +kernel
theorem dJ7_copyOf_6403c_7 : decode cJ7_copyOf_6403c 7 = .ok (.anewarray 2, 3) := by decide +kernel
theorem dJ7_copyOf_6403c_10 : decode cJ7_copyOf_6403c 10 = .ok (.goto 14, 3) := by decide +kernel
theorem dJ7_copyOf_6403c_13 : decode cJ7_copyOf_6403c 13 = .ok (.aload_n 2, 1) := by decide +kernel
theorem dJ7_copyOf_6403c_14 : decode cJ7_copyOf_6403c 14 = .ok (.invokevirtual 90, 3) := by decide +kernel
theorem dJ7_copyOf_6403c_17 : decode cJ7_copyOf_6403c 17 = .ok (.iload_n 1, 1) := by decide +kernel
theorem dJ7_copyOf_6403c_18 : decode cJ7_copyOf_6403c 18 = .ok (.invokestatic 95, 3) := by decide +kernel
theorem dJ7_copyOf_6403c_21 : decode cJ7_copyOf_6403c 21 = .ok (.checkcast 110, 3) := by decide +kernel
theorem dJ7_copyOf_6403c_24 : decode cJ7_copyOf_6403c 24 = .ok (.astore_n 3, 1) := by decide +kernel
theorem dJ7_copyOf_6403c_25 : decode cJ7_copyOf_6403c 25 = .ok (.aload_n 0, 1) := by decide +kernel
theorem dJ7_copyOf_6403c_26 : decode cJ7_copyOf_6403c 26 = .ok (.iconst 0, 1) := by decide +kernel
theorem dJ7_copyOf_6403c_27 : decode cJ7_copyOf_6403c 27 = .ok (.aload_n 3, 1) := by decide +kernel
theorem dJ7_copyOf_6403c_28 : decode cJ7_copyOf_6403c 28 = .ok (.iconst 0, 1) := by decide +kernel
theorem dJ7_copyOf_6403c_29 : decode cJ7_copyOf_6403c 29 = .ok (.aload_n 0, 1) := by decide +kernel
theorem dJ7_copyOf_6403c_30 : decode cJ7_copyOf_6403c 30 = .ok (.arraylength, 1) := by decide +kernel
theorem dJ7_copyOf_6403c_31 : decode cJ7_copyOf_6403c 31 = .ok (.iload_n 1, 1) := by decide +kernel
theorem dJ7_copyOf_6403c_32 : decode cJ7_copyOf_6403c 32 = .ok (.invokestatic 304, 3) := by decide +kernel
theorem dJ7_copyOf_6403c_35 : decode cJ7_copyOf_6403c 35 = .ok (.invokestatic 150, 3) := by decide +kernel
theorem dJ7_copyOf_6403c_38 : decode cJ7_copyOf_6403c 38 = .ok (.aload_n 3, 1) := by decide +kernel
theorem dJ7_copyOf_6403c_39 : decode cJ7_copyOf_6403c 39 = .ok (.areturn, 1) := by decide +kernel
theorem dJ15_checkIndex_7cf53_0 : decode cJ15_checkIndex_7cf53 0 = .ok (.iload_n 0, 1) := by decide +kernel
theorem dJ15_checkIndex_7cf53_1 : decode cJ15_checkIndex_7cf53 1 = .ok (.iload_n 1, 1) := by decide +kernel
theorem dJ15_checkIndex_7cf53_2 : decode cJ15_checkIndex_7cf53 2 = .ok (.aconst_null, 1) := by decide +kernel
theorem dJ15_checkIndex_7cf53_3 : decode cJ15_checkIndex_7cf53 3 = .ok (.invokestatic 105, 3) := by decide +kernel
theorem dJ15_checkIndex_7cf53_6 : decode cJ15_checkIndex_7cf53 6 = .ok (.ireturn, 1) := by decide +kernel
theorem dJ8_newLength_cabcc_0 : decode cJ8_newLength_cabcc 0 = .ok (.iload_n 0, 1) := by decide +kernel
theorem dJ8_newLength_cabcc_1 : decode cJ8_newLength_cabcc 1 = .ok (.iload_n 1, 1) := by decide +kernel
theorem dJ8_newLength_cabcc_2 : decode cJ8_newLength_cabcc 2 = .ok (.iload_n 2, 1) := by decide +kernel
theorem dJ8_newLength_cabcc_3 : decode cJ8_newLength_cabcc 3 = .ok (.invokestatic 194, 3) := by decide +kernel
theorem dJ8_newLength_cabcc_6 : decode cJ8_newLength_cabcc 6 = .ok (.iadd, 1) := by decide +kernel
theorem dJ8_newLength_cabcc_7 : decode cJ8_newLength_cabcc 7 = .ok (.istore_n 3, 1) := by decide +kernel
theorem dJ8_newLength_cabcc_8 : decode cJ8_newLength_cabcc 8 = .ok (.iconst 0, 1) := by decide +kernel
theorem dJ8_newLength_cabcc_9 : decode cJ8_newLength_cabcc 9 = .ok (.iload_n 3, 1) := by decide +kernel
theorem dJ8_newLength_cabcc_10 : decode cJ8_newLength_cabcc 10 = .ok (.if_icmp .ge 11, 3) := by decide +kernel
theorem dJ8_newLength_cabcc_13 : decode cJ8_newLength_cabcc 13 = .ok (.iload_n 3, 1) := by decide +kernel
theorem dJ8_newLength_cabcc_14 : decode cJ8_newLength_cabcc 14 = .ok (.ldc 200, 2) := by decide +kernel
theorem dJ8_newLength_cabcc_16 : decode cJ8_newLength_cabcc 16 = .ok (.if_icmp .gt 5, 3) := by decide +kernel
theorem dJ8_newLength_cabcc_19 : decode cJ8_newLength_cabcc 19 = .ok (.iload_n 3, 1) := by decide +kernel
theorem dJ8_newLength_cabcc_20 : decode cJ8_newLength_cabcc 20 = .ok (.ireturn, 1) := by decide +kernel
theorem dJ8_newLength_cabcc_21 : decode cJ8_newLength_cabcc 21 = .ok (.iload_n 0, 1) := by decide +kernel
theorem dJ8_newLength_cabcc_22 : decode cJ8_newLength_cabcc 22 = .ok (.iload_n 1, 1) := by decide +kernel
theorem dJ8_newLength_cabcc_23 : decode cJ8_newLength_cabcc 23 = .ok (.invokestatic 201, 3) := by decide +kernel
theorem dJ8_newLength_cabcc_26 : decode cJ8_newLength_cabcc 26 = .ok (.ireturn, 1) := by decide +kernel
theorem dJ8_hugeLength_7cf53_0 : decode cJ8_hugeLength_7cf53 0 = .ok (.iload_n 0, 1) := by decide +kernel
theorem dJ8_hugeLength_7cf53_1 : decode cJ8_hugeLength_7cf53 1 = .ok (.iload_n 1, 1) := by decide +kernel
theorem dJ8_hugeLength_7cf53_2 : decode cJ8_hugeLength_7cf53 2 = .ok (.iadd, 1) := by decide +kernel
theorem dJ8_hugeLength_7cf53_3 : decode cJ8_hugeLength_7cf53 3 = .ok (.istore_n 2, 1) := by decide +kernel
theorem dJ8_hugeLength_7cf53_4 : decode cJ8_hugeLength_7cf53 4 = .ok (.iload_n 2, 1) := by decide +kernel
theorem dJ8_hugeLength_7cf53_5 : decode cJ8_hugeLength_7cf53 5 = .ok (.ifCond .ge 44, 3) := by decide +kernel
theorem dJ8_hugeLength_7cf53_8 : decode cJ8_hugeLength_7cf53 8 = .ok (.new 204, 3) := by decide +kernel
theorem dJ8_hugeLength_7cf53_11 : decode cJ8_hugeLength_7cf53 11 = .ok (.dup, 1) := by decide +kernel
theorem dJ8_hugeLength_7cf53_12 : decode cJ8_hugeLength_7cf53 12 = .ok (.new 89, 3) := by decide +kernel
theorem dJ8_hugeLength_7cf53_15 : decode cJ8_hugeLength_7cf53 15 = .ok (.dup, 1) := by decide +kernel
theorem dJ8_hugeLength_7cf53_16 : decode cJ8_hugeLength_7cf53 16 = .ok (.invokespecial 91, 3) := by decide +kernel
theorem dJ8_hugeLength_7cf53_19 : decode cJ8_hugeLength_7cf53 19 = .ok (.ldc 206, 2) := by decide +kernel
theorem dJ8_hugeLength_7cf53_21 : decode cJ8_hugeLength_7cf53 21 = .ok (.invokevirtual 94, 3) := by decide +kernel
theorem dJ8_hugeLength_7cf53_24 : decode cJ8_hugeLength_7cf53 24 = .ok (.iload_n 0, 1) := by decide +kernel
theorem dJ8_hugeLength_7cf53_25 : decode cJ8_hugeLength_7cf53 25 = .ok (.invokevirtual 98, 3) := by decide +kernel
theorem dJ8_hugeLength_7cf53_28 : decode cJ8_hugeLength_7cf53 28 = .ok (.ldc 208, 2) := by decide +kernel
theorem dJ8_hugeLength_7cf53_30 : decode cJ8_hugeLength_7cf53 30 = .ok (.invokevirtual 94, 3) := by decide +kernel
theorem dJ8_hugeLength_7cf53_33 : decode cJ8_hugeLength_7cf53 33 = .ok (.iload_n 1, 1) := by decide +kernel
theorem dJ8_hugeLength_7cf53_34 : decode cJ8_hugeLength_7cf53 34 = .ok (.invokevirtual 98, 3) := by decide +kernel
theorem dJ8_hugeLength_7cf53_37 : decode cJ8_hugeLength_7cf53 37 = .ok (.ldc 210, 2) := by decide +kernel
theorem dJ8_hugeLength_7cf53_39 : decode cJ8_hugeLength_7cf53 39 = .ok (.invokevirtual 94, 3) := by decide +kernel
theorem dJ8_hugeLength_7cf53_42 : decode cJ8_hugeLength_7cf53 42 = .ok (.invokevirtual 101, 3) := by decide +kernel
theorem dJ8_hugeLength_7cf53_45 : decode cJ8_hugeLength_7cf53 45 = .ok (.invokespecial 212, 3) := by decide +kernel
theorem dJ8_hugeLength_7cf53_48 : decode cJ8_hugeLength_7cf53 48 = .ok (.athrow, 1) := by decide +kernel
theorem dJ8_hugeLength_7cf53_49 : decode cJ8_hugeLength_7cf53 49 = .ok (.iload_n 2, 1) := by decide +kernel
theorem dJ8_hugeLength_7cf53_50 : decode cJ8_hugeLength_7cf53 50 = .ok (.ldc 200, 2) := by decide +kernel
theorem dJ8_hugeLength_7cf53_52 : decode cJ8_hugeLength_7cf53 52 = .ok (.if_icmp .gt 6, 3) := by decide +kernel
theorem dJ8_hugeLength_7cf53_55 : decode cJ8_hugeLength_7cf53 55 = .ok (.ldc 200, 2) := by decide +kernel
theorem dJ8_hugeLength_7cf53_57 : decode cJ8_hugeLength_7cf53 57 = .ok (.ireturn, 1) := by decide +kernel
theorem dJ8_hugeLength_7cf53_58 : decode cJ8_hugeLength_7cf53 58 = .ok (.iload_n 2, 1) := by decide +kernel
theorem dJ8_hugeLength_7cf53_59 : decode cJ8_hugeLength_7cf53 59 = .ok (.ireturn, 1) := by decide +kernel
theorem dJ3_checkIndex_8e157_0 : decode cJ3_checkIndex_8e157 0 = .ok (.iload_n 0, 1) := by decide +kernel
theorem dJ3_checkIndex_8e157_1 : decode cJ3_checkIndex_8e157 1 = .ok (.ifCond .lt 8, 3) := by decide +kernel
theorem dJ3_checkIndex_8e157_4 : decode cJ3_checkIndex_8e157 4 = .ok (.iload_n 0, 1) := by decide +kernel
theorem dJ3_checkIndex_8e157_5 : decode cJ3_checkIndex_8e157 5 = .ok (.iload_n 1, 1) := by decide +kernel
theorem dJ3_checkIndex_8e157_6 : decode cJ3_checkIndex_8e157 6 = .ok (.if_icmp .lt 10, 3) := by decide +kernel
theorem dJ3_checkIndex_8e157_9 : decode cJ3_checkIndex_8e157 9 = .ok (.aload_n 2, 1) := by decide +kernel
theorem dJ3_checkIndex_8e157_10 : decode cJ3_checkIndex_8e157 10 = .ok (.iload_n 0, 1) := by decide +kernel
theorem dJ3_checkIndex_8e157_11 : decode cJ3_checkIndex_8e157 11 = .ok (.iload_n 1, 1) := by decide +kernel
theorem dJ3_checkIndex_8e157_12 : decode cJ3_checkIndex_8e157 12 = .ok (.invokestatic 95, 3) := by decide +kernel
theorem dJ3_checkIndex_8e157_15 : decode cJ3_checkIndex_8e157 15 = .ok (.athrow, 1) := by decide +kernel
theorem dJ3_checkIndex_8e157_16 : decode cJ3_checkIndex_8e157 16 = .ok (.iload_n 0, 1) := by decide +kernel
theorem dJ3_checkIndex_8e157_17 : decode cJ3_checkIndex_8e157 17 = .ok (.ireturn, 1) := by decide +kernel
end
section
set_option maxRecDepth 20000 in
theorem ggX0_init_X1_init : GoodIn wsX0_init wsX1_init := goodIn_r _ [12, 13, 2, 3, 14, 15, 16, 17, 18, 19, 20] (by decide +kernel) (by decide +kernel)
set_option maxRecDepth 20000 in
theorem gX0_init_X1_init : GoodIn wsX0_init (wsX1_init) := ggX0_init_X1_init
set_option maxRecDepth 20000 in
theorem ggX0_add_X1_put : GoodIn wsX0_add wsX1_put := goodIn_r _ [8, 9, 16] (by decide +kernel) (by decide +kernel)
set_option maxRecDepth 20000 in
theorem gX0_add_X1_put : GoodIn wsX0_add (wsV RX0 27 RX1 yX1_put wsX1_put) := goodIn_app (goodIn_of _ (by decide +kernel)) ggX0_add_X1_put
set_option maxRecDepth 20000 in
theorem ggX0_add_X4_bitOf : GoodIn wsX0_add wsX4_bitOf := goodIn_r _ [12] (by decide +kernel) (by decide +kernel)
set_option maxRecDepth 20000 in
theorem gX0_add_X4_bitOf_n31 : GoodIn wsX0_add (wsX4_bitOf) := ggX0_add_X4_bitOf
set_option maxRecDepth 20000 in
theorem ggX0_addPart_X1_at : GoodIn wsX0_addPart wsX1_at := goodIn_r _ [6, 7, 25] (by decide +kernel) (by decide +kernel)
set_option maxRecDepth 20000 in
theorem gX0_addPart_X1_at : GoodIn wsX0_addPart (wsV RX0 35 RX1 yX1_at wsX1_at) := goodIn_app (goodIn_of _ (by decide +kernel)) ggX0_addPart_X1_at
set_option maxRecDepth 20000 in
theorem ggX0_addPart_X0_add : GoodIn wsX0_addPart wsX0_add := goodIn_r _ [12, 13, 1, 14, 15, 16, 17, 5, 18, 7, 19, 20, 21, 22, 23, 24, 25] (by decide +kernel) (by decide +kernel)
set_option maxRecDepth 20000 in
theorem gX0_addPart_X0_add : GoodIn wsX0_addPart (wsV RX0 38 RX0 yX0_add wsX0_add) := goodIn_app (goodIn_of _ (by decide +kernel)) ggX0_addPart_X0_add
set_option maxRecDepth 20000 in
theorem ggX0_copy_X0_init : GoodIn wsX0_copy wsX0_init := goodIn_r _ [7, 8, 9, 10, 11, 12, 13, 14, 4, 15, 16, 17, 18, 19, 20, 21, 22, 23, 24, 25, 48, 45, 46, 47] (by decide +kernel) (by decide +kernel)
set_option maxRecDepth 20000 in
theorem gX0_copy_X0_init : GoodIn wsX0_copy (wsX0_init) := ggX0_copy_X0_init
set_option maxRecDepth 20000 in
theorem ggX0_copy_X0_addPart : GoodIn wsX0_copy wsX0_addPart := goodIn_r _ [29, 14, 30, 31, 32, 13, 33, 25, 34, 35, 36, 3, 37, 4, 15, 38, 39, 40, 41, 42, 43, 44, 45, 46, 47, 48] (by decide +kernel) (by decide +kernel)
set_option maxRecDepth 20000 in
theorem gX0_copy_X0_addPart : GoodIn wsX0_copy (wsV RX0 42 RX0 yX0_addPart wsX0_addPart) := goodIn_app (goodIn_of _ (by decide +kernel)) ggX0_copy_X0_addPart
set_option maxRecDepth 20000 in
theorem ggX0_isSameAs_X1_at : GoodIn wsX0_isSameAs wsX1_at := goodIn_r _ [7, 8, 12] (by decide +kernel) (by decide +kernel)
set_option maxRecDepth 20000 in
theorem gX0_isSameAs_X1_at : GoodIn wsX0_isSameAs (wsV RX0 35 RX1 yX1_at wsX1_at) := goodIn_app (goodIn_of _ (by decide +kernel)) ggX0_isSameAs_X1_at
set_option maxRecDepth 20000 in
theorem ggX0_isRight_X1_at : GoodIn wsX0_isRight wsX1_at := goodIn_r _ [7, 8, 12] (by decide +kernel) (by decide +kernel)
set_option maxRecDepth 20000 in
theorem gX0_isRight_X1_at : GoodIn wsX0_isRight (wsV RX0 35 RX1 yX1_at wsX1_at) := goodIn_app (goodIn_of _ (by decide +kernel)) ggX0_isRight_X1_at
set_option maxRecDepth 20000 in
theorem ggX0_bidFor_X2_empty : GoodIn wsX0_bidFor wsX2_empty := goodIn_r _ [14, 15, 56, 57] (by decide +kernel) (by decide +kernel)
set_option maxRecDepth 20000 in
theorem gX0_bidFor_X2_empty : GoodIn wsX0_bidFor (wsV RX0 46 RX2 yX2_empty wsX2_empty) := goodIn_app (goodIn_of _ (by decide +kernel)) ggX0_bidFor_X2_empty
set_option maxRecDepth 20000 in
theorem ggX0_bidFor_X1_at : GoodIn wsX0_bidFor wsX1_at := goodIn_r _ [20, 21, 58] (by decide +kernel) (by decide +kernel)
set_option maxRecDepth 20000 in
theorem gX0_bidFor_X1_at : GoodIn wsX0_bidFor (wsV RX0 35 RX1 yX1_at wsX1_at) := goodIn_app (goodIn_of _ (by decide +kernel)) ggX0_bidFor_X1_at
set_option maxRecDepth 20000 in
theorem ggX0_bidFor_X0_perform : GoodIn wsX0_bidFor wsX0_perform := goodIn_r _ [25, 26, 27, 28, 13, 29, 15, 30, 31, 32, 33, 34, 5, 35, 36, 37, 38, 39, 40, 41, 19, 42, 21, 43, 44, 45, 46, 47, 17, 18, 20, 48, 49, 24, 50, 51, 52, 56, 57, 58] (by decide +kernel) (by decide +kernel)
set_option maxRecDepth 20000 in
theorem gX0_bidFor_X0_perform : GoodIn wsX0_bidFor (va_wsS RX0 51 yX0_perform wsX0_perform) := goodIn_app (goodIn_of _ (by decide +kernel)) ggX0_bidFor_X0_perform
set_option maxRecDepth 20000 in
theorem ggX0_bidFor_X2_pop : GoodIn wsX0_bidFor wsX2_pop := goodIn_r _ [46, 15, 30, 47, 17, 18, 19, 20, 21, 56, 57, 58] (by decide +kernel) (by decide +kernel)
set_option maxRecDepth 20000 in
theorem gX0_bidFor_X2_pop : GoodIn wsX0_bidFor (wsV RX0 55 RX2 yX2_pop wsX2_pop) := goodIn_app (goodIn_of _ (by decide +kernel)) ggX0_bidFor_X2_pop
set_option maxRecDepth 20000 in
theorem ggX0_perform_X2_push : GoodIn wsX0_perform wsX2_push := goodIn_r _ [5, 6, 7, 8, 9, 10, 11, 12, 13, 14, 15, 16, 17, 18, 19, 20, 21, 22, 37, 38, 39] (by decide +kernel) (by decide +kernel)
set_option maxRecDepth 20000 in
theorem gX0_perform_X2_push : GoodIn wsX0_perform (wsV RX0 68 RX2 yX2_push wsX2_push) := goodIn_app (goodIn_of _ (by decide +kernel)) ggX0_perform_X2_push
set_option maxRecDepth 20000 in
theorem ggX0_perform_X2_pop : GoodIn wsX0_perform wsX2_pop := goodIn_r _ [26, 6, 7, 27, 28, 29, 20, 30, 22, 37, 38, 39] (by decide +kernel) (by decide +kernel)
set_option maxRecDepth 20000 in
theorem gX0_perform_X2_pop : GoodIn wsX0_perform (wsV RX0 55 RX2 yX2_pop wsX2_pop) := goodIn_app (goodIn_of _ (by decide +kernel)) ggX0_perform_X2_pop
set_option maxRecDepth 20000 in
theorem ggX0_perform_X0_resultOf : GoodIn wsX0_perform wsX0_resultOf := goodIn_r _ [34, 35, 11, 12, 13, 36, 15, 16] (by decide +kernel) (by decide +kernel)
set_option maxRecDepth 20000 in
theorem gX0_perform_X0_resultOf : GoodIn wsX0_perform (va_wsS RX0 72 yX0_resultOf wsX0_resultOf) := goodIn_app (goodIn_of _ (by decide +kernel)) ggX0_perform_X0_resultOf
set_option maxRecDepth 20000 in
theorem ggX1_isSameAs_X1_at : GoodIn wsX1_isSameAs wsX1_at := goodIn_r _ [6, 1, 7] (by decide +kernel) (by decide +kernel)
set_option maxRecDepth 20000 in
theorem gX1_isSameAs_X1_at : GoodIn wsX1_isSameAs (wsV RX1 19 RX1 yX1_at wsX1_at) := goodIn_app (goodIn_of _ (by decide +kernel)) ggX1_isSameAs_X1_at
set_option maxRecDepth 20000 in
theorem ggX2_init_X1_init : GoodIn wsX2_init wsX1_init := goodIn_r _ [11, 12, 2, 3, 13, 14, 15, 16, 17, 18, 19] (by decide +kernel) (by decide +kernel)
set_option maxRecDepth 20000 in
theorem gX2_init_X1_init : GoodIn wsX2_init (wsX1_init) := ggX2_init_X1_init
set_option maxRecDepth 20000 in
theorem ggX2_push_X1_put : GoodIn wsX2_push wsX1_put := goodIn_r _ [16, 17, 20] (by decide +kernel) (by decide +kernel)
set_option maxRecDepth 20000 in
theorem gX2_push_X1_put : GoodIn wsX2_push (wsV RX2 37 RX1 yX1_put wsX1_put) := goodIn_app (goodIn_of _ (by decide +kernel)) ggX2_push_X1_put
set_option maxRecDepth 20000 in
theorem ggX2_pop_X1_at : GoodIn wsX2_pop wsX1_at := goodIn_r _ [7, 8, 11] (by decide +kernel) (by decide +kernel)
set_option maxRecDepth 20000 in
theorem gX2_pop_X1_at : GoodIn wsX2_pop (wsV RX2 41 RX1 yX1_at wsX1_at) := goodIn_app (goodIn_of _ (by decide +kernel)) ggX2_pop_X1_at
set_option maxRecDepth 20000 in
theorem ggX3_init_X1_init : GoodIn wsX3_init wsX1_init := goodIn_r _ [17, 18, 2, 3, 19, 20, 21, 22, 23, 24, 25] (by decide +kernel) (by decide +kernel)
set_option maxRecDepth 20000 in
theorem gX3_init_X1_init : GoodIn wsX3_init (wsX1_init) := ggX3_init_X1_init
set_option maxRecDepth 20000 in
theorem ggX3_bidFor_X1_at : GoodIn wsX3_bidFor wsX1_at := goodIn_r _ [6, 7, 16] (by decide +kernel) (by decide +kernel)
set_option maxRecDepth 20000 in
theorem gX3_bidFor_X1_at : GoodIn wsX3_bidFor (wsV RX3 44 RX1 yX1_at wsX1_at) := goodIn_app (goodIn_of _ (by decide +kernel)) ggX3_bidFor_X1_at
set_option maxRecDepth 20000 in
theorem ggJxc12de_init_da8c8_Jxa1e45_init_da8c8 : GoodIn wsJxc12de_init_da8c8 wsJxa1e45_init_da8c8 := goodIn_r _ [5, 6, 7, 8] (by decide +kernel) (by decide +kernel)
set_option maxRecDepth 20000 in
theorem gJxc12de_init_da8c8_Jxa1e45_init_da8c8 : GoodIn wsJxc12de_init_da8c8 (wsJxa1e45_init_da8c8) := ggJxc12de_init_da8c8_Jxa1e45_init_da8c8
set_option maxRecDepth 20000 in
theorem ggJx4a65c_init_da8c8_Jxc12de_init_da8c8 : GoodIn wsJx4a65c_init_da8c8 wsJxc12de_init_da8c8 := goodIn_r _ [6, 7, 8, 9, 10, 11, 12, 13, 14, 15, 16, 17] (by decide +kernel) (by decide +kernel)
set_option maxRecDepth 20000 in
theorem gJx4a65c_init_da8c8_Jxc12de_init_da8c8 : GoodIn wsJx4a65c_init_da8c8 (wsJxc12de_init_da8c8) := ggJx4a65c_init_da8c8_Jxc12de_init_da8c8
set_option maxRecDepth 20000 in
theorem ggJx4a65c_grow_92f84_J8_newLength_cabcc : GoodIn wsJx4a65c_grow_92f84 wsJ8_newLength_cabcc := goodIn_r _ [11, 12, 4, 5, 6, 13, 14, 15, 10, 16] (by decide +kernel) (by decide +kernel)
set_option maxRecDepth 20000 in
theorem gJx4a65c_grow_92f84_J8_newLength_cabcc : GoodIn wsJx4a65c_grow_92f84 (va_wsS RJx4a65c 73 yJ8_newLength_cabcc wsJ8_newLength_cabcc) := goodIn_app (goodIn_of _ (by decide +kernel)) ggJx4a65c_grow_92f84_J8_newLength_cabcc
set_option maxRecDepth 20000 in
theorem ggJx4a65c_grow_92f84_J7_copyOf_1904c : GoodIn wsJx4a65c_grow_92f84 wsJ7_copyOf_1904c := goodIn_r _ [20, 21, 22, 23, 24, 25, 26, 19, 27, 28, 29, 30, 31, 5, 32, 33, 34, 35, 36] (by decide +kernel) (by decide +kernel)
set_option maxRecDepth 20000 in
theorem gJx4a65c_grow_92f84_J7_copyOf_1904c : GoodIn wsJx4a65c_grow_92f84 (va_wsS RJx4a65c 66 yJ7_copyOf_1904c wsJ7_copyOf_1904c) := goodIn_app (goodIn_of _ (by decide +kernel)) ggJx4a65c_grow_92f84_J7_copyOf_1904c
set_option maxRecDepth 20000 in
theorem ggJx4a65c_grow_d5877_Jx4a65c_grow_92f84 : GoodIn wsJx4a65c_grow_d5877 wsJx4a65c_grow_92f84 := goodIn_r _ [6, 7, 8, 9, 10, 11, 12, 13, 14, 15, 16, 17, 18, 19, 20, 21, 22, 23, 24, 25, 26, 27, 28, 29, 30, 31, 32, 33, 34, 35, 36, 37, 38, 39, 40, 41, 42, 43, 44, 45] (by decide +kernel) (by decide +kernel)
set_option maxRecDepth 20000 in
theorem gJx4a65c_grow_d5877_Jx4a65c_grow_92f84 : GoodIn wsJx4a65c_grow_d5877 (wsV RJx4a65c 69 RJx4a65c yJx4a65c_grow_92f84 wsJx4a65c_grow_92f84) := goodIn_app (goodIn_of _ (by decide +kernel)) ggJx4a65c_grow_d5877_Jx4a65c_grow_92f84
set_option maxRecDepth 20000 in
theorem ggJx4a65c_get_915e3_J15_checkIndex_7cf53 : GoodIn wsJx4a65c_get_915e3 wsJ15_checkIndex_7cf53 := goodIn_r _ [5, 6, 7, 8, 9] (by decide +kernel) (by decide +kernel)
set_option maxRecDepth 20000 in
theorem gJx4a65c_get_915e3_J15_checkIndex_7cf53 : GoodIn wsJx4a65c_get_915e3 (va_wsS RJx4a65c 118 yJ15_checkIndex_7cf53 wsJ15_checkIndex_7cf53) := goodIn_app (goodIn_of _ (by decide +kernel)) ggJx4a65c_get_915e3_J15_checkIndex_7cf53
set_option maxRecDepth 20000 in
theorem ggJx4a65c_get_915e3_Jx4a65c_elementData_915e3 : GoodIn wsJx4a65c_get_915e3 wsJx4a65c_elementData_915e3 := goodIn_r _ [14, 15, 16, 17, 18] (by decide +kernel) (by decide +kernel)
set_option maxRecDepth 20000 in
theorem gJx4a65c_get_915e3_Jx4a65c_elementData_915e3 : GoodIn wsJx4a65c_get_915e3 (wsV RJx4a65c 123 RJx4a65c yJx4a65c_elementData_915e3 wsJx4a65c_elementData_915e3) := goodIn_app (goodIn_of _ (by decide +kernel)) ggJx4a65c_get_915e3_Jx4a65c_elementData_915e3
set_option maxRecDepth 20000 in
theorem ggJx4a65c_add_72be8_Jx4a65c_grow_d5877 : GoodIn wsJx4a65c_add_72be8 wsJx4a65c_grow_d5877 := goodIn_r _ [6, 1, 7, 8, 9, 5, 10, 11, 12, 13, 14, 15, 16, 17, 18, 19, 20, 21, 22, 23, 24, 25, 26, 27, 28, 29, 30, 31, 32, 33, 34, 35, 36, 37, 38, 39, 40, 41, 42, 43, 44, 45, 46, 47, 48, 49] (by decide +kernel) (by decide +kernel)
set_option maxRecDepth 20000 in
theorem gJx4a65c_add_72be8_Jx4a65c_grow_d5877 : GoodIn wsJx4a65c_add_72be8 (wsV RJx4a65c 129 RJx4a65c yJx4a65c_grow_d5877 wsJx4a65c_grow_d5877) := goodIn_app (goodIn_of _ (by decide +kernel)) ggJx4a65c_add_72be8_Jx4a65c_grow_d5877
set_option maxRecDepth 20000 in
theorem ggJx4a65c_add_9ea2d_Jx4a65c_add_72be8 : GoodIn wsJx4a65c_add_9ea2d wsJx4a65c_add_72be8 := goodIn_r _ [9, 4, 10, 11, 12, 8, 13, 14, 15, 16, 17, 3, 18, 19, 20, 21, 22, 23, 24, 25, 26, 27, 28, 29, 30, 31, 32, 33, 34, 35, 36, 37, 38, 39, 40, 41, 42, 43, 44, 45, 46, 47, 48, 49, 50, 51, 52, 53, 54, 55] (by decide +kernel) (by decide +kernel)
set_option maxRecDepth 20000 in
theorem gJx4a65c_add_9ea2d_Jx4a65c_add_72be8 : GoodIn wsJx4a65c_add_9ea2d (wsV RJx4a65c 131 RJx4a65c yJx4a65c_add_72be8 wsJx4a65c_add_72be8) := goodIn_app (goodIn_of _ (by decide +kernel)) ggJx4a65c_add_9ea2d_Jx4a65c_add_72be8
set_option maxRecDepth 20000 in
theorem ggJ7_copyOf_1904c_J7_copyOf_6403c : GoodIn wsJ7_copyOf_1904c wsJ7_copyOf_6403c := goodIn_r _ [8, 9, 10, 11, 12, 13, 14, 15, 16, 17, 18] (by decide +kernel) (by decide +kernel)
set_option maxRecDepth 20000 in
theorem gJ7_copyOf_1904c_J7_copyOf_6403c : GoodIn wsJ7_copyOf_1904c (va_wsS RJ7 300 yJ7_copyOf_6403c wsJ7_copyOf_6403c) := goodIn_app (goodIn_of _ (by decide +kernel)) ggJ7_copyOf_1904c_J7_copyOf_6403c
set_option maxRecDepth 20000 in
theorem ggJ15_checkIndex_7cf53_J3_checkIndex_8e157 : GoodIn wsJ15_checkIndex_7cf53 wsJ3_checkIndex_8e157 := goodIn_r _ [4] (by decide +kernel) (by decide +kernel)
set_option maxRecDepth 20000 in
theorem gJ15_checkIndex_7cf53_J3_checkIndex_8e157 : GoodIn wsJ15_checkIndex_7cf53 (va_wsS RJ15 105 yJ3_checkIndex_8e157 wsJ3_checkIndex_8e157) := goodIn_app (goodIn_of _ (by decide +kernel)) ggJ15_checkIndex_7cf53_J3_checkIndex_8e157
set_option maxRecDepth 20000 in
theorem ggJ8_newLength_cabcc_J8_hugeLength_7cf53 : GoodIn wsJ8_newLength_cabcc wsJ8_hugeLength_7cf53 := goodIn_r _ [9, 5] (by decide +kernel) (by decide +kernel)
set_option maxRecDepth 20000 in
theorem gJ8_newLength_cabcc_J8_hugeLength_7cf53 : GoodIn wsJ8_newLength_cabcc (va_wsS RJ8 201 yJ8_hugeLength_7cf53 wsJ8_hugeLength_7cf53) := goodIn_app (goodIn_of _ (by decide +kernel)) ggJ8_newLength_cabcc_J8_hugeLength_7cf53
end
section
/-! my words: one context for all contracts; the heap as a map; contracts that return or throw, with the heap's change in their post -/
/-- what does not change in a run: (classes, slots), array classes ([I, [Z, [Object, [J), the addresses that may be written, the texts' addresses by their entries, (the empty row of ArrayList, the mirror of [Object) -/
abbrev xG : Type := va_G × (ClassId × ClassId × ClassId × ClassId) × (Nat → Prop) × (Nat → Nat) × (Nat × Nat)
abbrev xD (G : xG) : va_G := G.1
abbrev xI (G : xG) : ClassId := G.2.1.1
abbrev xZ (G : xG) : ClassId := G.2.1.2.1
abbrev xO (G : xG) : ClassId := G.2.1.2.2.1
abbrev xJ (G : xG) : ClassId := G.2.1.2.2.2
abbrev xA (G : xG) : Nat → Prop := G.2.2.1
abbrev xT (G : xG) : Nat → Nat := G.2.2.2.1
abbrev xE (G : xG) : Nat := G.2.2.2.2.1
abbrev xM (G : xG) : Nat := G.2.2.2.2.2
abbrev xTys (G : xG) : List (ClassId × FieldType) := [(xI G, .int), (xZ G, .boolean), (xO G, .object "java/lang/Object"), (xJ G, .long)]
/-- words that only Alike tables keep -/
def xNest : List Cond := [.fieldLinkNest "Bidwhistle" 116 "Bidwhistle$Strategy" "kind" "I" "Bidwhistle", .fieldLinkNest "Bidwhistle" 123 "Bidwhistle$Strategy" "firstParent" "I" "Bidwhistle", .fieldLinkNest "Bidwhistle" 126 "Bidwhistle$Strategy" "secondParent" "I" "Bidwhistle", .fieldLinkNest "Bidwhistle" 129 "Bidwhistle$Strategy" "inPool" "Z" "Bidwhistle", .fieldLinkNest "Bidwhistle" 135 "Bidwhistle$Strategy" "program" "LBidwhistle$Program;" "Bidwhistle", .fieldLinkNest "Bidwhistle" 156 "Bidwhistle$Strategy" "stepsOfLine" "I" "Bidwhistle", .fieldLinkNest "Bidwhistle" 235 "Bidwhistle$Program" "stepBits" "I" "Bidwhistle", .fieldLinkNest "Bidwhistle" 240 "Bidwhistle$Strategy" "bids" "LBidwhistle$Row;" "Bidwhistle", .fieldLinkNest "Bidwhistle" 256 "Bidwhistle$Strategy" "number" "I" "Bidwhistle",
  .methodLinkNest "Bidwhistle" 21 yX2_init "Bidwhistle", .methodLinkNest "Bidwhistle" 9 yX0_init "Bidwhistle", .methodLinkNest "Bidwhistle$Program" 31 yX4_bitOf "Bidwhistle",
  .castable "java/lang/IllegalArgumentException" "java/lang/IllegalArgumentException", .castable "java/lang/IllegalStateException" "java/lang/IllegalStateException", .castable "java/lang/IndexOutOfBoundsException" "java/lang/IndexOutOfBoundsException",
  .castable "Bidwhistle$Strategy" "java/lang/Object", .castable "Bidwhistle$Strategy" "Bidwhistle$Strategy", .castable "[Ljava/lang/Object;" "java/lang/Object", .castable "[Ljava/lang/Object;" "[Ljava/lang/Object;",
  .declares ⟨"java/lang/Exception", "<init>", "(Ljava/lang/String;)V"⟩, .declares ⟨"java/lang/RuntimeException", "<init>", "(Ljava/lang/String;)V"⟩, .declares ⟨"java/lang/Throwable", "<init>", "(Ljava/lang/String;)V"⟩]
def xWarm : Cond → Bool
  | .fieldLinkNest .. => true
  | .methodLinkNest .. => true
  | .castable .. => true
  | .declares .. => true
  | _ => false
theorem xWarm_go {w : Cond} (h : xWarm w = true) {s U : State} (hW : s.WarmedH U.vm) (hz : va_Nw w s) : va_Nw w U := by
  cases w <;> first | exact absurd h (by decide) | exact va_Nw.warmF hW hz | exact va_Nw.warmM hW hz | exact va_Nw.warmC hW hz | exact va_Nw.warmD hW hz | simp [xWarm] at h
theorem xNest_warm : ∀ w ∈ xNest, xWarm w = true := by decide +kernel
/-- the texts of Bidwhistle's exceptions -/
def xTexts : List (Nat × String) := [(133, "it is in the pool"), (142, "it has a forbidden step"), (147, "8 are in the pool"), (159, "6 pairs are told"), (167, "both are the same"), (198, "fewer than 3 are in the pool"), (211, "no such step"), (213, "a value out of range"), (215, "no such auction"), (217, "it is not in the pool"), (221, "no such strategy"), (70, "the draft has 7 steps"), (88, "the draft is not right"), (97, "20 strategies are stored")]
def xCx (G : xG) (U : State) : Prop :=
  va_K (xD G) vwCl (xTys G) U ∧ (∀ w ∈ xNest, va_Nw w U) ∧ (∀ q, U.heap.size ≤ q → xA G q) ∧
  vx_Zq Bundle.tN "UNASSIGNED_STACK" Bundle.steD (xA G) U U.heap ∧ vx_Zq Bundle.tN "SUPPRESSED_SENTINEL" Bundle.listD (xA G) U U.heap ∧
  (∀ q ∈ xTexts, vk_R "Bidwhistle" q.1 q.2 (xT G q.1) U) ∧
  va_Z "java/util/ArrayList" "DEFAULTCAPACITY_EMPTY_ELEMENTDATA" "[Ljava/lang/Object;" (.ref (xE G)) (xA G) U U.heap ∧
  va_T (.object "java/lang/Object") (xE G) 0 (fun _ => .null) (xA G) U U.heap ∧ va_Mi "[Ljava/lang/Object;" (xM G) U ∧ va_Dc U ∧ va_AO "java/lang/Object" U
theorem xCx.go {G : xG} {s U : State} (h : xCx G s) (hW : s.WarmedH U.vm) (hs : s.heap.size ≤ U.heap.size) (hk : ∀ q, q < s.heap.size → ¬ xA G q → U.heap[q]? = s.heap[q]?) : xCx G U := by
  obtain ⟨h1, h2, h3, h4, h5, h6, h7, h8, h9, h10, h11⟩ := h
  exact ⟨h1.moved hW.alike, fun w hw => xWarm_go (xNest_warm w hw) hW (h2 w hw), fun q hq => h3 q (Nat.le_trans hs hq), (h4.kept hk).moved hW.alike, (h5.kept hk).moved hW.alike,
    fun q hq => (h6 q hq).warm hW, (h7.kept hk).moved hW.alike, (h8.kept hk).moved hW.alike, h9.moved hW.alike, h10.moved hW.alike, h11.moved hW.alike⟩
theorem xCx.goS {G : xG} {s U : State} {H : Heap} {locs : List Loc} (h : xCx G s) (hS : va_S (xA G) s.heap H locs) (hU : U.heap = H) (hW : s.WarmedH U.vm) : xCx G U := by
  subst hU
  exact h.go hW hS.1 hS.2.1
/-- a cell that holds an object, a row of ints, of booleans, of longs, of references -/
abbrev oA (G : xG) (a ci : Nat) (fs : List Value) (H : Heap) : Prop := va_at (xD G) vwCl (a, .inr (ci, fs)) H
abbrev iA (G : xG) (a n : Nat) (f : Nat → Int32) (H : Heap) : Prop := va_at (xD G) vwCl (a, .inl (xI G, n, .inl f)) H
abbrev zA (G : xG) (a n : Nat) (f : Nat → Int32) (H : Heap) : Prop := va_at (xD G) vwCl (a, .inl (xZ G, n, .inl f)) H
abbrev jA (G : xG) (a n : Nat) (f : Nat → Int64) (H : Heap) : Prop := va_at (xD G) vwCl (a, .inl (xJ G, n, .inr (.inl f))) H
abbrev qA (G : xG) (a n : Nat) (f : Nat → Option Nat) (H : Heap) : Prop := va_at (xD G) vwCl (a, .inl (xO G, n, .inr (.inr (.inr (.inr f))))) H
theorem x1 {D : va_G} {cl : List vw_C} {q : Nat × va_E} {H : Heap} (h : va_at D cl q H) : va_P D cl [q] H := by
  intro k r hk
  have hz : k < 1 := (List.getElem?_eq_some_iff.mp hk).1
  rw [show k = 0 by omega] at hk
  cases hk
  exact h
/-- between two heaps all old cells but L are the same -/
def xC (L : List Nat) (H H1 : Heap) : Prop := H.size ≤ H1.size ∧ ∀ q, q < H.size → q ∉ L → H1[q]? = H[q]?
theorem xC.rf {L : List Nat} {H : Heap} : xC L H H := ⟨Nat.le_refl _, fun _ _ _ => rfl⟩
theorem xC.tr {L1 L2 : List Nat} {H H1 H2 : Heap} (h1 : xC L1 H H1) (h2 : xC L2 H1 H2) : xC (L1 ++ L2) H H2 :=
  ⟨Nat.le_trans h1.1 h2.1, fun q hq hn => (h2.2 q (Nat.lt_of_lt_of_le hq h1.1) (fun z => hn (List.mem_append_right _ z))).trans (h1.2 q hq (fun z => hn (List.mem_append_left _ z)))⟩
theorem xC.mono {L L' : List Nat} {H H1 : Heap} (h : xC L H H1) (hL : ∀ q, q ∈ L → q ∈ L' ∨ H.size ≤ q) : xC L' H H1 :=
  ⟨h.1, fun q hq hn => h.2 q hq (fun z => (hL q z).elim hn (fun w => absurd hq (Nat.not_lt.mpr w)))⟩
theorem xC.at {L : List Nat} {H H1 : Heap} {D : va_G} {cl : List vw_C} {q : Nat × va_E} (hc : xC L H H1) (h : va_at D cl q H) (hn : q.1 ∉ L) : va_at D cl q H1 := h.kept (hc.2 q.1 h.lt hn)
theorem xC.at0 {H H1 : Heap} {D : va_G} {cl : List vw_C} {q : Nat × va_E} (hc : xC [] H H1) (h : va_at D cl q H) : va_at D cl q H1 := hc.at h (fun z => nomatch z)
theorem xn1 {a b : Nat} (h : a ≠ b) : a ∉ [b] := fun z => by rcases List.mem_cons.mp z with z | z; exact h z; cases z
theorem xn2 {a b c : Nat} (h : a ≠ b) (h2 : a ≠ c) : a ∉ [b, c] := fun z => by rcases List.mem_cons.mp z with z | z; exact h z; exact xn1 h2 z
theorem xn3 {a b c d : Nat} (h : a ≠ b) (h2 : a ≠ c) (h3 : a ≠ d) : a ∉ [b, c, d] := fun z => by rcases List.mem_cons.mp z with z | z; exact h z; exact xn2 h2 h3 z
/-- the post of a contract that returns; of one that throws; its start -/
def xQ (G : xG) (post : Option Value → Heap → Prop) : Array Value → State → Outcome → State → Prop := fun _ st o t => ∃ v, o = .returned v ∧ post v t.heap ∧ va_F (xA G) st t
def xX (G : xG) (px : String → Heap → Prop) : String → State → State → Prop := fun E st t => px E t.heap ∧ va_F (xA G) st t
def xP (G : xG) (As : List Value) (H : Heap) : Array Value → State → Prop := fun v U => v = As.toArray ∧ U.heap = H ∧ xCx G U
abbrev xMet (l : Launch) (G : xG) (y : MethodName) (ws : List Cond) (rm : Room) (As : List Value) (H : Heap) (post : Option Value → Heap → Prop) (px : String → Heap → Prop) : Prop :=
  vx_Met l y ws rm (xP G As H) (xQ G post) (xX G px) rm.cells rm.slots (xA G)
def xNo : String → Heap → Prop := fun _ _ => False
theorem xBlind {G : xG} {As : List Value} {H : Heap} : FrameBlind (xP G As H) := fun _ U g mk h => ⟨h.1, h.2.1, h.2.2.go (U := U.calling g mk _) (State.WarmedH.refl U) (Nat.le_refl _) (fun _ _ _ => rfl)⟩
section XR
variable {p : Program} {l : Launch} {e : Env} {R : Room} {s : State} {m : MethodId} {args : Array Value} {below : List Frame} {meth : Method} {c : Code} {H : Heap} {locs : List Loc} {cells slots : Nat} {Q : State → Prop}
variable {cc : ByteArray} {pc : Nat} {ls : Array Slot} {rest st0 : List Value} {G G1 : xG} {a : Nat} {mc ms : Nat} {post : Option Value → Heap → Prop} {px : String → Heap → Prop}
theorem xPreV (hC : xCx G s) (hS : va_S (xA G) s.heap H locs) {b ci : Nat} {fs : List Value} (hb : oA G b ci fs H) {q : vw_C} (hc : vwCl[ci]? = some q) {As : List Value} : PreV s H q.1 b (xP G (.ref b :: As) H) As :=
  ⟨xBlind, va_recv hC.1 (x1 hb) hc (q0 := 0) rfl, fun _ hU hW => ⟨rfl, hU, hC.goS hS hU hW⟩⟩
theorem xPreS (hC : xCx G s) (hS : va_S (xA G) s.heap H locs) {As : List Value} : PreS s H (xP G As H) As :=
  ⟨xBlind, fun _ hU hW => ⟨rfl, hU, hC.goS hS hU hW⟩⟩
/-- a call of a contract: what comes back, or what is thrown -/
theorem x_call {aa : Array Value} (hr : vx_Run p l e R s m args below meth c H locs cells slots mc ms (F0 m pc ls st0) rest (xQ G1 post aa) (xX G1 px) (xA G1)) (hS : va_S (xA G) s.heap H locs) (hA : ∀ q, xA G1 q → xA G q)
    (kx : ∀ (E : String) (q9 : Addr) (ce : Cell) (H1 : Heap) (locs1 : List Loc), px E H1 → H.size ≤ H1.size → (∀ q, q < H.size → ¬ xA G1 q → H1[q]? = H[q]?) → va_S (xA G) s.heap H1 locs1 → H1[q9]? = some ce → ce.vm = .none → s.vm.findClass E = some ce.cls → vx_W p l e R s m args below meth c H1 locs1 (cells + mc) (slots + ms) Q (F0 m pc ls rest) q9)
    (kk : ∀ (v : Option Value) (H1 : Heap) (locs1 : List Loc), post v H1 → H.size ≤ H1.size → (∀ q, q < H.size → ¬ xA G1 q → H1[q]? = H[q]?) → va_S (xA G) s.heap H1 locs1 → W p l e R s m args below meth c H1 locs1 (cells + mc) (slots + ms) Q (F0 m (pc + 3) ls (v.toList ++ rest))) : W p l e R s m args below meth c H locs cells slots Q (F0 m pc ls st0) := by
  intro T hT X
  rcases hr T hT X with ⟨v, st₀, t, T', L, h0, X', hL, e1, e2, ⟨v', hv, hp, hF⟩, st⟩ | ⟨q, st₀, t, T', L, E, ce, h0, X', hL, e1, e2, ⟨hp, hF⟩, hce, hcv, hcl, st⟩
  · cases hv
    obtain ⟨k1, k2, k3⟩ := vx_keep h0 e1 hS (fun q _ h => hA q h) hA hL hF
    rw [← e1] at hp
    obtain ⟨t2, a1, b1⟩ := kk v T'.heap (locs ++ L) hp k1 k2 k3 T' rfl X'
    exact ⟨t2, st t2 a1, b1⟩
  · obtain ⟨k1, k2, k3⟩ := vx_keep h0 e1 hS (fun q _ h => hA q h) hA hL hF
    rw [← e1] at hp
    obtain ⟨t2, a1, b1⟩ := kx E q ce T'.heap (locs ++ L) hp k1 k2 k3 (by rw [e1]; exact hce) hcv hcl T' rfl X'
    exact ⟨t2, st.trans a1, b1⟩
/-- a call of a contract that throws nothing and answers an int and leaves the heap: one row -/
theorem x_int {aa : Array Value} {pi : Int32 → Prop} (hr : vx_Run p l e R s m args below meth c H locs cells slots mc ms (F0 m pc ls st0) rest (xQ G (fun v H1 => H1 = H ∧ ∃ r : Int32, v = some (.int r) ∧ pi r) aa) (xX G xNo) (xA G)) (hS : va_S (xA G) s.heap H locs)
    (kk : ∀ (r : Int32) (locs1 : List Loc), pi r → va_S (xA G) s.heap H locs1 → W p l e R s m args below meth c H locs1 (cells + mc) (slots + ms) Q (F0 m (pc + 3) ls (.int r :: rest))) : W p l e R s m args below meth c H locs cells slots Q (F0 m pc ls st0) := by
  refine x_call hr hS (fun _ h => h) (fun _ _ _ _ _ h => h.elim) (fun v H1 locs1 hp _ _ hS1 => ?_)
  obtain ⟨rfl, r, rfl, hr⟩ := hp
  exact kk r locs1 hr hS1
/-- ends -/
theorem x_iret {v : Int32} (hx : p.tables.exec = Jvm.exec) (hb : c.code = cc) {ty : FieldType} (hr : meth.sig.returnType = some ty) (hn : narrow ty (.int v) = .int v) (hd : decode cc pc = .ok (.ireturn, 1)) (hlocks : meth.locks = false) (hS : va_S (xA G) s.heap H locs) (h1 : cells ≤ mc) (h2 : slots ≤ ms) (hp : post (some (.int v)) H) {XC : String → State → State → Prop} :
    W p l e R s m args below meth c H locs cells slots (vx_MQ below (xQ G post) XC args s mc ms (xA G)) (F0 m pc ls [.int v]) :=
  W.widen h1 h2 (vx_ret (W.zret hx hb hr hn (fun t ht _ => ⟨_, rfl, by rw [ht]; exact hp, hS.F ht⟩) hS.2.2 hd hlocks))
theorem x_lret {v : Int64} (hx : p.tables.exec = Jvm.exec) (hb : c.code = cc) (hr : meth.sig.returnType = some .long) (hd : decode cc pc = .ok (.lreturn, 1)) (hlocks : meth.locks = false) (hS : va_S (xA G) s.heap H locs) (h1 : cells ≤ mc) (h2 : slots ≤ ms) (hp : post (some (.long v)) H) {XC : String → State → State → Prop} :
    W p l e R s m args below meth c H locs cells slots (vx_MQ below (xQ G post) XC args s mc ms (xA G)) (F0 m pc ls [.long v]) :=
  W.widen h1 h2 (vx_ret (W.lret hx hb hr (fun t ht _ => ⟨_, rfl, by rw [ht]; exact hp, hS.F ht⟩) hS.2.2 hd hlocks))
theorem x_vret (hx : p.tables.exec = Jvm.exec) (hb : c.code = cc) (hr : meth.sig.returnType = none) (hd : decode cc pc = .ok (.return_, 1)) (hlocks : meth.locks = false) (hS : va_S (xA G) s.heap H locs) (h1 : cells ≤ mc) (h2 : slots ≤ ms) (hp : post none H) {XC : String → State → State → Prop} :
    W p l e R s m args below meth c H locs cells slots (vx_MQ below (xQ G post) XC args s mc ms (xA G)) (F0 m pc ls []) :=
  W.widen h1 h2 (vx_ret (W.vret hx hb hr (fun t ht _ => ⟨_, rfl, by rw [ht]; exact hp, hS.F ht⟩) hS.2.2 hd hlocks))
theorem x_aret {a : Nat} (hx : p.tables.exec = Jvm.exec) (hb : c.code = cc) {rt : FieldType} (hr : meth.sig.returnType = some rt) (hrt : (∃ n, rt = .object n) ∨ ∃ t, rt = .array t) (hd : decode cc pc = .ok (.areturn, 1)) (hlocks : meth.locks = false) (hS : va_S (xA G) s.heap H locs) (h1 : cells ≤ mc) (h2 : slots ≤ ms) (hp : post (some (.ref a)) H) {XC : String → State → State → Prop} :
    W p l e R s m args below meth c H locs cells slots (vx_MQ below (xQ G post) XC args s mc ms (xA G)) (F0 m pc ls [.ref a]) :=
  W.widen h1 h2 (vx_ret (W.aret hx hb hr hrt (Or.inr ⟨a, rfl⟩) (fun t ht _ => ⟨_, rfl, by rw [ht]; exact hp, hS.F ht⟩) hS.2.2 hd hlocks))
/-- thrown on -/
theorem x_out {E : String} {ce : Cell} {q : Addr} (hout : ∀ x ∈ c.exceptionTable.toList, False) (hlocks : meth.locks = false) (hcell : H[q]? = some ce) (hv : ce.vm = .none) (hcl : s.vm.findClass E = some ce.cls) (hS : va_S (xA G) s.heap H locs) (h1 : cells ≤ mc) (h2 : slots ≤ ms) (hp : px E H) {Qc : Array Value → State → Outcome → State → Prop} :
    vx_W p l e R s m args below meth c H locs cells slots (vx_MQ below Qc (xX G px) args s mc ms (xA G)) (F0 m pc ls rest) q :=
  vx_out (fun x hx => (hout x hx).elim) hlocks hcell hv hcl (fun t ht _ => ⟨by rw [ht]; exact hp, hS.F ht⟩) hS.2.2 h1 h2
/-- fields -/
theorem x_put (hexec : p.tables.exec = Jvm.exec) (hb : c.code = cc) {own ref C : String} {T : u_T} {N ci index : Nat} {Ts : List Cond} (hts : ∀ w ∈ Ts, w.before args s = true) (hin : ∀ w ∈ u_ws C T N, w ∈ Ts) (ty0 : Nat → FieldType) (hty : ∀ k, k < N → parseFieldDescriptor (T k).2.2.1 = some (ty0 k)) (hnm : ∀ a, a < N → ∀ b, b < N → a ≠ b → (T a).2.1 ≠ (T b).2.1) (hown : s.vm.findClass own = some m.cls) (hC : xCx G s) {H0 : Heap} (hS : va_S (xA G) H0 H locs) (ha : xA G a) {fs : List Value} (he : oA G a ci fs H) (hc : vwCl[ci]? = some (C, T, N)) (k : Nat) (hk : k < N) (hlink : (Cond.fieldLink own index ref (T k).2.1 (T k).2.2.1).before args s = true) (hsame : ∀ x, s.fieldFound? (T k).1 (T k).2.1 (T k).2.2.1 = some x → s.fieldFound? ref (T k).2.1 (T k).2.2.1 = some x) (hfin : (T k).2.2.2 = false) {ty : FieldType} {v : Value} (hd : parseFieldDescriptor (T k).2.2.1 = some ty) (hn : narrow ty v = v) (hfit : fits ty v = true) (hl : k < fs.length)
    (hdg : decode cc pc = .ok (.putfield index, 3)) (kk : ∀ (H1 : Heap) (locs1 : List Loc), oA G a ci (fs.set k v) H1 → xC [a] H H1 → va_S (xA G) H0 H1 locs1 → W p l e R s m args below meth c H1 locs1 cells slots Q (F0 m (pc + 3) ls rest)) : W p l e R s m args below meth c H locs cells slots Q (F0 m pc ls (v :: .ref a :: rest)) := by
  have hap := va_apart (own := own) hts hin ty0 hty hnm hC.1 hc
  obtain ⟨r, h1, cell, q1, q2, q3, q4⟩ := he
  have hr : r = (C, T, N) := Option.some.inj (h1.symm.trans hc)
  subst hr
  obtain ⟨hSl, hfc, kC, hkC, hkind⟩ := hC.1.1 ci _ hc
  obtain ⟨cf, kf, fi, f, hi, hsl⟩ := hSl k hk
  have hlay := hts _ (hin _ (u_in_lay hk))
  unfold u_lay at hlay
  rw [if_neg (by rw [hfin]; decide)] at hlay
  have hst := (u_facts hfc hkC (u_lays hts hin hk) hi).1
  have h6 := u_store hfc hkC hkind hlay hi hd hn hfit
  refine W.putK hexec hb (f := f) ⟨hown, hlink, ⟨_, _, _, hsame _ hi⟩, hst⟩ (by rw [q2]; exact h6) q1 q3 (by rw [hsl]; exact k2_hasslot (q4 k hk)) rfl rfl hdg fun H' e1 e2 e3 => ?_
  rw [hsl] at e1 ⊢
  exact kk H' _ ⟨_, hc, t_OB.to (V := updV (vp_V fs) k v) ⟨_, e1, q2, q3, t_set q4 hap hk v⟩ (fun j _ => vp_updV_set hl v j)⟩ ⟨Nat.le_of_eq e2.symm, fun q _ hq => e3 q (fun z => hq (by rw [z]; exact List.mem_cons_self))⟩ (hS.put e2 e3 ha)
theorem x_putN (hexec : p.tables.exec = Jvm.exec) (hb : c.code = cc) {own ref C host : String} {T : u_T} {N ci index : Nat} {Ts : List Cond} (hts : ∀ w ∈ Ts, w.before args s = true) (hin : ∀ w ∈ u_ws C T N, w ∈ Ts) (ty0 : Nat → FieldType) (hty : ∀ k, k < N → parseFieldDescriptor (T k).2.2.1 = some (ty0 k)) (hnm : ∀ a, a < N → ∀ b, b < N → a ≠ b → (T a).2.1 ≠ (T b).2.1) (hown : s.vm.findClass own = some m.cls) (hC : xCx G s) {H0 : Heap} (hS : va_S (xA G) H0 H locs) (ha : xA G a) {fs : List Value} (he : oA G a ci fs H) (hc : vwCl[ci]? = some (C, T, N)) (k : Nat) (hk : k < N) (hlink : va_Nw (.fieldLinkNest own index ref (T k).2.1 (T k).2.2.1 host) s) (hsame : ∀ x, s.fieldFound? (T k).1 (T k).2.1 (T k).2.2.1 = some x → s.fieldFound? ref (T k).2.1 (T k).2.2.1 = some x) (hfin : (T k).2.2.2 = false) {ty : FieldType} {v : Value} (hd : parseFieldDescriptor (T k).2.2.1 = some ty) (hn : narrow ty v = v) (hfit : fits ty v = true) (hl : k < fs.length)
    (hdg : decode cc pc = .ok (.putfield index, 3)) (kk : ∀ (H1 : Heap) (locs1 : List Loc), oA G a ci (fs.set k v) H1 → xC [a] H H1 → va_S (xA G) H0 H1 locs1 → W p l e R s m args below meth c H1 locs1 cells slots Q (F0 m (pc + 3) ls rest)) : W p l e R s m args below meth c H locs cells slots Q (F0 m pc ls (v :: .ref a :: rest)) := by
  have hap := va_apart (own := own) hts hin ty0 hty hnm hC.1 hc
  obtain ⟨r, h1, cell, q1, q2, q3, q4⟩ := he
  have hr : r = (C, T, N) := Option.some.inj (h1.symm.trans hc)
  subst hr
  obtain ⟨hSl, hfc, kC, hkC, hkind⟩ := hC.1.1 ci _ hc
  obtain ⟨cf, kf, fi, f, hi, hsl⟩ := hSl k hk
  have hlay := hts _ (hin _ (u_in_lay hk))
  unfold u_lay at hlay
  rw [if_neg (by rw [hfin]; decide)] at hlay
  have hst := (u_facts hfc hkC (u_lays hts hin hk) hi).1
  have h6 := u_store hfc hkC hkind hlay hi hd hn hfit
  refine va_WputK hexec hb (f := f) hown (va_Nw.use rfl hlink) (hsame _ hi) hst (by rw [q2]; exact h6) q1 q3 (by rw [hsl]; exact k2_hasslot (q4 k hk)) rfl rfl hdg fun H' e1 e2 e3 => ?_
  rw [hsl] at e1 ⊢
  exact kk H' _ ⟨_, hc, t_OB.to (V := updV (vp_V fs) k v) ⟨_, e1, q2, q3, t_set q4 hap hk v⟩ (fun j _ => vp_updV_set hl v j)⟩ ⟨Nat.le_of_eq e2.symm, fun q _ hq => e3 q (fun z => hq (by rw [z]; exact List.mem_cons_self))⟩ (hS.put e2 e3 ha)
theorem x_putF (hexec : p.tables.exec = Jvm.exec) (hb : c.code = cc) {own ref C : String} {T : u_T} {N ci index : Nat} {Ts : List Cond} (hts : ∀ w ∈ Ts, w.before args s = true) (hin : ∀ w ∈ u_ws C T N, w ∈ Ts) (ty0 : Nat → FieldType) (hty : ∀ k, k < N → parseFieldDescriptor (T k).2.2.1 = some (ty0 k)) (hnm : ∀ a, a < N → ∀ b, b < N → a ≠ b → (T a).2.1 ≠ (T b).2.1) (hown : s.vm.findClass own = some m.cls) (hC : xCx G s) {H0 : Heap} (hS : va_S (xA G) H0 H locs) (ha : xA G a) {fs : List Value} (he : oA G a ci fs H) (hc : vwCl[ci]? = some (C, T, N)) (k : Nat) (hk : k < N) (hlink : (Cond.fieldLink own index ref (T k).2.1 (T k).2.2.1).before args s = true) (hsame : ∀ x, s.fieldFound? (T k).1 (T k).2.1 (T k).2.2.1 = some x → s.fieldFound? ref (T k).2.1 (T k).2.2.1 = some x) (hfin : (T k).2.2.2 = true) (hin2 : meth.name = "<init>") (hdecl : (T k).1 = own) {ty : FieldType} {v : Value} (hd : parseFieldDescriptor (T k).2.2.1 = some ty) (hn : narrow ty v = v) (hfit : fits ty v = true) (hl : k < fs.length)
    (hdg : decode cc pc = .ok (.putfield index, 3)) (kk : ∀ (H1 : Heap) (locs1 : List Loc), oA G a ci (fs.set k v) H1 → xC [a] H H1 → va_S (xA G) H0 H1 locs1 → W p l e R s m args below meth c H1 locs1 cells slots Q (F0 m (pc + 3) ls rest)) : W p l e R s m args below meth c H locs cells slots Q (F0 m pc ls (v :: .ref a :: rest)) := by
  have hap := va_apart (own := own) hts hin ty0 hty hnm hC.1 hc
  obtain ⟨r, h1, cell, q1, q2, q3, q4⟩ := he
  have hr : r = (C, T, N) := Option.some.inj (h1.symm.trans hc)
  subst hr
  obtain ⟨hSl, hfc, kC, hkC, hkind⟩ := hC.1.1 ci _ hc
  obtain ⟨cf, kf, fi, f, hi, hsl⟩ := hSl k hk
  have hlay := hts _ (hin _ (u_in_lay hk))
  unfold u_lay at hlay
  rw [if_pos hfin] at hlay
  have hst := (u_facts hfc hkC (u_lays hts hin hk) hi).1
  have hcf : m.cls = cf := by
    obtain ⟨_, _, c', _, _, _, -, -, hf', -, -, -, hown2, -⟩ := Cond.laysFinal_spec hlay
    have e1 : c' = cf := by have := hi.symm.trans hf'; simp at this; exact this.1.symm
    rw [hdecl] at hown2
    rw [← e1]; exact Option.some.inj (hown.symm.trans hown2)
  have h6 := u_fits hfc hkC hkind (Or.inr hlay) hi hd hn hfit
  refine W.putFinK hexec hb hown hlink (hsame _ hi) hst hcf hin2 (by rw [q2]; exact h6) q1 q3 (by rw [hsl]; exact k2_hasslot (q4 k hk)) rfl rfl hdg fun H' e1 e2 e3 => ?_
  rw [hsl] at e1 ⊢
  exact kk H' _ ⟨_, hc, t_OB.to (V := updV (vp_V fs) k v) ⟨_, e1, q2, q3, t_set q4 hap hk v⟩ (fun j _ => vp_updV_set hl v j)⟩ ⟨Nat.le_of_eq e2.symm, fun q _ hq => e3 q (fun z => hq (by rw [z]; exact List.mem_cons_self))⟩ (hS.put e2 e3 ha)
/-- rows -/
theorem x_iast (hexec : p.tables.exec = Jvm.exec) (hb : c.code = cc) (hC : xCx G s) {H0 : Heap} (hS : va_S (xA G) H0 H locs) (ha : xA G a) {n : Nat} {f : Nat → Int32} (he : iA G a n f H) {i x : Int32} (hin : vp_in i n) (hdg : decode cc pc = .ok (.iastore, 1))
    (kk : ∀ (H1 : Heap) (locs1 : List Loc), iA G a n (upd f i.toNatClampNeg x) H1 → xC [a] H H1 → va_S (xA G) H0 H1 locs1 → W p l e R s m args below meth c H1 locs1 cells slots Q (F0 m (pc + 1) ls rest)) : W p l e R s m args below meth c H locs cells slots Q (F0 m pc ls (.int x :: .int i :: .ref a :: rest)) := by
  refine W.iast hexec hb he ((hC.1.2 0 _ rfl).1 n (fun j => .int (f j))) (fun q => by cases q) (by show ¬ (i < 0 ∨ (arrV _ _ _).slots.size ≤ _); rw [arrV_size]; exact hin) rfl rfl hdg fun H1 e z oq => ?_
  refine kk H1 _ ?_ ⟨Nat.le_of_eq z.symm, fun q _ hq => oq q (fun z => hq (by rw [z]; exact List.mem_cons_self))⟩ (hS.put z oq ha)
  show H1[a]? = some (vp_cell _ _)
  rw [e, vp_cell_i, vp_cell_i, arrV_store]
  congr 2
  funext q
  by_cases hq : q = i.toNatClampNeg
  · subst hq
    simp [updV, upd]
  · simp [updV, upd, hq]
theorem x_zast (hexec : p.tables.exec = Jvm.exec) (hb : c.code = cc) (hC : xCx G s) {H0 : Heap} (hS : va_S (xA G) H0 H locs) (ha : xA G a) {n : Nat} {f : Nat → Int32} (he : zA G a n f H) {i x : Int32} (hin : vp_in i n) (hdg : decode cc pc = .ok (.bastore, 1))
    (kk : ∀ (H1 : Heap) (locs1 : List Loc), zA G a n (upd f i.toNatClampNeg (vp_nar .boolean x)) H1 → xC [a] H H1 → va_S (xA G) H0 H1 locs1 → W p l e R s m args below meth c H1 locs1 cells slots Q (F0 m (pc + 1) ls rest)) : W p l e R s m args below meth c H locs cells slots Q (F0 m pc ls (.int x :: .int i :: .ref a :: rest)) := by
  refine W.zast hexec hb he ((hC.1.2 1 _ rfl).1 n (fun j => .int (f j))) (fun q => by cases q) (by show ¬ (i < 0 ∨ (arrV _ _ _).slots.size ≤ _); rw [arrV_size]; exact hin) rfl rfl hdg fun H1 e z oq => ?_
  refine kk H1 _ ?_ ⟨Nat.le_of_eq z.symm, fun q _ hq => oq q (fun z => hq (by rw [z]; exact List.mem_cons_self))⟩ (hS.put z oq ha)
  show H1[a]? = some (vp_cell _ _)
  rw [e, vp_cell_i, vp_cell_i, arrV_store]
  congr 2
  funext q
  by_cases hq : q = i.toNatClampNeg
  · subst hq
    simp [updV, upd, vp_nar]
    try rfl
  · simp [updV, upd, hq]
theorem x_last (hexec : p.tables.exec = Jvm.exec) (hb : c.code = cc) (hC : xCx G s) {H0 : Heap} (hS : va_S (xA G) H0 H locs) (ha : xA G a) {n : Nat} {f : Nat → Int64} (he : jA G a n f H) {i : Int32} {x : Int64} (hin : vp_in i n) (hdg : decode cc pc = .ok (.lastore, 1))
    (kk : ∀ (H1 : Heap) (locs1 : List Loc), jA G a n (vp_updL f i.toNatClampNeg x) H1 → xC [a] H H1 → va_S (xA G) H0 H1 locs1 → W p l e R s m args below meth c H1 locs1 cells slots Q (F0 m (pc + 1) ls rest)) : W p l e R s m args below meth c H locs cells slots Q (F0 m pc ls (.long x :: .int i :: .ref a :: rest)) := by
  refine W.last hexec hb he ((hC.1.2 3 _ rfl).1 n (fun j => .long (f j))) (fun q => by cases q) (by show ¬ (i < 0 ∨ (arrV _ _ _).slots.size ≤ _); rw [arrV_size]; exact hin) rfl rfl hdg fun H1 e z oq => ?_
  refine kk H1 _ ?_ ⟨Nat.le_of_eq z.symm, fun q _ hq => oq q (fun z => hq (by rw [z]; exact List.mem_cons_self))⟩ (hS.put z oq ha)
  show H1[a]? = some (vp_cell _ _)
  rw [e, vp_cell_l, vp_cell_l, arrV_store]
  congr 2
  funext q
  by_cases hq : q = i.toNatClampNeg
  · subst hq
    simp [updV, vp_updL]
  · simp [updV, vp_updL, hq]
/-- new objects and rows -/
theorem x_new {c0 : Code} (hexec : p.tables.exec = Jvm.exec) (hb : c0.code = cc) {own C : String} {T : u_T} {N ci index : Nat} {Ts : List Cond} (hts : ∀ w ∈ Ts, w.before args s = true) (hin : ∀ w ∈ u_ws C T N, w ∈ Ts) (ty : Nat → FieldType) (hty : ∀ k, k < N → parseFieldDescriptor (T k).2.2.1 = some (ty k)) (hown : s.vm.findClass own = some m.cls) (hcl : (Cond.classLink own index C).before args s = true) (hinst : (Cond.instantiable C N).before args s = true) (hini : (Cond.initialized C).before args s = true)
    (hC : xCx G s) {H0 : Heap} (hS : va_S (xA G) H0 H locs) (hc : vwCl[ci]? = some (C, T, N)) {fs : List Value} (hfs : ∀ j, j < N → defaultValue (ty j) = vp_V fs j) (hcells : cells + 1 ≤ R.cells) (hslots : slots + N ≤ R.slots) (hdg : decode cc pc = .ok (.new index, 3))
    (kk : ∀ (q : Nat) (H1 : Heap), q = H.size → oA G q ci fs H1 → xC [] H H1 → H1.size = H.size + 1 → va_S (xA G) H0 H1 locs →
      W p l e R s m args below meth c0 H1 locs (cells + 1) (slots + N) Q (F0 m (pc + 3) ls (.ref q :: rest))) : W p l e R s m args below meth c0 H locs cells slots Q (F0 m pc ls rest) := by
  have hKn := hC.1.1 ci _ hc
  refine W.newcK hexec hb hown hcl hinst hini rfl hdg hcells hslots hKn.2.1 rfl fun H1 kC hkC e1 z1 o1 => ?_
  exact kk H.size H1 rfl ⟨_, hc, (u_born ty hts hin hKn hkC e1 hty).to hfs⟩ ⟨by omega, fun q hq _ => o1 q hq⟩ z1 ⟨Nat.le_trans hS.1 (by omega), fun x h1 h2 => (o1 x (Nat.lt_of_lt_of_le h1 hS.1)).trans (hS.2.1 x h1 h2), hS.2.2⟩
theorem x_newI (hexec : p.tables.exec = Jvm.exec) (hb : c.code = cc) (harr : (Cond.arrayClass .int).before args s = true) (hC : xCx G s) {H0 : Heap} (hS : va_S (xA G) H0 H locs) {n : Int32} {N' : Nat} (hn : ¬ n < 0) (hN : n.toNatClampNeg = N') (hbytes : N' * componentBytes .int ≤ 536870912) (hcells : cells + 1 ≤ R.cells) (hslots : slots + N' ≤ R.slots) (hdg : decode cc pc = .ok (.newarray .int, 2))
    (kk : ∀ (q : Nat) (H1 : Heap), q = H.size → iA G q N' (fun _ => 0) H1 → xC [] H H1 → H1.size = H.size + 1 → va_S (xA G) H0 H1 locs →
      W p l e R s m args below meth c H1 locs (cells + 1) (slots + N') Q (F0 m (pc + 2) ls (.ref q :: rest))) : W p l e R s m args below meth c H locs cells slots Q (F0 m pc ls (.int n :: rest)) := by
  refine va_newaK (atype := .int) hexec hb harr rfl hdg rfl hn hN hbytes hcells hslots rfl fun H1 cA e1 z1 o1 hAr hNm => ?_
  have hc : cA = xI G := Option.some.inj (hNm.symm.trans (hC.1.2 0 _ rfl).2)
  subst hc
  exact kk H.size H1 rfl e1 ⟨by omega, fun q hq _ => o1 q hq⟩ z1 ⟨Nat.le_trans hS.1 (by omega), fun x h1 h2 => (o1 x (Nat.lt_of_lt_of_le h1 hS.1)).trans (hS.2.1 x h1 h2), hS.2.2⟩
theorem x_newZ (hexec : p.tables.exec = Jvm.exec) (hb : c.code = cc) (harr : (Cond.arrayClass .boolean).before args s = true) (hC : xCx G s) {H0 : Heap} (hS : va_S (xA G) H0 H locs) {n : Int32} {N' : Nat} (hn : ¬ n < 0) (hN : n.toNatClampNeg = N') (hbytes : N' * componentBytes .boolean ≤ 536870912) (hcells : cells + 1 ≤ R.cells) (hslots : slots + N' ≤ R.slots) (hdg : decode cc pc = .ok (.newarray .boolean, 2))
    (kk : ∀ (q : Nat) (H1 : Heap), q = H.size → zA G q N' (fun _ => 0) H1 → xC [] H H1 → H1.size = H.size + 1 → va_S (xA G) H0 H1 locs →
      W p l e R s m args below meth c H1 locs (cells + 1) (slots + N') Q (F0 m (pc + 2) ls (.ref q :: rest))) : W p l e R s m args below meth c H locs cells slots Q (F0 m pc ls (.int n :: rest)) := by
  refine va_newaK (atype := .boolean) hexec hb harr rfl hdg rfl hn hN hbytes hcells hslots rfl fun H1 cA e1 z1 o1 hAr hNm => ?_
  have hc : cA = xZ G := Option.some.inj (hNm.symm.trans (hC.1.2 1 _ rfl).2)
  subst hc
  exact kk H.size H1 rfl e1 ⟨by omega, fun q hq _ => o1 q hq⟩ z1 ⟨Nat.le_trans hS.1 (by omega), fun x h1 h2 => (o1 x (Nat.lt_of_lt_of_le h1 hS.1)).trans (hS.2.1 x h1 h2), hS.2.2⟩
/-- throw new X(text) -/
theorem x_throw (hexec : p.tables.exec = Jvm.exec) (hb : c.code = cc) (hl : l.stackTraces = false) {cls text : String} {ik is ic : Nat} {Ts : List Cond} (hts : ∀ w ∈ Ts, w.before args s = true)
    (hown : s.vm.findClass "Bidwhistle" = some m.cls) (hcls : Bundle.fit cls = true) (hk : Cond.classLink "Bidwhistle" ik cls ∈ Ts) (hini : Cond.initialized cls ∈ Ts) (htx : (is, text) ∈ xTexts) (hat : ∀ w ∈ (vx_atS "Bidwhistle" ic cls ["java/lang/RuntimeException", "java/lang/Exception"]).filter goodWord, w ∈ Ts)
    (hbad : ∀ w ∈ (vx_atS "Bidwhistle" ic cls ["java/lang/RuntimeException", "java/lang/Exception"]).filter (fun w => !goodWord w), w ∈ xNest ∧ w.onTables = true)
    (hgood : ∀ w ∈ Cond.classLink "Bidwhistle" ik cls :: Cond.initialized cls :: vx_atS "Bidwhistle" ic cls ["java/lang/RuntimeException", "java/lang/Exception"], vx_ot w = true)
    (hC : xCx G s) (hS : va_S (xA G) s.heap H locs) (hsize : ls.size = c.maxLocals)
    (d0 : decode cc pc = .ok (.new ik, 3)) (d3 : decode cc (pc + 3) = .ok (.dup, 1)) (d4 : decode cc (pc + 4) = .ok (.ldc is, 2)) (d6 : decode cc (pc + 6) = .ok (.invokespecial ic, 3)) (d9 : decode cc (pc + 9) = .ok (.athrow, 1))
    (hout : ∀ x ∈ c.exceptionTable.toList, False)
    (hRframes : 5 < R.frames) (hRlocals : (rest.map fun v => v.category).sum + 82 ≤ R.locals) (hRcells : cells + 1 ≤ R.cells) (hRslots : slots + 6 ≤ R.slots) (hlocks : meth.locks = false)
    (hx : ∀ H1 : Heap, xC [] H H1 → px cls H1) (hc : cells + 1 ≤ mc) (hs : slots + 6 ≤ ms) {Qc : Array Value → State → Outcome → State → Prop} :
    W p l e R s m args below meth c H locs cells slots (vx_MQ below Qc (xX G px) args s mc ms (xA G)) (F0 m pc ls rest) := by
  refine vx_throwS (A := xA G) (names := ["java/lang/RuntimeException", "java/lang/Exception"]) (text := text) (sa := xT G is) hexec hb hl hown hcls (by decide +kernel) (hts _ hk) (hts _ hini) (hC.2.2.2.2.2.1 _ htx) ?_ hgood hC.2.2.2.1 hC.2.2.2.2.1 hS hsize d0 d3 d4 d6 d9 (fun x hx => (hout x hx).elim) hRframes hRlocals hRcells hRslots hlocks ?_ hS.2.2 hc hs
  · intro w hw
    by_cases hg : goodWord w = true
    · exact hts _ (hat w (List.mem_filter.mpr ⟨hw, hg⟩))
    · obtain ⟨h1, h2⟩ := hbad w (List.mem_filter.mpr ⟨hw, by simp [hg]⟩)
      exact va_Nw.use h2 (hC.2.1 w h1)
  · intro t ha h1 h2
    exact ⟨hx _ ⟨h1, fun q hq _ => h2 q hq⟩, Nat.le_trans hS.1 h1, fun q hq hn => (h2 q (Nat.lt_of_lt_of_le hq hS.1)).trans (hS.2.1 q hq hn)⟩
end XR
theorem xinc {i k : Nat} {z : Int} (h : Int32.ofInt z = nI k) : nI i + Int32.ofInt z = nI (i + k) := by rw [h]; exact nI_add i k
/-- the posts of readers -/
def xi (H : Heap) (r : Int32) : Option Value → Heap → Prop := fun v H1 => H1 = H ∧ v = some (.int r)
def xl (H : Heap) (r : Int64) : Option Value → Heap → Prop := fun v H1 => H1 = H ∧ v = some (.long r)
def xr (H : Heap) (r : Nat) : Option Value → Heap → Prop := fun v H1 => H1 = H ∧ v = some (.ref r)
def xv (H : Heap) : Option Value → Heap → Prop := fun v H1 => H1 = H ∧ v = none
/-- what a method throws: one class, under a condition; the heap stays -/
def xe (H : Heap) (cls : String) (P : Prop) : String → Heap → Prop := fun E H1 => E = cls ∧ P ∧ xC [] H H1
theorem x_met {l : Launch} {G : xG} {y : MethodName} {ws : List Cond} {rm : Room} {As : List Value} {H : Heap} {post : Option Value → Heap → Prop} (h : xMet l G y ws rm As H post xNo) : Met l y ws rm (xP G As H) (xQ G post) rm.cells rm.slots (xA G) := by
  intro p e ha hc hk s m args below hf happ hP hK
  obtain ⟨n, o, h1, h2, h3, h4⟩ := h p e ha hc hk s m args below hf happ hP hK
  refine ⟨n, o, h1, h2, h3, ?_⟩
  rcases h4 with h4 | ⟨q, -, E, ce, L, hx, -⟩
  · exact h4
  · exact hx.1.elim
section XR2
variable {p : Program} {l : Launch} {e : Env} {R : Room} {s : State} {m : MethodId} {args : Array Value} {below : List Frame} {meth : Method} {c : Code} {H : Heap} {locs : List Loc} {cells slots : Nat} {Q : State → Prop}
variable {cc : ByteArray} {pc : Nat} {ls : Array Slot} {rest st0 : List Value} {G G1 : xG} {a : Nat} {mc ms : Nat} {post : Option Value → Heap → Prop} {px : String → Heap → Prop}
theorem x_runOf {g : JFrame} {Qa : State → Outcome → State → Prop} {XC : String → State → State → Prop} {free : Addr → Prop} (h : va_Run p l e R s m args below meth c H locs cells slots mc ms g rest Qa free) : vx_Run p l e R s m args below meth c H locs cells slots mc ms g rest Qa XC free := fun T hT X => Or.inl (h T hT X)
theorem x_intE {aa : Array Value} {r : Int32} (hr : vx_Run p l e R s m args below meth c H locs cells slots mc ms (F0 m pc ls st0) rest (xQ G (xi H r) aa) (xX G xNo) (xA G)) (hS : va_S (xA G) s.heap H locs)
    (kk : ∀ (locs1 : List Loc), va_S (xA G) s.heap H locs1 → W p l e R s m args below meth c H locs1 (cells + mc) (slots + ms) Q (F0 m (pc + 3) ls (.int r :: rest))) : W p l e R s m args below meth c H locs cells slots Q (F0 m pc ls st0) := by
  refine x_call hr hS (fun _ h => h) (fun _ _ _ _ _ h => h.elim) (fun v H1 locs1 hp _ _ hS1 => ?_)
  obtain ⟨rfl, rfl⟩ := hp
  exact kk locs1 hS1
theorem x_lngE {aa : Array Value} {r : Int64} (hr : vx_Run p l e R s m args below meth c H locs cells slots mc ms (F0 m pc ls st0) rest (xQ G (xl H r) aa) (xX G xNo) (xA G)) (hS : va_S (xA G) s.heap H locs)
    (kk : ∀ (locs1 : List Loc), va_S (xA G) s.heap H locs1 → W p l e R s m args below meth c H locs1 (cells + mc) (slots + ms) Q (F0 m (pc + 3) ls (.long r :: rest))) : W p l e R s m args below meth c H locs cells slots Q (F0 m pc ls st0) := by
  refine x_call hr hS (fun _ h => h) (fun _ _ _ _ _ h => h.elim) (fun v H1 locs1 hp _ _ hS1 => ?_)
  obtain ⟨rfl, rfl⟩ := hp
  exact kk locs1 hS1
theorem x_refE {aa : Array Value} {r : Nat} (hr : vx_Run p l e R s m args below meth c H locs cells slots mc ms (F0 m pc ls st0) rest (xQ G (xr H r) aa) (xX G xNo) (xA G)) (hS : va_S (xA G) s.heap H locs)
    (kk : ∀ (locs1 : List Loc), va_S (xA G) s.heap H locs1 → W p l e R s m args below meth c H locs1 (cells + mc) (slots + ms) Q (F0 m (pc + 3) ls (.ref r :: rest))) : W p l e R s m args below meth c H locs cells slots Q (F0 m pc ls st0) := by
  refine x_call hr hS (fun _ h => h) (fun _ _ _ _ _ h => h.elim) (fun v H1 locs1 hp _ _ hS1 => ?_)
  obtain ⟨rfl, rfl⟩ := hp
  exact kk locs1 hS1
theorem x_iald (hexec : p.tables.exec = Jvm.exec) (hb : c.code = cc) (hC : xCx G s) {n j : Nat} {f : Nat → Int32} (he : iA G a n f H) (hj : j < n) (hn : n < 2147483648) (hdg : decode cc pc = .ok (.iaload, 1))
    (kk : W p l e R s m args below meth c H locs cells slots Q (F0 m (pc + 1) ls (.int (f j) :: rest))) : W p l e R s m args below meth c H locs cells slots Q (F0 m pc ls (.int (nI j) :: .ref a :: rest)) := by
  refine va_iald (D := xD G) hexec hb hC.1 (x1 he) 0 0 rfl rfl (vp_in_nI hj hn) hdg ?_
  rw [nI_clamp (Nat.lt_trans hj hn)]
  exact kk
theorem x_zald (hexec : p.tables.exec = Jvm.exec) (hb : c.code = cc) (hC : xCx G s) {n j : Nat} {f : Nat → Int32} (he : zA G a n f H) (hj : j < n) (hn : n < 2147483648) (hdg : decode cc pc = .ok (.baload, 1))
    (kk : W p l e R s m args below meth c H locs cells slots Q (F0 m (pc + 1) ls (.int (f j) :: rest))) : W p l e R s m args below meth c H locs cells slots Q (F0 m pc ls (.int (nI j) :: .ref a :: rest)) := by
  refine va_zald (D := xD G) hexec hb hC.1 (x1 he) 0 1 rfl rfl (vp_in_nI hj hn) hdg ?_
  rw [nI_clamp (Nat.lt_trans hj hn)]
  exact kk
theorem x_jald (hexec : p.tables.exec = Jvm.exec) (hb : c.code = cc) (hC : xCx G s) {n j : Nat} {f : Nat → Int64} (he : jA G a n f H) (hj : j < n) (hn : n < 2147483648) (hdg : decode cc pc = .ok (.laload, 1))
    (kk : W p l e R s m args below meth c H locs cells slots Q (F0 m (pc + 1) ls (.long (f j) :: rest))) : W p l e R s m args below meth c H locs cells slots Q (F0 m pc ls (.int (nI j) :: .ref a :: rest)) := by
  refine va_lald (D := xD G) hexec hb hC.1 (x1 he) 0 3 rfl rfl (vp_in_nI hj hn) hdg ?_
  rw [nI_clamp (Nat.lt_trans hj hn)]
  exact kk
theorem x_iastn (hexec : p.tables.exec = Jvm.exec) (hb : c.code = cc) (hC : xCx G s) {H0 : Heap} (hS : va_S (xA G) H0 H locs) (ha : xA G a) {n j : Nat} {f : Nat → Int32} (he : iA G a n f H) {x : Int32} (hj : j < n) (hn : n < 2147483648) (hdg : decode cc pc = .ok (.iastore, 1))
    (kk : ∀ (H1 : Heap) (locs1 : List Loc), iA G a n (upd f j x) H1 → xC [a] H H1 → va_S (xA G) H0 H1 locs1 → W p l e R s m args below meth c H1 locs1 cells slots Q (F0 m (pc + 1) ls rest)) : W p l e R s m args below meth c H locs cells slots Q (F0 m pc ls (.int x :: .int (nI j) :: .ref a :: rest)) := by
  refine x_iast hexec hb hC hS ha he (vp_in_nI hj hn) hdg fun H1 locs1 h1 h2 h3 => kk H1 locs1 ?_ h2 h3
  rw [nI_clamp (Nat.lt_trans hj hn)] at h1
  exact h1
theorem x_zastn (hexec : p.tables.exec = Jvm.exec) (hb : c.code = cc) (hC : xCx G s) {H0 : Heap} (hS : va_S (xA G) H0 H locs) (ha : xA G a) {n j : Nat} {f : Nat → Int32} (he : zA G a n f H) {x : Int32} (hj : j < n) (hn : n < 2147483648) (hx : narrow .boolean (.int x) = .int x) (hdg : decode cc pc = .ok (.bastore, 1))
    (kk : ∀ (H1 : Heap) (locs1 : List Loc), zA G a n (upd f j x) H1 → xC [a] H H1 → va_S (xA G) H0 H1 locs1 → W p l e R s m args below meth c H1 locs1 cells slots Q (F0 m (pc + 1) ls rest)) : W p l e R s m args below meth c H locs cells slots Q (F0 m pc ls (.int x :: .int (nI j) :: .ref a :: rest)) := by
  refine x_zast hexec hb hC hS ha he (vp_in_nI hj hn) hdg fun H1 locs1 h1 h2 h3 => kk H1 locs1 ?_ h2 h3
  have e1 : vp_nar .boolean x = x := by unfold vp_nar; rw [hx]
  rw [nI_clamp (Nat.lt_trans hj hn), e1] at h1
  exact h1
theorem x_jastn (hexec : p.tables.exec = Jvm.exec) (hb : c.code = cc) (hC : xCx G s) {H0 : Heap} (hS : va_S (xA G) H0 H locs) (ha : xA G a) {n j : Nat} {f : Nat → Int64} (he : jA G a n f H) {x : Int64} (hj : j < n) (hn : n < 2147483648) (hdg : decode cc pc = .ok (.lastore, 1))
    (kk : ∀ (H1 : Heap) (locs1 : List Loc), jA G a n (vp_updL f j x) H1 → xC [a] H H1 → va_S (xA G) H0 H1 locs1 → W p l e R s m args below meth c H1 locs1 cells slots Q (F0 m (pc + 1) ls rest)) : W p l e R s m args below meth c H locs cells slots Q (F0 m pc ls (.long x :: .int (nI j) :: .ref a :: rest)) := by
  refine x_last hexec hb hC hS ha he (vp_in_nI hj hn) hdg fun H1 locs1 h1 h2 h3 => kk H1 locs1 ?_ h2 h3
  rw [nI_clamp (Nat.lt_trans hj hn)] at h1
  exact h1
end XR2
/-- a new cell's address is none of the old ones -/
theorem xlt {D : va_G} {cl : List vw_C} {q : Nat × va_E} {H : Heap} {b : Nat} (h : va_at D cl q H) (hb : b = H.size) : q.1 ≠ b := Nat.ne_of_lt (by rw [hb]; exact h.lt)
/-- booleans as ints -/
def xb (b : Bool) : Int32 := if b then 1 else 0
theorem xb_nar (b : Bool) : narrow .boolean (.int (xb b)) = .int (xb b) := by cases b <;> rfl
theorem xb_fit (b : Bool) : fits .boolean (.int (xb b)) = true := by cases b <;> rfl
theorem xb_0 {b : Bool} : xb b = 0 ↔ b = false := by cases b <;> simp [xb]
theorem xb_eq {a b : Bool} : xb a = xb b ↔ a = b := by cases a <;> cases b <;> simp [xb]
end
section
/-! the mathematics of programs: steps as numbers, a stack as a function and a depth -/
def xcl (z : Int) : Int := if 100000 < z then 100000 else if z < -100000 then -100000 else z
def xop (s : Nat) (x y : Int) : Int := if s = 11 then x + y else if s = 12 then x - y else if s = 13 then x * y else if s = 14 then (if y = 0 then 0 else x.tdiv y) else if s = 15 then (if x ≤ y then x else y) else (if y ≤ x then x else y)
def xstep (s v : Nat) (q : (Nat → Int) × Nat) : (Nat → Int) × Nat :=
  if s < 10 then (va_up q.1 q.2 (s : Int), q.2 + 1) else if s = 10 then (va_up q.1 q.2 (v : Int), q.2 + 1) else (va_up q.1 (q.2 - 2) (xcl (xop s (q.1 (q.2 - 2)) (q.1 (q.2 - 1)))), q.2 - 1)
def xrun (t : Nat → Nat) (v : Nat) (g : Nat → Int) : Nat → (Nat → Int) × Nat
  | 0 => (g, 0)
  | k + 1 => xstep (t k) v (xrun t v g k)
def xdep (t : Nat → Nat) : Nat → Option Nat
  | 0 => some 0
  | k + 1 => match xdep t k with
    | none => none
    | some d => if t k ≤ 10 then some (d + 1) else if d < 2 then none else some (d - 1)
def xright (t : Nat → Nat) (n : Nat) : Bool := decide (xdep t n = some 1)
def xbd (z : Int) : Int := if z < 0 then 0 else if 999 < z then 999 else z
def xbid (t : Nat → Nat) (n v : Nat) : Int := xbd ((xrun t v (fun _ => 0) n).1 0)
theorem xdep_succ {t : Nat → Nat} {k d : Nat} (h : xdep t (k + 1) = some d) : ∃ e, xdep t k = some e ∧ ((t k ≤ 10 ∧ d = e + 1) ∨ (¬ t k ≤ 10 ∧ 2 ≤ e ∧ d = e - 1)) := by
  unfold xdep at h
  cases hk : xdep t k with
  | none => rw [hk] at h; cases h
  | some e =>
    rw [hk] at h
    refine ⟨e, rfl, ?_⟩
    by_cases c : t k ≤ 10
    · simp only [c, if_true] at h
      exact Or.inl ⟨c, by simpa using h.symm⟩
    · by_cases c2 : e < 2
      · simp only [c, c2, if_true, if_false] at h; cases h
      · simp only [c, c2, if_false] at h
        exact Or.inr ⟨c, by omega, by simpa using h.symm⟩
theorem xdep_le {t : Nat → Nat} : ∀ {k d : Nat}, xdep t k = some d → d ≤ k
  | 0, d, h => by unfold xdep at h; have : 0 = d := by simpa using h
                  omega
  | k + 1, d, h => by
    obtain ⟨e, he, h2⟩ := xdep_succ h
    have := xdep_le he
    omega
/-- what holds below a right place is right -/
theorem xdep_below {t : Nat → Nat} {n d : Nat} (h : xdep t n = some d) : ∀ k, k ≤ n → ∃ e, xdep t k = some e := by
  induction n generalizing d with
  | zero => intro k hk; exact ⟨d, by rw [show k = 0 by omega]; exact h⟩
  | succ n ih =>
    intro k hk
    obtain ⟨e, he, -⟩ := xdep_succ h
    rcases Nat.lt_or_ge k (n + 1) with c | c
    · exact ih he k (by omega)
    · exact ⟨d, by rw [show k = n + 1 by omega]; exact h⟩
theorem xcl_in (z : Int) : -100000 ≤ xcl z ∧ xcl z ≤ 100000 := by unfold xcl; split <;> (try split) <;> omega
theorem xrun_2 {t : Nat → Nat} {v : Nat} {g : Nat → Int} : ∀ {k d : Nat}, xdep t k = some d → (xrun t v g k).2 = d
  | 0, d, h => by unfold xdep at h; have : 0 = d := by simpa using h
                  subst this; rfl
  | k + 1, d, h => by
    obtain ⟨e, he, h2⟩ := xdep_succ h
    have ih := xrun_2 (v := v) (g := g) he
    show (xstep (t k) v (xrun t v g k)).2 = d
    unfold xstep
    rcases h2 with ⟨c, rfl⟩ | ⟨c, c2, rfl⟩
    · by_cases c3 : t k < 10
      · simp only [c3, if_true]; rw [ih]
      · have c4 : t k = 10 := by omega
        simp only [c4, if_true, show ¬ (10 < 10) by omega, if_false]; rw [ih]
    · simp only [show ¬ (t k < 10) by omega, show ¬ (t k = 10) by omega, if_false]; rw [ih]
/-- what lies on the stack is within the bounds -/
theorem xrun_in {t : Nat → Nat} {v : Nat} {g : Nat → Int} (hv : v ≤ 99) : ∀ {k d : Nat}, xdep t k = some d → ∀ j, j < d → -100000 ≤ (xrun t v g k).1 j ∧ (xrun t v g k).1 j ≤ 100000
  | 0, d, h, j, hj => by unfold xdep at h; have : 0 = d := by simpa using h
                         omega
  | k + 1, d, h, j, hj => by
    obtain ⟨e, he, h2⟩ := xdep_succ h
    have ih := xrun_in (g := g) hv he
    have i2 := xrun_2 (v := v) (g := g) he
    show -100000 ≤ (xstep (t k) v (xrun t v g k)).1 j ∧ (xstep (t k) v (xrun t v g k)).1 j ≤ 100000
    unfold xstep
    rcases h2 with ⟨c, rfl⟩ | ⟨c, c2, rfl⟩
    · by_cases c3 : t k < 10
      · simp only [c3, if_true, va_up, i2]
        split
        · omega
        · exact ih j (by omega)
      · have c4 : t k = 10 := by omega
        simp only [c4, if_true, show ¬ (10 < 10) by omega, if_false, va_up, i2]
        split
        · omega
        · exact ih j (by omega)
    · simp only [show ¬ (t k < 10) by omega, show ¬ (t k = 10) by omega, if_false, va_up, i2]
      split
      · exact xcl_in _
      · exact ih j (by omega)
/-- it doesn't matter what lay there before -/
theorem xrun_g {t : Nat → Nat} {v : Nat} {g g2 : Nat → Int} : ∀ {k d : Nat}, xdep t k = some d → ∀ j, j < d → (xrun t v g k).1 j = (xrun t v g2 k).1 j
  | 0, d, h, j, hj => by unfold xdep at h; have : 0 = d := by simpa using h
                         omega
  | k + 1, d, h, j, hj => by
    obtain ⟨e, he, h2⟩ := xdep_succ h
    have ih := xrun_g (v := v) (g := g) (g2 := g2) he
    have i2 := xrun_2 (v := v) (g := g) he
    have i3 := xrun_2 (v := v) (g := g2) he
    show (xstep (t k) v (xrun t v g k)).1 j = (xstep (t k) v (xrun t v g2 k)).1 j
    unfold xstep
    rcases h2 with ⟨c, rfl⟩ | ⟨c, c2, rfl⟩
    · by_cases c3 : t k < 10
      · simp only [c3, if_true, va_up, i2, i3]
        split
        · rfl
        · exact ih j (by omega)
      · have c4 : t k = 10 := by omega
        simp only [c4, if_true, show ¬ (10 < 10) by omega, if_false, va_up, i2, i3]
        split
        · rfl
        · exact ih j (by omega)
    · simp only [show ¬ (t k < 10) by omega, show ¬ (t k = 10) by omega, if_false, va_up, i2, i3]
      split
      · rw [ih (e - 2) (by omega), ih (e - 1) (by omega)]
      · exact ih j (by omega)
theorem xright_1 {t : Nat → Nat} {n : Nat} (h : xright t n = true) : xdep t n = some 1 := by simpa [xright] using h
theorem xbid_g {t : Nat → Nat} {n v : Nat} (g : Nat → Int) (h : xright t n = true) : xbd ((xrun t v g n).1 0) = xbid t n v := by
  unfold xbid
  rw [xrun_g (g := g) (g2 := fun _ => 0) (xright_1 h) 0 (by omega)]
theorem xbd_in (z : Int) : 0 ≤ xbd z ∧ xbd z ≤ 999 := by unfold xbd; split <;> (try split) <;> omega
/-- only the steps up to the length count -/
theorem xdep_cong {t t2 : Nat → Nat} : ∀ {n : Nat}, (∀ k, k < n → t k = t2 k) → xdep t n = xdep t2 n
  | 0, _ => rfl
  | n + 1, h => by
    unfold xdep
    rw [xdep_cong (fun k hk => h k (by omega)), h n (by omega)]
theorem xrun_cong {t t2 : Nat → Nat} {v : Nat} {g : Nat → Int} : ∀ {n : Nat}, (∀ k, k < n → t k = t2 k) → xrun t v g n = xrun t2 v g n
  | 0, _ => rfl
  | n + 1, h => by
    unfold xrun
    rw [xrun_cong (fun k hk => h k (by omega)), h n (by omega)]
theorem xright_cong {t t2 : Nat → Nat} {n : Nat} (h : ∀ k, k < n → t k = t2 k) : xright t n = xright t2 n := by unfold xright; rw [xdep_cong h]
theorem xbid_cong {t t2 : Nat → Nat} {n v : Nat} (h : ∀ k, k < n → t k = t2 k) : xbid t n v = xbid t2 n v := by unfold xbid; rw [xrun_cong h]
/-- two rows that are the same up to a length -/
def xsame {α : Type} (e : α → α → Bool) (f g : Nat → α) : Nat → Bool
  | 0 => true
  | n + 1 => xsame e f g n && e (f n) (g n)
theorem xsame_iff {α : Type} {e : α → α → Bool} {f g : Nat → α} : ∀ {n : Nat}, xsame e f g n = true ↔ ∀ k, k < n → e (f k) (g k) = true
  | 0 => ⟨fun _ k hk => absurd hk (Nat.not_lt_zero k), fun _ => rfl⟩
  | n + 1 => by
    unfold xsame
    rw [Bool.and_eq_true, xsame_iff]
    exact ⟨fun h k hk => by rcases Nat.lt_or_ge k n with c | c; exact h.1 k c; rw [show k = n by omega]; exact h.2, fun h => ⟨fun k hk => h k (by omega), h n (by omega)⟩⟩
/-- the bits of a program's steps -/
def xbit (s : Nat) : Int32 := nI 1 <<< (nI s &&& 31)
def xbits (t : Nat → Nat) : Nat → Int32
  | 0 => nI 0
  | n + 1 => xbits t n ||| xbit (t n)
theorem xbits_cong {t t2 : Nat → Nat} : ∀ {n : Nat}, (∀ k, k < n → t k = t2 k) → xbits t n = xbits t2 n
  | 0, _ => rfl
  | n + 1, h => by unfold xbits; rw [xbits_cong (fun k hk => h k (by omega)), h n (by omega)]
theorem xbits_up {t : Nat → Nat} {n s : Nat} : xbits (va_up t n s) (n + 1) = xbits t n ||| xbit s := by
  show xbits (va_up t n s) n ||| xbit (va_up t n s n) = _
  rw [xbits_cong (t2 := t) (fun k hk => va_up_ne _ _ (by omega)), va_up_self]
theorem upd_nI {t : Nat → Nat} {n s : Nat} : upd (fun k => nI (t k)) n (nI s) = fun k => nI (va_up t n s k) := by
  funext k
  by_cases h : k = n
  · subst h; simp [upd, va_up]
  · simp [upd, va_up, h]
theorem upd_ofInt {t : Nat → Int} {n : Nat} {s : Int} : upd (fun k => Int32.ofInt (t k)) n (Int32.ofInt s) = fun k => Int32.ofInt (va_up t n s k) := by
  funext k
  by_cases h : k = n
  · subst h; simp [upd, va_up]
  · simp [upd, va_up, h]
theorem xlt2 {D : va_G} {cl : List vw_C} {q : Nat × va_E} {H : Heap} {b : Nat} (h : va_at D cl q H) (hb : H.size ≤ b) : q.1 ≠ b := Nat.ne_of_lt (Nat.lt_of_lt_of_le h.lt hb)
section XR3
variable {p : Program} {l : Launch} {e : Env} {R : Room} {s : State} {m : MethodId} {args : Array Value} {below : List Frame} {meth : Method} {c : Code} {H : Heap} {locs : List Loc} {cells slots : Nat} {Q : State → Prop}
variable {cc : ByteArray} {pc : Nat} {ls : Array Slot} {rest : List Value} {a b : Nat}
theorem x_iaddn (hx : p.tables.exec = Jvm.exec) (hb : c.code = cc) (hdg : decode cc pc = .ok (.iadd, 1)) (k : W p l e R s m args below meth c H locs cells slots Q (F0 m (pc + 1) ls (.int (nI (a + b)) :: rest))) : W p l e R s m args below meth c H locs cells slots Q (F0 m pc ls (.int (nI b) :: .int (nI a) :: rest)) :=
  lv_iadd hx hb hdg (by rw [nI_add]; exact k)
theorem x_imuln (hx : p.tables.exec = Jvm.exec) (hb : c.code = cc) (hdg : decode cc pc = .ok (.imul, 1)) (k : W p l e R s m args below meth c H locs cells slots Q (F0 m (pc + 1) ls (.int (nI (a * b)) :: rest))) : W p l e R s m args below meth c H locs cells slots Q (F0 m pc ls (.int (nI b) :: .int (nI a) :: rest)) :=
  lv_imul hx hb hdg (by rw [pk_mul]; exact k)
theorem x_isubn (hx : p.tables.exec = Jvm.exec) (hb : c.code = cc) (hdg : decode cc pc = .ok (.isub, 1)) (h : b ≤ a) (k : W p l e R s m args below meth c H locs cells slots Q (F0 m (pc + 1) ls (.int (nI (a - b)) :: rest))) : W p l e R s m args below meth c H locs cells slots Q (F0 m pc ls (.int (nI b) :: .int (nI a) :: rest)) :=
  lv_isub hx hb hdg (by rw [pk_sub h]; exact k)
theorem x_idivn (hx : p.tables.exec = Jvm.exec) (hb : c.code = cc) (hdg : decode cc pc = .ok (.idiv, 1)) (ha : a < 2 ^ 31) (h0 : 0 < b) (hb2 : b < 2 ^ 31) (k : W p l e R s m args below meth c H locs cells slots Q (F0 m (pc + 1) ls (.int (nI (a / b)) :: rest))) : W p l e R s m args below meth c H locs cells slots Q (F0 m pc ls (.int (nI b) :: .int (nI a) :: rest)) :=
  lv_idiv hx hb hdg (nI_ne0 h0 hb2) (by rw [pk_div ha h0 hb2]; exact k)
end XR3
end
section
/-! Row, Stack, Program, Strategy: contracts; the pictures -/
/-- a program: its object, its row, its steps t up to n, their bits -/
def pA (G : xG) (p r a : Nat) (t : Nat → Nat) (n : Nat) (H : Heap) : Prop := oA G p 1 [.ref r, .int (nI n), .int (xbits t n)] H ∧ oA G r 2 [.ref a] H ∧ iA G a 7 (fun k => nI (t k)) H ∧ n ≤ 7 ∧ p ≠ r ∧ p ≠ a ∧ r ≠ a ∧ ∀ k, t k ≤ 16
/-- a stack of depth d -/
def sA (G : xG) (k r a : Nat) (g : Nat → Int) (d : Nat) (H : Heap) : Prop := oA G k 3 [.ref r, .int (nI d)] H ∧ oA G r 2 [.ref a] H ∧ iA G a 7 (fun j => Int32.ofInt (g j)) H ∧ d ≤ 7 ∧ k ≠ r ∧ k ≠ a ∧ r ≠ a
theorem pA.kept {G : xG} {p r a n : Nat} {t : Nat → Nat} {H H1 : Heap} {L : List Nat} (h : pA G p r a t n H) (hc : xC L H H1) (h1 : p ∉ L) (h2 : r ∉ L) (h3 : a ∉ L) : pA G p r a t n H1 := ⟨hc.at h.1 h1, hc.at h.2.1 h2, hc.at h.2.2.1 h3, h.2.2.2⟩
theorem sA.kept {G : xG} {p r a n : Nat} {t : Nat → Int} {H H1 : Heap} {L : List Nat} (h : sA G p r a t n H) (hc : xC L H H1) (h1 : p ∉ L) (h2 : r ∉ L) (h3 : a ∉ L) : sA G p r a t n H1 := ⟨hc.at h.1 h1, hc.at h.2.1 h2, hc.at h.2.2.1 h3, h.2.2.2⟩
theorem xl_toInt {z : Int} (h1 : -1000000000000 ≤ z) (h2 : z ≤ 1000000000000) : (Int64.ofInt z).toInt = z := Int64.toInt_ofInt_of_le (by omega) (by omega)
theorem xi_toInt {z : Int} (h1 : -1000000000 ≤ z) (h2 : z ≤ 1000000000) : (Int32.ofInt z).toInt = z := Int32.toInt_ofInt_of_le (by omega) (by omega)
theorem xclamp {z : Int} (h1 : -1000000000000 ≤ z) (h2 : z ≤ 1000000000000) : (if (if Int64.ofInt z < 100000 then Int64.ofInt z else 100000) < -100000 then -100000 else (if Int64.ofInt z < 100000 then Int64.ofInt z else 100000)).toInt32 = Int32.ofInt (xcl z) := by
  have e := xl_toInt h1 h2
  have k1 : Int64.ofInt z < 100000 ↔ z < 100000 := by rw [Int64.lt_iff_toInt_lt, e]; exact Iff.rfl
  have k2 : Int64.ofInt z < -100000 ↔ z < -100000 := by rw [Int64.lt_iff_toInt_lt, e]; exact Iff.rfl
  unfold xcl
  by_cases c : z < 100000
  · rw [if_pos (k1.mpr c)]
    by_cases c2 : z < -100000
    · rw [if_pos (k2.mpr c2), if_neg (by omega), if_pos c2]; rfl
    · rw [if_neg (fun q => c2 (k2.mp q)), if_neg (by omega), if_neg c2, Int64.toInt32_ofInt]
  · rw [if_neg (fun q => c (k1.mp q)), if_neg (by decide)]
    by_cases c2 : 100000 < z
    · rw [if_pos c2]; rfl
    · rw [if_neg c2, if_neg (by omega), show z = 100000 by omega]; rfl
theorem xi2l {s : Nat} (h : s < 1000000) : (nI s).toInt64 = Int64.ofInt (s : Int) := by
  apply Int64.toInt.inj
  rw [Int32.toInt_toInt64, nI_toInt (by omega), xl_toInt (by omega) (by omega)]
theorem xz2l {z : Int} (h1 : -100000 ≤ z) (h2 : z ≤ 100000) : (Int32.ofInt z).toInt64 = Int64.ofInt z := by
  apply Int64.toInt.inj
  rw [Int32.toInt_toInt64, xi_toInt (by omega) (by omega), xl_toInt (by omega) (by omega)]
theorem xl_lt {x y : Int} (hx : -100000 ≤ x ∧ x ≤ 100000) (hy : -100000 ≤ y ∧ y ≤ 100000) : Int64.ofInt x < Int64.ofInt y ↔ x < y := by
  rw [Int64.lt_iff_toInt_lt, xl_toInt (by omega) (by omega), xl_toInt (by omega) (by omega)]
theorem xcmp0 {y : Int} (hy : -100000 ≤ y ∧ y ≤ 100000) : lg_cmp (Int64.ofInt y) (lN 0) = 0 ↔ y = 0 := by
  have e : lN 0 = Int64.ofInt 0 := rfl
  have h0 : (-100000 : Int) ≤ 0 ∧ (0 : Int) ≤ 100000 := by decide
  rw [e]
  unfold lg_cmp
  by_cases c : 0 < y
  · rw [if_pos ((xl_lt h0 hy).mpr c)]; exact ⟨fun q => absurd q (by decide), fun q => by omega⟩
  · rw [if_neg (fun q => c ((xl_lt h0 hy).mp q))]
    by_cases c2 : y = 0
    · subst c2; exact ⟨fun _ => rfl, fun _ => rfl⟩
    · rw [if_neg (fun q => c2 (by have := congrArg Int64.toInt q; rw [xl_toInt (by omega) (by omega), xl_toInt (by omega) (by omega)] at this; exact this))]
      exact ⟨fun q => absurd q (by decide), fun q => absurd q c2⟩
theorem xne0 {y : Int} (hy : -100000 ≤ y ∧ y ≤ 100000) (h : y ≠ 0) : ¬ Int64.ofInt y = 0 := fun q => h (by have := congrArg Int64.toInt q; rw [xl_toInt (by omega) (by omega)] at this; exact this)
def xeq (a b : Int32) : Bool := decide (a = b)

set_option maxHeartbeats 4000000 in
set_option maxRecDepth 100000 in
/-- new Row(n) -/
theorem c_X1_init (l : Launch) (hfl : l.stackTraces = false) (G : xG) (r n : Nat) (H : Heap) (hr0 : oA G r 2 [.null] H) (hA_r : xA G r) (hn : n ≤ 100) : xMet l G yX1_init wsX1_init ({ frames := 1, cells := 1, slots := 100, locals := 30 } : Room) [.ref r, .int (nI n)] H (fun v H1 => v = none ∧ ∃ q, H.size ≤ q ∧ oA G r 2 [.ref q] H1 ∧ iA G q n (fun _ => nI 0) H1 ∧ xC [r] H H1) (xNo) := by
  refine vx_ofW (cc := cX1_init) (maxL := 2) (ret := none) (by decide) rfl ?_
  intro p e s m args below meth c s₁ B hml hout hv
  obtain ⟨rfl, hH, hC⟩ := hv
  have hx := B.exec
  have hb := B.bytes
  have hr := B.returns
  have hts := atoms_spec (ws := wsX1_init) B.pre
  have hown : s.vm.findClass RX1 = some m.cls := findClass_of_methodNamed B.named
  have hlocks := B.notSynchronized
  have hin : meth.name = "<init>" := (name_of_methodNamed B.named B.method).1
  rw [hH]
  have hS : va_S (xA G) s.heap H [] := by rw [← hH]; exact va_S.rf
  generalize ([] : List Loc) = locs at hS ⊢
  have hl := lv_entry [.ref r, .int (nI n)] (n := 2) (Nat.le_of_ble_eq_true rfl)
  rw [lg_entry_eq]
  generalize (lg_sl [.ref r, .int (nI n)] ++ List.replicate (2 - (lg_sl [.ref r, .int (nI n)]).length) Slot.unset).toArray = ls at hl ⊢
  have hl : lv_has ls 2 [(0, .ref r), (1, .int (nI n))] := hl
  refine lv_aload_n hx hb dX1_init_0 rfl (lv_at hl 0 rfl) ?_
  refine W.objInit hx hb hown (hts (.methodLink RX1 1 objectInit) (by decide +kernel)) (hts (.instanceMethod objectInit) (by decide +kernel)) (hts (.code objectInit ⟨#[0xb1]⟩ 1 none) (by decide +kernel)) rfl (by rw [hml]; exact hl.1) rfl dX1_init_1 (Nat.le_of_ble_eq_true rfl) (Nat.le_of_ble_eq_true rfl) ?_
  refine W.eq (g2 := F0 m 4 ls []) rfl ?_
  refine lv_aload_n hx hb dX1_init_4 rfl (lv_at hl 0 rfl) ?_
  refine lv_iconst (v := (nI 0)) hx hb dX1_init_5 (by decide) ?_
  refine lv_iload_n hx hb dX1_init_6 rfl (lv_at hl 1 rfl) ?_
  refine va_mmax hx hb (by rw [hml]; exact hl.1.symm) hown (hts (.methodLink RX1 7 Lib.Math.max.name) (by decide +kernel)) (hts (.static Lib.Math.max.name) (by decide +kernel)) (hts (.initialized "java/lang/Math") (by decide +kernel)) (hts (.code Lib.Math.max.name Lib.Math.max.code 2 (some .int)) (by decide +kernel)) (Nat.le_of_ble_eq_true rfl) (Nat.le_of_ble_eq_true rfl) (by first | exact Nat.le_of_ble_eq_true rfl | omega) (by first | exact Nat.le_of_ble_eq_true rfl | omega) dX1_init_7 ?_
  rw [show (if (nI 0) < (nI n) then (nI n) else (nI 0)) = (nI n) from by by_cases h : n = 0; (subst h; rfl); rw [if_pos ((nI_ltI (by omega) (by omega)).mpr (by omega))]]
  have hsz := hS.1
  refine x_newI (G := G) (N' := n) hx hb (hts (.arrayClass .int) (by decide +kernel)) hC hS (nI_pos (by omega)) (nI_clamp (by omega)) (by first | decide | (simp [componentBytes]; omega)) (by first | exact Nat.le_of_ble_eq_true rfl | exact (show 0 + 1 ≤ 1 by omega)) (by first | exact Nat.le_of_ble_eq_true rfl | exact (show 0 + n ≤ 100 by omega)) dX1_init_10 (fun q_1 H_6 eq_4 ha_2 hc_3 hz_5 hS => ?_)
  have hA_q_1 : xA G q_1 := hC.2.2.1 _ (by rw [eq_4]; exact hsz)
  have ne_7 : r ≠ q_1 := xlt hr0 eq_4
  have hr0 := hc_3.at0 hr0
  refine x_putF (G := G) (ci := 2) (v := .ref q_1) (ty := (.array .int)) (C := RX1) (T := TX1) (N := 1) hx hb hts (by decide +kernel) tyX1 tyX1_ok nmX1 hown hC hS hA_r hr0 rfl 0 (by decide) (hts (.fieldLink RX1 13 "Bidwhistle$Row" "numbers" "[I") (by decide +kernel)) (fun _ h9 => h9) rfl hin rfl (by decide +kernel) rfl rfl (Nat.le_of_ble_eq_true rfl) dX1_init_12 (fun H_9 locs hr0 hc_8 hS => ?_)
  have hr0 : oA G r 2 [.ref q_1] H_9 := hr0
  have ha_2 := hc_8.at ha_2 (xn1 (Ne.symm ne_7))
  exact x_vret (G := G) hx hb hr dX1_init_15 hlocks hS (by first | exact Nat.le_of_ble_eq_true rfl | exact (show 0 + 1 ≤ 1 by omega)) (by first | exact Nat.le_of_ble_eq_true rfl | exact (show 0 + n ≤ 100 by omega)) ⟨rfl, q_1, Nat.le_of_eq eq_4.symm, hr0, ha_2, ((hc_3.tr hc_8).mono (fun q hq => by simp only [List.mem_append, List.mem_cons, List.not_mem_nil, or_false, false_or] at hq ⊢; omega))⟩

set_option maxHeartbeats 4000000 in
set_option maxRecDepth 100000 in
/-- Row.at(j) -/
theorem c_X1_at (l : Launch) (hfl : l.stackTraces = false) (G : xG) (r a n j : Nat) (f : Nat → Int32) (H : Heap) (hr0 : oA G r 2 [.ref a] H) (ha0 : iA G a n f H) (hj : j < n) (hn : n < 2147483648) : xMet l G yX1_at wsX1_at ({ frames := 0, cells := 0, slots := 0, locals := 0 } : Room) [.ref r, .int (nI j)] H (xi H (f j)) (xNo) := by
  refine vx_ofW (cc := cX1_at) (maxL := 2) (ret := (some .int)) (by decide) rfl ?_
  intro p e s m args below meth c s₁ B hml hout hv
  obtain ⟨rfl, hH, hC⟩ := hv
  have hx := B.exec
  have hb := B.bytes
  have hr := B.returns
  have hts := atoms_spec (ws := wsX1_at) B.pre
  have hown : s.vm.findClass RX1 = some m.cls := findClass_of_methodNamed B.named
  have hlocks := B.notSynchronized
  rw [hH]
  have hS : va_S (xA G) s.heap H [] := by rw [← hH]; exact va_S.rf
  generalize ([] : List Loc) = locs at hS ⊢
  have hl := lv_entry [.ref r, .int (nI j)] (n := 2) (Nat.le_of_ble_eq_true rfl)
  rw [lg_entry_eq]
  generalize (lg_sl [.ref r, .int (nI j)] ++ List.replicate (2 - (lg_sl [.ref r, .int (nI j)]).length) Slot.unset).toArray = ls at hl ⊢
  have hl : lv_has ls 2 [(0, .ref r), (1, .int (nI j))] := hl
  refine lv_iload_n hx hb dX1_at_0 rfl (lv_at hl 1 rfl) ?_
  refine lv_if_lt (tgt := 22) hx hb dX1_at_1 (by decide) (fun c_1 => ?_) (fun c_1 => ?_)
  · have _ := hx
    have c_1 : j < 0 := (nI_ltI (a := j) (b := 0) (by omega) (by omega)).mp c_1
    exact absurd c_1 (by omega)
  · have _ := hx
    have c_1 : ¬ (j < 0) := fun z => c_1 ((nI_ltI (a := j) (b := 0) (by omega) (by omega)).mpr z)
    refine lv_iload_n hx hb dX1_at_4 rfl (lv_at hl 1 rfl) ?_
    refine lv_aload_n hx hb dX1_at_5 rfl (lv_at hl 0 rfl) ?_
    refine va_get (D := xD G) (ci := 2) (v := .ref a) (C := RX1) (T := TX1) (N := 1) hx hb hts (by decide +kernel) hown hC.1 (x1 hr0) 0 rfl rfl 0 (by decide) (hts (.fieldLink RX1 13 "Bidwhistle$Row" "numbers" "[I") (by decide +kernel)) (fun _ h9 => h9) rfl dX1_at_6 ?_
    refine va_alen (D := xD G) (v := (nI n)) hx hb hC.1 (x1 ha0) 0 0 rfl rfl rfl dX1_at_9 ?_
    refine lv_icmp_ge (tgt := 22) hx hb dX1_at_10 (by decide) (fun c_2 => ?_) (fun c_2 => ?_)
    · have _ := hx
      have c_2 : n ≤ j := (nI_leI (a := n) (b := j) (by omega) (by omega)).mp c_2
      exact absurd c_2 (by omega)
    · have _ := hx
      have c_2 : ¬ (n ≤ j) := fun z => c_2 ((nI_leI (a := n) (b := j) (by omega) (by omega)).mpr z)
      refine lv_aload_n hx hb dX1_at_13 rfl (lv_at hl 0 rfl) ?_
      refine va_get (D := xD G) (ci := 2) (v := .ref a) (C := RX1) (T := TX1) (N := 1) hx hb hts (by decide +kernel) hown hC.1 (x1 hr0) 0 rfl rfl 0 (by decide) (hts (.fieldLink RX1 13 "Bidwhistle$Row" "numbers" "[I") (by decide +kernel)) (fun _ h9 => h9) rfl dX1_at_14 ?_
      refine lv_iload_n hx hb dX1_at_17 rfl (lv_at hl 1 rfl) ?_
      refine x_iald (G := G) (j := j) hx hb hC ha0 (by omega) (by first | decide | omega) dX1_at_18 ?_
      refine lv_goto (tgt := 23) hx hb dX1_at_19 (by decide) ?_
      exact x_iret (G := G) hx hb hr rfl dX1_at_23 hlocks hS (by first | exact Nat.le_of_ble_eq_true rfl | exact (show 0 ≤ 0 by omega)) (by first | exact Nat.le_of_ble_eq_true rfl | exact (show 0 ≤ 0 by omega)) ⟨rfl, rfl⟩

set_option maxHeartbeats 4000000 in
set_option maxRecDepth 100000 in
/-- Row.put(j, x) -/
theorem c_X1_put (l : Launch) (hfl : l.stackTraces = false) (G : xG) (r a n j : Nat) (f : Nat → Int32) (x : Int32) (H : Heap) (hr0 : oA G r 2 [.ref a] H) (ha0 : iA G a n f H) (hj : j < n) (hn : n < 2147483648) (hA_a : xA G a) (nra : r ≠ a) : xMet l G yX1_put wsX1_put ({ frames := 0, cells := 0, slots := 0, locals := 0 } : Room) [.ref r, .int (nI j), .int x] H (fun v H1 => v = none ∧ iA G a n (upd f j x) H1 ∧ xC [a] H H1) (xNo) := by
  refine vx_ofW (cc := cX1_put) (maxL := 3) (ret := none) (by decide) rfl ?_
  intro p e s m args below meth c s₁ B hml hout hv
  obtain ⟨rfl, hH, hC⟩ := hv
  have hx := B.exec
  have hb := B.bytes
  have hr := B.returns
  have hts := atoms_spec (ws := wsX1_put) B.pre
  have hown : s.vm.findClass RX1 = some m.cls := findClass_of_methodNamed B.named
  have hlocks := B.notSynchronized
  rw [hH]
  have hS : va_S (xA G) s.heap H [] := by rw [← hH]; exact va_S.rf
  generalize ([] : List Loc) = locs at hS ⊢
  have hl := lv_entry [.ref r, .int (nI j), .int x] (n := 3) (Nat.le_of_ble_eq_true rfl)
  rw [lg_entry_eq]
  generalize (lg_sl [.ref r, .int (nI j), .int x] ++ List.replicate (3 - (lg_sl [.ref r, .int (nI j), .int x]).length) Slot.unset).toArray = ls at hl ⊢
  have hl : lv_has ls 3 [(0, .ref r), (1, .int (nI j)), (2, .int x)] := hl
  refine lv_iload_n hx hb dX1_put_0 rfl (lv_at hl 1 rfl) ?_
  refine lv_if_lt (tgt := 20) hx hb dX1_put_1 (by decide) (fun c_1 => ?_) (fun c_1 => ?_)
  · have _ := hx
    have c_1 : j < 0 := (nI_ltI (a := j) (b := 0) (by omega) (by omega)).mp c_1
    exact absurd c_1 (by omega)
  · have _ := hx
    have c_1 : ¬ (j < 0) := fun z => c_1 ((nI_ltI (a := j) (b := 0) (by omega) (by omega)).mpr z)
    refine lv_iload_n hx hb dX1_put_4 rfl (lv_at hl 1 rfl) ?_
    refine lv_aload_n hx hb dX1_put_5 rfl (lv_at hl 0 rfl) ?_
    refine va_get (D := xD G) (ci := 2) (v := .ref a) (C := RX1) (T := TX1) (N := 1) hx hb hts (by decide +kernel) hown hC.1 (x1 hr0) 0 rfl rfl 0 (by decide) (hts (.fieldLink RX1 13 "Bidwhistle$Row" "numbers" "[I") (by decide +kernel)) (fun _ h9 => h9) rfl dX1_put_6 ?_
    refine va_alen (D := xD G) (v := (nI n)) hx hb hC.1 (x1 ha0) 0 0 rfl rfl rfl dX1_put_9 ?_
    refine lv_icmp_ge (tgt := 20) hx hb dX1_put_10 (by decide) (fun c_2 => ?_) (fun c_2 => ?_)
    · have _ := hx
      have c_2 : n ≤ j := (nI_leI (a := n) (b := j) (by omega) (by omega)).mp c_2
      exact absurd c_2 (by omega)
    · have _ := hx
      have c_2 : ¬ (n ≤ j) := fun z => c_2 ((nI_leI (a := n) (b := j) (by omega) (by omega)).mpr z)
      refine lv_aload_n hx hb dX1_put_13 rfl (lv_at hl 0 rfl) ?_
      refine va_get (D := xD G) (ci := 2) (v := .ref a) (C := RX1) (T := TX1) (N := 1) hx hb hts (by decide +kernel) hown hC.1 (x1 hr0) 0 rfl rfl 0 (by decide) (hts (.fieldLink RX1 13 "Bidwhistle$Row" "numbers" "[I") (by decide +kernel)) (fun _ h9 => h9) rfl dX1_put_14 ?_
      refine lv_iload_n hx hb dX1_put_17 rfl (lv_at hl 1 rfl) ?_
      refine lv_iload_n hx hb dX1_put_18 rfl (lv_at hl 2 rfl) ?_
      refine x_iastn (G := G) (j := j) hx hb hC hS hA_a ha0 (by omega) (by first | decide | omega) dX1_put_19 (fun H_4 locs ha0 hc_3 hS => ?_)
      have hr0 := hc_3.at hr0 (xn1 nra)
      exact x_vret (G := G) hx hb hr dX1_put_20 hlocks hS (by first | exact Nat.le_of_ble_eq_true rfl | exact (show 0 ≤ 0 by omega)) (by first | exact Nat.le_of_ble_eq_true rfl | exact (show 0 ≤ 0 by omega)) ⟨rfl, ha0, hc_3⟩

set_option maxHeartbeats 4000000 in
set_option maxRecDepth 100000 in
/-- Row.isSameAs -/
theorem c_X1_isSameAs (l : Launch) (hfl : l.stackTraces = false) (G : xG) (r a o b n : Nat) (f g : Nat → Int32) (H : Heap) (hr0 : oA G r 2 [.ref a] H) (ha0 : iA G a n f H) (ho0 : oA G o 2 [.ref b] H) (hb0 : iA G b n g H) (hn : n < 2147483648) : xMet l G yX1_isSameAs wsX1_isSameAs ({ frames := 1, cells := 0, slots := 0, locals := 21 } : Room) [.ref r, .ref o] H (xi H (xb (xsame xeq f g n))) (xNo) := by
  refine vx_ofW (cc := cX1_isSameAs) (maxL := 3) (ret := (some .boolean)) (by decide) rfl ?_
  intro p e s m args below meth c s₁ B hml hout hv
  obtain ⟨rfl, hH, hC⟩ := hv
  have hx := B.exec
  have hb := B.bytes
  have hr := B.returns
  have hts := atoms_spec (ws := wsX1_isSameAs) B.pre
  have hown : s.vm.findClass RX1 = some m.cls := findClass_of_methodNamed B.named
  have hlocks := B.notSynchronized
  rw [hH]
  have hS : va_S (xA G) s.heap H [] := by rw [← hH]; exact va_S.rf
  generalize ([] : List Loc) = locs at hS ⊢
  have hl := lv_entry [.ref r, .ref o] (n := 3) (Nat.le_of_ble_eq_true rfl)
  rw [lg_entry_eq]
  generalize (lg_sl [.ref r, .ref o] ++ List.replicate (3 - (lg_sl [.ref r, .ref o]).length) Slot.unset).toArray = ls at hl ⊢
  have hl : lv_has ls 3 [(0, .ref r), (1, .ref o)] := hl
  refine lv_aload_n hx hb dX1_isSameAs_0 rfl (lv_at hl 0 rfl) ?_
  refine va_get (D := xD G) (ci := 2) (v := .ref a) (C := RX1) (T := TX1) (N := 1) hx hb hts (by decide +kernel) hown hC.1 (x1 hr0) 0 rfl rfl 0 (by decide) (hts (.fieldLink RX1 13 "Bidwhistle$Row" "numbers" "[I") (by decide +kernel)) (fun _ h9 => h9) rfl dX1_isSameAs_1 ?_
  refine va_alen (D := xD G) (v := (nI n)) hx hb hC.1 (x1 ha0) 0 0 rfl rfl rfl dX1_isSameAs_4 ?_
  refine lv_aload_n hx hb dX1_isSameAs_5 rfl (lv_at hl 1 rfl) ?_
  refine va_get (D := xD G) (ci := 2) (v := .ref b) (C := RX1) (T := TX1) (N := 1) hx hb hts (by decide +kernel) hown hC.1 (x1 ho0) 0 rfl rfl 0 (by decide) (hts (.fieldLink RX1 13 "Bidwhistle$Row" "numbers" "[I") (by decide +kernel)) (fun _ h9 => h9) rfl dX1_isSameAs_6 ?_
  refine va_alen (D := xD G) (v := (nI n)) hx hb hC.1 (x1 hb0) 0 0 rfl rfl rfl dX1_isSameAs_9 ?_
  refine lv_icmp_eq (tgt := 15) hx hb dX1_isSameAs_10 (by decide) (fun c_1 => ?_) (fun c_1 => ?_)
  · have _ := hx
    have c_1 : n = n := (nI_eq (a := n) (b := n) (by omega) (by omega)).mp c_1
    refine lv_iconst (v := (nI 0)) hx hb dX1_isSameAs_15 (by decide) ?_
    refine lv_istore_n (lv' := [(2, .int (nI 0)), (0, .ref r), (1, .ref o)]) hx hb dX1_isSameAs_16 rfl hl (by decide) rfl (fun ls hl => ?_)
    have L : ∀ (kL : Nat) (i : Nat), (i ≤ n) → (∀ k, k < i → f k = g k) → n - i < kL → ∀ (locs : List Loc), va_S (xA G) s.heap H locs → ∀ ls : Array Slot, lv_has ls 3 [(0, .ref r), (1, .ref o), (2, .int (nI i))] → W p l e (headSpec wsX1_isSameAs ({ frames := 1, cells := 0, slots := 0, locals := 21 } : Room)).room s m ([.ref r, .ref o] : List Value).toArray below meth c H locs (0) (0) (vx_MQ below (xQ G (xi H (xb (xsame xeq f g n)))) (xX G (xNo)) ([.ref r, .ref o] : List Value).toArray s ({ frames := 1, cells := 0, slots := 0, locals := 21 } : Room).cells ({ frames := 1, cells := 0, slots := 0, locals := 21 } : Room).slots (xA G)) (F0 m 17 ls []) := by
      intro kL
      induction kL with
      | zero => intro i hi hag hk; exact absurd hk (Nat.not_lt_zero _)
      | succ kL ihL =>
        intro i hi hag hk locs hS ls hl
        refine lv_iload_n hx hb dX1_isSameAs_17 rfl (lv_at hl 2 rfl) ?_
        refine lv_aload_n hx hb dX1_isSameAs_18 rfl (lv_at hl 0 rfl) ?_
        refine va_get (D := xD G) (ci := 2) (v := .ref a) (C := RX1) (T := TX1) (N := 1) hx hb hts (by decide +kernel) hown hC.1 (x1 hr0) 0 rfl rfl 0 (by decide) (hts (.fieldLink RX1 13 "Bidwhistle$Row" "numbers" "[I") (by decide +kernel)) (fun _ h9 => h9) rfl dX1_isSameAs_19 ?_
        refine va_alen (D := xD G) (v := (nI n)) hx hb hC.1 (x1 ha0) 0 0 rfl rfl rfl dX1_isSameAs_22 ?_
        refine lv_icmp_ge (tgt := 48) hx hb dX1_isSameAs_23 (by decide) (fun c_2 => ?_) (fun c_2 => ?_)
        · have _ := hx
          have c_2 : n ≤ i := (nI_leI (a := n) (b := i) (by omega) (by omega)).mp c_2
          refine lv_iconst (v := (nI 1)) hx hb dX1_isSameAs_48 (by decide) ?_
          exact x_iret (G := G) hx hb hr (by rfl) dX1_isSameAs_49 hlocks hS (by first | exact Nat.le_of_ble_eq_true rfl | exact (show 0 ≤ 0 by omega)) (by first | exact Nat.le_of_ble_eq_true rfl | exact (show 0 ≤ 0 by omega)) ⟨rfl, by rw [show xsame xeq f g n = true from xsame_iff.mpr (fun k hk => by have := hag k (by omega); simpa [xeq] using this)]; rfl⟩
        · have _ := hx
          have c_2 : ¬ (n ≤ i) := fun z => c_2 ((nI_leI (a := n) (b := i) (by omega) (by omega)).mpr z)
          refine lv_aload_n hx hb dX1_isSameAs_26 rfl (lv_at hl 0 rfl) ?_
          refine va_get (D := xD G) (ci := 2) (v := .ref a) (C := RX1) (T := TX1) (N := 1) hx hb hts (by decide +kernel) hown hC.1 (x1 hr0) 0 rfl rfl 0 (by decide) (hts (.fieldLink RX1 13 "Bidwhistle$Row" "numbers" "[I") (by decide +kernel)) (fun _ h9 => h9) rfl dX1_isSameAs_27 ?_
          refine lv_iload_n hx hb dX1_isSameAs_30 rfl (lv_at hl 2 rfl) ?_
          refine x_iald (G := G) (j := i) hx hb hC ha0 (by omega) (by first | decide | omega) dX1_isSameAs_31 ?_
          refine lv_aload_n hx hb dX1_isSameAs_32 rfl (lv_at hl 1 rfl) ?_
          refine lv_iload_n hx hb dX1_isSameAs_33 rfl (lv_at hl 2 rfl) ?_
          refine x_intE (vx_runV (As := [.int (nI i)]) (rest := [.int (f i)]) ⟨hx, hb, hml, hown, hts⟩ (c_X1_at l hfl G o b n i g H ho0 hb0 (by omega) hn) (cwV 1 hts gX1_isSameAs_X1_at rfl rfl rfl (by decide +kernel) ⟨(Nat.le_of_ble_eq_true rfl), (Nat.le_of_ble_eq_true rfl)⟩) (xPreV hC hS ho0 (q := (RX1, TX1, 1)) rfl) rfl rfl hl.1 rfl (lv_room (Nat.le_of_ble_eq_true rfl)) dX1_isSameAs_34 ⟨(by first | exact Nat.le_of_ble_eq_true rfl | exact (show 0 + 0 ≤ 0 by omega)), (by first | exact Nat.le_of_ble_eq_true rfl | exact (show 0 + 0 ≤ 0 by omega))⟩) hS (fun locs hS => ?_)
          refine lv_icmp_eq (tgt := 42) hx hb dX1_isSameAs_37 (by decide) (fun c_3 => ?_) (fun c_3 => ?_)
          · have _ := hx
            refine lv_iinc (v := (nI (i + 1))) (lv' := [(2, .int (nI (i + 1))), (0, .ref r), (1, .ref o)]) hx hb dX1_isSameAs_42 hl (k := 2) rfl (xinc (by decide)) (by decide) rfl (fun ls hl => ?_)
            refine lv_goto (tgt := 17) hx hb dX1_isSameAs_45 (by decide) ?_
            exact ihL (i + 1) (by omega) (fun k hk => by rcases Nat.lt_or_ge k i with z | z; exact hag k z; rw [show k = i by omega]; exact c_3) (by omega) _ hS ls (lv_sub hl [1, 2, 0] rfl)
          · have _ := hx
            refine lv_iconst (v := (nI 0)) hx hb dX1_isSameAs_40 (by decide) ?_
            exact x_iret (G := G) hx hb hr (by rfl) dX1_isSameAs_41 hlocks hS (by first | exact Nat.le_of_ble_eq_true rfl | exact (show 0 ≤ 0 by omega)) (by first | exact Nat.le_of_ble_eq_true rfl | exact (show 0 ≤ 0 by omega)) ⟨rfl, by rw [show xsame xeq f g n = false from Bool.eq_false_iff.mpr (fun z => c_3 (by have := xsame_iff.mp z i (by omega); simpa [xeq] using this))]; rfl⟩
    exact L _ (0) (Nat.zero_le _) (fun k hk => absurd hk (Nat.not_lt_zero k)) (Nat.lt_succ_self _) _ hS ls (lv_sub hl [1, 2, 0] rfl)
  · have _ := hx
    have c_1 : ¬ (n = n) := fun z => c_1 ((nI_eq (a := n) (b := n) (by omega) (by omega)).mpr z)
    exact absurd c_1 (by omega)

set_option maxHeartbeats 4000000 in
set_option maxRecDepth 100000 in
/-- new Stack() -/
theorem c_X2_init (l : Launch) (hfl : l.stackTraces = false) (G : xG) (r : Nat) (H : Heap) (hr0 : oA G r 3 [.null, .int 0] H) (hA_r : xA G r) : xMet l G yX2_init wsX2_init ({ frames := 2, cells := 2, slots := 101, locals := 51 } : Room) [.ref r] H (fun v H1 => v = none ∧ ∃ q a, H.size ≤ q ∧ H.size ≤ a ∧ sA G r q a (fun _ => 0) 0 H1 ∧ xC [r] H H1) (xNo) := by
  refine vx_ofW (cc := cX2_init) (maxL := 1) (ret := none) (by decide) rfl ?_
  intro p e s m args below meth c s₁ B hml hout hv
  obtain ⟨rfl, hH, hC⟩ := hv
  have hx := B.exec
  have hb := B.bytes
  have hr := B.returns
  have hts := atoms_spec (ws := wsX2_init) B.pre
  have hown : s.vm.findClass RX2 = some m.cls := findClass_of_methodNamed B.named
  have hlocks := B.notSynchronized
  have hin : meth.name = "<init>" := (name_of_methodNamed B.named B.method).1
  rw [hH]
  have hS : va_S (xA G) s.heap H [] := by rw [← hH]; exact va_S.rf
  generalize ([] : List Loc) = locs at hS ⊢
  have hl := lv_entry [.ref r] (n := 1) (Nat.le_of_ble_eq_true rfl)
  rw [lg_entry_eq]
  generalize (lg_sl [.ref r] ++ List.replicate (1 - (lg_sl [.ref r]).length) Slot.unset).toArray = ls at hl ⊢
  have hl : lv_has ls 1 [(0, .ref r)] := hl
  refine lv_aload_n hx hb dX2_init_0 rfl (lv_at hl 0 rfl) ?_
  refine W.objInit hx hb hown (hts (.methodLink RX2 3 objectInit) (by decide +kernel)) (hts (.instanceMethod objectInit) (by decide +kernel)) (hts (.code objectInit ⟨#[0xb1]⟩ 1 none) (by decide +kernel)) rfl (by rw [hml]; exact hl.1) rfl dX2_init_1 (Nat.le_of_ble_eq_true rfl) (Nat.le_of_ble_eq_true rfl) ?_
  refine W.eq (g2 := F0 m 4 ls []) rfl ?_
  refine lv_aload_n hx hb dX2_init_4 rfl (lv_at hl 0 rfl) ?_
  have hsz := hS.1
  refine x_new (G := G) (ci := 2) (fs := [.null]) (C := RX1) (T := TX1) (N := 1) hx hb hts (by decide +kernel) tyX1 tyX1_ok hown (hts (.classLink RX2 9 RX1) (by decide +kernel)) (hts (.instantiable RX1 1) (by decide +kernel)) (hts (.initialized RX1) (by decide +kernel)) hC hS rfl (fun j hj => by rcases (show j = 0 by omega) with rfl; rfl) (by first | exact Nat.le_of_ble_eq_true rfl | exact (show 0 + 1 ≤ 2 by omega)) (by first | exact Nat.le_of_ble_eq_true rfl | exact (show 0 + 1 ≤ 101 by omega)) dX2_init_5 (fun q_1 H_6 eq_4 ho_2 hc_3 hz_5 hS => ?_)
  have hA_q_1 : xA G q_1 := hC.2.2.1 _ (by rw [eq_4]; exact hsz)
  have ne_7 : r ≠ q_1 := xlt hr0 eq_4
  have hr0 := hc_3.at0 hr0
  refine lv_dup hx hb dX2_init_8 rfl ?_
  refine lv_bipush (v := (nI 7)) hx hb dX2_init_9 (by decide) ?_
  have hsz := hS.1
  refine x_call (px := xNo) (x_runOf (va_runI (b := q_1) (As := [.int (nI 7)]) (rest := [.ref q_1, .ref r]) ⟨hx, hb, hml, hown, hts⟩ (x_met (c_X1_init l hfl G q_1 7 H_6 ho_2 hA_q_1 (by omega))) (cwI 1 hts gX2_init_X1_init rfl rfl rfl (hts (.initialized RX1) (by decide +kernel)) (hts (.methodLink RX2 11 yX1_init) (by decide +kernel)) (hts (.instanceMethod yX1_init) (by decide +kernel)) rfl (by decide +kernel) ⟨(Nat.le_of_ble_eq_true rfl), (Nat.le_of_ble_eq_true rfl)⟩) (xPreS hC hS) rfl rfl hl.1 rfl (lv_room (Nat.le_of_ble_eq_true rfl)) dX2_init_11 ⟨(by first | exact Nat.le_of_ble_eq_true rfl | exact (show 0 + 1 + 1 ≤ 2 by omega)), (by first | exact Nat.le_of_ble_eq_true rfl | exact (show 0 + 1 + 100 ≤ 101 by omega))⟩)) hS (fun _ h => h) (fun _ _ _ _ _ h => False.elim h) (fun v H_8 locs hp hz hk_9 hS => ?_)
  obtain ⟨rfl, qa10, hqa10, hn10, ha10, hc10⟩ := hp
  have hA_qa10 : xA G qa10 := hC.2.2.1 _ (Nat.le_trans hsz hqa10)
  have ne_11 : r ≠ qa10 := xlt2 hr0 hqa10
  have ne_12 : q_1 ≠ qa10 := xlt2 ho_2 hqa10
  have hr0 := hc10.at hr0 (xn1 ne_7)
  refine x_putF (G := G) (ci := 3) (v := .ref q_1) (ty := (.object "Bidwhistle$Row")) (C := RX2) (T := TX2) (N := 2) hx hb hts (by decide +kernel) tyX2 tyX2_ok nmX2 hown hC hS hA_r hr0 rfl 0 (by decide) (hts (.fieldLink RX2 14 "Bidwhistle$Stack" "numbers" "LBidwhistle$Row;") (by decide +kernel)) (fun _ h9 => h9) rfl hin rfl (by decide +kernel) rfl rfl (Nat.le_of_ble_eq_true rfl) dX2_init_14 (fun H_14 locs hr0 hc_13 hS => ?_)
  have hr0 : oA G r 3 [.ref q_1, .int 0] H_14 := hr0
  have hn10 := hc_13.at hn10 (xn1 (Ne.symm ne_7))
  have ha10 := hc_13.at ha10 (xn1 (Ne.symm ne_11))
  refine lv_aload_n hx hb dX2_init_17 rfl (lv_at hl 0 rfl) ?_
  refine lv_iconst (v := (nI 0)) hx hb dX2_init_18 (by decide) ?_
  refine x_put (G := G) (ci := 3) (v := .int (nI 0)) (ty := .int) (C := RX2) (T := TX2) (N := 2) hx hb hts (by decide +kernel) tyX2 tyX2_ok nmX2 hown hC hS hA_r hr0 rfl 1 (by decide) (hts (.fieldLink RX2 20 "Bidwhistle$Stack" "depth" "I") (by decide +kernel)) (fun _ h9 => h9) rfl (by decide +kernel) rfl rfl (Nat.le_of_ble_eq_true rfl) dX2_init_19 (fun H_16 locs hr0 hc_15 hS => ?_)
  have hr0 : oA G r 3 [.ref q_1, .int (nI 0)] H_16 := hr0
  have hn10 := hc_15.at hn10 (xn1 (Ne.symm ne_7))
  have ha10 := hc_15.at ha10 (xn1 (Ne.symm ne_11))
  exact x_vret (G := G) hx hb hr dX2_init_22 hlocks hS (by first | exact Nat.le_of_ble_eq_true rfl | exact (show 0 + 1 + 1 ≤ 2 by omega)) (by first | exact Nat.le_of_ble_eq_true rfl | exact (show 0 + 1 + 100 ≤ 101 by omega)) ⟨rfl, q_1, qa10, Nat.le_of_eq eq_4.symm, Nat.le_trans hc_3.1 hqa10, ⟨hr0, hn10, ha10, by decide, ne_7, ne_11, ne_12⟩, ((hc_3.tr (hc10.tr (hc_13.tr hc_15))).mono (fun q hq => by simp only [List.mem_append, List.mem_cons, List.not_mem_nil, or_false, false_or] at hq ⊢; omega))⟩

set_option maxHeartbeats 4000000 in
set_option maxRecDepth 100000 in
/-- Stack.empty() -/
theorem c_X2_empty (l : Launch) (hfl : l.stackTraces = false) (G : xG) (k r a : Nat) (g : Nat → Int) (n : Nat) (H : Heap) (hs : sA G k r a g n H) (hA_k : xA G k) : xMet l G yX2_empty wsX2_empty ({ frames := 0, cells := 0, slots := 0, locals := 0 } : Room) [.ref k] H (fun v H1 => v = none ∧ sA G k r a g 0 H1 ∧ xC [k] H H1) (xNo) := by
  refine vx_ofW (cc := cX2_empty) (maxL := 1) (ret := none) (by decide) rfl ?_
  intro p e s m args below meth c s₁ B hml hout hv
  obtain ⟨rfl, hH, hC⟩ := hv
  have hx := B.exec
  have hb := B.bytes
  have hr := B.returns
  have hts := atoms_spec (ws := wsX2_empty) B.pre
  have hown : s.vm.findClass RX2 = some m.cls := findClass_of_methodNamed B.named
  have hlocks := B.notSynchronized
  rw [hH]
  have hS : va_S (xA G) s.heap H [] := by rw [← hH]; exact va_S.rf
  generalize ([] : List Loc) = locs at hS ⊢
  have hl := lv_entry [.ref k] (n := 1) (Nat.le_of_ble_eq_true rfl)
  rw [lg_entry_eq]
  generalize (lg_sl [.ref k] ++ List.replicate (1 - (lg_sl [.ref k]).length) Slot.unset).toArray = ls at hl ⊢
  have hl : lv_has ls 1 [(0, .ref k)] := hl
  obtain ⟨hk0, hr0, ha0, hn, nkr, nka, nra⟩ := hs
  refine lv_aload_n hx hb dX2_empty_0 rfl (lv_at hl 0 rfl) ?_
  refine lv_iconst (v := (nI 0)) hx hb dX2_empty_1 (by decide) ?_
  refine x_put (G := G) (ci := 3) (v := .int (nI 0)) (ty := .int) (C := RX2) (T := TX2) (N := 2) hx hb hts (by decide +kernel) tyX2 tyX2_ok nmX2 hown hC hS hA_k hk0 rfl 1 (by decide) (hts (.fieldLink RX2 20 "Bidwhistle$Stack" "depth" "I") (by decide +kernel)) (fun _ h9 => h9) rfl (by decide +kernel) rfl rfl (Nat.le_of_ble_eq_true rfl) dX2_empty_2 (fun H_2 locs hk0 hc_1 hS => ?_)
  have hk0 : oA G k 3 [.ref r, .int (nI 0)] H_2 := hk0
  have hr0 := hc_1.at hr0 (xn1 (Ne.symm nkr))
  have ha0 := hc_1.at ha0 (xn1 (Ne.symm nka))
  exact x_vret (G := G) hx hb hr dX2_empty_5 hlocks hS (by first | exact Nat.le_of_ble_eq_true rfl | exact (show 0 ≤ 0 by omega)) (by first | exact Nat.le_of_ble_eq_true rfl | exact (show 0 ≤ 0 by omega)) ⟨rfl, ⟨hk0, hr0, ha0, by omega, nkr, nka, nra⟩, hc_1⟩

set_option maxHeartbeats 4000000 in
set_option maxRecDepth 100000 in
/-- Stack.push(z) -/
theorem c_X2_push (l : Launch) (hfl : l.stackTraces = false) (G : xG) (k r a : Nat) (g : Nat → Int) (n : Nat) (z : Int) (H : Heap) (hs : sA G k r a g n H) (hA_k : xA G k) (hA_a : xA G a) (h7 : n < 7) (hz1 : -1000000000000 ≤ z) (hz2 : z ≤ 1000000000000) : xMet l G yX2_push wsX2_push ({ frames := 1, cells := 0, slots := 0, locals := 30 } : Room) [.ref k, .long (Int64.ofInt z)] H (fun v H1 => v = none ∧ sA G k r a (va_up g n (xcl z)) (n + 1) H1 ∧ xC [k, a] H H1) (xNo) := by
  refine vx_ofW (cc := cX2_push) (maxL := 3) (ret := none) (by decide) rfl ?_
  intro p e s m args below meth c s₁ B hml hout hv
  obtain ⟨rfl, hH, hC⟩ := hv
  have hx := B.exec
  have hb := B.bytes
  have hr := B.returns
  have hts := atoms_spec (ws := wsX2_push) B.pre
  have hown : s.vm.findClass RX2 = some m.cls := findClass_of_methodNamed B.named
  have hlocks := B.notSynchronized
  rw [hH]
  have hS : va_S (xA G) s.heap H [] := by rw [← hH]; exact va_S.rf
  generalize ([] : List Loc) = locs at hS ⊢
  have hl := lv_entry [.ref k, .long (Int64.ofInt z)] (n := 3) (Nat.le_of_ble_eq_true rfl)
  rw [lg_entry_eq]
  generalize (lg_sl [.ref k, .long (Int64.ofInt z)] ++ List.replicate (3 - (lg_sl [.ref k, .long (Int64.ofInt z)]).length) Slot.unset).toArray = ls at hl ⊢
  have hl : lv_has ls 3 [(0, .ref k), (1, .long (Int64.ofInt z))] := hl
  obtain ⟨hk0, hr0, ha0, hn, nkr, nka, nra⟩ := hs
  refine lv_aload_n hx hb dX2_push_0 rfl (lv_at hl 0 rfl) ?_
  refine va_get (D := xD G) (ci := 3) (v := .int (nI n)) (C := RX2) (T := TX2) (N := 2) hx hb hts (by decide +kernel) hown hC.1 (x1 hk0) 0 rfl rfl 1 (by decide) (hts (.fieldLink RX2 20 "Bidwhistle$Stack" "depth" "I") (by decide +kernel)) (fun _ h9 => h9) rfl dX2_push_1 ?_
  refine lv_bipush (v := (nI 7)) hx hb dX2_push_4 (by decide) ?_
  refine lv_icmp_ge (tgt := 44) hx hb dX2_push_6 (by decide) (fun c_1 => ?_) (fun c_1 => ?_)
  · have _ := hx
    have c_1 : 7 ≤ n := (nI_leI (a := 7) (b := n) (by omega) (by omega)).mp c_1
    exact absurd c_1 (by omega)
  · have _ := hx
    have c_1 : ¬ (7 ≤ n) := fun z => c_1 ((nI_leI (a := 7) (b := n) (by omega) (by omega)).mpr z)
    refine lv_aload_n hx hb dX2_push_9 rfl (lv_at hl 0 rfl) ?_
    refine va_get (D := xD G) (ci := 3) (v := .ref r) (C := RX2) (T := TX2) (N := 2) hx hb hts (by decide +kernel) hown hC.1 (x1 hk0) 0 rfl rfl 0 (by decide) (hts (.fieldLink RX2 14 "Bidwhistle$Stack" "numbers" "LBidwhistle$Row;") (by decide +kernel)) (fun _ h9 => h9) rfl dX2_push_10 ?_
    refine lv_aload_n hx hb dX2_push_13 rfl (lv_at hl 0 rfl) ?_
    refine va_get (D := xD G) (ci := 3) (v := .int (nI n)) (C := RX2) (T := TX2) (N := 2) hx hb hts (by decide +kernel) hown hC.1 (x1 hk0) 0 rfl rfl 1 (by decide) (hts (.fieldLink RX2 20 "Bidwhistle$Stack" "depth" "I") (by decide +kernel)) (fun _ h9 => h9) rfl dX2_push_14 ?_
    refine lv_ldc2 (v := (-100000)) hx hb hown (hts (.constantLong RX2 24 (-100000)) (by decide +kernel)) dX2_push_17 ?_
    refine lv_ldc2 (v := (100000)) hx hb hown (hts (.constantLong RX2 26 (100000)) (by decide +kernel)) dX2_push_20 ?_
    refine lv_lload_n hx hb dX2_push_23 rfl (lv_at hl 1 rfl) ?_
    refine va_mmin_long hx hb (by rw [hml]; exact hl.1.symm) hown (hts (.methodLink RX2 28 Lib.MathLoose.min_long.x) (by decide +kernel)) (hts (.static Lib.MathLoose.min_long.x) (by decide +kernel)) (hts (.initialized "java/lang/Math") (by decide +kernel)) (hts (.code Lib.MathLoose.min_long.x Lib.MathLoose.min_long.code 4 (some .long)) (by decide +kernel)) (Nat.le_of_ble_eq_true rfl) (Nat.le_of_ble_eq_true rfl) (by first | exact Nat.le_of_ble_eq_true rfl | omega) (by first | exact Nat.le_of_ble_eq_true rfl | omega) dX2_push_24 ?_
    refine va_mmax_long hx hb (by rw [hml]; exact hl.1.symm) hown (hts (.methodLink RX2 34 Lib.MathLoose.max_long.x) (by decide +kernel)) (hts (.static Lib.MathLoose.max_long.x) (by decide +kernel)) (hts (.initialized "java/lang/Math") (by decide +kernel)) (hts (.code Lib.MathLoose.max_long.x Lib.MathLoose.max_long.code 4 (some .long)) (by decide +kernel)) (Nat.le_of_ble_eq_true rfl) (Nat.le_of_ble_eq_true rfl) (by first | exact Nat.le_of_ble_eq_true rfl | omega) (by first | exact Nat.le_of_ble_eq_true rfl | omega) dX2_push_27 ?_
    refine lv_l2i (v := Int32.ofInt (xcl z)) hx hb dX2_push_30 (xclamp hz1 hz2) ?_
    have hsz := hS.1
    refine x_call (px := xNo) (vx_runV (As := [.int (nI n), .int (Int32.ofInt (xcl z))]) (rest := []) ⟨hx, hb, hml, hown, hts⟩ (c_X1_put l hfl G r a 7 n (fun j => Int32.ofInt (g j)) (Int32.ofInt (xcl z)) H hr0 ha0 (by omega) (by decide) hA_a nra) (cwV 2 hts gX2_push_X1_put rfl rfl rfl (by decide +kernel) ⟨(Nat.le_of_ble_eq_true rfl), (Nat.le_of_ble_eq_true rfl)⟩) (xPreV hC hS hr0 (q := (RX1, TX1, 1)) rfl) rfl rfl hl.1 rfl (lv_room (Nat.le_of_ble_eq_true rfl)) dX2_push_31 ⟨(by first | exact Nat.le_of_ble_eq_true rfl | exact (show 0 + 0 ≤ 0 by omega)), (by first | exact Nat.le_of_ble_eq_true rfl | exact (show 0 + 0 ≤ 0 by omega))⟩) hS (fun _ h => h) (fun _ _ _ _ _ h => False.elim h) (fun v H_2 locs hp hz hk_3 hS => ?_)
    obtain ⟨rfl, hu4, hc4⟩ := hp
    have hk0 := hc4.at hk0 (xn1 nka)
    have hr0 := hc4.at hr0 (xn1 nra)
    rw [upd_ofInt] at hu4
    refine lv_aload_n hx hb dX2_push_34 rfl (lv_at hl 0 rfl) ?_
    refine lv_dup hx hb dX2_push_35 rfl ?_
    refine va_get (D := xD G) (ci := 3) (v := .int (nI n)) (C := RX2) (T := TX2) (N := 2) hx hb hts (by decide +kernel) hown hC.1 (x1 hk0) 0 rfl rfl 1 (by decide) (hts (.fieldLink RX2 20 "Bidwhistle$Stack" "depth" "I") (by decide +kernel)) (fun _ h9 => h9) rfl dX2_push_36 ?_
    refine lv_iconst (v := (nI 1)) hx hb dX2_push_39 (by decide) ?_
    refine x_iaddn (a := n) (b := 1) hx hb dX2_push_40 ?_
    refine x_put (G := G) (ci := 3) (v := .int (nI (n + 1))) (ty := .int) (C := RX2) (T := TX2) (N := 2) hx hb hts (by decide +kernel) tyX2 tyX2_ok nmX2 hown hC hS hA_k hk0 rfl 1 (by decide) (hts (.fieldLink RX2 20 "Bidwhistle$Stack" "depth" "I") (by decide +kernel)) (fun _ h9 => h9) rfl (by decide +kernel) rfl rfl (Nat.le_of_ble_eq_true rfl) dX2_push_41 (fun H_6 locs hk0 hc_5 hS => ?_)
    have hk0 : oA G k 3 [.ref r, .int (nI (n + 1))] H_6 := hk0
    have hr0 := hc_5.at hr0 (xn1 (Ne.symm nkr))
    have hu4 := hc_5.at hu4 (xn1 (Ne.symm nka))
    exact x_vret (G := G) hx hb hr dX2_push_44 hlocks hS (by first | exact Nat.le_of_ble_eq_true rfl | exact (show 0 ≤ 0 by omega)) (by first | exact Nat.le_of_ble_eq_true rfl | exact (show 0 ≤ 0 by omega)) ⟨rfl, ⟨hk0, hr0, hu4, by omega, nkr, nka, nra⟩, ((hc4.tr hc_5).mono (fun q hq => by simp only [List.mem_append, List.mem_cons, List.not_mem_nil, or_false, false_or] at hq ⊢; omega))⟩

set_option maxHeartbeats 4000000 in
set_option maxRecDepth 100000 in
/-- Stack.pop() -/
theorem c_X2_pop (l : Launch) (hfl : l.stackTraces = false) (G : xG) (k r a : Nat) (g : Nat → Int) (n : Nat) (H : Heap) (hs : sA G k r a g n H) (hA_k : xA G k) (h1 : 1 ≤ n) : xMet l G yX2_pop wsX2_pop ({ frames := 1, cells := 0, slots := 0, locals := 21 } : Room) [.ref k] H (fun v H1 => v = some (.int (Int32.ofInt (g (n - 1)))) ∧ sA G k r a g (n - 1) H1 ∧ xC [k] H H1) (xNo) := by
  refine vx_ofW (cc := cX2_pop) (maxL := 1) (ret := (some .int)) (by decide) rfl ?_
  intro p e s m args below meth c s₁ B hml hout hv
  obtain ⟨rfl, hH, hC⟩ := hv
  have hx := B.exec
  have hb := B.bytes
  have hr := B.returns
  have hts := atoms_spec (ws := wsX2_pop) B.pre
  have hown : s.vm.findClass RX2 = some m.cls := findClass_of_methodNamed B.named
  have hlocks := B.notSynchronized
  rw [hH]
  have hS : va_S (xA G) s.heap H [] := by rw [← hH]; exact va_S.rf
  generalize ([] : List Loc) = locs at hS ⊢
  have hl := lv_entry [.ref k] (n := 1) (Nat.le_of_ble_eq_true rfl)
  rw [lg_entry_eq]
  generalize (lg_sl [.ref k] ++ List.replicate (1 - (lg_sl [.ref k]).length) Slot.unset).toArray = ls at hl ⊢
  have hl : lv_has ls 1 [(0, .ref k)] := hl
  obtain ⟨hk0, hr0, ha0, hn, nkr, nka, nra⟩ := hs
  refine lv_aload_n hx hb dX2_pop_0 rfl (lv_at hl 0 rfl) ?_
  refine va_get (D := xD G) (ci := 3) (v := .int (nI n)) (C := RX2) (T := TX2) (N := 2) hx hb hts (by decide +kernel) hown hC.1 (x1 hk0) 0 rfl rfl 1 (by decide) (hts (.fieldLink RX2 20 "Bidwhistle$Stack" "depth" "I") (by decide +kernel)) (fun _ h9 => h9) rfl dX2_pop_1 ?_
  refine lv_iconst (v := (nI 1)) hx hb dX2_pop_4 (by decide) ?_
  refine lv_icmp_ge (tgt := 10) hx hb dX2_pop_5 (by decide) (fun c_1 => ?_) (fun c_1 => ?_)
  · have _ := hx
    have c_1 : 1 ≤ n := (nI_leI (a := 1) (b := n) (by omega) (by omega)).mp c_1
    refine lv_aload_n hx hb dX2_pop_10 rfl (lv_at hl 0 rfl) ?_
    refine lv_dup hx hb dX2_pop_11 rfl ?_
    refine va_get (D := xD G) (ci := 3) (v := .int (nI n)) (C := RX2) (T := TX2) (N := 2) hx hb hts (by decide +kernel) hown hC.1 (x1 hk0) 0 rfl rfl 1 (by decide) (hts (.fieldLink RX2 20 "Bidwhistle$Stack" "depth" "I") (by decide +kernel)) (fun _ h9 => h9) rfl dX2_pop_12 ?_
    refine lv_iconst (v := (nI 1)) hx hb dX2_pop_15 (by decide) ?_
    refine lv_isub hx hb dX2_pop_16 ?_
    rw [pk_sub (a := n) (b := 1) (by omega)]
    refine x_put (G := G) (ci := 3) (v := .int (nI (n - 1))) (ty := .int) (C := RX2) (T := TX2) (N := 2) hx hb hts (by decide +kernel) tyX2 tyX2_ok nmX2 hown hC hS hA_k hk0 rfl 1 (by decide) (hts (.fieldLink RX2 20 "Bidwhistle$Stack" "depth" "I") (by decide +kernel)) (fun _ h9 => h9) rfl (by decide +kernel) rfl rfl (Nat.le_of_ble_eq_true rfl) dX2_pop_17 (fun H_3 locs hk0 hc_2 hS => ?_)
    have hk0 : oA G k 3 [.ref r, .int (nI (n - 1))] H_3 := hk0
    have hr0 := hc_2.at hr0 (xn1 (Ne.symm nkr))
    have ha0 := hc_2.at ha0 (xn1 (Ne.symm nka))
    refine lv_aload_n hx hb dX2_pop_20 rfl (lv_at hl 0 rfl) ?_
    refine va_get (D := xD G) (ci := 3) (v := .ref r) (C := RX2) (T := TX2) (N := 2) hx hb hts (by decide +kernel) hown hC.1 (x1 hk0) 0 rfl rfl 0 (by decide) (hts (.fieldLink RX2 14 "Bidwhistle$Stack" "numbers" "LBidwhistle$Row;") (by decide +kernel)) (fun _ h9 => h9) rfl dX2_pop_21 ?_
    refine lv_aload_n hx hb dX2_pop_24 rfl (lv_at hl 0 rfl) ?_
    refine va_get (D := xD G) (ci := 3) (v := .int (nI (n - 1))) (C := RX2) (T := TX2) (N := 2) hx hb hts (by decide +kernel) hown hC.1 (x1 hk0) 0 rfl rfl 1 (by decide) (hts (.fieldLink RX2 20 "Bidwhistle$Stack" "depth" "I") (by decide +kernel)) (fun _ h9 => h9) rfl dX2_pop_25 ?_
    refine x_intE (vx_runV (As := [.int (nI (n - 1))]) (rest := []) ⟨hx, hb, hml, hown, hts⟩ (c_X1_at l hfl G r a 7 (n - 1) (fun j => Int32.ofInt (g j)) H_3 hr0 ha0 (by omega) (by decide)) (cwV 1 hts gX2_pop_X1_at rfl rfl rfl (by decide +kernel) ⟨(Nat.le_of_ble_eq_true rfl), (Nat.le_of_ble_eq_true rfl)⟩) (xPreV hC hS hr0 (q := (RX1, TX1, 1)) rfl) rfl rfl hl.1 rfl (lv_room (Nat.le_of_ble_eq_true rfl)) dX2_pop_28 ⟨(by first | exact Nat.le_of_ble_eq_true rfl | exact (show 0 + 0 ≤ 0 by omega)), (by first | exact Nat.le_of_ble_eq_true rfl | exact (show 0 + 0 ≤ 0 by omega))⟩) hS (fun locs hS => ?_)
    exact x_iret (G := G) hx hb hr rfl dX2_pop_31 hlocks hS (by first | exact Nat.le_of_ble_eq_true rfl | exact (show 0 ≤ 0 by omega)) (by first | exact Nat.le_of_ble_eq_true rfl | exact (show 0 ≤ 0 by omega)) ⟨rfl, ⟨hk0, hr0, ha0, by omega, nkr, nka, nra⟩, (hc_2.mono (fun q hq => by simp only [List.mem_append, List.mem_cons, List.not_mem_nil, or_false, false_or] at hq ⊢; omega))⟩
  · have _ := hx
    have c_1 : ¬ (1 ≤ n) := fun z => c_1 ((nI_leI (a := 1) (b := n) (by omega) (by omega)).mpr z)
    exact absurd c_1 (by omega)

set_option maxHeartbeats 4000000 in
set_option maxRecDepth 100000 in
/-- what a step makes of two numbers -/
theorem c_X0_resultOf (l : Launch) (hfl : l.stackTraces = false) (G : xG) (s9 : Nat) (x y : Int) (H : Heap) (hs1 : 11 ≤ s9) (hs2 : s9 ≤ 16) (hx1 : -100000 ≤ x ∧ x ≤ 100000) (hy1 : -100000 ≤ y ∧ y ≤ 100000) : xMet l G yX0_resultOf wsX0_resultOf ({ frames := 1, cells := 0, slots := 0, locals := 30 } : Room) [.int (nI s9), .long (Int64.ofInt x), .long (Int64.ofInt y)] H (xl H (Int64.ofInt (xop s9 x y))) (xNo) := by
  refine vx_ofW (cc := cX0_resultOf) (maxL := 5) (ret := (some .long)) (by decide) rfl ?_
  intro p e s m args below meth c s₁ B hml hout hv
  obtain ⟨rfl, hH, hC⟩ := hv
  have hx := B.exec
  have hb := B.bytes
  have hr := B.returns
  have hts := atoms_spec (ws := wsX0_resultOf) B.pre
  have hown : s.vm.findClass RX0 = some m.cls := findClass_of_methodNamed B.named
  have hlocks := B.notSynchronized
  rw [hH]
  have hS : va_S (xA G) s.heap H [] := by rw [← hH]; exact va_S.rf
  generalize ([] : List Loc) = locs at hS ⊢
  have hl := lv_entry [.int (nI s9), .long (Int64.ofInt x), .long (Int64.ofInt y)] (n := 5) (Nat.le_of_ble_eq_true rfl)
  rw [lg_entry_eq]
  generalize (lg_sl [.int (nI s9), .long (Int64.ofInt x), .long (Int64.ofInt y)] ++ List.replicate (5 - (lg_sl [.int (nI s9), .long (Int64.ofInt x), .long (Int64.ofInt y)]).length) Slot.unset).toArray = ls at hl ⊢
  have hl : lv_has ls 5 [(0, .int (nI s9)), (1, .long (Int64.ofInt x)), (3, .long (Int64.ofInt y))] := hl
  refine lv_iload_n hx hb dX0_resultOf_0 rfl (lv_at hl 0 rfl) ?_
  rcases (show s9 = 11 ∨ s9 = 12 ∨ s9 = 13 ∨ s9 = 14 ∨ s9 = 15 ∨ s9 = 16 by omega) with rfl | rfl | rfl | rfl | rfl | rfl
  · have _ := hx
    refine lv_tableIn (off := 35) (tgt := 36) hx hb dX0_resultOf_1 (by decide) (by decide) (by decide) (by decide) ?_
    refine lv_lload_n hx hb dX0_resultOf_36 rfl (lv_at hl 1 rfl) ?_
    refine lv_lload_n hx hb dX0_resultOf_37 rfl (lv_at hl 2 rfl) ?_
    refine lv_ladd hx hb dX0_resultOf_38 ?_
    exact x_lret (G := G) hx hb hr dX0_resultOf_39 hlocks hS (by first | exact Nat.le_of_ble_eq_true rfl | exact (show 0 ≤ 0 by omega)) (by first | exact Nat.le_of_ble_eq_true rfl | exact (show 0 ≤ 0 by omega)) ⟨rfl, by rw [show xop 11 x y = x + y from rfl, Int64.ofInt_add]⟩
  · have _ := hx
    refine lv_tableIn (off := 39) (tgt := 40) hx hb dX0_resultOf_1 (by decide) (by decide) (by decide) (by decide) ?_
    refine lv_lload_n hx hb dX0_resultOf_40 rfl (lv_at hl 1 rfl) ?_
    refine lv_lload_n hx hb dX0_resultOf_41 rfl (lv_at hl 2 rfl) ?_
    refine lv_lsub hx hb dX0_resultOf_42 ?_
    exact x_lret (G := G) hx hb hr dX0_resultOf_43 hlocks hS (by first | exact Nat.le_of_ble_eq_true rfl | exact (show 0 ≤ 0 by omega)) (by first | exact Nat.le_of_ble_eq_true rfl | exact (show 0 ≤ 0 by omega)) ⟨rfl, by rw [show xop 12 x y = x - y from rfl, Int64.ofInt_sub]⟩
  · have _ := hx
    refine lv_tableIn (off := 43) (tgt := 44) hx hb dX0_resultOf_1 (by decide) (by decide) (by decide) (by decide) ?_
    refine lv_lload_n hx hb dX0_resultOf_44 rfl (lv_at hl 1 rfl) ?_
    refine lv_lload_n hx hb dX0_resultOf_45 rfl (lv_at hl 2 rfl) ?_
    refine lv_lmul hx hb dX0_resultOf_46 ?_
    exact x_lret (G := G) hx hb hr dX0_resultOf_47 hlocks hS (by first | exact Nat.le_of_ble_eq_true rfl | exact (show 0 ≤ 0 by omega)) (by first | exact Nat.le_of_ble_eq_true rfl | exact (show 0 ≤ 0 by omega)) ⟨rfl, by rw [show xop 13 x y = x * y from rfl, Int64.ofInt_mul]⟩
  · have _ := hx
    refine lv_tableIn (off := 47) (tgt := 48) hx hb dX0_resultOf_1 (by decide) (by decide) (by decide) (by decide) ?_
    refine lv_lload_n hx hb dX0_resultOf_48 rfl (lv_at hl 2 rfl) ?_
    refine lv_lconst (v := (lN 0)) hx hb dX0_resultOf_49 (by decide) ?_
    refine W.lcmp hx hb dX0_resultOf_50 ?_
    refine lv_if_ne (tgt := 58) hx hb dX0_resultOf_51 (by decide) (fun c_1 => ?_) (fun c_1 => ?_)
    · have _ := hx
      refine lv_lload_n hx hb dX0_resultOf_58 rfl (lv_at hl 1 rfl) ?_
      refine lv_lload_n hx hb dX0_resultOf_59 rfl (lv_at hl 2 rfl) ?_
      have hy0 : y ≠ 0 := fun q => c_1 ((xcmp0 hy1).mpr q)
      refine lv_ldiv hx hb dX0_resultOf_60 (xne0 hy1 hy0) ?_
      exact x_lret (G := G) hx hb hr dX0_resultOf_61 hlocks hS (by first | exact Nat.le_of_ble_eq_true rfl | exact (show 0 ≤ 0 by omega)) (by first | exact Nat.le_of_ble_eq_true rfl | exact (show 0 ≤ 0 by omega)) ⟨rfl, by rw [show xop 14 x y = x.tdiv y from if_neg hy0, Int64.ofInt_tdiv (by show (-9223372036854775808 : Int) ≤ x; omega) (by show x ≤ (9223372036854775807 : Int); omega) (by show (-9223372036854775808 : Int) ≤ y; omega) (by show y ≤ (9223372036854775807 : Int); omega)]⟩
    · have _ := hx
      refine lv_lconst (v := (lN 0)) hx hb dX0_resultOf_54 (by decide) ?_
      refine lv_goto (tgt := 61) hx hb dX0_resultOf_55 (by decide) ?_
      exact x_lret (G := G) hx hb hr dX0_resultOf_61 hlocks hS (by first | exact Nat.le_of_ble_eq_true rfl | exact (show 0 ≤ 0 by omega)) (by first | exact Nat.le_of_ble_eq_true rfl | exact (show 0 ≤ 0 by omega)) ⟨rfl, by rw [show xop 14 x y = 0 from if_pos ((xcmp0 hy1).mp c_1)]; rfl⟩
  · have _ := hx
    refine lv_tableIn (off := 61) (tgt := 62) hx hb dX0_resultOf_1 (by decide) (by decide) (by decide) (by decide) ?_
    refine lv_lload_n hx hb dX0_resultOf_62 rfl (lv_at hl 1 rfl) ?_
    refine lv_lload_n hx hb dX0_resultOf_63 rfl (lv_at hl 2 rfl) ?_
    refine va_mmin_long hx hb (by rw [hml]; exact hl.1.symm) hown (hts (.methodLink RX0 76 Lib.MathLoose.min_long.x) (by decide +kernel)) (hts (.static Lib.MathLoose.min_long.x) (by decide +kernel)) (hts (.initialized "java/lang/Math") (by decide +kernel)) (hts (.code Lib.MathLoose.min_long.x Lib.MathLoose.min_long.code 4 (some .long)) (by decide +kernel)) (Nat.le_of_ble_eq_true rfl) (Nat.le_of_ble_eq_true rfl) (by first | exact Nat.le_of_ble_eq_true rfl | omega) (by first | exact Nat.le_of_ble_eq_true rfl | omega) dX0_resultOf_64 ?_
    exact x_lret (G := G) hx hb hr dX0_resultOf_67 hlocks hS (by first | exact Nat.le_of_ble_eq_true rfl | exact (show 0 ≤ 0 by omega)) (by first | exact Nat.le_of_ble_eq_true rfl | exact (show 0 ≤ 0 by omega)) ⟨rfl, by rw [show xop 15 x y = (if x ≤ y then x else y) from rfl]; by_cases c9 : y < x; (rw [if_pos ((xl_lt hy1 hx1).mpr c9), if_neg (by omega)]); (rw [if_neg (fun q => c9 ((xl_lt hy1 hx1).mp q)), if_pos (by omega)])⟩
  · have _ := hx
    refine lv_tableOut (tgt := 68) hx hb dX0_resultOf_1 (by decide) (by decide) ?_
    refine lv_lload_n hx hb dX0_resultOf_68 rfl (lv_at hl 1 rfl) ?_
    refine lv_lload_n hx hb dX0_resultOf_69 rfl (lv_at hl 2 rfl) ?_
    refine va_mmax_long hx hb (by rw [hml]; exact hl.1.symm) hown (hts (.methodLink RX0 79 Lib.MathLoose.max_long.x) (by decide +kernel)) (hts (.static Lib.MathLoose.max_long.x) (by decide +kernel)) (hts (.initialized "java/lang/Math") (by decide +kernel)) (hts (.code Lib.MathLoose.max_long.x Lib.MathLoose.max_long.code 4 (some .long)) (by decide +kernel)) (Nat.le_of_ble_eq_true rfl) (Nat.le_of_ble_eq_true rfl) (by first | exact Nat.le_of_ble_eq_true rfl | omega) (by first | exact Nat.le_of_ble_eq_true rfl | omega) dX0_resultOf_70 ?_
    exact x_lret (G := G) hx hb hr dX0_resultOf_73 hlocks hS (by first | exact Nat.le_of_ble_eq_true rfl | exact (show 0 ≤ 0 by omega)) (by first | exact Nat.le_of_ble_eq_true rfl | exact (show 0 ≤ 0 by omega)) ⟨rfl, by rw [show xop 16 x y = (if y ≤ x then x else y) from rfl]; by_cases c9 : y < x; (rw [if_pos ((xl_lt hy1 hx1).mpr c9), if_pos (by omega)]); (rw [if_neg (fun q => c9 ((xl_lt hy1 hx1).mp q))]; by_cases c8 : y ≤ x; (rw [if_pos c8, show y = x by omega]); (rw [if_neg c8]))⟩

theorem xcl_id {z : Int} (h1 : -100000 ≤ z) (h2 : z ≤ 100000) : xcl z = z := by unfold xcl; rw [if_neg (by omega), if_neg (by omega)]
theorem xstep_lo {s v : Nat} {q : (Nat → Int) × Nat} (h : s < 10) : xstep s v q = (va_up q.1 q.2 (xcl (s : Int)), q.2 + 1) := by rw [xcl_id (by omega) (by omega)]; exact if_pos h
theorem xstep_val {s v : Nat} {q : (Nat → Int) × Nat} (h : s = 10 ∧ v ≤ 99) : xstep s v q = (va_up q.1 q.2 (xcl (v : Int)), q.2 + 1) := by rw [xcl_id (by omega) (by omega)]; unfold xstep; rw [if_neg (by omega), if_pos h.1]
theorem xstep_op {s v : Nat} {q : (Nat → Int) × Nat} (h : 11 ≤ s) : xstep s v q = (va_up q.1 (q.2 - 2) (xcl (xop s (q.1 (q.2 - 2)) (q.1 (q.2 - 1)))), q.2 - 1) := by unfold xstep; rw [if_neg (by omega), if_neg (by omega)]
theorem xop_in {s : Nat} {x y : Int} (hx : -100000 ≤ x ∧ x ≤ 100000) (hy : -100000 ≤ y ∧ y ≤ 100000) : -1000000000000 ≤ xop s x y ∧ xop s x y ≤ 1000000000000 := by
  unfold xop
  split; omega
  split; omega
  split
  · have h1 : (x * y).natAbs ≤ 100000 * 100000 := by rw [Int.natAbs_mul]; exact Nat.mul_le_mul (by omega) (by omega)
    omega
  split
  · split; omega
    have h1 : (x.tdiv y).natAbs ≤ x.natAbs := by rw [Int.natAbs_tdiv]; exact Nat.div_le_self _ _
    omega
  split
  · split <;> omega
  · split <;> omega

set_option maxHeartbeats 4000000 in
set_option maxRecDepth 100000 in
/-- a step of a program on the stack -/
theorem c_X0_perform (l : Launch) (hfl : l.stackTraces = false) (G : xG) (k r a s9 v9 : Nat) (g : Nat → Int) (n : Nat) (H : Heap) (hs : sA G k r a g n H) (hA_k : xA G k) (hA_a : xA G a) (hs9 : s9 ≤ 16) (hv9 : v9 ≤ 99) (hlo : s9 ≤ 10 → n < 7) (hhi : 11 ≤ s9 → 2 ≤ n ∧ (-100000 ≤ g (n - 2) ∧ g (n - 2) ≤ 100000) ∧ -100000 ≤ g (n - 1) ∧ g (n - 1) ≤ 100000) : xMet l G yX0_perform wsX0_perform ({ frames := 2, cells := 0, slots := 0, locals := 54 } : Room) [.int (nI s9), .int (nI v9), .ref k] H (fun v H1 => v = none ∧ sA G k r a (xstep s9 v9 (g, n)).1 (xstep s9 v9 (g, n)).2 H1 ∧ xC [k, a] H H1) (xNo) := by
  refine vx_ofW (cc := cX0_perform) (maxL := 7) (ret := none) (by decide) rfl ?_
  intro p e s m args below meth c s₁ B hml hout hv
  obtain ⟨rfl, hH, hC⟩ := hv
  have hx := B.exec
  have hb := B.bytes
  have hr := B.returns
  have hts := atoms_spec (ws := wsX0_perform) B.pre
  have hown : s.vm.findClass RX0 = some m.cls := findClass_of_methodNamed B.named
  have hlocks := B.notSynchronized
  rw [hH]
  have hS : va_S (xA G) s.heap H [] := by rw [← hH]; exact va_S.rf
  generalize ([] : List Loc) = locs at hS ⊢
  have hl := lv_entry [.int (nI s9), .int (nI v9), .ref k] (n := 7) (Nat.le_of_ble_eq_true rfl)
  rw [lg_entry_eq]
  generalize (lg_sl [.int (nI s9), .int (nI v9), .ref k] ++ List.replicate (7 - (lg_sl [.int (nI s9), .int (nI v9), .ref k]).length) Slot.unset).toArray = ls at hl ⊢
  have hl : lv_has ls 7 [(0, .int (nI s9)), (1, .int (nI v9)), (2, .ref k)] := hl
  obtain ⟨hk0, hr0, ha0, hn, nkr, nka, nra⟩ := hs
  refine lv_iload_n hx hb dX0_perform_0 rfl (lv_at hl 0 rfl) ?_
  refine lv_bipush (v := (nI 10)) hx hb dX0_perform_1 (by decide) ?_
  refine lv_icmp_ge (tgt := 15) hx hb dX0_perform_3 (by decide) (fun c_1 => ?_) (fun c_1 => ?_)
  · have _ := hx
    have c_1 : 10 ≤ s9 := (nI_leI (a := 10) (b := s9) (by omega) (by omega)).mp c_1
    refine lv_iload_n hx hb dX0_perform_15 rfl (lv_at hl 0 rfl) ?_
    refine lv_bipush (v := (nI 10)) hx hb dX0_perform_16 (by decide) ?_
    refine lv_icmp_ne (tgt := 30) hx hb dX0_perform_18 (by decide) (fun c_2 => ?_) (fun c_2 => ?_)
    · have _ := hx
      have c_2 : ¬ (s9 = 10) := fun z => c_2 ((nI_eq (a := s9) (b := 10) (by omega) (by omega)).mpr z)
      refine lv_aload_n hx hb dX0_perform_30 rfl (lv_at hl 2 rfl) ?_
      obtain ⟨h2n, hg2, hg1⟩ := hhi (by omega)
      have hsz := hS.1
      refine x_call (px := xNo) (vx_runV (As := []) (rest := []) ⟨hx, hb, hml, hown, hts⟩ (c_X2_pop l hfl G k r a g n H ⟨hk0, hr0, ha0, by omega, nkr, nka, nra⟩ hA_k (by omega)) (cwV 0 hts gX0_perform_X2_pop rfl rfl rfl (by decide +kernel) ⟨(Nat.le_of_ble_eq_true rfl), (Nat.le_of_ble_eq_true rfl)⟩) (xPreV hC hS hk0 (q := (RX2, TX2, 2)) rfl) rfl rfl hl.1 rfl (lv_room (Nat.le_of_ble_eq_true rfl)) dX0_perform_31 ⟨(by first | exact Nat.le_of_ble_eq_true rfl | exact (show 0 + 0 ≤ 0 by omega)), (by first | exact Nat.le_of_ble_eq_true rfl | exact (show 0 + 0 ≤ 0 by omega))⟩) hS (fun _ h => h) (fun _ _ _ _ _ h => False.elim h) (fun v H_3 locs hp hz hk_4 hS => ?_)
      obtain ⟨rfl, ⟨hk5, hr5, ha5, hn5, -, -, -⟩, hc5⟩ := hp
      refine lv_i2l (v := Int64.ofInt (g (n - 1))) hx hb dX0_perform_34 (xz2l hg1.1 hg1.2) ?_
      refine lv_lstore_n (lv' := [(3, .long (Int64.ofInt (g (n - 1)))), (0, .int (nI s9)), (1, .int (nI v9)), (2, .ref k)]) hx hb dX0_perform_35 rfl hl (by decide) rfl (fun ls hl => ?_)
      refine lv_aload_n hx hb dX0_perform_36 rfl (lv_at hl 3 rfl) ?_
      have hsz := hS.1
      refine x_call (px := xNo) (vx_runV (As := []) (rest := []) ⟨hx, hb, hml, hown, hts⟩ (c_X2_pop l hfl G k r a g (n - 1) H_3 ⟨hk5, hr5, ha5, by omega, nkr, nka, nra⟩ hA_k (by omega)) (cwV 0 hts gX0_perform_X2_pop rfl rfl rfl (by decide +kernel) ⟨(Nat.le_of_ble_eq_true rfl), (Nat.le_of_ble_eq_true rfl)⟩) (xPreV hC hS hk5 (q := (RX2, TX2, 2)) rfl) rfl rfl hl.1 rfl (lv_room (Nat.le_of_ble_eq_true rfl)) dX0_perform_37 ⟨(by first | exact Nat.le_of_ble_eq_true rfl | exact (show 0 + 0 ≤ 0 by omega)), (by first | exact Nat.le_of_ble_eq_true rfl | exact (show 0 + 0 ≤ 0 by omega))⟩) hS (fun _ h => h) (fun _ _ _ _ _ h => False.elim h) (fun v H_6 locs hp hz hk_7 hS => ?_)
      obtain ⟨rfl, ⟨hk8, hr8, ha8, hn8, -, -, -⟩, hc8⟩ := hp
      rw [show n - 1 - 1 = n - 2 by omega]
      refine lv_i2l (v := Int64.ofInt (g (n - 2))) hx hb dX0_perform_40 (xz2l hg2.1 hg2.2) ?_
      refine lv_lstore (lv' := [(5, .long (Int64.ofInt (g (n - 2)))), (3, .long (Int64.ofInt (g (n - 1)))), (0, .int (nI s9)), (1, .int (nI v9)), (2, .ref k)]) hx hb dX0_perform_41 hl (by decide) rfl (fun ls hl => ?_)
      refine lv_aload_n hx hb dX0_perform_43 rfl (lv_at hl 4 rfl) ?_
      refine lv_iload_n hx hb dX0_perform_44 rfl (lv_at hl 2 rfl) ?_
      refine lv_lload hx hb dX0_perform_45 (lv_at hl 0 rfl) ?_
      refine lv_lload_n hx hb dX0_perform_47 rfl (lv_at hl 1 rfl) ?_
      refine x_lngE (vx_runS (As := [.int (nI s9), .long (Int64.ofInt (g (n - 2))), .long (Int64.ofInt (g (n - 1)))]) (rest := [.ref k]) ⟨hx, hb, hml, hown, hts⟩ (c_X0_resultOf l hfl G s9 (g (n - 2)) (g (n - 1)) H_6 (by omega) hs9 hg2 hg1) (va_cwS 3 hts gX0_perform_X0_resultOf rfl rfl rfl (by decide +kernel) ⟨(Nat.le_of_ble_eq_true rfl), (Nat.le_of_ble_eq_true rfl)⟩) (xPreS hC hS) rfl rfl hl.1 rfl (lv_room (Nat.le_of_ble_eq_true rfl)) dX0_perform_48 ⟨(by first | exact Nat.le_of_ble_eq_true rfl | exact (show 0 + 0 ≤ 0 by omega)), (by first | exact Nat.le_of_ble_eq_true rfl | exact (show 0 + 0 ≤ 0 by omega))⟩) hS (fun locs hS => ?_)
      have hsz := hS.1
      refine x_call (px := xNo) (vx_runV (As := [.long (Int64.ofInt (xop s9 (g (n - 2)) (g (n - 1))))]) (rest := []) ⟨hx, hb, hml, hown, hts⟩ (c_X2_push l hfl G k r a g (n - 1 - 1) (xop s9 (g (n - 2)) (g (n - 1))) H_6 ⟨hk8, hr8, ha8, by omega, nkr, nka, nra⟩ hA_k hA_a (by omega) (xop_in hg2 hg1).1 (xop_in hg2 hg1).2) (cwV 1 hts gX0_perform_X2_push rfl rfl rfl (by decide +kernel) ⟨(Nat.le_of_ble_eq_true rfl), (Nat.le_of_ble_eq_true rfl)⟩) (xPreV hC hS hk8 (q := (RX2, TX2, 2)) rfl) rfl rfl hl.1 rfl (lv_room (Nat.le_of_ble_eq_true rfl)) dX0_perform_51 ⟨(by first | exact Nat.le_of_ble_eq_true rfl | exact (show 0 + 0 ≤ 0 by omega)), (by first | exact Nat.le_of_ble_eq_true rfl | exact (show 0 + 0 ≤ 0 by omega))⟩) hS (fun _ h => h) (fun _ _ _ _ _ h => False.elim h) (fun v H_9 locs hp hz hk_10 hS => ?_)
      obtain ⟨rfl, ⟨hk11, hr11, ha11, hn11, -, -, -⟩, hc11⟩ := hp
      exact x_vret (G := G) hx hb hr dX0_perform_54 hlocks hS (by first | exact Nat.le_of_ble_eq_true rfl | exact (show 0 ≤ 0 by omega)) (by first | exact Nat.le_of_ble_eq_true rfl | exact (show 0 ≤ 0 by omega)) ⟨rfl, (by have hh := (show sA G k r a _ _ _ from ⟨hk11, hr11, ha11, by omega, nkr, nka, nra⟩); have e9 := xstep_op (v := v9) (q := (g, n)) (s := s9) (by omega); rw [e9]; rw [show n - 1 - 1 + 1 = n - 1 by omega, show n - 1 - 1 = n - 2 by omega] at hh; exact hh), ((hc5.tr (hc8.tr hc11)).mono (fun q hq => by simp only [List.mem_append, List.mem_cons, List.not_mem_nil, or_false, false_or] at hq ⊢; omega))⟩
    · have _ := hx
      have c_2 : s9 = 10 := (nI_eq (a := s9) (b := 10) (by omega) (by omega)).mp c_2
      refine lv_aload_n hx hb dX0_perform_21 rfl (lv_at hl 2 rfl) ?_
      refine lv_iload_n hx hb dX0_perform_22 rfl (lv_at hl 1 rfl) ?_
      refine lv_i2l (v := Int64.ofInt (v9 : Int)) hx hb dX0_perform_23 (xi2l (by omega)) ?_
      have hsz := hS.1
      refine x_call (px := xNo) (vx_runV (As := [.long (Int64.ofInt (v9 : Int))]) (rest := []) ⟨hx, hb, hml, hown, hts⟩ (c_X2_push l hfl G k r a g n (v9 : Int) H ⟨hk0, hr0, ha0, by omega, nkr, nka, nra⟩ hA_k hA_a (by omega) (by omega) (by omega)) (cwV 1 hts gX0_perform_X2_push rfl rfl rfl (by decide +kernel) ⟨(Nat.le_of_ble_eq_true rfl), (Nat.le_of_ble_eq_true rfl)⟩) (xPreV hC hS hk0 (q := (RX2, TX2, 2)) rfl) rfl rfl hl.1 rfl (lv_room (Nat.le_of_ble_eq_true rfl)) dX0_perform_24 ⟨(by first | exact Nat.le_of_ble_eq_true rfl | exact (show 0 + 0 ≤ 0 by omega)), (by first | exact Nat.le_of_ble_eq_true rfl | exact (show 0 + 0 ≤ 0 by omega))⟩) hS (fun _ h => h) (fun _ _ _ _ _ h => False.elim h) (fun v H_12 locs hp hz hk_13 hS => ?_)
      obtain ⟨rfl, ⟨hk14, hr14, ha14, hn14, -, -, -⟩, hc14⟩ := hp
      refine lv_goto (tgt := 54) hx hb dX0_perform_27 (by decide) ?_
      exact x_vret (G := G) hx hb hr dX0_perform_54 hlocks hS (by first | exact Nat.le_of_ble_eq_true rfl | exact (show 0 ≤ 0 by omega)) (by first | exact Nat.le_of_ble_eq_true rfl | exact (show 0 ≤ 0 by omega)) ⟨rfl, (by have hh := (show sA G k r a _ _ _ from ⟨hk14, hr14, ha14, by omega, nkr, nka, nra⟩); have e9 := xstep_val (v := v9) (q := (g, n)) (s := s9) (by omega); rw [e9]; exact hh), (hc14.mono (fun q hq => by simp only [List.mem_append, List.mem_cons, List.not_mem_nil, or_false, false_or] at hq ⊢; omega))⟩
  · have _ := hx
    have c_1 : ¬ (10 ≤ s9) := fun z => c_1 ((nI_leI (a := 10) (b := s9) (by omega) (by omega)).mpr z)
    refine lv_aload_n hx hb dX0_perform_6 rfl (lv_at hl 2 rfl) ?_
    refine lv_iload_n hx hb dX0_perform_7 rfl (lv_at hl 0 rfl) ?_
    refine lv_i2l (v := Int64.ofInt (s9 : Int)) hx hb dX0_perform_8 (xi2l (by omega)) ?_
    have hsz := hS.1
    refine x_call (px := xNo) (vx_runV (As := [.long (Int64.ofInt (s9 : Int))]) (rest := []) ⟨hx, hb, hml, hown, hts⟩ (c_X2_push l hfl G k r a g n (s9 : Int) H ⟨hk0, hr0, ha0, by omega, nkr, nka, nra⟩ hA_k hA_a (by omega) (by omega) (by omega)) (cwV 1 hts gX0_perform_X2_push rfl rfl rfl (by decide +kernel) ⟨(Nat.le_of_ble_eq_true rfl), (Nat.le_of_ble_eq_true rfl)⟩) (xPreV hC hS hk0 (q := (RX2, TX2, 2)) rfl) rfl rfl hl.1 rfl (lv_room (Nat.le_of_ble_eq_true rfl)) dX0_perform_9 ⟨(by first | exact Nat.le_of_ble_eq_true rfl | exact (show 0 + 0 ≤ 0 by omega)), (by first | exact Nat.le_of_ble_eq_true rfl | exact (show 0 + 0 ≤ 0 by omega))⟩) hS (fun _ h => h) (fun _ _ _ _ _ h => False.elim h) (fun v H_15 locs hp hz hk_16 hS => ?_)
    obtain ⟨rfl, ⟨hk17, hr17, ha17, hn17, -, -, -⟩, hc17⟩ := hp
    refine lv_goto (tgt := 54) hx hb dX0_perform_12 (by decide) ?_
    exact x_vret (G := G) hx hb hr dX0_perform_54 hlocks hS (by first | exact Nat.le_of_ble_eq_true rfl | exact (show 0 ≤ 0 by omega)) (by first | exact Nat.le_of_ble_eq_true rfl | exact (show 0 ≤ 0 by omega)) ⟨rfl, (by have hh := (show sA G k r a _ _ _ from ⟨hk17, hr17, ha17, by omega, nkr, nka, nra⟩); have e9 := xstep_lo (v := v9) (q := (g, n)) (s := s9) (by omega); rw [e9]; exact hh), (hc17.mono (fun q hq => by simp only [List.mem_append, List.mem_cons, List.not_mem_nil, or_false, false_or] at hq ⊢; omega))⟩
end
