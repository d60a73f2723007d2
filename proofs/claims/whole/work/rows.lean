section
-- ===== PART A: goes FIRST, ahead of the names: the tables' words, and 'selects' of the private methods out of them =====
/-- a private method of a class that the tables say can be made, by its rows of tables_1 -/
def lw_okq (q : MethodName × Nat) : Prop := (q.1.cls ≠ "java/lang/invoke/MethodHandle" ∧ q.1.cls ≠ "java/lang/invoke/VarHandle") ∧ Cond.instantiable q.1.cls q.2 ∈ tables_1 ∧ Cond.privateMethod q.1 ∈ tables_1 ∧ Cond.instanceMethod q.1 ∈ tables_1
theorem lw_p0 : lw_okq (⟨"Tonguetell", "costOfSpelled", "(I)I"⟩, 8) := ⟨⟨by decide +kernel, by decide +kernel⟩, List.mem_of_getElem? (i := 16) (by decide +kernel), List.mem_of_getElem? (i := 156) (by decide +kernel), List.mem_of_getElem? (i := 157) (by decide +kernel)⟩
theorem lw_p1 : lw_okq (⟨"Tonguetell$Spelling", "letterOrGap", "(I)I"⟩, 2) := ⟨⟨by decide +kernel, by decide +kernel⟩, List.mem_of_getElem? (i := 24) (by decide +kernel), List.mem_of_getElem? (i := 164) (by decide +kernel), List.mem_of_getElem? (i := 165) (by decide +kernel)⟩
theorem lw_p2 : lw_okq (⟨"Tonguetell", "isSure", "(II)Z"⟩, 8) := ⟨⟨by decide +kernel, by decide +kernel⟩, List.mem_of_getElem? (i := 16) (by decide +kernel), List.mem_of_getElem? (i := 172) (by decide +kernel), List.mem_of_getElem? (i := 173) (by decide +kernel)⟩
theorem lw_p3 : lw_okq (⟨"Tonguetell", "tallySpelled", "()V"⟩, 8) := ⟨⟨by decide +kernel, by decide +kernel⟩, List.mem_of_getElem? (i := 16) (by decide +kernel), List.mem_of_getElem? (i := 180) (by decide +kernel), List.mem_of_getElem? (i := 181) (by decide +kernel)⟩
theorem lw_p4 : lw_okq (⟨"Tonguetell", "distanceOfSpelled", "(I)I"⟩, 8) := ⟨⟨by decide +kernel, by decide +kernel⟩, List.mem_of_getElem? (i := 16) (by decide +kernel), List.mem_of_getElem? (i := 192) (by decide +kernel), List.mem_of_getElem? (i := 193) (by decide +kernel)⟩
theorem lw_p5 : lw_okq (⟨"java/lang/Throwable", "fillInStackTrace", "(I)Ljava/lang/Throwable;"⟩, 6) := ⟨⟨by decide +kernel, by decide +kernel⟩, List.mem_of_getElem? (i := 254) (by decide +kernel), List.mem_of_getElem? (i := 252) (by decide +kernel), List.mem_of_getElem? (i := 253) (by decide +kernel)⟩
theorem lw_p6 : lw_okq (⟨"Tonguetell", "requireRunPlace", "(I)V"⟩, 8) := ⟨⟨by decide +kernel, by decide +kernel⟩, List.mem_of_getElem? (i := 16) (by decide +kernel), List.mem_of_getElem? (i := 312) (by decide +kernel), List.mem_of_getElem? (i := 313) (by decide +kernel)⟩
theorem lw_p7 : lw_okq (⟨"Tonguetell", "newTongue", "()I"⟩, 8) := ⟨⟨by decide +kernel, by decide +kernel⟩, List.mem_of_getElem? (i := 16) (by decide +kernel), List.mem_of_getElem? (i := 340) (by decide +kernel), List.mem_of_getElem? (i := 341) (by decide +kernel)⟩
theorem lw_p8 : lw_okq (⟨"Tonguetell", "requireTongue", "(I)V"⟩, 8) := ⟨⟨by decide +kernel, by decide +kernel⟩, List.mem_of_getElem? (i := 16) (by decide +kernel), List.mem_of_getElem? (i := 351) (by decide +kernel), List.mem_of_getElem? (i := 352) (by decide +kernel)⟩
theorem lw_p9 : lw_okq (⟨"Tonguetell$Shelf", "firstSlotWith", "(I)I"⟩, 5) := ⟨⟨by decide +kernel, by decide +kernel⟩, List.mem_of_getElem? (i := 55) (by decide +kernel), List.mem_of_getElem? (i := 361) (by decide +kernel), List.mem_of_getElem? (i := 362) (by decide +kernel)⟩
theorem lw_p10 : lw_okq (⟨"Tonguetell", "teachRuns", "(III)I"⟩, 8) := ⟨⟨by decide +kernel, by decide +kernel⟩, List.mem_of_getElem? (i := 16) (by decide +kernel), List.mem_of_getElem? (i := 366) (by decide +kernel), List.mem_of_getElem? (i := 367) (by decide +kernel)⟩
theorem lw_p11 : lw_okq (⟨"Tonguetell", "slotOfTaught", "(I)I"⟩, 8) := ⟨⟨by decide +kernel, by decide +kernel⟩, List.mem_of_getElem? (i := 16) (by decide +kernel), List.mem_of_getElem? (i := 382) (by decide +kernel), List.mem_of_getElem? (i := 383) (by decide +kernel)⟩
theorem lw_p12 : lw_okq (⟨"Tonguetell", "requireSomeTongue", "()V"⟩, 8) := ⟨⟨by decide +kernel, by decide +kernel⟩, List.mem_of_getElem? (i := 16) (by decide +kernel), List.mem_of_getElem? (i := 490) (by decide +kernel), List.mem_of_getElem? (i := 491) (by decide +kernel)⟩
theorem lw_p13 : lw_okq (⟨"Tonguetell", "layCostsForCut", "()V"⟩, 8) := ⟨⟨by decide +kernel, by decide +kernel⟩, List.mem_of_getElem? (i := 16) (by decide +kernel), List.mem_of_getElem? (i := 495) (by decide +kernel), List.mem_of_getElem? (i := 496) (by decide +kernel)⟩
theorem lw_p14 : lw_okq (⟨"Tonguetell$Cutter", "fillRest", "()V"⟩, 6) := ⟨⟨by decide +kernel, by decide +kernel⟩, List.mem_of_getElem? (i := 83) (by decide +kernel), List.mem_of_getElem? (i := 507) (by decide +kernel), List.mem_of_getElem? (i := 508) (by decide +kernel)⟩
theorem lw_p15 : lw_okq (⟨"Tonguetell$Cutter", "leastBehind", "(II)I"⟩, 6) := ⟨⟨by decide +kernel, by decide +kernel⟩, List.mem_of_getElem? (i := 83) (by decide +kernel), List.mem_of_getElem? (i := 511) (by decide +kernel), List.mem_of_getElem? (i := 512) (by decide +kernel)⟩
def lw_privs_1 : List (MethodName × Nat) := [(⟨"Tonguetell", "costOfSpelled", "(I)I"⟩, 8), (⟨"Tonguetell$Spelling", "letterOrGap", "(I)I"⟩, 2), (⟨"Tonguetell", "isSure", "(II)Z"⟩, 8), (⟨"Tonguetell", "tallySpelled", "()V"⟩, 8), (⟨"Tonguetell", "distanceOfSpelled", "(I)I"⟩, 8), (⟨"java/lang/Throwable", "fillInStackTrace", "(I)Ljava/lang/Throwable;"⟩, 6), (⟨"Tonguetell", "requireRunPlace", "(I)V"⟩, 8), (⟨"Tonguetell", "newTongue", "()I"⟩, 8), (⟨"Tonguetell", "requireTongue", "(I)V"⟩, 8), (⟨"Tonguetell$Shelf", "firstSlotWith", "(I)I"⟩, 5), (⟨"Tonguetell", "teachRuns", "(III)I"⟩, 8), (⟨"Tonguetell", "slotOfTaught", "(I)I"⟩, 8), (⟨"Tonguetell", "requireSomeTongue", "()V"⟩, 8), (⟨"Tonguetell", "layCostsForCut", "()V"⟩, 8), (⟨"Tonguetell$Cutter", "fillRest", "()V"⟩, 6), (⟨"Tonguetell$Cutter", "leastBehind", "(II)I"⟩, 6)]
theorem lw_r1 : ∀ q ∈ lw_privs_1, lw_okq q := List.forall_mem_cons.mpr ⟨lw_p0, List.forall_mem_cons.mpr ⟨lw_p1, List.forall_mem_cons.mpr ⟨lw_p2, List.forall_mem_cons.mpr ⟨lw_p3, List.forall_mem_cons.mpr ⟨lw_p4, List.forall_mem_cons.mpr ⟨lw_p5, List.forall_mem_cons.mpr ⟨lw_p6, List.forall_mem_cons.mpr ⟨lw_p7, List.forall_mem_cons.mpr ⟨lw_p8, List.forall_mem_cons.mpr ⟨lw_p9, List.forall_mem_cons.mpr ⟨lw_p10, List.forall_mem_cons.mpr ⟨lw_p11, List.forall_mem_cons.mpr ⟨lw_p12, List.forall_mem_cons.mpr ⟨lw_p13, List.forall_mem_cons.mpr ⟨lw_p14, List.forall_mem_cons.mpr ⟨lw_p15, fun _ h => absurd h List.not_mem_nil⟩⟩⟩⟩⟩⟩⟩⟩⟩⟩⟩⟩⟩⟩⟩⟩
theorem lw_p16 : lw_okq (⟨"Tonguetell$Cutter", "cheapest", "(II)I"⟩, 6) := ⟨⟨by decide +kernel, by decide +kernel⟩, List.mem_of_getElem? (i := 83) (by decide +kernel), List.mem_of_getElem? (i := 515) (by decide +kernel), List.mem_of_getElem? (i := 516) (by decide +kernel)⟩
theorem lw_p17 : lw_okq (⟨"Tonguetell$Cutter", "restAfter", "(III)I"⟩, 6) := ⟨⟨by decide +kernel, by decide +kernel⟩, List.mem_of_getElem? (i := 83) (by decide +kernel), List.mem_of_getElem? (i := 519) (by decide +kernel), List.mem_of_getElem? (i := 520) (by decide +kernel)⟩
theorem lw_p18 : lw_okq (⟨"Tonguetell$Cutter", "priceOfChange", "(II)I"⟩, 6) := ⟨⟨by decide +kernel, by decide +kernel⟩, List.mem_of_getElem? (i := 83) (by decide +kernel), List.mem_of_getElem? (i := 523) (by decide +kernel), List.mem_of_getElem? (i := 524) (by decide +kernel)⟩
theorem lw_p19 : lw_okq (⟨"Tonguetell", "fitsNoTongue", "(II)Z"⟩, 8) := ⟨⟨by decide +kernel, by decide +kernel⟩, List.mem_of_getElem? (i := 16) (by decide +kernel), List.mem_of_getElem? (i := 576) (by decide +kernel), List.mem_of_getElem? (i := 577) (by decide +kernel)⟩
theorem lw_p20 : lw_okq (⟨"TonguetellModel", "runMany", "()I"⟩, 13) := ⟨⟨by decide +kernel, by decide +kernel⟩, List.mem_of_getElem? (i := 580) (by decide +kernel), List.mem_of_getElem? (i := 642) (by decide +kernel), List.mem_of_getElem? (i := 643) (by decide +kernel)⟩
theorem lw_p21 : lw_okq (⟨"TonguetellModel", "run", "(I)I"⟩, 13) := ⟨⟨by decide +kernel, by decide +kernel⟩, List.mem_of_getElem? (i := 580) (by decide +kernel), List.mem_of_getElem? (i := 653) (by decide +kernel), List.mem_of_getElem? (i := 654) (by decide +kernel)⟩
theorem lw_p22 : lw_okq (⟨"TonguetellModel", "fails", "(I)I"⟩, 13) := ⟨⟨by decide +kernel, by decide +kernel⟩, List.mem_of_getElem? (i := 580) (by decide +kernel), List.mem_of_getElem? (i := 657) (by decide +kernel), List.mem_of_getElem? (i := 658) (by decide +kernel)⟩
theorem lw_p23 : lw_okq (⟨"TonguetellModel", "isTongue", "(I)Z"⟩, 13) := ⟨⟨by decide +kernel, by decide +kernel⟩, List.mem_of_getElem? (i := 580) (by decide +kernel), List.mem_of_getElem? (i := 673) (by decide +kernel), List.mem_of_getElem? (i := 674) (by decide +kernel)⟩
theorem lw_p24 : lw_okq (⟨"TonguetellModel", "keeps", "(III)I"⟩, 13) := ⟨⟨by decide +kernel, by decide +kernel⟩, List.mem_of_getElem? (i := 580) (by decide +kernel), List.mem_of_getElem? (i := 677) (by decide +kernel), List.mem_of_getElem? (i := 678) (by decide +kernel)⟩
theorem lw_p25 : lw_okq (⟨"TonguetellModel", "slot", "(I)I"⟩, 13) := ⟨⟨by decide +kernel, by decide +kernel⟩, List.mem_of_getElem? (i := 580) (by decide +kernel), List.mem_of_getElem? (i := 685) (by decide +kernel), List.mem_of_getElem? (i := 686) (by decide +kernel)⟩
theorem lw_p26 : lw_okq (⟨"TonguetellModel", "totalOf", "(I)I"⟩, 13) := ⟨⟨by decide +kernel, by decide +kernel⟩, List.mem_of_getElem? (i := 580) (by decide +kernel), List.mem_of_getElem? (i := 697) (by decide +kernel), List.mem_of_getElem? (i := 698) (by decide +kernel)⟩
theorem lw_p27 : lw_okq (⟨"TonguetellModel", "isRun", "(II)Z"⟩, 13) := ⟨⟨by decide +kernel, by decide +kernel⟩, List.mem_of_getElem? (i := 580) (by decide +kernel), List.mem_of_getElem? (i := 705) (by decide +kernel), List.mem_of_getElem? (i := 706) (by decide +kernel)⟩
theorem lw_p28 : lw_okq (⟨"TonguetellModel", "countOf", "(II)I"⟩, 13) := ⟨⟨by decide +kernel, by decide +kernel⟩, List.mem_of_getElem? (i := 580) (by decide +kernel), List.mem_of_getElem? (i := 709) (by decide +kernel), List.mem_of_getElem? (i := 710) (by decide +kernel)⟩
theorem lw_p29 : lw_okq (⟨"TonguetellModel", "costOf", "(II)I"⟩, 13) := ⟨⟨by decide +kernel, by decide +kernel⟩, List.mem_of_getElem? (i := 580) (by decide +kernel), List.mem_of_getElem? (i := 717) (by decide +kernel), List.mem_of_getElem? (i := 718) (by decide +kernel)⟩
theorem lw_p30 : lw_okq (⟨"TonguetellModel", "rankOf", "(II)I"⟩, 13) := ⟨⟨by decide +kernel, by decide +kernel⟩, List.mem_of_getElem? (i := 580) (by decide +kernel), List.mem_of_getElem? (i := 725) (by decide +kernel), List.mem_of_getElem? (i := 726) (by decide +kernel)⟩
theorem lw_p31 : lw_okq (⟨"TonguetellModel", "costOfText", "(I)I"⟩, 13) := ⟨⟨by decide +kernel, by decide +kernel⟩, List.mem_of_getElem? (i := 580) (by decide +kernel), List.mem_of_getElem? (i := 733) (by decide +kernel), List.mem_of_getElem? (i := 734) (by decide +kernel)⟩
def lw_privs_2 : List (MethodName × Nat) := [(⟨"Tonguetell$Cutter", "cheapest", "(II)I"⟩, 6), (⟨"Tonguetell$Cutter", "restAfter", "(III)I"⟩, 6), (⟨"Tonguetell$Cutter", "priceOfChange", "(II)I"⟩, 6), (⟨"Tonguetell", "fitsNoTongue", "(II)Z"⟩, 8), (⟨"TonguetellModel", "runMany", "()I"⟩, 13), (⟨"TonguetellModel", "run", "(I)I"⟩, 13), (⟨"TonguetellModel", "fails", "(I)I"⟩, 13), (⟨"TonguetellModel", "isTongue", "(I)Z"⟩, 13), (⟨"TonguetellModel", "keeps", "(III)I"⟩, 13), (⟨"TonguetellModel", "slot", "(I)I"⟩, 13), (⟨"TonguetellModel", "totalOf", "(I)I"⟩, 13), (⟨"TonguetellModel", "isRun", "(II)Z"⟩, 13), (⟨"TonguetellModel", "countOf", "(II)I"⟩, 13), (⟨"TonguetellModel", "costOf", "(II)I"⟩, 13), (⟨"TonguetellModel", "rankOf", "(II)I"⟩, 13), (⟨"TonguetellModel", "costOfText", "(I)I"⟩, 13)]
theorem lw_r2 : ∀ q ∈ lw_privs_2, lw_okq q := List.forall_mem_cons.mpr ⟨lw_p16, List.forall_mem_cons.mpr ⟨lw_p17, List.forall_mem_cons.mpr ⟨lw_p18, List.forall_mem_cons.mpr ⟨lw_p19, List.forall_mem_cons.mpr ⟨lw_p20, List.forall_mem_cons.mpr ⟨lw_p21, List.forall_mem_cons.mpr ⟨lw_p22, List.forall_mem_cons.mpr ⟨lw_p23, List.forall_mem_cons.mpr ⟨lw_p24, List.forall_mem_cons.mpr ⟨lw_p25, List.forall_mem_cons.mpr ⟨lw_p26, List.forall_mem_cons.mpr ⟨lw_p27, List.forall_mem_cons.mpr ⟨lw_p28, List.forall_mem_cons.mpr ⟨lw_p29, List.forall_mem_cons.mpr ⟨lw_p30, List.forall_mem_cons.mpr ⟨lw_p31, fun _ h => absurd h List.not_mem_nil⟩⟩⟩⟩⟩⟩⟩⟩⟩⟩⟩⟩⟩⟩⟩⟩
theorem lw_p32 : lw_okq (⟨"TonguetellModel", "distanceOf", "(I)I"⟩, 13) := ⟨⟨by decide +kernel, by decide +kernel⟩, List.mem_of_getElem? (i := 580) (by decide +kernel), List.mem_of_getElem? (i := 741) (by decide +kernel), List.mem_of_getElem? (i := 742) (by decide +kernel)⟩
theorem lw_p33 : lw_okq (⟨"TonguetellModel", "inText", "(I)I"⟩, 13) := ⟨⟨by decide +kernel, by decide +kernel⟩, List.mem_of_getElem? (i := 580) (by decide +kernel), List.mem_of_getElem? (i := 745) (by decide +kernel), List.mem_of_getElem? (i := 746) (by decide +kernel)⟩
theorem lw_p34 : lw_okq (⟨"TonguetellModel", "leastCut", "()I"⟩, 13) := ⟨⟨by decide +kernel, by decide +kernel⟩, List.mem_of_getElem? (i := 580) (by decide +kernel), List.mem_of_getElem? (i := 769) (by decide +kernel), List.mem_of_getElem? (i := 770) (by decide +kernel)⟩
theorem lw_p35 : lw_okq (⟨"TonguetellModel", "lays", "()V"⟩, 13) := ⟨⟨by decide +kernel, by decide +kernel⟩, List.mem_of_getElem? (i := 580) (by decide +kernel), List.mem_of_getElem? (i := 773) (by decide +kernel), List.mem_of_getElem? (i := 774) (by decide +kernel)⟩
theorem lw_p36 : lw_okq (⟨"TonguetellModel", "behind", "(II)I"⟩, 13) := ⟨⟨by decide +kernel, by decide +kernel⟩, List.mem_of_getElem? (i := 580) (by decide +kernel), List.mem_of_getElem? (i := 777) (by decide +kernel), List.mem_of_getElem? (i := 778) (by decide +kernel)⟩
theorem lw_p37 : lw_okq (⟨"TonguetellModel", "chooses", "(II)I"⟩, 13) := ⟨⟨by decide +kernel, by decide +kernel⟩, List.mem_of_getElem? (i := 580) (by decide +kernel), List.mem_of_getElem? (i := 781) (by decide +kernel), List.mem_of_getElem? (i := 782) (by decide +kernel)⟩
theorem lw_p38 : lw_okq (⟨"TonguetellModel", "isStrange", "(II)Z"⟩, 13) := ⟨⟨by decide +kernel, by decide +kernel⟩, List.mem_of_getElem? (i := 580) (by decide +kernel), List.mem_of_getElem? (i := 801) (by decide +kernel), List.mem_of_getElem? (i := 802) (by decide +kernel)⟩
def lw_privs_3 : List (MethodName × Nat) := [(⟨"TonguetellModel", "distanceOf", "(I)I"⟩, 13), (⟨"TonguetellModel", "inText", "(I)I"⟩, 13), (⟨"TonguetellModel", "leastCut", "()I"⟩, 13), (⟨"TonguetellModel", "lays", "()V"⟩, 13), (⟨"TonguetellModel", "behind", "(II)I"⟩, 13), (⟨"TonguetellModel", "chooses", "(II)I"⟩, 13), (⟨"TonguetellModel", "isStrange", "(II)Z"⟩, 13)]
theorem lw_r3 : ∀ q ∈ lw_privs_3, lw_okq q := List.forall_mem_cons.mpr ⟨lw_p32, List.forall_mem_cons.mpr ⟨lw_p33, List.forall_mem_cons.mpr ⟨lw_p34, List.forall_mem_cons.mpr ⟨lw_p35, List.forall_mem_cons.mpr ⟨lw_p36, List.forall_mem_cons.mpr ⟨lw_p37, List.forall_mem_cons.mpr ⟨lw_p38, fun _ h => absurd h List.not_mem_nil⟩⟩⟩⟩⟩⟩⟩
def lw_privs : List (MethodName × Nat) := lw_privs_1 ++ (lw_privs_2 ++ (lw_privs_3))
def lw_tbl : List Cond := k2_sels lw_privs ++ tables_1
theorem lw_privs_ok : ∀ q ∈ lw_privs, lw_okq q := by
  show ∀ q ∈ lw_privs_1 ++ (lw_privs_2 ++ (lw_privs_3)), lw_okq q
  exact List.forall_mem_append.mpr ⟨lw_r1, List.forall_mem_append.mpr ⟨lw_r2, lw_r3⟩⟩
end
section
/-! ===== BEGIN words of one list among another's, by their places ===== -/
theorem goodIn_r {big : List Cond} (ws : List Cond) (ps : List Nat) (hp : ws = ps.filterMap (fun i => big[i]?)) (h : ws.all goodWord = true) : GoodIn big ws := by
  intro w hw
  have h1 := List.all_eq_true.mp h w hw
  rw [hp] at hw
  obtain ⟨i, -, hi⟩ := List.mem_filterMap.mp hw
  have hm : w ∈ big := by first | exact List.mem_of_getElem? hi | exact List.getElem?_mem hi
  exact ⟨hm, good_of_word h1⟩
theorem goodIn_app {big a b : List Cond} (ha : GoodIn big a) (hb : GoodIn big b) : GoodIn big (a ++ b) := fun w h => (List.mem_append.mp h).elim (ha w) (hb w)
theorem goodIn_ca {big a b : List Cond} {c : Cond} (ha : GoodIn big (c :: a)) (hb : GoodIn big b) : GoodIn big (c :: (a ++ b)) := fun w h => (List.mem_cons.mp h).elim (fun e => ha w (List.mem_cons.mpr (Or.inl e))) (fun h => (List.mem_append.mp h).elim (fun h => ha w (List.mem_cons.mpr (Or.inr h))) (hb w))
theorem goodIn_sub {big ws : List Cond} (hm : ∀ w ∈ ws, w ∈ big) (h : ws.all goodWord = true) : GoodIn big ws := fun w hw => ⟨hm w hw, good_of_word (List.all_eq_true.mp h w hw)⟩
/-! ===== END ===== -/

/-! ===== BEGIN new T[n][m]: the outer array a place, the inner ones among the pooled ===== -/
/-- f, but v at every address of l -/
def vr_up {α : Type} (f : Nat → α) (l : List Nat) (v : α) : Nat → α := fun a => if a ∈ l then v else f a
theorem vr_up_in {α : Type} {f : Nat → α} {l : List Nat} {v : α} {a : Nat} (h : a ∈ l) : vr_up f l v a = v := if_pos h
theorem vr_up_ne {α : Type} {f : Nat → α} {l : List Nat} {v : α} {a : Nat} (h : a ∉ l) : vr_up f l v a = f a := if_neg h
theorem vr_rows {L l : List Nat} {f : Nat → va_E} {e : va_E} (h : ∀ a, a ∈ l → a ∉ L) : va_pl L f ++ l.map (fun a => (a, e)) = va_pl (L ++ l) (vr_up f l e) := by
  unfold va_pl
  rw [List.map_append]
  congr 1
  · apply List.map_congr_left
    intro a ha
    rw [vr_up_ne (fun q => h a q ha)]
  · apply List.map_congr_left
    intro a ha
    rw [vr_up_in ha]
theorem vr_lay {X rows : va_W} {x : Nat × va_E} {pl : va_W} {D : va_G} {cl : List vw_C} {H : Heap} (hP : va_P D cl (((X ++ pl) ++ [x]) ++ rows) H) : va_P D cl ((X ++ [x]) ++ (pl ++ rows)) H := by
  rw [List.append_assoc (X ++ pl)] at hP
  have h := va_P.swap hP
  rw [← List.append_assoc X] at h
  have h2 := va_P.swap h
  rw [List.append_assoc (X ++ [x])] at h2
  exact h2
theorem vr_layD {X rows : va_W} {x : Nat × va_E} {pl : va_W} {A : Nat → Prop} (hD : va_D A (((X ++ pl) ++ [x]) ++ rows)) : va_D A ((X ++ [x]) ++ (pl ++ rows)) := by
  rw [List.append_assoc (X ++ pl)] at hD
  have h := va_D.swap hD
  rw [← List.append_assoc X] at h
  have h2 := va_D.swap h
  rw [List.append_assoc (X ++ [x])] at h2
  exact h2
theorem vr_outer (c : ClassId) (N h0 : Nat) : ∀ i : Nat, Jvm.Free.Multi.outerC c N h0 i = arrV c N (fun j => va_rf (if j < i then some (h0 + 1 + j) else none))
  | 0 => by
    show ({ cls := c, slots := Array.replicate N .null, vm := .none } : Cell) = _
    rw [arrV_new]
    refine congrArg (arrV c N) (funext fun j => ?_)
    simp [va_rf]
  | i + 1 => by
    show (Jvm.Free.Multi.outerC c N h0 i).setSlot i (.ref (h0 + 1 + i)) = _
    rw [vr_outer c N h0 i, arrV_store]
    refine congrArg (arrV c N) (funext fun j => ?_)
    by_cases e : j = i
    · subst e
      simp [updV, va_rf]
    · by_cases h : j < i
      · simp [updV, e, h, Nat.lt_succ_of_lt h]
      · simp [updV, e, h, show ¬ j < i + 1 by omega]
/-- an array of arrays: its class over the component's (the word that the tables give, as a premise of a state) -/
def va_AOA (ty : FieldType) (U : State) : Prop := (Cond.arrayOver (.array ty)).before #[] U = true
theorem va_AOA.of {ty : FieldType} {A : Array Value} {U : State} (h : (Cond.arrayOver (.array ty)).before A U = true) : va_AOA ty U := h
theorem va_AOA.use {ty : FieldType} {A : Array Value} {U : State} (h : va_AOA ty U) : (Cond.arrayOver (.array ty)).before A U = true := h
section VGM
variable {p : Program} {l : Launch} {e : Env} {R : Room} {s : State} {m : MethodId} {args : Array Value} {below : List Frame} {meth : Method} {c : Code} {H : Heap} {locs : List Loc} {cells slots : Nat} {Q : State → Prop}
variable {cc : ByteArray} {pc : Nat} {ls : Array Slot} {rest : List Value} {D : va_G} {cl : List vw_C} {A : Nat → Prop} {a : Nat} {tys : List (ClassId × FieldType)} {ws : va_W} {H0 : Heap}
theorem va_mna {X : va_W} {L : List Nat} {f : Nat → va_E} {cc : ByteArray} (hexec : p.tables.exec = Jvm.exec) (hb : c.code = cc) {own : String} {index : Nat} {ty : FieldType} {cy : ClassId} (hown : s.vm.findClass own = some m.cls) (hclink : (Cond.classLink own index ("[" ++ (FieldType.array ty).toString)).before args s = true) (hover : va_AOA ty s) (harr : (Cond.arrayClass ty).before args s = true) (hcy : s.vm.findClass (FieldType.array ty).toString = some cy)
    (hK : va_K D cl tys s) (hP : va_P D cl (X ++ va_pl L f) H) (hD : va_D A (X ++ va_pl L f)) (hS : va_S A H0 H locs) (hA : ∀ q, H0.size ≤ q → A q) {n k : Int32} {N' K' : Nat} {z : vp_A} (hn : ¬ n < 0) (hk : ¬ k < 0) (hN : n.toNatClampNeg = N') (hM : k.toNatClampNeg = K')
    (hb1 : N' * 4 ≤ 536870912) (hb2 : K' * componentBytes ty ≤ 536870912) (hb3 : K' ≤ 536870912) (hdf : fits ty (defaultValue ty) = true) (hdd : (defaultValue ty).isDefault = true) (hcells : cells + (1 + N') ≤ R.cells) (hslots : slots + (N' + N' * K') ≤ R.slots) (hz : ∀ c : ClassId, Jvm.Free.Multi.innerC c K' (defaultValue ty) = vp_cell c z) (hdg : decode cc pc = .ok (.multianewarray index 2, 4))
    (kk : ∀ (q : Nat) (r : Nat → Nat) (cA : ClassId) (H1 : Heap), (∀ i j : Nat, i < N' → j < N' → r i = r j → i = j) → (∀ i : Nat, i < N' → r i ∉ L) → va_K D cl (tys ++ [(cA, .array ty)]) s →
      va_P D cl ((X ++ [(q, .inl (cA, N', .inr (.inr (.inr (.inr (fun i => if i < N' then some (r i) else none))))))]) ++ va_pl (L ++ (List.range N').map r) (vr_up f ((List.range N').map r) (.inl (cy, z)))) H1 → va_D A ((X ++ [(q, .inl (cA, N', .inr (.inr (.inr (.inr (fun i => if i < N' then some (r i) else none))))))]) ++ va_pl (L ++ (List.range N').map r) (vr_up f ((List.range N').map r) (.inl (cy, z)))) → va_S A H0 H1 locs →
      W p l e R s m args below meth c H1 locs (cells + 1 + N') (slots + N' + N' * K') Q (F0 m (pc + 4) ls (.ref q :: rest))) : W p l e R s m args below meth c H locs cells slots Q (F0 m pc ls (.int k :: .int n :: rest)) := by
  subst hN
  subst hM
  intro T hT Xs
  obtain ⟨vm₁, cA, comp, -, fA, fC, hO, -, X', step⟩ := Xs.multianewarray2F hexec hown hclink (va_AOA.use hover) harr (g := F0 m pc ls (.int k :: .int n :: rest)) rfl (by rw [hb]; exact hdg) rfl hn hk hb1 hb2 hb3 hdf hdd hcells hslots
  have ec : some cy = some comp := hcy.symm.trans fC
  cases ec
  generalize hF : Jvm.Free.Multi.fill (T.setVm vm₁) cA cy n.toNatClampNeg k.toNatClampNeg (defaultValue ty) n.toNatClampNeg = F at X' step
  have hTh : (T.setVm vm₁).heap = H := hT
  obtain ⟨f1, f2, -, -⟩ := Jvm.Free.Multi.fill_facts (T.setVm vm₁) cA cy n.toNatClampNeg k.toNatClampNeg (defaultValue ty) n.toNatClampNeg
  rw [hF, hTh] at f1 f2
  have hold : ∀ x : Nat, x < H.size → F.heap[x]? = H[x]? := fun x hx => by
    have := Jvm.Free.Multi.fill_old (T.setVm vm₁) cA cy n.toNatClampNeg k.toNatClampNeg (defaultValue ty) (a := x) (by rw [hTh]; exact hx) n.toNatClampNeg
    rw [hF, hTh] at this
    exact this
  have hrow : ∀ j : Nat, j < n.toNatClampNeg → F.heap[H.size + 1 + j]? = some (vp_cell cy z) := fun j hj => by
    have := Jvm.Free.Multi.fill_inner (T.setVm vm₁) cA cy n.toNatClampNeg k.toNatClampNeg (defaultValue ty) n.toNatClampNeg j hj
    rw [hF, hTh, hz] at this
    exact this
  have hout : Jvm.Free.Multi.outerC cA n.toNatClampNeg H.size n.toNatClampNeg = vp_cell cA (n.toNatClampNeg, .inr (.inr (.inr (.inr (fun i => if i < n.toNatClampNeg then some (H.size + 1 + i) else none))))) := by
    rw [vp_cell_q]
    exact vr_outer cA n.toNatClampNeg H.size n.toNatClampNeg
  rw [hout] at f2
  have hlt : ∀ a, a ∈ L → a < H.size := fun a ha => by
    obtain ⟨k9, hk9⟩ := va_pl_get (X := X) (f := f) ha
    exact (hP k9 _ hk9).lt
  have hnl : ∀ i : Nat, i < n.toNatClampNeg → H.size + 1 + i ∉ L := fun i _ h => by
    have := hlt _ h
    omega
  have hnm : ∀ a, a ∈ (List.range n.toNatClampNeg).map (fun i => H.size + 1 + i) → a ∉ L := fun a ha h => by
    obtain ⟨i, -, rfl⟩ := List.mem_map.mp ha
    have := hlt _ h
    omega
  have hP0 : va_P D cl (X ++ va_pl L f) F.heap := hP.kept (fun k9 x hx => hold x.1 ((hP k9 x hx).lt))
  have hP1 : va_P D cl ((X ++ va_pl L f) ++ [(H.size, .inl (cA, n.toNatClampNeg, .inr (.inr (.inr (.inr (fun i => if i < n.toNatClampNeg then some (H.size + 1 + i) else none))))))]) F.heap := hP0.app (fun k9 x hx => by
    have h0 : k9 < 1 := (List.getElem?_eq_some_iff.mp hx).1
    rw [show k9 = 0 by omega] at hx
    cases hx
    exact f2)
  have hP2 : va_P D cl (((X ++ va_pl L f) ++ [(H.size, .inl (cA, n.toNatClampNeg, .inr (.inr (.inr (.inr (fun i => if i < n.toNatClampNeg then some (H.size + 1 + i) else none))))))]) ++ ((List.range n.toNatClampNeg).map (fun i => H.size + 1 + i)).map (fun a => (a, .inl (cy, z)))) F.heap := hP1.app (fun k9 x hx => by
    obtain ⟨a, ha, rfl⟩ := List.mem_map.mp (List.mem_of_getElem? hx)
    obtain ⟨i, hi, rfl⟩ := List.mem_map.mp ha
    exact hrow i (List.mem_range.mp hi))
  have hD2 : va_D A (((X ++ va_pl L f) ++ [(H.size, .inl (cA, n.toNatClampNeg, .inr (.inr (.inr (.inr (fun i => if i < n.toNatClampNeg then some (H.size + 1 + i) else none))))))]) ++ ((List.range n.toNatClampNeg).map (fun i => H.size + 1 + i)).map (fun a => (a, .inl (cy, z)))) := by
    have hD1 := hD.push (e := .inl (cA, n.toNatClampNeg, .inr (.inr (.inr (.inr (fun i => if i < n.toNatClampNeg then some (H.size + 1 + i) else none)))))) hP rfl (hA _ hS.1)
    generalize hW1 : (X ++ va_pl L f) ++ [(H.size, .inl (cA, n.toNatClampNeg, .inr (.inr (.inr (.inr (fun i => if i < n.toNatClampNeg then some (H.size + 1 + i) else none))))))] = W1 at hD1 hP1 ⊢
    have hle : ∀ (k9 : Nat) (x : Nat × va_E), W1[k9]? = some x → x.1 ≤ H.size := fun k9 x hx => by
      rw [← hW1] at hx
      by_cases hl : k9 < (X ++ va_pl L f).length
      · rw [List.getElem?_append_left hl] at hx
        exact Nat.le_of_lt ((hP k9 x hx).lt)
      · rw [List.getElem?_append_right (by omega)] at hx
        have h0 : k9 - (X ++ va_pl L f).length < 1 := (List.getElem?_eq_some_iff.mp hx).1
        rw [show k9 - (X ++ va_pl L f).length = 0 by omega] at hx
        cases hx
        exact Nat.le_refl _
    have hr : ∀ (k9 : Nat) (x : Nat × va_E), (((List.range n.toNatClampNeg).map (fun i => H.size + 1 + i)).map (fun a => ((a, .inl (cy, z)) : Nat × va_E)))[k9]? = some x → x.1 = H.size + 1 + k9 := fun k9 x hx => by
      rw [List.getElem?_map, List.getElem?_map] at hx
      by_cases h9 : k9 < n.toNatClampNeg
      · rw [List.getElem?_range h9] at hx
        cases hx
        rfl
      · have hn0 : (List.range n.toNatClampNeg)[k9]? = none := List.getElem?_eq_none (by rw [List.length_range]; omega)
        rw [hn0] at hx
        cases hx
    refine ⟨fun i j x y hi hj hxy => ?_, fun k9 x hx => ?_⟩
    · by_cases h1 : i < W1.length <;> by_cases h2 : j < W1.length
      · rw [List.getElem?_append_left h1] at hi
        rw [List.getElem?_append_left h2] at hj
        exact hD1.1 i j x y hi hj hxy
      · rw [List.getElem?_append_left h1] at hi
        rw [List.getElem?_append_right (by omega)] at hj
        have := hle _ _ hi
        have := hr _ _ hj
        omega
      · rw [List.getElem?_append_right (by omega)] at hi
        rw [List.getElem?_append_left h2] at hj
        have := hle _ _ hj
        have := hr _ _ hi
        omega
      · rw [List.getElem?_append_right (by omega)] at hi hj
        have := hr _ _ hi
        have := hr _ _ hj
        omega
    · by_cases h1 : k9 < W1.length
      · rw [List.getElem?_append_left h1] at hx
        exact hD1.2 k9 x hx
      · rw [List.getElem?_append_right (by omega)] at hx
        have := hr _ _ hx
        exact hA _ (by have := hS.1; omega)
  have hAr : ArrOfT s cA (.array ty) := fun N9 z9 => by
    obtain ⟨-, k9, hk9, cm9, hkk9⟩ := (hO 0 0 0).1
    exact ⟨(fun q hq => by cases hq), k9, hk9, cm9, hkk9⟩
  have hK2 : va_K D cl (tys ++ [(cA, .array ty)]) s := ⟨hK.1, fun k9 x hx => by
    by_cases hl : k9 < tys.length
    · rw [List.getElem?_append_left hl] at hx
      exact hK.2 k9 x hx
    · rw [List.getElem?_append_right (by omega)] at hx
      have h0 : k9 - tys.length < 1 := (List.getElem?_eq_some_iff.mp hx).1
      rw [show k9 - tys.length = 0 by omega] at hx
      cases hx
      exact ⟨hAr, fA⟩⟩
  obtain ⟨t, a1, b1⟩ := kk H.size (fun i => H.size + 1 + i) cA F.heap (fun i j _ _ h => by have h9 : H.size + 1 + i = H.size + 1 + j := h; omega) hnl hK2 (by rw [← vr_rows hnm]; exact vr_lay hP2) (by rw [← vr_rows hnm]; exact vr_layD hD2) ⟨by rw [f1]; have := hS.1; omega, fun x h1 h2 => (hold x (Nat.lt_of_lt_of_le h1 hS.1)).trans (hS.2.1 x h1 h2), hS.2.2⟩ F rfl X'
  refine ⟨t, step t ?_, b1⟩
  have e : T.heap.size = H.size := by rw [hT]
  rw [e]
  exact a1
end VGM
/-! ===== END ===== -/

/-! ===== BEGIN exceptions that leave a method, and their catching by the caller (launches without stack traces) ===== -/
section VXA
/-! The laws vx_back, vx_callV, vx_callS, vx_callSW, vx_throw0, vx_throwS follow proofs of the library, with one case more: JvmDerived/Free/Laws.lean (Back.of_free), Shelf42/LK1.lean (callV, callS), Shelf/KitTraced.lean (throwNew0V, throwNewS). -/
/-- where a method has thrown q: the class by its name, the cell, what was written, the world -/
def vx_T (XC : String → State → State → Prop) (st : State) (q : Addr) (t : State) (mc ms : Nat) (free : Addr → Prop) : Prop :=
  ∃ (E : String) (ce : Cell) (L : List Loc), XC E st t ∧ t.heap[q]? = some ce ∧ ce.vm = .none ∧ st.vm.findClass E = some ce.cls ∧ st.WarmedH t.vm ∧ st.sameButNew ({ t with vm := st.vm } : State) L mc ms ∧ ∀ z ∈ L, free z.base
def vx_Q (Qc : Array Value → State → Outcome → State → Prop) (XC : String → State → State → Prop) (mc ms : Nat) (free : Addr → Prop) : Array Value → State → Outcome → State → Prop := fun a st o t =>
  (Qc a st o t ∧ ∃ L, FrameEnd st o t L mc ms ∧ ∀ q ∈ L, free q.base) ∨ ∃ q, o = .threw q ∧ vx_T XC st q t mc ms free
/-- a callee that returns or throws -/
def vx_Met (l : Launch) (y : MethodName) (ws : List Cond) (rm : Room) (Pc : Array Value → State → Prop) (Qc : Array Value → State → Outcome → State → Prop) (XC : String → State → State → Prop) (mc ms : Nat) (free : Addr → Prop) : Prop :=
  MetFree l y (headSpec ws rm) Pc (fun _ _ _ _ _ => True) (vx_Q Qc XC mc ms free)
def vx_Post (XC : String → State → State → Prop) (mc ms : Nat) (free : Addr → Prop) : Pt → Array Value → Addr → Pt → Prop := fun A a q B =>
  ∃ (g : JFrame) (mk : MethodId) (t : State) (L : List Loc) (E : String) (ce : Cell), B.U.heap = t.heap ∧ B.U.vm = t.vm ∧ XC E (A.U.calling g mk a) t ∧ t.heap[q]? = some ce ∧ ce.vm = .none ∧ A.U.vm.findClass E = some ce.cls ∧ B.locs = A.locs ++ L ∧ (∀ z ∈ L, free z.base) ∧ B.cells = A.cells + mc ∧ B.slots = A.slots + ms
def vx_Back (l : Launch) (R : Room) (p : Program) (e : Env) (below : List Frame) (s : State) (sargs : Array Value) (y : MethodName) (len W9 : Nat)
    (Pre : Pt → Array Value → Prop) (Post : Pt → Array Value → Option Value → Pt → Prop) (PostX : Pt → Array Value → Addr → Pt → Prop) : Prop :=
  ∀ (m : MethodId) (meth : Method) (c : Code) (A : Pt) (g : JFrame) (ig : Instr) (mk : MethodId) (a : Array Value),
    Stand p l e R s m sargs below meth c A.U A.locs A.cells A.slots → g.method = m → g.locals.size = c.maxLocals → decode c.code g.pc = .ok (ig, len) →
    2 * g.monitorRoom + (g.stack.map fun v => v.category).sum ≤ W9 → A.U.methodNamed? y = some mk → Pre A a →
    (∃ (v : Option Value) (B : Pt), Stand p l e R s m sargs below meth c B.U B.locs B.cells B.slots ∧ Post A a v B ∧
      Steps p.tables e below (doInvoke e (A.U.setTop g) [] mk a).1 (B.U.setTop { g with pc := g.pc + len, stack := v.toList ++ g.stack })) ∨
    (∃ (q : Addr) (B : Pt), Stand p l e R s m sargs below meth c B.U B.locs B.cells B.slots ∧ PostX A a q B ∧
      Steps p.tables e below (doInvoke e (A.U.setTop g) [] mk a).1 ((B.U.setTop g).pushFrame (.throwing q)))
section Payer
variable {l : Launch} {R : Room} {p : Program} {e : Env} {below : List Frame} {s : State} {sargs : Array Value} {y : MethodName} {len W9 : Nat}
theorem vx_back {ws : List Cond} {rm : Room} {Pc : Array Value → State → Prop} {Qc : Array Value → State → Outcome → State → Prop} {XC : String → State → State → Prop} {mc ms : Nat} {free : Addr → Prop} {bytes : ByteArray} {maxL : Nat} {ret : Option FieldType}
    (hM : vx_Met l y ws rm Pc Qc XC mc ms free) (hblind : FrameBlind Pc) (hrc : rm.cells = mc) (hrs : rm.slots = ms)
    (hframes : rm.frames + 1 ≤ R.frames) (hlocals : W9 + (maxL + 11) + rm.locals ≤ R.locals)
    (hws : ∀ w ∈ ws, ∀ a' U, s.WarmedH U.vm → w.before a' U = true) (hcode : Cond.code y bytes maxL ret ∈ ws) (hinit : ∀ a' U, s.WarmedH U.vm → (Cond.initialized y.cls).before a' U = true) :
    vx_Back l R p e below s sargs y len W9 (PreOf R mc ms Pc) (PostOf Qc mc ms free) (vx_Post XC mc ms free) := by
  intro m meth c A g ig mk a X hg hsize hdg hW hn hp
  have h1 : (headSpec ws rm).pre.before a A.U = true := atoms_intro fun w hw => hws w hw _ _ X.warmed
  have h2 : (Cond.code y bytes maxL ret).before a A.U = true := hws _ hcode _ _ X.warmed
  have h3 : (Cond.initialized y.cls).before a A.U = true := hinit _ _ X.warmed
  have h4 : A.cells + (headSpec ws rm).room.cells ≤ R.cells := by rw [show (headSpec ws rm).room.cells = mc from hrc]; exact hp.1
  have h5 : A.slots + (headSpec ws rm).room.slots ≤ R.slots := by rw [show (headSpec ws rm).room.slots = ms from hrs]; exact hp.2.1
  have hPc : Pc a (A.U.calling g mk a) := hblind _ _ _ _ hp.2.2
  obtain ⟨U, Ls, c0, s0⟩ := A
  dsimp only [Pt.U, Pt.locs, Pt.cells, Pt.slots] at h1 h2 h3 h4 h5 X hn hPc ⊢
  obtain ⟨methY, cY, hmY, hcY, -, hlY, -, -, -, -⟩ := Cond.code_spec hn h2
  obtain ⟨kY, hkY, -⟩ := className_of_methodNamed hn
  have hinitY : kY.init = .initialized := Cond.initialized_spec (findClass_of_methodNamed hn) hkY h3
  have h : At U g.method c below := by rw [hg]; exact X.here
  have hlocals9 : W9 + (maxL + 11) + (headSpec ws rm).room.locals ≤ R.locals := hlocals
  have happ : (headSpec ws rm).appliesLoose y e.platform (U.calling g mk a) = true :=
    Spec.appliesLoose_calling (g := g) h hdg hn hkY hinitY
      (X.room_calling (g := g) (R' := (headSpec ws rm).room) hsize hmY hcY hframes (by rw [hlY]; omega) h4 h5) h1
  obtain ⟨mid, hmid⟩ := h.above
  have hfr : (U.setTop g).frames = (.java g :: mid) ++ below := by rw [State.frames_setTop' g h.top, hmid]; rfl
  obtain ⟨o, s₂, hsteps, -, hend, hq⟩ := Steps.callFree hM p X.admits X.cas X.clock (acts := []) hfr happ hPc trivial
  have hq' : vx_Q Qc XC mc ms free a (U.calling g mk a) o s₂ := hq
  rw [State.frames_setTop' g h.top] at hend
  obtain ⟨g₀, hg0⟩ := Option.isSome_iff_exists.mp h.top
  obtain ⟨r, hr⟩ := State.topJava?_eq_some.mp hg0
  have hr' : (({ U with heap := s₂.heap, slotsUsed := s₂.slotsUsed } : State).setVm s₂.vm).frames = .java g₀ :: r := hr
  rcases hq' with ⟨hqc, L, hfe, hL⟩ | ⟨q, rfl, E, ce, L, hx, hce, hcv, hcl, hW₂, hsm, hL⟩
  · obtain ⟨⟨v, rfl⟩, hW₂, e2, q2, q3, q4, q5, q6⟩ := id hfe
    have e3 : s₂ = ({ (U.calling g mk a).setFrames s₂.frames with heap := s₂.heap, slotsUsed := s₂.slotsUsed } : State).setVm s₂.vm := by
      have : s₂ = ({ s₂ with vm := (U.calling g mk a).vm } : State).setVm s₂.vm := rfl
      rw [e2] at this
      exact this
    obtain ⟨c₂, i₂, len₂, hc₂, hd₂, hf₂⟩ := hend
    have hW' : U.WarmedH s₂.vm := hW₂
    have hcc : c₂ = c := by
      have h1 : s₂.code? g.method = U.code? g.method := by
        rw [State.code?_eq, State.code?_eq, hW'.alike.method?]
      exact Option.some.inj (hc₂.symm.trans (h1.trans h.code))
    subst hcc
    have hlen : len₂ = len := by rw [hdg] at hd₂; cases hd₂; rfl
    subst hlen
    have hs₂ : s₂ = (({ U with heap := s₂.heap, slotsUsed := s₂.slotsUsed } : State).setVm s₂.vm).setTop { g with pc := g.pc + len₂, stack := v.toList ++ g.stack } := by
      refine e3.trans ?_
      rw [hf₂, State.calling_eq h.top, State.setFrames_setFrames, State.setTop_of_frames _ hr', hr]
      rfl
    have hsame : U.sameButNew ({ U with heap := s₂.heap, slotsUsed := s₂.slotsUsed } : State) L mc ms := by
      refine ⟨?_, q2, q3, q4, q5, q6⟩
      obtain ⟨t, ht, -⟩ := State.frames_cons hr
      show ({ U with heap := s₂.heap, slotsUsed := s₂.slotsUsed } : State) = { U.setFrames U.frames with heap := s₂.heap, slotsUsed := s₂.slotsUsed }
      rw [State.setFrames_self ht]
    subst hg
    refine Or.inl ⟨v, ⟨(({ U with heap := s₂.heap, slotsUsed := s₂.slotsUsed } : State).setVm s₂.vm), Ls ++ L, c0 + mc, s0 + ms⟩,
      ⟨X.admits, X.cas, X.clock, X.frames, X.room, X.hears, X.method, X.code, (X.here.setHeapUsed s₂.heap s₂.slotsUsed).setVm hW'.alike, X.tail, State.WarmedH.trans X.warmed hW', X.limits, X.bytes, X.same.trans (hsame.setVm s.vm)⟩,
      ⟨g, mk, s₂, L, rfl, rfl, hqc, rfl, hL, rfl, rfl⟩, ?_⟩
    show Steps p.tables e below _ ((({ U with heap := s₂.heap, slotsUsed := s₂.slotsUsed } : State).setVm s₂.vm).setTop { g with pc := g.pc + len₂, stack := v.toList ++ g.stack })
    rw [← hs₂]
    exact hsteps
  · obtain ⟨e2, q2, q3, q4, q5, q6⟩ := id hsm
    have e3 : s₂ = ({ (U.calling g mk a).setFrames s₂.frames with heap := s₂.heap, slotsUsed := s₂.slotsUsed } : State).setVm s₂.vm := by
      have : s₂ = ({ s₂ with vm := (U.calling g mk a).vm } : State).setVm s₂.vm := rfl
      rw [e2] at this
      exact this
    have hf₂ : s₂.frames = .throwing q :: .java g :: U.frames.tail := hend
    have hW' : U.WarmedH s₂.vm := hW₂
    have hs₂ : s₂ = ((({ U with heap := s₂.heap, slotsUsed := s₂.slotsUsed } : State).setVm s₂.vm).setTop g).pushFrame (.throwing q) := by
      refine e3.trans ?_
      rw [hf₂, State.calling_eq h.top, State.setFrames_setFrames, State.pushFrame, State.frames_setTop _ hr', State.setTop_of_frames _ hr', State.setFrames_setFrames, hr]
      rfl
    have hsame : U.sameButNew ({ U with heap := s₂.heap, slotsUsed := s₂.slotsUsed } : State) L mc ms := by
      refine ⟨?_, q2, q3, q4, q5, q6⟩
      obtain ⟨t, ht, -⟩ := State.frames_cons hr
      show ({ U with heap := s₂.heap, slotsUsed := s₂.slotsUsed } : State) = { U.setFrames U.frames with heap := s₂.heap, slotsUsed := s₂.slotsUsed }
      rw [State.setFrames_self ht]
    subst hg
    refine Or.inr ⟨q, ⟨(({ U with heap := s₂.heap, slotsUsed := s₂.slotsUsed } : State).setVm s₂.vm), Ls ++ L, c0 + mc, s0 + ms⟩,
      ⟨X.admits, X.cas, X.clock, X.frames, X.room, X.hears, X.method, X.code, (X.here.setHeapUsed s₂.heap s₂.slotsUsed).setVm hW'.alike, X.tail, State.WarmedH.trans X.warmed hW', X.limits, X.bytes, X.same.trans (hsame.setVm s.vm)⟩,
      ⟨g, mk, s₂, L, E, ce, rfl, rfl, hx, hce, hcv, hcl, rfl, hL, rfl, rfl⟩, ?_⟩
    show Steps p.tables e below _ (((({ U with heap := s₂.heap, slotsUsed := s₂.slotsUsed } : State).setVm s₂.vm).setTop g).pushFrame (.throwing q))
    rw [← hs₂]
    exact hsteps
end Payer
section Calls
variable {p : Program} {l : Launch} {e : Env} {R : Room} {s : State} {m : MethodId} {args : Array Value} {below : List Frame} {meth : Method} {c : Code} {T : State} {locs : List Loc} {cells slots : Nat}
theorem vx_callV (X : Stand p l e R s m args below meth c T locs cells slots) (hexec : p.tables.exec = Jvm.exec) {own C : String} {index : Nat} {y : MethodName} {bytes : ByteArray} {maxL : Nat} {ret : Option FieldType}
    (hown : s.vm.findClass own = some m.cls) (hlink : (Cond.methodLink own index y).before args s = true) (hinst : (Cond.instanceMethod y).before args s = true) (hsel : (Cond.selects C y y).before args s = true)
    (hcode : (Cond.code y bytes maxL ret).before args s = true) (hy : y.cls ≠ "java/lang/invoke/MethodHandle" ∧ y.cls ≠ "java/lang/invoke/VarHandle")
    {W9 : Nat} {Pre : Pt → Array Value → Prop} {Post : Pt → Array Value → Option Value → Pt → Prop} {PostX : Pt → Array Value → Addr → Pt → Prop} (hK : vx_Back l R p e below s args y 3 W9 Pre Post PostX)
    {b : Addr} {cellB : Cell} (hcell : T.heap[b]? = some cellB) (hobj : cellB.vm.isStatics = false) (hcls : s.vm.findClass C = some cellB.cls)
    {g : JFrame} (hg : g.method = m) (hsize : g.locals.size = c.maxLocals) {argsL rest : List Value} (hlen : ∀ sig, parseMethodDescriptor y.desc = some sig → argsL.length = sig.parameters.length)
    (hstack : g.stack = argsL.reverse ++ .ref b :: rest) (hW : 2 * g.monitorRoom + (rest.map fun v => v.category).sum ≤ W9) (hdg : decode c.code g.pc = .ok (.invokevirtual index, 3))
    (hpre : ∀ vm₁, s.WarmedH vm₁ → Pre ⟨T.setVm vm₁, locs, cells, slots⟩ (Value.ref b :: argsL).toArray) :
    (∃ (v : Option Value) (vm₁ : Vm) (B : Pt), s.WarmedH vm₁ ∧ Stand p l e R s m args below meth c B.U B.locs B.cells B.slots ∧ Post ⟨T.setVm vm₁, locs, cells, slots⟩ (Value.ref b :: argsL).toArray v B ∧
      ∀ target, Steps p.tables e below (B.U.setTop { g with pc := g.pc + 3, stack := v.toList ++ rest }) target → Steps p.tables e below (T.setTop g) target) ∨
    (∃ (q : Addr) (vm₁ : Vm) (B : Pt), s.WarmedH vm₁ ∧ Stand p l e R s m args below meth c B.U B.locs B.cells B.slots ∧ PostX ⟨T.setVm vm₁, locs, cells, slots⟩ (Value.ref b :: argsL).toArray q B ∧
      Steps p.tables e below (T.setTop g) ((B.U.setTop { g with stack := rest }).pushFrame (.throwing q))) := by
  obtain ⟨mk, methM, hnamed, hmethM, hstM, habM⟩ := Cond.instanceMethod_spec hinst
  obtain ⟨methM', cM, hmethM', -, -, -, -, -, -, hsigM⟩ := Cond.code_spec hnamed hcode
  cases hmethM.symm.trans hmethM'
  obtain ⟨c2, r2, m2, q1, q2, q3, q4, kP, hkP, hkPi⟩ := Cond.selects_spec hsel
  cases hcls.symm.trans q1
  cases (State.methodFound?_of_named hnamed hy).symm.trans q2
  cases hnamed.symm.trans q3
  have hselP : selectMethod e.platform s.vm cellB.cls mk = .method mk := by rw [Launch.admits_selectMethod X.admits]; exact q4
  obtain ⟨vm₁, X₁, hstep₁⟩ := X.invokevirtual hexec hown hlink hnamed hmethM hstM hkP hkPi hy (a := b) (cell := cellB) hcell
    (fun z h => by rw [h] at hobj; cases hobj) hselP hmethM habM hkP hkPi (g := g) hg (argsL := argsL) (rest := rest) (hlen _ hsigM) hstack hdg
  rcases hK m meth c ⟨T.setVm vm₁, locs, cells, slots⟩ { g with stack := rest } (.invokevirtual index) mk (Value.ref b :: argsL).toArray X₁ hg hsize hdg hW (X₁.named hnamed) (hpre vm₁ X₁.warmed) with ⟨v, B, X', hpost, hsteps⟩ | ⟨q, B, X', hpost, hsteps⟩
  · exact Or.inl ⟨v, vm₁, B, X₁.warmed, X', hpost, fun target h => hstep₁ _ fun acts => by rw [doInvoke_state]; exact hsteps.trans h⟩
  · exact Or.inr ⟨q, vm₁, B, X₁.warmed, X', hpost, hstep₁ _ fun acts => by rw [doInvoke_state]; exact hsteps⟩
theorem vx_callS (X : Stand p l e R s m args below meth c T locs cells slots) (hexec : p.tables.exec = Jvm.exec) {own : String} {index : Nat} {y : MethodName} {bytes : ByteArray} {maxL : Nat} {ret : Option FieldType}
    (hown : s.vm.findClass own = some m.cls) (hlink : (Cond.methodLink own index y).before args s = true) (hstat : (Cond.static y).before args s = true) (hinit : (Cond.initialized y.cls).before args s = true)
    (hcode : (Cond.code y bytes maxL ret).before args s = true) (hy : y.cls ≠ "java/lang/invoke/MethodHandle" ∧ y.cls ≠ "java/lang/invoke/VarHandle")
    {W9 : Nat} {Pre : Pt → Array Value → Prop} {Post : Pt → Array Value → Option Value → Pt → Prop} {PostX : Pt → Array Value → Addr → Pt → Prop} (hK : vx_Back l R p e below s args y 3 W9 Pre Post PostX)
    {g : JFrame} (hg : g.method = m) (hsize : g.locals.size = c.maxLocals) {argsL rest : List Value} (hlen : ∀ sig, parseMethodDescriptor y.desc = some sig → argsL.length = sig.parameters.length)
    (hstack : g.stack = argsL.reverse ++ rest) (hW : 2 * g.monitorRoom + (rest.map fun v => v.category).sum ≤ W9) (hdg : decode c.code g.pc = .ok (.invokestatic index, 3))
    (hpre : ∀ vm₁, s.WarmedH vm₁ → Pre ⟨T.setVm vm₁, locs, cells, slots⟩ argsL.toArray) :
    (∃ (v : Option Value) (vm₁ : Vm) (B : Pt), s.WarmedH vm₁ ∧ Stand p l e R s m args below meth c B.U B.locs B.cells B.slots ∧ Post ⟨T.setVm vm₁, locs, cells, slots⟩ argsL.toArray v B ∧
      ∀ target, Steps p.tables e below (B.U.setTop { g with pc := g.pc + 3, stack := v.toList ++ rest }) target → Steps p.tables e below (T.setTop g) target) ∨
    (∃ (q : Addr) (vm₁ : Vm) (B : Pt), s.WarmedH vm₁ ∧ Stand p l e R s m args below meth c B.U B.locs B.cells B.slots ∧ PostX ⟨T.setVm vm₁, locs, cells, slots⟩ argsL.toArray q B ∧
      Steps p.tables e below (T.setTop g) ((B.U.setTop { g with stack := rest }).pushFrame (.throwing q))) := by
  obtain ⟨mk, hnamed⟩ := Cond.code_named hcode
  obtain ⟨methM, cM, hmethM, -, -, -, -, -, -, hsigM⟩ := Cond.code_spec hnamed hcode
  have hstatic : methM.isStatic = true := Cond.static_spec hnamed hmethM hstat
  obtain ⟨kP, hkP, -⟩ := className_of_methodNamed hnamed
  have hinitP : kP.init = .initialized := Cond.initialized_spec (findClass_of_methodNamed hnamed) hkP hinit
  obtain ⟨vm₁, X₁, hstep₁⟩ := X.invokestatic hexec hown hlink hnamed hmethM hstatic hkP hinitP hy (g := g) hg (argsL := argsL) (rest := rest) (hlen _ hsigM) hstack hdg
  rcases hK m meth c ⟨T.setVm vm₁, locs, cells, slots⟩ { g with stack := rest } (.invokestatic index) mk argsL.toArray X₁ hg hsize hdg hW (X₁.named hnamed) (hpre vm₁ X₁.warmed) with ⟨v, B, X', hpost, hsteps⟩ | ⟨q, B, X', hpost, hsteps⟩
  · exact Or.inl ⟨v, vm₁, B, X₁.warmed, X', hpost, fun target h => hstep₁ _ fun acts => by rw [doInvoke_state]; exact hsteps.trans h⟩
  · exact Or.inr ⟨q, vm₁, B, X₁.warmed, X', hpost, hstep₁ _ fun acts => by rw [doInvoke_state]; exact hsteps⟩
end Calls
theorem vx_cls {s : State} {T : State} {vm₁ : Vm} {E : String} {k : ClassId} (hW : s.WarmedH vm₁) (h : (T.setVm vm₁).vm.findClass E = some k) : s.vm.findClass E = some k := by
  have h1 : vm₁.findClass E = some k := h
  rw [hW.alike.findClass] at h1
  exact h1
/-- the method's frame g, with q thrown over it -/
def vx_W (p : Program) (l : Launch) (e : Env) (R : Room) (s : State) (m : MethodId) (args : Array Value) (below : List Frame) (meth : Method) (c : Code) (H : Heap) (locs : List Loc) (cells slots : Nat) (Q : State → Prop) (g : JFrame) (q : Addr) : Prop :=
  ∀ T : State, T.heap = H → Stand p l e R s m args below meth c T locs cells slots → ∃ t, Steps p.tables e below ((T.setTop g).pushFrame (.throwing q)) t ∧ Q t
def vx_Run (p : Program) (l : Launch) (e : Env) (R : Room) (s : State) (m : MethodId) (args : Array Value) (below : List Frame) (meth : Method) (c : Code) (H : Heap) (locs : List Loc) (cells slots mc ms : Nat) (g : JFrame) (rest : List Value) (Qa : State → Outcome → State → Prop) (XC : String → State → State → Prop) (free : Addr → Prop) : Prop :=
  ∀ T : State, T.heap = H → Stand p l e R s m args below meth c T locs cells slots →
    (∃ (v : Option Value) (st₀ t T' : State) (L : List Loc), st₀.heap = H ∧ Stand p l e R s m args below meth c T' (locs ++ L) (cells + mc) (slots + ms) ∧ (∀ q ∈ L, free q.base) ∧ T'.heap = t.heap ∧ T'.vm = t.vm ∧ Qa st₀ (.returned v) t ∧
      Goes p e below T g T' { g with pc := g.pc + 3, stack := v.toList ++ rest }) ∨
    (∃ (q : Addr) (st₀ t T' : State) (L : List Loc) (E : String) (ce : Cell), st₀.heap = H ∧ Stand p l e R s m args below meth c T' (locs ++ L) (cells + mc) (slots + ms) ∧ (∀ z ∈ L, free z.base) ∧ T'.heap = t.heap ∧ T'.vm = t.vm ∧ XC E st₀ t ∧ t.heap[q]? = some ce ∧ ce.vm = .none ∧ s.vm.findClass E = some ce.cls ∧
      Steps p.tables e below (T.setTop g) ((T'.setTop { g with stack := rest }).pushFrame (.throwing q)))
def vx_X {S : Type} (px : S → Prop) (B : String → S → State → Prop) (A : Nat → Prop) : String → State → State → Prop := fun E st t => ∃ u : S, px u ∧ B E u t ∧ va_F A st t
section Runs
variable {p : Program} {l : Launch} {e : Env} {R : Room} {s : State} {m : MethodId} {args : Array Value} {below : List Frame} {meth : Method} {c : Code} {H : Heap} {locs : List Loc} {cells slots : Nat}
variable {y : MethodName} {bytes cc : ByteArray} {maxL nL mc ms n index : Nat} {ret : Option FieldType} {ws : List Cond} {rm : Room} {Pc : Array Value → State → Prop} {Qc : Array Value → State → Outcome → State → Prop} {XC : String → State → State → Prop} {free : Addr → Prop} {Ts : List Cond} {own C : String} {b : Addr} {As rest : List Value} {g : JFrame}
theorem vx_callBack (cb : CallB R s args own index y bytes maxL ret ws rm mc ms n) (hM : vx_Met l y ws rm Pc Qc XC mc ms free) (hbl : FrameBlind Pc) : vx_Back l R p e below s args y 3 8 (PreOf R mc ms Pc) (PostOf Qc mc ms free) (vx_Post XC mc ms free) := by
  obtain ⟨hrc, hrs, hfr, hlo, hws, hcw, -, hini, -⟩ := cb
  exact vx_back (bytes := bytes) (maxL := maxL) (ret := ret) hM hbl hrc hrs hfr hlo hws hcw (fun a' U hW => word_at hW (Or.inl (by first | rfl | simp [Cond.onTables, Cond.keeps, Cond.steady])) hini)
theorem vx_runV (S : CallFix p m c cc nL s args Ts own) (hM : vx_Met l y ws rm Pc Qc XC mc ms free) (cw : CallW R s args own C index y bytes maxL ret ws rm mc ms n) (hp : PreV s H C b Pc As)
    (hg : g.method = m) (hn : As.length = n) (hsize : g.locals.size = nL) (hstack : g.stack = As.reverse ++ .ref b :: rest) (hW : 2 * g.monitorRoom + (rest.map fun v => v.category).sum ≤ 8) (hdg : decode cc g.pc = .ok (.invokevirtual index, 3)) (hf : cells + mc ≤ R.cells ∧ slots + ms ≤ R.slots) :
    vx_Run p l e R s m args below meth c H locs cells slots mc ms g rest (Qc (Value.ref b :: As).toArray) XC free := by
  have hK : vx_Back l R p e below s args y 3 8 (PreOf R mc ms Pc) (PostOf Qc mc ms free) (vx_Post XC mc ms free) := vx_callBack cw.1 hM hp.1
  obtain ⟨⟨-, -, -, -, -, -, hcode, -, hy, hlen, hl⟩, hin, hse⟩ := cw
  obtain ⟨hx, hb, hml, ho, -⟩ := S
  obtain ⟨-, ⟨cellB, hcB, hoB, hclB⟩, hPc⟩ := hp
  intro T hT X
  rcases vx_callV X hx (C := C) (bytes := bytes) (maxL := maxL) (ret := ret) ho hl hin hse hcode hy hK (by rw [hT]; exact hcB) hoB hclB hg (hsize.trans hml.symm) (argsL := As) (rest := rest) (fun sig h => hn.trans (hlen sig h)) hstack hW (by rw [hb]; exact hdg)
    (fun vm₁ hW₁ => ⟨hf.1, hf.2, hPc (T.setVm vm₁) hT hW₁⟩) with ⟨v, vm₁, ⟨U', l2, c2, s2⟩, hW₁, X', ⟨g', mk, t, L, e1, e2, hq, h1, hL, h2, h3⟩, st⟩ | ⟨q, vm₁, ⟨U', l2, c2, s2⟩, hW₁, X', ⟨g', mk, t, L, E, ce, e1, e2, hq, hce, hcv, hcl, h1, hL, h2, h3⟩, st⟩
  · dsimp only [Pt.U, Pt.locs, Pt.cells, Pt.slots] at X' e1 e2 h1 h2 h3 st
    subst h1; subst h2; subst h3
    exact Or.inl ⟨v, (T.setVm vm₁).calling g' mk (Value.ref b :: As).toArray, t, U', L, hT, X', hL, e1, e2, hq, st⟩
  · dsimp only [Pt.U, Pt.locs, Pt.cells, Pt.slots] at X' e1 e2 h1 h2 h3 st hcl
    subst h1; subst h2; subst h3
    exact Or.inr ⟨q, (T.setVm vm₁).calling g' mk (Value.ref b :: As).toArray, t, U', L, E, ce, hT, X', hL, e1, e2, hq, hce, hcv, vx_cls hW₁ hcl, st⟩
theorem vx_runS (S : CallFix p m c cc nL s args Ts own) (hM : vx_Met l y ws rm Pc Qc XC mc ms free) (cw : CallB R s args own index y bytes maxL ret ws rm mc ms n ∧ (Cond.static y).before args s = true) (hp : PreS s H Pc As)
    (hg : g.method = m) (hn : As.length = n) (hsize : g.locals.size = nL) (hstack : g.stack = As.reverse ++ rest) (hW : 2 * g.monitorRoom + (rest.map fun v => v.category).sum ≤ 8) (hdg : decode cc g.pc = .ok (.invokestatic index, 3)) (hf : cells + mc ≤ R.cells ∧ slots + ms ≤ R.slots) :
    vx_Run p l e R s m args below meth c H locs cells slots mc ms g rest (Qc As.toArray) XC free := by
  have hK : vx_Back l R p e below s args y 3 8 (PreOf R mc ms Pc) (PostOf Qc mc ms free) (vx_Post XC mc ms free) := vx_callBack cw.1 hM hp.1
  obtain ⟨⟨-, -, -, -, -, -, hcode, hini, hy, hlen, hl⟩, hstt⟩ := cw
  obtain ⟨hx, hb, hml, ho, -⟩ := S
  intro T hT X
  rcases vx_callS X hx (bytes := bytes) (maxL := maxL) (ret := ret) ho hl hstt hini hcode hy hK hg (hsize.trans hml.symm) (argsL := As) (rest := rest) (fun sig h => hn.trans (hlen sig h)) hstack hW (by rw [hb]; exact hdg)
    (fun vm₁ hW₁ => ⟨hf.1, hf.2, hp.2 (T.setVm vm₁) hT hW₁⟩) with ⟨v, vm₁, ⟨U', l2, c2, s2⟩, hW₁, X', ⟨g', mk, t, L, e1, e2, hq, h1, hL, h2, h3⟩, st⟩ | ⟨q, vm₁, ⟨U', l2, c2, s2⟩, hW₁, X', ⟨g', mk, t, L, E, ce, e1, e2, hq, hce, hcv, hcl, h1, hL, h2, h3⟩, st⟩
  · dsimp only [Pt.U, Pt.locs, Pt.cells, Pt.slots] at X' e1 e2 h1 h2 h3 st
    subst h1; subst h2; subst h3
    exact Or.inl ⟨v, (T.setVm vm₁).calling g' mk As.toArray, t, U', L, hT, X', hL, e1, e2, hq, st⟩
  · dsimp only [Pt.U, Pt.locs, Pt.cells, Pt.slots] at X' e1 e2 h1 h2 h3 st hcl
    subst h1; subst h2; subst h3
    exact Or.inr ⟨q, (T.setVm vm₁).calling g' mk As.toArray, t, U', L, E, ce, hT, X', hL, e1, e2, hq, hce, hcv, vx_cls hW₁ hcl, st⟩
end Runs
section Rows
variable {p : Program} {l : Launch} {e : Env} {R : Room} {s : State} {m : MethodId} {args : Array Value} {below : List Frame} {meth : Method} {c : Code} {H : Heap} {locs : List Loc} {cells slots : Nat} {Q : State → Prop}
variable {mc ms : Nat} {free : Addr → Prop} {A0 A1 : Nat → Prop} {H0 : Heap} {a : Array Value} {pc : Nat} {ls : Array Slot} {st0 rest : List Value}
theorem vx_keep {st₀ t T' : State} {L : List Loc} (h0 : st₀.heap = H) (e1 : T'.heap = t.heap) (hS : va_S A0 H0 H locs) (hA : ∀ q, q < H.size → A1 q → A0 q) (hf : ∀ q, free q → A0 q) (hL : ∀ q ∈ L, free q.base) (hF : va_F A1 st₀ t) :
    H.size ≤ T'.heap.size ∧ (∀ q : Nat, q < H.size → ¬ A1 q → T'.heap[q]? = H[q]?) ∧ va_S A0 H0 T'.heap (locs ++ L) := by
  obtain ⟨hz, hk⟩ := hF
  rw [h0] at hz hk
  exact ⟨by rw [e1]; exact hz, fun q h1 h2 => by rw [e1]; exact hk q h1 h2,
    ⟨Nat.le_trans hS.1 (by rw [e1]; exact hz), fun q h1 h2 => by rw [e1, hk q (Nat.lt_of_lt_of_le h1 hS.1) (fun z => h2 (hA q (Nat.lt_of_lt_of_le h1 hS.1) z))]; exact hS.2.1 q h1 h2, fun q hq => by
      rcases List.mem_append.mp hq with h | h
      · exact hS.2.2 q h
      · exact hf _ (hL q h)⟩⟩
theorem vx_calli {S SX : Type} {post : Int32 → S → Prop} {px : SX → Prop} {B : S → State → Prop} {BX : String → SX → State → Prop} {AX : Nat → Prop} (hr : vx_Run p l e R s m args below meth c H locs cells slots mc ms (F0 m pc ls st0) rest (va_Qi post B A1 a) (vx_X px BX AX) free) (hS : va_S A0 H0 H locs) (hA : ∀ q, q < H.size → A1 q → A0 q) (hf : ∀ q, free q → A0 q) (hAX : ∀ q, q < H.size → AX q → A0 q)
    (kx : ∀ (E : String) (ce : Cell) (q9 : Addr) (u : SX) (t : State) (H1 : Heap) (locs1 : List Loc), t.heap = H1 → s.vm.Alike t.vm → px u → BX E u t → H.size ≤ H1.size → (∀ q : Nat, q < H.size → ¬ AX q → H1[q]? = H[q]?) → va_S A0 H0 H1 locs1 → H1[q9]? = some ce → ce.vm = .none → s.vm.findClass E = some ce.cls → vx_W p l e R s m args below meth c H1 locs1 (cells + mc) (slots + ms) Q (F0 m pc ls rest) q9)
    (kk : ∀ (r : Int32) (u : S) (t : State) (H1 : Heap) (locs1 : List Loc), t.heap = H1 → s.vm.Alike t.vm → post r u → B u t → H.size ≤ H1.size → (∀ q : Nat, q < H.size → ¬ A1 q → H1[q]? = H[q]?) → va_S A0 H0 H1 locs1 → W p l e R s m args below meth c H1 locs1 (cells + mc) (slots + ms) Q (F0 m (pc + 3) ls (.int r :: rest))) : W p l e R s m args below meth c H locs cells slots Q (F0 m pc ls st0) := by
  intro T hT X
  rcases hr T hT X with ⟨v, st₀, t, T', L, h0, X', hL, e1, e2, ⟨⟨r, u, hv, hp, hb⟩, hF⟩, st⟩ | ⟨q, st₀, t, T', L, E, ce, h0, X', hL, e1, e2, ⟨u, hp, hb, hF⟩, hce, hcv, hcl, st⟩
  · cases hv
    obtain ⟨k1, k2, k3⟩ := vx_keep h0 e1 hS hA hf hL hF
    obtain ⟨t2, a1, b1⟩ := kk r u t T'.heap (locs ++ L) e1.symm (by rw [← e2]; exact X'.warmed.alike) hp hb k1 k2 k3 T' rfl X'
    exact ⟨t2, st t2 a1, b1⟩
  · obtain ⟨k1, k2, k3⟩ := vx_keep h0 e1 hS hAX hf hL hF
    obtain ⟨t2, a1, b1⟩ := kx E ce q u t T'.heap (locs ++ L) e1.symm (by rw [← e2]; exact X'.warmed.alike) hp hb k1 k2 k3 (by rw [e1]; exact hce) hcv hcl T' rfl X'
    exact ⟨t2, st.trans a1, b1⟩
theorem vx_calll {S SX : Type} {post : Int64 → S → Prop} {px : SX → Prop} {B : S → State → Prop} {BX : String → SX → State → Prop} {AX : Nat → Prop} (hr : vx_Run p l e R s m args below meth c H locs cells slots mc ms (F0 m pc ls st0) rest (va_Ql post B A1 a) (vx_X px BX AX) free) (hS : va_S A0 H0 H locs) (hA : ∀ q, q < H.size → A1 q → A0 q) (hf : ∀ q, free q → A0 q) (hAX : ∀ q, q < H.size → AX q → A0 q)
    (kx : ∀ (E : String) (ce : Cell) (q9 : Addr) (u : SX) (t : State) (H1 : Heap) (locs1 : List Loc), t.heap = H1 → s.vm.Alike t.vm → px u → BX E u t → H.size ≤ H1.size → (∀ q : Nat, q < H.size → ¬ AX q → H1[q]? = H[q]?) → va_S A0 H0 H1 locs1 → H1[q9]? = some ce → ce.vm = .none → s.vm.findClass E = some ce.cls → vx_W p l e R s m args below meth c H1 locs1 (cells + mc) (slots + ms) Q (F0 m pc ls rest) q9)
    (kk : ∀ (r : Int64) (u : S) (t : State) (H1 : Heap) (locs1 : List Loc), t.heap = H1 → s.vm.Alike t.vm → post r u → B u t → H.size ≤ H1.size → (∀ q : Nat, q < H.size → ¬ A1 q → H1[q]? = H[q]?) → va_S A0 H0 H1 locs1 → W p l e R s m args below meth c H1 locs1 (cells + mc) (slots + ms) Q (F0 m (pc + 3) ls (.long r :: rest))) : W p l e R s m args below meth c H locs cells slots Q (F0 m pc ls st0) := by
  intro T hT X
  rcases hr T hT X with ⟨v, st₀, t, T', L, h0, X', hL, e1, e2, ⟨⟨r, u, hv, hp, hb⟩, hF⟩, st⟩ | ⟨q, st₀, t, T', L, E, ce, h0, X', hL, e1, e2, ⟨u, hp, hb, hF⟩, hce, hcv, hcl, st⟩
  · cases hv
    obtain ⟨k1, k2, k3⟩ := vx_keep h0 e1 hS hA hf hL hF
    obtain ⟨t2, a1, b1⟩ := kk r u t T'.heap (locs ++ L) e1.symm (by rw [← e2]; exact X'.warmed.alike) hp hb k1 k2 k3 T' rfl X'
    exact ⟨t2, st t2 a1, b1⟩
  · obtain ⟨k1, k2, k3⟩ := vx_keep h0 e1 hS hAX hf hL hF
    obtain ⟨t2, a1, b1⟩ := kx E ce q u t T'.heap (locs ++ L) e1.symm (by rw [← e2]; exact X'.warmed.alike) hp hb k1 k2 k3 (by rw [e1]; exact hce) hcv hcl T' rfl X'
    exact ⟨t2, st.trans a1, b1⟩
theorem vx_callf {S SX : Type} {post : UInt32 → S → Prop} {px : SX → Prop} {B : S → State → Prop} {BX : String → SX → State → Prop} {AX : Nat → Prop} (hr : vx_Run p l e R s m args below meth c H locs cells slots mc ms (F0 m pc ls st0) rest (va_Qf post B A1 a) (vx_X px BX AX) free) (hS : va_S A0 H0 H locs) (hA : ∀ q, q < H.size → A1 q → A0 q) (hf : ∀ q, free q → A0 q) (hAX : ∀ q, q < H.size → AX q → A0 q)
    (kx : ∀ (E : String) (ce : Cell) (q9 : Addr) (u : SX) (t : State) (H1 : Heap) (locs1 : List Loc), t.heap = H1 → s.vm.Alike t.vm → px u → BX E u t → H.size ≤ H1.size → (∀ q : Nat, q < H.size → ¬ AX q → H1[q]? = H[q]?) → va_S A0 H0 H1 locs1 → H1[q9]? = some ce → ce.vm = .none → s.vm.findClass E = some ce.cls → vx_W p l e R s m args below meth c H1 locs1 (cells + mc) (slots + ms) Q (F0 m pc ls rest) q9)
    (kk : ∀ (r : UInt32) (u : S) (t : State) (H1 : Heap) (locs1 : List Loc), t.heap = H1 → s.vm.Alike t.vm → post r u → B u t → H.size ≤ H1.size → (∀ q : Nat, q < H.size → ¬ A1 q → H1[q]? = H[q]?) → va_S A0 H0 H1 locs1 → W p l e R s m args below meth c H1 locs1 (cells + mc) (slots + ms) Q (F0 m (pc + 3) ls (.float r :: rest))) : W p l e R s m args below meth c H locs cells slots Q (F0 m pc ls st0) := by
  intro T hT X
  rcases hr T hT X with ⟨v, st₀, t, T', L, h0, X', hL, e1, e2, ⟨⟨r, u, hv, hp, hb⟩, hF⟩, st⟩ | ⟨q, st₀, t, T', L, E, ce, h0, X', hL, e1, e2, ⟨u, hp, hb, hF⟩, hce, hcv, hcl, st⟩
  · cases hv
    obtain ⟨k1, k2, k3⟩ := vx_keep h0 e1 hS hA hf hL hF
    obtain ⟨t2, a1, b1⟩ := kk r u t T'.heap (locs ++ L) e1.symm (by rw [← e2]; exact X'.warmed.alike) hp hb k1 k2 k3 T' rfl X'
    exact ⟨t2, st t2 a1, b1⟩
  · obtain ⟨k1, k2, k3⟩ := vx_keep h0 e1 hS hAX hf hL hF
    obtain ⟨t2, a1, b1⟩ := kx E ce q u t T'.heap (locs ++ L) e1.symm (by rw [← e2]; exact X'.warmed.alike) hp hb k1 k2 k3 (by rw [e1]; exact hce) hcv hcl T' rfl X'
    exact ⟨t2, st.trans a1, b1⟩
theorem vx_calld {S SX : Type} {post : UInt64 → S → Prop} {px : SX → Prop} {B : S → State → Prop} {BX : String → SX → State → Prop} {AX : Nat → Prop} (hr : vx_Run p l e R s m args below meth c H locs cells slots mc ms (F0 m pc ls st0) rest (va_Qd post B A1 a) (vx_X px BX AX) free) (hS : va_S A0 H0 H locs) (hA : ∀ q, q < H.size → A1 q → A0 q) (hf : ∀ q, free q → A0 q) (hAX : ∀ q, q < H.size → AX q → A0 q)
    (kx : ∀ (E : String) (ce : Cell) (q9 : Addr) (u : SX) (t : State) (H1 : Heap) (locs1 : List Loc), t.heap = H1 → s.vm.Alike t.vm → px u → BX E u t → H.size ≤ H1.size → (∀ q : Nat, q < H.size → ¬ AX q → H1[q]? = H[q]?) → va_S A0 H0 H1 locs1 → H1[q9]? = some ce → ce.vm = .none → s.vm.findClass E = some ce.cls → vx_W p l e R s m args below meth c H1 locs1 (cells + mc) (slots + ms) Q (F0 m pc ls rest) q9)
    (kk : ∀ (r : UInt64) (u : S) (t : State) (H1 : Heap) (locs1 : List Loc), t.heap = H1 → s.vm.Alike t.vm → post r u → B u t → H.size ≤ H1.size → (∀ q : Nat, q < H.size → ¬ A1 q → H1[q]? = H[q]?) → va_S A0 H0 H1 locs1 → W p l e R s m args below meth c H1 locs1 (cells + mc) (slots + ms) Q (F0 m (pc + 3) ls (.double r :: rest))) : W p l e R s m args below meth c H locs cells slots Q (F0 m pc ls st0) := by
  intro T hT X
  rcases hr T hT X with ⟨v, st₀, t, T', L, h0, X', hL, e1, e2, ⟨⟨r, u, hv, hp, hb⟩, hF⟩, st⟩ | ⟨q, st₀, t, T', L, E, ce, h0, X', hL, e1, e2, ⟨u, hp, hb, hF⟩, hce, hcv, hcl, st⟩
  · cases hv
    obtain ⟨k1, k2, k3⟩ := vx_keep h0 e1 hS hA hf hL hF
    obtain ⟨t2, a1, b1⟩ := kk r u t T'.heap (locs ++ L) e1.symm (by rw [← e2]; exact X'.warmed.alike) hp hb k1 k2 k3 T' rfl X'
    exact ⟨t2, st t2 a1, b1⟩
  · obtain ⟨k1, k2, k3⟩ := vx_keep h0 e1 hS hAX hf hL hF
    obtain ⟨t2, a1, b1⟩ := kx E ce q u t T'.heap (locs ++ L) e1.symm (by rw [← e2]; exact X'.warmed.alike) hp hb k1 k2 k3 (by rw [e1]; exact hce) hcv hcl T' rfl X'
    exact ⟨t2, st.trans a1, b1⟩
theorem vx_callv {S SX : Type} {post : S → Prop} {px : SX → Prop} {B : S → State → Prop} {BX : String → SX → State → Prop} {AX : Nat → Prop} (hr : vx_Run p l e R s m args below meth c H locs cells slots mc ms (F0 m pc ls st0) rest (va_Qv post B A1 a) (vx_X px BX AX) free) (hS : va_S A0 H0 H locs) (hA : ∀ q, q < H.size → A1 q → A0 q) (hf : ∀ q, free q → A0 q) (hAX : ∀ q, q < H.size → AX q → A0 q)
    (kx : ∀ (E : String) (ce : Cell) (q9 : Addr) (u : SX) (t : State) (H1 : Heap) (locs1 : List Loc), t.heap = H1 → s.vm.Alike t.vm → px u → BX E u t → H.size ≤ H1.size → (∀ q : Nat, q < H.size → ¬ AX q → H1[q]? = H[q]?) → va_S A0 H0 H1 locs1 → H1[q9]? = some ce → ce.vm = .none → s.vm.findClass E = some ce.cls → vx_W p l e R s m args below meth c H1 locs1 (cells + mc) (slots + ms) Q (F0 m pc ls rest) q9)
    (kk : ∀ (u : S) (t : State) (H1 : Heap) (locs1 : List Loc), t.heap = H1 → s.vm.Alike t.vm → post u → B u t → H.size ≤ H1.size → (∀ q : Nat, q < H.size → ¬ A1 q → H1[q]? = H[q]?) → va_S A0 H0 H1 locs1 → W p l e R s m args below meth c H1 locs1 (cells + mc) (slots + ms) Q (F0 m (pc + 3) ls (rest))) : W p l e R s m args below meth c H locs cells slots Q (F0 m pc ls st0) := by
  intro T hT X
  rcases hr T hT X with ⟨v, st₀, t, T', L, h0, X', hL, e1, e2, ⟨⟨u, hv, hp, hb⟩, hF⟩, st⟩ | ⟨q, st₀, t, T', L, E, ce, h0, X', hL, e1, e2, ⟨u, hp, hb, hF⟩, hce, hcv, hcl, st⟩
  · cases hv
    obtain ⟨k1, k2, k3⟩ := vx_keep h0 e1 hS hA hf hL hF
    obtain ⟨t2, a1, b1⟩ := kk u t T'.heap (locs ++ L) e1.symm (by rw [← e2]; exact X'.warmed.alike) hp hb k1 k2 k3 T' rfl X'
    exact ⟨t2, st t2 a1, b1⟩
  · obtain ⟨k1, k2, k3⟩ := vx_keep h0 e1 hS hAX hf hL hF
    obtain ⟨t2, a1, b1⟩ := kx E ce q u t T'.heap (locs ++ L) e1.symm (by rw [← e2]; exact X'.warmed.alike) hp hb k1 k2 k3 (by rw [e1]; exact hce) hcv hcl T' rfl X'
    exact ⟨t2, st.trans a1, b1⟩
/-- caught by the row x of this method's table; the rows ahead don't take it -/
theorem vx_catch {own name : String} {E : String} {ce : Cell} {q : Addr} (hown : s.vm.findClass own = some m.cls) (pre : List ExceptionTableEntry) (x : ExceptionTableEntry) (suf : List ExceptionTableEntry) (hsplit : c.exceptionTable.toList = pre ++ x :: suf)
    (hpass : ∀ z ∈ pre, covers z pc = false ∨ (z.catchType ≠ 0 ∧ ∃ nm : String, (Cond.classLink own z.catchType nm).before args s = true ∧ va_Nc E nm s)) (hx : covers x pc = true) (h0 : x.catchType ≠ 0)
    (hlink : (Cond.classLink own x.catchType name).before args s = true) (hcast : (Cond.castable E name).before args s = true) (hcell : H[q]? = some ce) (hv : ce.vm = .none) (hcl : s.vm.findClass E = some ce.cls)
    (kk : W p l e R s m args below meth c H locs cells slots Q (F0 m x.handlerPc ls [.ref q])) : vx_W p l e R s m args below meth c H locs cells slots Q (F0 m pc ls rest) q := by
  intro T hT X
  have hpl : e.platform.magicAccessors = ({} : Platform).magicAccessors := by rw [X.admits.platform]
  obtain ⟨c3, c4, hc3, hc4, hasg⟩ := Cond.castable_spec hcast
  cases Option.some.inj (hc3.symm.trans hcl)
  obtain ⟨c5, hc5, hcl5⟩ := Cond.classLink_spec hown hlink e.platform hpl
  cases Option.some.inj (hc4.symm.trans hc5)
  obtain ⟨vm', X', st⟩ := X.thenCaughtThrough q (g := F0 m pc ls rest) rfl (Steps.refl _) (by rw [hT]; exact hcell) (by rw [hv]; rfl) (by obtain ⟨k9, h9, -⟩ := Vm.findClass_spec hcl; exact ⟨k9, h9⟩) pre x suf hsplit
    (fun z hz => by
      rcases hpass z hz with h | ⟨hz0, nm, hl1, hn1⟩
      · exact Or.inl h
      · obtain ⟨c6, hc6, hcl6⟩ := Cond.classLink_spec hown hl1 e.platform hpl
        obtain ⟨a8, b8, h1, h2, h3⟩ := hn1
        cases Option.some.inj (h1.symm.trans hcl)
        cases Option.some.inj (h2.symm.trans hc6)
        exact Or.inr ⟨hz0, _, hcl6, h3⟩) hx (Or.inr ⟨h0, c4, hcl5, hasg⟩)
  obtain ⟨t, a1, b1⟩ := kk (T.setVm vm') hT X'
  exact ⟨t, st.trans a1, b1⟩
end Rows
section Ends
variable {p : Program} {l : Launch} {e : Env} {R : Room} {s : State} {m : MethodId} {args : Array Value} {below : List Frame} {meth : Method} {c : Code} {H : Heap} {locs : List Loc} {cells slots : Nat} {Q : State → Prop}
variable {mc ms : Nat} {free : Addr → Prop} {A0 A1 : Nat → Prop} {H0 : Heap} {a : Array Value} {ls : Array Slot} {st0 rest : List Value}
variable {Qc : Array Value → State → Outcome → State → Prop} {XC : String → State → State → Prop}
/-- what a body that may throw owes at its end -/
def vx_MQ (below : List Frame) (Qc : Array Value → State → Outcome → State → Prop) (XC : String → State → State → Prop) (a : Array Value) (s : State) (mc ms : Nat) (free : Addr → Prop) : State → Prop := fun t =>
  ∃ o, t.status = .running ∧ Ended t below o ∧ vx_Q Qc XC mc ms free a s o t
theorem vx_ret {g : JFrame} {mc ms : Nat} (k : W p l e R s m args below meth c H locs cells slots (MQ below Qc args s mc ms free) g) : W p l e R s m args below meth c H locs cells slots (vx_MQ below Qc XC args s mc ms free) g := by
  intro T hT X
  obtain ⟨t, a1, o, b1, b2, b3, b4⟩ := k T hT X
  exact ⟨t, a1, o, b1, b2, Or.inl ⟨b3, b4⟩⟩
/-- not caught here: it goes on to the caller -/
theorem vx_widen {g : JFrame} {q : Addr} {k n : Nat} (h1 : cells ≤ k) (h2 : slots ≤ n) (kk : vx_W p l e R s m args below meth c H locs k n Q g q) : vx_W p l e R s m args below meth c H locs cells slots Q g q := fun T hT X => kk T hT (stand_widen X h1 h2)
theorem vx_out {pc : Nat} {E : String} {ce : Cell} {q : Addr} {mc ms : Nat} (hout : ∀ x ∈ c.exceptionTable.toList, covers x pc = false) (hlocks : meth.locks = false) (hcell : H[q]? = some ce) (hv : ce.vm = .none) (hcl : s.vm.findClass E = some ce.cls)
    (hx : ∀ t : State, t.heap = H → s.vm.Alike t.vm → XC E s t) (hf : ∀ z ∈ locs, free z.base) (hc : cells ≤ mc) (hs : slots ≤ ms) :
    vx_W p l e R s m args below meth c H locs cells slots (vx_MQ below Qc XC args s mc ms free) (F0 m pc ls rest) q := by
  intro T hT X
  obtain ⟨st1, hrun, hend, hW, hsm⟩ := X.leaveThrown q (g := F0 m pc ls rest) rfl rfl rfl hout hlocks
  have hcell9 : (T.setFrames (.throwing q :: below)).heap[q]? = some ce := by
    show T.heap[q]? = some ce
    rw [hT]; exact hcell
  exact ⟨_, st1, .threw q, hrun, hend, Or.inr ⟨q, rfl, E, ce, locs, hx _ hT hW.alike, hcell9, hv, hcl, hW, hsm.mono hc hs, hf⟩⟩
theorem vx_frame {U : State} {k n : Nat} (h : s.sameButNew ({ U with vm := s.vm } : State) locs k n) : s.heap.size ≤ U.heap.size ∧ ∀ q : Nat, q < s.heap.size → (∀ z ∈ locs, z.base ≠ q) → U.heap[q]? = s.heap[q]? := by
  obtain ⟨-, h2, -, -, -, h6⟩ := h
  refine ⟨h2, fun q hq hz => ?_⟩
  obtain ⟨c9, e1, e2, e3, e4⟩ := h6 q _ (Array.getElem?_eq_getElem hq)
  have hs : c9.slots = (s.heap[q]).slots := Array.ext_getElem? fun i => e4 i fun hm => hz _ hm rfl
  have h9 : c9 = s.heap[q] := by
    rw [hs] at e2
    exact e2
  have e5 : U.heap[q]? = some c9 := e1
  rw [e5, h9, Array.getElem?_eq_getElem hq]
/-- the words of a throw but the four that speak of the heap -/
def vx_no (w : Cond) : Bool := decide (w ≠ .isRef (.static Bundle.tN "UNASSIGNED_STACK" Bundle.steD)) && decide (w ≠ .isRef (.static Bundle.tN "SUPPRESSED_SENTINEL" Bundle.listD)) && decide (w ≠ .laysStatic Bundle.tN "UNASSIGNED_STACK" Bundle.steD) && decide (w ≠ .laysStatic Bundle.tN "SUPPRESSED_SENTINEL" Bundle.listD)
def vx_at0 (own : String) (ic : Nat) (X : String) (names : List String) : List Cond := (Bundle.ownAtoms0 own ic X names).filter vx_no
def vx_atS (own : String) (ic : Nat) (X : String) (names : List String) : List Cond := (Bundle.ownAtoms own ic X names).filter vx_no
/-- a word that the tables alone decide, or a good one -/
def vx_ot (w : Cond) : Bool := w.onTables || goodWord w
theorem vx_ot_at {args a' : Array Value} {s U : State} {w : Cond} (hW : s.WarmedH U.vm) (hvm : s.vm = U.vm) (hg : vx_ot w = true) (h : w.before args s = true) : w.before a' U = true := by
  simp only [vx_ot, Bool.or_eq_true] at hg
  rcases hg with hg | hg
  · exact va_tabs hg hvm h
  · exact word_at hW (good_of_word hg) h
/-- a list's words: the good ones out of the method's own list, the others by premises of their own -/
theorem vx_hat {args : Array Value} {s : State} {L B : List Cond} (h1 : ∀ w ∈ L.filter goodWord, w.before args s = true) (h2 : ∀ w ∈ L.filter (fun w => !goodWord w), w ∈ B) (h3 : ∀ w ∈ B, w.before args s = true) : ∀ w ∈ L, w.before args s = true := by
  intro w hw
  by_cases g : goodWord w = true
  · exact h1 w (List.mem_filter.mpr ⟨hw, g⟩)
  · refine h3 w (h2 w (List.mem_filter.mpr ⟨hw, ?_⟩))
    show (!goodWord w) = true
    cases hgw : goodWord w
    · rfl
    · exact absurd hgw g
theorem vx_c {args : Array Value} {s : State} {w : Cond} {B : List Cond} (h : w.before args s = true) (t : ∀ w ∈ B, w.before args s = true) : ∀ w' ∈ w :: B, w'.before args s = true := fun w' h' => (List.mem_cons.mp h').elim (fun e => by rw [e]; exact h) (t w')
theorem vx_n {args : Array Value} {s : State} : ∀ w ∈ ([] : List Cond), w.before args s = true := fun _ h => nomatch h
theorem vx_own {args : Array Value} {s : State} {L : List Cond} (h1 : ∀ w ∈ L.filter vx_no, w.before args s = true)
    (hU : (Cond.isRef (.static Bundle.tN "UNASSIGNED_STACK" Bundle.steD)).before args s = true) (hN : (Cond.isRef (.static Bundle.tN "SUPPRESSED_SENTINEL" Bundle.listD)).before args s = true)
    (lU : (Cond.laysStatic Bundle.tN "UNASSIGNED_STACK" Bundle.steD).before args s = true) (lN : (Cond.laysStatic Bundle.tN "SUPPRESSED_SENTINEL" Bundle.listD).before args s = true) : ∀ w ∈ L, w.before args s = true := by
  intro w hw
  by_cases e1 : w = .isRef (.static Bundle.tN "UNASSIGNED_STACK" Bundle.steD)
  · rw [e1]; exact hU
  · by_cases e2 : w = .isRef (.static Bundle.tN "SUPPRESSED_SENTINEL" Bundle.listD)
    · rw [e2]; exact hN
    · by_cases e3 : w = .laysStatic Bundle.tN "UNASSIGNED_STACK" Bundle.steD
      · rw [e3]; exact lU
      · by_cases e4 : w = .laysStatic Bundle.tN "SUPPRESSED_SENTINEL" Bundle.listD
        · rw [e4]; exact lN
        · exact h1 w (List.mem_filter.mpr ⟨hw, by unfold vx_no; rw [decide_eq_true e1, decide_eq_true e2, decide_eq_true e3, decide_eq_true e4]; rfl⟩)
/-- where a static field lies, its class's statics cell in H -/
def vx_L (C n d : String) (A : Nat → Prop) (U : State) (H : Heap) : Prop := ∃ (c : ClassId) (k : Class) (i : Nat) (f : Field) (a : Nat) (cell : Cell), U.vm.findClass C = some c ∧ U.fieldFound? C n d = some (c, k, i, f) ∧ f.isStatic = true ∧ k.statics = some a ∧ H[a]? = some cell ∧ cell.vm.isStatics = true ∧ cell.cls = c ∧ f.slot < cell.slots.size ∧ k.staticTypes[f.slot]? = some f.type ∧ ¬ A a
theorem vx_L.moved {C n d : String} {A : Nat → Prop} {u U : State} {H : Heap} (hvm : u.vm.Alike U.vm) (h : vx_L C n d A u H) : vx_L C n d A U H := by
  obtain ⟨c, k, i, f, a, cell, h1, h2, h3, h4, h5, h6, h7, h8, h9, h10⟩ := h
  obtain ⟨k', hi', he⟩ := State.fieldFound?_setVm hvm h2
  exact ⟨c, k', i, f, a, cell, by rw [hvm.findClass]; exact h1, hi', h3, by rw [he]; exact h4, h5, h6, h7, h8, by rw [he]; exact h9, h10⟩
theorem vx_L.kept {C n d : String} {A : Nat → Prop} {U : State} {H H1 : Heap} (h : vx_L C n d A U H) (hq : ∀ a : Nat, a < H.size → ¬ A a → H1[a]? = H[a]?) : vx_L C n d A U H1 := by
  obtain ⟨c, k, i, f, a, cell, h1, h2, h3, h4, h5, h6, h7, h8, h9, h10⟩ := h
  exact ⟨c, k, i, f, a, cell, h1, h2, h3, h4, by rw [hq a (Array.getElem?_eq_some_iff.mp h5).1 h10]; exact h5, h6, h7, h8, h9, h10⟩
theorem vx_L.narrow {C n d : String} {A B : Nat → Prop} {U : State} {H : Heap} (h : vx_L C n d A U H) (hAB : ∀ q, B q → A q) : vx_L C n d B U H := by
  obtain ⟨c, k, i, f, a, cell, h1, h2, h3, h4, h5, h6, h7, h8, h9, h10⟩ := h
  exact ⟨c, k, i, f, a, cell, h1, h2, h3, h4, h5, h6, h7, h8, h9, fun z => h10 (hAB _ z)⟩
theorem vx_L.word {C n d : String} {A : Nat → Prop} {s : State} {args : Array Value} (h : vx_L C n d A s s.heap) : (Cond.laysStatic C n d).before args s = true := by
  obtain ⟨c, k, i, f, a, cell, h1, h2, h3, h4, h5, h6, h7, h8, h9, -⟩ := h
  show (Cond.laysStatic C n d).holds args s none s [] = true
  exact Cond.laysStatic_of h1 h2 h3 h4 h5 h6 h7 h8 h9
/-- .. and what it holds: null or some reference -/
def vx_Zq (C n d : String) (A : Nat → Prop) (U : State) (H : Heap) : Prop := va_Zq C n d A U H ∧ vx_L C n d A U H
theorem vx_Zq.moved {C n d : String} {A : Nat → Prop} {u U : State} {H : Heap} (hvm : u.vm.Alike U.vm) (h : vx_Zq C n d A u H) : vx_Zq C n d A U H := ⟨va_Zq.moved hvm h.1, vx_L.moved hvm h.2⟩
theorem vx_Zq.kept {C n d : String} {A : Nat → Prop} {U : State} {H H1 : Heap} (h : vx_Zq C n d A U H) (hq : ∀ a : Nat, a < H.size → ¬ A a → H1[a]? = H[a]?) : vx_Zq C n d A U H1 := ⟨va_Zq.kept h.1 hq, vx_L.kept h.2 hq⟩
theorem vx_Zq.narrow {C n d : String} {A B : Nat → Prop} {U : State} {H : Heap} (h : vx_Zq C n d A U H) (hAB : ∀ q, B q → A q) : vx_Zq C n d B U H := ⟨va_Zq.narrow h.1 hAB, vx_L.narrow h.2 hAB⟩
theorem vx_Zqof {args : Array Value} {s : State} {C n d : String} {A : Nat → Prop} (hl : (Cond.laysStatic C n d).before args s = true) (hini : (Cond.initialized C).before args s = true) (h : (Cond.isRef (.static C n d)).before args s = true) (hA : ∀ a : Nat, a < s.heap.size → ¬ A a) : vx_Zq C n d A s s.heap := by
  refine ⟨va_Zqof hl hini h hA, ?_⟩
  obtain ⟨c, k, i, f, a, cell, h1, h2, h3, h4, h5, h6, h7, h8, h9⟩ := Cond.laysStatic_spec hl
  exact ⟨c, k, i, f, a, cell, h1, h2, h3, h4, h5, h6, h7, h8, h9, hA a (Array.getElem?_eq_some_iff.mp h5).1⟩
theorem vx_isRef {C n d : String} {v : Value} {A : Nat → Prop} {s : State} {args : Array Value} (h : va_Z C n d v A s s.heap) (hv : v.isRef = true) : (Cond.isRef (.static C n d)).before args s = true := by
  obtain ⟨cf, kf, fi, f, a, cell, h1, h2, h3, h4, h5, h6, h7, -⟩ := h
  have he : (Term.static C n d).eval args s none [] s = some v := by
    simp [Term.eval, State.fieldNamed?, h1, h2, h4, h5, h6, h7]
  simp only [Cond.before, Cond.holds, Cond.value, he]
  cases v <;> simp_all [Value.isRef]
theorem vx_isRefq {C n d : String} {A : Nat → Prop} {s : State} {args : Array Value} (h : va_Zq C n d A s s.heap) : (Cond.isRef (.static C n d)).before args s = true := by
  rcases h with h | ⟨t, h⟩
  · exact vx_isRef h rfl
  · exact vx_isRef h rfl
/-- the same frame, seen from here: as if the method were called anew in this heap -/
theorem vx_rebase {T : State} (X : Stand p l e R s m args below meth c T locs cells slots) {R' : Room} (hf : R'.frames ≤ R.frames) (hl : R'.locals ≤ R.locals) (hc : cells + R'.cells ≤ R.cells) (hs : slots + R'.slots ≤ R.slots) :
    Stand p l e R' ((T.setVm s.vm).setFrames (.invoking m args :: below)) m args below meth c T [] 0 0 := by
  have htop : (T.setVm s.vm).topJava?.isSome := X.here.top
  have hF : ((T.setVm s.vm).setFrames (.invoking m args :: below)).frames = .invoking m args :: below := State.frames_setFrames _ (State.cur_lt_of_top htop)
  obtain ⟨g₀, hg0⟩ := Option.isSome_iff_exists.mp htop
  obtain ⟨r, hr⟩ := State.topJava?_eq_some.mp hg0
  have hl9 : e.platform.stackLimits (T.setVm s.vm).me = e.platform.stackLimits s.me := X.limits
  have hb9 : (T.setVm s.vm).me.stackBytes = s.me.stackBytes := X.bytes
  refine ⟨X.admits, X.cas, X.clock, hF, ?_, X.hears, X.method, X.code, X.here, X.tail, X.warmed, ?_, ?_, ?_⟩
  · have h := X.room
    have hU : ((T.setVm s.vm).setFrames (.invoking m args :: below)).localsInUse = s.localsInUse := by
      rw [State.localsInUse_invoking hF (meth := meth) (c := c) X.method X.code, State.localsInUse_invoking X.frames X.method X.code]
    simp only [State.hasRoom, Bool.and_eq_true, decide_eq_true_eq] at h ⊢
    obtain ⟨⟨⟨⟨h1, h2, h3, h4, h5, h6⟩, h7⟩, h8⟩, h9⟩ := h
    rw [X.frames, List.length_cons] at h2 h3
    have q1 := X.heapSize
    have q2 := X.used
    simp only [hF, hU, List.length_cons, State.stackLimits_setFrames, State.stackBytes_setFrames, hl9, hb9]
    refine ⟨⟨⟨⟨by omega, by omega, by omega, by omega, by omega, h6⟩, ?_⟩, ?_⟩, X.book⟩
    · show T.heap.size + R'.cells ≤ e.platform.maxCells
      omega
    · show T.slotsUsed + R'.slots ≤ e.platform.maxSlots
      omega
  · rw [State.stackLimits_setFrames]; rfl
  · rw [State.stackBytes_setFrames]; rfl
  · refine ⟨?_, Nat.le_refl _, Nat.le_refl _, ?_, ?_, fun a c9 h9 => ⟨c9, h9, rfl, rfl, fun _ _ => rfl⟩⟩
    · obtain ⟨t, ht, -⟩ := State.frames_cons hr
      show T.setVm s.vm = { ((T.setVm s.vm).setFrames (.invoking m args :: below)).setFrames (T.setVm s.vm).frames with heap := T.heap, slotsUsed := T.slotsUsed }
      rw [State.setFrames_setFrames, State.setFrames_self ht]
      rfl
    · show T.slotsUsed = T.slotsUsed + ((T.heap.toList.drop T.heap.size).map (·.slots.size)).sum
      rw [List.drop_eq_nil_of_le (Nat.le_of_eq Array.length_toList)]
      rfl
    · show ((T.heap.toList.drop T.heap.size).map (·.slots.size)).sum ≤ 0
      rw [List.drop_eq_nil_of_le (Nat.le_of_eq Array.length_toList)]
      exact Nat.le_refl _
/-- 'throw new E()': new; dup; invokespecial; athrow -/
theorem vx_throw0 {cc : ByteArray} {pc : Nat} (hexec : p.tables.exec = Jvm.exec) (hb : c.code = cc) (hl : l.stackTraces = false) {own cls : String} {names : List String} {ik ic mc ms : Nat} {A : Nat → Prop}
    (hown : s.vm.findClass own = some m.cls) (hcls : Bundle.fit cls = true) (hnames : ∀ n ∈ names, Bundle.fit n = true)
    (hk : (Cond.classLink own ik cls).before args s = true) (hini : (Cond.initialized cls).before args s = true) (hat : ∀ w ∈ vx_at0 own ic cls names, w.before args s = true)
    (hgood : ∀ w ∈ Cond.classLink own ik cls :: Cond.initialized cls :: vx_at0 own ic cls names, vx_ot w = true)
    (hU : vx_Zq Bundle.tN "UNASSIGNED_STACK" Bundle.steD A s s.heap) (hN : vx_Zq Bundle.tN "SUPPRESSED_SENTINEL" Bundle.listD A s s.heap) (hS : va_S A s.heap H locs) (hsize : ls.size = c.maxLocals)
    (d0 : decode cc pc = .ok (.new ik, 3)) (d3 : decode cc (pc + 3) = .ok (.dup, 1)) (d4 : decode cc (pc + 4) = .ok (.invokespecial ic, 3)) (d7 : decode cc (pc + 7) = .ok (.athrow, 1))
    (hout : ∀ x ∈ c.exceptionTable.toList, covers x (pc + 7) = false)
    (hRframes : names.length + 3 < R.frames) (hRlocals : (rest.map fun v => v.category).sum + (13 * (names.length + 1) + 42) ≤ R.locals) (hRcells : cells + 1 ≤ R.cells) (hRslots : slots + 6 ≤ R.slots) (hlocks : meth.locks = false)
    (hx : ∀ t : State, s.vm.Alike t.vm → H.size ≤ t.heap.size → (∀ q : Nat, q < H.size → t.heap[q]? = H[q]?) → XC cls s t)
    (hf : ∀ z ∈ locs, free z.base) (hc : cells + 1 ≤ mc) (hs : slots + 6 ≤ ms) :
    W p l e R s m args below meth c H locs cells slots (vx_MQ below Qc XC args s mc ms free) (F0 m pc ls rest) := by
  intro T hT X
  have htr : e.platform.stackTraces = false := (show e.platform.stackTraces = l.stackTraces by rw [X.admits.platform]).trans hl
  have Y := vx_rebase X (R' := { frames := R.frames, locals := R.locals, cells := 1, slots := 6 }) (Nat.le_refl _) (Nat.le_refl _) hRcells hRslots
  obtain ⟨s', hA⟩ : ∃ z, z = (T.setVm s.vm).setFrames (.invoking m args :: below) := ⟨_, rfl⟩
  rw [← hA] at Y
  have hvm : s'.vm = s.vm := by rw [hA]; rfl
  have hhp : s'.heap = H := by rw [hA]; exact hT
  have hW0 : s.WarmedH s'.vm := by rw [hvm]; exact State.WarmedH.refl s
  have hat' : ∀ w ∈ vx_at0 own ic cls names, w.before args s' = true := fun w hw => vx_ot_at hW0 hvm.symm (hgood w (List.mem_cons_of_mem _ (List.mem_cons_of_mem _ hw))) (hat w hw)
  have hk' : (Cond.classLink own ik cls).before args s' = true := vx_ot_at hW0 hvm.symm (hgood _ List.mem_cons_self) hk
  have hini' : (Cond.initialized cls).before args s' = true := vx_ot_at hW0 hvm.symm (hgood _ (List.mem_cons_of_mem _ List.mem_cons_self)) hini
  have hU' : vx_Zq Bundle.tN "UNASSIGNED_STACK" Bundle.steD A s' s'.heap := by rw [hhp]; exact vx_Zq.moved hW0.alike (hU.kept hS.2.1)
  have hN' : vx_Zq Bundle.tN "SUPPRESSED_SENTINEL" Bundle.listD A s' s'.heap := by rw [hhp]; exact vx_Zq.moved hW0.alike (hN.kept hS.2.1)
  have h : ∀ w ∈ Bundle.ownAtoms0 own ic cls names, w.before args s' = true := vx_own hat' (vx_isRefq hU'.1) (vx_isRefq hN'.1) hU'.2.word hN'.2.word
  have hown' : s'.vm.findClass own = some m.cls := by rw [hvm]; exact hown
  have hins : (Cond.instantiable cls 6).before args s' = true := h _ (by simp [Bundle.ownAtoms0])
  obtain ⟨vm₁, cX, kX, hfX, hkX, -, -, X₁, st1⟩ := Y.newCold hexec (own := own) (C := cls) (index := ik) (n := 6) hown' hk' hins hini'
    (g := F0 m pc ls rest) rfl (by rw [hb]; exact d0) (Nat.le_refl _) (Nat.le_refl _)
  generalize hT1 : (T.setVm vm₁).pushCell { cls := cX, slots := kX.instanceTypes.map defaultValue, vm := .none } = T1 at X₁ st1
  have hcat : (Value.ref T.heap.size).category = 1 := rfl
  have hcellA : T1.heap[T.heap.size]? = some (freshCell cX kX) := by rw [← hT1]; exact State.heap_pushCell_size _ _
  have d3' : decode c.code (pc + 3) = .ok (.dup, 1) := by rw [hb]; exact d3
  obtain ⟨U, hsteps, hrun, hend, hW, hsame, ce, hce, hO⟩ := X₁.ctorThrow0 hexec htr (own := own) (cls := cls) (names := names) (ic := ic) hown' hcls hnames h (fun x hx => nomatch hx) hfX hkX hcellA (by rw [hhp, hT]; exact Nat.le_refl _)
    (g := { method := m, pc := pc + 4, locals := ls, stack := .ref T.heap.size :: .ref T.heap.size :: rest, locked := none }) rfl hsize rfl rfl (rest := rest) rfl
    (by rw [hb]; exact d4) (by rw [hb]; exact d7) hout hRframes (by simp only [List.map_cons, List.sum_cons, hcat]; omega) hlocks
  obtain ⟨f1, f2⟩ := vx_frame hsame
  rw [hhp] at f1 f2
  have hWs : s.WarmedH U.vm := State.WarmedH.trans hW0 hW
  have hcl : s.vm.findClass cls = some ce.cls := by
    have h9 := hO.cls
    rw [hvm] at h9
    exact h9
  have hall : s.sameButNew ({ U with vm := s.vm } : State) locs mc ms := by
    subst hA
    obtain ⟨e1, e2⟩ := hsame
    rw [State.setFrames_setFrames] at e1
    have h2 : (T.setVm s.vm).sameButNew ({ U with vm := s.vm } : State) [] (0 + 1) (0 + 6) := ⟨e1, e2⟩
    have h3 := X.same.trans h2
    rw [List.append_nil] at h3
    exact h3.mono hc hs
  refine ⟨U, ?_, .threw T.heap.size, hrun, hend, Or.inr ⟨T.heap.size, rfl, cls, ce, locs, hx U hWs.alike f1 (fun q hq => f2 q hq (fun z hz => nomatch hz)), hce, hO.vm, hcl, hWs, hall, hf⟩⟩
  refine st1 _ ?_
  show Steps p.tables e below (T1.setTop { method := m, pc := pc + 3, locals := ls, stack := .ref T.heap.size :: rest, locked := none }) _
  jvm_step X₁.here [X₁.here.top, hexec, d3', Value.category]
  exact hsteps
/-- 'throw new E("text")': new; dup; ldc; invokespecial; athrow -/
theorem vx_throwS {cc : ByteArray} {pc : Nat} (hexec : p.tables.exec = Jvm.exec) (hb : c.code = cc) (hl : l.stackTraces = false) {own cls text : String} {names : List String} {ik is ic mc ms sa : Nat} {A : Nat → Prop}
    (hown : s.vm.findClass own = some m.cls) (hcls : Bundle.fit cls = true) (hnames : ∀ n ∈ names, Bundle.fit n = true)
    (hk : (Cond.classLink own ik cls).before args s = true) (hini : (Cond.initialized cls).before args s = true) (hstr : vk_R own is text sa s) (hat : ∀ w ∈ vx_atS own ic cls names, w.before args s = true)
    (hgood : ∀ w ∈ Cond.classLink own ik cls :: Cond.initialized cls :: vx_atS own ic cls names, vx_ot w = true)
    (hU : vx_Zq Bundle.tN "UNASSIGNED_STACK" Bundle.steD A s s.heap) (hN : vx_Zq Bundle.tN "SUPPRESSED_SENTINEL" Bundle.listD A s s.heap) (hS : va_S A s.heap H locs) (hsize : ls.size = c.maxLocals)
    (d0 : decode cc pc = .ok (.new ik, 3)) (d3 : decode cc (pc + 3) = .ok (.dup, 1)) (d4 : decode cc (pc + 4) = .ok (.ldc is, 2)) (d6 : decode cc (pc + 6) = .ok (.invokespecial ic, 3)) (d9 : decode cc (pc + 9) = .ok (.athrow, 1))
    (hout : ∀ x ∈ c.exceptionTable.toList, covers x (pc + 9) = false)
    (hRframes : names.length + 3 < R.frames) (hRlocals : (rest.map fun v => v.category).sum + (13 * (names.length + 1) + 43) ≤ R.locals) (hRcells : cells + 1 ≤ R.cells) (hRslots : slots + 6 ≤ R.slots) (hlocks : meth.locks = false)
    (hx : ∀ t : State, s.vm.Alike t.vm → H.size ≤ t.heap.size → (∀ q : Nat, q < H.size → t.heap[q]? = H[q]?) → XC cls s t)
    (hf : ∀ z ∈ locs, free z.base) (hc : cells + 1 ≤ mc) (hs : slots + 6 ≤ ms) :
    W p l e R s m args below meth c H locs cells slots (vx_MQ below Qc XC args s mc ms free) (F0 m pc ls rest) := by
  intro T hT X
  have htr : e.platform.stackTraces = false := (show e.platform.stackTraces = l.stackTraces by rw [X.admits.platform]).trans hl
  have Y := vx_rebase X (R' := { frames := R.frames, locals := R.locals, cells := 1, slots := 6 }) (Nat.le_refl _) (Nat.le_refl _) hRcells hRslots
  obtain ⟨s', hA⟩ : ∃ z, z = (T.setVm s.vm).setFrames (.invoking m args :: below) := ⟨_, rfl⟩
  rw [← hA] at Y
  have hvm : s'.vm = s.vm := by rw [hA]; rfl
  have hhp : s'.heap = H := by rw [hA]; exact hT
  have hW0 : s.WarmedH s'.vm := by rw [hvm]; exact State.WarmedH.refl s
  have hat' : ∀ w ∈ vx_atS own ic cls names, w.before args s' = true := fun w hw => vx_ot_at hW0 hvm.symm (hgood w (List.mem_cons_of_mem _ (List.mem_cons_of_mem _ hw))) (hat w hw)
  have hk' : (Cond.classLink own ik cls).before args s' = true := vx_ot_at hW0 hvm.symm (hgood _ List.mem_cons_self) hk
  have hini' : (Cond.initialized cls).before args s' = true := vx_ot_at hW0 hvm.symm (hgood _ (List.mem_cons_of_mem _ List.mem_cons_self)) hini
  have hU' : vx_Zq Bundle.tN "UNASSIGNED_STACK" Bundle.steD A s' s'.heap := by rw [hhp]; exact vx_Zq.moved hW0.alike (hU.kept hS.2.1)
  have hN' : vx_Zq Bundle.tN "SUPPRESSED_SENTINEL" Bundle.listD A s' s'.heap := by rw [hhp]; exact vx_Zq.moved hW0.alike (hN.kept hS.2.1)
  have h : ∀ w ∈ Bundle.ownAtoms own ic cls names, w.before args s' = true := vx_own hat' (vx_isRefq hU'.1) (vx_isRefq hN'.1) hU'.2.word hN'.2.word
  have hown' : s'.vm.findClass own = some m.cls := by rw [hvm]; exact hown
  have hins : (Cond.instantiable cls 6).before args s' = true := h _ (by simp [Bundle.ownAtoms])
  obtain ⟨vm₁, cX, kX, hfX, hkX, -, -, X₁, st1⟩ := Y.newCold hexec (own := own) (C := cls) (index := ik) (n := 6) hown' hk' hins hini'
    (g := F0 m pc ls rest) rfl (by rw [hb]; exact d0) (Nat.le_refl _) (Nat.le_refl _)
  generalize hT1 : (T.setVm vm₁).pushCell { cls := cX, slots := kX.instanceTypes.map defaultValue, vm := .none } = T1 at X₁ st1
  have hcat : (Value.ref T.heap.size).category = 1 := rfl
  have hcellA : T1.heap[T.heap.size]? = some (freshCell cX kX) := by rw [← hT1]; exact State.heap_pushCell_size _ _
  have d3' : decode c.code (pc + 3) = .ok (.dup, 1) := by rw [hb]; exact d3
  have d4' : decode c.code (pc + 4) = .ok (.ldc is, 2) := by rw [hb]; exact d4
  have hstr' : vk_R own is text sa s' := vk_R.warm hW0 hstr
  obtain ⟨U, hsteps, hrun, hend, hW, hsame, ce, hce, hO⟩ := X₁.ctorThrowS hexec htr (own := own) (cls := cls) (names := names) (ic := ic) hown' hcls hnames h (fun x hx => nomatch hx) hfX hkX hcellA (by rw [hhp, hT]; exact Nat.le_refl _) (msg := .ref sa) rfl
    (g := { method := m, pc := pc + 6, locals := ls, stack := .ref sa :: .ref T.heap.size :: .ref T.heap.size :: rest, locked := none }) rfl hsize rfl rfl (rest := rest) rfl
    (by rw [hb]; exact d6) (by rw [hb]; exact d9) hout hRframes (by simp only [List.map_cons, List.sum_cons, hcat]; omega) hlocks
  obtain ⟨f1, f2⟩ := vx_frame hsame
  rw [hhp] at f1 f2
  have hWs : s.WarmedH U.vm := State.WarmedH.trans hW0 hW
  have hcl : s.vm.findClass cls = some ce.cls := by
    have h9 := hO.cls
    rw [hvm] at h9
    exact h9
  have hall : s.sameButNew ({ U with vm := s.vm } : State) locs mc ms := by
    subst hA
    obtain ⟨e1, e2⟩ := hsame
    rw [State.setFrames_setFrames] at e1
    have h2 : (T.setVm s.vm).sameButNew ({ U with vm := s.vm } : State) [] (0 + 1) (0 + 6) := ⟨e1, e2⟩
    have h3 := X.same.trans h2
    rw [List.append_nil] at h3
    exact h3.mono hc hs
  refine ⟨U, ?_, .threw T.heap.size, hrun, hend, Or.inr ⟨T.heap.size, rfl, cls, ce, locs, hx U hWs.alike f1 (fun q hq => f2 q hq (fun z hz => nomatch hz)), hce, hO.vm, hcl, hWs, hall, hf⟩⟩
  refine st1 _ ?_
  show Steps p.tables e below (T1.setTop { method := m, pc := pc + 3, locals := ls, stack := .ref T.heap.size :: rest, locked := none }) _
  jvm_step X₁.here [X₁.here.top, hexec, d3', Value.category]
  exact X₁.ldcString hexec (own := own) (text := text) (index := is) (a := sa) hown' hstr'.1 hstr'.2
    (g := { method := m, pc := pc + 4, locals := ls, stack := .ref T.heap.size :: .ref T.heap.size :: rest, locked := none }) rfl d4' _ hsteps
/-- 'throw new E("text")', the text by a wide index -/
theorem vx_throwSW {cc : ByteArray} {pc : Nat} (hexec : p.tables.exec = Jvm.exec) (hb : c.code = cc) (hl : l.stackTraces = false) {own cls text : String} {names : List String} {ik is ic mc ms sa : Nat} {A : Nat → Prop}
    (hown : s.vm.findClass own = some m.cls) (hcls : Bundle.fit cls = true) (hnames : ∀ n ∈ names, Bundle.fit n = true)
    (hk : (Cond.classLink own ik cls).before args s = true) (hini : (Cond.initialized cls).before args s = true) (hstr : vk_R own is text sa s) (hat : ∀ w ∈ vx_atS own ic cls names, w.before args s = true)
    (hgood : ∀ w ∈ Cond.classLink own ik cls :: Cond.initialized cls :: vx_atS own ic cls names, vx_ot w = true)
    (hU : vx_Zq Bundle.tN "UNASSIGNED_STACK" Bundle.steD A s s.heap) (hN : vx_Zq Bundle.tN "SUPPRESSED_SENTINEL" Bundle.listD A s s.heap) (hS : va_S A s.heap H locs) (hsize : ls.size = c.maxLocals)
    (d0 : decode cc pc = .ok (.new ik, 3)) (d3 : decode cc (pc + 3) = .ok (.dup, 1)) (d4 : decode cc (pc + 4) = .ok (.ldc_w is, 3)) (d7 : decode cc (pc + 7) = .ok (.invokespecial ic, 3)) (d10 : decode cc (pc + 10) = .ok (.athrow, 1))
    (hout : ∀ x ∈ c.exceptionTable.toList, covers x (pc + 10) = false)
    (hRframes : names.length + 3 < R.frames) (hRlocals : (rest.map fun v => v.category).sum + (13 * (names.length + 1) + 43) ≤ R.locals) (hRcells : cells + 1 ≤ R.cells) (hRslots : slots + 6 ≤ R.slots) (hlocks : meth.locks = false)
    (hx : ∀ t : State, s.vm.Alike t.vm → H.size ≤ t.heap.size → (∀ q : Nat, q < H.size → t.heap[q]? = H[q]?) → XC cls s t)
    (hf : ∀ z ∈ locs, free z.base) (hc : cells + 1 ≤ mc) (hs : slots + 6 ≤ ms) :
    W p l e R s m args below meth c H locs cells slots (vx_MQ below Qc XC args s mc ms free) (F0 m pc ls rest) := by
  intro T hT X
  have htr : e.platform.stackTraces = false := (show e.platform.stackTraces = l.stackTraces by rw [X.admits.platform]).trans hl
  have Y := vx_rebase X (R' := { frames := R.frames, locals := R.locals, cells := 1, slots := 6 }) (Nat.le_refl _) (Nat.le_refl _) hRcells hRslots
  obtain ⟨s', hA⟩ : ∃ z, z = (T.setVm s.vm).setFrames (.invoking m args :: below) := ⟨_, rfl⟩
  rw [← hA] at Y
  have hvm : s'.vm = s.vm := by rw [hA]; rfl
  have hhp : s'.heap = H := by rw [hA]; exact hT
  have hW0 : s.WarmedH s'.vm := by rw [hvm]; exact State.WarmedH.refl s
  have hat' : ∀ w ∈ vx_atS own ic cls names, w.before args s' = true := fun w hw => vx_ot_at hW0 hvm.symm (hgood w (List.mem_cons_of_mem _ (List.mem_cons_of_mem _ hw))) (hat w hw)
  have hk' : (Cond.classLink own ik cls).before args s' = true := vx_ot_at hW0 hvm.symm (hgood _ List.mem_cons_self) hk
  have hini' : (Cond.initialized cls).before args s' = true := vx_ot_at hW0 hvm.symm (hgood _ (List.mem_cons_of_mem _ List.mem_cons_self)) hini
  have hU' : vx_Zq Bundle.tN "UNASSIGNED_STACK" Bundle.steD A s' s'.heap := by rw [hhp]; exact vx_Zq.moved hW0.alike (hU.kept hS.2.1)
  have hN' : vx_Zq Bundle.tN "SUPPRESSED_SENTINEL" Bundle.listD A s' s'.heap := by rw [hhp]; exact vx_Zq.moved hW0.alike (hN.kept hS.2.1)
  have h : ∀ w ∈ Bundle.ownAtoms own ic cls names, w.before args s' = true := vx_own hat' (vx_isRefq hU'.1) (vx_isRefq hN'.1) hU'.2.word hN'.2.word
  have hown' : s'.vm.findClass own = some m.cls := by rw [hvm]; exact hown
  have hins : (Cond.instantiable cls 6).before args s' = true := h _ (by simp [Bundle.ownAtoms])
  obtain ⟨vm₁, cX, kX, hfX, hkX, -, -, X₁, st1⟩ := Y.newCold hexec (own := own) (C := cls) (index := ik) (n := 6) hown' hk' hins hini'
    (g := F0 m pc ls rest) rfl (by rw [hb]; exact d0) (Nat.le_refl _) (Nat.le_refl _)
  generalize hT1 : (T.setVm vm₁).pushCell { cls := cX, slots := kX.instanceTypes.map defaultValue, vm := .none } = T1 at X₁ st1
  have hcat : (Value.ref T.heap.size).category = 1 := rfl
  have hcellA : T1.heap[T.heap.size]? = some (freshCell cX kX) := by rw [← hT1]; exact State.heap_pushCell_size _ _
  have d3' : decode c.code (pc + 3) = .ok (.dup, 1) := by rw [hb]; exact d3
  have d4' : decode c.code (pc + 4) = .ok (.ldc_w is, 3) := by rw [hb]; exact d4
  have hstr' : vk_R own is text sa s' := vk_R.warm hW0 hstr
  obtain ⟨U, hsteps, hrun, hend, hW, hsame, ce, hce, hO⟩ := X₁.ctorThrowS hexec htr (own := own) (cls := cls) (names := names) (ic := ic) hown' hcls hnames h (fun x hx => nomatch hx) hfX hkX hcellA (by rw [hhp, hT]; exact Nat.le_refl _) (msg := .ref sa) rfl
    (g := { method := m, pc := pc + 7, locals := ls, stack := .ref sa :: .ref T.heap.size :: .ref T.heap.size :: rest, locked := none }) rfl hsize rfl rfl (rest := rest) rfl
    (by rw [hb]; exact d7) (by rw [hb]; exact d10) hout hRframes (by simp only [List.map_cons, List.sum_cons, hcat]; omega) hlocks
  obtain ⟨f1, f2⟩ := vx_frame hsame
  rw [hhp] at f1 f2
  have hWs : s.WarmedH U.vm := State.WarmedH.trans hW0 hW
  have hcl : s.vm.findClass cls = some ce.cls := by
    have h9 := hO.cls
    rw [hvm] at h9
    exact h9
  have hall : s.sameButNew ({ U with vm := s.vm } : State) locs mc ms := by
    subst hA
    obtain ⟨e1, e2⟩ := hsame
    rw [State.setFrames_setFrames] at e1
    have h2 : (T.setVm s.vm).sameButNew ({ U with vm := s.vm } : State) [] (0 + 1) (0 + 6) := ⟨e1, e2⟩
    have h3 := X.same.trans h2
    rw [List.append_nil] at h3
    exact h3.mono hc hs
  refine ⟨U, ?_, .threw T.heap.size, hrun, hend, Or.inr ⟨T.heap.size, rfl, cls, ce, locs, hx U hWs.alike f1 (fun q hq => f2 q hq (fun z hz => nomatch hz)), hce, hO.vm, hcl, hWs, hall, hf⟩⟩
  refine st1 _ ?_
  show Steps p.tables e below (T1.setTop { method := m, pc := pc + 3, locals := ls, stack := .ref T.heap.size :: rest, locked := none }) _
  jvm_step X₁.here [X₁.here.top, hexec, d3', Value.category]
  exact X₁.ldcStringW hexec (own := own) (text := text) (index := is) (a := sa) hown' hstr'.1 hstr'.2
    (g := { method := m, pc := pc + 4, locals := ls, stack := .ref T.heap.size :: .ref T.heap.size :: rest, locked := none }) rfl d4' _ hsteps
end Ends
section Bodies
variable {l : Launch}
theorem vx_ofW {y : MethodName} {ws ws' : List Cond} {rm : Room} {Pc : Array Value → State → Prop} {Qc : Array Value → State → Outcome → State → Prop} {XC : String → State → State → Prop} {mc ms : Nat} {free : Addr → Prop} {cc : ByteArray} {maxL : Nat} {ret : Option FieldType}
    (hy : plainName y.cls = true) (hw : ws = Cond.code y cc maxL ret :: ws')
    (body : ∀ p e s m args below meth c s₁, BodyLoose p l y (headSpec ws rm) cc maxL ret e s m args below meth c s₁ → c.maxLocals = maxL → (∀ x ∈ c.exceptionTable.toList, False) → Pc args s →
      W p l e (headSpec ws rm).room s m args below meth c s.heap [] 0 0 (vx_MQ below Qc XC args s mc ms free) (entryFrame m args maxL)) : vx_Met l y ws rm Pc Qc XC mc ms free := by
  refine MetFree.of_bodyS (code := cc) (maxLocals := maxL) (ret := ret) hy ?_ ?_
  · intro args s m h hn
    obtain ⟨meth, c, h1, h2, h3, h4, h5, h6, -, -⟩ := Cond.code_spec hn (atoms_spec (ws := ws) h _ (by rw [hw]; exact List.mem_cons_self))
    exact ⟨meth, c, h1, h2, h3, h4, h5, h6⟩
  · intro p e s m args below meth c s₁ B hml hP _
    have hh0 : s₁.heap = s.heap := by rw [B.state]; rfl
    have ht : ∀ x ∈ c.exceptionTable.toList, False := by
      obtain ⟨meth9, c9, h1, h2, -, -, -, -, h7, -⟩ := Cond.code_spec B.named (atoms_spec (ws := ws) B.pre _ (by rw [hw]; exact List.mem_cons_self))
      cases Option.some.inj (h1.symm.trans B.method)
      cases Option.some.inj (h2.symm.trans (Stand.of_body B).code)
      intro x hx
      rw [Array.isEmpty_iff.mp h7] at hx
      cases hx
    obtain ⟨t, a1, o, b1, b2, b3⟩ := body p e s m args below meth c s₁ B hml ht hP s₁ hh0 (Stand.of_body B)
    exact ⟨t, o, a1, b1, b2, b3⟩
/-- the table of a body with handlers -/
theorem vx_table {p : Program} {x y : MethodName} {S : Spec} {cc bytes : ByteArray} {maxL maxL' : Nat} {ret ret' : Option FieldType} {e : Env} {s s₁ : State} {m : MethodId} {args : Array Value} {below : List Frame} {meth : Method} {c : Code} {hh : List (Nat × Nat × Nat × Nat)}
    (B : BodyLoose p l y S cc maxL ret e s m args below meth c s₁) (h : (Cond.codeWith y bytes maxL' ret' hh).before args s = true) : c.exceptionTable.toList = tableOf hh := by
  obtain ⟨m9, meth9, c9, hn9, h1, h2, -, -, h6, -⟩ := Cond.codeWith_spec h
  cases Option.some.inj (hn9.symm.trans B.named)
  cases Option.some.inj (h1.symm.trans B.method)
  cases Option.some.inj (h2.symm.trans (Stand.of_body B).code)
  rw [← h6, table_eq]
end Bodies
end VXA
/-! ===== END ===== -/
/-! ===== BEGIN a static call of a method with an exception table ===== -/
section VXS
variable {p : Program} {l : Launch} {e : Env} {R : Room} {s : State} {m : MethodId} {args : Array Value} {below : List Frame} {meth : Method} {c : Code} {T : State} {H : Heap} {locs : List Loc} {cells slots : Nat}
abbrev vx_CSW (R : Room) (s : State) (args : Array Value) (own : String) (index : Nat) (y : MethodName) (bytes : ByteArray) (maxL : Nat) (ret : Option FieldType) (hh : List (Nat × Nat × Nat × Nat)) (ws : List Cond) (rm : Room) (mc ms n : Nat) : Prop :=
  (rm.cells = mc ∧ rm.slots = ms ∧ rm.frames + 1 ≤ R.frames ∧ 8 + (maxL + 11) + rm.locals ≤ R.locals ∧ (∀ w ∈ ws, ∀ (a' : Array Value) (U : State), s.WarmedH U.vm → w.before a' U = true) ∧ Cond.codeWith y bytes maxL ret hh ∈ ws) ∧
  (Cond.codeWith y bytes maxL ret hh).before args s = true ∧ (Cond.initialized y.cls).before args s = true ∧ (y.cls ≠ "java/lang/invoke/MethodHandle" ∧ y.cls ≠ "java/lang/invoke/VarHandle") ∧
  (∀ sig, parseMethodDescriptor y.desc = some sig → n = sig.parameters.length) ∧ (Cond.methodLink own index y).before args s = true ∧ (Cond.static y).before args s = true
theorem vx_cwSW {own : String} {index maxL mc ms : Nat} {y : MethodName} {bytes : ByteArray} {ret : Option FieldType} {hh : List (Nat × Nat × Nat × Nat)} {Ts ws ws' : List Cond} {rm : Room} (n : Nat) (ht : ∀ w ∈ Ts, w.before args s = true) (hT : GoodIn Ts (va_wsS own index y ws)) (hw : ws = Cond.codeWith y bytes maxL ret hh :: ws') (hrc : rm.cells = mc) (hrs : rm.slots = ms)
    (hd : y.cls ≠ "java/lang/invoke/MethodHandle" ∧ y.cls ≠ "java/lang/invoke/VarHandle" ∧ (parseMethodDescriptor y.desc).map (fun d => d.parameters.length) = some n) (hR : rm.frames + 1 ≤ R.frames ∧ 8 + (maxL + 11) + rm.locals ≤ R.locals) :
    vx_CSW R s args own index y bytes maxL ret hh ws rm mc ms n := by
  have ok : ∀ w ∈ va_wsS own index y ws, w.before args s = true := fun w h => ht w (hT w h).1
  have hG : GoodIn Ts ws := fun w h => hT w (by unfold va_wsS; exact List.mem_append_right _ h)
  have hc : Cond.codeWith y bytes maxL ret hh ∈ ws := by rw [hw]; exact List.mem_cons_self
  refine ⟨⟨hrc, hrs, hR.1, hR.2, pay_in ht hG, hc⟩, ht _ (hG _ hc).1, ok _ (by simp [va_wsS]), ⟨hd.1, hd.2.1⟩, fun sig h => ?_, ok _ (by simp [va_wsS]), ok _ (by simp [va_wsS])⟩
  have h2 := hd.2.2
  rw [h] at h2
  exact (Option.some.inj h2).symm
theorem vx_callSW (X : Stand p l e R s m args below meth c T locs cells slots) (hexec : p.tables.exec = Jvm.exec) {own : String} {index : Nat} {y : MethodName} {bytes : ByteArray} {maxL : Nat} {ret : Option FieldType} {hh : List (Nat × Nat × Nat × Nat)}
    (hown : s.vm.findClass own = some m.cls) (hlink : (Cond.methodLink own index y).before args s = true) (hstat : (Cond.static y).before args s = true) (hinit : (Cond.initialized y.cls).before args s = true)
    (hcode : (Cond.codeWith y bytes maxL ret hh).before args s = true) (hy : y.cls ≠ "java/lang/invoke/MethodHandle" ∧ y.cls ≠ "java/lang/invoke/VarHandle")
    {W9 : Nat} {Pre : Pt → Array Value → Prop} {Post : Pt → Array Value → Option Value → Pt → Prop} (hK : Back l R p e below s args y 3 W9 Pre Post)
    {g : JFrame} (hg : g.method = m) (hsize : g.locals.size = c.maxLocals) {argsL rest : List Value} (hlen : ∀ sig, parseMethodDescriptor y.desc = some sig → argsL.length = sig.parameters.length)
    (hstack : g.stack = argsL.reverse ++ rest) (hW : 2 * g.monitorRoom + (rest.map fun v => v.category).sum ≤ W9) (hdg : decode c.code g.pc = .ok (.invokestatic index, 3))
    (hpre : ∀ vm₁, s.WarmedH vm₁ → Pre ⟨T.setVm vm₁, locs, cells, slots⟩ argsL.toArray) :
    ∃ (v : Option Value) (vm₁ : Vm) (B : Pt), s.WarmedH vm₁ ∧ Stand p l e R s m args below meth c B.U B.locs B.cells B.slots ∧ Post ⟨T.setVm vm₁, locs, cells, slots⟩ argsL.toArray v B ∧
      ∀ target, Steps p.tables e below (B.U.setTop { g with pc := g.pc + 3, stack := v.toList ++ rest }) target → Steps p.tables e below (T.setTop g) target := by
  obtain ⟨mk, methM, cM, hnamed, hmethM, -, -, -, -, -, -, hsigM⟩ := Cond.codeWith_spec hcode
  have hstatic : methM.isStatic = true := Cond.static_spec hnamed hmethM hstat
  obtain ⟨kP, hkP, -⟩ := className_of_methodNamed hnamed
  have hinitP : kP.init = .initialized := Cond.initialized_spec (findClass_of_methodNamed hnamed) hkP hinit
  obtain ⟨vm₁, X₁, hstep₁⟩ := X.invokestatic hexec hown hlink hnamed hmethM hstatic hkP hinitP hy (g := g) hg (argsL := argsL) (rest := rest) (hlen _ hsigM) hstack hdg
  obtain ⟨v, B, X', hpost, hsteps⟩ := hK m meth c ⟨T.setVm vm₁, locs, cells, slots⟩ { g with stack := rest } (.invokestatic index) mk argsL.toArray X₁ hg hsize hdg hW (X₁.named hnamed) (hpre vm₁ X₁.warmed)
  exact ⟨v, vm₁, B, X₁.warmed, X', hpost, fun target h => hstep₁ _ fun acts => by rw [doInvoke_state]; exact hsteps.trans h⟩
theorem vx_runSW {y : MethodName} {bytes cc : ByteArray} {maxL nL mc ms n index : Nat} {ret : Option FieldType} {hh : List (Nat × Nat × Nat × Nat)} {ws : List Cond} {rm : Room} {Pc : Array Value → State → Prop} {Qc : Array Value → State → Outcome → State → Prop} {free : Addr → Prop} {Ts : List Cond} {own : String} {As rest : List Value} {g : JFrame}
    (S : CallFix p m c cc nL s args Ts own) (hM : Met l y ws rm Pc Qc mc ms free) (cw : vx_CSW R s args own index y bytes maxL ret hh ws rm mc ms n) (hp : PreS s H Pc As)
    (hg : g.method = m) (hn : As.length = n) (hsize : g.locals.size = nL) (hstack : g.stack = As.reverse ++ rest) (hW : 2 * g.monitorRoom + (rest.map fun v => v.category).sum ≤ 8) (hdg : decode cc g.pc = .ok (.invokestatic index, 3)) (hf : cells + mc ≤ R.cells ∧ slots + ms ≤ R.slots) :
    va_Run p l e R s m args below meth c H locs cells slots mc ms g rest (Qc As.toArray) (free) := by
  obtain ⟨⟨hrc, hrs, hfr, hlo, hws, hcw⟩, hcode, hini, hy, hlen, hl, hstt⟩ := cw
  have hK : Back l R p e below s args y 3 8 (PreOf R mc ms Pc) (PostOf Qc mc ms free) := va_backW (hh := hh) (bytes := bytes) (maxL := maxL) (ret := ret) hM hp.1 hrc hrs hfr hlo hws hcw (fun a' U hW => word_at hW (Or.inl (by first | rfl | simp [Cond.onTables, Cond.keeps, Cond.steady])) hini)
  obtain ⟨hx, hb, hml, ho, -⟩ := S
  intro T hT X
  obtain ⟨v, vm₁, ⟨U', l2, c2, s2⟩, hW₁, X', ⟨g', mk, t, L, e1, e2, hq, h1, hL, h2, h3⟩, st⟩ := vx_callSW X hx (hh := hh) (bytes := bytes) (maxL := maxL) (ret := ret) ho hl hstt hini hcode hy hK hg (hsize.trans hml.symm) (argsL := As) (rest := rest) (fun sig h => hn.trans (hlen sig h)) hstack hW (by rw [hb]; exact hdg)
    (fun vm₁ hW₁ => ⟨hf.1, hf.2, hp.2 (T.setVm vm₁) hT hW₁⟩)
  dsimp only [Pt.U, Pt.locs, Pt.cells, Pt.slots] at X' e1 e2 h1 h2 h3 st
  subst h1; subst h2; subst h3
  exact ⟨v, (T.setVm vm₁).calling g' mk As.toArray, t, U', L, hT, X', hL, e1, e2, hq, st⟩
/-- not caught here, past rows that name other classes: it goes on to the caller -/
theorem vx_outP {p : Program} {l : Launch} {e : Env} {R : Room} {s : State} {m : MethodId} {args : Array Value} {below : List Frame} {meth : Method} {c : Code} {H : Heap} {locs : List Loc} {cells slots : Nat} {free : Addr → Prop} {ls : Array Slot} {rest : List Value} {Qc : Array Value → State → Outcome → State → Prop} {XC : String → State → State → Prop}
    {pc : Nat} {own E : String} {ce : Cell} {q : Addr} {mc ms : Nat} (hown : s.vm.findClass own = some m.cls) (hlocks : meth.locks = false)
    (hpass : ∀ z ∈ c.exceptionTable.toList, covers z pc = false ∨ (z.catchType ≠ 0 ∧ ∃ nm : String, (Cond.classLink own z.catchType nm).before args s = true ∧ va_Nc E nm s)) (hcell : H[q]? = some ce) (hv : ce.vm = .none) (hcl : s.vm.findClass E = some ce.cls)
    (hx : ∀ t : State, t.heap = H → s.vm.Alike t.vm → XC E s t) (hf : ∀ z ∈ locs, free z.base) (hc : cells ≤ mc) (hs : slots ≤ ms) :
    vx_W p l e R s m args below meth c H locs cells slots (vx_MQ below Qc XC args s mc ms free) (F0 m pc ls rest) q := by
  intro T hT X
  have hpl : e.platform.magicAccessors = ({} : Platform).magicAccessors := by rw [X.admits.platform]
  obtain ⟨vm', hW', X', st⟩ := X.outThrough hlocks q (g := F0 m pc ls rest) rfl rfl rfl (cell := ce) (by rw [hT]; exact hcell) (by rw [hv]; rfl)
    (by obtain ⟨k9, h9, -⟩ := Vm.findClass_spec hcl; exact ⟨k9, h9⟩) (fun z hz => by
      rcases hpass z hz with h | ⟨hz0, nm, hl1, hn1⟩
      · exact Or.inl h
      · obtain ⟨c6, hc6, hcl6⟩ := Cond.classLink_spec hown hl1 e.platform hpl
        obtain ⟨a8, b8, h1, h2, h3⟩ := hn1
        cases Option.some.inj (h1.symm.trans hcl)
        cases Option.some.inj (h2.symm.trans hc6)
        exact Or.inr ⟨hz0, _, hcl6, h3⟩)
  obtain ⟨g₀, hfr⟩ := X'.frames_eq
  have hcell9 : ((T.setVm vm').setFrames (.throwing q :: below)).heap[q]? = some ce := by
    show T.heap[q]? = some ce
    rw [hT]; exact hcell
  have hend : Ended ((T.setVm vm').setFrames (.throwing q :: below)) below (.threw q) := State.frames_setFrames _ (State.cur_lt_of_frames hfr)
  refine ⟨(T.setVm vm').setFrames (.throwing q :: below), ?_, .threw q, X'.here.running, hend, Or.inr ⟨q, rfl, E, ce, locs, hx _ hT (X'.ends _).1.alike, hcell9, hv, hcl, (X'.ends _).1, (X'.ends _).2.mono hc hs, hf⟩⟩
  rw [X.pushThrowing_eq]
  exact st
/-- a thing of a world lies in the heap -/
theorem vx_lt {D : va_G} {cl : List vw_C} {ws : va_W} {H1 : Heap} (h : va_P D cl ws H1) {k : Nat} {q : Nat × va_E} (hk : ws[k]? = some q) : q.1 < H1.size := (h k q hk).lt
end VXS
/-! ===== END ===== -/
/-! ===== BEGIN methods with a table of their own: called by a name, returning or throwing ===== -/
section VXH
/-! vx_backW, vx_callVX, vx_callSX, vx_callVW, vx_runVW, vx_runVX, vx_runSX, vx_ofWH follow the same proofs as their sisters above (Free/Laws.lean, Shelf42/LK1.lean); vx_outP calls Shelf42/NT130.lean (outThrough). -/
section
variable {l : Launch} {R : Room} {p : Program} {e : Env} {below : List Frame} {s : State} {sargs : Array Value} {y : MethodName} {len W9 : Nat}
theorem vx_backW {ws : List Cond} {rm : Room} {Pc : Array Value → State → Prop} {Qc : Array Value → State → Outcome → State → Prop} {XC : String → State → State → Prop} {mc ms : Nat} {free : Addr → Prop} {bytes : ByteArray} {maxL : Nat} {ret : Option FieldType} {hh : List (Nat × Nat × Nat × Nat)}
    (hM : vx_Met l y ws rm Pc Qc XC mc ms free) (hblind : FrameBlind Pc) (hrc : rm.cells = mc) (hrs : rm.slots = ms)
    (hframes : rm.frames + 1 ≤ R.frames) (hlocals : W9 + (maxL + 11) + rm.locals ≤ R.locals)
    (hws : ∀ w ∈ ws, ∀ a' U, s.WarmedH U.vm → w.before a' U = true) (hcode : Cond.codeWith y bytes maxL ret hh ∈ ws) (hinit : ∀ a' U, s.WarmedH U.vm → (Cond.initialized y.cls).before a' U = true) :
    vx_Back l R p e below s sargs y len W9 (PreOf R mc ms Pc) (PostOf Qc mc ms free) (vx_Post XC mc ms free) := by
  intro m meth c A g ig mk a X hg hsize hdg hW hn hp
  have h1 : (headSpec ws rm).pre.before a A.U = true := atoms_intro fun w hw => hws w hw _ _ X.warmed
  have h2 : (Cond.codeWith y bytes maxL ret hh).before a A.U = true := hws _ hcode _ _ X.warmed
  have h3 : (Cond.initialized y.cls).before a A.U = true := hinit _ _ X.warmed
  have h4 : A.cells + (headSpec ws rm).room.cells ≤ R.cells := by rw [show (headSpec ws rm).room.cells = mc from hrc]; exact hp.1
  have h5 : A.slots + (headSpec ws rm).room.slots ≤ R.slots := by rw [show (headSpec ws rm).room.slots = ms from hrs]; exact hp.2.1
  have hPc : Pc a (A.U.calling g mk a) := hblind _ _ _ _ hp.2.2
  obtain ⟨U, Ls, c0, s0⟩ := A
  dsimp only [Pt.U, Pt.locs, Pt.cells, Pt.slots] at h1 h2 h3 h4 h5 X hn hPc ⊢
  obtain ⟨m9, methY, cY, hn9, hmY, hcY, -, hlY, -⟩ := Cond.codeWith_spec h2
  cases Option.some.inj (hn9.symm.trans hn)
  obtain ⟨kY, hkY, -⟩ := className_of_methodNamed hn
  have hinitY : kY.init = .initialized := Cond.initialized_spec (findClass_of_methodNamed hn) hkY h3
  have h : At U g.method c below := by rw [hg]; exact X.here
  have hlocals9 : W9 + (maxL + 11) + (headSpec ws rm).room.locals ≤ R.locals := hlocals
  have happ : (headSpec ws rm).appliesLoose y e.platform (U.calling g mk a) = true :=
    Spec.appliesLoose_calling (g := g) h hdg hn hkY hinitY
      (X.room_calling (g := g) (R' := (headSpec ws rm).room) hsize hmY hcY hframes (by rw [hlY]; omega) h4 h5) h1
  obtain ⟨mid, hmid⟩ := h.above
  have hfr : (U.setTop g).frames = (.java g :: mid) ++ below := by rw [State.frames_setTop' g h.top, hmid]; rfl
  obtain ⟨o, s₂, hsteps, -, hend, hq⟩ := Steps.callFree hM p X.admits X.cas X.clock (acts := []) hfr happ hPc trivial
  have hq' : vx_Q Qc XC mc ms free a (U.calling g mk a) o s₂ := hq
  rw [State.frames_setTop' g h.top] at hend
  obtain ⟨g₀, hg0⟩ := Option.isSome_iff_exists.mp h.top
  obtain ⟨r, hr⟩ := State.topJava?_eq_some.mp hg0
  have hr' : (({ U with heap := s₂.heap, slotsUsed := s₂.slotsUsed } : State).setVm s₂.vm).frames = .java g₀ :: r := hr
  rcases hq' with ⟨hqc, L, hfe, hL⟩ | ⟨q, rfl, E, ce, L, hx, hce, hcv, hcl, hW₂, hsm, hL⟩
  · obtain ⟨⟨v, rfl⟩, hW₂, e2, q2, q3, q4, q5, q6⟩ := id hfe
    have e3 : s₂ = ({ (U.calling g mk a).setFrames s₂.frames with heap := s₂.heap, slotsUsed := s₂.slotsUsed } : State).setVm s₂.vm := by
      have : s₂ = ({ s₂ with vm := (U.calling g mk a).vm } : State).setVm s₂.vm := rfl
      rw [e2] at this
      exact this
    obtain ⟨c₂, i₂, len₂, hc₂, hd₂, hf₂⟩ := hend
    have hW' : U.WarmedH s₂.vm := hW₂
    have hcc : c₂ = c := by
      have h1 : s₂.code? g.method = U.code? g.method := by
        rw [State.code?_eq, State.code?_eq, hW'.alike.method?]
      exact Option.some.inj (hc₂.symm.trans (h1.trans h.code))
    subst hcc
    have hlen : len₂ = len := by rw [hdg] at hd₂; cases hd₂; rfl
    subst hlen
    have hs₂ : s₂ = (({ U with heap := s₂.heap, slotsUsed := s₂.slotsUsed } : State).setVm s₂.vm).setTop { g with pc := g.pc + len₂, stack := v.toList ++ g.stack } := by
      refine e3.trans ?_
      rw [hf₂, State.calling_eq h.top, State.setFrames_setFrames, State.setTop_of_frames _ hr', hr]
      rfl
    have hsame : U.sameButNew ({ U with heap := s₂.heap, slotsUsed := s₂.slotsUsed } : State) L mc ms := by
      refine ⟨?_, q2, q3, q4, q5, q6⟩
      obtain ⟨t, ht, -⟩ := State.frames_cons hr
      show ({ U with heap := s₂.heap, slotsUsed := s₂.slotsUsed } : State) = { U.setFrames U.frames with heap := s₂.heap, slotsUsed := s₂.slotsUsed }
      rw [State.setFrames_self ht]
    subst hg
    refine Or.inl ⟨v, ⟨(({ U with heap := s₂.heap, slotsUsed := s₂.slotsUsed } : State).setVm s₂.vm), Ls ++ L, c0 + mc, s0 + ms⟩,
      ⟨X.admits, X.cas, X.clock, X.frames, X.room, X.hears, X.method, X.code, (X.here.setHeapUsed s₂.heap s₂.slotsUsed).setVm hW'.alike, X.tail, State.WarmedH.trans X.warmed hW', X.limits, X.bytes, X.same.trans (hsame.setVm s.vm)⟩,
      ⟨g, mk, s₂, L, rfl, rfl, hqc, rfl, hL, rfl, rfl⟩, ?_⟩
    show Steps p.tables e below _ ((({ U with heap := s₂.heap, slotsUsed := s₂.slotsUsed } : State).setVm s₂.vm).setTop { g with pc := g.pc + len₂, stack := v.toList ++ g.stack })
    rw [← hs₂]
    exact hsteps
  · obtain ⟨e2, q2, q3, q4, q5, q6⟩ := id hsm
    have e3 : s₂ = ({ (U.calling g mk a).setFrames s₂.frames with heap := s₂.heap, slotsUsed := s₂.slotsUsed } : State).setVm s₂.vm := by
      have : s₂ = ({ s₂ with vm := (U.calling g mk a).vm } : State).setVm s₂.vm := rfl
      rw [e2] at this
      exact this
    have hf₂ : s₂.frames = .throwing q :: .java g :: U.frames.tail := hend
    have hW' : U.WarmedH s₂.vm := hW₂
    have hs₂ : s₂ = ((({ U with heap := s₂.heap, slotsUsed := s₂.slotsUsed } : State).setVm s₂.vm).setTop g).pushFrame (.throwing q) := by
      refine e3.trans ?_
      rw [hf₂, State.calling_eq h.top, State.setFrames_setFrames, State.pushFrame, State.frames_setTop _ hr', State.setTop_of_frames _ hr', State.setFrames_setFrames, hr]
      rfl
    have hsame : U.sameButNew ({ U with heap := s₂.heap, slotsUsed := s₂.slotsUsed } : State) L mc ms := by
      refine ⟨?_, q2, q3, q4, q5, q6⟩
      obtain ⟨t, ht, -⟩ := State.frames_cons hr
      show ({ U with heap := s₂.heap, slotsUsed := s₂.slotsUsed } : State) = { U.setFrames U.frames with heap := s₂.heap, slotsUsed := s₂.slotsUsed }
      rw [State.setFrames_self ht]
    subst hg
    refine Or.inr ⟨q, ⟨(({ U with heap := s₂.heap, slotsUsed := s₂.slotsUsed } : State).setVm s₂.vm), Ls ++ L, c0 + mc, s0 + ms⟩,
      ⟨X.admits, X.cas, X.clock, X.frames, X.room, X.hears, X.method, X.code, (X.here.setHeapUsed s₂.heap s₂.slotsUsed).setVm hW'.alike, X.tail, State.WarmedH.trans X.warmed hW', X.limits, X.bytes, X.same.trans (hsame.setVm s.vm)⟩,
      ⟨g, mk, s₂, L, E, ce, rfl, rfl, hx, hce, hcv, hcl, rfl, hL, rfl, rfl⟩, ?_⟩
    show Steps p.tables e below _ (((({ U with heap := s₂.heap, slotsUsed := s₂.slotsUsed } : State).setVm s₂.vm).setTop g).pushFrame (.throwing q))
    rw [← hs₂]
    exact hsteps
end
variable {p : Program} {l : Launch} {e : Env} {R : Room} {s : State} {m : MethodId} {args : Array Value} {below : List Frame} {meth : Method} {c : Code} {T : State} {H : Heap} {locs : List Loc} {cells slots : Nat}
theorem vx_callVX (X : Stand p l e R s m args below meth c T locs cells slots) (hexec : p.tables.exec = Jvm.exec) {own C : String} {index : Nat} {y : MethodName} {bytes : ByteArray} {maxL : Nat} {ret : Option FieldType} {hh : List (Nat × Nat × Nat × Nat)}
    (hown : s.vm.findClass own = some m.cls) (hlink : (Cond.methodLink own index y).before args s = true) (hinst : (Cond.instanceMethod y).before args s = true) (hsel : (Cond.selects C y y).before args s = true)
    (hcode : (Cond.codeWith y bytes maxL ret hh).before args s = true) (hy : y.cls ≠ "java/lang/invoke/MethodHandle" ∧ y.cls ≠ "java/lang/invoke/VarHandle")
    {W9 : Nat} {Pre : Pt → Array Value → Prop} {Post : Pt → Array Value → Option Value → Pt → Prop} {PostX : Pt → Array Value → Addr → Pt → Prop} (hK : vx_Back l R p e below s args y 3 W9 Pre Post PostX)
    {b : Addr} {cellB : Cell} (hcell : T.heap[b]? = some cellB) (hobj : cellB.vm.isStatics = false) (hcls : s.vm.findClass C = some cellB.cls)
    {g : JFrame} (hg : g.method = m) (hsize : g.locals.size = c.maxLocals) {argsL rest : List Value} (hlen : ∀ sig, parseMethodDescriptor y.desc = some sig → argsL.length = sig.parameters.length)
    (hstack : g.stack = argsL.reverse ++ .ref b :: rest) (hW : 2 * g.monitorRoom + (rest.map fun v => v.category).sum ≤ W9) (hdg : decode c.code g.pc = .ok (.invokevirtual index, 3))
    (hpre : ∀ vm₁, s.WarmedH vm₁ → Pre ⟨T.setVm vm₁, locs, cells, slots⟩ (Value.ref b :: argsL).toArray) :
    (∃ (v : Option Value) (vm₁ : Vm) (B : Pt), s.WarmedH vm₁ ∧ Stand p l e R s m args below meth c B.U B.locs B.cells B.slots ∧ Post ⟨T.setVm vm₁, locs, cells, slots⟩ (Value.ref b :: argsL).toArray v B ∧
      ∀ target, Steps p.tables e below (B.U.setTop { g with pc := g.pc + 3, stack := v.toList ++ rest }) target → Steps p.tables e below (T.setTop g) target) ∨
    (∃ (q : Addr) (vm₁ : Vm) (B : Pt), s.WarmedH vm₁ ∧ Stand p l e R s m args below meth c B.U B.locs B.cells B.slots ∧ PostX ⟨T.setVm vm₁, locs, cells, slots⟩ (Value.ref b :: argsL).toArray q B ∧
      Steps p.tables e below (T.setTop g) ((B.U.setTop { g with stack := rest }).pushFrame (.throwing q))) := by
  obtain ⟨mk, methM, hnamed, hmethM, hstM, habM⟩ := Cond.instanceMethod_spec hinst
  obtain ⟨m8, methM', cM, hn8, hmethM', -, -, -, -, -, -, hsigM⟩ := Cond.codeWith_spec hcode
  cases Option.some.inj (hn8.symm.trans hnamed)
  cases hmethM.symm.trans hmethM'
  obtain ⟨c2, r2, m2, q1, q2, q3, q4, kP, hkP, hkPi⟩ := Cond.selects_spec hsel
  cases hcls.symm.trans q1
  cases (State.methodFound?_of_named hnamed hy).symm.trans q2
  cases hnamed.symm.trans q3
  have hselP : selectMethod e.platform s.vm cellB.cls mk = .method mk := by rw [Launch.admits_selectMethod X.admits]; exact q4
  obtain ⟨vm₁, X₁, hstep₁⟩ := X.invokevirtual hexec hown hlink hnamed hmethM hstM hkP hkPi hy (a := b) (cell := cellB) hcell
    (fun z h => by rw [h] at hobj; cases hobj) hselP hmethM habM hkP hkPi (g := g) hg (argsL := argsL) (rest := rest) (hlen _ hsigM) hstack hdg
  rcases hK m meth c ⟨T.setVm vm₁, locs, cells, slots⟩ { g with stack := rest } (.invokevirtual index) mk (Value.ref b :: argsL).toArray X₁ hg hsize hdg hW (X₁.named hnamed) (hpre vm₁ X₁.warmed) with ⟨v, B, X', hpost, hsteps⟩ | ⟨q, B, X', hpost, hsteps⟩
  · exact Or.inl ⟨v, vm₁, B, X₁.warmed, X', hpost, fun target h => hstep₁ _ fun acts => by rw [doInvoke_state]; exact hsteps.trans h⟩
  · exact Or.inr ⟨q, vm₁, B, X₁.warmed, X', hpost, hstep₁ _ fun acts => by rw [doInvoke_state]; exact hsteps⟩
theorem vx_callSX (X : Stand p l e R s m args below meth c T locs cells slots) (hexec : p.tables.exec = Jvm.exec) {own : String} {index : Nat} {y : MethodName} {bytes : ByteArray} {maxL : Nat} {ret : Option FieldType} {hh : List (Nat × Nat × Nat × Nat)}
    (hown : s.vm.findClass own = some m.cls) (hlink : (Cond.methodLink own index y).before args s = true) (hstat : (Cond.static y).before args s = true) (hinit : (Cond.initialized y.cls).before args s = true)
    (hcode : (Cond.codeWith y bytes maxL ret hh).before args s = true) (hy : y.cls ≠ "java/lang/invoke/MethodHandle" ∧ y.cls ≠ "java/lang/invoke/VarHandle")
    {W9 : Nat} {Pre : Pt → Array Value → Prop} {Post : Pt → Array Value → Option Value → Pt → Prop} {PostX : Pt → Array Value → Addr → Pt → Prop} (hK : vx_Back l R p e below s args y 3 W9 Pre Post PostX)
    {g : JFrame} (hg : g.method = m) (hsize : g.locals.size = c.maxLocals) {argsL rest : List Value} (hlen : ∀ sig, parseMethodDescriptor y.desc = some sig → argsL.length = sig.parameters.length)
    (hstack : g.stack = argsL.reverse ++ rest) (hW : 2 * g.monitorRoom + (rest.map fun v => v.category).sum ≤ W9) (hdg : decode c.code g.pc = .ok (.invokestatic index, 3))
    (hpre : ∀ vm₁, s.WarmedH vm₁ → Pre ⟨T.setVm vm₁, locs, cells, slots⟩ argsL.toArray) :
    (∃ (v : Option Value) (vm₁ : Vm) (B : Pt), s.WarmedH vm₁ ∧ Stand p l e R s m args below meth c B.U B.locs B.cells B.slots ∧ Post ⟨T.setVm vm₁, locs, cells, slots⟩ argsL.toArray v B ∧
      ∀ target, Steps p.tables e below (B.U.setTop { g with pc := g.pc + 3, stack := v.toList ++ rest }) target → Steps p.tables e below (T.setTop g) target) ∨
    (∃ (q : Addr) (vm₁ : Vm) (B : Pt), s.WarmedH vm₁ ∧ Stand p l e R s m args below meth c B.U B.locs B.cells B.slots ∧ PostX ⟨T.setVm vm₁, locs, cells, slots⟩ argsL.toArray q B ∧
      Steps p.tables e below (T.setTop g) ((B.U.setTop { g with stack := rest }).pushFrame (.throwing q))) := by
  obtain ⟨mk, methM, cM, hnamed, hmethM, -, -, -, -, -, -, hsigM⟩ := Cond.codeWith_spec hcode
  have hstatic : methM.isStatic = true := Cond.static_spec hnamed hmethM hstat
  obtain ⟨kP, hkP, -⟩ := className_of_methodNamed hnamed
  have hinitP : kP.init = .initialized := Cond.initialized_spec (findClass_of_methodNamed hnamed) hkP hinit
  obtain ⟨vm₁, X₁, hstep₁⟩ := X.invokestatic hexec hown hlink hnamed hmethM hstatic hkP hinitP hy (g := g) hg (argsL := argsL) (rest := rest) (hlen _ hsigM) hstack hdg
  rcases hK m meth c ⟨T.setVm vm₁, locs, cells, slots⟩ { g with stack := rest } (.invokestatic index) mk argsL.toArray X₁ hg hsize hdg hW (X₁.named hnamed) (hpre vm₁ X₁.warmed) with ⟨v, B, X', hpost, hsteps⟩ | ⟨q, B, X', hpost, hsteps⟩
  · exact Or.inl ⟨v, vm₁, B, X₁.warmed, X', hpost, fun target h => hstep₁ _ fun acts => by rw [doInvoke_state]; exact hsteps.trans h⟩
  · exact Or.inr ⟨q, vm₁, B, X₁.warmed, X', hpost, hstep₁ _ fun acts => by rw [doInvoke_state]; exact hsteps⟩
theorem vx_callVW (X : Stand p l e R s m args below meth c T locs cells slots) (hexec : p.tables.exec = Jvm.exec) {own C : String} {index : Nat} {y : MethodName} {bytes : ByteArray} {maxL : Nat} {ret : Option FieldType} {hh : List (Nat × Nat × Nat × Nat)}
    (hown : s.vm.findClass own = some m.cls) (hlink : (Cond.methodLink own index y).before args s = true) (hinst : (Cond.instanceMethod y).before args s = true) (hsel : (Cond.selects C y y).before args s = true)
    (hcode : (Cond.codeWith y bytes maxL ret hh).before args s = true) (hy : y.cls ≠ "java/lang/invoke/MethodHandle" ∧ y.cls ≠ "java/lang/invoke/VarHandle")
    {W9 : Nat} {Pre : Pt → Array Value → Prop} {Post : Pt → Array Value → Option Value → Pt → Prop} (hK : Back l R p e below s args y 3 W9 Pre Post)
    {b : Addr} {cellB : Cell} (hcell : T.heap[b]? = some cellB) (hobj : cellB.vm.isStatics = false) (hcls : s.vm.findClass C = some cellB.cls)
    {g : JFrame} (hg : g.method = m) (hsize : g.locals.size = c.maxLocals) {argsL rest : List Value} (hlen : ∀ sig, parseMethodDescriptor y.desc = some sig → argsL.length = sig.parameters.length)
    (hstack : g.stack = argsL.reverse ++ .ref b :: rest) (hW : 2 * g.monitorRoom + (rest.map fun v => v.category).sum ≤ W9) (hdg : decode c.code g.pc = .ok (.invokevirtual index, 3))
    (hpre : ∀ vm₁, s.WarmedH vm₁ → Pre ⟨T.setVm vm₁, locs, cells, slots⟩ (Value.ref b :: argsL).toArray) :
    ∃ (v : Option Value) (vm₁ : Vm) (B : Pt), s.WarmedH vm₁ ∧ Stand p l e R s m args below meth c B.U B.locs B.cells B.slots ∧ Post ⟨T.setVm vm₁, locs, cells, slots⟩ (Value.ref b :: argsL).toArray v B ∧
      ∀ target, Steps p.tables e below (B.U.setTop { g with pc := g.pc + 3, stack := v.toList ++ rest }) target → Steps p.tables e below (T.setTop g) target := by
  obtain ⟨mk, methM, hnamed, hmethM, hstM, habM⟩ := Cond.instanceMethod_spec hinst
  obtain ⟨m8, methM', cM, hn8, hmethM', -, -, -, -, -, -, hsigM⟩ := Cond.codeWith_spec hcode
  cases Option.some.inj (hn8.symm.trans hnamed)
  cases hmethM.symm.trans hmethM'
  obtain ⟨c2, r2, m2, q1, q2, q3, q4, kP, hkP, hkPi⟩ := Cond.selects_spec hsel
  cases hcls.symm.trans q1
  cases (State.methodFound?_of_named hnamed hy).symm.trans q2
  cases hnamed.symm.trans q3
  have hselP : selectMethod e.platform s.vm cellB.cls mk = .method mk := by rw [Launch.admits_selectMethod X.admits]; exact q4
  obtain ⟨vm₁, X₁, hstep₁⟩ := X.invokevirtual hexec hown hlink hnamed hmethM hstM hkP hkPi hy (a := b) (cell := cellB) hcell
    (fun z h => by rw [h] at hobj; cases hobj) hselP hmethM habM hkP hkPi (g := g) hg (argsL := argsL) (rest := rest) (hlen _ hsigM) hstack hdg
  obtain ⟨v, B, X', hpost, hsteps⟩ := hK m meth c ⟨T.setVm vm₁, locs, cells, slots⟩ { g with stack := rest } (.invokevirtual index) mk (Value.ref b :: argsL).toArray X₁ hg hsize hdg hW (X₁.named hnamed) (hpre vm₁ X₁.warmed)
  exact ⟨v, vm₁, B, X₁.warmed, X', hpost, fun target h => hstep₁ _ fun acts => by rw [doInvoke_state]; exact hsteps.trans h⟩
abbrev vx_CVW (R : Room) (s : State) (args : Array Value) (own C : String) (index : Nat) (y : MethodName) (bytes : ByteArray) (maxL : Nat) (ret : Option FieldType) (hh : List (Nat × Nat × Nat × Nat)) (ws : List Cond) (rm : Room) (mc ms n : Nat) : Prop :=
  (rm.cells = mc ∧ rm.slots = ms ∧ rm.frames + 1 ≤ R.frames ∧ 8 + (maxL + 11) + rm.locals ≤ R.locals ∧ (∀ w ∈ ws, ∀ (a' : Array Value) (U : State), s.WarmedH U.vm → w.before a' U = true) ∧ Cond.codeWith y bytes maxL ret hh ∈ ws) ∧
  (Cond.codeWith y bytes maxL ret hh).before args s = true ∧ (Cond.initialized y.cls).before args s = true ∧ (y.cls ≠ "java/lang/invoke/MethodHandle" ∧ y.cls ≠ "java/lang/invoke/VarHandle") ∧
  (∀ sig, parseMethodDescriptor y.desc = some sig → n = sig.parameters.length) ∧ (Cond.methodLink own index y).before args s = true ∧ (Cond.instanceMethod y).before args s = true ∧ (Cond.selects C y y).before args s = true
theorem vx_cwVW {own C : String} {index maxL mc ms : Nat} {y : MethodName} {bytes : ByteArray} {ret : Option FieldType} {hh : List (Nat × Nat × Nat × Nat)} {Ts ws ws' : List Cond} {rm : Room} (n : Nat) (ht : ∀ w ∈ Ts, w.before args s = true) (hT : GoodIn Ts (wsV own index C y ws)) (hw : ws = Cond.codeWith y bytes maxL ret hh :: ws') (hrc : rm.cells = mc) (hrs : rm.slots = ms)
    (hd : y.cls = C ∧ y.cls ≠ "java/lang/invoke/MethodHandle" ∧ y.cls ≠ "java/lang/invoke/VarHandle" ∧ (parseMethodDescriptor y.desc).map (fun d => d.parameters.length) = some n) (hR : rm.frames + 1 ≤ R.frames ∧ 8 + (maxL + 11) + rm.locals ≤ R.locals) :
    vx_CVW R s args own C index y bytes maxL ret hh ws rm mc ms n := by
  obtain ⟨hC, hd⟩ := hd
  subst hC
  have ok : ∀ w ∈ wsV own index y.cls y ws, w.before args s = true := fun w h => ht w (hT w h).1
  have hG : GoodIn Ts ws := fun w h => hT w (by unfold wsV; exact List.mem_append_right _ h)
  have hc : Cond.codeWith y bytes maxL ret hh ∈ ws := by rw [hw]; exact List.mem_cons_self
  refine ⟨⟨hrc, hrs, hR.1, hR.2, pay_in ht hG, hc⟩, ht _ (hG _ hc).1, ok _ (by simp [wsV]), ⟨hd.1, hd.2.1⟩, fun sig h => ?_, ok _ (by simp [wsV]), ok _ (by simp [wsV]), ok _ (by simp [wsV])⟩
  have h2 := hd.2.2
  rw [h] at h2
  exact (Option.some.inj h2).symm
theorem vx_runVW {y : MethodName} {bytes cc : ByteArray} {maxL nL mc ms n index : Nat} {ret : Option FieldType} {hh : List (Nat × Nat × Nat × Nat)} {ws : List Cond} {rm : Room} {Pc : Array Value → State → Prop} {Qc : Array Value → State → Outcome → State → Prop} {free : Addr → Prop} {Ts : List Cond} {own C : String} {b : Addr} {As rest : List Value} {g : JFrame}
    (S : CallFix p m c cc nL s args Ts own) (hM : Met l y ws rm Pc Qc mc ms free) (cw : vx_CVW R s args own C index y bytes maxL ret hh ws rm mc ms n) (hp : PreV s H C b Pc As)
    (hg : g.method = m) (hn : As.length = n) (hsize : g.locals.size = nL) (hstack : g.stack = As.reverse ++ .ref b :: rest) (hW : 2 * g.monitorRoom + (rest.map fun v => v.category).sum ≤ 8) (hdg : decode cc g.pc = .ok (.invokevirtual index, 3)) (hf : cells + mc ≤ R.cells ∧ slots + ms ≤ R.slots) :
    va_Run p l e R s m args below meth c H locs cells slots mc ms g rest (Qc (Value.ref b :: As).toArray) free := by
  obtain ⟨⟨hrc, hrs, hfr, hlo, hws, hcw⟩, hcode, hini, hy, hlen, hl, hin, hse⟩ := cw
  have hK : Back l R p e below s args y 3 8 (PreOf R mc ms Pc) (PostOf Qc mc ms free) := va_backW (hh := hh) (bytes := bytes) (maxL := maxL) (ret := ret) hM hp.1 hrc hrs hfr hlo hws hcw (fun a' U hW => word_at hW (Or.inl (by first | rfl | simp [Cond.onTables, Cond.keeps, Cond.steady])) hini)
  obtain ⟨hx, hb, hml, ho, -⟩ := S
  obtain ⟨-, ⟨cellB, hcB, hoB, hclB⟩, hPc⟩ := hp
  intro T hT X
  obtain ⟨v, vm₁, ⟨U', l2, c2, s2⟩, hW₁, X', ⟨g', mk, t, L, e1, e2, hq, h1, hL, h2, h3⟩, st⟩ := vx_callVW X hx (C := C) (hh := hh) (bytes := bytes) (maxL := maxL) (ret := ret) ho hl hin hse hcode hy hK (by rw [hT]; exact hcB) hoB hclB hg (hsize.trans hml.symm) (argsL := As) (rest := rest) (fun sig h => hn.trans (hlen sig h)) hstack hW (by rw [hb]; exact hdg)
    (fun vm₁ hW₁ => ⟨hf.1, hf.2, hPc (T.setVm vm₁) hT hW₁⟩)
  dsimp only [Pt.U, Pt.locs, Pt.cells, Pt.slots] at X' e1 e2 h1 h2 h3 st
  subst h1; subst h2; subst h3
  exact ⟨v, (T.setVm vm₁).calling g' mk (Value.ref b :: As).toArray, t, U', L, hT, X', hL, e1, e2, hq, st⟩
section
variable {y : MethodName} {bytes cc : ByteArray} {maxL nL mc ms n index : Nat} {ret : Option FieldType} {ws : List Cond} {rm : Room} {Pc : Array Value → State → Prop} {Qc : Array Value → State → Outcome → State → Prop} {XC : String → State → State → Prop} {free : Addr → Prop} {Ts : List Cond} {own C : String} {b : Addr} {As rest : List Value} {g : JFrame}
theorem vx_runVX {hh : List (Nat × Nat × Nat × Nat)} (S : CallFix p m c cc nL s args Ts own) (hM : vx_Met l y ws rm Pc Qc XC mc ms free) (cw : vx_CVW R s args own C index y bytes maxL ret hh ws rm mc ms n) (hp : PreV s H C b Pc As)
    (hg : g.method = m) (hn : As.length = n) (hsize : g.locals.size = nL) (hstack : g.stack = As.reverse ++ .ref b :: rest) (hW : 2 * g.monitorRoom + (rest.map fun v => v.category).sum ≤ 8) (hdg : decode cc g.pc = .ok (.invokevirtual index, 3)) (hf : cells + mc ≤ R.cells ∧ slots + ms ≤ R.slots) :
    vx_Run p l e R s m args below meth c H locs cells slots mc ms g rest (Qc (Value.ref b :: As).toArray) XC free := by
  obtain ⟨⟨hrc, hrs, hfr, hlo, hws, hcw⟩, hcode, hini, hy, hlen, hl, hin, hse⟩ := cw
  have hK : vx_Back l R p e below s args y 3 8 (PreOf R mc ms Pc) (PostOf Qc mc ms free) (vx_Post XC mc ms free) := vx_backW (hh := hh) (bytes := bytes) (maxL := maxL) (ret := ret) hM hp.1 hrc hrs hfr hlo hws hcw (fun a' U hW => word_at hW (Or.inl (by first | rfl | simp [Cond.onTables, Cond.keeps, Cond.steady])) hini)
  obtain ⟨hx, hb, hml, ho, -⟩ := S
  obtain ⟨-, ⟨cellB, hcB, hoB, hclB⟩, hPc⟩ := hp
  intro T hT X
  rcases vx_callVX X hx (C := C) (hh := hh) (bytes := bytes) (maxL := maxL) (ret := ret) ho hl hin hse hcode hy hK (by rw [hT]; exact hcB) hoB hclB hg (hsize.trans hml.symm) (argsL := As) (rest := rest) (fun sig h => hn.trans (hlen sig h)) hstack hW (by rw [hb]; exact hdg)
    (fun vm₁ hW₁ => ⟨hf.1, hf.2, hPc (T.setVm vm₁) hT hW₁⟩) with ⟨v, vm₁, ⟨U', l2, c2, s2⟩, hW₁, X', ⟨g', mk, t, L, e1, e2, hq, h1, hL, h2, h3⟩, st⟩ | ⟨q, vm₁, ⟨U', l2, c2, s2⟩, hW₁, X', ⟨g', mk, t, L, E, ce, e1, e2, hq, hce, hcv, hcl, h1, hL, h2, h3⟩, st⟩
  · dsimp only [Pt.U, Pt.locs, Pt.cells, Pt.slots] at X' e1 e2 h1 h2 h3 st
    subst h1; subst h2; subst h3
    exact Or.inl ⟨v, (T.setVm vm₁).calling g' mk (Value.ref b :: As).toArray, t, U', L, hT, X', hL, e1, e2, hq, st⟩
  · dsimp only [Pt.U, Pt.locs, Pt.cells, Pt.slots] at X' e1 e2 h1 h2 h3 st hcl
    subst h1; subst h2; subst h3
    exact Or.inr ⟨q, (T.setVm vm₁).calling g' mk (Value.ref b :: As).toArray, t, U', L, E, ce, hT, X', hL, e1, e2, hq, hce, hcv, vx_cls hW₁ hcl, st⟩
theorem vx_runSX {hh : List (Nat × Nat × Nat × Nat)} (S : CallFix p m c cc nL s args Ts own) (hM : vx_Met l y ws rm Pc Qc XC mc ms free) (cw : vx_CSW R s args own index y bytes maxL ret hh ws rm mc ms n) (hp : PreS s H Pc As)
    (hg : g.method = m) (hn : As.length = n) (hsize : g.locals.size = nL) (hstack : g.stack = As.reverse ++ rest) (hW : 2 * g.monitorRoom + (rest.map fun v => v.category).sum ≤ 8) (hdg : decode cc g.pc = .ok (.invokestatic index, 3)) (hf : cells + mc ≤ R.cells ∧ slots + ms ≤ R.slots) :
    vx_Run p l e R s m args below meth c H locs cells slots mc ms g rest (Qc As.toArray) XC free := by
  obtain ⟨⟨hrc, hrs, hfr, hlo, hws, hcw⟩, hcode, hini, hy, hlen, hl, hstt⟩ := cw
  have hK : vx_Back l R p e below s args y 3 8 (PreOf R mc ms Pc) (PostOf Qc mc ms free) (vx_Post XC mc ms free) := vx_backW (hh := hh) (bytes := bytes) (maxL := maxL) (ret := ret) hM hp.1 hrc hrs hfr hlo hws hcw (fun a' U hW => word_at hW (Or.inl (by first | rfl | simp [Cond.onTables, Cond.keeps, Cond.steady])) hini)
  obtain ⟨hx, hb, hml, ho, -⟩ := S
  intro T hT X
  rcases vx_callSX X hx (hh := hh) (bytes := bytes) (maxL := maxL) (ret := ret) ho hl hstt hini hcode hy hK hg (hsize.trans hml.symm) (argsL := As) (rest := rest) (fun sig h => hn.trans (hlen sig h)) hstack hW (by rw [hb]; exact hdg)
    (fun vm₁ hW₁ => ⟨hf.1, hf.2, hp.2 (T.setVm vm₁) hT hW₁⟩) with ⟨v, vm₁, ⟨U', l2, c2, s2⟩, hW₁, X', ⟨g', mk, t, L, e1, e2, hq, h1, hL, h2, h3⟩, st⟩ | ⟨q, vm₁, ⟨U', l2, c2, s2⟩, hW₁, X', ⟨g', mk, t, L, E, ce, e1, e2, hq, hce, hcv, hcl, h1, hL, h2, h3⟩, st⟩
  · dsimp only [Pt.U, Pt.locs, Pt.cells, Pt.slots] at X' e1 e2 h1 h2 h3 st
    subst h1; subst h2; subst h3
    exact Or.inl ⟨v, (T.setVm vm₁).calling g' mk As.toArray, t, U', L, hT, X', hL, e1, e2, hq, st⟩
  · dsimp only [Pt.U, Pt.locs, Pt.cells, Pt.slots] at X' e1 e2 h1 h2 h3 st hcl
    subst h1; subst h2; subst h3
    exact Or.inr ⟨q, (T.setVm vm₁).calling g' mk As.toArray, t, U', L, E, ce, hT, X', hL, e1, e2, hq, hce, hcv, vx_cls hW₁ hcl, st⟩
end
end VXH
theorem vx_ofWH {l : Launch} {y : MethodName} {ws ws' : List Cond} {rm : Room} {Pc : Array Value → State → Prop} {Qc : Array Value → State → Outcome → State → Prop} {XC : String → State → State → Prop} {mc ms : Nat} {free : Addr → Prop} {cc : ByteArray} {maxL : Nat} {ret : Option FieldType} {hh : List (Nat × Nat × Nat × Nat)}
    (hy : plainName y.cls = true) (hw : ws = Cond.codeWith y cc maxL ret hh :: ws')
    (body : ∀ p e s m args below meth c s₁, BodyLoose p l y (headSpec ws rm) cc maxL ret e s m args below meth c s₁ → c.maxLocals = maxL → Pc args s →
      W p l e (headSpec ws rm).room s m args below meth c s.heap [] 0 0 (vx_MQ below Qc XC args s mc ms free) (entryFrame m args maxL)) : vx_Met l y ws rm Pc Qc XC mc ms free := by
  refine MetFree.of_bodyS (code := cc) (maxLocals := maxL) (ret := ret) hy ?_ ?_
  · intro args s m h hn
    obtain ⟨m9, meth, c, hn9, h1, h2, h3, h4, -, h5, h6, -⟩ := Cond.codeWith_spec (atoms_spec (ws := ws) h _ (by rw [hw]; exact List.mem_cons_self))
    cases hn.symm.trans hn9
    exact ⟨meth, c, h1, h2, h3, h4, h5, h6⟩
  · intro p e s m args below meth c s₁ B hml hP _
    have hh0 : s₁.heap = s.heap := by rw [B.state]; rfl
    obtain ⟨t, a1, o, b1, b2, b3⟩ := body p e s m args below meth c s₁ B hml hP s₁ hh0 (Stand.of_body B)
    exact ⟨t, o, a1, b1, b2, b3⟩
/-! ===== END ===== -/
end
section
/-! ===== printed: names, fields, word lists ===== -/
def RX0 : String := "Tonguetell$Cutter"
def TX0 : u_T := fun k => match k with
  | 0 => ("Tonguetell$Cutter", "costs", "[[I", true)
  | 1 => ("Tonguetell$Cutter", "told", "[I", true)
  | 2 => ("Tonguetell$Cutter", "rest", "[[I", true)
  | 3 => ("Tonguetell$Cutter", "runCount", "I", false)
  | 4 => ("Tonguetell$Cutter", "choices", "I", false)
  | _ => ("Tonguetell$Cutter", "changePrice", "I", false)
def tyX0 : Nat → FieldType := fun k => match k with
  | 0 => .array (.array .int)
  | 1 => .array .int
  | 2 => .array (.array .int)
  | 3 => .int
  | 4 => .int
  | _ => .int
abbrev wsX00 : List Cond := u_ws RX0 TX0 6
theorem nmX0 : ∀ a, a < 6 → ∀ b, b < 6 → a ≠ b → (TX0 a).2.1 ≠ (TX0 b).2.1 := by decide +kernel
theorem tyX0_ok : ∀ k, k < 6 → parseFieldDescriptor (TX0 k).2.2.1 = some (tyX0 k) := by decide +kernel
abbrev cX0_init : ByteArray := prog_2_method_1_code
def yX0_init : MethodName := ⟨RX0, "<init>", "()V"⟩
abbrev cX0_begin : ByteArray := prog_2_method_2_code
def yX0_begin : MethodName := ⟨RX0, "begin", "(III)V"⟩
abbrev cX0_leastCost : ByteArray := prog_2_method_3_code
def yX0_leastCost : MethodName := ⟨RX0, "leastCost", "()I"⟩
abbrev cX0_leastCostByTrying : ByteArray := prog_2_method_4_code
def yX0_leastCostByTrying : MethodName := ⟨RX0, "leastCostByTrying", "()I"⟩
abbrev cX0_findToldCut : ByteArray := prog_2_method_5_code
def yX0_findToldCut : MethodName := ⟨RX0, "findToldCut", "()V"⟩
abbrev cX0_stretchCount : ByteArray := prog_2_method_6_code
def yX0_stretchCount : MethodName := ⟨RX0, "stretchCount", "()I"⟩
abbrev cX0_fillRest : ByteArray := prog_2_method_7_code
def yX0_fillRest : MethodName := ⟨RX0, "fillRest", "()V"⟩
abbrev cX0_leastBehind : ByteArray := prog_2_method_8_code
def yX0_leastBehind : MethodName := ⟨RX0, "leastBehind", "(II)I"⟩
abbrev cX0_cheapest : ByteArray := prog_2_method_9_code
def yX0_cheapest : MethodName := ⟨RX0, "cheapest", "(II)I"⟩
abbrev cX0_restAfter : ByteArray := prog_2_method_10_code
def yX0_restAfter : MethodName := ⟨RX0, "restAfter", "(III)I"⟩
abbrev cX0_priceOfChange : ByteArray := prog_2_method_11_code
def yX0_priceOfChange : MethodName := ⟨RX0, "priceOfChange", "(II)I"⟩
abbrev cX0_leastByTrying : ByteArray := prog_2_method_12_code
def yX0_leastByTrying : MethodName := ⟨RX0, "leastByTrying", "(LTonguetell$Cutter;II)I"⟩
def RX1 : String := "Tonguetell$Shelf"
def TX1 : u_T := fun k => match k with
  | 0 => ("Tonguetell$Shelf", "numberIn", "[I", true)
  | 1 => ("Tonguetell$Shelf", "tongueIn", "[I", true)
  | 2 => ("Tonguetell$Shelf", "lengthIn", "[I", true)
  | 3 => ("Tonguetell$Shelf", "runsIn", "[[I", true)
  | _ => ("Tonguetell$Shelf", "nextNumber", "I", false)
def tyX1 : Nat → FieldType := fun k => match k with
  | 0 => .array .int
  | 1 => .array .int
  | 2 => .array .int
  | 3 => .array (.array .int)
  | _ => .int
abbrev wsX10 : List Cond := u_ws RX1 TX1 5
theorem nmX1 : ∀ a, a < 5 → ∀ b, b < 5 → a ≠ b → (TX1 a).2.1 ≠ (TX1 b).2.1 := by decide +kernel
theorem tyX1_ok : ∀ k, k < 5 → parseFieldDescriptor (TX1 k).2.2.1 = some (tyX1 k) := by decide +kernel
abbrev cX1_init : ByteArray := prog_3_method_1_code
def yX1_init : MethodName := ⟨RX1, "<init>", "()V"⟩
abbrev cX1_isFull : ByteArray := prog_3_method_2_code
def yX1_isFull : MethodName := ⟨RX1, "isFull", "()Z"⟩
abbrev cX1_slotOf : ByteArray := prog_3_method_3_code
def yX1_slotOf : MethodName := ⟨RX1, "slotOf", "(I)I"⟩
abbrev cX1_take : ByteArray := prog_3_method_4_code
def yX1_take : MethodName := ⟨RX1, "take", "(II)I"⟩
abbrev cX1_free : ByteArray := prog_3_method_5_code
def yX1_free : MethodName := ⟨RX1, "free", "(I)V"⟩
abbrev cX1_firstSlotWith : ByteArray := prog_3_method_6_code
def yX1_firstSlotWith : MethodName := ⟨RX1, "firstSlotWith", "(I)I"⟩
def RX2 : String := "Tonguetell$Spelling"
def TX2 : u_T := fun k => match k with
  | 0 => ("Tonguetell$Spelling", "letters", "[I", true)
  | _ => ("Tonguetell$Spelling", "length", "I", false)
def tyX2 : Nat → FieldType := fun k => match k with
  | 0 => .array .int
  | _ => .int
abbrev wsX20 : List Cond := u_ws RX2 TX2 2
theorem nmX2 : ∀ a, a < 2 → ∀ b, b < 2 → a ≠ b → (TX2 a).2.1 ≠ (TX2 b).2.1 := by decide +kernel
theorem tyX2_ok : ∀ k, k < 2 → parseFieldDescriptor (TX2 k).2.2.1 = some (tyX2 k) := by decide +kernel
abbrev cX2_init : ByteArray := prog_4_method_1_code
def yX2_init : MethodName := ⟨RX2, "<init>", "()V"⟩
abbrev cX2_append : ByteArray := prog_4_method_2_code
def yX2_append : MethodName := ⟨RX2, "append", "(I)V"⟩
abbrev cX2_runCount : ByteArray := prog_4_method_3_code
def yX2_runCount : MethodName := ⟨RX2, "runCount", "()I"⟩
abbrev cX2_runNumber : ByteArray := prog_4_method_4_code
def yX2_runNumber : MethodName := ⟨RX2, "runNumber", "(I)I"⟩
abbrev cX2_letterOrGap : ByteArray := prog_4_method_5_code
def yX2_letterOrGap : MethodName := ⟨RX2, "letterOrGap", "(I)I"⟩
def RX3 : String := "Tonguetell$Tally"
def TX3 : u_T := fun k => match k with
  | 0 => ("Tonguetell$Tally", "counts", "[I", true)
  | _ => ("Tonguetell$Tally", "sum", "I", false)
def tyX3 : Nat → FieldType := fun k => match k with
  | 0 => .array .int
  | _ => .int
abbrev wsX30 : List Cond := u_ws RX3 TX3 2
theorem nmX3 : ∀ a, a < 2 → ∀ b, b < 2 → a ≠ b → (TX3 a).2.1 ≠ (TX3 b).2.1 := by decide +kernel
theorem tyX3_ok : ∀ k, k < 2 → parseFieldDescriptor (TX3 k).2.2.1 = some (tyX3 k) := by decide +kernel
abbrev cX3_init : ByteArray := prog_5_method_1_code
def yX3_init : MethodName := ⟨RX3, "<init>", "()V"⟩
abbrev cX3_clear : ByteArray := prog_5_method_2_code
def yX3_clear : MethodName := ⟨RX3, "clear", "()V"⟩
abbrev cX3_add : ByteArray := prog_5_method_3_code
def yX3_add : MethodName := ⟨RX3, "add", "(I)V"⟩
abbrev cX3_remove : ByteArray := prog_5_method_4_code
def yX3_remove : MethodName := ⟨RX3, "remove", "(I)V"⟩
abbrev cX3_costOf : ByteArray := prog_5_method_5_code
def yX3_costOf : MethodName := ⟨RX3, "costOf", "(I)I"⟩
abbrev cX3_rankOf : ByteArray := prog_5_method_6_code
def yX3_rankOf : MethodName := ⟨RX3, "rankOf", "(I)I"⟩
def RX4 : String := "Tonguetell"
def TX4 : u_T := fun k => match k with
  | 0 => ("Tonguetell", "spelled", "LTonguetell$Spelling;", true)
  | 1 => ("Tonguetell", "spelledTally", "LTonguetell$Tally;", true)
  | 2 => ("Tonguetell", "tallies", "[LTonguetell$Tally;", true)
  | 3 => ("Tonguetell", "shelf", "LTonguetell$Shelf;", true)
  | 4 => ("Tonguetell", "cutter", "LTonguetell$Cutter;", true)
  | 5 => ("Tonguetell", "tongueCount", "I", false)
  | 6 => ("Tonguetell", "margin", "I", false)
  | _ => ("Tonguetell", "price", "I", false)
def tyX4 : Nat → FieldType := fun k => match k with
  | 0 => .object "Tonguetell$Spelling"
  | 1 => .object "Tonguetell$Tally"
  | 2 => .array (.object "Tonguetell$Tally")
  | 3 => .object "Tonguetell$Shelf"
  | 4 => .object "Tonguetell$Cutter"
  | 5 => .int
  | 6 => .int
  | _ => .int
abbrev wsX40 : List Cond := u_ws RX4 TX4 8
theorem nmX4 : ∀ a, a < 8 → ∀ b, b < 8 → a ≠ b → (TX4 a).2.1 ≠ (TX4 b).2.1 := by decide +kernel
theorem tyX4_ok : ∀ k, k < 8 → parseFieldDescriptor (TX4 k).2.2.1 = some (tyX4 k) := by decide +kernel
abbrev cX4_init : ByteArray := prog_1_method_1_code
def yX4_init : MethodName := ⟨RX4, "<init>", "()V"⟩
abbrev cX4_spell : ByteArray := prog_1_method_2_code
def yX4_spell : MethodName := ⟨RX4, "spell", "(C)I"⟩
abbrev cX4_clearSpelled : ByteArray := prog_1_method_3_code
def yX4_clearSpelled : MethodName := ⟨RX4, "clearSpelled", "()I"⟩
abbrev cX4_runs : ByteArray := prog_1_method_4_code
def yX4_runs : MethodName := ⟨RX4, "runs", "()I"⟩
abbrev cX4_runAt : ByteArray := prog_1_method_5_code
def yX4_runAt : MethodName := ⟨RX4, "runAt", "(I)I"⟩
abbrev cX4_addTongue : ByteArray := prog_1_method_6_code
def yX4_addTongue : MethodName := ⟨RX4, "addTongue", "()I"⟩
abbrev cX4_tongues : ByteArray := prog_1_method_7_code
def yX4_tongues : MethodName := ⟨RX4, "tongues", "()I"⟩
abbrev cX4_teach : ByteArray := prog_1_method_8_code
def yX4_teach : MethodName := ⟨RX4, "teach", "(I)I"⟩
abbrev cX4_withdraw : ByteArray := prog_1_method_9_code
def yX4_withdraw : MethodName := ⟨RX4, "withdraw", "(I)I"⟩
abbrev cX4_tongueOf : ByteArray := prog_1_method_10_code
def yX4_tongueOf : MethodName := ⟨RX4, "tongueOf", "(I)I"⟩
abbrev cX4_total : ByteArray := prog_1_method_11_code
def yX4_total : MethodName := ⟨RX4, "total", "(I)I"⟩
abbrev cX4_count : ByteArray := prog_1_method_12_code
def yX4_count : MethodName := ⟨RX4, "count", "(II)I"⟩
abbrev cX4_cost : ByteArray := prog_1_method_13_code
def yX4_cost : MethodName := ⟨RX4, "cost", "(II)I"⟩
abbrev cX4_rank : ByteArray := prog_1_method_14_code
def yX4_rank : MethodName := ⟨RX4, "rank", "(II)I"⟩
abbrev cX4_textCost : ByteArray := prog_1_method_15_code
def yX4_textCost : MethodName := ⟨RX4, "textCost", "(I)I"⟩
abbrev cX4_distance : ByteArray := prog_1_method_16_code
def yX4_distance : MethodName := ⟨RX4, "distance", "(I)I"⟩
abbrev cX4_setMargin : ByteArray := prog_1_method_17_code
def yX4_setMargin : MethodName := ⟨RX4, "setMargin", "(I)I"⟩
abbrev cX4_tell : ByteArray := prog_1_method_18_code
def yX4_tell : MethodName := ⟨RX4, "tell", "()I"⟩
abbrev cX4_tellByRanks : ByteArray := prog_1_method_19_code
def yX4_tellByRanks : MethodName := ⟨RX4, "tellByRanks", "()I"⟩
abbrev cX4_setPrice : ByteArray := prog_1_method_20_code
def yX4_setPrice : MethodName := ⟨RX4, "setPrice", "(I)I"⟩
abbrev cX4_cutCost : ByteArray := prog_1_method_21_code
def yX4_cutCost : MethodName := ⟨RX4, "cutCost", "()I"⟩
abbrev cX4_cutCostByTrying : ByteArray := prog_1_method_22_code
def yX4_cutCostByTrying : MethodName := ⟨RX4, "cutCostByTrying", "()I"⟩
abbrev cX4_cutTongue : ByteArray := prog_1_method_23_code
def yX4_cutTongue : MethodName := ⟨RX4, "cutTongue", "(I)I"⟩
abbrev cX4_stretches : ByteArray := prog_1_method_24_code
def yX4_stretches : MethodName := ⟨RX4, "stretches", "()I"⟩
abbrev cX4_learn : ByteArray := prog_1_method_25_code
def yX4_learn : MethodName := ⟨RX4, "learn", "(I)I"⟩
abbrev cX4_letterNumber : ByteArray := prog_1_method_26_code
def yX4_letterNumber : MethodName := ⟨RX4, "letterNumber", "(C)I"⟩
abbrev cX4_requireRunPlace : ByteArray := prog_1_method_27_code
def yX4_requireRunPlace : MethodName := ⟨RX4, "requireRunPlace", "(I)V"⟩
abbrev cX4_requireTongue : ByteArray := prog_1_method_28_code
def yX4_requireTongue : MethodName := ⟨RX4, "requireTongue", "(I)V"⟩
abbrev cX4_requireSomeTongue : ByteArray := prog_1_method_29_code
def yX4_requireSomeTongue : MethodName := ⟨RX4, "requireSomeTongue", "()V"⟩
abbrev cX4_requireRunKind : ByteArray := prog_1_method_30_code
def yX4_requireRunKind : MethodName := ⟨RX4, "requireRunKind", "(I)V"⟩
abbrev cX4_slotOfTaught : ByteArray := prog_1_method_31_code
def yX4_slotOfTaught : MethodName := ⟨RX4, "slotOfTaught", "(I)I"⟩
abbrev cX4_newTongue : ByteArray := prog_1_method_32_code
def yX4_newTongue : MethodName := ⟨RX4, "newTongue", "()I"⟩
abbrev cX4_teachRuns : ByteArray := prog_1_method_33_code
def yX4_teachRuns : MethodName := ⟨RX4, "teachRuns", "(III)I"⟩
abbrev cX4_costOfSpelled : ByteArray := prog_1_method_34_code
def yX4_costOfSpelled : MethodName := ⟨RX4, "costOfSpelled", "(I)I"⟩
abbrev cX4_isSure : ByteArray := prog_1_method_35_code
def yX4_isSure : MethodName := ⟨RX4, "isSure", "(II)Z"⟩
abbrev cX4_tallySpelled : ByteArray := prog_1_method_36_code
def yX4_tallySpelled : MethodName := ⟨RX4, "tallySpelled", "()V"⟩
abbrev cX4_distanceOfSpelled : ByteArray := prog_1_method_37_code
def yX4_distanceOfSpelled : MethodName := ⟨RX4, "distanceOfSpelled", "(I)I"⟩
abbrev cX4_layCostsForCut : ByteArray := prog_1_method_38_code
def yX4_layCostsForCut : MethodName := ⟨RX4, "layCostsForCut", "()V"⟩
abbrev cX4_fitsNoTongue : ByteArray := prog_1_method_39_code
def yX4_fitsNoTongue : MethodName := ⟨RX4, "fitsNoTongue", "(II)Z"⟩
def RX5 : String := "TonguetellModel"
def TX5 : u_T := fun k => match k with
  | 0 => ("TonguetellModel", "thrown", "I", false)
  | 1 => ("TonguetellModel", "spelled", "[I", true)
  | 2 => ("TonguetellModel", "letters", "I", false)
  | 3 => ("TonguetellModel", "tongueMany", "I", false)
  | 4 => ("TonguetellModel", "margin", "I", false)
  | 5 => ("TonguetellModel", "price", "I", false)
  | 6 => ("TonguetellModel", "textMany", "I", false)
  | 7 => ("TonguetellModel", "taught", "I", false)
  | 8 => ("TonguetellModel", "numbers", "[I", true)
  | 9 => ("TonguetellModel", "whose", "[I", true)
  | 10 => ("TonguetellModel", "wide", "[I", true)
  | 11 => ("TonguetellModel", "kept", "[I", true)
  | _ => ("TonguetellModel", "rest", "[I", true)
def tyX5 : Nat → FieldType := fun k => match k with
  | 0 => .int
  | 1 => .array .int
  | 2 => .int
  | 3 => .int
  | 4 => .int
  | 5 => .int
  | 6 => .int
  | 7 => .int
  | 8 => .array .int
  | 9 => .array .int
  | 10 => .array .int
  | 11 => .array .int
  | _ => .array .int
abbrev wsX50 : List Cond := u_ws RX5 TX5 13
theorem nmX5 : ∀ a, a < 13 → ∀ b, b < 13 → a ≠ b → (TX5 a).2.1 ≠ (TX5 b).2.1 := by decide +kernel
theorem tyX5_ok : ∀ k, k < 13 → parseFieldDescriptor (TX5 k).2.2.1 = some (tyX5 k) := by decide +kernel
abbrev cX5_init : ByteArray := prog_7_method_1_code
def yX5_init : MethodName := ⟨RX5, "<init>", "()V"⟩
abbrev cX5_thrown : ByteArray := prog_7_method_2_code
def yX5_thrown : MethodName := ⟨RX5, "thrown", "()I"⟩
abbrev cX5_fails : ByteArray := prog_7_method_3_code
def yX5_fails : MethodName := ⟨RX5, "fails", "(I)I"⟩
abbrev cX5_in : ByteArray := prog_7_method_4_code
def yX5_in : MethodName := ⟨RX5, "in", "(III)Z"⟩
abbrev cX5_isTongue : ByteArray := prog_7_method_5_code
def yX5_isTongue : MethodName := ⟨RX5, "isTongue", "(I)Z"⟩
abbrev cX5_spell : ByteArray := prog_7_method_6_code
def yX5_spell : MethodName := ⟨RX5, "spell", "(C)I"⟩
abbrev cX5_clearSpelled : ByteArray := prog_7_method_7_code
def yX5_clearSpelled : MethodName := ⟨RX5, "clearSpelled", "()I"⟩
abbrev cX5_runMany : ByteArray := prog_7_method_8_code
def yX5_runMany : MethodName := ⟨RX5, "runMany", "()I"⟩
abbrev cX5_run : ByteArray := prog_7_method_9_code
def yX5_run : MethodName := ⟨RX5, "run", "(I)I"⟩
abbrev cX5_runs : ByteArray := prog_7_method_10_code
def yX5_runs : MethodName := ⟨RX5, "runs", "()I"⟩
abbrev cX5_runAt : ByteArray := prog_7_method_11_code
def yX5_runAt : MethodName := ⟨RX5, "runAt", "(I)I"⟩
abbrev cX5_addTongue : ByteArray := prog_7_method_12_code
def yX5_addTongue : MethodName := ⟨RX5, "addTongue", "()I"⟩
abbrev cX5_tongues : ByteArray := prog_7_method_13_code
def yX5_tongues : MethodName := ⟨RX5, "tongues", "()I"⟩
abbrev cX5_keeps : ByteArray := prog_7_method_14_code
def yX5_keeps : MethodName := ⟨RX5, "keeps", "(III)I"⟩
abbrev cX5_teach : ByteArray := prog_7_method_15_code
def yX5_teach : MethodName := ⟨RX5, "teach", "(I)I"⟩
abbrev cX5_slot : ByteArray := prog_7_method_16_code
def yX5_slot : MethodName := ⟨RX5, "slot", "(I)I"⟩
abbrev cX5_withdraw : ByteArray := prog_7_method_17_code
def yX5_withdraw : MethodName := ⟨RX5, "withdraw", "(I)I"⟩
abbrev cX5_tongueOf : ByteArray := prog_7_method_18_code
def yX5_tongueOf : MethodName := ⟨RX5, "tongueOf", "(I)I"⟩
abbrev cX5_totalOf : ByteArray := prog_7_method_19_code
def yX5_totalOf : MethodName := ⟨RX5, "totalOf", "(I)I"⟩
abbrev cX5_countOf : ByteArray := prog_7_method_20_code
def yX5_countOf : MethodName := ⟨RX5, "countOf", "(II)I"⟩
abbrev cX5_costOf : ByteArray := prog_7_method_21_code
def yX5_costOf : MethodName := ⟨RX5, "costOf", "(II)I"⟩
abbrev cX5_rankOf : ByteArray := prog_7_method_22_code
def yX5_rankOf : MethodName := ⟨RX5, "rankOf", "(II)I"⟩
abbrev cX5_total : ByteArray := prog_7_method_23_code
def yX5_total : MethodName := ⟨RX5, "total", "(I)I"⟩
abbrev cX5_isRun : ByteArray := prog_7_method_24_code
def yX5_isRun : MethodName := ⟨RX5, "isRun", "(II)Z"⟩
abbrev cX5_count : ByteArray := prog_7_method_25_code
def yX5_count : MethodName := ⟨RX5, "count", "(II)I"⟩
abbrev cX5_cost : ByteArray := prog_7_method_26_code
def yX5_cost : MethodName := ⟨RX5, "cost", "(II)I"⟩
abbrev cX5_rank : ByteArray := prog_7_method_27_code
def yX5_rank : MethodName := ⟨RX5, "rank", "(II)I"⟩
abbrev cX5_costOfText : ByteArray := prog_7_method_28_code
def yX5_costOfText : MethodName := ⟨RX5, "costOfText", "(I)I"⟩
abbrev cX5_inText : ByteArray := prog_7_method_29_code
def yX5_inText : MethodName := ⟨RX5, "inText", "(I)I"⟩
abbrev cX5_distanceOf : ByteArray := prog_7_method_30_code
def yX5_distanceOf : MethodName := ⟨RX5, "distanceOf", "(I)I"⟩
abbrev cX5_textCost : ByteArray := prog_7_method_31_code
def yX5_textCost : MethodName := ⟨RX5, "textCost", "(I)I"⟩
abbrev cX5_distance : ByteArray := prog_7_method_32_code
def yX5_distance : MethodName := ⟨RX5, "distance", "(I)I"⟩
abbrev cX5_setMargin : ByteArray := prog_7_method_33_code
def yX5_setMargin : MethodName := ⟨RX5, "setMargin", "(I)I"⟩
abbrev cX5_tell : ByteArray := prog_7_method_34_code
def yX5_tell : MethodName := ⟨RX5, "tell", "()I"⟩
abbrev cX5_tellByRanks : ByteArray := prog_7_method_35_code
def yX5_tellByRanks : MethodName := ⟨RX5, "tellByRanks", "()I"⟩
abbrev cX5_setPrice : ByteArray := prog_7_method_36_code
def yX5_setPrice : MethodName := ⟨RX5, "setPrice", "(I)I"⟩
abbrev cX5_behind : ByteArray := prog_7_method_37_code
def yX5_behind : MethodName := ⟨RX5, "behind", "(II)I"⟩
abbrev cX5_lays : ByteArray := prog_7_method_38_code
def yX5_lays : MethodName := ⟨RX5, "lays", "()V"⟩
abbrev cX5_chooses : ByteArray := prog_7_method_39_code
def yX5_chooses : MethodName := ⟨RX5, "chooses", "(II)I"⟩
abbrev cX5_leastCut : ByteArray := prog_7_method_40_code
def yX5_leastCut : MethodName := ⟨RX5, "leastCut", "()I"⟩
abbrev cX5_cutCost : ByteArray := prog_7_method_41_code
def yX5_cutCost : MethodName := ⟨RX5, "cutCost", "()I"⟩
abbrev cX5_cutCostByTrying : ByteArray := prog_7_method_42_code
def yX5_cutCostByTrying : MethodName := ⟨RX5, "cutCostByTrying", "()I"⟩
abbrev cX5_cutTongue : ByteArray := prog_7_method_43_code
def yX5_cutTongue : MethodName := ⟨RX5, "cutTongue", "(I)I"⟩
abbrev cX5_stretches : ByteArray := prog_7_method_44_code
def yX5_stretches : MethodName := ⟨RX5, "stretches", "()I"⟩
abbrev cX5_isStrange : ByteArray := prog_7_method_45_code
def yX5_isStrange : MethodName := ⟨RX5, "isStrange", "(II)Z"⟩
abbrev cX5_learn : ByteArray := prog_7_method_46_code
def yX5_learn : MethodName := ⟨RX5, "learn", "(I)I"⟩
def RJx145de : String := "java/io/Serializable"
def TJx145de : u_T := fun k => match k with
  | _ => ("", "", "", false)
def tyJx145de : Nat → FieldType := fun k => match k with
  | _ => .int
abbrev wsJx145de0 : List Cond := u_ws RJx145de TJx145de 0
theorem nmJx145de : ∀ a, a < 0 → ∀ b, b < 0 → a ≠ b → (TJx145de a).2.1 ≠ (TJx145de b).2.1 := by decide +kernel
theorem tyJx145de_ok : ∀ k, k < 0 → parseFieldDescriptor (TJx145de k).2.2.1 = some (tyJx145de k) := by decide +kernel
def RJ9 : String := "java/lang/Math"
def TJ9 : u_T := fun k => match k with
  | _ => ("", "", "", false)
def tyJ9 : Nat → FieldType := fun k => match k with
  | _ => .int
abbrev wsJ90 : List Cond := u_ws RJ9 TJ9 0
theorem nmJ9 : ∀ a, a < 0 → ∀ b, b < 0 → a ≠ b → (TJ9 a).2.1 ≠ (TJ9 b).2.1 := by decide +kernel
theorem tyJ9_ok : ∀ k, k < 0 → parseFieldDescriptor (TJ9 k).2.2.1 = some (tyJ9 k) := by decide +kernel
abbrev cJ9_abs_0f7a4 : ByteArray := prog_13_method_59_code
def yJ9_abs_0f7a4 : MethodName := ⟨RJ9, "abs", "(I)I"⟩
abbrev cJ9_min_7cf53 : ByteArray := prog_13_method_69_code
def yJ9_min_7cf53 : MethodName := ⟨RJ9, "min", "(II)I"⟩
def RJ0 : String := "java/lang/String"
def TJ0 : u_T := fun k => match k with
  | _ => ("", "", "", false)
def tyJ0 : Nat → FieldType := fun k => match k with
  | _ => .int
abbrev wsJ00 : List Cond := u_ws RJ0 TJ0 0
theorem nmJ0 : ∀ a, a < 0 → ∀ b, b < 0 → a ≠ b → (TJ0 a).2.1 ≠ (TJ0 b).2.1 := by decide +kernel
theorem tyJ0_ok : ∀ k, k < 0 → parseFieldDescriptor (TJ0 k).2.2.1 = some (tyJ0 k) := by decide +kernel
def RL : String := "TonguetellLaw"
abbrev cL_spell : ByteArray := method_3_code
def yL_spell : MethodName := ⟨RL, "spell", "(LTonguetell;C[J)I"⟩
abbrev cL_runAt : ByteArray := method_4_code
def yL_runAt : MethodName := ⟨RL, "runAt", "(LTonguetell;I[J)I"⟩
abbrev cL_addTongue : ByteArray := method_5_code
def yL_addTongue : MethodName := ⟨RL, "addTongue", "(LTonguetell;[J)I"⟩
abbrev cL_teach : ByteArray := method_6_code
def yL_teach : MethodName := ⟨RL, "teach", "(LTonguetell;I[J)I"⟩
abbrev cL_withdraw : ByteArray := method_7_code
def yL_withdraw : MethodName := ⟨RL, "withdraw", "(LTonguetell;I[J)I"⟩
abbrev cL_tongueOf : ByteArray := method_8_code
def yL_tongueOf : MethodName := ⟨RL, "tongueOf", "(LTonguetell;I[J)I"⟩
abbrev cL_total : ByteArray := method_9_code
def yL_total : MethodName := ⟨RL, "total", "(LTonguetell;I[J)I"⟩
abbrev cL_count : ByteArray := method_10_code
def yL_count : MethodName := ⟨RL, "count", "(LTonguetell;II[J)I"⟩
abbrev cL_cost : ByteArray := method_11_code
def yL_cost : MethodName := ⟨RL, "cost", "(LTonguetell;II[J)I"⟩
abbrev cL_rank : ByteArray := method_12_code
def yL_rank : MethodName := ⟨RL, "rank", "(LTonguetell;II[J)I"⟩
abbrev cL_textCost : ByteArray := method_13_code
def yL_textCost : MethodName := ⟨RL, "textCost", "(LTonguetell;I[J)I"⟩
abbrev cL_distance : ByteArray := method_14_code
def yL_distance : MethodName := ⟨RL, "distance", "(LTonguetell;I[J)I"⟩
abbrev cL_setMargin : ByteArray := method_15_code
def yL_setMargin : MethodName := ⟨RL, "setMargin", "(LTonguetell;I[J)I"⟩
abbrev cL_setPrice : ByteArray := method_16_code
def yL_setPrice : MethodName := ⟨RL, "setPrice", "(LTonguetell;I[J)I"⟩
abbrev cL_cutCost : ByteArray := method_17_code
def yL_cutCost : MethodName := ⟨RL, "cutCost", "(LTonguetell;[J)I"⟩
abbrev cL_cutCostByTrying : ByteArray := method_18_code
def yL_cutCostByTrying : MethodName := ⟨RL, "cutCostByTrying", "(LTonguetell;[J)I"⟩
abbrev cL_cutTongue : ByteArray := method_19_code
def yL_cutTongue : MethodName := ⟨RL, "cutTongue", "(LTonguetell;I[J)I"⟩
abbrev cL_stretches : ByteArray := method_20_code
def yL_stretches : MethodName := ⟨RL, "stretches", "(LTonguetell;[J)I"⟩
abbrev cL_learn : ByteArray := method_21_code
def yL_learn : MethodName := ⟨RL, "learn", "(LTonguetell;I[J)I"⟩
abbrev cL_law : ByteArray := code
def yL_law : MethodName := ⟨RL, "law", "([I)Z"⟩
def wsX0_init : List Cond := .code yX0_init cX0_init 1 none :: ([.methodLink RX0 3 objectInit, .instanceMethod objectInit, .code objectInit ⟨#[0xb1]⟩ 1 none, .classLink RX0 9 "[[I", .arrayClass .int, .fieldLink RX0 11 "Tonguetell$Cutter" "costs" "[[I", .fieldLink RX0 16 "Tonguetell$Cutter" "told" "[I", .fieldLink RX0 20 "Tonguetell$Cutter" "rest" "[[I", .fieldLink RX0 23 "Tonguetell$Cutter" "runCount" "I", .fieldLink RX0 27 "Tonguetell$Cutter" "choices" "I", .fieldLink RX0 30 "Tonguetell$Cutter" "changePrice" "I"] ++ wsX00)
def wsX0_begin : List Cond := .code yX0_begin cX0_begin 4 none :: ([.fieldLink RX0 23 "Tonguetell$Cutter" "runCount" "I", .fieldLink RX0 27 "Tonguetell$Cutter" "choices" "I", .fieldLink RX0 30 "Tonguetell$Cutter" "changePrice" "I"] ++ wsX00)
def wsX0_priceOfChange : List Cond := .code yX0_priceOfChange cX0_priceOfChange 3 (some .int) :: ([.fieldLink RX0 30 "Tonguetell$Cutter" "changePrice" "I"] ++ wsX00)
def wsX0_restAfter : List Cond := .code yX0_restAfter cX0_restAfter 4 (some .int) :: ([.fieldLink RX0 20 "Tonguetell$Cutter" "rest" "[[I", .methodLink RX0 51 yX0_priceOfChange, .instanceMethod yX0_priceOfChange, .selects RX0 yX0_priceOfChange yX0_priceOfChange, .initialized RX0, .code yX0_priceOfChange cX0_priceOfChange 3 (some .int), .fieldLink RX0 30 "Tonguetell$Cutter" "changePrice" "I"] ++ wsX00)
def wsX0_cheapest : List Cond := .code yX0_cheapest cX0_cheapest 5 (some .int) :: ([.fieldLink RX0 27 "Tonguetell$Cutter" "choices" "I", .methodLink RX0 47 yX0_restAfter, .instanceMethod yX0_restAfter, .selects RX0 yX0_restAfter yX0_restAfter, .initialized RX0, .code yX0_restAfter cX0_restAfter 4 (some .int), .fieldLink RX0 20 "Tonguetell$Cutter" "rest" "[[I", .methodLink RX0 51 yX0_priceOfChange, .instanceMethod yX0_priceOfChange, .selects RX0 yX0_priceOfChange yX0_priceOfChange, .code yX0_priceOfChange cX0_priceOfChange 3 (some .int), .fieldLink RX0 30 "Tonguetell$Cutter" "changePrice" "I"] ++ wsX00)
def wsX0_leastBehind : List Cond := .code yX0_leastBehind cX0_leastBehind 4 (some .int) :: ([.fieldLink RX0 23 "Tonguetell$Cutter" "runCount" "I", .methodLink RX0 36 yX0_cheapest, .instanceMethod yX0_cheapest, .selects RX0 yX0_cheapest yX0_cheapest, .initialized RX0, .code yX0_cheapest cX0_cheapest 5 (some .int), .fieldLink RX0 27 "Tonguetell$Cutter" "choices" "I", .methodLink RX0 47 yX0_restAfter, .instanceMethod yX0_restAfter, .selects RX0 yX0_restAfter yX0_restAfter, .code yX0_restAfter cX0_restAfter 4 (some .int), .fieldLink RX0 20 "Tonguetell$Cutter" "rest" "[[I", .methodLink RX0 51 yX0_priceOfChange, .instanceMethod yX0_priceOfChange, .selects RX0 yX0_priceOfChange yX0_priceOfChange, .code yX0_priceOfChange cX0_priceOfChange 3 (some .int), .fieldLink RX0 30 "Tonguetell$Cutter" "changePrice" "I"] ++ wsX00)
def wsX0_fillRest : List Cond := .code yX0_fillRest cX0_fillRest 3 none :: ([.fieldLink RX0 23 "Tonguetell$Cutter" "runCount" "I", .fieldLink RX0 27 "Tonguetell$Cutter" "choices" "I", .fieldLink RX0 20 "Tonguetell$Cutter" "rest" "[[I", .fieldLink RX0 11 "Tonguetell$Cutter" "costs" "[[I", .methodLink RX0 44 yX0_leastBehind, .instanceMethod yX0_leastBehind, .selects RX0 yX0_leastBehind yX0_leastBehind, .initialized RX0, .code yX0_leastBehind cX0_leastBehind 4 (some .int), .methodLink RX0 36 yX0_cheapest, .instanceMethod yX0_cheapest, .selects RX0 yX0_cheapest yX0_cheapest, .code yX0_cheapest cX0_cheapest 5 (some .int), .methodLink RX0 47 yX0_restAfter, .instanceMethod yX0_restAfter, .selects RX0 yX0_restAfter yX0_restAfter, .code yX0_restAfter cX0_restAfter 4 (some .int), .methodLink RX0 51 yX0_priceOfChange, .instanceMethod yX0_priceOfChange, .selects RX0 yX0_priceOfChange yX0_priceOfChange, .code yX0_priceOfChange cX0_priceOfChange 3 (some .int), .fieldLink RX0 30 "Tonguetell$Cutter" "changePrice" "I"] ++ wsX00)
def wsX0_leastCost_r1 : List Cond := [Cond.fieldLink RX0 23 "Tonguetell$Cutter" "runCount" "I", Cond.fieldLink RX0 20 "Tonguetell$Cutter" "rest" "[[I", Cond.methodLink RX0 33 yX0_fillRest, Cond.instanceMethod yX0_fillRest, Cond.selects RX0 yX0_fillRest yX0_fillRest, Cond.initialized RX0, Cond.code yX0_fillRest cX0_fillRest 3 none, Cond.fieldLink RX0 27 "Tonguetell$Cutter" "choices" "I", Cond.fieldLink RX0 11 "Tonguetell$Cutter" "costs" "[[I", Cond.methodLink RX0 44 yX0_leastBehind, Cond.instanceMethod yX0_leastBehind, Cond.selects RX0 yX0_leastBehind yX0_leastBehind, Cond.code yX0_leastBehind cX0_leastBehind 4 (some .int), Cond.methodLink RX0 36 yX0_cheapest, Cond.instanceMethod yX0_cheapest, Cond.selects RX0 yX0_cheapest yX0_cheapest, Cond.code yX0_cheapest cX0_cheapest 5 (some .int), Cond.methodLink RX0 47 yX0_restAfter, Cond.instanceMethod yX0_restAfter, Cond.selects RX0 yX0_restAfter yX0_restAfter, Cond.code yX0_restAfter cX0_restAfter 4 (some .int), Cond.methodLink RX0 51 yX0_priceOfChange, Cond.instanceMethod yX0_priceOfChange, Cond.selects RX0 yX0_priceOfChange yX0_priceOfChange]
def wsX0_leastCost_r2 : List Cond := [Cond.code yX0_priceOfChange cX0_priceOfChange 3 (some .int), Cond.fieldLink RX0 30 "Tonguetell$Cutter" "changePrice" "I"]
def wsX0_leastCost : List Cond := .code yX0_leastCost cX0_leastCost 1 (some .int) :: ((wsX0_leastCost_r1 ++ wsX0_leastCost_r2) ++ wsX00)
def wsX0_leastByTrying : List Cond := .code yX0_leastByTrying cX0_leastByTrying 6 (some .int) :: ([.fieldLink RX0 23 "Tonguetell$Cutter" "runCount" "I", .constant RX0 54 (1000000), .fieldLink RX0 27 "Tonguetell$Cutter" "choices" "I", .fieldLink RX0 11 "Tonguetell$Cutter" "costs" "[[I", .methodLink RX0 55 Lib.Math.min.name, .static Lib.Math.min.name, .initialized "java/lang/Math", .code Lib.Math.min.name Lib.Math.min.code 2 (some .int), .methodLink RX0 51 yX0_priceOfChange, .instanceMethod yX0_priceOfChange, .selects RX0 yX0_priceOfChange yX0_priceOfChange, .initialized RX0, .code yX0_priceOfChange cX0_priceOfChange 3 (some .int), .fieldLink RX0 30 "Tonguetell$Cutter" "changePrice" "I", .methodLink RX0 40 yX0_leastByTrying, .static yX0_leastByTrying] ++ wsX00)
def wsX0_leastCostByTrying : List Cond := .code yX0_leastCostByTrying cX0_leastCostByTrying 1 (some .int) :: ([.methodLink RX0 40 yX0_leastByTrying, .static yX0_leastByTrying, .initialized RX0, .code yX0_leastByTrying cX0_leastByTrying 6 (some .int), .fieldLink RX0 23 "Tonguetell$Cutter" "runCount" "I", .constant RX0 54 (1000000), .fieldLink RX0 27 "Tonguetell$Cutter" "choices" "I", .fieldLink RX0 11 "Tonguetell$Cutter" "costs" "[[I", .methodLink RX0 55 Lib.Math.min.name, .static Lib.Math.min.name, .initialized "java/lang/Math", .code Lib.Math.min.name Lib.Math.min.code 2 (some .int), .methodLink RX0 51 yX0_priceOfChange, .instanceMethod yX0_priceOfChange, .selects RX0 yX0_priceOfChange yX0_priceOfChange, .code yX0_priceOfChange cX0_priceOfChange 3 (some .int), .fieldLink RX0 30 "Tonguetell$Cutter" "changePrice" "I"] ++ wsX00)
def wsX0_findToldCut_r1 : List Cond := [Cond.fieldLink RX0 23 "Tonguetell$Cutter" "runCount" "I", Cond.fieldLink RX0 16 "Tonguetell$Cutter" "told" "[I", Cond.methodLink RX0 33 yX0_fillRest, Cond.instanceMethod yX0_fillRest, Cond.selects RX0 yX0_fillRest yX0_fillRest, Cond.initialized RX0, Cond.code yX0_fillRest cX0_fillRest 3 none, Cond.fieldLink RX0 27 "Tonguetell$Cutter" "choices" "I", Cond.fieldLink RX0 20 "Tonguetell$Cutter" "rest" "[[I", Cond.fieldLink RX0 11 "Tonguetell$Cutter" "costs" "[[I", Cond.methodLink RX0 44 yX0_leastBehind, Cond.instanceMethod yX0_leastBehind, Cond.selects RX0 yX0_leastBehind yX0_leastBehind, Cond.code yX0_leastBehind cX0_leastBehind 4 (some .int), Cond.methodLink RX0 36 yX0_cheapest, Cond.instanceMethod yX0_cheapest, Cond.selects RX0 yX0_cheapest yX0_cheapest, Cond.code yX0_cheapest cX0_cheapest 5 (some .int), Cond.methodLink RX0 47 yX0_restAfter, Cond.instanceMethod yX0_restAfter, Cond.selects RX0 yX0_restAfter yX0_restAfter, Cond.code yX0_restAfter cX0_restAfter 4 (some .int), Cond.methodLink RX0 51 yX0_priceOfChange, Cond.instanceMethod yX0_priceOfChange]
def wsX0_findToldCut_r2 : List Cond := [Cond.selects RX0 yX0_priceOfChange yX0_priceOfChange, Cond.code yX0_priceOfChange cX0_priceOfChange 3 (some .int), Cond.fieldLink RX0 30 "Tonguetell$Cutter" "changePrice" "I"]
def wsX0_findToldCut : List Cond := .code yX0_findToldCut cX0_findToldCut 3 none :: ((wsX0_findToldCut_r1 ++ wsX0_findToldCut_r2) ++ wsX00)
def wsX0_stretchCount : List Cond := .code yX0_stretchCount cX0_stretchCount 3 (some .int) :: ([.fieldLink RX0 23 "Tonguetell$Cutter" "runCount" "I", .fieldLink RX0 16 "Tonguetell$Cutter" "told" "[I"] ++ wsX00)
def wsX1_init : List Cond := .code yX1_init cX1_init 2 none :: ([.methodLink RX1 3 objectInit, .instanceMethod objectInit, .code objectInit ⟨#[0xb1]⟩ 1 none, .arrayClass .int, .fieldLink RX1 9 "Tonguetell$Shelf" "numberIn" "[I", .fieldLink RX1 15 "Tonguetell$Shelf" "tongueIn" "[I", .fieldLink RX1 18 "Tonguetell$Shelf" "lengthIn" "[I", .classLink RX1 21 "[[I", .fieldLink RX1 23 "Tonguetell$Shelf" "runsIn" "[[I", .fieldLink RX1 26 "Tonguetell$Shelf" "nextNumber" "I"] ++ wsX10)
def wsX1_firstSlotWith : List Cond := .code yX1_firstSlotWith cX1_firstSlotWith 3 (some .int) :: ([.fieldLink RX1 9 "Tonguetell$Shelf" "numberIn" "[I"] ++ wsX10)
def wsX1_isFull : List Cond := .code yX1_isFull cX1_isFull 1 (some .boolean) :: ([.methodLink RX1 30 yX1_firstSlotWith, .instanceMethod yX1_firstSlotWith, .selects RX1 yX1_firstSlotWith yX1_firstSlotWith, .initialized RX1, .code yX1_firstSlotWith cX1_firstSlotWith 3 (some .int), .fieldLink RX1 9 "Tonguetell$Shelf" "numberIn" "[I"] ++ wsX10)
def wsX1_slotOf : List Cond := .code yX1_slotOf cX1_slotOf 2 (some .int) :: ([.methodLink RX1 30 yX1_firstSlotWith, .instanceMethod yX1_firstSlotWith, .selects RX1 yX1_firstSlotWith yX1_firstSlotWith, .initialized RX1, .code yX1_firstSlotWith cX1_firstSlotWith 3 (some .int), .fieldLink RX1 9 "Tonguetell$Shelf" "numberIn" "[I"] ++ wsX10)
def wsX1_take : List Cond := .code yX1_take cX1_take 4 (some .int) :: ([.fieldLink RX1 9 "Tonguetell$Shelf" "numberIn" "[I", .fieldLink RX1 26 "Tonguetell$Shelf" "nextNumber" "I", .fieldLink RX1 15 "Tonguetell$Shelf" "tongueIn" "[I", .fieldLink RX1 18 "Tonguetell$Shelf" "lengthIn" "[I", .methodLink RX1 30 yX1_firstSlotWith, .instanceMethod yX1_firstSlotWith, .selects RX1 yX1_firstSlotWith yX1_firstSlotWith, .initialized RX1, .code yX1_firstSlotWith cX1_firstSlotWith 3 (some .int)] ++ wsX10)
def wsX1_free : List Cond := .code yX1_free cX1_free 2 none :: ([.fieldLink RX1 9 "Tonguetell$Shelf" "numberIn" "[I"] ++ wsX10)
def wsX2_init : List Cond := .code yX2_init cX2_init 1 none :: ([.methodLink RX2 3 objectInit, .instanceMethod objectInit, .code objectInit ⟨#[0xb1]⟩ 1 none, .arrayClass .int, .fieldLink RX2 9 "Tonguetell$Spelling" "letters" "[I", .fieldLink RX2 15 "Tonguetell$Spelling" "length" "I"] ++ wsX20)
def wsX2_append : List Cond := .code yX2_append cX2_append 2 none :: ([.fieldLink RX2 9 "Tonguetell$Spelling" "letters" "[I", .fieldLink RX2 15 "Tonguetell$Spelling" "length" "I"] ++ wsX20)
def wsX2_runCount : List Cond := .code yX2_runCount cX2_runCount 1 (some .int) :: ([.fieldLink RX2 15 "Tonguetell$Spelling" "length" "I"] ++ wsX20)
def wsX2_letterOrGap : List Cond := .code yX2_letterOrGap cX2_letterOrGap 2 (some .int) :: ([.fieldLink RX2 15 "Tonguetell$Spelling" "length" "I", .fieldLink RX2 9 "Tonguetell$Spelling" "letters" "[I"] ++ wsX20)
def wsX2_runNumber : List Cond := .code yX2_runNumber cX2_runNumber 2 (some .int) :: ([.methodLink RX2 19 yX2_letterOrGap, .instanceMethod yX2_letterOrGap, .selects RX2 yX2_letterOrGap yX2_letterOrGap, .initialized RX2, .code yX2_letterOrGap cX2_letterOrGap 2 (some .int), .fieldLink RX2 15 "Tonguetell$Spelling" "length" "I", .fieldLink RX2 9 "Tonguetell$Spelling" "letters" "[I"] ++ wsX20)
def wsX3_init : List Cond := .code yX3_init cX3_init 1 none :: ([.methodLink RX3 3 objectInit, .instanceMethod objectInit, .code objectInit ⟨#[0xb1]⟩ 1 none, .arrayClass .int, .fieldLink RX3 9 "Tonguetell$Tally" "counts" "[I", .fieldLink RX3 15 "Tonguetell$Tally" "sum" "I"] ++ wsX30)
def wsX3_clear : List Cond := .code yX3_clear cX3_clear 2 none :: ([.fieldLink RX3 9 "Tonguetell$Tally" "counts" "[I", .fieldLink RX3 15 "Tonguetell$Tally" "sum" "I"] ++ wsX30)
def wsX3_add : List Cond := .code yX3_add cX3_add 2 none :: ([.fieldLink RX3 9 "Tonguetell$Tally" "counts" "[I", .fieldLink RX3 15 "Tonguetell$Tally" "sum" "I"] ++ wsX30)
def wsX3_remove : List Cond := .code yX3_remove cX3_remove 2 none :: ([.fieldLink RX3 9 "Tonguetell$Tally" "counts" "[I", .fieldLink RX3 15 "Tonguetell$Tally" "sum" "I"] ++ wsX30)
def wsX3_costOf : List Cond := .code yX3_costOf cX3_costOf 5 (some .int) :: ([.fieldLink RX3 15 "Tonguetell$Tally" "sum" "I", .fieldLink RX3 9 "Tonguetell$Tally" "counts" "[I"] ++ wsX30)
def wsX3_rankOf : List Cond := .code yX3_rankOf cX3_rankOf 4 (some .int) :: ([.fieldLink RX3 9 "Tonguetell$Tally" "counts" "[I"] ++ wsX30)
def wsX4_init_r1 : List Cond := [Cond.methodLink RX4 1 objectInit, Cond.instanceMethod objectInit, Cond.code objectInit ⟨#[0xb1]⟩ 1 none, Cond.classLink RX4 7 RX2, Cond.instantiable RX2 2, Cond.initialized RX2, Cond.fieldLink RX4 10 "Tonguetell" "spelled" "LTonguetell$Spelling;", Cond.classLink RX4 16 RX3, Cond.instantiable RX3 2, Cond.initialized RX3, Cond.fieldLink RX4 19 "Tonguetell" "spelledTally" "LTonguetell$Tally;", Cond.fieldLink RX4 23 "Tonguetell" "tallies" "[LTonguetell$Tally;", Cond.classLink RX4 27 RX1, Cond.instantiable RX1 5, Cond.initialized RX1, Cond.fieldLink RX4 30 "Tonguetell" "shelf" "LTonguetell$Shelf;", Cond.classLink RX4 34 RX0, Cond.instantiable RX0 6, Cond.initialized RX0, Cond.fieldLink RX4 37 "Tonguetell" "cutter" "LTonguetell$Cutter;", Cond.fieldLink RX4 41 "Tonguetell" "tongueCount" "I", Cond.fieldLink RX4 45 "Tonguetell" "margin" "I", Cond.fieldLink RX4 48 "Tonguetell" "price" "I", Cond.instanceMethod yX2_init]
def wsX4_init_r2 : List Cond := [Cond.code yX2_init cX2_init 1 none, Cond.methodLink RX2 3 objectInit, Cond.arrayClass .int, Cond.fieldLink RX2 9 "Tonguetell$Spelling" "letters" "[I", Cond.fieldLink RX2 15 "Tonguetell$Spelling" "length" "I", Cond.instanceMethod yX3_init, Cond.code yX3_init cX3_init 1 none, Cond.methodLink RX3 3 objectInit, Cond.fieldLink RX3 9 "Tonguetell$Tally" "counts" "[I", Cond.fieldLink RX3 15 "Tonguetell$Tally" "sum" "I", Cond.methodLink RX4 29 yX1_init, Cond.instanceMethod yX1_init, Cond.code yX1_init cX1_init 2 none, Cond.methodLink RX1 3 objectInit, Cond.fieldLink RX1 9 "Tonguetell$Shelf" "numberIn" "[I", Cond.fieldLink RX1 15 "Tonguetell$Shelf" "tongueIn" "[I", Cond.fieldLink RX1 18 "Tonguetell$Shelf" "lengthIn" "[I", Cond.classLink RX1 21 "[[I", Cond.fieldLink RX1 23 "Tonguetell$Shelf" "runsIn" "[[I", Cond.fieldLink RX1 26 "Tonguetell$Shelf" "nextNumber" "I", Cond.instanceMethod yX0_init, Cond.code yX0_init cX0_init 1 none, Cond.methodLink RX0 3 objectInit, Cond.classLink RX0 9 "[[I"]
def wsX4_init_r3 : List Cond := [Cond.fieldLink RX0 11 "Tonguetell$Cutter" "costs" "[[I", Cond.fieldLink RX0 16 "Tonguetell$Cutter" "told" "[I", Cond.fieldLink RX0 20 "Tonguetell$Cutter" "rest" "[[I", Cond.fieldLink RX0 23 "Tonguetell$Cutter" "runCount" "I", Cond.fieldLink RX0 27 "Tonguetell$Cutter" "choices" "I", Cond.fieldLink RX0 30 "Tonguetell$Cutter" "changePrice" "I"]
def wsX4_init : List Cond := .code yX4_init cX4_init 2 none :: ((wsX4_init_r1 ++ (wsX4_init_r2 ++ wsX4_init_r3)) ++ wsX20 ++ wsX40 ++ wsX30 ++ wsX10 ++ wsX00)
def wsX4_letterNumber : List Cond := .code yX4_letterNumber cX4_letterNumber 1 (some .int) :: ([])
def wsX4_spell : List Cond := .code yX4_spell cX4_spell 3 (some .int) :: ([.classLink RX4 55 "java/lang/IllegalArgumentException", .initialized "java/lang/IllegalArgumentException", .classLink RX4 65 "java/lang/IllegalStateException", .initialized "java/lang/IllegalStateException", .fieldLink RX4 10 "Tonguetell" "spelled" "LTonguetell$Spelling;", .fieldLink RX4 62 "Tonguetell$Spelling" "length" "I", .methodLink RX4 51 yX4_letterNumber, .static yX4_letterNumber, .initialized RX4, .code yX4_letterNumber cX4_letterNumber 1 (some .int), .methodLink RX4 70 yX2_append, .instanceMethod yX2_append, .selects RX2 yX2_append yX2_append, .initialized RX2, .code yX2_append cX2_append 2 none, .fieldLink RX2 9 "Tonguetell$Spelling" "letters" "[I", .fieldLink RX2 15 "Tonguetell$Spelling" "length" "I"] ++ wsX40 ++ wsX20 ++ (vx_atS RX4 59 "java/lang/IllegalArgumentException" ["java/lang/RuntimeException", "java/lang/Exception"]).filter goodWord ++ (vx_atS RX4 69 "java/lang/IllegalStateException" ["java/lang/RuntimeException", "java/lang/Exception"]).filter goodWord)
def wsX4_clearSpelled : List Cond := .code yX4_clearSpelled cX4_clearSpelled 2 (some .int) :: ([.fieldLink RX4 10 "Tonguetell" "spelled" "LTonguetell$Spelling;", .fieldLink RX4 62 "Tonguetell$Spelling" "length" "I"] ++ wsX40 ++ wsX20)
def wsX4_runs : List Cond := .code yX4_runs cX4_runs 1 (some .int) :: ([.fieldLink RX4 10 "Tonguetell" "spelled" "LTonguetell$Spelling;", .methodLink RX4 74 yX2_runCount, .instanceMethod yX2_runCount, .selects RX2 yX2_runCount yX2_runCount, .initialized RX2, .code yX2_runCount cX2_runCount 1 (some .int), .fieldLink RX2 15 "Tonguetell$Spelling" "length" "I"] ++ wsX40 ++ wsX20)
def wsX4_requireRunPlace : List Cond := .code yX4_requireRunPlace cX4_requireRunPlace 2 none :: ([.classLink RX4 185 "java/lang/IndexOutOfBoundsException", .initialized "java/lang/IndexOutOfBoundsException", .fieldLink RX4 10 "Tonguetell" "spelled" "LTonguetell$Spelling;", .methodLink RX4 74 yX2_runCount, .instanceMethod yX2_runCount, .selects RX2 yX2_runCount yX2_runCount, .initialized RX2, .code yX2_runCount cX2_runCount 1 (some .int), .fieldLink RX2 15 "Tonguetell$Spelling" "length" "I"] ++ wsX40 ++ wsX20 ++ (vx_atS RX4 189 "java/lang/IndexOutOfBoundsException" ["java/lang/RuntimeException", "java/lang/Exception"]).filter goodWord)
def wsX4_runAt : List Cond := .code yX4_runAt cX4_runAt 2 (some .int) :: ([.fieldLink RX4 10 "Tonguetell" "spelled" "LTonguetell$Spelling;", .methodLink RX4 78 yX4_requireRunPlace, .instanceMethod yX4_requireRunPlace, .selects RX4 yX4_requireRunPlace yX4_requireRunPlace, .initialized RX4, .code yX4_requireRunPlace cX4_requireRunPlace 2 none, .classLink RX4 185 "java/lang/IndexOutOfBoundsException", .initialized "java/lang/IndexOutOfBoundsException", .methodLink RX4 74 yX2_runCount, .instanceMethod yX2_runCount, .selects RX2 yX2_runCount yX2_runCount, .initialized RX2, .code yX2_runCount cX2_runCount 1 (some .int), .fieldLink RX2 15 "Tonguetell$Spelling" "length" "I", .methodLink RX4 81 yX2_runNumber, .instanceMethod yX2_runNumber, .selects RX2 yX2_runNumber yX2_runNumber, .code yX2_runNumber cX2_runNumber 2 (some .int), .methodLink RX2 19 yX2_letterOrGap, .instanceMethod yX2_letterOrGap, .selects RX2 yX2_letterOrGap yX2_letterOrGap, .code yX2_letterOrGap cX2_letterOrGap 2 (some .int), .fieldLink RX2 9 "Tonguetell$Spelling" "letters" "[I"] ++ wsX40 ++ wsX20 ++ (vx_atS RX4 189 "java/lang/IndexOutOfBoundsException" ["java/lang/RuntimeException", "java/lang/Exception"]).filter goodWord)
def wsX4_newTongue : List Cond := .code yX4_newTongue cX4_newTongue 2 (some .int) :: ([.fieldLink RX4 41 "Tonguetell" "tongueCount" "I"] ++ wsX40)
def wsX4_addTongue : List Cond := .code yX4_addTongue cX4_addTongue 1 (some .int) :: ([.classLink RX4 65 "java/lang/IllegalStateException", .initialized "java/lang/IllegalStateException", .fieldLink RX4 41 "Tonguetell" "tongueCount" "I", .methodLink RX4 87 yX4_newTongue, .instanceMethod yX4_newTongue, .selects RX4 yX4_newTongue yX4_newTongue, .initialized RX4, .code yX4_newTongue cX4_newTongue 2 (some .int)] ++ wsX40 ++ (vx_atS RX4 69 "java/lang/IllegalStateException" ["java/lang/RuntimeException", "java/lang/Exception"]).filter goodWord)
def wsX4_tongues : List Cond := .code yX4_tongues cX4_tongues 1 (some .int) :: ([.fieldLink RX4 41 "Tonguetell" "tongueCount" "I"] ++ wsX40)
def wsX4_requireTongue : List Cond := .code yX4_requireTongue cX4_requireTongue 2 none :: ([.classLink RX4 185 "java/lang/IndexOutOfBoundsException", .initialized "java/lang/IndexOutOfBoundsException", .fieldLink RX4 41 "Tonguetell" "tongueCount" "I"] ++ wsX40 ++ (vx_atS RX4 189 "java/lang/IndexOutOfBoundsException" ["java/lang/RuntimeException", "java/lang/Exception"]).filter goodWord)
def wsX4_teachRuns_r1 : List Cond := [Cond.fieldLink RX4 30 "Tonguetell" "shelf" "LTonguetell$Shelf;", Cond.fieldLink RX4 10 "Tonguetell" "spelled" "LTonguetell$Spelling;", Cond.fieldLink RX4 115 "Tonguetell$Shelf" "runsIn" "[[I", Cond.fieldLink RX4 23 "Tonguetell" "tallies" "[LTonguetell$Tally;", Cond.fieldLink RX4 211 "Tonguetell$Shelf" "numberIn" "[I", Cond.methodLink RX4 204 yX1_take, Cond.instanceMethod yX1_take, Cond.selects RX1 yX1_take yX1_take, Cond.initialized RX1, Cond.code yX1_take cX1_take 4 (some .int), Cond.fieldLink RX1 9 "Tonguetell$Shelf" "numberIn" "[I", Cond.fieldLink RX1 26 "Tonguetell$Shelf" "nextNumber" "I", Cond.fieldLink RX1 15 "Tonguetell$Shelf" "tongueIn" "[I", Cond.fieldLink RX1 18 "Tonguetell$Shelf" "lengthIn" "[I", Cond.methodLink RX1 30 yX1_firstSlotWith, Cond.instanceMethod yX1_firstSlotWith, Cond.selects RX1 yX1_firstSlotWith yX1_firstSlotWith, Cond.code yX1_firstSlotWith cX1_firstSlotWith 3 (some .int), Cond.methodLink RX4 81 yX2_runNumber, Cond.instanceMethod yX2_runNumber, Cond.selects RX2 yX2_runNumber yX2_runNumber, Cond.initialized RX2, Cond.code yX2_runNumber cX2_runNumber 2 (some .int), Cond.methodLink RX2 19 yX2_letterOrGap]
def wsX4_teachRuns_r2 : List Cond := [Cond.instanceMethod yX2_letterOrGap, Cond.selects RX2 yX2_letterOrGap yX2_letterOrGap, Cond.code yX2_letterOrGap cX2_letterOrGap 2 (some .int), Cond.fieldLink RX2 15 "Tonguetell$Spelling" "length" "I", Cond.fieldLink RX2 9 "Tonguetell$Spelling" "letters" "[I", Cond.methodLink RX4 208 yX3_add, Cond.instanceMethod yX3_add, Cond.selects RX3 yX3_add yX3_add, Cond.initialized RX3, Cond.code yX3_add cX3_add 2 none, Cond.fieldLink RX3 9 "Tonguetell$Tally" "counts" "[I", Cond.fieldLink RX3 15 "Tonguetell$Tally" "sum" "I"]
def wsX4_teachRuns : List Cond := .code yX4_teachRuns cX4_teachRuns 7 (some .int) :: ((wsX4_teachRuns_r1 ++ wsX4_teachRuns_r2) ++ wsX40 ++ wsX10 ++ wsX20 ++ wsX30)
def wsX4_teach_r1 : List Cond := [Cond.classLink RX4 65 "java/lang/IllegalStateException", Cond.initialized "java/lang/IllegalStateException", Cond.fieldLink RX4 10 "Tonguetell" "spelled" "LTonguetell$Spelling;", Cond.fieldLink RX4 62 "Tonguetell$Spelling" "length" "I", Cond.fieldLink RX4 30 "Tonguetell" "shelf" "LTonguetell$Shelf;", Cond.methodLink RX4 90 yX4_requireTongue, Cond.instanceMethod yX4_requireTongue, Cond.selects RX4 yX4_requireTongue yX4_requireTongue, Cond.initialized RX4, Cond.code yX4_requireTongue cX4_requireTongue 2 none, Cond.classLink RX4 185 "java/lang/IndexOutOfBoundsException", Cond.initialized "java/lang/IndexOutOfBoundsException", Cond.fieldLink RX4 41 "Tonguetell" "tongueCount" "I", Cond.methodLink RX4 95 yX1_isFull, Cond.instanceMethod yX1_isFull, Cond.selects RX1 yX1_isFull yX1_isFull, Cond.initialized RX1, Cond.code yX1_isFull cX1_isFull 1 (some .boolean), Cond.methodLink RX1 30 yX1_firstSlotWith, Cond.instanceMethod yX1_firstSlotWith, Cond.selects RX1 yX1_firstSlotWith yX1_firstSlotWith, Cond.code yX1_firstSlotWith cX1_firstSlotWith 3 (some .int), Cond.fieldLink RX1 9 "Tonguetell$Shelf" "numberIn" "[I", Cond.methodLink RX4 74 yX2_runCount]
def wsX4_teach_r2 : List Cond := [Cond.instanceMethod yX2_runCount, Cond.selects RX2 yX2_runCount yX2_runCount, Cond.initialized RX2, Cond.code yX2_runCount cX2_runCount 1 (some .int), Cond.fieldLink RX2 15 "Tonguetell$Spelling" "length" "I", Cond.methodLink RX4 101 yX4_teachRuns, Cond.instanceMethod yX4_teachRuns, Cond.selects RX4 yX4_teachRuns yX4_teachRuns, Cond.code yX4_teachRuns cX4_teachRuns 7 (some .int), Cond.fieldLink RX4 115 "Tonguetell$Shelf" "runsIn" "[[I", Cond.fieldLink RX4 23 "Tonguetell" "tallies" "[LTonguetell$Tally;", Cond.fieldLink RX4 211 "Tonguetell$Shelf" "numberIn" "[I", Cond.methodLink RX4 204 yX1_take, Cond.instanceMethod yX1_take, Cond.selects RX1 yX1_take yX1_take, Cond.code yX1_take cX1_take 4 (some .int), Cond.fieldLink RX1 26 "Tonguetell$Shelf" "nextNumber" "I", Cond.fieldLink RX1 15 "Tonguetell$Shelf" "tongueIn" "[I", Cond.fieldLink RX1 18 "Tonguetell$Shelf" "lengthIn" "[I", Cond.methodLink RX4 81 yX2_runNumber, Cond.instanceMethod yX2_runNumber, Cond.selects RX2 yX2_runNumber yX2_runNumber, Cond.code yX2_runNumber cX2_runNumber 2 (some .int), Cond.methodLink RX2 19 yX2_letterOrGap]
def wsX4_teach_r3 : List Cond := [Cond.instanceMethod yX2_letterOrGap, Cond.selects RX2 yX2_letterOrGap yX2_letterOrGap, Cond.code yX2_letterOrGap cX2_letterOrGap 2 (some .int), Cond.fieldLink RX2 9 "Tonguetell$Spelling" "letters" "[I", Cond.methodLink RX4 208 yX3_add, Cond.instanceMethod yX3_add, Cond.selects RX3 yX3_add yX3_add, Cond.initialized RX3, Cond.code yX3_add cX3_add 2 none, Cond.fieldLink RX3 9 "Tonguetell$Tally" "counts" "[I", Cond.fieldLink RX3 15 "Tonguetell$Tally" "sum" "I"]
def wsX4_teach : List Cond := .code yX4_teach cX4_teach 2 (some .int) :: ((wsX4_teach_r1 ++ (wsX4_teach_r2 ++ wsX4_teach_r3)) ++ wsX40 ++ wsX20 ++ wsX10 ++ wsX30 ++ (vx_atS RX4 69 "java/lang/IllegalStateException" ["java/lang/RuntimeException", "java/lang/Exception"]).filter goodWord ++ (vx_atS RX4 189 "java/lang/IndexOutOfBoundsException" ["java/lang/RuntimeException", "java/lang/Exception"]).filter goodWord)
def wsX4_slotOfTaught : List Cond := .code yX4_slotOfTaught cX4_slotOfTaught 3 (some .int) :: ([.classLink RX4 199 "java/util/NoSuchElementException", .initialized "java/util/NoSuchElementException", .fieldLink RX4 30 "Tonguetell" "shelf" "LTonguetell$Shelf;", .methodLink RX4 196 yX1_slotOf, .instanceMethod yX1_slotOf, .selects RX1 yX1_slotOf yX1_slotOf, .initialized RX1, .code yX1_slotOf cX1_slotOf 2 (some .int), .methodLink RX1 30 yX1_firstSlotWith, .instanceMethod yX1_firstSlotWith, .selects RX1 yX1_firstSlotWith yX1_firstSlotWith, .code yX1_firstSlotWith cX1_firstSlotWith 3 (some .int), .fieldLink RX1 9 "Tonguetell$Shelf" "numberIn" "[I"] ++ wsX40 ++ wsX10 ++ (vx_atS RX4 203 "java/util/NoSuchElementException" ["java/lang/RuntimeException", "java/lang/Exception"]).filter goodWord)
def wsX4_withdraw_r1 : List Cond := [Cond.fieldLink RX4 23 "Tonguetell" "tallies" "[LTonguetell$Tally;", Cond.fieldLink RX4 30 "Tonguetell" "shelf" "LTonguetell$Shelf;", Cond.fieldLink RX4 108 "Tonguetell$Shelf" "tongueIn" "[I", Cond.fieldLink RX4 112 "Tonguetell$Shelf" "lengthIn" "[I", Cond.fieldLink RX4 115 "Tonguetell$Shelf" "runsIn" "[[I", Cond.methodLink RX4 105 yX4_slotOfTaught, Cond.instanceMethod yX4_slotOfTaught, Cond.selects RX4 yX4_slotOfTaught yX4_slotOfTaught, Cond.initialized RX4, Cond.code yX4_slotOfTaught cX4_slotOfTaught 3 (some .int), Cond.classLink RX4 199 "java/util/NoSuchElementException", Cond.initialized "java/util/NoSuchElementException", Cond.methodLink RX4 196 yX1_slotOf, Cond.instanceMethod yX1_slotOf, Cond.selects RX1 yX1_slotOf yX1_slotOf, Cond.initialized RX1, Cond.code yX1_slotOf cX1_slotOf 2 (some .int), Cond.methodLink RX1 30 yX1_firstSlotWith, Cond.instanceMethod yX1_firstSlotWith, Cond.selects RX1 yX1_firstSlotWith yX1_firstSlotWith, Cond.code yX1_firstSlotWith cX1_firstSlotWith 3 (some .int), Cond.fieldLink RX1 9 "Tonguetell$Shelf" "numberIn" "[I", Cond.methodLink RX4 119 yX3_remove, Cond.instanceMethod yX3_remove]
def wsX4_withdraw_r2 : List Cond := [Cond.selects RX3 yX3_remove yX3_remove, Cond.initialized RX3, Cond.code yX3_remove cX3_remove 2 none, Cond.fieldLink RX3 9 "Tonguetell$Tally" "counts" "[I", Cond.fieldLink RX3 15 "Tonguetell$Tally" "sum" "I", Cond.methodLink RX4 122 yX1_free, Cond.instanceMethod yX1_free, Cond.selects RX1 yX1_free yX1_free, Cond.code yX1_free cX1_free 2 none]
def wsX4_withdraw : List Cond := .code yX4_withdraw cX4_withdraw 6 (some .int) :: ((wsX4_withdraw_r1 ++ wsX4_withdraw_r2) ++ wsX40 ++ wsX10 ++ wsX30 ++ (vx_atS RX4 203 "java/util/NoSuchElementException" ["java/lang/RuntimeException", "java/lang/Exception"]).filter goodWord)
def wsX4_tongueOf : List Cond := .code yX4_tongueOf cX4_tongueOf 2 (some .int) :: ([.fieldLink RX4 30 "Tonguetell" "shelf" "LTonguetell$Shelf;", .fieldLink RX4 108 "Tonguetell$Shelf" "tongueIn" "[I", .methodLink RX4 105 yX4_slotOfTaught, .instanceMethod yX4_slotOfTaught, .selects RX4 yX4_slotOfTaught yX4_slotOfTaught, .initialized RX4, .code yX4_slotOfTaught cX4_slotOfTaught 3 (some .int), .classLink RX4 199 "java/util/NoSuchElementException", .initialized "java/util/NoSuchElementException", .methodLink RX4 196 yX1_slotOf, .instanceMethod yX1_slotOf, .selects RX1 yX1_slotOf yX1_slotOf, .initialized RX1, .code yX1_slotOf cX1_slotOf 2 (some .int), .methodLink RX1 30 yX1_firstSlotWith, .instanceMethod yX1_firstSlotWith, .selects RX1 yX1_firstSlotWith yX1_firstSlotWith, .code yX1_firstSlotWith cX1_firstSlotWith 3 (some .int), .fieldLink RX1 9 "Tonguetell$Shelf" "numberIn" "[I"] ++ wsX40 ++ wsX10 ++ (vx_atS RX4 203 "java/util/NoSuchElementException" ["java/lang/RuntimeException", "java/lang/Exception"]).filter goodWord)
def wsX4_total : List Cond := .code yX4_total cX4_total 2 (some .int) :: ([.fieldLink RX4 23 "Tonguetell" "tallies" "[LTonguetell$Tally;", .fieldLink RX4 125 "Tonguetell$Tally" "sum" "I", .methodLink RX4 90 yX4_requireTongue, .instanceMethod yX4_requireTongue, .selects RX4 yX4_requireTongue yX4_requireTongue, .initialized RX4, .code yX4_requireTongue cX4_requireTongue 2 none, .classLink RX4 185 "java/lang/IndexOutOfBoundsException", .initialized "java/lang/IndexOutOfBoundsException", .fieldLink RX4 41 "Tonguetell" "tongueCount" "I"] ++ wsX40 ++ wsX30 ++ (vx_atS RX4 189 "java/lang/IndexOutOfBoundsException" ["java/lang/RuntimeException", "java/lang/Exception"]).filter goodWord)
def wsX4_requireRunKind : List Cond := .code yX4_requireRunKind cX4_requireRunKind 1 none :: ([.classLink RX4 185 "java/lang/IndexOutOfBoundsException", .initialized "java/lang/IndexOutOfBoundsException"] ++ (vx_atS RX4 189 "java/lang/IndexOutOfBoundsException" ["java/lang/RuntimeException", "java/lang/Exception"]).filter goodWord)
def wsX4_count : List Cond := .code yX4_count cX4_count 3 (some .int) :: ([.fieldLink RX4 23 "Tonguetell" "tallies" "[LTonguetell$Tally;", .fieldLink RX4 131 "Tonguetell$Tally" "counts" "[I", .methodLink RX4 90 yX4_requireTongue, .instanceMethod yX4_requireTongue, .selects RX4 yX4_requireTongue yX4_requireTongue, .initialized RX4, .code yX4_requireTongue cX4_requireTongue 2 none, .classLink RX4 185 "java/lang/IndexOutOfBoundsException", .initialized "java/lang/IndexOutOfBoundsException", .fieldLink RX4 41 "Tonguetell" "tongueCount" "I", .methodLink RX4 128 yX4_requireRunKind, .static yX4_requireRunKind, .code yX4_requireRunKind cX4_requireRunKind 1 none] ++ wsX40 ++ wsX30 ++ (vx_atS RX4 189 "java/lang/IndexOutOfBoundsException" ["java/lang/RuntimeException", "java/lang/Exception"]).filter goodWord)
def wsX4_cost : List Cond := .code yX4_cost cX4_cost 3 (some .int) :: ([.fieldLink RX4 23 "Tonguetell" "tallies" "[LTonguetell$Tally;", .methodLink RX4 90 yX4_requireTongue, .instanceMethod yX4_requireTongue, .selects RX4 yX4_requireTongue yX4_requireTongue, .initialized RX4, .code yX4_requireTongue cX4_requireTongue 2 none, .classLink RX4 185 "java/lang/IndexOutOfBoundsException", .initialized "java/lang/IndexOutOfBoundsException", .fieldLink RX4 41 "Tonguetell" "tongueCount" "I", .methodLink RX4 128 yX4_requireRunKind, .static yX4_requireRunKind, .code yX4_requireRunKind cX4_requireRunKind 1 none, .methodLink RX4 134 yX3_costOf, .instanceMethod yX3_costOf, .selects RX3 yX3_costOf yX3_costOf, .initialized RX3, .code yX3_costOf cX3_costOf 5 (some .int), .fieldLink RX3 15 "Tonguetell$Tally" "sum" "I", .fieldLink RX3 9 "Tonguetell$Tally" "counts" "[I"] ++ wsX40 ++ wsX30 ++ (vx_atS RX4 189 "java/lang/IndexOutOfBoundsException" ["java/lang/RuntimeException", "java/lang/Exception"]).filter goodWord)
def wsX4_rank : List Cond := .code yX4_rank cX4_rank 3 (some .int) :: ([.fieldLink RX4 23 "Tonguetell" "tallies" "[LTonguetell$Tally;", .methodLink RX4 90 yX4_requireTongue, .instanceMethod yX4_requireTongue, .selects RX4 yX4_requireTongue yX4_requireTongue, .initialized RX4, .code yX4_requireTongue cX4_requireTongue 2 none, .classLink RX4 185 "java/lang/IndexOutOfBoundsException", .initialized "java/lang/IndexOutOfBoundsException", .fieldLink RX4 41 "Tonguetell" "tongueCount" "I", .methodLink RX4 128 yX4_requireRunKind, .static yX4_requireRunKind, .code yX4_requireRunKind cX4_requireRunKind 1 none, .methodLink RX4 137 yX3_rankOf, .instanceMethod yX3_rankOf, .selects RX3 yX3_rankOf yX3_rankOf, .initialized RX3, .code yX3_rankOf cX3_rankOf 4 (some .int), .fieldLink RX3 9 "Tonguetell$Tally" "counts" "[I"] ++ wsX40 ++ wsX30 ++ (vx_atS RX4 189 "java/lang/IndexOutOfBoundsException" ["java/lang/RuntimeException", "java/lang/Exception"]).filter goodWord)
def wsX4_costOfSpelled : List Cond := .code yX4_costOfSpelled cX4_costOfSpelled 4 (some .int) :: ([.fieldLink RX4 10 "Tonguetell" "spelled" "LTonguetell$Spelling;", .fieldLink RX4 23 "Tonguetell" "tallies" "[LTonguetell$Tally;", .methodLink RX4 74 yX2_runCount, .instanceMethod yX2_runCount, .selects RX2 yX2_runCount yX2_runCount, .initialized RX2, .code yX2_runCount cX2_runCount 1 (some .int), .fieldLink RX2 15 "Tonguetell$Spelling" "length" "I", .methodLink RX4 81 yX2_runNumber, .instanceMethod yX2_runNumber, .selects RX2 yX2_runNumber yX2_runNumber, .code yX2_runNumber cX2_runNumber 2 (some .int), .methodLink RX2 19 yX2_letterOrGap, .instanceMethod yX2_letterOrGap, .selects RX2 yX2_letterOrGap yX2_letterOrGap, .code yX2_letterOrGap cX2_letterOrGap 2 (some .int), .fieldLink RX2 9 "Tonguetell$Spelling" "letters" "[I", .methodLink RX4 134 yX3_costOf, .instanceMethod yX3_costOf, .selects RX3 yX3_costOf yX3_costOf, .initialized RX3, .code yX3_costOf cX3_costOf 5 (some .int), .fieldLink RX3 15 "Tonguetell$Tally" "sum" "I", .fieldLink RX3 9 "Tonguetell$Tally" "counts" "[I"] ++ wsX40 ++ wsX20 ++ wsX30)
def wsX4_textCost_r1 : List Cond := [Cond.methodLink RX4 90 yX4_requireTongue, Cond.instanceMethod yX4_requireTongue, Cond.selects RX4 yX4_requireTongue yX4_requireTongue, Cond.initialized RX4, Cond.code yX4_requireTongue cX4_requireTongue 2 none, Cond.classLink RX4 185 "java/lang/IndexOutOfBoundsException", Cond.initialized "java/lang/IndexOutOfBoundsException", Cond.fieldLink RX4 41 "Tonguetell" "tongueCount" "I", Cond.methodLink RX4 140 yX4_costOfSpelled, Cond.instanceMethod yX4_costOfSpelled, Cond.selects RX4 yX4_costOfSpelled yX4_costOfSpelled, Cond.code yX4_costOfSpelled cX4_costOfSpelled 4 (some .int), Cond.fieldLink RX4 10 "Tonguetell" "spelled" "LTonguetell$Spelling;", Cond.fieldLink RX4 23 "Tonguetell" "tallies" "[LTonguetell$Tally;", Cond.methodLink RX4 74 yX2_runCount, Cond.instanceMethod yX2_runCount, Cond.selects RX2 yX2_runCount yX2_runCount, Cond.initialized RX2, Cond.code yX2_runCount cX2_runCount 1 (some .int), Cond.fieldLink RX2 15 "Tonguetell$Spelling" "length" "I", Cond.methodLink RX4 81 yX2_runNumber, Cond.instanceMethod yX2_runNumber, Cond.selects RX2 yX2_runNumber yX2_runNumber, Cond.code yX2_runNumber cX2_runNumber 2 (some .int)]
def wsX4_textCost_r2 : List Cond := [Cond.methodLink RX2 19 yX2_letterOrGap, Cond.instanceMethod yX2_letterOrGap, Cond.selects RX2 yX2_letterOrGap yX2_letterOrGap, Cond.code yX2_letterOrGap cX2_letterOrGap 2 (some .int), Cond.fieldLink RX2 9 "Tonguetell$Spelling" "letters" "[I", Cond.methodLink RX4 134 yX3_costOf, Cond.instanceMethod yX3_costOf, Cond.selects RX3 yX3_costOf yX3_costOf, Cond.initialized RX3, Cond.code yX3_costOf cX3_costOf 5 (some .int), Cond.fieldLink RX3 15 "Tonguetell$Tally" "sum" "I", Cond.fieldLink RX3 9 "Tonguetell$Tally" "counts" "[I"]
def wsX4_textCost : List Cond := .code yX4_textCost cX4_textCost 2 (some .int) :: ((wsX4_textCost_r1 ++ wsX4_textCost_r2) ++ wsX40 ++ wsX20 ++ wsX30 ++ (vx_atS RX4 189 "java/lang/IndexOutOfBoundsException" ["java/lang/RuntimeException", "java/lang/Exception"]).filter goodWord)
def wsX4_tallySpelled_r1 : List Cond := [Cond.fieldLink RX4 19 "Tonguetell" "spelledTally" "LTonguetell$Tally;", Cond.fieldLink RX4 10 "Tonguetell" "spelled" "LTonguetell$Spelling;", Cond.methodLink RX4 214 yX3_clear, Cond.instanceMethod yX3_clear, Cond.selects RX3 yX3_clear yX3_clear, Cond.initialized RX3, Cond.code yX3_clear cX3_clear 2 none, Cond.fieldLink RX3 9 "Tonguetell$Tally" "counts" "[I", Cond.fieldLink RX3 15 "Tonguetell$Tally" "sum" "I", Cond.methodLink RX4 74 yX2_runCount, Cond.instanceMethod yX2_runCount, Cond.selects RX2 yX2_runCount yX2_runCount, Cond.initialized RX2, Cond.code yX2_runCount cX2_runCount 1 (some .int), Cond.fieldLink RX2 15 "Tonguetell$Spelling" "length" "I", Cond.methodLink RX4 81 yX2_runNumber, Cond.instanceMethod yX2_runNumber, Cond.selects RX2 yX2_runNumber yX2_runNumber, Cond.code yX2_runNumber cX2_runNumber 2 (some .int), Cond.methodLink RX2 19 yX2_letterOrGap, Cond.instanceMethod yX2_letterOrGap, Cond.selects RX2 yX2_letterOrGap yX2_letterOrGap, Cond.code yX2_letterOrGap cX2_letterOrGap 2 (some .int), Cond.fieldLink RX2 9 "Tonguetell$Spelling" "letters" "[I"]
def wsX4_tallySpelled_r2 : List Cond := [Cond.methodLink RX4 208 yX3_add, Cond.instanceMethod yX3_add, Cond.selects RX3 yX3_add yX3_add, Cond.code yX3_add cX3_add 2 none]
def wsX4_tallySpelled : List Cond := .code yX4_tallySpelled cX4_tallySpelled 2 none :: ((wsX4_tallySpelled_r1 ++ wsX4_tallySpelled_r2) ++ wsX40 ++ wsX30 ++ wsX20)
def wsX4_distanceOfSpelled : List Cond := .code yX4_distanceOfSpelled cX4_distanceOfSpelled 6 (some .int) :: ([.fieldLink RX4 19 "Tonguetell" "spelledTally" "LTonguetell$Tally;", .fieldLink RX4 23 "Tonguetell" "tallies" "[LTonguetell$Tally;", .methodLink RX4 217 Lib.Math.abs.name, .static Lib.Math.abs.name, .initialized "java/lang/Math", .code Lib.Math.abs.name Lib.Math.abs.code 1 (some .int), .methodLink RX4 137 yX3_rankOf, .instanceMethod yX3_rankOf, .selects RX3 yX3_rankOf yX3_rankOf, .initialized RX3, .code yX3_rankOf cX3_rankOf 4 (some .int), .fieldLink RX3 9 "Tonguetell$Tally" "counts" "[I"] ++ wsX40 ++ wsX30)
def wsX4_distance_r1 : List Cond := [Cond.methodLink RX4 90 yX4_requireTongue, Cond.instanceMethod yX4_requireTongue, Cond.selects RX4 yX4_requireTongue yX4_requireTongue, Cond.initialized RX4, Cond.code yX4_requireTongue cX4_requireTongue 2 none, Cond.classLink RX4 185 "java/lang/IndexOutOfBoundsException", Cond.initialized "java/lang/IndexOutOfBoundsException", Cond.fieldLink RX4 41 "Tonguetell" "tongueCount" "I", Cond.methodLink RX4 143 yX4_tallySpelled, Cond.instanceMethod yX4_tallySpelled, Cond.selects RX4 yX4_tallySpelled yX4_tallySpelled, Cond.code yX4_tallySpelled cX4_tallySpelled 2 none, Cond.fieldLink RX4 19 "Tonguetell" "spelledTally" "LTonguetell$Tally;", Cond.fieldLink RX4 10 "Tonguetell" "spelled" "LTonguetell$Spelling;", Cond.methodLink RX4 214 yX3_clear, Cond.instanceMethod yX3_clear, Cond.selects RX3 yX3_clear yX3_clear, Cond.initialized RX3, Cond.code yX3_clear cX3_clear 2 none, Cond.fieldLink RX3 9 "Tonguetell$Tally" "counts" "[I", Cond.fieldLink RX3 15 "Tonguetell$Tally" "sum" "I", Cond.methodLink RX4 74 yX2_runCount, Cond.instanceMethod yX2_runCount, Cond.selects RX2 yX2_runCount yX2_runCount]
def wsX4_distance_r2 : List Cond := [Cond.initialized RX2, Cond.code yX2_runCount cX2_runCount 1 (some .int), Cond.fieldLink RX2 15 "Tonguetell$Spelling" "length" "I", Cond.methodLink RX4 81 yX2_runNumber, Cond.instanceMethod yX2_runNumber, Cond.selects RX2 yX2_runNumber yX2_runNumber, Cond.code yX2_runNumber cX2_runNumber 2 (some .int), Cond.methodLink RX2 19 yX2_letterOrGap, Cond.instanceMethod yX2_letterOrGap, Cond.selects RX2 yX2_letterOrGap yX2_letterOrGap, Cond.code yX2_letterOrGap cX2_letterOrGap 2 (some .int), Cond.fieldLink RX2 9 "Tonguetell$Spelling" "letters" "[I", Cond.methodLink RX4 208 yX3_add, Cond.instanceMethod yX3_add, Cond.selects RX3 yX3_add yX3_add, Cond.code yX3_add cX3_add 2 none, Cond.methodLink RX4 146 yX4_distanceOfSpelled, Cond.instanceMethod yX4_distanceOfSpelled, Cond.selects RX4 yX4_distanceOfSpelled yX4_distanceOfSpelled, Cond.code yX4_distanceOfSpelled cX4_distanceOfSpelled 6 (some .int), Cond.fieldLink RX4 23 "Tonguetell" "tallies" "[LTonguetell$Tally;", Cond.methodLink RX4 217 Lib.Math.abs.name, Cond.static Lib.Math.abs.name, Cond.initialized "java/lang/Math"]
def wsX4_distance_r3 : List Cond := [Cond.code Lib.Math.abs.name Lib.Math.abs.code 1 (some .int), Cond.methodLink RX4 137 yX3_rankOf, Cond.instanceMethod yX3_rankOf, Cond.selects RX3 yX3_rankOf yX3_rankOf, Cond.code yX3_rankOf cX3_rankOf 4 (some .int)]
def wsX4_distance : List Cond := .code yX4_distance cX4_distance 2 (some .int) :: ((wsX4_distance_r1 ++ (wsX4_distance_r2 ++ wsX4_distance_r3)) ++ wsX40 ++ wsX30 ++ wsX20 ++ (vx_atS RX4 189 "java/lang/IndexOutOfBoundsException" ["java/lang/RuntimeException", "java/lang/Exception"]).filter goodWord)
def wsX4_setMargin : List Cond := .code yX4_setMargin cX4_setMargin 3 (some .int) :: ([.classLink RX4 55 "java/lang/IllegalArgumentException", .initialized "java/lang/IllegalArgumentException", .fieldLink RX4 45 "Tonguetell" "margin" "I"] ++ wsX40 ++ (vx_atS RX4 59 "java/lang/IllegalArgumentException" ["java/lang/RuntimeException", "java/lang/Exception"]).filter goodWord)
def wsX4_isSure_r1 : List Cond := [Cond.fieldLink RX4 41 "Tonguetell" "tongueCount" "I", Cond.fieldLink RX4 45 "Tonguetell" "margin" "I", Cond.methodLink RX4 140 yX4_costOfSpelled, Cond.instanceMethod yX4_costOfSpelled, Cond.selects RX4 yX4_costOfSpelled yX4_costOfSpelled, Cond.initialized RX4, Cond.code yX4_costOfSpelled cX4_costOfSpelled 4 (some .int), Cond.fieldLink RX4 10 "Tonguetell" "spelled" "LTonguetell$Spelling;", Cond.fieldLink RX4 23 "Tonguetell" "tallies" "[LTonguetell$Tally;", Cond.methodLink RX4 74 yX2_runCount, Cond.instanceMethod yX2_runCount, Cond.selects RX2 yX2_runCount yX2_runCount, Cond.initialized RX2, Cond.code yX2_runCount cX2_runCount 1 (some .int), Cond.fieldLink RX2 15 "Tonguetell$Spelling" "length" "I", Cond.methodLink RX4 81 yX2_runNumber, Cond.instanceMethod yX2_runNumber, Cond.selects RX2 yX2_runNumber yX2_runNumber, Cond.code yX2_runNumber cX2_runNumber 2 (some .int), Cond.methodLink RX2 19 yX2_letterOrGap, Cond.instanceMethod yX2_letterOrGap, Cond.selects RX2 yX2_letterOrGap yX2_letterOrGap, Cond.code yX2_letterOrGap cX2_letterOrGap 2 (some .int), Cond.fieldLink RX2 9 "Tonguetell$Spelling" "letters" "[I"]
def wsX4_isSure_r2 : List Cond := [Cond.methodLink RX4 134 yX3_costOf, Cond.instanceMethod yX3_costOf, Cond.selects RX3 yX3_costOf yX3_costOf, Cond.initialized RX3, Cond.code yX3_costOf cX3_costOf 5 (some .int), Cond.fieldLink RX3 15 "Tonguetell$Tally" "sum" "I", Cond.fieldLink RX3 9 "Tonguetell$Tally" "counts" "[I"]
def wsX4_isSure : List Cond := .code yX4_isSure cX4_isSure 4 (some .boolean) :: ((wsX4_isSure_r1 ++ wsX4_isSure_r2) ++ wsX40 ++ wsX20 ++ wsX30)
def wsX4_tell_r1 : List Cond := [Cond.fieldLink RX4 10 "Tonguetell" "spelled" "LTonguetell$Spelling;", Cond.fieldLink RX4 62 "Tonguetell$Spelling" "length" "I", Cond.fieldLink RX4 41 "Tonguetell" "tongueCount" "I", Cond.methodLink RX4 140 yX4_costOfSpelled, Cond.instanceMethod yX4_costOfSpelled, Cond.selects RX4 yX4_costOfSpelled yX4_costOfSpelled, Cond.initialized RX4, Cond.code yX4_costOfSpelled cX4_costOfSpelled 4 (some .int), Cond.fieldLink RX4 23 "Tonguetell" "tallies" "[LTonguetell$Tally;", Cond.methodLink RX4 74 yX2_runCount, Cond.instanceMethod yX2_runCount, Cond.selects RX2 yX2_runCount yX2_runCount, Cond.initialized RX2, Cond.code yX2_runCount cX2_runCount 1 (some .int), Cond.fieldLink RX2 15 "Tonguetell$Spelling" "length" "I", Cond.methodLink RX4 81 yX2_runNumber, Cond.instanceMethod yX2_runNumber, Cond.selects RX2 yX2_runNumber yX2_runNumber, Cond.code yX2_runNumber cX2_runNumber 2 (some .int), Cond.methodLink RX2 19 yX2_letterOrGap, Cond.instanceMethod yX2_letterOrGap, Cond.selects RX2 yX2_letterOrGap yX2_letterOrGap, Cond.code yX2_letterOrGap cX2_letterOrGap 2 (some .int), Cond.fieldLink RX2 9 "Tonguetell$Spelling" "letters" "[I"]
def wsX4_tell_r2 : List Cond := [Cond.methodLink RX4 134 yX3_costOf, Cond.instanceMethod yX3_costOf, Cond.selects RX3 yX3_costOf yX3_costOf, Cond.initialized RX3, Cond.code yX3_costOf cX3_costOf 5 (some .int), Cond.fieldLink RX3 15 "Tonguetell$Tally" "sum" "I", Cond.fieldLink RX3 9 "Tonguetell$Tally" "counts" "[I", Cond.methodLink RX4 151 yX4_isSure, Cond.instanceMethod yX4_isSure, Cond.selects RX4 yX4_isSure yX4_isSure, Cond.code yX4_isSure cX4_isSure 4 (some .boolean), Cond.fieldLink RX4 45 "Tonguetell" "margin" "I"]
def wsX4_tell : List Cond := .code yX4_tell cX4_tell 5 (some .int) :: ((wsX4_tell_r1 ++ wsX4_tell_r2) ++ wsX40 ++ wsX20 ++ wsX30)
def wsX4_tellByRanks_r1 : List Cond := [Cond.fieldLink RX4 10 "Tonguetell" "spelled" "LTonguetell$Spelling;", Cond.fieldLink RX4 62 "Tonguetell$Spelling" "length" "I", Cond.fieldLink RX4 41 "Tonguetell" "tongueCount" "I", Cond.methodLink RX4 143 yX4_tallySpelled, Cond.instanceMethod yX4_tallySpelled, Cond.selects RX4 yX4_tallySpelled yX4_tallySpelled, Cond.initialized RX4, Cond.code yX4_tallySpelled cX4_tallySpelled 2 none, Cond.fieldLink RX4 19 "Tonguetell" "spelledTally" "LTonguetell$Tally;", Cond.methodLink RX4 214 yX3_clear, Cond.instanceMethod yX3_clear, Cond.selects RX3 yX3_clear yX3_clear, Cond.initialized RX3, Cond.code yX3_clear cX3_clear 2 none, Cond.fieldLink RX3 9 "Tonguetell$Tally" "counts" "[I", Cond.fieldLink RX3 15 "Tonguetell$Tally" "sum" "I", Cond.methodLink RX4 74 yX2_runCount, Cond.instanceMethod yX2_runCount, Cond.selects RX2 yX2_runCount yX2_runCount, Cond.initialized RX2, Cond.code yX2_runCount cX2_runCount 1 (some .int), Cond.fieldLink RX2 15 "Tonguetell$Spelling" "length" "I", Cond.methodLink RX4 81 yX2_runNumber, Cond.instanceMethod yX2_runNumber]
def wsX4_tellByRanks_r2 : List Cond := [Cond.selects RX2 yX2_runNumber yX2_runNumber, Cond.code yX2_runNumber cX2_runNumber 2 (some .int), Cond.methodLink RX2 19 yX2_letterOrGap, Cond.instanceMethod yX2_letterOrGap, Cond.selects RX2 yX2_letterOrGap yX2_letterOrGap, Cond.code yX2_letterOrGap cX2_letterOrGap 2 (some .int), Cond.fieldLink RX2 9 "Tonguetell$Spelling" "letters" "[I", Cond.methodLink RX4 208 yX3_add, Cond.instanceMethod yX3_add, Cond.selects RX3 yX3_add yX3_add, Cond.code yX3_add cX3_add 2 none, Cond.methodLink RX4 146 yX4_distanceOfSpelled, Cond.instanceMethod yX4_distanceOfSpelled, Cond.selects RX4 yX4_distanceOfSpelled yX4_distanceOfSpelled, Cond.code yX4_distanceOfSpelled cX4_distanceOfSpelled 6 (some .int), Cond.fieldLink RX4 23 "Tonguetell" "tallies" "[LTonguetell$Tally;", Cond.methodLink RX4 217 Lib.Math.abs.name, Cond.static Lib.Math.abs.name, Cond.initialized "java/lang/Math", Cond.code Lib.Math.abs.name Lib.Math.abs.code 1 (some .int), Cond.methodLink RX4 137 yX3_rankOf, Cond.instanceMethod yX3_rankOf, Cond.selects RX3 yX3_rankOf yX3_rankOf, Cond.code yX3_rankOf cX3_rankOf 4 (some .int)]
def wsX4_tellByRanks : List Cond := .code yX4_tellByRanks cX4_tellByRanks 5 (some .int) :: ((wsX4_tellByRanks_r1 ++ wsX4_tellByRanks_r2) ++ wsX40 ++ wsX20 ++ wsX30)
def wsX4_setPrice : List Cond := .code yX4_setPrice cX4_setPrice 3 (some .int) :: ([.classLink RX4 55 "java/lang/IllegalArgumentException", .initialized "java/lang/IllegalArgumentException", .fieldLink RX4 48 "Tonguetell" "price" "I"] ++ wsX40 ++ (vx_atS RX4 59 "java/lang/IllegalArgumentException" ["java/lang/RuntimeException", "java/lang/Exception"]).filter goodWord)
def wsX4_requireSomeTongue : List Cond := .code yX4_requireSomeTongue cX4_requireSomeTongue 1 none :: ([.classLink RX4 65 "java/lang/IllegalStateException", .initialized "java/lang/IllegalStateException", .fieldLink RX4 41 "Tonguetell" "tongueCount" "I"] ++ wsX40 ++ (vx_atS RX4 69 "java/lang/IllegalStateException" ["java/lang/RuntimeException", "java/lang/Exception"]).filter goodWord)
def wsX4_layCostsForCut_r1 : List Cond := [Cond.fieldLink RX4 37 "Tonguetell" "cutter" "LTonguetell$Cutter;", Cond.fieldLink RX4 10 "Tonguetell" "spelled" "LTonguetell$Spelling;", Cond.fieldLink RX4 41 "Tonguetell" "tongueCount" "I", Cond.fieldLink RX4 48 "Tonguetell" "price" "I", Cond.fieldLink RX4 226 "Tonguetell$Cutter" "costs" "[[I", Cond.fieldLink RX4 23 "Tonguetell" "tallies" "[LTonguetell$Tally;", Cond.methodLink RX4 74 yX2_runCount, Cond.instanceMethod yX2_runCount, Cond.selects RX2 yX2_runCount yX2_runCount, Cond.initialized RX2, Cond.code yX2_runCount cX2_runCount 1 (some .int), Cond.fieldLink RX2 15 "Tonguetell$Spelling" "length" "I", Cond.methodLink RX4 222 yX0_begin, Cond.instanceMethod yX0_begin, Cond.selects RX0 yX0_begin yX0_begin, Cond.initialized RX0, Cond.code yX0_begin cX0_begin 4 none, Cond.fieldLink RX0 23 "Tonguetell$Cutter" "runCount" "I", Cond.fieldLink RX0 27 "Tonguetell$Cutter" "choices" "I", Cond.fieldLink RX0 30 "Tonguetell$Cutter" "changePrice" "I", Cond.methodLink RX4 81 yX2_runNumber, Cond.instanceMethod yX2_runNumber, Cond.selects RX2 yX2_runNumber yX2_runNumber, Cond.code yX2_runNumber cX2_runNumber 2 (some .int)]
def wsX4_layCostsForCut_r2 : List Cond := [Cond.methodLink RX2 19 yX2_letterOrGap, Cond.instanceMethod yX2_letterOrGap, Cond.selects RX2 yX2_letterOrGap yX2_letterOrGap, Cond.code yX2_letterOrGap cX2_letterOrGap 2 (some .int), Cond.fieldLink RX2 9 "Tonguetell$Spelling" "letters" "[I", Cond.methodLink RX4 134 yX3_costOf, Cond.instanceMethod yX3_costOf, Cond.selects RX3 yX3_costOf yX3_costOf, Cond.initialized RX3, Cond.code yX3_costOf cX3_costOf 5 (some .int), Cond.fieldLink RX3 15 "Tonguetell$Tally" "sum" "I", Cond.fieldLink RX3 9 "Tonguetell$Tally" "counts" "[I"]
def wsX4_layCostsForCut : List Cond := .code yX4_layCostsForCut cX4_layCostsForCut 4 none :: ((wsX4_layCostsForCut_r1 ++ wsX4_layCostsForCut_r2) ++ wsX40 ++ wsX00 ++ wsX20 ++ wsX30)
def wsX4_cutCost_r1 : List Cond := [Cond.fieldLink RX4 37 "Tonguetell" "cutter" "LTonguetell$Cutter;", Cond.methodLink RX4 157 yX4_requireSomeTongue, Cond.instanceMethod yX4_requireSomeTongue, Cond.selects RX4 yX4_requireSomeTongue yX4_requireSomeTongue, Cond.initialized RX4, Cond.code yX4_requireSomeTongue cX4_requireSomeTongue 1 none, Cond.classLink RX4 65 "java/lang/IllegalStateException", Cond.initialized "java/lang/IllegalStateException", Cond.fieldLink RX4 41 "Tonguetell" "tongueCount" "I", Cond.methodLink RX4 160 yX4_layCostsForCut, Cond.instanceMethod yX4_layCostsForCut, Cond.selects RX4 yX4_layCostsForCut yX4_layCostsForCut, Cond.code yX4_layCostsForCut cX4_layCostsForCut 4 none, Cond.fieldLink RX4 10 "Tonguetell" "spelled" "LTonguetell$Spelling;", Cond.fieldLink RX4 48 "Tonguetell" "price" "I", Cond.fieldLink RX4 226 "Tonguetell$Cutter" "costs" "[[I", Cond.fieldLink RX4 23 "Tonguetell" "tallies" "[LTonguetell$Tally;", Cond.methodLink RX4 74 yX2_runCount, Cond.instanceMethod yX2_runCount, Cond.selects RX2 yX2_runCount yX2_runCount, Cond.initialized RX2, Cond.code yX2_runCount cX2_runCount 1 (some .int), Cond.fieldLink RX2 15 "Tonguetell$Spelling" "length" "I", Cond.methodLink RX4 222 yX0_begin]
def wsX4_cutCost_r2 : List Cond := [Cond.instanceMethod yX0_begin, Cond.selects RX0 yX0_begin yX0_begin, Cond.initialized RX0, Cond.code yX0_begin cX0_begin 4 none, Cond.fieldLink RX0 23 "Tonguetell$Cutter" "runCount" "I", Cond.fieldLink RX0 27 "Tonguetell$Cutter" "choices" "I", Cond.fieldLink RX0 30 "Tonguetell$Cutter" "changePrice" "I", Cond.methodLink RX4 81 yX2_runNumber, Cond.instanceMethod yX2_runNumber, Cond.selects RX2 yX2_runNumber yX2_runNumber, Cond.code yX2_runNumber cX2_runNumber 2 (some .int), Cond.methodLink RX2 19 yX2_letterOrGap, Cond.instanceMethod yX2_letterOrGap, Cond.selects RX2 yX2_letterOrGap yX2_letterOrGap, Cond.code yX2_letterOrGap cX2_letterOrGap 2 (some .int), Cond.fieldLink RX2 9 "Tonguetell$Spelling" "letters" "[I", Cond.methodLink RX4 134 yX3_costOf, Cond.instanceMethod yX3_costOf, Cond.selects RX3 yX3_costOf yX3_costOf, Cond.initialized RX3, Cond.code yX3_costOf cX3_costOf 5 (some .int), Cond.fieldLink RX3 15 "Tonguetell$Tally" "sum" "I", Cond.fieldLink RX3 9 "Tonguetell$Tally" "counts" "[I", Cond.methodLink RX4 163 yX0_leastCost]
def wsX4_cutCost_r3 : List Cond := [Cond.instanceMethod yX0_leastCost, Cond.selects RX0 yX0_leastCost yX0_leastCost, Cond.code yX0_leastCost cX0_leastCost 1 (some .int), Cond.fieldLink RX0 20 "Tonguetell$Cutter" "rest" "[[I", Cond.methodLink RX0 33 yX0_fillRest, Cond.instanceMethod yX0_fillRest, Cond.selects RX0 yX0_fillRest yX0_fillRest, Cond.code yX0_fillRest cX0_fillRest 3 none, Cond.fieldLink RX0 11 "Tonguetell$Cutter" "costs" "[[I", Cond.methodLink RX0 44 yX0_leastBehind, Cond.instanceMethod yX0_leastBehind, Cond.selects RX0 yX0_leastBehind yX0_leastBehind, Cond.code yX0_leastBehind cX0_leastBehind 4 (some .int), Cond.methodLink RX0 36 yX0_cheapest, Cond.instanceMethod yX0_cheapest, Cond.selects RX0 yX0_cheapest yX0_cheapest, Cond.code yX0_cheapest cX0_cheapest 5 (some .int), Cond.methodLink RX0 47 yX0_restAfter, Cond.instanceMethod yX0_restAfter, Cond.selects RX0 yX0_restAfter yX0_restAfter, Cond.code yX0_restAfter cX0_restAfter 4 (some .int), Cond.methodLink RX0 51 yX0_priceOfChange, Cond.instanceMethod yX0_priceOfChange, Cond.selects RX0 yX0_priceOfChange yX0_priceOfChange]
def wsX4_cutCost_r4 : List Cond := [Cond.code yX0_priceOfChange cX0_priceOfChange 3 (some .int)]
def wsX4_cutCost : List Cond := .code yX4_cutCost cX4_cutCost 1 (some .int) :: ((wsX4_cutCost_r1 ++ (wsX4_cutCost_r2 ++ (wsX4_cutCost_r3 ++ wsX4_cutCost_r4))) ++ wsX40 ++ wsX00 ++ wsX20 ++ wsX30 ++ (vx_atS RX4 69 "java/lang/IllegalStateException" ["java/lang/RuntimeException", "java/lang/Exception"]).filter goodWord)
def wsX4_cutCostByTrying_r1 : List Cond := [Cond.classLink RX4 65 "java/lang/IllegalStateException", Cond.initialized "java/lang/IllegalStateException", Cond.fieldLink RX4 10 "Tonguetell" "spelled" "LTonguetell$Spelling;", Cond.fieldLink RX4 62 "Tonguetell$Spelling" "length" "I", Cond.fieldLink RX4 37 "Tonguetell" "cutter" "LTonguetell$Cutter;", Cond.methodLink RX4 157 yX4_requireSomeTongue, Cond.instanceMethod yX4_requireSomeTongue, Cond.selects RX4 yX4_requireSomeTongue yX4_requireSomeTongue, Cond.initialized RX4, Cond.code yX4_requireSomeTongue cX4_requireSomeTongue 1 none, Cond.fieldLink RX4 41 "Tonguetell" "tongueCount" "I", Cond.methodLink RX4 160 yX4_layCostsForCut, Cond.instanceMethod yX4_layCostsForCut, Cond.selects RX4 yX4_layCostsForCut yX4_layCostsForCut, Cond.code yX4_layCostsForCut cX4_layCostsForCut 4 none, Cond.fieldLink RX4 48 "Tonguetell" "price" "I", Cond.fieldLink RX4 226 "Tonguetell$Cutter" "costs" "[[I", Cond.fieldLink RX4 23 "Tonguetell" "tallies" "[LTonguetell$Tally;", Cond.methodLink RX4 74 yX2_runCount, Cond.instanceMethod yX2_runCount, Cond.selects RX2 yX2_runCount yX2_runCount, Cond.initialized RX2, Cond.code yX2_runCount cX2_runCount 1 (some .int), Cond.fieldLink RX2 15 "Tonguetell$Spelling" "length" "I"]
def wsX4_cutCostByTrying_r2 : List Cond := [Cond.methodLink RX4 222 yX0_begin, Cond.instanceMethod yX0_begin, Cond.selects RX0 yX0_begin yX0_begin, Cond.initialized RX0, Cond.code yX0_begin cX0_begin 4 none, Cond.fieldLink RX0 23 "Tonguetell$Cutter" "runCount" "I", Cond.fieldLink RX0 27 "Tonguetell$Cutter" "choices" "I", Cond.fieldLink RX0 30 "Tonguetell$Cutter" "changePrice" "I", Cond.methodLink RX4 81 yX2_runNumber, Cond.instanceMethod yX2_runNumber, Cond.selects RX2 yX2_runNumber yX2_runNumber, Cond.code yX2_runNumber cX2_runNumber 2 (some .int), Cond.methodLink RX2 19 yX2_letterOrGap, Cond.instanceMethod yX2_letterOrGap, Cond.selects RX2 yX2_letterOrGap yX2_letterOrGap, Cond.code yX2_letterOrGap cX2_letterOrGap 2 (some .int), Cond.fieldLink RX2 9 "Tonguetell$Spelling" "letters" "[I", Cond.methodLink RX4 134 yX3_costOf, Cond.instanceMethod yX3_costOf, Cond.selects RX3 yX3_costOf yX3_costOf, Cond.initialized RX3, Cond.code yX3_costOf cX3_costOf 5 (some .int), Cond.fieldLink RX3 15 "Tonguetell$Tally" "sum" "I", Cond.fieldLink RX3 9 "Tonguetell$Tally" "counts" "[I"]
def wsX4_cutCostByTrying_r3 : List Cond := [Cond.methodLink RX4 168 yX0_leastCostByTrying, Cond.instanceMethod yX0_leastCostByTrying, Cond.selects RX0 yX0_leastCostByTrying yX0_leastCostByTrying, Cond.code yX0_leastCostByTrying cX0_leastCostByTrying 1 (some .int), Cond.methodLink RX0 40 yX0_leastByTrying, Cond.static yX0_leastByTrying, Cond.code yX0_leastByTrying cX0_leastByTrying 6 (some .int), Cond.constant RX0 54 (1000000), Cond.fieldLink RX0 11 "Tonguetell$Cutter" "costs" "[[I", Cond.methodLink RX0 55 Lib.Math.min.name, Cond.static Lib.Math.min.name, Cond.initialized "java/lang/Math", Cond.code Lib.Math.min.name Lib.Math.min.code 2 (some .int), Cond.methodLink RX0 51 yX0_priceOfChange, Cond.instanceMethod yX0_priceOfChange, Cond.selects RX0 yX0_priceOfChange yX0_priceOfChange, Cond.code yX0_priceOfChange cX0_priceOfChange 3 (some .int)]
def wsX4_cutCostByTrying : List Cond := .code yX4_cutCostByTrying cX4_cutCostByTrying 1 (some .int) :: ((wsX4_cutCostByTrying_r1 ++ (wsX4_cutCostByTrying_r2 ++ wsX4_cutCostByTrying_r3)) ++ wsX40 ++ wsX20 ++ wsX00 ++ wsX30 ++ (vx_atS RX4 69 "java/lang/IllegalStateException" ["java/lang/RuntimeException", "java/lang/Exception"]).filter goodWord)
def wsX4_cutTongue_r1 : List Cond := [Cond.fieldLink RX4 37 "Tonguetell" "cutter" "LTonguetell$Cutter;", Cond.fieldLink RX4 174 "Tonguetell$Cutter" "told" "[I", Cond.methodLink RX4 157 yX4_requireSomeTongue, Cond.instanceMethod yX4_requireSomeTongue, Cond.selects RX4 yX4_requireSomeTongue yX4_requireSomeTongue, Cond.initialized RX4, Cond.code yX4_requireSomeTongue cX4_requireSomeTongue 1 none, Cond.classLink RX4 65 "java/lang/IllegalStateException", Cond.initialized "java/lang/IllegalStateException", Cond.fieldLink RX4 41 "Tonguetell" "tongueCount" "I", Cond.methodLink RX4 78 yX4_requireRunPlace, Cond.instanceMethod yX4_requireRunPlace, Cond.selects RX4 yX4_requireRunPlace yX4_requireRunPlace, Cond.code yX4_requireRunPlace cX4_requireRunPlace 2 none, Cond.classLink RX4 185 "java/lang/IndexOutOfBoundsException", Cond.initialized "java/lang/IndexOutOfBoundsException", Cond.fieldLink RX4 10 "Tonguetell" "spelled" "LTonguetell$Spelling;", Cond.methodLink RX4 74 yX2_runCount, Cond.instanceMethod yX2_runCount, Cond.selects RX2 yX2_runCount yX2_runCount, Cond.initialized RX2, Cond.code yX2_runCount cX2_runCount 1 (some .int), Cond.fieldLink RX2 15 "Tonguetell$Spelling" "length" "I", Cond.methodLink RX4 160 yX4_layCostsForCut]
def wsX4_cutTongue_r2 : List Cond := [Cond.instanceMethod yX4_layCostsForCut, Cond.selects RX4 yX4_layCostsForCut yX4_layCostsForCut, Cond.code yX4_layCostsForCut cX4_layCostsForCut 4 none, Cond.fieldLink RX4 48 "Tonguetell" "price" "I", Cond.fieldLink RX4 226 "Tonguetell$Cutter" "costs" "[[I", Cond.fieldLink RX4 23 "Tonguetell" "tallies" "[LTonguetell$Tally;", Cond.methodLink RX4 222 yX0_begin, Cond.instanceMethod yX0_begin, Cond.selects RX0 yX0_begin yX0_begin, Cond.initialized RX0, Cond.code yX0_begin cX0_begin 4 none, Cond.fieldLink RX0 23 "Tonguetell$Cutter" "runCount" "I", Cond.fieldLink RX0 27 "Tonguetell$Cutter" "choices" "I", Cond.fieldLink RX0 30 "Tonguetell$Cutter" "changePrice" "I", Cond.methodLink RX4 81 yX2_runNumber, Cond.instanceMethod yX2_runNumber, Cond.selects RX2 yX2_runNumber yX2_runNumber, Cond.code yX2_runNumber cX2_runNumber 2 (some .int), Cond.methodLink RX2 19 yX2_letterOrGap, Cond.instanceMethod yX2_letterOrGap, Cond.selects RX2 yX2_letterOrGap yX2_letterOrGap, Cond.code yX2_letterOrGap cX2_letterOrGap 2 (some .int), Cond.fieldLink RX2 9 "Tonguetell$Spelling" "letters" "[I", Cond.methodLink RX4 134 yX3_costOf]
def wsX4_cutTongue_r3 : List Cond := [Cond.instanceMethod yX3_costOf, Cond.selects RX3 yX3_costOf yX3_costOf, Cond.initialized RX3, Cond.code yX3_costOf cX3_costOf 5 (some .int), Cond.fieldLink RX3 15 "Tonguetell$Tally" "sum" "I", Cond.fieldLink RX3 9 "Tonguetell$Tally" "counts" "[I", Cond.methodLink RX4 171 yX0_findToldCut, Cond.instanceMethod yX0_findToldCut, Cond.selects RX0 yX0_findToldCut yX0_findToldCut, Cond.code yX0_findToldCut cX0_findToldCut 3 none, Cond.fieldLink RX0 16 "Tonguetell$Cutter" "told" "[I", Cond.methodLink RX0 33 yX0_fillRest, Cond.instanceMethod yX0_fillRest, Cond.selects RX0 yX0_fillRest yX0_fillRest, Cond.code yX0_fillRest cX0_fillRest 3 none, Cond.fieldLink RX0 20 "Tonguetell$Cutter" "rest" "[[I", Cond.fieldLink RX0 11 "Tonguetell$Cutter" "costs" "[[I", Cond.methodLink RX0 44 yX0_leastBehind, Cond.instanceMethod yX0_leastBehind, Cond.selects RX0 yX0_leastBehind yX0_leastBehind, Cond.code yX0_leastBehind cX0_leastBehind 4 (some .int), Cond.methodLink RX0 36 yX0_cheapest, Cond.instanceMethod yX0_cheapest, Cond.selects RX0 yX0_cheapest yX0_cheapest]
def wsX4_cutTongue_r4 : List Cond := [Cond.code yX0_cheapest cX0_cheapest 5 (some .int), Cond.methodLink RX0 47 yX0_restAfter, Cond.instanceMethod yX0_restAfter, Cond.selects RX0 yX0_restAfter yX0_restAfter, Cond.code yX0_restAfter cX0_restAfter 4 (some .int), Cond.methodLink RX0 51 yX0_priceOfChange, Cond.instanceMethod yX0_priceOfChange, Cond.selects RX0 yX0_priceOfChange yX0_priceOfChange, Cond.code yX0_priceOfChange cX0_priceOfChange 3 (some .int)]
def wsX4_cutTongue : List Cond := .code yX4_cutTongue cX4_cutTongue 2 (some .int) :: ((wsX4_cutTongue_r1 ++ (wsX4_cutTongue_r2 ++ (wsX4_cutTongue_r3 ++ wsX4_cutTongue_r4))) ++ wsX40 ++ wsX00 ++ wsX20 ++ wsX30 ++ (vx_atS RX4 69 "java/lang/IllegalStateException" ["java/lang/RuntimeException", "java/lang/Exception"]).filter goodWord ++ (vx_atS RX4 189 "java/lang/IndexOutOfBoundsException" ["java/lang/RuntimeException", "java/lang/Exception"]).filter goodWord)
def wsX4_stretches_r1 : List Cond := [Cond.fieldLink RX4 37 "Tonguetell" "cutter" "LTonguetell$Cutter;", Cond.methodLink RX4 157 yX4_requireSomeTongue, Cond.instanceMethod yX4_requireSomeTongue, Cond.selects RX4 yX4_requireSomeTongue yX4_requireSomeTongue, Cond.initialized RX4, Cond.code yX4_requireSomeTongue cX4_requireSomeTongue 1 none, Cond.classLink RX4 65 "java/lang/IllegalStateException", Cond.initialized "java/lang/IllegalStateException", Cond.fieldLink RX4 41 "Tonguetell" "tongueCount" "I", Cond.methodLink RX4 160 yX4_layCostsForCut, Cond.instanceMethod yX4_layCostsForCut, Cond.selects RX4 yX4_layCostsForCut yX4_layCostsForCut, Cond.code yX4_layCostsForCut cX4_layCostsForCut 4 none, Cond.fieldLink RX4 10 "Tonguetell" "spelled" "LTonguetell$Spelling;", Cond.fieldLink RX4 48 "Tonguetell" "price" "I", Cond.fieldLink RX4 226 "Tonguetell$Cutter" "costs" "[[I", Cond.fieldLink RX4 23 "Tonguetell" "tallies" "[LTonguetell$Tally;", Cond.methodLink RX4 74 yX2_runCount, Cond.instanceMethod yX2_runCount, Cond.selects RX2 yX2_runCount yX2_runCount, Cond.initialized RX2, Cond.code yX2_runCount cX2_runCount 1 (some .int), Cond.fieldLink RX2 15 "Tonguetell$Spelling" "length" "I", Cond.methodLink RX4 222 yX0_begin]
def wsX4_stretches_r2 : List Cond := [Cond.instanceMethod yX0_begin, Cond.selects RX0 yX0_begin yX0_begin, Cond.initialized RX0, Cond.code yX0_begin cX0_begin 4 none, Cond.fieldLink RX0 23 "Tonguetell$Cutter" "runCount" "I", Cond.fieldLink RX0 27 "Tonguetell$Cutter" "choices" "I", Cond.fieldLink RX0 30 "Tonguetell$Cutter" "changePrice" "I", Cond.methodLink RX4 81 yX2_runNumber, Cond.instanceMethod yX2_runNumber, Cond.selects RX2 yX2_runNumber yX2_runNumber, Cond.code yX2_runNumber cX2_runNumber 2 (some .int), Cond.methodLink RX2 19 yX2_letterOrGap, Cond.instanceMethod yX2_letterOrGap, Cond.selects RX2 yX2_letterOrGap yX2_letterOrGap, Cond.code yX2_letterOrGap cX2_letterOrGap 2 (some .int), Cond.fieldLink RX2 9 "Tonguetell$Spelling" "letters" "[I", Cond.methodLink RX4 134 yX3_costOf, Cond.instanceMethod yX3_costOf, Cond.selects RX3 yX3_costOf yX3_costOf, Cond.initialized RX3, Cond.code yX3_costOf cX3_costOf 5 (some .int), Cond.fieldLink RX3 15 "Tonguetell$Tally" "sum" "I", Cond.fieldLink RX3 9 "Tonguetell$Tally" "counts" "[I", Cond.methodLink RX4 171 yX0_findToldCut]
def wsX4_stretches_r3 : List Cond := [Cond.instanceMethod yX0_findToldCut, Cond.selects RX0 yX0_findToldCut yX0_findToldCut, Cond.code yX0_findToldCut cX0_findToldCut 3 none, Cond.fieldLink RX0 16 "Tonguetell$Cutter" "told" "[I", Cond.methodLink RX0 33 yX0_fillRest, Cond.instanceMethod yX0_fillRest, Cond.selects RX0 yX0_fillRest yX0_fillRest, Cond.code yX0_fillRest cX0_fillRest 3 none, Cond.fieldLink RX0 20 "Tonguetell$Cutter" "rest" "[[I", Cond.fieldLink RX0 11 "Tonguetell$Cutter" "costs" "[[I", Cond.methodLink RX0 44 yX0_leastBehind, Cond.instanceMethod yX0_leastBehind, Cond.selects RX0 yX0_leastBehind yX0_leastBehind, Cond.code yX0_leastBehind cX0_leastBehind 4 (some .int), Cond.methodLink RX0 36 yX0_cheapest, Cond.instanceMethod yX0_cheapest, Cond.selects RX0 yX0_cheapest yX0_cheapest, Cond.code yX0_cheapest cX0_cheapest 5 (some .int), Cond.methodLink RX0 47 yX0_restAfter, Cond.instanceMethod yX0_restAfter, Cond.selects RX0 yX0_restAfter yX0_restAfter, Cond.code yX0_restAfter cX0_restAfter 4 (some .int), Cond.methodLink RX0 51 yX0_priceOfChange, Cond.instanceMethod yX0_priceOfChange]
def wsX4_stretches_r4 : List Cond := [Cond.selects RX0 yX0_priceOfChange yX0_priceOfChange, Cond.code yX0_priceOfChange cX0_priceOfChange 3 (some .int), Cond.methodLink RX4 177 yX0_stretchCount, Cond.instanceMethod yX0_stretchCount, Cond.selects RX0 yX0_stretchCount yX0_stretchCount, Cond.code yX0_stretchCount cX0_stretchCount 3 (some .int)]
def wsX4_stretches : List Cond := .code yX4_stretches cX4_stretches 1 (some .int) :: ((wsX4_stretches_r1 ++ (wsX4_stretches_r2 ++ (wsX4_stretches_r3 ++ wsX4_stretches_r4))) ++ wsX40 ++ wsX00 ++ wsX20 ++ wsX30 ++ (vx_atS RX4 69 "java/lang/IllegalStateException" ["java/lang/RuntimeException", "java/lang/Exception"]).filter goodWord)
def wsX4_fitsNoTongue : List Cond := .code yX4_fitsNoTongue cX4_fitsNoTongue 4 (some .boolean) :: ([.fieldLink RX4 41 "Tonguetell" "tongueCount" "I", .fieldLink RX4 23 "Tonguetell" "tallies" "[LTonguetell$Tally;", .methodLink RX4 134 yX3_costOf, .instanceMethod yX3_costOf, .selects RX3 yX3_costOf yX3_costOf, .initialized RX3, .code yX3_costOf cX3_costOf 5 (some .int), .fieldLink RX3 15 "Tonguetell$Tally" "sum" "I", .fieldLink RX3 9 "Tonguetell$Tally" "counts" "[I"] ++ wsX40 ++ wsX30)
def wsX4_learn_r1 : List Cond := [Cond.classLink RX4 55 "java/lang/IllegalArgumentException", Cond.initialized "java/lang/IllegalArgumentException", Cond.classLink RX4 65 "java/lang/IllegalStateException", Cond.initialized "java/lang/IllegalStateException", Cond.fieldLink RX4 41 "Tonguetell" "tongueCount" "I", Cond.fieldLink RX4 30 "Tonguetell" "shelf" "LTonguetell$Shelf;", Cond.fieldLink RX4 10 "Tonguetell" "spelled" "LTonguetell$Spelling;", Cond.methodLink RX4 95 yX1_isFull, Cond.instanceMethod yX1_isFull, Cond.selects RX1 yX1_isFull yX1_isFull, Cond.initialized RX1, Cond.code yX1_isFull cX1_isFull 1 (some .boolean), Cond.methodLink RX1 30 yX1_firstSlotWith, Cond.instanceMethod yX1_firstSlotWith, Cond.selects RX1 yX1_firstSlotWith yX1_firstSlotWith, Cond.code yX1_firstSlotWith cX1_firstSlotWith 3 (some .int), Cond.fieldLink RX1 9 "Tonguetell$Shelf" "numberIn" "[I", Cond.methodLink RX4 74 yX2_runCount, Cond.instanceMethod yX2_runCount, Cond.selects RX2 yX2_runCount yX2_runCount, Cond.initialized RX2, Cond.code yX2_runCount cX2_runCount 1 (some .int), Cond.fieldLink RX2 15 "Tonguetell$Spelling" "length" "I", Cond.methodLink RX4 81 yX2_runNumber]
def wsX4_learn_r2 : List Cond := [Cond.instanceMethod yX2_runNumber, Cond.selects RX2 yX2_runNumber yX2_runNumber, Cond.code yX2_runNumber cX2_runNumber 2 (some .int), Cond.methodLink RX2 19 yX2_letterOrGap, Cond.instanceMethod yX2_letterOrGap, Cond.selects RX2 yX2_letterOrGap yX2_letterOrGap, Cond.code yX2_letterOrGap cX2_letterOrGap 2 (some .int), Cond.fieldLink RX2 9 "Tonguetell$Spelling" "letters" "[I", Cond.methodLink RX4 182 yX4_fitsNoTongue, Cond.instanceMethod yX4_fitsNoTongue, Cond.selects RX4 yX4_fitsNoTongue yX4_fitsNoTongue, Cond.initialized RX4, Cond.code yX4_fitsNoTongue cX4_fitsNoTongue 4 (some .boolean), Cond.fieldLink RX4 23 "Tonguetell" "tallies" "[LTonguetell$Tally;", Cond.methodLink RX4 134 yX3_costOf, Cond.instanceMethod yX3_costOf, Cond.selects RX3 yX3_costOf yX3_costOf, Cond.initialized RX3, Cond.code yX3_costOf cX3_costOf 5 (some .int), Cond.fieldLink RX3 15 "Tonguetell$Tally" "sum" "I", Cond.fieldLink RX3 9 "Tonguetell$Tally" "counts" "[I", Cond.methodLink RX4 87 yX4_newTongue, Cond.instanceMethod yX4_newTongue, Cond.selects RX4 yX4_newTongue yX4_newTongue]
def wsX4_learn_r3 : List Cond := [Cond.code yX4_newTongue cX4_newTongue 2 (some .int), Cond.methodLink RX4 101 yX4_teachRuns, Cond.instanceMethod yX4_teachRuns, Cond.selects RX4 yX4_teachRuns yX4_teachRuns, Cond.code yX4_teachRuns cX4_teachRuns 7 (some .int), Cond.fieldLink RX4 115 "Tonguetell$Shelf" "runsIn" "[[I", Cond.fieldLink RX4 211 "Tonguetell$Shelf" "numberIn" "[I", Cond.methodLink RX4 204 yX1_take, Cond.instanceMethod yX1_take, Cond.selects RX1 yX1_take yX1_take, Cond.code yX1_take cX1_take 4 (some .int), Cond.fieldLink RX1 26 "Tonguetell$Shelf" "nextNumber" "I", Cond.fieldLink RX1 15 "Tonguetell$Shelf" "tongueIn" "[I", Cond.fieldLink RX1 18 "Tonguetell$Shelf" "lengthIn" "[I", Cond.methodLink RX4 208 yX3_add, Cond.instanceMethod yX3_add, Cond.selects RX3 yX3_add yX3_add, Cond.code yX3_add cX3_add 2 none]
def wsX4_learn : List Cond := .code yX4_learn cX4_learn 6 (some .int) :: ((wsX4_learn_r1 ++ (wsX4_learn_r2 ++ wsX4_learn_r3)) ++ wsX40 ++ wsX10 ++ wsX20 ++ wsX30 ++ (vx_atS RX4 59 "java/lang/IllegalArgumentException" ["java/lang/RuntimeException", "java/lang/Exception"]).filter goodWord ++ (vx_atS RX4 69 "java/lang/IllegalStateException" ["java/lang/RuntimeException", "java/lang/Exception"]).filter goodWord)
def wsX5_init : List Cond := .code yX5_init cX5_init 1 none :: ([.methodLink RX5 1 objectInit, .instanceMethod objectInit, .code objectInit ⟨#[0xb1]⟩ 1 none, .arrayClass .int, .fieldLink RX5 7 "TonguetellModel" "spelled" "[I", .fieldLink RX5 13 "TonguetellModel" "margin" "I", .fieldLink RX5 17 "TonguetellModel" "price" "I", .fieldLink RX5 20 "TonguetellModel" "numbers" "[I", .fieldLink RX5 23 "TonguetellModel" "whose" "[I", .fieldLink RX5 26 "TonguetellModel" "wide" "[I", .fieldLink RX5 29 "TonguetellModel" "kept" "[I", .fieldLink RX5 32 "TonguetellModel" "rest" "[I", .fieldLink RX5 35 "TonguetellModel" "thrown" "I"] ++ wsX50)
def wsX5_thrown : List Cond := .code yX5_thrown cX5_thrown 1 (some .int) :: ([.fieldLink RX5 35 "TonguetellModel" "thrown" "I"] ++ wsX50)
def wsX5_fails : List Cond := .code yX5_fails cX5_fails 2 (some .int) :: ([.fieldLink RX5 35 "TonguetellModel" "thrown" "I"] ++ wsX50)
def wsX5_in : List Cond := .code yX5_in cX5_in 3 (some .boolean) :: ([])
def wsX5_isTongue : List Cond := .code yX5_isTongue cX5_isTongue 2 (some .boolean) :: ([.fieldLink RX5 38 "TonguetellModel" "tongueMany" "I", .methodLink RX5 41 yX5_in, .static yX5_in, .initialized RX5, .code yX5_in cX5_in 3 (some .boolean)] ++ wsX50)
def wsX5_spell : List Cond := .code yX5_spell cX5_spell 3 (some .int) :: ([.fieldLink RX5 45 "TonguetellModel" "letters" "I", .fieldLink RX5 35 "TonguetellModel" "thrown" "I", .fieldLink RX5 7 "TonguetellModel" "spelled" "[I"] ++ wsX50)
def wsX5_clearSpelled : List Cond := .code yX5_clearSpelled cX5_clearSpelled 2 (some .int) :: ([.fieldLink RX5 35 "TonguetellModel" "thrown" "I", .fieldLink RX5 45 "TonguetellModel" "letters" "I"] ++ wsX50)
def wsX5_runMany : List Cond := .code yX5_runMany cX5_runMany 1 (some .int) :: ([.fieldLink RX5 45 "TonguetellModel" "letters" "I"] ++ wsX50)
def wsX5_run : List Cond := .code yX5_run cX5_run 4 (some .int) :: ([.fieldLink RX5 7 "TonguetellModel" "spelled" "[I", .fieldLink RX5 45 "TonguetellModel" "letters" "I"] ++ wsX50)
def wsX5_runs : List Cond := .code yX5_runs cX5_runs 1 (some .int) :: ([.fieldLink RX5 35 "TonguetellModel" "thrown" "I", .methodLink RX5 48 yX5_runMany, .instanceMethod yX5_runMany, .selects RX5 yX5_runMany yX5_runMany, .initialized RX5, .code yX5_runMany cX5_runMany 1 (some .int), .fieldLink RX5 45 "TonguetellModel" "letters" "I"] ++ wsX50)
def wsX5_runAt : List Cond := .code yX5_runAt cX5_runAt 2 (some .int) :: ([.fieldLink RX5 35 "TonguetellModel" "thrown" "I", .methodLink RX5 48 yX5_runMany, .instanceMethod yX5_runMany, .selects RX5 yX5_runMany yX5_runMany, .initialized RX5, .code yX5_runMany cX5_runMany 1 (some .int), .fieldLink RX5 45 "TonguetellModel" "letters" "I", .methodLink RX5 41 yX5_in, .static yX5_in, .code yX5_in cX5_in 3 (some .boolean), .methodLink RX5 52 yX5_run, .instanceMethod yX5_run, .selects RX5 yX5_run yX5_run, .code yX5_run cX5_run 4 (some .int), .fieldLink RX5 7 "TonguetellModel" "spelled" "[I", .methodLink RX5 56 yX5_fails, .instanceMethod yX5_fails, .selects RX5 yX5_fails yX5_fails, .code yX5_fails cX5_fails 2 (some .int)] ++ wsX50)
def wsX5_addTongue : List Cond := .code yX5_addTongue cX5_addTongue 1 (some .int) :: ([.fieldLink RX5 38 "TonguetellModel" "tongueMany" "I", .fieldLink RX5 35 "TonguetellModel" "thrown" "I"] ++ wsX50)
def wsX5_tongues : List Cond := .code yX5_tongues cX5_tongues 1 (some .int) :: ([.fieldLink RX5 35 "TonguetellModel" "thrown" "I", .fieldLink RX5 38 "TonguetellModel" "tongueMany" "I"] ++ wsX50)
def wsX5_keeps : List Cond := .code yX5_keeps cX5_keeps 5 (some .int) :: ([.fieldLink RX5 20 "TonguetellModel" "numbers" "[I", .fieldLink RX5 59 "TonguetellModel" "textMany" "I", .fieldLink RX5 62 "TonguetellModel" "taught" "I", .fieldLink RX5 23 "TonguetellModel" "whose" "[I", .fieldLink RX5 26 "TonguetellModel" "wide" "[I", .fieldLink RX5 29 "TonguetellModel" "kept" "[I", .methodLink RX5 52 yX5_run, .instanceMethod yX5_run, .selects RX5 yX5_run yX5_run, .initialized RX5, .code yX5_run cX5_run 4 (some .int), .fieldLink RX5 7 "TonguetellModel" "spelled" "[I", .fieldLink RX5 45 "TonguetellModel" "letters" "I"] ++ wsX50)
def wsX5_teach_r1 : List Cond := [Cond.fieldLink RX5 45 "TonguetellModel" "letters" "I", Cond.fieldLink RX5 59 "TonguetellModel" "textMany" "I", Cond.fieldLink RX5 35 "TonguetellModel" "thrown" "I", Cond.methodLink RX5 65 yX5_isTongue, Cond.instanceMethod yX5_isTongue, Cond.selects RX5 yX5_isTongue yX5_isTongue, Cond.initialized RX5, Cond.code yX5_isTongue cX5_isTongue 2 (some .boolean), Cond.fieldLink RX5 38 "TonguetellModel" "tongueMany" "I", Cond.methodLink RX5 41 yX5_in, Cond.static yX5_in, Cond.code yX5_in cX5_in 3 (some .boolean), Cond.methodLink RX5 48 yX5_runMany, Cond.instanceMethod yX5_runMany, Cond.selects RX5 yX5_runMany yX5_runMany, Cond.code yX5_runMany cX5_runMany 1 (some .int), Cond.methodLink RX5 69 yX5_keeps, Cond.instanceMethod yX5_keeps, Cond.selects RX5 yX5_keeps yX5_keeps, Cond.code yX5_keeps cX5_keeps 5 (some .int), Cond.fieldLink RX5 20 "TonguetellModel" "numbers" "[I", Cond.fieldLink RX5 62 "TonguetellModel" "taught" "I", Cond.fieldLink RX5 23 "TonguetellModel" "whose" "[I", Cond.fieldLink RX5 26 "TonguetellModel" "wide" "[I"]
def wsX5_teach_r2 : List Cond := [Cond.fieldLink RX5 29 "TonguetellModel" "kept" "[I", Cond.methodLink RX5 52 yX5_run, Cond.instanceMethod yX5_run, Cond.selects RX5 yX5_run yX5_run, Cond.code yX5_run cX5_run 4 (some .int), Cond.fieldLink RX5 7 "TonguetellModel" "spelled" "[I"]
def wsX5_teach : List Cond := .code yX5_teach cX5_teach 2 (some .int) :: ((wsX5_teach_r1 ++ wsX5_teach_r2) ++ wsX50)
def wsX5_slot : List Cond := .code yX5_slot cX5_slot 4 (some .int) :: ([.fieldLink RX5 59 "TonguetellModel" "textMany" "I", .fieldLink RX5 20 "TonguetellModel" "numbers" "[I"] ++ wsX50)
def wsX5_withdraw : List Cond := .code yX5_withdraw cX5_withdraw 6 (some .int) :: ([.fieldLink RX5 35 "TonguetellModel" "thrown" "I", .fieldLink RX5 26 "TonguetellModel" "wide" "[I", .fieldLink RX5 59 "TonguetellModel" "textMany" "I", .fieldLink RX5 20 "TonguetellModel" "numbers" "[I", .fieldLink RX5 23 "TonguetellModel" "whose" "[I", .fieldLink RX5 29 "TonguetellModel" "kept" "[I", .methodLink RX5 73 yX5_slot, .instanceMethod yX5_slot, .selects RX5 yX5_slot yX5_slot, .initialized RX5, .code yX5_slot cX5_slot 4 (some .int)] ++ wsX50)
def wsX5_tongueOf : List Cond := .code yX5_tongueOf cX5_tongueOf 3 (some .int) :: ([.fieldLink RX5 35 "TonguetellModel" "thrown" "I", .fieldLink RX5 23 "TonguetellModel" "whose" "[I", .methodLink RX5 73 yX5_slot, .instanceMethod yX5_slot, .selects RX5 yX5_slot yX5_slot, .initialized RX5, .code yX5_slot cX5_slot 4 (some .int), .fieldLink RX5 59 "TonguetellModel" "textMany" "I", .fieldLink RX5 20 "TonguetellModel" "numbers" "[I"] ++ wsX50)
def wsX5_totalOf : List Cond := .code yX5_totalOf cX5_totalOf 4 (some .int) :: ([.fieldLink RX5 59 "TonguetellModel" "textMany" "I", .fieldLink RX5 23 "TonguetellModel" "whose" "[I", .fieldLink RX5 26 "TonguetellModel" "wide" "[I"] ++ wsX50)
def wsX5_countOf : List Cond := .code yX5_countOf cX5_countOf 6 (some .int) :: ([.fieldLink RX5 59 "TonguetellModel" "textMany" "I", .fieldLink RX5 26 "TonguetellModel" "wide" "[I", .fieldLink RX5 23 "TonguetellModel" "whose" "[I", .fieldLink RX5 29 "TonguetellModel" "kept" "[I"] ++ wsX50)
def wsX5_costOf : List Cond := .code yX5_costOf cX5_costOf 6 (some .int) :: ([.methodLink RX5 76 yX5_countOf, .instanceMethod yX5_countOf, .selects RX5 yX5_countOf yX5_countOf, .initialized RX5, .code yX5_countOf cX5_countOf 6 (some .int), .fieldLink RX5 59 "TonguetellModel" "textMany" "I", .fieldLink RX5 26 "TonguetellModel" "wide" "[I", .fieldLink RX5 23 "TonguetellModel" "whose" "[I", .fieldLink RX5 29 "TonguetellModel" "kept" "[I", .methodLink RX5 80 yX5_totalOf, .instanceMethod yX5_totalOf, .selects RX5 yX5_totalOf yX5_totalOf, .code yX5_totalOf cX5_totalOf 4 (some .int)] ++ wsX50)
def wsX5_rankOf : List Cond := .code yX5_rankOf cX5_rankOf 7 (some .int) :: ([.methodLink RX5 76 yX5_countOf, .instanceMethod yX5_countOf, .selects RX5 yX5_countOf yX5_countOf, .initialized RX5, .code yX5_countOf cX5_countOf 6 (some .int), .fieldLink RX5 59 "TonguetellModel" "textMany" "I", .fieldLink RX5 26 "TonguetellModel" "wide" "[I", .fieldLink RX5 23 "TonguetellModel" "whose" "[I", .fieldLink RX5 29 "TonguetellModel" "kept" "[I"] ++ wsX50)
def wsX5_total : List Cond := .code yX5_total cX5_total 2 (some .int) :: ([.fieldLink RX5 35 "TonguetellModel" "thrown" "I", .methodLink RX5 65 yX5_isTongue, .instanceMethod yX5_isTongue, .selects RX5 yX5_isTongue yX5_isTongue, .initialized RX5, .code yX5_isTongue cX5_isTongue 2 (some .boolean), .fieldLink RX5 38 "TonguetellModel" "tongueMany" "I", .methodLink RX5 41 yX5_in, .static yX5_in, .code yX5_in cX5_in 3 (some .boolean), .methodLink RX5 80 yX5_totalOf, .instanceMethod yX5_totalOf, .selects RX5 yX5_totalOf yX5_totalOf, .code yX5_totalOf cX5_totalOf 4 (some .int), .fieldLink RX5 59 "TonguetellModel" "textMany" "I", .fieldLink RX5 23 "TonguetellModel" "whose" "[I", .fieldLink RX5 26 "TonguetellModel" "wide" "[I", .methodLink RX5 56 yX5_fails, .instanceMethod yX5_fails, .selects RX5 yX5_fails yX5_fails, .code yX5_fails cX5_fails 2 (some .int)] ++ wsX50)
def wsX5_isRun : List Cond := .code yX5_isRun cX5_isRun 3 (some .boolean) :: ([.fieldLink RX5 35 "TonguetellModel" "thrown" "I", .methodLink RX5 65 yX5_isTongue, .instanceMethod yX5_isTongue, .selects RX5 yX5_isTongue yX5_isTongue, .initialized RX5, .code yX5_isTongue cX5_isTongue 2 (some .boolean), .fieldLink RX5 38 "TonguetellModel" "tongueMany" "I", .methodLink RX5 41 yX5_in, .static yX5_in, .code yX5_in cX5_in 3 (some .boolean)] ++ wsX50)
def wsX5_count : List Cond := .code yX5_count cX5_count 3 (some .int) :: ([.methodLink RX5 83 yX5_isRun, .instanceMethod yX5_isRun, .selects RX5 yX5_isRun yX5_isRun, .initialized RX5, .code yX5_isRun cX5_isRun 3 (some .boolean), .fieldLink RX5 35 "TonguetellModel" "thrown" "I", .methodLink RX5 65 yX5_isTongue, .instanceMethod yX5_isTongue, .selects RX5 yX5_isTongue yX5_isTongue, .code yX5_isTongue cX5_isTongue 2 (some .boolean), .fieldLink RX5 38 "TonguetellModel" "tongueMany" "I", .methodLink RX5 41 yX5_in, .static yX5_in, .code yX5_in cX5_in 3 (some .boolean), .methodLink RX5 76 yX5_countOf, .instanceMethod yX5_countOf, .selects RX5 yX5_countOf yX5_countOf, .code yX5_countOf cX5_countOf 6 (some .int), .fieldLink RX5 59 "TonguetellModel" "textMany" "I", .fieldLink RX5 26 "TonguetellModel" "wide" "[I", .fieldLink RX5 23 "TonguetellModel" "whose" "[I", .fieldLink RX5 29 "TonguetellModel" "kept" "[I"] ++ wsX50)
def wsX5_cost_r1 : List Cond := [Cond.methodLink RX5 83 yX5_isRun, Cond.instanceMethod yX5_isRun, Cond.selects RX5 yX5_isRun yX5_isRun, Cond.initialized RX5, Cond.code yX5_isRun cX5_isRun 3 (some .boolean), Cond.fieldLink RX5 35 "TonguetellModel" "thrown" "I", Cond.methodLink RX5 65 yX5_isTongue, Cond.instanceMethod yX5_isTongue, Cond.selects RX5 yX5_isTongue yX5_isTongue, Cond.code yX5_isTongue cX5_isTongue 2 (some .boolean), Cond.fieldLink RX5 38 "TonguetellModel" "tongueMany" "I", Cond.methodLink RX5 41 yX5_in, Cond.static yX5_in, Cond.code yX5_in cX5_in 3 (some .boolean), Cond.methodLink RX5 87 yX5_costOf, Cond.instanceMethod yX5_costOf, Cond.selects RX5 yX5_costOf yX5_costOf, Cond.code yX5_costOf cX5_costOf 6 (some .int), Cond.methodLink RX5 76 yX5_countOf, Cond.instanceMethod yX5_countOf, Cond.selects RX5 yX5_countOf yX5_countOf, Cond.code yX5_countOf cX5_countOf 6 (some .int), Cond.fieldLink RX5 59 "TonguetellModel" "textMany" "I", Cond.fieldLink RX5 26 "TonguetellModel" "wide" "[I"]
def wsX5_cost_r2 : List Cond := [Cond.fieldLink RX5 23 "TonguetellModel" "whose" "[I", Cond.fieldLink RX5 29 "TonguetellModel" "kept" "[I", Cond.methodLink RX5 80 yX5_totalOf, Cond.instanceMethod yX5_totalOf, Cond.selects RX5 yX5_totalOf yX5_totalOf, Cond.code yX5_totalOf cX5_totalOf 4 (some .int)]
def wsX5_cost : List Cond := .code yX5_cost cX5_cost 3 (some .int) :: ((wsX5_cost_r1 ++ wsX5_cost_r2) ++ wsX50)
def wsX5_rank_r1 : List Cond := [Cond.methodLink RX5 83 yX5_isRun, Cond.instanceMethod yX5_isRun, Cond.selects RX5 yX5_isRun yX5_isRun, Cond.initialized RX5, Cond.code yX5_isRun cX5_isRun 3 (some .boolean), Cond.fieldLink RX5 35 "TonguetellModel" "thrown" "I", Cond.methodLink RX5 65 yX5_isTongue, Cond.instanceMethod yX5_isTongue, Cond.selects RX5 yX5_isTongue yX5_isTongue, Cond.code yX5_isTongue cX5_isTongue 2 (some .boolean), Cond.fieldLink RX5 38 "TonguetellModel" "tongueMany" "I", Cond.methodLink RX5 41 yX5_in, Cond.static yX5_in, Cond.code yX5_in cX5_in 3 (some .boolean), Cond.methodLink RX5 90 yX5_rankOf, Cond.instanceMethod yX5_rankOf, Cond.selects RX5 yX5_rankOf yX5_rankOf, Cond.code yX5_rankOf cX5_rankOf 7 (some .int), Cond.methodLink RX5 76 yX5_countOf, Cond.instanceMethod yX5_countOf, Cond.selects RX5 yX5_countOf yX5_countOf, Cond.code yX5_countOf cX5_countOf 6 (some .int), Cond.fieldLink RX5 59 "TonguetellModel" "textMany" "I", Cond.fieldLink RX5 26 "TonguetellModel" "wide" "[I"]
def wsX5_rank_r2 : List Cond := [Cond.fieldLink RX5 23 "TonguetellModel" "whose" "[I", Cond.fieldLink RX5 29 "TonguetellModel" "kept" "[I"]
def wsX5_rank : List Cond := .code yX5_rank cX5_rank 3 (some .int) :: ((wsX5_rank_r1 ++ wsX5_rank_r2) ++ wsX50)
def wsX5_costOfText_r1 : List Cond := [Cond.methodLink RX5 48 yX5_runMany, Cond.instanceMethod yX5_runMany, Cond.selects RX5 yX5_runMany yX5_runMany, Cond.initialized RX5, Cond.code yX5_runMany cX5_runMany 1 (some .int), Cond.fieldLink RX5 45 "TonguetellModel" "letters" "I", Cond.methodLink RX5 52 yX5_run, Cond.instanceMethod yX5_run, Cond.selects RX5 yX5_run yX5_run, Cond.code yX5_run cX5_run 4 (some .int), Cond.fieldLink RX5 7 "TonguetellModel" "spelled" "[I", Cond.methodLink RX5 87 yX5_costOf, Cond.instanceMethod yX5_costOf, Cond.selects RX5 yX5_costOf yX5_costOf, Cond.code yX5_costOf cX5_costOf 6 (some .int), Cond.methodLink RX5 76 yX5_countOf, Cond.instanceMethod yX5_countOf, Cond.selects RX5 yX5_countOf yX5_countOf, Cond.code yX5_countOf cX5_countOf 6 (some .int), Cond.fieldLink RX5 59 "TonguetellModel" "textMany" "I", Cond.fieldLink RX5 26 "TonguetellModel" "wide" "[I", Cond.fieldLink RX5 23 "TonguetellModel" "whose" "[I", Cond.fieldLink RX5 29 "TonguetellModel" "kept" "[I", Cond.methodLink RX5 80 yX5_totalOf]
def wsX5_costOfText_r2 : List Cond := [Cond.instanceMethod yX5_totalOf, Cond.selects RX5 yX5_totalOf yX5_totalOf, Cond.code yX5_totalOf cX5_totalOf 4 (some .int)]
def wsX5_costOfText : List Cond := .code yX5_costOfText cX5_costOfText 4 (some .int) :: ((wsX5_costOfText_r1 ++ wsX5_costOfText_r2) ++ wsX50)
def wsX5_inText : List Cond := .code yX5_inText cX5_inText 4 (some .int) :: ([.methodLink RX5 48 yX5_runMany, .instanceMethod yX5_runMany, .selects RX5 yX5_runMany yX5_runMany, .initialized RX5, .code yX5_runMany cX5_runMany 1 (some .int), .fieldLink RX5 45 "TonguetellModel" "letters" "I", .methodLink RX5 52 yX5_run, .instanceMethod yX5_run, .selects RX5 yX5_run yX5_run, .code yX5_run cX5_run 4 (some .int), .fieldLink RX5 7 "TonguetellModel" "spelled" "[I"] ++ wsX50)
def wsX5_distanceOf_r1 : List Cond := [Cond.methodLink RX5 48 yX5_runMany, Cond.instanceMethod yX5_runMany, Cond.selects RX5 yX5_runMany yX5_runMany, Cond.initialized RX5, Cond.code yX5_runMany cX5_runMany 1 (some .int), Cond.fieldLink RX5 45 "TonguetellModel" "letters" "I", Cond.methodLink RX5 93 yX5_inText, Cond.instanceMethod yX5_inText, Cond.selects RX5 yX5_inText yX5_inText, Cond.code yX5_inText cX5_inText 4 (some .int), Cond.methodLink RX5 52 yX5_run, Cond.instanceMethod yX5_run, Cond.selects RX5 yX5_run yX5_run, Cond.code yX5_run cX5_run 4 (some .int), Cond.fieldLink RX5 7 "TonguetellModel" "spelled" "[I", Cond.methodLink RX5 90 yX5_rankOf, Cond.instanceMethod yX5_rankOf, Cond.selects RX5 yX5_rankOf yX5_rankOf, Cond.code yX5_rankOf cX5_rankOf 7 (some .int), Cond.methodLink RX5 76 yX5_countOf, Cond.instanceMethod yX5_countOf, Cond.selects RX5 yX5_countOf yX5_countOf, Cond.code yX5_countOf cX5_countOf 6 (some .int), Cond.fieldLink RX5 59 "TonguetellModel" "textMany" "I"]
def wsX5_distanceOf_r2 : List Cond := [Cond.fieldLink RX5 26 "TonguetellModel" "wide" "[I", Cond.fieldLink RX5 23 "TonguetellModel" "whose" "[I", Cond.fieldLink RX5 29 "TonguetellModel" "kept" "[I"]
def wsX5_distanceOf : List Cond := .code yX5_distanceOf cX5_distanceOf 8 (some .int) :: ((wsX5_distanceOf_r1 ++ wsX5_distanceOf_r2) ++ wsX50)
def wsX5_textCost_r1 : List Cond := [Cond.fieldLink RX5 35 "TonguetellModel" "thrown" "I", Cond.methodLink RX5 65 yX5_isTongue, Cond.instanceMethod yX5_isTongue, Cond.selects RX5 yX5_isTongue yX5_isTongue, Cond.initialized RX5, Cond.code yX5_isTongue cX5_isTongue 2 (some .boolean), Cond.fieldLink RX5 38 "TonguetellModel" "tongueMany" "I", Cond.methodLink RX5 41 yX5_in, Cond.static yX5_in, Cond.code yX5_in cX5_in 3 (some .boolean), Cond.methodLink RX5 96 yX5_costOfText, Cond.instanceMethod yX5_costOfText, Cond.selects RX5 yX5_costOfText yX5_costOfText, Cond.code yX5_costOfText cX5_costOfText 4 (some .int), Cond.methodLink RX5 48 yX5_runMany, Cond.instanceMethod yX5_runMany, Cond.selects RX5 yX5_runMany yX5_runMany, Cond.code yX5_runMany cX5_runMany 1 (some .int), Cond.fieldLink RX5 45 "TonguetellModel" "letters" "I", Cond.methodLink RX5 52 yX5_run, Cond.instanceMethod yX5_run, Cond.selects RX5 yX5_run yX5_run, Cond.code yX5_run cX5_run 4 (some .int), Cond.fieldLink RX5 7 "TonguetellModel" "spelled" "[I"]
def wsX5_textCost_r2 : List Cond := [Cond.methodLink RX5 87 yX5_costOf, Cond.instanceMethod yX5_costOf, Cond.selects RX5 yX5_costOf yX5_costOf, Cond.code yX5_costOf cX5_costOf 6 (some .int), Cond.methodLink RX5 76 yX5_countOf, Cond.instanceMethod yX5_countOf, Cond.selects RX5 yX5_countOf yX5_countOf, Cond.code yX5_countOf cX5_countOf 6 (some .int), Cond.fieldLink RX5 59 "TonguetellModel" "textMany" "I", Cond.fieldLink RX5 26 "TonguetellModel" "wide" "[I", Cond.fieldLink RX5 23 "TonguetellModel" "whose" "[I", Cond.fieldLink RX5 29 "TonguetellModel" "kept" "[I", Cond.methodLink RX5 80 yX5_totalOf, Cond.instanceMethod yX5_totalOf, Cond.selects RX5 yX5_totalOf yX5_totalOf, Cond.code yX5_totalOf cX5_totalOf 4 (some .int)]
def wsX5_textCost : List Cond := .code yX5_textCost cX5_textCost 2 (some .int) :: ((wsX5_textCost_r1 ++ wsX5_textCost_r2) ++ wsX50)
def wsX5_distance_r1 : List Cond := [Cond.fieldLink RX5 35 "TonguetellModel" "thrown" "I", Cond.methodLink RX5 65 yX5_isTongue, Cond.instanceMethod yX5_isTongue, Cond.selects RX5 yX5_isTongue yX5_isTongue, Cond.initialized RX5, Cond.code yX5_isTongue cX5_isTongue 2 (some .boolean), Cond.fieldLink RX5 38 "TonguetellModel" "tongueMany" "I", Cond.methodLink RX5 41 yX5_in, Cond.static yX5_in, Cond.code yX5_in cX5_in 3 (some .boolean), Cond.methodLink RX5 99 yX5_distanceOf, Cond.instanceMethod yX5_distanceOf, Cond.selects RX5 yX5_distanceOf yX5_distanceOf, Cond.code yX5_distanceOf cX5_distanceOf 8 (some .int), Cond.methodLink RX5 48 yX5_runMany, Cond.instanceMethod yX5_runMany, Cond.selects RX5 yX5_runMany yX5_runMany, Cond.code yX5_runMany cX5_runMany 1 (some .int), Cond.fieldLink RX5 45 "TonguetellModel" "letters" "I", Cond.methodLink RX5 93 yX5_inText, Cond.instanceMethod yX5_inText, Cond.selects RX5 yX5_inText yX5_inText, Cond.code yX5_inText cX5_inText 4 (some .int), Cond.methodLink RX5 52 yX5_run]
def wsX5_distance_r2 : List Cond := [Cond.instanceMethod yX5_run, Cond.selects RX5 yX5_run yX5_run, Cond.code yX5_run cX5_run 4 (some .int), Cond.fieldLink RX5 7 "TonguetellModel" "spelled" "[I", Cond.methodLink RX5 90 yX5_rankOf, Cond.instanceMethod yX5_rankOf, Cond.selects RX5 yX5_rankOf yX5_rankOf, Cond.code yX5_rankOf cX5_rankOf 7 (some .int), Cond.methodLink RX5 76 yX5_countOf, Cond.instanceMethod yX5_countOf, Cond.selects RX5 yX5_countOf yX5_countOf, Cond.code yX5_countOf cX5_countOf 6 (some .int), Cond.fieldLink RX5 59 "TonguetellModel" "textMany" "I", Cond.fieldLink RX5 26 "TonguetellModel" "wide" "[I", Cond.fieldLink RX5 23 "TonguetellModel" "whose" "[I", Cond.fieldLink RX5 29 "TonguetellModel" "kept" "[I"]
def wsX5_distance : List Cond := .code yX5_distance cX5_distance 2 (some .int) :: ((wsX5_distance_r1 ++ wsX5_distance_r2) ++ wsX50)
def wsX5_setMargin : List Cond := .code yX5_setMargin cX5_setMargin 3 (some .int) :: ([.fieldLink RX5 35 "TonguetellModel" "thrown" "I", .fieldLink RX5 13 "TonguetellModel" "margin" "I", .methodLink RX5 41 yX5_in, .static yX5_in, .initialized RX5, .code yX5_in cX5_in 3 (some .boolean)] ++ wsX50)
def wsX5_tell_r1 : List Cond := [Cond.fieldLink RX5 35 "TonguetellModel" "thrown" "I", Cond.fieldLink RX5 38 "TonguetellModel" "tongueMany" "I", Cond.fieldLink RX5 45 "TonguetellModel" "letters" "I", Cond.fieldLink RX5 13 "TonguetellModel" "margin" "I", Cond.methodLink RX5 96 yX5_costOfText, Cond.instanceMethod yX5_costOfText, Cond.selects RX5 yX5_costOfText yX5_costOfText, Cond.initialized RX5, Cond.code yX5_costOfText cX5_costOfText 4 (some .int), Cond.methodLink RX5 48 yX5_runMany, Cond.instanceMethod yX5_runMany, Cond.selects RX5 yX5_runMany yX5_runMany, Cond.code yX5_runMany cX5_runMany 1 (some .int), Cond.methodLink RX5 52 yX5_run, Cond.instanceMethod yX5_run, Cond.selects RX5 yX5_run yX5_run, Cond.code yX5_run cX5_run 4 (some .int), Cond.fieldLink RX5 7 "TonguetellModel" "spelled" "[I", Cond.methodLink RX5 87 yX5_costOf, Cond.instanceMethod yX5_costOf, Cond.selects RX5 yX5_costOf yX5_costOf, Cond.code yX5_costOf cX5_costOf 6 (some .int), Cond.methodLink RX5 76 yX5_countOf, Cond.instanceMethod yX5_countOf]
def wsX5_tell_r2 : List Cond := [Cond.selects RX5 yX5_countOf yX5_countOf, Cond.code yX5_countOf cX5_countOf 6 (some .int), Cond.fieldLink RX5 59 "TonguetellModel" "textMany" "I", Cond.fieldLink RX5 26 "TonguetellModel" "wide" "[I", Cond.fieldLink RX5 23 "TonguetellModel" "whose" "[I", Cond.fieldLink RX5 29 "TonguetellModel" "kept" "[I", Cond.methodLink RX5 80 yX5_totalOf, Cond.instanceMethod yX5_totalOf, Cond.selects RX5 yX5_totalOf yX5_totalOf, Cond.code yX5_totalOf cX5_totalOf 4 (some .int)]
def wsX5_tell : List Cond := .code yX5_tell cX5_tell 4 (some .int) :: ((wsX5_tell_r1 ++ wsX5_tell_r2) ++ wsX50)
def wsX5_tellByRanks_r1 : List Cond := [Cond.fieldLink RX5 35 "TonguetellModel" "thrown" "I", Cond.fieldLink RX5 38 "TonguetellModel" "tongueMany" "I", Cond.fieldLink RX5 45 "TonguetellModel" "letters" "I", Cond.methodLink RX5 99 yX5_distanceOf, Cond.instanceMethod yX5_distanceOf, Cond.selects RX5 yX5_distanceOf yX5_distanceOf, Cond.initialized RX5, Cond.code yX5_distanceOf cX5_distanceOf 8 (some .int), Cond.methodLink RX5 48 yX5_runMany, Cond.instanceMethod yX5_runMany, Cond.selects RX5 yX5_runMany yX5_runMany, Cond.code yX5_runMany cX5_runMany 1 (some .int), Cond.methodLink RX5 93 yX5_inText, Cond.instanceMethod yX5_inText, Cond.selects RX5 yX5_inText yX5_inText, Cond.code yX5_inText cX5_inText 4 (some .int), Cond.methodLink RX5 52 yX5_run, Cond.instanceMethod yX5_run, Cond.selects RX5 yX5_run yX5_run, Cond.code yX5_run cX5_run 4 (some .int), Cond.fieldLink RX5 7 "TonguetellModel" "spelled" "[I", Cond.methodLink RX5 90 yX5_rankOf, Cond.instanceMethod yX5_rankOf, Cond.selects RX5 yX5_rankOf yX5_rankOf]
def wsX5_tellByRanks_r2 : List Cond := [Cond.code yX5_rankOf cX5_rankOf 7 (some .int), Cond.methodLink RX5 76 yX5_countOf, Cond.instanceMethod yX5_countOf, Cond.selects RX5 yX5_countOf yX5_countOf, Cond.code yX5_countOf cX5_countOf 6 (some .int), Cond.fieldLink RX5 59 "TonguetellModel" "textMany" "I", Cond.fieldLink RX5 26 "TonguetellModel" "wide" "[I", Cond.fieldLink RX5 23 "TonguetellModel" "whose" "[I", Cond.fieldLink RX5 29 "TonguetellModel" "kept" "[I"]
def wsX5_tellByRanks : List Cond := .code yX5_tellByRanks cX5_tellByRanks 3 (some .int) :: ((wsX5_tellByRanks_r1 ++ wsX5_tellByRanks_r2) ++ wsX50)
def wsX5_setPrice : List Cond := .code yX5_setPrice cX5_setPrice 3 (some .int) :: ([.fieldLink RX5 35 "TonguetellModel" "thrown" "I", .fieldLink RX5 17 "TonguetellModel" "price" "I", .methodLink RX5 41 yX5_in, .static yX5_in, .initialized RX5, .code yX5_in cX5_in 3 (some .boolean)] ++ wsX50)
def wsX5_behind : List Cond := .code yX5_behind cX5_behind 6 (some .int) :: ([.fieldLink RX5 38 "TonguetellModel" "tongueMany" "I", .fieldLink RX5 32 "TonguetellModel" "rest" "[I", .fieldLink RX5 17 "TonguetellModel" "price" "I"] ++ wsX50)
def wsX5_lays_r1 : List Cond := [Cond.fieldLink RX5 38 "TonguetellModel" "tongueMany" "I", Cond.fieldLink RX5 32 "TonguetellModel" "rest" "[I", Cond.methodLink RX5 48 yX5_runMany, Cond.instanceMethod yX5_runMany, Cond.selects RX5 yX5_runMany yX5_runMany, Cond.initialized RX5, Cond.code yX5_runMany cX5_runMany 1 (some .int), Cond.fieldLink RX5 45 "TonguetellModel" "letters" "I", Cond.methodLink RX5 102 yX5_behind, Cond.instanceMethod yX5_behind, Cond.selects RX5 yX5_behind yX5_behind, Cond.code yX5_behind cX5_behind 6 (some .int), Cond.fieldLink RX5 17 "TonguetellModel" "price" "I", Cond.methodLink RX5 52 yX5_run, Cond.instanceMethod yX5_run, Cond.selects RX5 yX5_run yX5_run, Cond.code yX5_run cX5_run 4 (some .int), Cond.fieldLink RX5 7 "TonguetellModel" "spelled" "[I", Cond.methodLink RX5 87 yX5_costOf, Cond.instanceMethod yX5_costOf, Cond.selects RX5 yX5_costOf yX5_costOf, Cond.code yX5_costOf cX5_costOf 6 (some .int), Cond.methodLink RX5 76 yX5_countOf, Cond.instanceMethod yX5_countOf]
def wsX5_lays_r2 : List Cond := [Cond.selects RX5 yX5_countOf yX5_countOf, Cond.code yX5_countOf cX5_countOf 6 (some .int), Cond.fieldLink RX5 59 "TonguetellModel" "textMany" "I", Cond.fieldLink RX5 26 "TonguetellModel" "wide" "[I", Cond.fieldLink RX5 23 "TonguetellModel" "whose" "[I", Cond.fieldLink RX5 29 "TonguetellModel" "kept" "[I", Cond.methodLink RX5 80 yX5_totalOf, Cond.instanceMethod yX5_totalOf, Cond.selects RX5 yX5_totalOf yX5_totalOf, Cond.code yX5_totalOf cX5_totalOf 4 (some .int)]
def wsX5_lays : List Cond := .code yX5_lays cX5_lays 4 none :: ((wsX5_lays_r1 ++ wsX5_lays_r2) ++ wsX50)
def wsX5_chooses : List Cond := .code yX5_chooses cX5_chooses 8 (some .int) :: ([.fieldLink RX5 38 "TonguetellModel" "tongueMany" "I", .fieldLink RX5 32 "TonguetellModel" "rest" "[I", .fieldLink RX5 17 "TonguetellModel" "price" "I"] ++ wsX50)
def wsX5_leastCut_r1 : List Cond := [Cond.fieldLink RX5 32 "TonguetellModel" "rest" "[I", Cond.methodLink RX5 105 yX5_lays, Cond.instanceMethod yX5_lays, Cond.selects RX5 yX5_lays yX5_lays, Cond.initialized RX5, Cond.code yX5_lays cX5_lays 4 none, Cond.fieldLink RX5 38 "TonguetellModel" "tongueMany" "I", Cond.methodLink RX5 48 yX5_runMany, Cond.instanceMethod yX5_runMany, Cond.selects RX5 yX5_runMany yX5_runMany, Cond.code yX5_runMany cX5_runMany 1 (some .int), Cond.fieldLink RX5 45 "TonguetellModel" "letters" "I", Cond.methodLink RX5 102 yX5_behind, Cond.instanceMethod yX5_behind, Cond.selects RX5 yX5_behind yX5_behind, Cond.code yX5_behind cX5_behind 6 (some .int), Cond.fieldLink RX5 17 "TonguetellModel" "price" "I", Cond.methodLink RX5 52 yX5_run, Cond.instanceMethod yX5_run, Cond.selects RX5 yX5_run yX5_run, Cond.code yX5_run cX5_run 4 (some .int), Cond.fieldLink RX5 7 "TonguetellModel" "spelled" "[I", Cond.methodLink RX5 87 yX5_costOf, Cond.instanceMethod yX5_costOf]
def wsX5_leastCut_r2 : List Cond := [Cond.selects RX5 yX5_costOf yX5_costOf, Cond.code yX5_costOf cX5_costOf 6 (some .int), Cond.methodLink RX5 76 yX5_countOf, Cond.instanceMethod yX5_countOf, Cond.selects RX5 yX5_countOf yX5_countOf, Cond.code yX5_countOf cX5_countOf 6 (some .int), Cond.fieldLink RX5 59 "TonguetellModel" "textMany" "I", Cond.fieldLink RX5 26 "TonguetellModel" "wide" "[I", Cond.fieldLink RX5 23 "TonguetellModel" "whose" "[I", Cond.fieldLink RX5 29 "TonguetellModel" "kept" "[I", Cond.methodLink RX5 80 yX5_totalOf, Cond.instanceMethod yX5_totalOf, Cond.selects RX5 yX5_totalOf yX5_totalOf, Cond.code yX5_totalOf cX5_totalOf 4 (some .int), Cond.methodLink RX5 108 yX5_chooses, Cond.instanceMethod yX5_chooses, Cond.selects RX5 yX5_chooses yX5_chooses, Cond.code yX5_chooses cX5_chooses 8 (some .int)]
def wsX5_leastCut : List Cond := .code yX5_leastCut cX5_leastCut 1 (some .int) :: ((wsX5_leastCut_r1 ++ wsX5_leastCut_r2) ++ wsX50)
def wsX5_cutCost_r1 : List Cond := [Cond.fieldLink RX5 38 "TonguetellModel" "tongueMany" "I", Cond.fieldLink RX5 35 "TonguetellModel" "thrown" "I", Cond.methodLink RX5 111 yX5_leastCut, Cond.instanceMethod yX5_leastCut, Cond.selects RX5 yX5_leastCut yX5_leastCut, Cond.initialized RX5, Cond.code yX5_leastCut cX5_leastCut 1 (some .int), Cond.fieldLink RX5 32 "TonguetellModel" "rest" "[I", Cond.methodLink RX5 105 yX5_lays, Cond.instanceMethod yX5_lays, Cond.selects RX5 yX5_lays yX5_lays, Cond.code yX5_lays cX5_lays 4 none, Cond.methodLink RX5 48 yX5_runMany, Cond.instanceMethod yX5_runMany, Cond.selects RX5 yX5_runMany yX5_runMany, Cond.code yX5_runMany cX5_runMany 1 (some .int), Cond.fieldLink RX5 45 "TonguetellModel" "letters" "I", Cond.methodLink RX5 102 yX5_behind, Cond.instanceMethod yX5_behind, Cond.selects RX5 yX5_behind yX5_behind, Cond.code yX5_behind cX5_behind 6 (some .int), Cond.fieldLink RX5 17 "TonguetellModel" "price" "I", Cond.methodLink RX5 52 yX5_run, Cond.instanceMethod yX5_run]
def wsX5_cutCost_r2 : List Cond := [Cond.selects RX5 yX5_run yX5_run, Cond.code yX5_run cX5_run 4 (some .int), Cond.fieldLink RX5 7 "TonguetellModel" "spelled" "[I", Cond.methodLink RX5 87 yX5_costOf, Cond.instanceMethod yX5_costOf, Cond.selects RX5 yX5_costOf yX5_costOf, Cond.code yX5_costOf cX5_costOf 6 (some .int), Cond.methodLink RX5 76 yX5_countOf, Cond.instanceMethod yX5_countOf, Cond.selects RX5 yX5_countOf yX5_countOf, Cond.code yX5_countOf cX5_countOf 6 (some .int), Cond.fieldLink RX5 59 "TonguetellModel" "textMany" "I", Cond.fieldLink RX5 26 "TonguetellModel" "wide" "[I", Cond.fieldLink RX5 23 "TonguetellModel" "whose" "[I", Cond.fieldLink RX5 29 "TonguetellModel" "kept" "[I", Cond.methodLink RX5 80 yX5_totalOf, Cond.instanceMethod yX5_totalOf, Cond.selects RX5 yX5_totalOf yX5_totalOf, Cond.code yX5_totalOf cX5_totalOf 4 (some .int), Cond.methodLink RX5 108 yX5_chooses, Cond.instanceMethod yX5_chooses, Cond.selects RX5 yX5_chooses yX5_chooses, Cond.code yX5_chooses cX5_chooses 8 (some .int)]
def wsX5_cutCost : List Cond := .code yX5_cutCost cX5_cutCost 1 (some .int) :: ((wsX5_cutCost_r1 ++ wsX5_cutCost_r2) ++ wsX50)
def wsX5_cutCostByTrying_r1 : List Cond := [Cond.fieldLink RX5 38 "TonguetellModel" "tongueMany" "I", Cond.fieldLink RX5 45 "TonguetellModel" "letters" "I", Cond.fieldLink RX5 35 "TonguetellModel" "thrown" "I", Cond.methodLink RX5 111 yX5_leastCut, Cond.instanceMethod yX5_leastCut, Cond.selects RX5 yX5_leastCut yX5_leastCut, Cond.initialized RX5, Cond.code yX5_leastCut cX5_leastCut 1 (some .int), Cond.fieldLink RX5 32 "TonguetellModel" "rest" "[I", Cond.methodLink RX5 105 yX5_lays, Cond.instanceMethod yX5_lays, Cond.selects RX5 yX5_lays yX5_lays, Cond.code yX5_lays cX5_lays 4 none, Cond.methodLink RX5 48 yX5_runMany, Cond.instanceMethod yX5_runMany, Cond.selects RX5 yX5_runMany yX5_runMany, Cond.code yX5_runMany cX5_runMany 1 (some .int), Cond.methodLink RX5 102 yX5_behind, Cond.instanceMethod yX5_behind, Cond.selects RX5 yX5_behind yX5_behind, Cond.code yX5_behind cX5_behind 6 (some .int), Cond.fieldLink RX5 17 "TonguetellModel" "price" "I", Cond.methodLink RX5 52 yX5_run, Cond.instanceMethod yX5_run]
def wsX5_cutCostByTrying_r2 : List Cond := [Cond.selects RX5 yX5_run yX5_run, Cond.code yX5_run cX5_run 4 (some .int), Cond.fieldLink RX5 7 "TonguetellModel" "spelled" "[I", Cond.methodLink RX5 87 yX5_costOf, Cond.instanceMethod yX5_costOf, Cond.selects RX5 yX5_costOf yX5_costOf, Cond.code yX5_costOf cX5_costOf 6 (some .int), Cond.methodLink RX5 76 yX5_countOf, Cond.instanceMethod yX5_countOf, Cond.selects RX5 yX5_countOf yX5_countOf, Cond.code yX5_countOf cX5_countOf 6 (some .int), Cond.fieldLink RX5 59 "TonguetellModel" "textMany" "I", Cond.fieldLink RX5 26 "TonguetellModel" "wide" "[I", Cond.fieldLink RX5 23 "TonguetellModel" "whose" "[I", Cond.fieldLink RX5 29 "TonguetellModel" "kept" "[I", Cond.methodLink RX5 80 yX5_totalOf, Cond.instanceMethod yX5_totalOf, Cond.selects RX5 yX5_totalOf yX5_totalOf, Cond.code yX5_totalOf cX5_totalOf 4 (some .int), Cond.methodLink RX5 108 yX5_chooses, Cond.instanceMethod yX5_chooses, Cond.selects RX5 yX5_chooses yX5_chooses, Cond.code yX5_chooses cX5_chooses 8 (some .int)]
def wsX5_cutCostByTrying : List Cond := .code yX5_cutCostByTrying cX5_cutCostByTrying 1 (some .int) :: ((wsX5_cutCostByTrying_r1 ++ wsX5_cutCostByTrying_r2) ++ wsX50)
def wsX5_cutTongue_r1 : List Cond := [Cond.fieldLink RX5 38 "TonguetellModel" "tongueMany" "I", Cond.fieldLink RX5 35 "TonguetellModel" "thrown" "I", Cond.methodLink RX5 48 yX5_runMany, Cond.instanceMethod yX5_runMany, Cond.selects RX5 yX5_runMany yX5_runMany, Cond.initialized RX5, Cond.code yX5_runMany cX5_runMany 1 (some .int), Cond.fieldLink RX5 45 "TonguetellModel" "letters" "I", Cond.methodLink RX5 41 yX5_in, Cond.static yX5_in, Cond.code yX5_in cX5_in 3 (some .boolean), Cond.methodLink RX5 105 yX5_lays, Cond.instanceMethod yX5_lays, Cond.selects RX5 yX5_lays yX5_lays, Cond.code yX5_lays cX5_lays 4 none, Cond.fieldLink RX5 32 "TonguetellModel" "rest" "[I", Cond.methodLink RX5 102 yX5_behind, Cond.instanceMethod yX5_behind, Cond.selects RX5 yX5_behind yX5_behind, Cond.code yX5_behind cX5_behind 6 (some .int), Cond.fieldLink RX5 17 "TonguetellModel" "price" "I", Cond.methodLink RX5 52 yX5_run, Cond.instanceMethod yX5_run, Cond.selects RX5 yX5_run yX5_run]
def wsX5_cutTongue_r2 : List Cond := [Cond.code yX5_run cX5_run 4 (some .int), Cond.fieldLink RX5 7 "TonguetellModel" "spelled" "[I", Cond.methodLink RX5 87 yX5_costOf, Cond.instanceMethod yX5_costOf, Cond.selects RX5 yX5_costOf yX5_costOf, Cond.code yX5_costOf cX5_costOf 6 (some .int), Cond.methodLink RX5 76 yX5_countOf, Cond.instanceMethod yX5_countOf, Cond.selects RX5 yX5_countOf yX5_countOf, Cond.code yX5_countOf cX5_countOf 6 (some .int), Cond.fieldLink RX5 59 "TonguetellModel" "textMany" "I", Cond.fieldLink RX5 26 "TonguetellModel" "wide" "[I", Cond.fieldLink RX5 23 "TonguetellModel" "whose" "[I", Cond.fieldLink RX5 29 "TonguetellModel" "kept" "[I", Cond.methodLink RX5 80 yX5_totalOf, Cond.instanceMethod yX5_totalOf, Cond.selects RX5 yX5_totalOf yX5_totalOf, Cond.code yX5_totalOf cX5_totalOf 4 (some .int), Cond.methodLink RX5 108 yX5_chooses, Cond.instanceMethod yX5_chooses, Cond.selects RX5 yX5_chooses yX5_chooses, Cond.code yX5_chooses cX5_chooses 8 (some .int)]
def wsX5_cutTongue : List Cond := .code yX5_cutTongue cX5_cutTongue 4 (some .int) :: ((wsX5_cutTongue_r1 ++ wsX5_cutTongue_r2) ++ wsX50)
def wsX5_stretches_r1 : List Cond := [Cond.fieldLink RX5 38 "TonguetellModel" "tongueMany" "I", Cond.fieldLink RX5 35 "TonguetellModel" "thrown" "I", Cond.methodLink RX5 105 yX5_lays, Cond.instanceMethod yX5_lays, Cond.selects RX5 yX5_lays yX5_lays, Cond.initialized RX5, Cond.code yX5_lays cX5_lays 4 none, Cond.fieldLink RX5 32 "TonguetellModel" "rest" "[I", Cond.methodLink RX5 48 yX5_runMany, Cond.instanceMethod yX5_runMany, Cond.selects RX5 yX5_runMany yX5_runMany, Cond.code yX5_runMany cX5_runMany 1 (some .int), Cond.fieldLink RX5 45 "TonguetellModel" "letters" "I", Cond.methodLink RX5 102 yX5_behind, Cond.instanceMethod yX5_behind, Cond.selects RX5 yX5_behind yX5_behind, Cond.code yX5_behind cX5_behind 6 (some .int), Cond.fieldLink RX5 17 "TonguetellModel" "price" "I", Cond.methodLink RX5 52 yX5_run, Cond.instanceMethod yX5_run, Cond.selects RX5 yX5_run yX5_run, Cond.code yX5_run cX5_run 4 (some .int), Cond.fieldLink RX5 7 "TonguetellModel" "spelled" "[I", Cond.methodLink RX5 87 yX5_costOf]
def wsX5_stretches_r2 : List Cond := [Cond.instanceMethod yX5_costOf, Cond.selects RX5 yX5_costOf yX5_costOf, Cond.code yX5_costOf cX5_costOf 6 (some .int), Cond.methodLink RX5 76 yX5_countOf, Cond.instanceMethod yX5_countOf, Cond.selects RX5 yX5_countOf yX5_countOf, Cond.code yX5_countOf cX5_countOf 6 (some .int), Cond.fieldLink RX5 59 "TonguetellModel" "textMany" "I", Cond.fieldLink RX5 26 "TonguetellModel" "wide" "[I", Cond.fieldLink RX5 23 "TonguetellModel" "whose" "[I", Cond.fieldLink RX5 29 "TonguetellModel" "kept" "[I", Cond.methodLink RX5 80 yX5_totalOf, Cond.instanceMethod yX5_totalOf, Cond.selects RX5 yX5_totalOf yX5_totalOf, Cond.code yX5_totalOf cX5_totalOf 4 (some .int), Cond.methodLink RX5 108 yX5_chooses, Cond.instanceMethod yX5_chooses, Cond.selects RX5 yX5_chooses yX5_chooses, Cond.code yX5_chooses cX5_chooses 8 (some .int)]
def wsX5_stretches : List Cond := .code yX5_stretches cX5_stretches 5 (some .int) :: ((wsX5_stretches_r1 ++ wsX5_stretches_r2) ++ wsX50)
def wsX5_isStrange : List Cond := .code yX5_isStrange cX5_isStrange 5 (some .boolean) :: ([.fieldLink RX5 38 "TonguetellModel" "tongueMany" "I", .methodLink RX5 52 yX5_run, .instanceMethod yX5_run, .selects RX5 yX5_run yX5_run, .initialized RX5, .code yX5_run cX5_run 4 (some .int), .fieldLink RX5 7 "TonguetellModel" "spelled" "[I", .fieldLink RX5 45 "TonguetellModel" "letters" "I", .methodLink RX5 87 yX5_costOf, .instanceMethod yX5_costOf, .selects RX5 yX5_costOf yX5_costOf, .code yX5_costOf cX5_costOf 6 (some .int), .methodLink RX5 76 yX5_countOf, .instanceMethod yX5_countOf, .selects RX5 yX5_countOf yX5_countOf, .code yX5_countOf cX5_countOf 6 (some .int), .fieldLink RX5 59 "TonguetellModel" "textMany" "I", .fieldLink RX5 26 "TonguetellModel" "wide" "[I", .fieldLink RX5 23 "TonguetellModel" "whose" "[I", .fieldLink RX5 29 "TonguetellModel" "kept" "[I", .methodLink RX5 80 yX5_totalOf, .instanceMethod yX5_totalOf, .selects RX5 yX5_totalOf yX5_totalOf, .code yX5_totalOf cX5_totalOf 4 (some .int)] ++ wsX50)
def wsX5_learn_r1 : List Cond := [Cond.fieldLink RX5 38 "TonguetellModel" "tongueMany" "I", Cond.fieldLink RX5 59 "TonguetellModel" "textMany" "I", Cond.fieldLink RX5 35 "TonguetellModel" "thrown" "I", Cond.methodLink RX5 41 yX5_in, Cond.static yX5_in, Cond.initialized RX5, Cond.code yX5_in cX5_in 3 (some .boolean), Cond.methodLink RX5 48 yX5_runMany, Cond.instanceMethod yX5_runMany, Cond.selects RX5 yX5_runMany yX5_runMany, Cond.code yX5_runMany cX5_runMany 1 (some .int), Cond.fieldLink RX5 45 "TonguetellModel" "letters" "I", Cond.methodLink RX5 114 yX5_isStrange, Cond.instanceMethod yX5_isStrange, Cond.selects RX5 yX5_isStrange yX5_isStrange, Cond.code yX5_isStrange cX5_isStrange 5 (some .boolean), Cond.methodLink RX5 52 yX5_run, Cond.instanceMethod yX5_run, Cond.selects RX5 yX5_run yX5_run, Cond.code yX5_run cX5_run 4 (some .int), Cond.fieldLink RX5 7 "TonguetellModel" "spelled" "[I", Cond.methodLink RX5 87 yX5_costOf, Cond.instanceMethod yX5_costOf, Cond.selects RX5 yX5_costOf yX5_costOf]
def wsX5_learn_r2 : List Cond := [Cond.code yX5_costOf cX5_costOf 6 (some .int), Cond.methodLink RX5 76 yX5_countOf, Cond.instanceMethod yX5_countOf, Cond.selects RX5 yX5_countOf yX5_countOf, Cond.code yX5_countOf cX5_countOf 6 (some .int), Cond.fieldLink RX5 26 "TonguetellModel" "wide" "[I", Cond.fieldLink RX5 23 "TonguetellModel" "whose" "[I", Cond.fieldLink RX5 29 "TonguetellModel" "kept" "[I", Cond.methodLink RX5 80 yX5_totalOf, Cond.instanceMethod yX5_totalOf, Cond.selects RX5 yX5_totalOf yX5_totalOf, Cond.code yX5_totalOf cX5_totalOf 4 (some .int), Cond.methodLink RX5 69 yX5_keeps, Cond.instanceMethod yX5_keeps, Cond.selects RX5 yX5_keeps yX5_keeps, Cond.code yX5_keeps cX5_keeps 5 (some .int), Cond.fieldLink RX5 20 "TonguetellModel" "numbers" "[I", Cond.fieldLink RX5 62 "TonguetellModel" "taught" "I"]
def wsX5_learn : List Cond := .code yX5_learn cX5_learn 6 (some .int) :: ((wsX5_learn_r1 ++ wsX5_learn_r2) ++ wsX50)
def wsJ9_abs_0f7a4 : List Cond := .code yJ9_abs_0f7a4 cJ9_abs_0f7a4 1 (some .int) :: ([])
def wsJ9_min_7cf53 : List Cond := .code yJ9_min_7cf53 cJ9_min_7cf53 2 (some .int) :: ([])
def wsL_spell : List Cond := .codeWith yL_spell cL_spell 4 (some .int) [(0, 9, 12, 13), (0, 9, 15, 15)] :: ([.classLink RL 13 "java/lang/IllegalArgumentException", .classLink RL 15 "java/lang/IllegalStateException", .methodLink RL 7 yX4_spell, .instanceMethod yX4_spell, .selects RX4 yX4_spell yX4_spell, .initialized RX4, .code yX4_spell cX4_spell 3 (some .int), .classLink RX4 55 "java/lang/IllegalArgumentException", .initialized "java/lang/IllegalArgumentException", .classLink RX4 65 "java/lang/IllegalStateException", .initialized "java/lang/IllegalStateException", .fieldLink RX4 10 "Tonguetell" "spelled" "LTonguetell$Spelling;", .fieldLink RX4 62 "Tonguetell$Spelling" "length" "I", .methodLink RX4 51 yX4_letterNumber, .static yX4_letterNumber, .code yX4_letterNumber cX4_letterNumber 1 (some .int), .methodLink RX4 70 yX2_append, .instanceMethod yX2_append, .selects RX2 yX2_append yX2_append, .initialized RX2, .code yX2_append cX2_append 2 none, .fieldLink RX2 9 "Tonguetell$Spelling" "letters" "[I", .fieldLink RX2 15 "Tonguetell$Spelling" "length" "I"] ++ wsX40 ++ wsX20 ++ (vx_atS RX4 59 "java/lang/IllegalArgumentException" ["java/lang/RuntimeException", "java/lang/Exception"]).filter goodWord ++ (vx_atS RX4 69 "java/lang/IllegalStateException" ["java/lang/RuntimeException", "java/lang/Exception"]).filter goodWord)
def wsL_runAt_r1 : List Cond := [Cond.classLink RL 21 "java/lang/IndexOutOfBoundsException", Cond.methodLink RL 17 yX4_runAt, Cond.instanceMethod yX4_runAt, Cond.selects RX4 yX4_runAt yX4_runAt, Cond.initialized RX4, Cond.code yX4_runAt cX4_runAt 2 (some .int), Cond.fieldLink RX4 10 "Tonguetell" "spelled" "LTonguetell$Spelling;", Cond.methodLink RX4 78 yX4_requireRunPlace, Cond.instanceMethod yX4_requireRunPlace, Cond.selects RX4 yX4_requireRunPlace yX4_requireRunPlace, Cond.code yX4_requireRunPlace cX4_requireRunPlace 2 none, Cond.classLink RX4 185 "java/lang/IndexOutOfBoundsException", Cond.initialized "java/lang/IndexOutOfBoundsException", Cond.methodLink RX4 74 yX2_runCount, Cond.instanceMethod yX2_runCount, Cond.selects RX2 yX2_runCount yX2_runCount, Cond.initialized RX2, Cond.code yX2_runCount cX2_runCount 1 (some .int), Cond.fieldLink RX2 15 "Tonguetell$Spelling" "length" "I", Cond.methodLink RX4 81 yX2_runNumber, Cond.instanceMethod yX2_runNumber, Cond.selects RX2 yX2_runNumber yX2_runNumber, Cond.code yX2_runNumber cX2_runNumber 2 (some .int), Cond.methodLink RX2 19 yX2_letterOrGap]
def wsL_runAt_r2 : List Cond := [Cond.instanceMethod yX2_letterOrGap, Cond.selects RX2 yX2_letterOrGap yX2_letterOrGap, Cond.code yX2_letterOrGap cX2_letterOrGap 2 (some .int), Cond.fieldLink RX2 9 "Tonguetell$Spelling" "letters" "[I"]
def wsL_runAt : List Cond := .codeWith yL_runAt cL_runAt 4 (some .int) [(0, 9, 12, 21)] :: ((wsL_runAt_r1 ++ wsL_runAt_r2) ++ wsX40 ++ wsX20 ++ (vx_atS RX4 189 "java/lang/IndexOutOfBoundsException" ["java/lang/RuntimeException", "java/lang/Exception"]).filter goodWord)
def wsL_addTongue : List Cond := .codeWith yL_addTongue cL_addTongue 3 (some .int) [(0, 8, 11, 15)] :: ([.classLink RL 15 "java/lang/IllegalStateException", .methodLink RL 23 yX4_addTongue, .instanceMethod yX4_addTongue, .selects RX4 yX4_addTongue yX4_addTongue, .initialized RX4, .code yX4_addTongue cX4_addTongue 1 (some .int), .classLink RX4 65 "java/lang/IllegalStateException", .initialized "java/lang/IllegalStateException", .fieldLink RX4 41 "Tonguetell" "tongueCount" "I", .methodLink RX4 87 yX4_newTongue, .instanceMethod yX4_newTongue, .selects RX4 yX4_newTongue yX4_newTongue, .code yX4_newTongue cX4_newTongue 2 (some .int)] ++ wsX40 ++ (vx_atS RX4 69 "java/lang/IllegalStateException" ["java/lang/RuntimeException", "java/lang/Exception"]).filter goodWord)
def wsL_teach_r1 : List Cond := [Cond.classLink RL 21 "java/lang/IndexOutOfBoundsException", Cond.classLink RL 15 "java/lang/IllegalStateException", Cond.methodLink RL 27 yX4_teach, Cond.instanceMethod yX4_teach, Cond.selects RX4 yX4_teach yX4_teach, Cond.initialized RX4, Cond.code yX4_teach cX4_teach 2 (some .int), Cond.classLink RX4 65 "java/lang/IllegalStateException", Cond.initialized "java/lang/IllegalStateException", Cond.fieldLink RX4 10 "Tonguetell" "spelled" "LTonguetell$Spelling;", Cond.fieldLink RX4 62 "Tonguetell$Spelling" "length" "I", Cond.fieldLink RX4 30 "Tonguetell" "shelf" "LTonguetell$Shelf;", Cond.methodLink RX4 90 yX4_requireTongue, Cond.instanceMethod yX4_requireTongue, Cond.selects RX4 yX4_requireTongue yX4_requireTongue, Cond.code yX4_requireTongue cX4_requireTongue 2 none, Cond.classLink RX4 185 "java/lang/IndexOutOfBoundsException", Cond.initialized "java/lang/IndexOutOfBoundsException", Cond.fieldLink RX4 41 "Tonguetell" "tongueCount" "I", Cond.methodLink RX4 95 yX1_isFull, Cond.instanceMethod yX1_isFull, Cond.selects RX1 yX1_isFull yX1_isFull, Cond.initialized RX1, Cond.code yX1_isFull cX1_isFull 1 (some .boolean)]
def wsL_teach_r2 : List Cond := [Cond.methodLink RX1 30 yX1_firstSlotWith, Cond.instanceMethod yX1_firstSlotWith, Cond.selects RX1 yX1_firstSlotWith yX1_firstSlotWith, Cond.code yX1_firstSlotWith cX1_firstSlotWith 3 (some .int), Cond.fieldLink RX1 9 "Tonguetell$Shelf" "numberIn" "[I", Cond.methodLink RX4 74 yX2_runCount, Cond.instanceMethod yX2_runCount, Cond.selects RX2 yX2_runCount yX2_runCount, Cond.initialized RX2, Cond.code yX2_runCount cX2_runCount 1 (some .int), Cond.fieldLink RX2 15 "Tonguetell$Spelling" "length" "I", Cond.methodLink RX4 101 yX4_teachRuns, Cond.instanceMethod yX4_teachRuns, Cond.selects RX4 yX4_teachRuns yX4_teachRuns, Cond.code yX4_teachRuns cX4_teachRuns 7 (some .int), Cond.fieldLink RX4 115 "Tonguetell$Shelf" "runsIn" "[[I", Cond.fieldLink RX4 23 "Tonguetell" "tallies" "[LTonguetell$Tally;", Cond.fieldLink RX4 211 "Tonguetell$Shelf" "numberIn" "[I", Cond.methodLink RX4 204 yX1_take, Cond.instanceMethod yX1_take, Cond.selects RX1 yX1_take yX1_take, Cond.code yX1_take cX1_take 4 (some .int), Cond.fieldLink RX1 26 "Tonguetell$Shelf" "nextNumber" "I", Cond.fieldLink RX1 15 "Tonguetell$Shelf" "tongueIn" "[I"]
def wsL_teach_r3 : List Cond := [Cond.fieldLink RX1 18 "Tonguetell$Shelf" "lengthIn" "[I", Cond.methodLink RX4 81 yX2_runNumber, Cond.instanceMethod yX2_runNumber, Cond.selects RX2 yX2_runNumber yX2_runNumber, Cond.code yX2_runNumber cX2_runNumber 2 (some .int), Cond.methodLink RX2 19 yX2_letterOrGap, Cond.instanceMethod yX2_letterOrGap, Cond.selects RX2 yX2_letterOrGap yX2_letterOrGap, Cond.code yX2_letterOrGap cX2_letterOrGap 2 (some .int), Cond.fieldLink RX2 9 "Tonguetell$Spelling" "letters" "[I", Cond.methodLink RX4 208 yX3_add, Cond.instanceMethod yX3_add, Cond.selects RX3 yX3_add yX3_add, Cond.initialized RX3, Cond.code yX3_add cX3_add 2 none, Cond.fieldLink RX3 9 "Tonguetell$Tally" "counts" "[I", Cond.fieldLink RX3 15 "Tonguetell$Tally" "sum" "I"]
def wsL_teach : List Cond := .codeWith yL_teach cL_teach 4 (some .int) [(0, 9, 12, 21), (0, 9, 15, 15)] :: ((wsL_teach_r1 ++ (wsL_teach_r2 ++ wsL_teach_r3)) ++ wsX40 ++ wsX20 ++ wsX10 ++ wsX30 ++ (vx_atS RX4 69 "java/lang/IllegalStateException" ["java/lang/RuntimeException", "java/lang/Exception"]).filter goodWord ++ (vx_atS RX4 189 "java/lang/IndexOutOfBoundsException" ["java/lang/RuntimeException", "java/lang/Exception"]).filter goodWord)
def wsL_withdraw_r1 : List Cond := [Cond.classLink RL 33 "java/util/NoSuchElementException", Cond.methodLink RL 30 yX4_withdraw, Cond.instanceMethod yX4_withdraw, Cond.selects RX4 yX4_withdraw yX4_withdraw, Cond.initialized RX4, Cond.code yX4_withdraw cX4_withdraw 6 (some .int), Cond.fieldLink RX4 23 "Tonguetell" "tallies" "[LTonguetell$Tally;", Cond.fieldLink RX4 30 "Tonguetell" "shelf" "LTonguetell$Shelf;", Cond.fieldLink RX4 108 "Tonguetell$Shelf" "tongueIn" "[I", Cond.fieldLink RX4 112 "Tonguetell$Shelf" "lengthIn" "[I", Cond.fieldLink RX4 115 "Tonguetell$Shelf" "runsIn" "[[I", Cond.methodLink RX4 105 yX4_slotOfTaught, Cond.instanceMethod yX4_slotOfTaught, Cond.selects RX4 yX4_slotOfTaught yX4_slotOfTaught, Cond.code yX4_slotOfTaught cX4_slotOfTaught 3 (some .int), Cond.classLink RX4 199 "java/util/NoSuchElementException", Cond.initialized "java/util/NoSuchElementException", Cond.methodLink RX4 196 yX1_slotOf, Cond.instanceMethod yX1_slotOf, Cond.selects RX1 yX1_slotOf yX1_slotOf, Cond.initialized RX1, Cond.code yX1_slotOf cX1_slotOf 2 (some .int), Cond.methodLink RX1 30 yX1_firstSlotWith, Cond.instanceMethod yX1_firstSlotWith]
def wsL_withdraw_r2 : List Cond := [Cond.selects RX1 yX1_firstSlotWith yX1_firstSlotWith, Cond.code yX1_firstSlotWith cX1_firstSlotWith 3 (some .int), Cond.fieldLink RX1 9 "Tonguetell$Shelf" "numberIn" "[I", Cond.methodLink RX4 119 yX3_remove, Cond.instanceMethod yX3_remove, Cond.selects RX3 yX3_remove yX3_remove, Cond.initialized RX3, Cond.code yX3_remove cX3_remove 2 none, Cond.fieldLink RX3 9 "Tonguetell$Tally" "counts" "[I", Cond.fieldLink RX3 15 "Tonguetell$Tally" "sum" "I", Cond.methodLink RX4 122 yX1_free, Cond.instanceMethod yX1_free, Cond.selects RX1 yX1_free yX1_free, Cond.code yX1_free cX1_free 2 none]
def wsL_withdraw : List Cond := .codeWith yL_withdraw cL_withdraw 4 (some .int) [(0, 9, 12, 33)] :: ((wsL_withdraw_r1 ++ wsL_withdraw_r2) ++ wsX40 ++ wsX10 ++ wsX30 ++ (vx_atS RX4 203 "java/util/NoSuchElementException" ["java/lang/RuntimeException", "java/lang/Exception"]).filter goodWord)
def wsL_tongueOf : List Cond := .codeWith yL_tongueOf cL_tongueOf 4 (some .int) [(0, 9, 12, 33)] :: ([.classLink RL 33 "java/util/NoSuchElementException", .methodLink RL 35 yX4_tongueOf, .instanceMethod yX4_tongueOf, .selects RX4 yX4_tongueOf yX4_tongueOf, .initialized RX4, .code yX4_tongueOf cX4_tongueOf 2 (some .int), .fieldLink RX4 30 "Tonguetell" "shelf" "LTonguetell$Shelf;", .fieldLink RX4 108 "Tonguetell$Shelf" "tongueIn" "[I", .methodLink RX4 105 yX4_slotOfTaught, .instanceMethod yX4_slotOfTaught, .selects RX4 yX4_slotOfTaught yX4_slotOfTaught, .code yX4_slotOfTaught cX4_slotOfTaught 3 (some .int), .classLink RX4 199 "java/util/NoSuchElementException", .initialized "java/util/NoSuchElementException", .methodLink RX4 196 yX1_slotOf, .instanceMethod yX1_slotOf, .selects RX1 yX1_slotOf yX1_slotOf, .initialized RX1, .code yX1_slotOf cX1_slotOf 2 (some .int), .methodLink RX1 30 yX1_firstSlotWith, .instanceMethod yX1_firstSlotWith, .selects RX1 yX1_firstSlotWith yX1_firstSlotWith, .code yX1_firstSlotWith cX1_firstSlotWith 3 (some .int), .fieldLink RX1 9 "Tonguetell$Shelf" "numberIn" "[I"] ++ wsX40 ++ wsX10 ++ (vx_atS RX4 203 "java/util/NoSuchElementException" ["java/lang/RuntimeException", "java/lang/Exception"]).filter goodWord)
def wsL_total : List Cond := .codeWith yL_total cL_total 4 (some .int) [(0, 9, 12, 21)] :: ([.classLink RL 21 "java/lang/IndexOutOfBoundsException", .methodLink RL 38 yX4_total, .instanceMethod yX4_total, .selects RX4 yX4_total yX4_total, .initialized RX4, .code yX4_total cX4_total 2 (some .int), .fieldLink RX4 23 "Tonguetell" "tallies" "[LTonguetell$Tally;", .fieldLink RX4 125 "Tonguetell$Tally" "sum" "I", .methodLink RX4 90 yX4_requireTongue, .instanceMethod yX4_requireTongue, .selects RX4 yX4_requireTongue yX4_requireTongue, .code yX4_requireTongue cX4_requireTongue 2 none, .classLink RX4 185 "java/lang/IndexOutOfBoundsException", .initialized "java/lang/IndexOutOfBoundsException", .fieldLink RX4 41 "Tonguetell" "tongueCount" "I"] ++ wsX40 ++ wsX30 ++ (vx_atS RX4 189 "java/lang/IndexOutOfBoundsException" ["java/lang/RuntimeException", "java/lang/Exception"]).filter goodWord)
def wsL_count : List Cond := .codeWith yL_count cL_count 5 (some .int) [(0, 10, 13, 21)] :: ([.classLink RL 21 "java/lang/IndexOutOfBoundsException", .methodLink RL 41 yX4_count, .instanceMethod yX4_count, .selects RX4 yX4_count yX4_count, .initialized RX4, .code yX4_count cX4_count 3 (some .int), .fieldLink RX4 23 "Tonguetell" "tallies" "[LTonguetell$Tally;", .fieldLink RX4 131 "Tonguetell$Tally" "counts" "[I", .methodLink RX4 90 yX4_requireTongue, .instanceMethod yX4_requireTongue, .selects RX4 yX4_requireTongue yX4_requireTongue, .code yX4_requireTongue cX4_requireTongue 2 none, .classLink RX4 185 "java/lang/IndexOutOfBoundsException", .initialized "java/lang/IndexOutOfBoundsException", .fieldLink RX4 41 "Tonguetell" "tongueCount" "I", .methodLink RX4 128 yX4_requireRunKind, .static yX4_requireRunKind, .code yX4_requireRunKind cX4_requireRunKind 1 none] ++ wsX40 ++ wsX30 ++ (vx_atS RX4 189 "java/lang/IndexOutOfBoundsException" ["java/lang/RuntimeException", "java/lang/Exception"]).filter goodWord)
def wsL_cost : List Cond := .codeWith yL_cost cL_cost 5 (some .int) [(0, 10, 13, 21)] :: ([.classLink RL 21 "java/lang/IndexOutOfBoundsException", .methodLink RL 45 yX4_cost, .instanceMethod yX4_cost, .selects RX4 yX4_cost yX4_cost, .initialized RX4, .code yX4_cost cX4_cost 3 (some .int), .fieldLink RX4 23 "Tonguetell" "tallies" "[LTonguetell$Tally;", .methodLink RX4 90 yX4_requireTongue, .instanceMethod yX4_requireTongue, .selects RX4 yX4_requireTongue yX4_requireTongue, .code yX4_requireTongue cX4_requireTongue 2 none, .classLink RX4 185 "java/lang/IndexOutOfBoundsException", .initialized "java/lang/IndexOutOfBoundsException", .fieldLink RX4 41 "Tonguetell" "tongueCount" "I", .methodLink RX4 128 yX4_requireRunKind, .static yX4_requireRunKind, .code yX4_requireRunKind cX4_requireRunKind 1 none, .methodLink RX4 134 yX3_costOf, .instanceMethod yX3_costOf, .selects RX3 yX3_costOf yX3_costOf, .initialized RX3, .code yX3_costOf cX3_costOf 5 (some .int), .fieldLink RX3 15 "Tonguetell$Tally" "sum" "I", .fieldLink RX3 9 "Tonguetell$Tally" "counts" "[I"] ++ wsX40 ++ wsX30 ++ (vx_atS RX4 189 "java/lang/IndexOutOfBoundsException" ["java/lang/RuntimeException", "java/lang/Exception"]).filter goodWord)
def wsL_rank : List Cond := .codeWith yL_rank cL_rank 5 (some .int) [(0, 10, 13, 21)] :: ([.classLink RL 21 "java/lang/IndexOutOfBoundsException", .methodLink RL 48 yX4_rank, .instanceMethod yX4_rank, .selects RX4 yX4_rank yX4_rank, .initialized RX4, .code yX4_rank cX4_rank 3 (some .int), .fieldLink RX4 23 "Tonguetell" "tallies" "[LTonguetell$Tally;", .methodLink RX4 90 yX4_requireTongue, .instanceMethod yX4_requireTongue, .selects RX4 yX4_requireTongue yX4_requireTongue, .code yX4_requireTongue cX4_requireTongue 2 none, .classLink RX4 185 "java/lang/IndexOutOfBoundsException", .initialized "java/lang/IndexOutOfBoundsException", .fieldLink RX4 41 "Tonguetell" "tongueCount" "I", .methodLink RX4 128 yX4_requireRunKind, .static yX4_requireRunKind, .code yX4_requireRunKind cX4_requireRunKind 1 none, .methodLink RX4 137 yX3_rankOf, .instanceMethod yX3_rankOf, .selects RX3 yX3_rankOf yX3_rankOf, .initialized RX3, .code yX3_rankOf cX3_rankOf 4 (some .int), .fieldLink RX3 9 "Tonguetell$Tally" "counts" "[I"] ++ wsX40 ++ wsX30 ++ (vx_atS RX4 189 "java/lang/IndexOutOfBoundsException" ["java/lang/RuntimeException", "java/lang/Exception"]).filter goodWord)
def wsL_textCost_r1 : List Cond := [Cond.classLink RL 21 "java/lang/IndexOutOfBoundsException", Cond.methodLink RL 51 yX4_textCost, Cond.instanceMethod yX4_textCost, Cond.selects RX4 yX4_textCost yX4_textCost, Cond.initialized RX4, Cond.code yX4_textCost cX4_textCost 2 (some .int), Cond.methodLink RX4 90 yX4_requireTongue, Cond.instanceMethod yX4_requireTongue, Cond.selects RX4 yX4_requireTongue yX4_requireTongue, Cond.code yX4_requireTongue cX4_requireTongue 2 none, Cond.classLink RX4 185 "java/lang/IndexOutOfBoundsException", Cond.initialized "java/lang/IndexOutOfBoundsException", Cond.fieldLink RX4 41 "Tonguetell" "tongueCount" "I", Cond.methodLink RX4 140 yX4_costOfSpelled, Cond.instanceMethod yX4_costOfSpelled, Cond.selects RX4 yX4_costOfSpelled yX4_costOfSpelled, Cond.code yX4_costOfSpelled cX4_costOfSpelled 4 (some .int), Cond.fieldLink RX4 10 "Tonguetell" "spelled" "LTonguetell$Spelling;", Cond.fieldLink RX4 23 "Tonguetell" "tallies" "[LTonguetell$Tally;", Cond.methodLink RX4 74 yX2_runCount, Cond.instanceMethod yX2_runCount, Cond.selects RX2 yX2_runCount yX2_runCount, Cond.initialized RX2, Cond.code yX2_runCount cX2_runCount 1 (some .int)]
def wsL_textCost_r2 : List Cond := [Cond.fieldLink RX2 15 "Tonguetell$Spelling" "length" "I", Cond.methodLink RX4 81 yX2_runNumber, Cond.instanceMethod yX2_runNumber, Cond.selects RX2 yX2_runNumber yX2_runNumber, Cond.code yX2_runNumber cX2_runNumber 2 (some .int), Cond.methodLink RX2 19 yX2_letterOrGap, Cond.instanceMethod yX2_letterOrGap, Cond.selects RX2 yX2_letterOrGap yX2_letterOrGap, Cond.code yX2_letterOrGap cX2_letterOrGap 2 (some .int), Cond.fieldLink RX2 9 "Tonguetell$Spelling" "letters" "[I", Cond.methodLink RX4 134 yX3_costOf, Cond.instanceMethod yX3_costOf, Cond.selects RX3 yX3_costOf yX3_costOf, Cond.initialized RX3, Cond.code yX3_costOf cX3_costOf 5 (some .int), Cond.fieldLink RX3 15 "Tonguetell$Tally" "sum" "I", Cond.fieldLink RX3 9 "Tonguetell$Tally" "counts" "[I"]
def wsL_textCost : List Cond := .codeWith yL_textCost cL_textCost 4 (some .int) [(0, 9, 12, 21)] :: ((wsL_textCost_r1 ++ wsL_textCost_r2) ++ wsX40 ++ wsX20 ++ wsX30 ++ (vx_atS RX4 189 "java/lang/IndexOutOfBoundsException" ["java/lang/RuntimeException", "java/lang/Exception"]).filter goodWord)
def wsL_distance_r1 : List Cond := [Cond.classLink RL 21 "java/lang/IndexOutOfBoundsException", Cond.methodLink RL 54 yX4_distance, Cond.instanceMethod yX4_distance, Cond.selects RX4 yX4_distance yX4_distance, Cond.initialized RX4, Cond.code yX4_distance cX4_distance 2 (some .int), Cond.methodLink RX4 90 yX4_requireTongue, Cond.instanceMethod yX4_requireTongue, Cond.selects RX4 yX4_requireTongue yX4_requireTongue, Cond.code yX4_requireTongue cX4_requireTongue 2 none, Cond.classLink RX4 185 "java/lang/IndexOutOfBoundsException", Cond.initialized "java/lang/IndexOutOfBoundsException", Cond.fieldLink RX4 41 "Tonguetell" "tongueCount" "I", Cond.methodLink RX4 143 yX4_tallySpelled, Cond.instanceMethod yX4_tallySpelled, Cond.selects RX4 yX4_tallySpelled yX4_tallySpelled, Cond.code yX4_tallySpelled cX4_tallySpelled 2 none, Cond.fieldLink RX4 19 "Tonguetell" "spelledTally" "LTonguetell$Tally;", Cond.fieldLink RX4 10 "Tonguetell" "spelled" "LTonguetell$Spelling;", Cond.methodLink RX4 214 yX3_clear, Cond.instanceMethod yX3_clear, Cond.selects RX3 yX3_clear yX3_clear, Cond.initialized RX3, Cond.code yX3_clear cX3_clear 2 none]
def wsL_distance_r2 : List Cond := [Cond.fieldLink RX3 9 "Tonguetell$Tally" "counts" "[I", Cond.fieldLink RX3 15 "Tonguetell$Tally" "sum" "I", Cond.methodLink RX4 74 yX2_runCount, Cond.instanceMethod yX2_runCount, Cond.selects RX2 yX2_runCount yX2_runCount, Cond.initialized RX2, Cond.code yX2_runCount cX2_runCount 1 (some .int), Cond.fieldLink RX2 15 "Tonguetell$Spelling" "length" "I", Cond.methodLink RX4 81 yX2_runNumber, Cond.instanceMethod yX2_runNumber, Cond.selects RX2 yX2_runNumber yX2_runNumber, Cond.code yX2_runNumber cX2_runNumber 2 (some .int), Cond.methodLink RX2 19 yX2_letterOrGap, Cond.instanceMethod yX2_letterOrGap, Cond.selects RX2 yX2_letterOrGap yX2_letterOrGap, Cond.code yX2_letterOrGap cX2_letterOrGap 2 (some .int), Cond.fieldLink RX2 9 "Tonguetell$Spelling" "letters" "[I", Cond.methodLink RX4 208 yX3_add, Cond.instanceMethod yX3_add, Cond.selects RX3 yX3_add yX3_add, Cond.code yX3_add cX3_add 2 none, Cond.methodLink RX4 146 yX4_distanceOfSpelled, Cond.instanceMethod yX4_distanceOfSpelled, Cond.selects RX4 yX4_distanceOfSpelled yX4_distanceOfSpelled]
def wsL_distance_r3 : List Cond := [Cond.code yX4_distanceOfSpelled cX4_distanceOfSpelled 6 (some .int), Cond.fieldLink RX4 23 "Tonguetell" "tallies" "[LTonguetell$Tally;", Cond.methodLink RX4 217 Lib.Math.abs.name, Cond.static Lib.Math.abs.name, Cond.initialized "java/lang/Math", Cond.code Lib.Math.abs.name Lib.Math.abs.code 1 (some .int), Cond.methodLink RX4 137 yX3_rankOf, Cond.instanceMethod yX3_rankOf, Cond.selects RX3 yX3_rankOf yX3_rankOf, Cond.code yX3_rankOf cX3_rankOf 4 (some .int)]
def wsL_distance : List Cond := .codeWith yL_distance cL_distance 4 (some .int) [(0, 9, 12, 21)] :: ((wsL_distance_r1 ++ (wsL_distance_r2 ++ wsL_distance_r3)) ++ wsX40 ++ wsX30 ++ wsX20 ++ (vx_atS RX4 189 "java/lang/IndexOutOfBoundsException" ["java/lang/RuntimeException", "java/lang/Exception"]).filter goodWord)
def wsL_setMargin : List Cond := .codeWith yL_setMargin cL_setMargin 4 (some .int) [(0, 9, 12, 13)] :: ([.classLink RL 13 "java/lang/IllegalArgumentException", .methodLink RL 57 yX4_setMargin, .instanceMethod yX4_setMargin, .selects RX4 yX4_setMargin yX4_setMargin, .initialized RX4, .code yX4_setMargin cX4_setMargin 3 (some .int), .classLink RX4 55 "java/lang/IllegalArgumentException", .initialized "java/lang/IllegalArgumentException", .fieldLink RX4 45 "Tonguetell" "margin" "I"] ++ wsX40 ++ (vx_atS RX4 59 "java/lang/IllegalArgumentException" ["java/lang/RuntimeException", "java/lang/Exception"]).filter goodWord)
def wsL_setPrice : List Cond := .codeWith yL_setPrice cL_setPrice 4 (some .int) [(0, 9, 12, 13)] :: ([.classLink RL 13 "java/lang/IllegalArgumentException", .methodLink RL 60 yX4_setPrice, .instanceMethod yX4_setPrice, .selects RX4 yX4_setPrice yX4_setPrice, .initialized RX4, .code yX4_setPrice cX4_setPrice 3 (some .int), .classLink RX4 55 "java/lang/IllegalArgumentException", .initialized "java/lang/IllegalArgumentException", .fieldLink RX4 48 "Tonguetell" "price" "I"] ++ wsX40 ++ (vx_atS RX4 59 "java/lang/IllegalArgumentException" ["java/lang/RuntimeException", "java/lang/Exception"]).filter goodWord)
def wsL_cutCost_r1 : List Cond := [Cond.classLink RL 15 "java/lang/IllegalStateException", Cond.methodLink RL 63 yX4_cutCost, Cond.instanceMethod yX4_cutCost, Cond.selects RX4 yX4_cutCost yX4_cutCost, Cond.initialized RX4, Cond.code yX4_cutCost cX4_cutCost 1 (some .int), Cond.fieldLink RX4 37 "Tonguetell" "cutter" "LTonguetell$Cutter;", Cond.methodLink RX4 157 yX4_requireSomeTongue, Cond.instanceMethod yX4_requireSomeTongue, Cond.selects RX4 yX4_requireSomeTongue yX4_requireSomeTongue, Cond.code yX4_requireSomeTongue cX4_requireSomeTongue 1 none, Cond.classLink RX4 65 "java/lang/IllegalStateException", Cond.initialized "java/lang/IllegalStateException", Cond.fieldLink RX4 41 "Tonguetell" "tongueCount" "I", Cond.methodLink RX4 160 yX4_layCostsForCut, Cond.instanceMethod yX4_layCostsForCut, Cond.selects RX4 yX4_layCostsForCut yX4_layCostsForCut, Cond.code yX4_layCostsForCut cX4_layCostsForCut 4 none, Cond.fieldLink RX4 10 "Tonguetell" "spelled" "LTonguetell$Spelling;", Cond.fieldLink RX4 48 "Tonguetell" "price" "I", Cond.fieldLink RX4 226 "Tonguetell$Cutter" "costs" "[[I", Cond.fieldLink RX4 23 "Tonguetell" "tallies" "[LTonguetell$Tally;", Cond.methodLink RX4 74 yX2_runCount, Cond.instanceMethod yX2_runCount]
def wsL_cutCost_r2 : List Cond := [Cond.selects RX2 yX2_runCount yX2_runCount, Cond.initialized RX2, Cond.code yX2_runCount cX2_runCount 1 (some .int), Cond.fieldLink RX2 15 "Tonguetell$Spelling" "length" "I", Cond.methodLink RX4 222 yX0_begin, Cond.instanceMethod yX0_begin, Cond.selects RX0 yX0_begin yX0_begin, Cond.initialized RX0, Cond.code yX0_begin cX0_begin 4 none, Cond.fieldLink RX0 23 "Tonguetell$Cutter" "runCount" "I", Cond.fieldLink RX0 27 "Tonguetell$Cutter" "choices" "I", Cond.fieldLink RX0 30 "Tonguetell$Cutter" "changePrice" "I", Cond.methodLink RX4 81 yX2_runNumber, Cond.instanceMethod yX2_runNumber, Cond.selects RX2 yX2_runNumber yX2_runNumber, Cond.code yX2_runNumber cX2_runNumber 2 (some .int), Cond.methodLink RX2 19 yX2_letterOrGap, Cond.instanceMethod yX2_letterOrGap, Cond.selects RX2 yX2_letterOrGap yX2_letterOrGap, Cond.code yX2_letterOrGap cX2_letterOrGap 2 (some .int), Cond.fieldLink RX2 9 "Tonguetell$Spelling" "letters" "[I", Cond.methodLink RX4 134 yX3_costOf, Cond.instanceMethod yX3_costOf, Cond.selects RX3 yX3_costOf yX3_costOf]
def wsL_cutCost_r3 : List Cond := [Cond.initialized RX3, Cond.code yX3_costOf cX3_costOf 5 (some .int), Cond.fieldLink RX3 15 "Tonguetell$Tally" "sum" "I", Cond.fieldLink RX3 9 "Tonguetell$Tally" "counts" "[I", Cond.methodLink RX4 163 yX0_leastCost, Cond.instanceMethod yX0_leastCost, Cond.selects RX0 yX0_leastCost yX0_leastCost, Cond.code yX0_leastCost cX0_leastCost 1 (some .int), Cond.fieldLink RX0 20 "Tonguetell$Cutter" "rest" "[[I", Cond.methodLink RX0 33 yX0_fillRest, Cond.instanceMethod yX0_fillRest, Cond.selects RX0 yX0_fillRest yX0_fillRest, Cond.code yX0_fillRest cX0_fillRest 3 none, Cond.fieldLink RX0 11 "Tonguetell$Cutter" "costs" "[[I", Cond.methodLink RX0 44 yX0_leastBehind, Cond.instanceMethod yX0_leastBehind, Cond.selects RX0 yX0_leastBehind yX0_leastBehind, Cond.code yX0_leastBehind cX0_leastBehind 4 (some .int), Cond.methodLink RX0 36 yX0_cheapest, Cond.instanceMethod yX0_cheapest, Cond.selects RX0 yX0_cheapest yX0_cheapest, Cond.code yX0_cheapest cX0_cheapest 5 (some .int), Cond.methodLink RX0 47 yX0_restAfter, Cond.instanceMethod yX0_restAfter]
def wsL_cutCost_r4 : List Cond := [Cond.selects RX0 yX0_restAfter yX0_restAfter, Cond.code yX0_restAfter cX0_restAfter 4 (some .int), Cond.methodLink RX0 51 yX0_priceOfChange, Cond.instanceMethod yX0_priceOfChange, Cond.selects RX0 yX0_priceOfChange yX0_priceOfChange, Cond.code yX0_priceOfChange cX0_priceOfChange 3 (some .int)]
def wsL_cutCost : List Cond := .codeWith yL_cutCost cL_cutCost 3 (some .int) [(0, 8, 11, 15)] :: ((wsL_cutCost_r1 ++ (wsL_cutCost_r2 ++ (wsL_cutCost_r3 ++ wsL_cutCost_r4))) ++ wsX40 ++ wsX00 ++ wsX20 ++ wsX30 ++ (vx_atS RX4 69 "java/lang/IllegalStateException" ["java/lang/RuntimeException", "java/lang/Exception"]).filter goodWord)
def wsL_cutCostByTrying_r1 : List Cond := [Cond.classLink RL 15 "java/lang/IllegalStateException", Cond.methodLink RL 66 yX4_cutCostByTrying, Cond.instanceMethod yX4_cutCostByTrying, Cond.selects RX4 yX4_cutCostByTrying yX4_cutCostByTrying, Cond.initialized RX4, Cond.code yX4_cutCostByTrying cX4_cutCostByTrying 1 (some .int), Cond.classLink RX4 65 "java/lang/IllegalStateException", Cond.initialized "java/lang/IllegalStateException", Cond.fieldLink RX4 10 "Tonguetell" "spelled" "LTonguetell$Spelling;", Cond.fieldLink RX4 62 "Tonguetell$Spelling" "length" "I", Cond.fieldLink RX4 37 "Tonguetell" "cutter" "LTonguetell$Cutter;", Cond.methodLink RX4 157 yX4_requireSomeTongue, Cond.instanceMethod yX4_requireSomeTongue, Cond.selects RX4 yX4_requireSomeTongue yX4_requireSomeTongue, Cond.code yX4_requireSomeTongue cX4_requireSomeTongue 1 none, Cond.fieldLink RX4 41 "Tonguetell" "tongueCount" "I", Cond.methodLink RX4 160 yX4_layCostsForCut, Cond.instanceMethod yX4_layCostsForCut, Cond.selects RX4 yX4_layCostsForCut yX4_layCostsForCut, Cond.code yX4_layCostsForCut cX4_layCostsForCut 4 none, Cond.fieldLink RX4 48 "Tonguetell" "price" "I", Cond.fieldLink RX4 226 "Tonguetell$Cutter" "costs" "[[I", Cond.fieldLink RX4 23 "Tonguetell" "tallies" "[LTonguetell$Tally;", Cond.methodLink RX4 74 yX2_runCount]
def wsL_cutCostByTrying_r2 : List Cond := [Cond.instanceMethod yX2_runCount, Cond.selects RX2 yX2_runCount yX2_runCount, Cond.initialized RX2, Cond.code yX2_runCount cX2_runCount 1 (some .int), Cond.fieldLink RX2 15 "Tonguetell$Spelling" "length" "I", Cond.methodLink RX4 222 yX0_begin, Cond.instanceMethod yX0_begin, Cond.selects RX0 yX0_begin yX0_begin, Cond.initialized RX0, Cond.code yX0_begin cX0_begin 4 none, Cond.fieldLink RX0 23 "Tonguetell$Cutter" "runCount" "I", Cond.fieldLink RX0 27 "Tonguetell$Cutter" "choices" "I", Cond.fieldLink RX0 30 "Tonguetell$Cutter" "changePrice" "I", Cond.methodLink RX4 81 yX2_runNumber, Cond.instanceMethod yX2_runNumber, Cond.selects RX2 yX2_runNumber yX2_runNumber, Cond.code yX2_runNumber cX2_runNumber 2 (some .int), Cond.methodLink RX2 19 yX2_letterOrGap, Cond.instanceMethod yX2_letterOrGap, Cond.selects RX2 yX2_letterOrGap yX2_letterOrGap, Cond.code yX2_letterOrGap cX2_letterOrGap 2 (some .int), Cond.fieldLink RX2 9 "Tonguetell$Spelling" "letters" "[I", Cond.methodLink RX4 134 yX3_costOf, Cond.instanceMethod yX3_costOf]
def wsL_cutCostByTrying_r3 : List Cond := [Cond.selects RX3 yX3_costOf yX3_costOf, Cond.initialized RX3, Cond.code yX3_costOf cX3_costOf 5 (some .int), Cond.fieldLink RX3 15 "Tonguetell$Tally" "sum" "I", Cond.fieldLink RX3 9 "Tonguetell$Tally" "counts" "[I", Cond.methodLink RX4 168 yX0_leastCostByTrying, Cond.instanceMethod yX0_leastCostByTrying, Cond.selects RX0 yX0_leastCostByTrying yX0_leastCostByTrying, Cond.code yX0_leastCostByTrying cX0_leastCostByTrying 1 (some .int), Cond.methodLink RX0 40 yX0_leastByTrying, Cond.static yX0_leastByTrying, Cond.code yX0_leastByTrying cX0_leastByTrying 6 (some .int), Cond.constant RX0 54 (1000000), Cond.fieldLink RX0 11 "Tonguetell$Cutter" "costs" "[[I", Cond.methodLink RX0 55 Lib.Math.min.name, Cond.static Lib.Math.min.name, Cond.initialized "java/lang/Math", Cond.code Lib.Math.min.name Lib.Math.min.code 2 (some .int), Cond.methodLink RX0 51 yX0_priceOfChange, Cond.instanceMethod yX0_priceOfChange, Cond.selects RX0 yX0_priceOfChange yX0_priceOfChange, Cond.code yX0_priceOfChange cX0_priceOfChange 3 (some .int)]
def wsL_cutCostByTrying : List Cond := .codeWith yL_cutCostByTrying cL_cutCostByTrying 3 (some .int) [(0, 8, 11, 15)] :: ((wsL_cutCostByTrying_r1 ++ (wsL_cutCostByTrying_r2 ++ wsL_cutCostByTrying_r3)) ++ wsX40 ++ wsX20 ++ wsX00 ++ wsX30 ++ (vx_atS RX4 69 "java/lang/IllegalStateException" ["java/lang/RuntimeException", "java/lang/Exception"]).filter goodWord)
def wsL_cutTongue_r1 : List Cond := [Cond.classLink RL 15 "java/lang/IllegalStateException", Cond.classLink RL 21 "java/lang/IndexOutOfBoundsException", Cond.methodLink RL 69 yX4_cutTongue, Cond.instanceMethod yX4_cutTongue, Cond.selects RX4 yX4_cutTongue yX4_cutTongue, Cond.initialized RX4, Cond.code yX4_cutTongue cX4_cutTongue 2 (some .int), Cond.fieldLink RX4 37 "Tonguetell" "cutter" "LTonguetell$Cutter;", Cond.fieldLink RX4 174 "Tonguetell$Cutter" "told" "[I", Cond.methodLink RX4 157 yX4_requireSomeTongue, Cond.instanceMethod yX4_requireSomeTongue, Cond.selects RX4 yX4_requireSomeTongue yX4_requireSomeTongue, Cond.code yX4_requireSomeTongue cX4_requireSomeTongue 1 none, Cond.classLink RX4 65 "java/lang/IllegalStateException", Cond.initialized "java/lang/IllegalStateException", Cond.fieldLink RX4 41 "Tonguetell" "tongueCount" "I", Cond.methodLink RX4 78 yX4_requireRunPlace, Cond.instanceMethod yX4_requireRunPlace, Cond.selects RX4 yX4_requireRunPlace yX4_requireRunPlace, Cond.code yX4_requireRunPlace cX4_requireRunPlace 2 none, Cond.classLink RX4 185 "java/lang/IndexOutOfBoundsException", Cond.initialized "java/lang/IndexOutOfBoundsException", Cond.fieldLink RX4 10 "Tonguetell" "spelled" "LTonguetell$Spelling;", Cond.methodLink RX4 74 yX2_runCount]
def wsL_cutTongue_r2 : List Cond := [Cond.instanceMethod yX2_runCount, Cond.selects RX2 yX2_runCount yX2_runCount, Cond.initialized RX2, Cond.code yX2_runCount cX2_runCount 1 (some .int), Cond.fieldLink RX2 15 "Tonguetell$Spelling" "length" "I", Cond.methodLink RX4 160 yX4_layCostsForCut, Cond.instanceMethod yX4_layCostsForCut, Cond.selects RX4 yX4_layCostsForCut yX4_layCostsForCut, Cond.code yX4_layCostsForCut cX4_layCostsForCut 4 none, Cond.fieldLink RX4 48 "Tonguetell" "price" "I", Cond.fieldLink RX4 226 "Tonguetell$Cutter" "costs" "[[I", Cond.fieldLink RX4 23 "Tonguetell" "tallies" "[LTonguetell$Tally;", Cond.methodLink RX4 222 yX0_begin, Cond.instanceMethod yX0_begin, Cond.selects RX0 yX0_begin yX0_begin, Cond.initialized RX0, Cond.code yX0_begin cX0_begin 4 none, Cond.fieldLink RX0 23 "Tonguetell$Cutter" "runCount" "I", Cond.fieldLink RX0 27 "Tonguetell$Cutter" "choices" "I", Cond.fieldLink RX0 30 "Tonguetell$Cutter" "changePrice" "I", Cond.methodLink RX4 81 yX2_runNumber, Cond.instanceMethod yX2_runNumber, Cond.selects RX2 yX2_runNumber yX2_runNumber, Cond.code yX2_runNumber cX2_runNumber 2 (some .int)]
def wsL_cutTongue_r3 : List Cond := [Cond.methodLink RX2 19 yX2_letterOrGap, Cond.instanceMethod yX2_letterOrGap, Cond.selects RX2 yX2_letterOrGap yX2_letterOrGap, Cond.code yX2_letterOrGap cX2_letterOrGap 2 (some .int), Cond.fieldLink RX2 9 "Tonguetell$Spelling" "letters" "[I", Cond.methodLink RX4 134 yX3_costOf, Cond.instanceMethod yX3_costOf, Cond.selects RX3 yX3_costOf yX3_costOf, Cond.initialized RX3, Cond.code yX3_costOf cX3_costOf 5 (some .int), Cond.fieldLink RX3 15 "Tonguetell$Tally" "sum" "I", Cond.fieldLink RX3 9 "Tonguetell$Tally" "counts" "[I", Cond.methodLink RX4 171 yX0_findToldCut, Cond.instanceMethod yX0_findToldCut, Cond.selects RX0 yX0_findToldCut yX0_findToldCut, Cond.code yX0_findToldCut cX0_findToldCut 3 none, Cond.fieldLink RX0 16 "Tonguetell$Cutter" "told" "[I", Cond.methodLink RX0 33 yX0_fillRest, Cond.instanceMethod yX0_fillRest, Cond.selects RX0 yX0_fillRest yX0_fillRest, Cond.code yX0_fillRest cX0_fillRest 3 none, Cond.fieldLink RX0 20 "Tonguetell$Cutter" "rest" "[[I", Cond.fieldLink RX0 11 "Tonguetell$Cutter" "costs" "[[I", Cond.methodLink RX0 44 yX0_leastBehind]
def wsL_cutTongue_r4 : List Cond := [Cond.instanceMethod yX0_leastBehind, Cond.selects RX0 yX0_leastBehind yX0_leastBehind, Cond.code yX0_leastBehind cX0_leastBehind 4 (some .int), Cond.methodLink RX0 36 yX0_cheapest, Cond.instanceMethod yX0_cheapest, Cond.selects RX0 yX0_cheapest yX0_cheapest, Cond.code yX0_cheapest cX0_cheapest 5 (some .int), Cond.methodLink RX0 47 yX0_restAfter, Cond.instanceMethod yX0_restAfter, Cond.selects RX0 yX0_restAfter yX0_restAfter, Cond.code yX0_restAfter cX0_restAfter 4 (some .int), Cond.methodLink RX0 51 yX0_priceOfChange, Cond.instanceMethod yX0_priceOfChange, Cond.selects RX0 yX0_priceOfChange yX0_priceOfChange, Cond.code yX0_priceOfChange cX0_priceOfChange 3 (some .int)]
def wsL_cutTongue : List Cond := .codeWith yL_cutTongue cL_cutTongue 4 (some .int) [(0, 9, 12, 15), (0, 9, 15, 21)] :: ((wsL_cutTongue_r1 ++ (wsL_cutTongue_r2 ++ (wsL_cutTongue_r3 ++ wsL_cutTongue_r4))) ++ wsX40 ++ wsX00 ++ wsX20 ++ wsX30 ++ (vx_atS RX4 69 "java/lang/IllegalStateException" ["java/lang/RuntimeException", "java/lang/Exception"]).filter goodWord ++ (vx_atS RX4 189 "java/lang/IndexOutOfBoundsException" ["java/lang/RuntimeException", "java/lang/Exception"]).filter goodWord)
def wsL_stretches_r1 : List Cond := [Cond.classLink RL 15 "java/lang/IllegalStateException", Cond.methodLink RL 72 yX4_stretches, Cond.instanceMethod yX4_stretches, Cond.selects RX4 yX4_stretches yX4_stretches, Cond.initialized RX4, Cond.code yX4_stretches cX4_stretches 1 (some .int), Cond.fieldLink RX4 37 "Tonguetell" "cutter" "LTonguetell$Cutter;", Cond.methodLink RX4 157 yX4_requireSomeTongue, Cond.instanceMethod yX4_requireSomeTongue, Cond.selects RX4 yX4_requireSomeTongue yX4_requireSomeTongue, Cond.code yX4_requireSomeTongue cX4_requireSomeTongue 1 none, Cond.classLink RX4 65 "java/lang/IllegalStateException", Cond.initialized "java/lang/IllegalStateException", Cond.fieldLink RX4 41 "Tonguetell" "tongueCount" "I", Cond.methodLink RX4 160 yX4_layCostsForCut, Cond.instanceMethod yX4_layCostsForCut, Cond.selects RX4 yX4_layCostsForCut yX4_layCostsForCut, Cond.code yX4_layCostsForCut cX4_layCostsForCut 4 none, Cond.fieldLink RX4 10 "Tonguetell" "spelled" "LTonguetell$Spelling;", Cond.fieldLink RX4 48 "Tonguetell" "price" "I", Cond.fieldLink RX4 226 "Tonguetell$Cutter" "costs" "[[I", Cond.fieldLink RX4 23 "Tonguetell" "tallies" "[LTonguetell$Tally;", Cond.methodLink RX4 74 yX2_runCount, Cond.instanceMethod yX2_runCount]
def wsL_stretches_r2 : List Cond := [Cond.selects RX2 yX2_runCount yX2_runCount, Cond.initialized RX2, Cond.code yX2_runCount cX2_runCount 1 (some .int), Cond.fieldLink RX2 15 "Tonguetell$Spelling" "length" "I", Cond.methodLink RX4 222 yX0_begin, Cond.instanceMethod yX0_begin, Cond.selects RX0 yX0_begin yX0_begin, Cond.initialized RX0, Cond.code yX0_begin cX0_begin 4 none, Cond.fieldLink RX0 23 "Tonguetell$Cutter" "runCount" "I", Cond.fieldLink RX0 27 "Tonguetell$Cutter" "choices" "I", Cond.fieldLink RX0 30 "Tonguetell$Cutter" "changePrice" "I", Cond.methodLink RX4 81 yX2_runNumber, Cond.instanceMethod yX2_runNumber, Cond.selects RX2 yX2_runNumber yX2_runNumber, Cond.code yX2_runNumber cX2_runNumber 2 (some .int), Cond.methodLink RX2 19 yX2_letterOrGap, Cond.instanceMethod yX2_letterOrGap, Cond.selects RX2 yX2_letterOrGap yX2_letterOrGap, Cond.code yX2_letterOrGap cX2_letterOrGap 2 (some .int), Cond.fieldLink RX2 9 "Tonguetell$Spelling" "letters" "[I", Cond.methodLink RX4 134 yX3_costOf, Cond.instanceMethod yX3_costOf, Cond.selects RX3 yX3_costOf yX3_costOf]
def wsL_stretches_r3 : List Cond := [Cond.initialized RX3, Cond.code yX3_costOf cX3_costOf 5 (some .int), Cond.fieldLink RX3 15 "Tonguetell$Tally" "sum" "I", Cond.fieldLink RX3 9 "Tonguetell$Tally" "counts" "[I", Cond.methodLink RX4 171 yX0_findToldCut, Cond.instanceMethod yX0_findToldCut, Cond.selects RX0 yX0_findToldCut yX0_findToldCut, Cond.code yX0_findToldCut cX0_findToldCut 3 none, Cond.fieldLink RX0 16 "Tonguetell$Cutter" "told" "[I", Cond.methodLink RX0 33 yX0_fillRest, Cond.instanceMethod yX0_fillRest, Cond.selects RX0 yX0_fillRest yX0_fillRest, Cond.code yX0_fillRest cX0_fillRest 3 none, Cond.fieldLink RX0 20 "Tonguetell$Cutter" "rest" "[[I", Cond.fieldLink RX0 11 "Tonguetell$Cutter" "costs" "[[I", Cond.methodLink RX0 44 yX0_leastBehind, Cond.instanceMethod yX0_leastBehind, Cond.selects RX0 yX0_leastBehind yX0_leastBehind, Cond.code yX0_leastBehind cX0_leastBehind 4 (some .int), Cond.methodLink RX0 36 yX0_cheapest, Cond.instanceMethod yX0_cheapest, Cond.selects RX0 yX0_cheapest yX0_cheapest, Cond.code yX0_cheapest cX0_cheapest 5 (some .int), Cond.methodLink RX0 47 yX0_restAfter]
def wsL_stretches_r4 : List Cond := [Cond.instanceMethod yX0_restAfter, Cond.selects RX0 yX0_restAfter yX0_restAfter, Cond.code yX0_restAfter cX0_restAfter 4 (some .int), Cond.methodLink RX0 51 yX0_priceOfChange, Cond.instanceMethod yX0_priceOfChange, Cond.selects RX0 yX0_priceOfChange yX0_priceOfChange, Cond.code yX0_priceOfChange cX0_priceOfChange 3 (some .int), Cond.methodLink RX4 177 yX0_stretchCount, Cond.instanceMethod yX0_stretchCount, Cond.selects RX0 yX0_stretchCount yX0_stretchCount, Cond.code yX0_stretchCount cX0_stretchCount 3 (some .int)]
def wsL_stretches : List Cond := .codeWith yL_stretches cL_stretches 3 (some .int) [(0, 8, 11, 15)] :: ((wsL_stretches_r1 ++ (wsL_stretches_r2 ++ (wsL_stretches_r3 ++ wsL_stretches_r4))) ++ wsX40 ++ wsX00 ++ wsX20 ++ wsX30 ++ (vx_atS RX4 69 "java/lang/IllegalStateException" ["java/lang/RuntimeException", "java/lang/Exception"]).filter goodWord)
def wsL_learn_r1 : List Cond := [Cond.classLink RL 13 "java/lang/IllegalArgumentException", Cond.classLink RL 15 "java/lang/IllegalStateException", Cond.methodLink RL 75 yX4_learn, Cond.instanceMethod yX4_learn, Cond.selects RX4 yX4_learn yX4_learn, Cond.initialized RX4, Cond.code yX4_learn cX4_learn 6 (some .int), Cond.classLink RX4 55 "java/lang/IllegalArgumentException", Cond.initialized "java/lang/IllegalArgumentException", Cond.classLink RX4 65 "java/lang/IllegalStateException", Cond.initialized "java/lang/IllegalStateException", Cond.fieldLink RX4 41 "Tonguetell" "tongueCount" "I", Cond.fieldLink RX4 30 "Tonguetell" "shelf" "LTonguetell$Shelf;", Cond.fieldLink RX4 10 "Tonguetell" "spelled" "LTonguetell$Spelling;", Cond.methodLink RX4 95 yX1_isFull, Cond.instanceMethod yX1_isFull, Cond.selects RX1 yX1_isFull yX1_isFull, Cond.initialized RX1, Cond.code yX1_isFull cX1_isFull 1 (some .boolean), Cond.methodLink RX1 30 yX1_firstSlotWith, Cond.instanceMethod yX1_firstSlotWith, Cond.selects RX1 yX1_firstSlotWith yX1_firstSlotWith, Cond.code yX1_firstSlotWith cX1_firstSlotWith 3 (some .int), Cond.fieldLink RX1 9 "Tonguetell$Shelf" "numberIn" "[I"]
def wsL_learn_r2 : List Cond := [Cond.methodLink RX4 74 yX2_runCount, Cond.instanceMethod yX2_runCount, Cond.selects RX2 yX2_runCount yX2_runCount, Cond.initialized RX2, Cond.code yX2_runCount cX2_runCount 1 (some .int), Cond.fieldLink RX2 15 "Tonguetell$Spelling" "length" "I", Cond.methodLink RX4 81 yX2_runNumber, Cond.instanceMethod yX2_runNumber, Cond.selects RX2 yX2_runNumber yX2_runNumber, Cond.code yX2_runNumber cX2_runNumber 2 (some .int), Cond.methodLink RX2 19 yX2_letterOrGap, Cond.instanceMethod yX2_letterOrGap, Cond.selects RX2 yX2_letterOrGap yX2_letterOrGap, Cond.code yX2_letterOrGap cX2_letterOrGap 2 (some .int), Cond.fieldLink RX2 9 "Tonguetell$Spelling" "letters" "[I", Cond.methodLink RX4 182 yX4_fitsNoTongue, Cond.instanceMethod yX4_fitsNoTongue, Cond.selects RX4 yX4_fitsNoTongue yX4_fitsNoTongue, Cond.code yX4_fitsNoTongue cX4_fitsNoTongue 4 (some .boolean), Cond.fieldLink RX4 23 "Tonguetell" "tallies" "[LTonguetell$Tally;", Cond.methodLink RX4 134 yX3_costOf, Cond.instanceMethod yX3_costOf, Cond.selects RX3 yX3_costOf yX3_costOf, Cond.initialized RX3]
def wsL_learn_r3 : List Cond := [Cond.code yX3_costOf cX3_costOf 5 (some .int), Cond.fieldLink RX3 15 "Tonguetell$Tally" "sum" "I", Cond.fieldLink RX3 9 "Tonguetell$Tally" "counts" "[I", Cond.methodLink RX4 87 yX4_newTongue, Cond.instanceMethod yX4_newTongue, Cond.selects RX4 yX4_newTongue yX4_newTongue, Cond.code yX4_newTongue cX4_newTongue 2 (some .int), Cond.methodLink RX4 101 yX4_teachRuns, Cond.instanceMethod yX4_teachRuns, Cond.selects RX4 yX4_teachRuns yX4_teachRuns, Cond.code yX4_teachRuns cX4_teachRuns 7 (some .int), Cond.fieldLink RX4 115 "Tonguetell$Shelf" "runsIn" "[[I", Cond.fieldLink RX4 211 "Tonguetell$Shelf" "numberIn" "[I", Cond.methodLink RX4 204 yX1_take, Cond.instanceMethod yX1_take, Cond.selects RX1 yX1_take yX1_take, Cond.code yX1_take cX1_take 4 (some .int), Cond.fieldLink RX1 26 "Tonguetell$Shelf" "nextNumber" "I", Cond.fieldLink RX1 15 "Tonguetell$Shelf" "tongueIn" "[I", Cond.fieldLink RX1 18 "Tonguetell$Shelf" "lengthIn" "[I", Cond.methodLink RX4 208 yX3_add, Cond.instanceMethod yX3_add, Cond.selects RX3 yX3_add yX3_add, Cond.code yX3_add cX3_add 2 none]
def wsL_learn : List Cond := .codeWith yL_learn cL_learn 4 (some .int) [(0, 9, 12, 13), (0, 9, 15, 15)] :: ((wsL_learn_r1 ++ (wsL_learn_r2 ++ wsL_learn_r3)) ++ wsX40 ++ wsX10 ++ wsX20 ++ wsX30 ++ (vx_atS RX4 59 "java/lang/IllegalArgumentException" ["java/lang/RuntimeException", "java/lang/Exception"]).filter goodWord ++ (vx_atS RX4 69 "java/lang/IllegalStateException" ["java/lang/RuntimeException", "java/lang/Exception"]).filter goodWord)
abbrev vwCl : List vw_C := [(RX0, TX0, 6), (RX1, TX1, 5), (RX2, TX2, 2), (RX3, TX3, 2), (RX4, TX4, 8), (RX5, TX5, 13)]
end
section
/-! ===== the world of a run: 97 cells at the addresses ad i; what cell i holds is told by its ints σ i ===== -/
abbrev sS : Type := Nat → Nat → Int32
def ent (ad : Nat → Nat) (cy : Nat → ClassId) (i : Nat) (f : Nat → Int32) : va_E :=
  if i = 0 then .inr (4, [.ref (ad 1), .ref (ad 3), .ref (ad 5), .ref (ad 16), .ref (ad 51), .int (f 5), .int (f 6), .int (f 7)])
  else if i = 1 then .inr (2, [.ref (ad 2), .int (f 1)])
  else if i = 2 then .inl (cy 0, 16, .inl f)
  else if i = 3 then .inr (3, [.ref (ad 4), .int (f 1)])
  else if i = 4 then .inl (cy 0, 36, .inl f)
  else if i = 5 then .inl (cy 1, 5, .inr (.inr (.inr (.inr (fun t => some (ad (6 + t)))))))
  else if i < 11 then .inr (3, [.ref (ad (i + 5)), .int (f 1)])
  else if i < 16 then .inl (cy 0, 36, .inl f)
  else if i = 16 then .inr (1, [.ref (ad 17), .ref (ad 18), .ref (ad 19), .ref (ad 20), .int (f 4)])
  else if i < 20 then .inl (cy 0, 30, .inl f)
  else if i = 20 then .inl (cy 2, 30, .inr (.inr (.inr (.inr (fun t => some (ad (21 + t)))))))
  else if i < 51 then .inl (cy 0, 17, .inl f)
  else if i = 51 then .inr (0, [.ref (ad 52), .ref (ad 70), .ref (ad 71), .int (f 3), .int (f 4), .int (f 5)])
  else if i = 52 then .inl (cy 2, 17, .inr (.inr (.inr (.inr (fun t => some (ad (53 + t)))))))
  else if i < 70 then .inl (cy 0, 5, .inl f)
  else if i = 70 then .inl (cy 0, 17, .inl f)
  else if i = 71 then .inl (cy 2, 17, .inr (.inr (.inr (.inr (fun t => some (ad (72 + t)))))))
  else if i < 89 then .inl (cy 0, 5, .inl f)
  else if i = 89 then .inr (5, [.int (f 0), .ref (ad 90), .int (f 2), .int (f 3), .int (f 4), .int (f 5), .int (f 6), .int (f 7), .ref (ad 91), .ref (ad 92), .ref (ad 93), .ref (ad 94), .ref (ad 95)])
  else if i = 90 then .inl (cy 0, 16, .inl f)
  else if i < 94 then .inl (cy 0, 30, .inl f)
  else if i = 94 then .inl (cy 0, 510, .inl f)
  else if i = 95 then .inl (cy 0, 85, .inl f)
  else .inl (cy 3, 1, .inr (.inl (fun k => (f k).toInt64)))
def wld (ad : Nat → Nat) (cy : Nat → ClassId) (σ : sS) : va_W := (List.range 97).map (fun i => (ad i, ent ad cy i (σ i)))
theorem wld_len (ad : Nat → Nat) (cy : Nat → ClassId) (σ : sS) : (wld ad cy σ).length = 97 := by simp [wld]
theorem wld_at (ad : Nat → Nat) (cy : Nat → ClassId) (σ : sS) {i : Nat} (h : i < 97) : (wld ad cy σ)[i]? = some (ad i, ent ad cy i (σ i)) := by
  simp [wld, h]
theorem wld_of {ad : Nat → Nat} {cy : Nat → ClassId} {σ : sS} {i : Nat} {q : Nat × va_E} (h : (wld ad cy σ)[i]? = some q) : i < 97 ∧ q = (ad i, ent ad cy i (σ i)) := by
  have h1 : i < 97 := by
    have := (List.getElem?_eq_some_iff.mp h).1
    rw [wld_len] at this
    exact this
  exact ⟨h1, Option.some.inj (h.symm.trans (wld_at ad cy σ h1))⟩
theorem wld_set (ad : Nat → Nat) (cy : Nat → ClassId) (σ : sS) {i : Nat} (f : Nat → Int32) : (wld ad cy σ).set i (ad i, ent ad cy i f) = wld ad cy (va_up σ i f) := by
  apply List.ext_getElem?
  intro j
  rw [List.getElem?_set, wld_len]
  by_cases hj : i = j
  · subst hj
    by_cases h : i < 97
    · rw [if_pos rfl, if_pos h, wld_at _ _ _ h, va_up_self]
    · rw [if_pos rfl, if_neg h, List.getElem?_eq_none (by rw [wld_len]; omega)]
  · rw [if_neg hj]
    by_cases h : j < 97
    · rw [wld_at _ _ _ h, wld_at _ _ _ h, va_up_ne _ _ (fun q => hj q.symm)]
    · rw [List.getElem?_eq_none (by rw [wld_len]; omega), List.getElem?_eq_none (by rw [wld_len]; omega)]
/-- place k of cell i gets x -/
def su (σ : sS) (i k : Nat) (x : Int32) : sS := va_up σ i (upd (σ i) k x)
theorem su_eq (σ : sS) (i k : Nat) (x : Int32) : su σ i k x i k = x := by simp [su, va_up, upd]
theorem su_ni (σ : sS) {i j : Nat} (k : Nat) (x : Int32) (h : j ≠ i) : su σ i k x j = σ j := by simp [su, va_up, h]
theorem su_nk (σ : sS) (i : Nat) {k n : Nat} (x : Int32) (h : n ≠ k) : su σ i k x i n = σ i n := by simp [su, va_up, upd, h]
theorem su_ap (σ : sS) (i k j n : Nat) (x : Int32) : su σ i k x j n = if j = i ∧ n = k then x else σ j n := by
  by_cases h : j = i
  · subst h
    by_cases h2 : n = k
    · subst h2; rw [su_eq, if_pos ⟨rfl, rfl⟩]
    · rw [su_nk _ _ _ h2, if_neg (fun q => h2 q.2)]
  · rw [su_ni _ _ _ h, if_neg (fun q => h q.1)]
abbrev tysO (cy : Nat → ClassId) : List (ClassId × FieldType) := [(cy 0, .int), (cy 1, .object RX3), (cy 2, .array .int), (cy 3, .long)]
def Dis (ad : Nat → Nat) : Prop := ∀ i j, i < 97 → j < 97 → ad i = ad j → i = j
theorem Dis.D {ad : Nat → Nat} (h : Dis ad) {A : Nat → Prop} (hA : ∀ i, i < 97 → A (ad i)) (cy : Nat → ClassId) (σ : sS) : va_D A (wld ad cy σ) := by
  refine ⟨fun i j p q hp hq e => ?_, fun k q hq => ?_⟩
  · obtain ⟨h1, rfl⟩ := wld_of hp
    obtain ⟨h2, rfl⟩ := wld_of hq
    exact h i j h1 h2 e
  · obtain ⟨h1, rfl⟩ := wld_of hq
    exact hA k h1
/-- what a method may write: the world's cells, and new ones -/
def Aw (ad : Nat → Nat) (sz : Nat) : Nat → Prop := fun q => (∃ i, i < 97 ∧ q = ad i) ∨ sz ≤ q
/-- the fixed facts of a walk -/
def Cx (p : Program) (s : State) (m : MethodId) (args : Array Value) (c : Code) (cc : ByteArray) (nL : Nat) (own : String) (Ts : List Cond) (D : va_G) (cy : Nat → ClassId) (ad : Nat → Nat) (A : Nat → Prop) : Prop :=
  p.tables.exec = Jvm.exec ∧ c.code = cc ∧ c.maxLocals = nL ∧ s.vm.findClass own = some m.cls ∧ (∀ w ∈ Ts, w.before args s = true) ∧ va_K D vwCl (tysO cy) s ∧ Dis ad ∧ (∀ i, i < 97 → A (ad i)) ∧ ∀ q, s.heap.size ≤ q → A q
/-- from here, in every heap that holds the world σ, the machine comes to Q -/
def TT (p : Program) (l : Launch) (e : Env) (R : Room) (s : State) (m : MethodId) (args : Array Value) (below : List Frame) (meth : Method) (c : Code) (D : va_G) (cy : Nat → ClassId) (ad : Nat → Nat) (A : Nat → Prop) (nL : Nat) (cells slots : Nat) (Q : State → Prop) (σ : sS) (pc : Nat) (lv : List (Nat × Value)) (st : List Value) : Prop :=
  ∀ (H : Heap) (locs : List Loc) (ls : Array Slot), va_P D vwCl (wld ad cy σ) H → va_S A s.heap H locs → lv_has ls nL lv → W p l e R s m args below meth c H locs cells slots Q (F0 m pc ls st)
section TTS
variable {p : Program} {l : Launch} {e : Env} {R : Room} {s : State} {m : MethodId} {args : Array Value} {below : List Frame} {meth : Method} {c : Code} {D : va_G} {cy : Nat → ClassId} {ad : Nat → Nat} {A : Nat → Prop} {nL : Nat} {cells slots : Nat} {Q : State → Prop}
variable {cc : ByteArray} {own : String} {Ts : List Cond} {σ : sS} {pc : Nat} {lv : List (Nat × Value)} {st : List Value}

theorem tg_iconst (C : Cx p s m args c cc nL own Ts D cy ad A) {n : Int} (v : Int32) (hdg : decode cc pc = .ok (.iconst n, 1)) (pc' : Nat) (hp : pc + 1 = pc') (hv : Int32.ofInt n = v) (k : TT p l e R s m args below meth c D cy ad A nL cells slots Q σ pc' lv (.int v :: st)) : TT p l e R s m args below meth c D cy ad A nL cells slots Q σ pc lv st := by
  subst hp
  intro H locs ls hP hS hl
  exact lv_iconst C.1 C.2.1 hdg hv (k H locs ls hP hS hl)
theorem tg_bipush (C : Cx p s m args c cc nL own Ts D cy ad A) {n : Int} (v : Int32) (hdg : decode cc pc = .ok (.bipush n, 2)) (pc' : Nat) (hp : pc + 2 = pc') (hv : (Int8.ofInt n).toInt32 = v) (k : TT p l e R s m args below meth c D cy ad A nL cells slots Q σ pc' lv (.int v :: st)) : TT p l e R s m args below meth c D cy ad A nL cells slots Q σ pc lv st := by
  subst hp
  intro H locs ls hP hS hl
  exact lv_bipush C.1 C.2.1 hdg hv (k H locs ls hP hS hl)
theorem tg_sipush (C : Cx p s m args c cc nL own Ts D cy ad A) {n : Int} (v : Int32) (hdg : decode cc pc = .ok (.sipush n, 3)) (pc' : Nat) (hp : pc + 3 = pc') (hv : (Int16.ofInt n).toInt32 = v) (k : TT p l e R s m args below meth c D cy ad A nL cells slots Q σ pc' lv (.int v :: st)) : TT p l e R s m args below meth c D cy ad A nL cells slots Q σ pc lv st := by
  subst hp
  intro H locs ls hP hS hl
  exact lv_sipush C.1 C.2.1 hdg hv (k H locs ls hP hS hl)
theorem tg_ldc (C : Cx p s m args c cc nL own Ts D cy ad A) {index : Nat} (v : Int32) (hdg : decode cc pc = .ok (.ldc index, 2)) (pc' : Nat) (hp : pc + 2 = pc') (hv : Jvm.Cond.constant own index v ∈ Ts) (k : TT p l e R s m args below meth c D cy ad A nL cells slots Q σ pc' lv (.int v :: st)) : TT p l e R s m args below meth c D cy ad A nL cells slots Q σ pc lv st := by
  subst hp
  intro H locs ls hP hS hl
  exact lv_ldc C.1 C.2.1 C.2.2.2.1 (C.2.2.2.2.1 _ hv) hdg (k H locs ls hP hS hl)
theorem tg_iload_n (C : Cx p s m args c cc nL own Ts D cy ad A) {k4 : Fin 4} {i : Nat} {x : Int32} (hdg : decode cc pc = .ok (.iload_n k4, 1)) (pc' : Nat) (hp : pc + 1 = pc') (hi : (k4 : Nat) = i) (j : Nat) (hj : lv[j]? = some (i, .int x)) (k : TT p l e R s m args below meth c D cy ad A nL cells slots Q σ pc' lv (.int x :: st)) : TT p l e R s m args below meth c D cy ad A nL cells slots Q σ pc lv st := by
  subst hp
  intro H locs ls hP hS hl
  exact lv_iload_n C.1 C.2.1 hdg hi (lv_at hl j hj) (k H locs ls hP hS hl)
theorem tg_iload (C : Cx p s m args c cc nL own Ts D cy ad A) {i : Nat} {x : Int32} (hdg : decode cc pc = .ok (.iload i, 2)) (pc' : Nat) (hp : pc + 2 = pc') (j : Nat) (hj : lv[j]? = some (i, .int x)) (k : TT p l e R s m args below meth c D cy ad A nL cells slots Q σ pc' lv (.int x :: st)) : TT p l e R s m args below meth c D cy ad A nL cells slots Q σ pc lv st := by
  subst hp
  intro H locs ls hP hS hl
  exact lv_iload C.1 C.2.1 hdg (lv_at hl j hj) (k H locs ls hP hS hl)
theorem tg_aload_n (C : Cx p s m args c cc nL own Ts D cy ad A) {k4 : Fin 4} {i : Nat} {x : Nat} (hdg : decode cc pc = .ok (.aload_n k4, 1)) (pc' : Nat) (hp : pc + 1 = pc') (hi : (k4 : Nat) = i) (j : Nat) (hj : lv[j]? = some (i, .ref x)) (k : TT p l e R s m args below meth c D cy ad A nL cells slots Q σ pc' lv (.ref x :: st)) : TT p l e R s m args below meth c D cy ad A nL cells slots Q σ pc lv st := by
  subst hp
  intro H locs ls hP hS hl
  exact lv_aload_n C.1 C.2.1 hdg hi (lv_at hl j hj) (k H locs ls hP hS hl)
theorem tg_aload (C : Cx p s m args c cc nL own Ts D cy ad A) {i : Nat} {x : Nat} (hdg : decode cc pc = .ok (.aload i, 2)) (pc' : Nat) (hp : pc + 2 = pc') (j : Nat) (hj : lv[j]? = some (i, .ref x)) (k : TT p l e R s m args below meth c D cy ad A nL cells slots Q σ pc' lv (.ref x :: st)) : TT p l e R s m args below meth c D cy ad A nL cells slots Q σ pc lv st := by
  subst hp
  intro H locs ls hP hS hl
  exact lv_aload C.1 C.2.1 hdg (lv_at hl j hj) (k H locs ls hP hS hl)
theorem tg_istore_n (C : Cx p s m args c cc nL own Ts D cy ad A) {k4 : Fin 4} {i : Nat} {x : Int32} (hdg : decode cc pc = .ok (.istore_n k4, 1)) (pc' : Nat) (hp : pc + 1 = pc') (hi : (k4 : Nat) = i) (lv' : List (Nat × Value)) (hn : i < nL) (hl0 : (i, Value.int x) :: lv.filter (fun q => !(q.1 == i) && !(q.1 + 1 == i && q.2.category == 2)) = lv') (k : TT p l e R s m args below meth c D cy ad A nL cells slots Q σ pc' lv' st) : TT p l e R s m args below meth c D cy ad A nL cells slots Q σ pc lv (.int x :: st) := by
  subst hp
  intro H locs ls hP hS hl
  exact lv_istore_n C.1 C.2.1 hdg hi hl hn hl0 (fun ls' hl' => k H locs ls' hP hS hl')
theorem tg_istore (C : Cx p s m args c cc nL own Ts D cy ad A) {i : Nat} {x : Int32} (hdg : decode cc pc = .ok (.istore i, 2)) (pc' : Nat) (hp : pc + 2 = pc') (lv' : List (Nat × Value)) (hn : i < nL) (hl0 : (i, Value.int x) :: lv.filter (fun q => !(q.1 == i) && !(q.1 + 1 == i && q.2.category == 2)) = lv') (k : TT p l e R s m args below meth c D cy ad A nL cells slots Q σ pc' lv' st) : TT p l e R s m args below meth c D cy ad A nL cells slots Q σ pc lv (.int x :: st) := by
  subst hp
  intro H locs ls hP hS hl
  exact lv_istore C.1 C.2.1 hdg hl hn hl0 (fun ls' hl' => k H locs ls' hP hS hl')
theorem tg_astore_n (C : Cx p s m args c cc nL own Ts D cy ad A) {k4 : Fin 4} {i : Nat} {x : Nat} (hdg : decode cc pc = .ok (.astore_n k4, 1)) (pc' : Nat) (hp : pc + 1 = pc') (hi : (k4 : Nat) = i) (lv' : List (Nat × Value)) (hn : i < nL) (hl0 : (i, Value.ref x) :: lv.filter (fun q => !(q.1 == i) && !(q.1 + 1 == i && q.2.category == 2)) = lv') (k : TT p l e R s m args below meth c D cy ad A nL cells slots Q σ pc' lv' st) : TT p l e R s m args below meth c D cy ad A nL cells slots Q σ pc lv (.ref x :: st) := by
  subst hp
  intro H locs ls hP hS hl
  exact lv_astore_n C.1 C.2.1 hdg hi hl hn hl0 (fun ls' hl' => k H locs ls' hP hS hl')
theorem tg_astore (C : Cx p s m args c cc nL own Ts D cy ad A) {i : Nat} {x : Nat} (hdg : decode cc pc = .ok (.astore i, 2)) (pc' : Nat) (hp : pc + 2 = pc') (lv' : List (Nat × Value)) (hn : i < nL) (hl0 : (i, Value.ref x) :: lv.filter (fun q => !(q.1 == i) && !(q.1 + 1 == i && q.2.category == 2)) = lv') (k : TT p l e R s m args below meth c D cy ad A nL cells slots Q σ pc' lv' st) : TT p l e R s m args below meth c D cy ad A nL cells slots Q σ pc lv (.ref x :: st) := by
  subst hp
  intro H locs ls hP hS hl
  exact lv_astore C.1 C.2.1 hdg hl hn hl0 (fun ls' hl' => k H locs ls' hP hS hl')
theorem tg_iinc (C : Cx p s m args c cc nL own Ts D cy ad A) {i : Nat} {n : Int} {x : Int32} (v : Int32) (hdg : decode cc pc = .ok (.iinc i n, 3)) (pc' : Nat) (hp : pc + 3 = pc') (j : Nat) (hj : lv[j]? = some (i, .int x)) (hv : x + Int32.ofInt n = v) (lv' : List (Nat × Value)) (hn : i < nL) (hl0 : (i, Value.int v) :: lv.filter (fun q => !(q.1 == i) && !(q.1 + 1 == i && q.2.category == 2)) = lv') (k : TT p l e R s m args below meth c D cy ad A nL cells slots Q σ pc' lv' st) : TT p l e R s m args below meth c D cy ad A nL cells slots Q σ pc lv st := by
  subst hp
  intro H locs ls hP hS hl
  exact lv_iinc C.1 C.2.1 hdg hl hj hv hn hl0 (fun ls' hl' => k H locs ls' hP hS hl')
theorem tg_iadd (C : Cx p s m args c cc nL own Ts D cy ad A) {x y : Int32} (z : Int32) (hdg : decode cc pc = .ok (.iadd, 1)) (pc' : Nat) (hp : pc + 1 = pc') (hz : x + y = z) (k : TT p l e R s m args below meth c D cy ad A nL cells slots Q σ pc' lv (.int z :: st)) : TT p l e R s m args below meth c D cy ad A nL cells slots Q σ pc lv (.int y :: .int x :: st) := by
  subst hp
  subst hz
  intro H locs ls hP hS hl
  exact lv_iadd C.1 C.2.1 hdg (k H locs ls hP hS hl)
theorem tg_isub (C : Cx p s m args c cc nL own Ts D cy ad A) {x y : Int32} (z : Int32) (hdg : decode cc pc = .ok (.isub, 1)) (pc' : Nat) (hp : pc + 1 = pc') (hz : x - y = z) (k : TT p l e R s m args below meth c D cy ad A nL cells slots Q σ pc' lv (.int z :: st)) : TT p l e R s m args below meth c D cy ad A nL cells slots Q σ pc lv (.int y :: .int x :: st) := by
  subst hp
  subst hz
  intro H locs ls hP hS hl
  exact lv_isub C.1 C.2.1 hdg (k H locs ls hP hS hl)
theorem tg_imul (C : Cx p s m args c cc nL own Ts D cy ad A) {x y : Int32} (z : Int32) (hdg : decode cc pc = .ok (.imul, 1)) (pc' : Nat) (hp : pc + 1 = pc') (hz : x * y = z) (k : TT p l e R s m args below meth c D cy ad A nL cells slots Q σ pc' lv (.int z :: st)) : TT p l e R s m args below meth c D cy ad A nL cells slots Q σ pc lv (.int y :: .int x :: st) := by
  subst hp
  subst hz
  intro H locs ls hP hS hl
  exact lv_imul C.1 C.2.1 hdg (k H locs ls hP hS hl)
theorem tg_iand (C : Cx p s m args c cc nL own Ts D cy ad A) {x y : Int32} (z : Int32) (hdg : decode cc pc = .ok (.iand, 1)) (pc' : Nat) (hp : pc + 1 = pc') (hz : x &&& y = z) (k : TT p l e R s m args below meth c D cy ad A nL cells slots Q σ pc' lv (.int z :: st)) : TT p l e R s m args below meth c D cy ad A nL cells slots Q σ pc lv (.int y :: .int x :: st) := by
  subst hp
  subst hz
  intro H locs ls hP hS hl
  exact lv_iand C.1 C.2.1 hdg (k H locs ls hP hS hl)
theorem tg_dup (C : Cx p s m args c cc nL own Ts D cy ad A) {v : Value} (hdg : decode cc pc = .ok (.dup, 1)) (pc' : Nat) (hp : pc + 1 = pc') (hc : v.category = 1) (k : TT p l e R s m args below meth c D cy ad A nL cells slots Q σ pc' lv (v :: v :: st)) : TT p l e R s m args below meth c D cy ad A nL cells slots Q σ pc lv (v :: st) := by
  subst hp
  intro H locs ls hP hS hl
  exact lv_dup C.1 C.2.1 hdg hc (k H locs ls hP hS hl)
theorem tg_pop (C : Cx p s m args c cc nL own Ts D cy ad A) {v : Value} (hdg : decode cc pc = .ok (.pop, 1)) (pc' : Nat) (hp : pc + 1 = pc') (hc : v.category = 1) (k : TT p l e R s m args below meth c D cy ad A nL cells slots Q σ pc' lv st) : TT p l e R s m args below meth c D cy ad A nL cells slots Q σ pc lv (v :: st) := by
  subst hp
  intro H locs ls hP hS hl
  exact lv_pop C.1 C.2.1 hdg hc (k H locs ls hP hS hl)
theorem tg_dup2 (C : Cx p s m args c cc nL own Ts D cy ad A) {v w : Value} (hdg : decode cc pc = .ok (.dup2, 1)) (pc' : Nat) (hp : pc + 1 = pc') (hc : v.category = 1) (hd : w.category = 1) (k : TT p l e R s m args below meth c D cy ad A nL cells slots Q σ pc' lv (v :: w :: v :: w :: st)) : TT p l e R s m args below meth c D cy ad A nL cells slots Q σ pc lv (v :: w :: st) := by
  subst hp
  intro H locs ls hP hS hl
  exact lv_dup2_11 C.1 C.2.1 hdg hc hd (k H locs ls hP hS hl)
theorem tg_i2l (C : Cx p s m args c cc nL own Ts D cy ad A) {x : Int32} (hdg : decode cc pc = .ok (.i2l, 1)) (pc' : Nat) (hp : pc + 1 = pc')  (k : TT p l e R s m args below meth c D cy ad A nL cells slots Q σ pc' lv (.long x.toInt64 :: st)) : TT p l e R s m args below meth c D cy ad A nL cells slots Q σ pc lv (.int x :: st) := by
  subst hp
  intro H locs ls hP hS hl
  exact lv_i2l C.1 C.2.1 hdg rfl (k H locs ls hP hS hl)
theorem tg_i2c (C : Cx p s m args c cc nL own Ts D cy ad A) {x : Int32} (hdg : decode cc pc = .ok (.i2c, 1)) (pc' : Nat) (hp : pc + 1 = pc')  (k : TT p l e R s m args below meth c D cy ad A nL cells slots Q σ pc' lv (.int (x.toUInt32 % 65536).toInt32 :: st)) : TT p l e R s m args below meth c D cy ad A nL cells slots Q σ pc lv (.int x :: st) := by
  subst hp
  intro H locs ls hP hS hl
  exact lv_i2c C.1 C.2.1 hdg rfl (k H locs ls hP hS hl)
theorem tg_lcmp (C : Cx p s m args c cc nL own Ts D cy ad A) {x y : Int64} (hdg : decode cc pc = .ok (.lcmp, 1)) (pc' : Nat) (hp : pc + 1 = pc')  (k : TT p l e R s m args below meth c D cy ad A nL cells slots Q σ pc' lv (.int (lg_cmp x y) :: st)) : TT p l e R s m args below meth c D cy ad A nL cells slots Q σ pc lv (.long y :: .long x :: st) := by
  subst hp
  intro H locs ls hP hS hl
  exact W.lcmp C.1 C.2.1 hdg (k H locs ls hP hS hl)
theorem tg_goto (C : Cx p s m args c cc nL own Ts D cy ad A) {off : Int} (tgt : Nat) (hdg : decode cc pc = .ok (.goto off, 3)) (ht : (pc : Int) + off = (tgt : Int)) (k : TT p l e R s m args below meth c D cy ad A nL cells slots Q σ tgt lv st) : TT p l e R s m args below meth c D cy ad A nL cells slots Q σ pc lv st := fun H locs ls hP hS hl => lv_goto C.1 C.2.1 hdg ht (k H locs ls hP hS hl)
theorem tg_icmp_eq (C : Cx p s m args c cc nL own Ts D cy ad A) {x y : Int32} {off : Int} (tgt : Nat) (hdg : decode cc pc = .ok (.if_icmp .eq off, 3)) (ht : (pc : Int) + off = (tgt : Int)) (pc' : Nat) (hp : pc + 3 = pc') (kt : x = y → TT p l e R s m args below meth c D cy ad A nL cells slots Q σ tgt lv st) (kf : ¬ x = y → TT p l e R s m args below meth c D cy ad A nL cells slots Q σ pc' lv st) : TT p l e R s m args below meth c D cy ad A nL cells slots Q σ pc lv (.int y :: .int x :: st) := by
  subst hp
  intro H locs ls hP hS hl
  exact lv_icmp_eq C.1 C.2.1 hdg ht (fun h => kt h H locs ls hP hS hl) (fun h => kf h H locs ls hP hS hl)
theorem tg_icmp_lt (C : Cx p s m args c cc nL own Ts D cy ad A) {x y : Int32} {off : Int} (tgt : Nat) (hdg : decode cc pc = .ok (.if_icmp .lt off, 3)) (ht : (pc : Int) + off = (tgt : Int)) (pc' : Nat) (hp : pc + 3 = pc') (kt : x < y → TT p l e R s m args below meth c D cy ad A nL cells slots Q σ tgt lv st) (kf : ¬ x < y → TT p l e R s m args below meth c D cy ad A nL cells slots Q σ pc' lv st) : TT p l e R s m args below meth c D cy ad A nL cells slots Q σ pc lv (.int y :: .int x :: st) := by
  subst hp
  intro H locs ls hP hS hl
  exact lv_icmp_lt C.1 C.2.1 hdg ht (fun h => kt h H locs ls hP hS hl) (fun h => kf h H locs ls hP hS hl)
theorem tg_icmp_ge (C : Cx p s m args c cc nL own Ts D cy ad A) {x y : Int32} {off : Int} (tgt : Nat) (hdg : decode cc pc = .ok (.if_icmp .ge off, 3)) (ht : (pc : Int) + off = (tgt : Int)) (pc' : Nat) (hp : pc + 3 = pc') (kt : y ≤ x → TT p l e R s m args below meth c D cy ad A nL cells slots Q σ tgt lv st) (kf : ¬ y ≤ x → TT p l e R s m args below meth c D cy ad A nL cells slots Q σ pc' lv st) : TT p l e R s m args below meth c D cy ad A nL cells slots Q σ pc lv (.int y :: .int x :: st) := by
  subst hp
  intro H locs ls hP hS hl
  exact lv_icmp_ge C.1 C.2.1 hdg ht (fun h => kt h H locs ls hP hS hl) (fun h => kf h H locs ls hP hS hl)
theorem tg_icmp_gt (C : Cx p s m args c cc nL own Ts D cy ad A) {x y : Int32} {off : Int} (tgt : Nat) (hdg : decode cc pc = .ok (.if_icmp .gt off, 3)) (ht : (pc : Int) + off = (tgt : Int)) (pc' : Nat) (hp : pc + 3 = pc') (kt : y < x → TT p l e R s m args below meth c D cy ad A nL cells slots Q σ tgt lv st) (kf : ¬ y < x → TT p l e R s m args below meth c D cy ad A nL cells slots Q σ pc' lv st) : TT p l e R s m args below meth c D cy ad A nL cells slots Q σ pc lv (.int y :: .int x :: st) := by
  subst hp
  intro H locs ls hP hS hl
  exact lv_icmp_gt C.1 C.2.1 hdg ht (fun h => kt h H locs ls hP hS hl) (fun h => kf h H locs ls hP hS hl)
theorem tg_icmp_le (C : Cx p s m args c cc nL own Ts D cy ad A) {x y : Int32} {off : Int} (tgt : Nat) (hdg : decode cc pc = .ok (.if_icmp .le off, 3)) (ht : (pc : Int) + off = (tgt : Int)) (pc' : Nat) (hp : pc + 3 = pc') (kt : x ≤ y → TT p l e R s m args below meth c D cy ad A nL cells slots Q σ tgt lv st) (kf : ¬ x ≤ y → TT p l e R s m args below meth c D cy ad A nL cells slots Q σ pc' lv st) : TT p l e R s m args below meth c D cy ad A nL cells slots Q σ pc lv (.int y :: .int x :: st) := by
  subst hp
  intro H locs ls hP hS hl
  exact lv_icmp_le C.1 C.2.1 hdg ht (fun h => kt h H locs ls hP hS hl) (fun h => kf h H locs ls hP hS hl)
theorem tg_icmp_ne (C : Cx p s m args c cc nL own Ts D cy ad A) {x y : Int32} {off : Int} (tgt : Nat) (hdg : decode cc pc = .ok (.if_icmp .ne off, 3)) (ht : (pc : Int) + off = (tgt : Int)) (pc' : Nat) (hp : pc + 3 = pc') (kt : ¬ x = y → TT p l e R s m args below meth c D cy ad A nL cells slots Q σ tgt lv st) (kf : x = y → TT p l e R s m args below meth c D cy ad A nL cells slots Q σ pc' lv st) : TT p l e R s m args below meth c D cy ad A nL cells slots Q σ pc lv (.int y :: .int x :: st) := by
  subst hp
  intro H locs ls hP hS hl
  exact lv_icmp_ne C.1 C.2.1 hdg ht (fun h => kt h H locs ls hP hS hl) (fun h => kf h H locs ls hP hS hl)
theorem tg_if_eq (C : Cx p s m args c cc nL own Ts D cy ad A) {x : Int32} {off : Int} (tgt : Nat) (hdg : decode cc pc = .ok (.ifCond .eq off, 3)) (ht : (pc : Int) + off = (tgt : Int)) (pc' : Nat) (hp : pc + 3 = pc') (kt : x = 0 → TT p l e R s m args below meth c D cy ad A nL cells slots Q σ tgt lv st) (kf : ¬ x = 0 → TT p l e R s m args below meth c D cy ad A nL cells slots Q σ pc' lv st) : TT p l e R s m args below meth c D cy ad A nL cells slots Q σ pc lv (.int x :: st) := by
  subst hp
  intro H locs ls hP hS hl
  exact lv_if_eq C.1 C.2.1 hdg ht (fun h => kt h H locs ls hP hS hl) (fun h => kf h H locs ls hP hS hl)
theorem tg_if_lt (C : Cx p s m args c cc nL own Ts D cy ad A) {x : Int32} {off : Int} (tgt : Nat) (hdg : decode cc pc = .ok (.ifCond .lt off, 3)) (ht : (pc : Int) + off = (tgt : Int)) (pc' : Nat) (hp : pc + 3 = pc') (kt : x < 0 → TT p l e R s m args below meth c D cy ad A nL cells slots Q σ tgt lv st) (kf : ¬ x < 0 → TT p l e R s m args below meth c D cy ad A nL cells slots Q σ pc' lv st) : TT p l e R s m args below meth c D cy ad A nL cells slots Q σ pc lv (.int x :: st) := by
  subst hp
  intro H locs ls hP hS hl
  exact lv_if_lt C.1 C.2.1 hdg ht (fun h => kt h H locs ls hP hS hl) (fun h => kf h H locs ls hP hS hl)
theorem tg_if_ge (C : Cx p s m args c cc nL own Ts D cy ad A) {x : Int32} {off : Int} (tgt : Nat) (hdg : decode cc pc = .ok (.ifCond .ge off, 3)) (ht : (pc : Int) + off = (tgt : Int)) (pc' : Nat) (hp : pc + 3 = pc') (kt : 0 ≤ x → TT p l e R s m args below meth c D cy ad A nL cells slots Q σ tgt lv st) (kf : ¬ 0 ≤ x → TT p l e R s m args below meth c D cy ad A nL cells slots Q σ pc' lv st) : TT p l e R s m args below meth c D cy ad A nL cells slots Q σ pc lv (.int x :: st) := by
  subst hp
  intro H locs ls hP hS hl
  exact lv_if_ge C.1 C.2.1 hdg ht (fun h => kt h H locs ls hP hS hl) (fun h => kf h H locs ls hP hS hl)
theorem tg_if_gt (C : Cx p s m args c cc nL own Ts D cy ad A) {x : Int32} {off : Int} (tgt : Nat) (hdg : decode cc pc = .ok (.ifCond .gt off, 3)) (ht : (pc : Int) + off = (tgt : Int)) (pc' : Nat) (hp : pc + 3 = pc') (kt : 0 < x → TT p l e R s m args below meth c D cy ad A nL cells slots Q σ tgt lv st) (kf : ¬ 0 < x → TT p l e R s m args below meth c D cy ad A nL cells slots Q σ pc' lv st) : TT p l e R s m args below meth c D cy ad A nL cells slots Q σ pc lv (.int x :: st) := by
  subst hp
  intro H locs ls hP hS hl
  exact lv_if_gt C.1 C.2.1 hdg ht (fun h => kt h H locs ls hP hS hl) (fun h => kf h H locs ls hP hS hl)
theorem tg_if_le (C : Cx p s m args c cc nL own Ts D cy ad A) {x : Int32} {off : Int} (tgt : Nat) (hdg : decode cc pc = .ok (.ifCond .le off, 3)) (ht : (pc : Int) + off = (tgt : Int)) (pc' : Nat) (hp : pc + 3 = pc') (kt : x ≤ 0 → TT p l e R s m args below meth c D cy ad A nL cells slots Q σ tgt lv st) (kf : ¬ x ≤ 0 → TT p l e R s m args below meth c D cy ad A nL cells slots Q σ pc' lv st) : TT p l e R s m args below meth c D cy ad A nL cells slots Q σ pc lv (.int x :: st) := by
  subst hp
  intro H locs ls hP hS hl
  exact lv_if_le C.1 C.2.1 hdg ht (fun h => kt h H locs ls hP hS hl) (fun h => kf h H locs ls hP hS hl)
theorem tg_if_ne (C : Cx p s m args c cc nL own Ts D cy ad A) {x : Int32} {off : Int} (tgt : Nat) (hdg : decode cc pc = .ok (.ifCond .ne off, 3)) (ht : (pc : Int) + off = (tgt : Int)) (pc' : Nat) (hp : pc + 3 = pc') (kt : ¬ x = 0 → TT p l e R s m args below meth c D cy ad A nL cells slots Q σ tgt lv st) (kf : x = 0 → TT p l e R s m args below meth c D cy ad A nL cells slots Q σ pc' lv st) : TT p l e R s m args below meth c D cy ad A nL cells slots Q σ pc lv (.int x :: st) := by
  subst hp
  intro H locs ls hP hS hl
  exact lv_if_ne C.1 C.2.1 hdg ht (fun h => kt h H locs ls hP hS hl) (fun h => kf h H locs ls hP hS hl)
theorem tg_sub {lv' : List (Nat × Value)} (ks : List Nat) (hl0 : lv_pick lv ks = lv') (k : TT p l e R s m args below meth c D cy ad A nL cells slots Q σ pc lv' st) : TT p l e R s m args below meth c D cy ad A nL cells slots Q σ pc lv st := fun H locs ls hP hS hl => k H locs ls hP hS (lv_sub hl ks hl0)
theorem tg_widen {k n : Nat} (h1 : cells ≤ k) (h2 : slots ≤ n) (kk : TT p l e R s m args below meth c D cy ad A nL k n Q σ pc lv st) : TT p l e R s m args below meth c D cy ad A nL cells slots Q σ pc lv st := fun H locs ls hP hS hl => W.widen h1 h2 (kk H locs ls hP hS hl)
theorem tg_get (C : Cx p s m args c cc nL own Ts D cy ad A) {ci N : Nat} {Cn ref : String} {T : u_T} (i : Nat) {fs : List Value} {v : Value} {index : Nat} (hi : i < 97) (he : ent ad cy i (σ i) = .inr (ci, fs)) (hc : vwCl[ci]? = some (Cn, T, N)) (hin : ∀ w ∈ u_ws Cn T N, w ∈ Ts) (k : Nat) (hk : k < N) (hlink : Cond.fieldLink own index ref (T k).2.1 (T k).2.2.1 ∈ Ts) (hsame : (T k).1 = ref) (hv : fs[k]? = some v) (hdg : decode cc pc = .ok (.getfield index, 3)) (pc' : Nat) (hp : pc + 3 = pc') (kk : TT p l e R s m args below meth c D cy ad A nL cells slots Q σ pc' lv (v :: st)) : TT p l e R s m args below meth c D cy ad A nL cells slots Q σ pc lv (.ref (ad i) :: st) := by
  subst hp
  intro H locs ls hP hS hl
  exact va_get (own := own) (C := Cn) (T := T) (N := N) (ci := ci) (Ts := Ts) C.1 C.2.1 C.2.2.2.2.1 hin C.2.2.2.1 C.2.2.2.2.2.1 hP i (by rw [wld_at _ _ _ hi, he]) hc k hk (C.2.2.2.2.1 _ hlink) (fun _ h9 => by rw [hsame] at h9; exact h9) hv hdg (kk H locs ls hP hS hl)
theorem tg_put (C : Cx p s m args c cc nL own Ts D cy ad A) {ci N : Nat} {Cn ref : String} {T : u_T} (ty0 : Nat → FieldType) (hty : ∀ k, k < N → parseFieldDescriptor (T k).2.2.1 = some (ty0 k)) (hnm : ∀ a, a < N → ∀ b, b < N → a ≠ b → (T a).2.1 ≠ (T b).2.1) (i : Nat) {fs : List Value} {x : Int32} {index : Nat} (hi : i < 97) (he : ent ad cy i (σ i) = .inr (ci, fs)) (hc : vwCl[ci]? = some (Cn, T, N)) (hin : ∀ w ∈ u_ws Cn T N, w ∈ Ts) (k : Nat) (hk : k < N) (hlink : Cond.fieldLink own index ref (T k).2.1 (T k).2.2.1 ∈ Ts) (hsame : (T k).1 = ref) (hfin : (T k).2.2.2 = false) (hd : parseFieldDescriptor (T k).2.2.1 = some .int) (hl9 : k < fs.length) (he2 : ent ad cy i (upd (σ i) k x) = .inr (ci, fs.set k (.int x))) (hdg : decode cc pc = .ok (.putfield index, 3)) (pc' : Nat) (hp : pc + 3 = pc') (kk : TT p l e R s m args below meth c D cy ad A nL cells slots Q (su σ i k x) pc' lv st) : TT p l e R s m args below meth c D cy ad A nL cells slots Q σ pc lv (.int x :: .ref (ad i) :: st) := by
  subst hp
  intro H locs ls hP hS hl
  refine va_put (own := own) (C := Cn) (T := T) (N := N) (ci := ci) (Ts := Ts) (ty := .int) C.1 C.2.1 C.2.2.2.2.1 hin ty0 hty hnm C.2.2.2.1 C.2.2.2.2.2.1 hP (C.2.2.2.2.2.2.1.D C.2.2.2.2.2.2.2.1 cy σ) hS i (by rw [wld_at _ _ _ hi, he]) hc k hk (C.2.2.2.2.1 _ hlink) (fun _ h9 => by rw [hsame] at h9; exact h9) hfin hd rfl rfl hl9 hdg (fun H1 locs1 hP1 _ hS1 => kk H1 locs1 ls ?_ hS1 hl)
  rw [← he2, wld_set] at hP1
  exact hP1
theorem tg_iald (C : Cx p s m args c cc nL own Ts D cy ad A) (i : Nat) {n : Nat} {x : Int32} (hi : i < 97) (he : ent ad cy i (σ i) = .inl (cy 0, n, .inl (σ i))) (j : Nat) (hx : x = nI j) (hj : j < n) (hn : n < 1000) (hdg : decode cc pc = .ok (.iaload, 1)) (pc' : Nat) (hp : pc + 1 = pc') (kk : TT p l e R s m args below meth c D cy ad A nL cells slots Q σ pc' lv (.int (σ i j) :: st)) : TT p l e R s m args below meth c D cy ad A nL cells slots Q σ pc lv (.int x :: .ref (ad i) :: st) := by
  subst hp
  subst hx
  intro H locs ls hP hS hl
  refine va_iald C.1 C.2.1 C.2.2.2.2.2.1 hP i 0 (by rw [wld_at _ _ _ hi, he]) rfl (vp_in_nI hj (by omega)) hdg ?_
  rw [nI_clamp (by omega)]
  exact kk H locs ls hP hS hl
theorem tg_iast (C : Cx p s m args c cc nL own Ts D cy ad A) (i : Nat) {n : Nat} {x v : Int32} (hi : i < 97) (he : ∀ f, ent ad cy i f = .inl (cy 0, n, .inl f)) (j : Nat) (hx : x = nI j) (hj : j < n) (hn : n < 1000) (hdg : decode cc pc = .ok (.iastore, 1)) (pc' : Nat) (hp : pc + 1 = pc') (kk : TT p l e R s m args below meth c D cy ad A nL cells slots Q (su σ i j v) pc' lv st) : TT p l e R s m args below meth c D cy ad A nL cells slots Q σ pc lv (.int v :: .int x :: .ref (ad i) :: st) := by
  subst hp
  subst hx
  intro H locs ls hP hS hl
  refine va_iast C.1 C.2.1 C.2.2.2.2.2.1 hP (C.2.2.2.2.2.2.1.D C.2.2.2.2.2.2.2.1 cy σ) hS i 0 (by rw [wld_at _ _ _ hi, he]) rfl (vp_in_nI hj (by omega)) hdg (fun H1 locs1 hP1 _ hS1 => kk H1 locs1 ls ?_ hS1 hl)
  rw [← he, wld_set, nI_clamp (by omega)] at hP1
  exact hP1
theorem tg_aald (C : Cx p s m args c cc nL own Ts D cy ad A) (i : Nat) {n b : Nat} (t0 : Nat) {cA : ClassId} {ty : FieldType} {x : Int32} (hi : i < 97) (he : ent ad cy i (σ i) = .inl (cA, n, .inr (.inr (.inr (.inr (fun t => some (ad (b + t)))))))) (ht : (tysO cy)[t0]? = some (cA, ty)) (hty : ty.isReference = true) (j : Nat) (hx : x = nI j) (hj : j < n) (hn : n < 1000) (hdg : decode cc pc = .ok (.aaload, 1)) (pc' : Nat) (hp : pc + 1 = pc') (kk : TT p l e R s m args below meth c D cy ad A nL cells slots Q σ pc' lv (.ref (ad (b + j)) :: st)) : TT p l e R s m args below meth c D cy ad A nL cells slots Q σ pc lv (.int x :: .ref (ad i) :: st) := by
  subst hp
  subst hx
  intro H locs ls hP hS hl
  have hin : vp_in (nI j) n := vp_in_nI hj (by omega)
  have h0 := hP i _ (wld_at ad cy σ hi)
  rw [he] at h0
  exact W.aald (v := .ref (ad (b + j))) (ty := ty) C.1 C.2.1 h0 ((C.2.2.2.2.2.1.2 t0 _ ht).1 n (fun t => va_rf (some (ad (b + t))))) hty (fun q => by cases q) (by show ¬ (nI j < 0 ∨ (arrV _ _ _).slots.size ≤ _); rw [arrV_size]; exact hin) (by show (arrV _ _ _).slots[_]? = _; rw [nI_clamp (by omega), arrV_read _ _ hj]; rfl) rfl rfl hdg (kk H locs ls hP hS hl)

/-! contracts over the whole world: start in σ, end in some σ' -/
def Pr (D : va_G) (cy : Nat → ClassId) (ad : Nat → Nat) (a : List Value) (σ : sS) (sz : Nat) : Array Value → State → Prop := va_Pc a (fun U => U.heap.size = sz ∧ va_P D vwCl (wld ad cy σ) U.heap ∧ va_K D vwCl (tysO cy) U)
def Bw (D : va_G) (cy : Nat → ClassId) (ad : Nat → Nat) (σ : sS) (t : State) : Prop := va_P D vwCl (wld ad cy σ) t.heap ∧ va_K D vwCl (tysO cy) t
abbrev Rm (fr lo : Nat) : Room := { frames := fr, cells := 0, slots := 0, locals := lo }
/-- a method that answers an int (or a truth value) -/
def Mi (l : Launch) (y : MethodName) (ws : List Cond) (fr lo : Nat) (D : va_G) (cy : Nat → ClassId) (ad : Nat → Nat) (a : List Value) (σ : sS) (post : Int32 → sS → Prop) : Prop := ∀ sz, Met l y ws (Rm fr lo) (Pr D cy ad a σ sz) (va_Qi post (Bw D cy ad) (Aw ad sz)) 0 0 (Aw ad sz)
/-- a method without an answer -/
def Mv (l : Launch) (y : MethodName) (ws : List Cond) (fr lo : Nat) (D : va_G) (cy : Nat → ClassId) (ad : Nat → Nat) (a : List Value) (σ : sS) (post : sS → Prop) : Prop := ∀ sz, Met l y ws (Rm fr lo) (Pr D cy ad a σ sz) (va_Qv post (Bw D cy ad) (Aw ad sz)) 0 0 (Aw ad sz)
theorem Pr.blind {a : List Value} {sz : Nat} : FrameBlind (Pr D cy ad a σ sz) := fun a U g mk q => by
  obtain ⟨q0, q1, qP, qK⟩ := q
  exact ⟨q0, q1, qP, va_K.moved (u := U) (U := U.calling g mk a) (Vm.Alike.refl U.vm) qK⟩
theorem Aw.cx (C : Cx p s m args c cc nL own Ts D cy ad A) {sz q : Nat} (hs : s.heap.size ≤ sz) (h : Aw ad sz q) : A q := by
  rcases h with ⟨i, hi, rfl⟩ | h
  · exact C.2.2.2.2.2.2.2.1 i hi
  · exact C.2.2.2.2.2.2.2.2 q (Nat.le_trans hs h)
theorem Mi.of {y : MethodName} {ws ws' : List Cond} {fr lo : Nat} {a : List Value} {post : Int32 → sS → Prop} {ret : Option FieldType} (hDis : Dis ad) (hy : plainName y.cls = true) (hw : ws = Cond.code y cc nL ret :: ws') (lv0 : List (Nat × Value)) (hlv : lv_args 0 a = lv0) (hle : (lg_sl a).length ≤ nL) (hown : y.cls = own)
    (body : ∀ (p : Program) (e : Env) (s : State) (m : MethodId) (below : List Frame) (meth : Method) (c : Code), Cx p s m a.toArray c cc nL own ws D cy ad (Aw ad s.heap.size) → meth.sig.returnType = ret → meth.locks = false → TT p l e (Rm fr lo) s m a.toArray below meth c D cy ad (Aw ad s.heap.size) nL 0 0 (MQ below (va_Qi post (Bw D cy ad) (Aw ad s.heap.size)) a.toArray s 0 0 (Aw ad s.heap.size)) σ 0 lv0 []) : Mi l y ws fr lo D cy ad a σ post := by
  intro sz
  refine Met.ofW (cc := cc) (maxL := nL) (ret := ret) hy hw ?_
  intro p e s m args below meth c s₁ B hml hv
  obtain ⟨rfl, hsz, hP, hK⟩ := hv
  subst hsz
  have hts := atoms_spec (ws := ws) B.pre
  have hown' : s.vm.findClass own = some m.cls := hown ▸ findClass_of_methodNamed B.named
  rw [lg_entry_eq]
  exact body p e s m below meth c ⟨B.exec, B.bytes, hml, hown', hts, hK, hDis, fun i hi => Or.inl ⟨i, hi, rfl⟩, fun q hq => Or.inr hq⟩ B.returns B.notSynchronized s.heap [] _ hP va_S.rf (hlv ▸ lv_entry a hle)
theorem Mv.of {y : MethodName} {ws ws' : List Cond} {fr lo : Nat} {a : List Value} {post : sS → Prop} {ret : Option FieldType} (hDis : Dis ad) (hy : plainName y.cls = true) (hw : ws = Cond.code y cc nL ret :: ws') (lv0 : List (Nat × Value)) (hlv : lv_args 0 a = lv0) (hle : (lg_sl a).length ≤ nL) (hown : y.cls = own)
    (body : ∀ (p : Program) (e : Env) (s : State) (m : MethodId) (below : List Frame) (meth : Method) (c : Code), Cx p s m a.toArray c cc nL own ws D cy ad (Aw ad s.heap.size) → meth.sig.returnType = ret → meth.locks = false → TT p l e (Rm fr lo) s m a.toArray below meth c D cy ad (Aw ad s.heap.size) nL 0 0 (MQ below (va_Qv post (Bw D cy ad) (Aw ad s.heap.size)) a.toArray s 0 0 (Aw ad s.heap.size)) σ 0 lv0 []) : Mv l y ws fr lo D cy ad a σ post := by
  intro sz
  refine Met.ofW (cc := cc) (maxL := nL) (ret := ret) hy hw ?_
  intro p e s m args below meth c s₁ B hml hv
  obtain ⟨rfl, hsz, hP, hK⟩ := hv
  subst hsz
  have hts := atoms_spec (ws := ws) B.pre
  have hown' : s.vm.findClass own = some m.cls := hown ▸ findClass_of_methodNamed B.named
  rw [lg_entry_eq]
  exact body p e s m below meth c ⟨B.exec, B.bytes, hml, hown', hts, hK, hDis, fun i hi => Or.inl ⟨i, hi, rfl⟩, fun q hq => Or.inr hq⟩ B.returns B.notSynchronized s.heap [] _ hP va_S.rf (hlv ▸ lv_entry a hle)
theorem tg_iret (C : Cx p s m args c cc nL own Ts D cy ad A) {post : Int32 → sS → Prop} {v : Int32} (hr : meth.sig.returnType = some .int) (hlk : meth.locks = false) (hdg : decode cc pc = .ok (.ireturn, 1)) (hpost : post v σ) : TT p l e R s m args below meth c D cy ad A nL cells slots (MQ below (va_Qi post (Bw D cy ad) A) args s cells slots A) σ pc lv [.int v] := by
  intro H locs ls hP hS hl
  exact W.iret (v := v) C.1 C.2.1 hr (fun t ht hW => ⟨⟨v, σ, rfl, hpost, by rw [ht]; exact hP, va_K.moved hW.alike C.2.2.2.2.2.1⟩, hS.F ht⟩) hS.2.2 hdg hlk
theorem tg_zret (C : Cx p s m args c cc nL own Ts D cy ad A) {post : Int32 → sS → Prop} {v : Int32} (hr : meth.sig.returnType = some .boolean) (hlk : meth.locks = false) (hn : narrow .boolean (.int v) = .int v) (hdg : decode cc pc = .ok (.ireturn, 1)) (hpost : post v σ) : TT p l e R s m args below meth c D cy ad A nL cells slots (MQ below (va_Qi post (Bw D cy ad) A) args s cells slots A) σ pc lv [.int v] := by
  intro H locs ls hP hS hl
  exact W.zret (v := v) (ty := .boolean) C.1 C.2.1 hr hn (fun t ht hW => ⟨⟨v, σ, rfl, hpost, by rw [ht]; exact hP, va_K.moved hW.alike C.2.2.2.2.2.1⟩, hS.F ht⟩) hS.2.2 hdg hlk
theorem tg_vret (C : Cx p s m args c cc nL own Ts D cy ad A) {post : sS → Prop} (hr : meth.sig.returnType = none) (hlk : meth.locks = false) (hdg : decode cc pc = .ok (.return_, 1)) (hpost : post σ) : TT p l e R s m args below meth c D cy ad A nL cells slots (MQ below (va_Qv post (Bw D cy ad) A) args s cells slots A) σ pc lv [] := by
  intro H locs ls hP hS hl
  exact W.vret C.1 C.2.1 hr (fun t ht hW => ⟨⟨σ, rfl, hpost, by rw [ht]; exact hP, va_K.moved hW.alike C.2.2.2.2.2.1⟩, hS.F ht⟩) hS.2.2 hdg hlk

theorem tg_callVi (C : Cx p s m args c cc nL own Ts D cy ad A) {y : MethodName} {ws : List Cond} {fr lo index maxL n : Nat} {bytes : ByteArray} {ret : Option FieldType} (i : Nat) {ci N : Nat} {Cn : String} {T : u_T} {fs : List Value} (hi : i < 97) (he : ent ad cy i (σ i) = .inr (ci, fs)) (hc : vwCl[ci]? = some (Cn, T, N)) {As : List Value} {post : Int32 → sS → Prop} (hM : Mi l y ws fr lo D cy ad (Value.ref (ad i) :: As) σ post) (cw : CallW R s args own Cn index y bytes maxL ret ws (Rm fr lo) 0 0 n) (hn : As.length = n) {stk : List Value} (hst : stk = As.reverse ++ .ref (ad i) :: st) (hcat : (st.map fun v => v.category).sum ≤ 8) (hcl : cells ≤ R.cells ∧ slots ≤ R.slots) (hdg : decode cc pc = .ok (.invokevirtual index, 3)) (pc' : Nat) (hp : pc + 3 = pc')
    (kk : ∀ (r : Int32) (τ : sS), post r τ → TT p l e R s m args below meth c D cy ad A nL cells slots Q τ pc' lv (.int r :: st)) : TT p l e R s m args below meth c D cy ad A nL cells slots Q σ pc lv stk := by
  subst hp
  subst hst
  intro H locs ls hP hS hl
  exact va_calli (va_runV (As := As) (rest := st) ⟨C.1, C.2.1, C.2.2.1, C.2.2.2.1, C.2.2.2.2.1⟩ (hM H.size) cw ⟨Pr.blind, va_recv C.2.2.2.2.2.1 hP hc (q0 := i) (by rw [wld_at _ _ _ hi, he]), fun U hU hW => ⟨rfl, by rw [hU], by rw [hU]; exact hP, va_K.moved hW.alike C.2.2.2.2.2.1⟩⟩ rfl hn hl.1 rfl (lv_room hcat) hdg hcl) hS (fun q _ h => Aw.cx C hS.1 h) (fun q h => Aw.cx C hS.1 h) (fun r u t H1 locs1 ht hvm hw hB _ _ hS1 => kk r u hw H1 locs1 ls (by rw [← ht]; exact hB.1) hS1 hl)
theorem tg_callVv (C : Cx p s m args c cc nL own Ts D cy ad A) {y : MethodName} {ws : List Cond} {fr lo index maxL n : Nat} {bytes : ByteArray} {ret : Option FieldType} (i : Nat) {ci N : Nat} {Cn : String} {T : u_T} {fs : List Value} (hi : i < 97) (he : ent ad cy i (σ i) = .inr (ci, fs)) (hc : vwCl[ci]? = some (Cn, T, N)) {As : List Value} {post : sS → Prop} (hM : Mv l y ws fr lo D cy ad (Value.ref (ad i) :: As) σ post) (cw : CallW R s args own Cn index y bytes maxL ret ws (Rm fr lo) 0 0 n) (hn : As.length = n) {stk : List Value} (hst : stk = As.reverse ++ .ref (ad i) :: st) (hcat : (st.map fun v => v.category).sum ≤ 8) (hcl : cells ≤ R.cells ∧ slots ≤ R.slots) (hdg : decode cc pc = .ok (.invokevirtual index, 3)) (pc' : Nat) (hp : pc + 3 = pc')
    (kk : ∀ (τ : sS), post τ → TT p l e R s m args below meth c D cy ad A nL cells slots Q τ pc' lv st) : TT p l e R s m args below meth c D cy ad A nL cells slots Q σ pc lv stk := by
  subst hp
  subst hst
  intro H locs ls hP hS hl
  exact va_callv (va_runV (As := As) (rest := st) ⟨C.1, C.2.1, C.2.2.1, C.2.2.2.1, C.2.2.2.2.1⟩ (hM H.size) cw ⟨Pr.blind, va_recv C.2.2.2.2.2.1 hP hc (q0 := i) (by rw [wld_at _ _ _ hi, he]), fun U hU hW => ⟨rfl, by rw [hU], by rw [hU]; exact hP, va_K.moved hW.alike C.2.2.2.2.2.1⟩⟩ rfl hn hl.1 rfl (lv_room hcat) hdg hcl) hS (fun q _ h => Aw.cx C hS.1 h) (fun q h => Aw.cx C hS.1 h) (fun u t H1 locs1 ht hvm hw hB _ _ hS1 => kk u hw H1 locs1 ls (by rw [← ht]; exact hB.1) hS1 hl)
theorem tg_callSi (C : Cx p s m args c cc nL own Ts D cy ad A) {y : MethodName} {ws : List Cond} {fr lo index maxL n : Nat} {bytes : ByteArray} {ret : Option FieldType} {As : List Value} {post : Int32 → sS → Prop} (hM : Mi l y ws fr lo D cy ad As σ post) (cw : CallB R s args own index y bytes maxL ret ws (Rm fr lo) 0 0 n ∧ (Cond.static y).before args s = true) (hn : As.length = n) {stk : List Value} (hst : stk = As.reverse ++ st) (hcat : (st.map fun v => v.category).sum ≤ 8) (hcl : cells ≤ R.cells ∧ slots ≤ R.slots) (hdg : decode cc pc = .ok (.invokestatic index, 3)) (pc' : Nat) (hp : pc + 3 = pc')
    (kk : ∀ (r : Int32) (τ : sS), post r τ → TT p l e R s m args below meth c D cy ad A nL cells slots Q τ pc' lv (.int r :: st)) : TT p l e R s m args below meth c D cy ad A nL cells slots Q σ pc lv stk := by
  subst hp
  subst hst
  intro H locs ls hP hS hl
  exact va_calli (va_runS (As := As) (rest := st) ⟨C.1, C.2.1, C.2.2.1, C.2.2.2.1, C.2.2.2.2.1⟩ (hM H.size) cw ⟨Pr.blind, fun U hU hW => ⟨rfl, by rw [hU], by rw [hU]; exact hP, va_K.moved hW.alike C.2.2.2.2.2.1⟩⟩ rfl hn hl.1 rfl (lv_room hcat) hdg hcl) hS (fun q _ h => Aw.cx C hS.1 h) (fun q h => Aw.cx C hS.1 h) (fun r u t H1 locs1 ht hvm hw hB _ _ hS1 => kk r u hw H1 locs1 ls (by rw [← ht]; exact hB.1) hS1 hl)
theorem tg_callSv (C : Cx p s m args c cc nL own Ts D cy ad A) {y : MethodName} {ws : List Cond} {fr lo index maxL n : Nat} {bytes : ByteArray} {ret : Option FieldType} {As : List Value} {post : sS → Prop} (hM : Mv l y ws fr lo D cy ad As σ post) (cw : CallB R s args own index y bytes maxL ret ws (Rm fr lo) 0 0 n ∧ (Cond.static y).before args s = true) (hn : As.length = n) {stk : List Value} (hst : stk = As.reverse ++ st) (hcat : (st.map fun v => v.category).sum ≤ 8) (hcl : cells ≤ R.cells ∧ slots ≤ R.slots) (hdg : decode cc pc = .ok (.invokestatic index, 3)) (pc' : Nat) (hp : pc + 3 = pc')
    (kk : ∀ (τ : sS), post τ → TT p l e R s m args below meth c D cy ad A nL cells slots Q τ pc' lv st) : TT p l e R s m args below meth c D cy ad A nL cells slots Q σ pc lv stk := by
  subst hp
  subst hst
  intro H locs ls hP hS hl
  exact va_callv (va_runS (As := As) (rest := st) ⟨C.1, C.2.1, C.2.2.1, C.2.2.2.1, C.2.2.2.2.1⟩ (hM H.size) cw ⟨Pr.blind, fun U hU hW => ⟨rfl, by rw [hU], by rw [hU]; exact hP, va_K.moved hW.alike C.2.2.2.2.2.1⟩⟩ rfl hn hl.1 rfl (lv_room hcat) hdg hcl) hS (fun q _ h => Aw.cx C hS.1 h) (fun q h => Aw.cx C hS.1 h) (fun u t H1 locs1 ht hvm hw hB _ _ hS1 => kk u hw H1 locs1 ls (by rw [← ht]; exact hB.1) hS1 hl)
end TTS
/-! what lies where -/
theorem e_0 (ad : Nat → Nat) (cy : Nat → ClassId) (f : Nat → Int32) : ent ad cy 0 f = .inr (4, [.ref (ad 1), .ref (ad 3), .ref (ad 5), .ref (ad 16), .ref (ad 51), .int (f 5), .int (f 6), .int (f 7)]) := rfl
theorem e_1 (ad : Nat → Nat) (cy : Nat → ClassId) (f : Nat → Int32) : ent ad cy 1 f = .inr (2, [.ref (ad 2), .int (f 1)]) := rfl
theorem e_2 (ad : Nat → Nat) (cy : Nat → ClassId) (f : Nat → Int32) : ent ad cy 2 f = .inl (cy 0, 16, .inl f) := rfl
theorem e_5 (ad : Nat → Nat) (cy : Nat → ClassId) (f : Nat → Int32) : ent ad cy 5 f = .inl (cy 1, 5, .inr (.inr (.inr (.inr (fun t => some (ad (6 + t))))))) := rfl
theorem e_16 (ad : Nat → Nat) (cy : Nat → ClassId) (f : Nat → Int32) : ent ad cy 16 f = .inr (1, [.ref (ad 17), .ref (ad 18), .ref (ad 19), .ref (ad 20), .int (f 4)]) := rfl
theorem e_17 (ad : Nat → Nat) (cy : Nat → ClassId) (f : Nat → Int32) : ent ad cy 17 f = .inl (cy 0, 30, .inl f) := rfl
theorem e_18 (ad : Nat → Nat) (cy : Nat → ClassId) (f : Nat → Int32) : ent ad cy 18 f = .inl (cy 0, 30, .inl f) := rfl
theorem e_19 (ad : Nat → Nat) (cy : Nat → ClassId) (f : Nat → Int32) : ent ad cy 19 f = .inl (cy 0, 30, .inl f) := rfl
theorem e_20 (ad : Nat → Nat) (cy : Nat → ClassId) (f : Nat → Int32) : ent ad cy 20 f = .inl (cy 2, 30, .inr (.inr (.inr (.inr (fun t => some (ad (21 + t))))))) := rfl
theorem e_51 (ad : Nat → Nat) (cy : Nat → ClassId) (f : Nat → Int32) : ent ad cy 51 f = .inr (0, [.ref (ad 52), .ref (ad 70), .ref (ad 71), .int (f 3), .int (f 4), .int (f 5)]) := rfl
theorem e_52 (ad : Nat → Nat) (cy : Nat → ClassId) (f : Nat → Int32) : ent ad cy 52 f = .inl (cy 2, 17, .inr (.inr (.inr (.inr (fun t => some (ad (53 + t))))))) := rfl
theorem e_70 (ad : Nat → Nat) (cy : Nat → ClassId) (f : Nat → Int32) : ent ad cy 70 f = .inl (cy 0, 17, .inl f) := rfl
theorem e_71 (ad : Nat → Nat) (cy : Nat → ClassId) (f : Nat → Int32) : ent ad cy 71 f = .inl (cy 2, 17, .inr (.inr (.inr (.inr (fun t => some (ad (72 + t))))))) := rfl
theorem e_89 (ad : Nat → Nat) (cy : Nat → ClassId) (f : Nat → Int32) : ent ad cy 89 f = .inr (5, [.int (f 0), .ref (ad 90), .int (f 2), .int (f 3), .int (f 4), .int (f 5), .int (f 6), .int (f 7), .ref (ad 91), .ref (ad 92), .ref (ad 93), .ref (ad 94), .ref (ad 95)]) := rfl
theorem e_90 (ad : Nat → Nat) (cy : Nat → ClassId) (f : Nat → Int32) : ent ad cy 90 f = .inl (cy 0, 16, .inl f) := rfl
theorem e_91 (ad : Nat → Nat) (cy : Nat → ClassId) (f : Nat → Int32) : ent ad cy 91 f = .inl (cy 0, 30, .inl f) := rfl
theorem e_92 (ad : Nat → Nat) (cy : Nat → ClassId) (f : Nat → Int32) : ent ad cy 92 f = .inl (cy 0, 30, .inl f) := rfl
theorem e_93 (ad : Nat → Nat) (cy : Nat → ClassId) (f : Nat → Int32) : ent ad cy 93 f = .inl (cy 0, 30, .inl f) := rfl
theorem e_94 (ad : Nat → Nat) (cy : Nat → ClassId) (f : Nat → Int32) : ent ad cy 94 f = .inl (cy 0, 510, .inl f) := rfl
theorem e_95 (ad : Nat → Nat) (cy : Nat → ClassId) (f : Nat → Int32) : ent ad cy 95 f = .inl (cy 0, 85, .inl f) := rfl
theorem e_96 (ad : Nat → Nat) (cy : Nat → ClassId) (f : Nat → Int32) : ent ad cy 96 f = .inl (cy 3, 1, .inr (.inl (fun k => (f k).toInt64))) := rfl
/-- cell a is a Tally, its counts in cell b -/
def isTy (a b : Nat) : Prop := (a = 3 ∧ b = 4) ∨ (6 ≤ a ∧ a < 11 ∧ b = a + 5)
theorem isTy.own : isTy 3 4 := Or.inl ⟨rfl, rfl⟩
theorem isTy.at {t : Nat} (h : t < 5) : isTy (6 + t) (11 + t) := Or.inr ⟨by omega, by omega, by omega⟩
theorem isTy.lt {a b : Nat} (h : isTy a b) : a < 97 := by rcases h with h | h <;> omega
theorem isTy.lt2 {a b : Nat} (h : isTy a b) : b < 97 := by rcases h with h | h <;> omega
theorem isTy.ne {a b : Nat} (h : isTy a b) : b ≠ a := by rcases h with h | h <;> omega
theorem isTy.e (ad : Nat → Nat) (cy : Nat → ClassId) {a b : Nat} (h : isTy a b) (f : Nat → Int32) : ent ad cy a f = .inr (3, [.ref (ad b), .int (f 1)]) := by
  rcases h with ⟨rfl, rfl⟩ | ⟨h1, h2, rfl⟩
  · rfl
  · unfold ent
    rw [if_neg (by omega), if_neg (by omega), if_neg (by omega), if_neg (by omega), if_neg (by omega), if_neg (by omega), if_pos h2]
theorem isTy.e2 (ad : Nat → Nat) (cy : Nat → ClassId) {a b : Nat} (h : isTy a b) (f : Nat → Int32) : ent ad cy b f = .inl (cy 0, 36, .inl f) := by
  rcases h with ⟨rfl, rfl⟩ | ⟨h1, h2, rfl⟩
  · rfl
  · unfold ent
    rw [if_neg (by omega), if_neg (by omega), if_neg (by omega), if_neg (by omega), if_neg (by omega), if_neg (by omega), if_neg (by omega), if_pos (by omega)]
theorem e_rowR (ad : Nat → Nat) (cy : Nat → ClassId) {t : Nat} (h : t < 30) (f : Nat → Int32) : ent ad cy (21 + t) f = .inl (cy 0, 17, .inl f) := by
  unfold ent
  repeat rw [if_neg (by omega)]
  rw [if_pos (by omega)]
theorem e_rowC (ad : Nat → Nat) (cy : Nat → ClassId) {t : Nat} (h : t < 17) (f : Nat → Int32) : ent ad cy (53 + t) f = .inl (cy 0, 5, .inl f) := by
  unfold ent
  repeat rw [if_neg (by omega)]
  rw [if_pos (by omega)]
theorem e_rowB (ad : Nat → Nat) (cy : Nat → ClassId) {t : Nat} (h : t < 17) (f : Nat → Int32) : ent ad cy (72 + t) f = .inl (cy 0, 5, .inl f) := by
  unfold ent
  repeat rw [if_neg (by omega)]
  rw [if_pos (by omega)]
end
