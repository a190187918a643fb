section
-- ===== PART A: goes FIRST, ahead of the names: the tables' words, and 'selects' of the private methods out of them =====
/-- a private method of a class that the tables say can be made, by its rows of tables_1 -/
def lw_okq (q : MethodName × Nat) : Prop := (q.1.cls ≠ "java/lang/invoke/MethodHandle" ∧ q.1.cls ≠ "java/lang/invoke/VarHandle") ∧ Cond.instantiable q.1.cls q.2 ∈ tables_1 ∧ Cond.privateMethod q.1 ∈ tables_1 ∧ Cond.instanceMethod q.1 ∈ tables_1
theorem lw_p0 : lw_okq (⟨"java/lang/Throwable", "fillInStackTrace", "(I)Ljava/lang/Throwable;"⟩, 6) := ⟨⟨by decide +kernel, by decide +kernel⟩, List.mem_of_getElem? (i := 196) (by decide +kernel), List.mem_of_getElem? (i := 194) (by decide +kernel), List.mem_of_getElem? (i := 195) (by decide +kernel)⟩
theorem lw_p1 : lw_okq (⟨"java/util/ArrayList", "add", "(Ljava/lang/Object;[Ljava/lang/Object;I)V"⟩, 3) := ⟨⟨by decide +kernel, by decide +kernel⟩, List.mem_of_getElem? (i := 33) (by decide +kernel), List.mem_of_getElem? (i := 294) (by decide +kernel), List.mem_of_getElem? (i := 295) (by decide +kernel)⟩
theorem lw_p2 : lw_okq (⟨"java/util/ArrayList", "grow", "()[Ljava/lang/Object;"⟩, 3) := ⟨⟨by decide +kernel, by decide +kernel⟩, List.mem_of_getElem? (i := 33) (by decide +kernel), List.mem_of_getElem? (i := 298) (by decide +kernel), List.mem_of_getElem? (i := 299) (by decide +kernel)⟩
theorem lw_p3 : lw_okq (⟨"java/util/ArrayList", "grow", "(I)[Ljava/lang/Object;"⟩, 3) := ⟨⟨by decide +kernel, by decide +kernel⟩, List.mem_of_getElem? (i := 33) (by decide +kernel), List.mem_of_getElem? (i := 302) (by decide +kernel), List.mem_of_getElem? (i := 303) (by decide +kernel)⟩
theorem lw_p4 : lw_okq (⟨"HarbourlightMonitor", "requireSeries", "(I)LHarbourlightMonitor$Series;"⟩, 9) := ⟨⟨by decide +kernel, by decide +kernel⟩, List.mem_of_getElem? (i := 25) (by decide +kernel), List.mem_of_getElem? (i := 352) (by decide +kernel), List.mem_of_getElem? (i := 353) (by decide +kernel)⟩
theorem lw_p5 : lw_okq (⟨"HarbourlightMonitor", "requireRule", "(I)LHarbourlightMonitor$Rule;"⟩, 9) := ⟨⟨by decide +kernel, by decide +kernel⟩, List.mem_of_getElem? (i := 25) (by decide +kernel), List.mem_of_getElem? (i := 473) (by decide +kernel), List.mem_of_getElem? (i := 474) (by decide +kernel)⟩
theorem lw_p6 : lw_okq (⟨"java/util/ArrayList", "fastRemove", "([Ljava/lang/Object;I)V"⟩, 3) := ⟨⟨by decide +kernel, by decide +kernel⟩, List.mem_of_getElem? (i := 33) (by decide +kernel), List.mem_of_getElem? (i := 489) (by decide +kernel), List.mem_of_getElem? (i := 490) (by decide +kernel)⟩
theorem lw_p7 : lw_okq (⟨"HarbourlightMonitor", "dropHushesOf", "(I)V"⟩, 9) := ⟨⟨by decide +kernel, by decide +kernel⟩, List.mem_of_getElem? (i := 25) (by decide +kernel), List.mem_of_getElem? (i := 494) (by decide +kernel), List.mem_of_getElem? (i := 495) (by decide +kernel)⟩
theorem lw_p8 : lw_okq (⟨"HarbourlightMonitor", "forgetGroups", "()V"⟩, 9) := ⟨⟨by decide +kernel, by decide +kernel⟩, List.mem_of_getElem? (i := 25) (by decide +kernel), List.mem_of_getElem? (i := 530) (by decide +kernel), List.mem_of_getElem? (i := 531) (by decide +kernel)⟩
theorem lw_p9 : lw_okq (⟨"HarbourlightMonitor", "stepAlerts", "(LHarbourlightMonitor$Rule;)V"⟩, 9) := ⟨⟨by decide +kernel, by decide +kernel⟩, List.mem_of_getElem? (i := 25) (by decide +kernel), List.mem_of_getElem? (i := 552) (by decide +kernel), List.mem_of_getElem? (i := 553) (by decide +kernel)⟩
theorem lw_p10 : lw_okq (⟨"HarbourlightMonitor", "hasKey", "(LHarbourlightMonitor$Rule;I)Z"⟩, 9) := ⟨⟨by decide +kernel, by decide +kernel⟩, List.mem_of_getElem? (i := 25) (by decide +kernel), List.mem_of_getElem? (i := 561) (by decide +kernel), List.mem_of_getElem? (i := 562) (by decide +kernel)⟩
theorem lw_p11 : lw_okq (⟨"HarbourlightMonitor", "lookedAt", "(LHarbourlightMonitor$Rule;II)I"⟩, 9) := ⟨⟨by decide +kernel, by decide +kernel⟩, List.mem_of_getElem? (i := 25) (by decide +kernel), List.mem_of_getElem? (i := 569) (by decide +kernel), List.mem_of_getElem? (i := 570) (by decide +kernel)⟩
theorem lw_p12 : lw_okq (⟨"HarbourlightMonitor$Series", "meanOver", "(II)I"⟩, 8) := ⟨⟨by decide +kernel, by decide +kernel⟩, List.mem_of_getElem? (i := 251) (by decide +kernel), List.mem_of_getElem? (i := 585) (by decide +kernel), List.mem_of_getElem? (i := 586) (by decide +kernel)⟩
theorem lw_p13 : lw_okq (⟨"HarbourlightMonitor$Series", "utmostOver", "(IIZ)I"⟩, 8) := ⟨⟨by decide +kernel, by decide +kernel⟩, List.mem_of_getElem? (i := 251) (by decide +kernel), List.mem_of_getElem? (i := 589) (by decide +kernel), List.mem_of_getElem? (i := 590) (by decide +kernel)⟩
theorem lw_p14 : lw_okq (⟨"HarbourlightMonitor$Series", "partOver", "(III)I"⟩, 8) := ⟨⟨by decide +kernel, by decide +kernel⟩, List.mem_of_getElem? (i := 251) (by decide +kernel), List.mem_of_getElem? (i := 596) (by decide +kernel), List.mem_of_getElem? (i := 597) (by decide +kernel)⟩
theorem lw_p15 : lw_okq (⟨"HarbourlightMonitor$Alert", "rise", "(II)V"⟩, 3) := ⟨⟨by decide +kernel, by decide +kernel⟩, List.mem_of_getElem? (i := 104) (by decide +kernel), List.mem_of_getElem? (i := 608) (by decide +kernel), List.mem_of_getElem? (i := 609) (by decide +kernel)⟩
def lw_privs_1 : List (MethodName × Nat) := [(⟨"java/lang/Throwable", "fillInStackTrace", "(I)Ljava/lang/Throwable;"⟩, 6), (⟨"java/util/ArrayList", "add", "(Ljava/lang/Object;[Ljava/lang/Object;I)V"⟩, 3), (⟨"java/util/ArrayList", "grow", "()[Ljava/lang/Object;"⟩, 3), (⟨"java/util/ArrayList", "grow", "(I)[Ljava/lang/Object;"⟩, 3), (⟨"HarbourlightMonitor", "requireSeries", "(I)LHarbourlightMonitor$Series;"⟩, 9), (⟨"HarbourlightMonitor", "requireRule", "(I)LHarbourlightMonitor$Rule;"⟩, 9), (⟨"java/util/ArrayList", "fastRemove", "([Ljava/lang/Object;I)V"⟩, 3), (⟨"HarbourlightMonitor", "dropHushesOf", "(I)V"⟩, 9), (⟨"HarbourlightMonitor", "forgetGroups", "()V"⟩, 9), (⟨"HarbourlightMonitor", "stepAlerts", "(LHarbourlightMonitor$Rule;)V"⟩, 9), (⟨"HarbourlightMonitor", "hasKey", "(LHarbourlightMonitor$Rule;I)Z"⟩, 9), (⟨"HarbourlightMonitor", "lookedAt", "(LHarbourlightMonitor$Rule;II)I"⟩, 9), (⟨"HarbourlightMonitor$Series", "meanOver", "(II)I"⟩, 8), (⟨"HarbourlightMonitor$Series", "utmostOver", "(IIZ)I"⟩, 8), (⟨"HarbourlightMonitor$Series", "partOver", "(III)I"⟩, 8), (⟨"HarbourlightMonitor$Alert", "rise", "(II)V"⟩, 3)]
theorem lw_r1 : ∀ q ∈ lw_privs_1, lw_okq q := List.forall_mem_cons.mpr ⟨lw_p0, List.forall_mem_cons.mpr ⟨lw_p1, List.forall_mem_cons.mpr ⟨lw_p2, List.forall_mem_cons.mpr ⟨lw_p3, List.forall_mem_cons.mpr ⟨lw_p4, List.forall_mem_cons.mpr ⟨lw_p5, List.forall_mem_cons.mpr ⟨lw_p6, List.forall_mem_cons.mpr ⟨lw_p7, List.forall_mem_cons.mpr ⟨lw_p8, List.forall_mem_cons.mpr ⟨lw_p9, List.forall_mem_cons.mpr ⟨lw_p10, List.forall_mem_cons.mpr ⟨lw_p11, List.forall_mem_cons.mpr ⟨lw_p12, List.forall_mem_cons.mpr ⟨lw_p13, List.forall_mem_cons.mpr ⟨lw_p14, List.forall_mem_cons.mpr ⟨lw_p15, fun _ h => absurd h List.not_mem_nil⟩⟩⟩⟩⟩⟩⟩⟩⟩⟩⟩⟩⟩⟩⟩⟩
theorem lw_p16 : lw_okq (⟨"HarbourlightMonitor$Alert", "fall", "()V"⟩, 3) := ⟨⟨by decide +kernel, by decide +kernel⟩, List.mem_of_getElem? (i := 104) (by decide +kernel), List.mem_of_getElem? (i := 612) (by decide +kernel), List.mem_of_getElem? (i := 613) (by decide +kernel)⟩
theorem lw_p17 : lw_okq (⟨"HarbourlightMonitor", "sendNotices", "()I"⟩, 9) := ⟨⟨by decide +kernel, by decide +kernel⟩, List.mem_of_getElem? (i := 25) (by decide +kernel), List.mem_of_getElem? (i := 616) (by decide +kernel), List.mem_of_getElem? (i := 617) (by decide +kernel)⟩
theorem lw_p18 : lw_okq (⟨"HarbourlightMonitor", "gatherLoud", "()V"⟩, 9) := ⟨⟨by decide +kernel, by decide +kernel⟩, List.mem_of_getElem? (i := 25) (by decide +kernel), List.mem_of_getElem? (i := 620) (by decide +kernel), List.mem_of_getElem? (i := 621) (by decide +kernel)⟩
theorem lw_p19 : lw_okq (⟨"HarbourlightMonitor", "groupOf", "(LHarbourlightMonitor$Rule;I)I"⟩, 9) := ⟨⟨by decide +kernel, by decide +kernel⟩, List.mem_of_getElem? (i := 25) (by decide +kernel), List.mem_of_getElem? (i := 628) (by decide +kernel), List.mem_of_getElem? (i := 629) (by decide +kernel)⟩
theorem lw_p20 : lw_okq (⟨"HarbourlightMonitor", "placeOf", "(LHarbourlightMonitor$Rule;I)I"⟩, 9) := ⟨⟨by decide +kernel, by decide +kernel⟩, List.mem_of_getElem? (i := 25) (by decide +kernel), List.mem_of_getElem? (i := 632) (by decide +kernel), List.mem_of_getElem? (i := 633) (by decide +kernel)⟩
theorem lw_p21 : lw_okq (⟨"HarbourlightMonitor", "hearing", "(LHarbourlightMonitor$Rule;II)I"⟩, 9) := ⟨⟨by decide +kernel, by decide +kernel⟩, List.mem_of_getElem? (i := 25) (by decide +kernel), List.mem_of_getElem? (i := 636) (by decide +kernel), List.mem_of_getElem? (i := 637) (by decide +kernel)⟩
theorem lw_p22 : lw_okq (⟨"HarbourlightMonitor", "isHushed", "(III)Z"⟩, 9) := ⟨⟨by decide +kernel, by decide +kernel⟩, List.mem_of_getElem? (i := 25) (by decide +kernel), List.mem_of_getElem? (i := 645) (by decide +kernel), List.mem_of_getElem? (i := 646) (by decide +kernel)⟩
theorem lw_p23 : lw_okq (⟨"HarbourlightMonitor", "isQuiet", "(III)Z"⟩, 9) := ⟨⟨by decide +kernel, by decide +kernel⟩, List.mem_of_getElem? (i := 25) (by decide +kernel), List.mem_of_getElem? (i := 653) (by decide +kernel), List.mem_of_getElem? (i := 654) (by decide +kernel)⟩
theorem lw_p24 : lw_okq (⟨"HarbourlightMonitor$Group", "hasTold", "()Z"⟩, 4) := ⟨⟨by decide +kernel, by decide +kernel⟩, List.mem_of_getElem? (i := 60) (by decide +kernel), List.mem_of_getElem? (i := 680) (by decide +kernel), List.mem_of_getElem? (i := 681) (by decide +kernel)⟩
theorem lw_p25 : lw_okq (⟨"HarbourlightMonitor$Group", "hasChanged", "()Z"⟩, 4) := ⟨⟨by decide +kernel, by decide +kernel⟩, List.mem_of_getElem? (i := 60) (by decide +kernel), List.mem_of_getElem? (i := 684) (by decide +kernel), List.mem_of_getElem? (i := 685) (by decide +kernel)⟩
theorem lw_p26 : lw_okq (⟨"HarbourlightMonitor", "greatestRank", "(LHarbourlightMonitor$Group;)I"⟩, 9) := ⟨⟨by decide +kernel, by decide +kernel⟩, List.mem_of_getElem? (i := 25) (by decide +kernel), List.mem_of_getElem? (i := 689) (by decide +kernel), List.mem_of_getElem? (i := 690) (by decide +kernel)⟩
theorem lw_p27 : lw_okq (⟨"HarbourlightMonitor", "countAlerts", "(I)I"⟩, 9) := ⟨⟨by decide +kernel, by decide +kernel⟩, List.mem_of_getElem? (i := 25) (by decide +kernel), List.mem_of_getElem? (i := 717) (by decide +kernel), List.mem_of_getElem? (i := 718) (by decide +kernel)⟩
theorem lw_p28 : lw_okq (⟨"HarbourlightMonitor", "countLoud", "(I)I"⟩, 9) := ⟨⟨by decide +kernel, by decide +kernel⟩, List.mem_of_getElem? (i := 25) (by decide +kernel), List.mem_of_getElem? (i := 725) (by decide +kernel), List.mem_of_getElem? (i := 726) (by decide +kernel)⟩
theorem lw_p29 : lw_okq (⟨"HarbourlightMonitor", "requireHush", "(I)LHarbourlightMonitor$Hush;"⟩, 9) := ⟨⟨by decide +kernel, by decide +kernel⟩, List.mem_of_getElem? (i := 25) (by decide +kernel), List.mem_of_getElem? (i := 762) (by decide +kernel), List.mem_of_getElem? (i := 763) (by decide +kernel)⟩
theorem lw_p30 : lw_okq (⟨"HarbourlightMonitor", "countCovered", "(LHarbourlightMonitor$Hush;)I"⟩, 9) := ⟨⟨by decide +kernel, by decide +kernel⟩, List.mem_of_getElem? (i := 25) (by decide +kernel), List.mem_of_getElem? (i := 767) (by decide +kernel), List.mem_of_getElem? (i := 768) (by decide +kernel)⟩
theorem lw_p31 : lw_okq (⟨"HarbourlightMonitor", "wouldBurn", "(LHarbourlightMonitor$Rule;II)Z"⟩, 9) := ⟨⟨by decide +kernel, by decide +kernel⟩, List.mem_of_getElem? (i := 25) (by decide +kernel), List.mem_of_getElem? (i := 789) (by decide +kernel), List.mem_of_getElem? (i := 790) (by decide +kernel)⟩
def lw_privs_2 : List (MethodName × Nat) := [(⟨"HarbourlightMonitor$Alert", "fall", "()V"⟩, 3), (⟨"HarbourlightMonitor", "sendNotices", "()I"⟩, 9), (⟨"HarbourlightMonitor", "gatherLoud", "()V"⟩, 9), (⟨"HarbourlightMonitor", "groupOf", "(LHarbourlightMonitor$Rule;I)I"⟩, 9), (⟨"HarbourlightMonitor", "placeOf", "(LHarbourlightMonitor$Rule;I)I"⟩, 9), (⟨"HarbourlightMonitor", "hearing", "(LHarbourlightMonitor$Rule;II)I"⟩, 9), (⟨"HarbourlightMonitor", "isHushed", "(III)Z"⟩, 9), (⟨"HarbourlightMonitor", "isQuiet", "(III)Z"⟩, 9), (⟨"HarbourlightMonitor$Group", "hasTold", "()Z"⟩, 4), (⟨"HarbourlightMonitor$Group", "hasChanged", "()Z"⟩, 4), (⟨"HarbourlightMonitor", "greatestRank", "(LHarbourlightMonitor$Group;)I"⟩, 9), (⟨"HarbourlightMonitor", "countAlerts", "(I)I"⟩, 9), (⟨"HarbourlightMonitor", "countLoud", "(I)I"⟩, 9), (⟨"HarbourlightMonitor", "requireHush", "(I)LHarbourlightMonitor$Hush;"⟩, 9), (⟨"HarbourlightMonitor", "countCovered", "(LHarbourlightMonitor$Hush;)I"⟩, 9), (⟨"HarbourlightMonitor", "wouldBurn", "(LHarbourlightMonitor$Rule;II)Z"⟩, 9)]
theorem lw_r2 : ∀ q ∈ lw_privs_2, lw_okq q := List.forall_mem_cons.mpr ⟨lw_p16, List.forall_mem_cons.mpr ⟨lw_p17, List.forall_mem_cons.mpr ⟨lw_p18, List.forall_mem_cons.mpr ⟨lw_p19, List.forall_mem_cons.mpr ⟨lw_p20, List.forall_mem_cons.mpr ⟨lw_p21, List.forall_mem_cons.mpr ⟨lw_p22, List.forall_mem_cons.mpr ⟨lw_p23, List.forall_mem_cons.mpr ⟨lw_p24, List.forall_mem_cons.mpr ⟨lw_p25, List.forall_mem_cons.mpr ⟨lw_p26, List.forall_mem_cons.mpr ⟨lw_p27, List.forall_mem_cons.mpr ⟨lw_p28, List.forall_mem_cons.mpr ⟨lw_p29, List.forall_mem_cons.mpr ⟨lw_p30, List.forall_mem_cons.mpr ⟨lw_p31, fun _ h => absurd h List.not_mem_nil⟩⟩⟩⟩⟩⟩⟩⟩⟩⟩⟩⟩⟩⟩⟩⟩
theorem lw_p32 : lw_okq (⟨"HarbourlightMonitor", "mixSeries", "(JI)J"⟩, 9) := ⟨⟨by decide +kernel, by decide +kernel⟩, List.mem_of_getElem? (i := 25) (by decide +kernel), List.mem_of_getElem? (i := 820) (by decide +kernel), List.mem_of_getElem? (i := 821) (by decide +kernel)⟩
theorem lw_p33 : lw_okq (⟨"HarbourlightMonitor", "mixAlert", "(JI)J"⟩, 9) := ⟨⟨by decide +kernel, by decide +kernel⟩, List.mem_of_getElem? (i := 25) (by decide +kernel), List.mem_of_getElem? (i := 829) (by decide +kernel), List.mem_of_getElem? (i := 830) (by decide +kernel)⟩
theorem lw_p34 : lw_okq (⟨"HarbourlightMonitor", "mixHush", "(JI)J"⟩, 9) := ⟨⟨by decide +kernel, by decide +kernel⟩, List.mem_of_getElem? (i := 25) (by decide +kernel), List.mem_of_getElem? (i := 835) (by decide +kernel), List.mem_of_getElem? (i := 836) (by decide +kernel)⟩
theorem lw_p35 : lw_okq (⟨"HarbourlightMonitor", "mixNotices", "(J)J"⟩, 9) := ⟨⟨by decide +kernel, by decide +kernel⟩, List.mem_of_getElem? (i := 25) (by decide +kernel), List.mem_of_getElem? (i := 840) (by decide +kernel), List.mem_of_getElem? (i := 841) (by decide +kernel)⟩
def lw_privs_3 : List (MethodName × Nat) := [(⟨"HarbourlightMonitor", "mixSeries", "(JI)J"⟩, 9), (⟨"HarbourlightMonitor", "mixAlert", "(JI)J"⟩, 9), (⟨"HarbourlightMonitor", "mixHush", "(JI)J"⟩, 9), (⟨"HarbourlightMonitor", "mixNotices", "(J)J"⟩, 9)]
theorem lw_r3 : ∀ q ∈ lw_privs_3, lw_okq q := List.forall_mem_cons.mpr ⟨lw_p32, List.forall_mem_cons.mpr ⟨lw_p33, List.forall_mem_cons.mpr ⟨lw_p34, List.forall_mem_cons.mpr ⟨lw_p35, fun _ h => absurd h List.not_mem_nil⟩⟩⟩⟩
def lw_privs : List (MethodName × Nat) := lw_privs_1 ++ (lw_privs_2 ++ (lw_privs_3))
def lw_tbl : List Cond := k2_sels lw_privs ++ tables_1
theorem lw_privs_ok : ∀ q ∈ lw_privs, lw_okq q := by
  show ∀ q ∈ lw_privs_1 ++ (lw_privs_2 ++ (lw_privs_3)), lw_okq q
  exact List.forall_mem_append.mpr ⟨lw_r1, List.forall_mem_append.mpr ⟨lw_r2, lw_r3⟩⟩
-- ===== end of PART A; then your names; then what follows =====
end
section
/-! ===== BEGIN words of one list among another's, by their places ===== -/
theorem goodIn_r {big : List Cond} (ws : List Cond) (ps : List Nat) (hp : ws = ps.filterMap (fun i => big[i]?)) (h : ws.all goodWord = true) : GoodIn big ws := by
  intro w hw
  have h1 := List.all_eq_true.mp h w hw
  rw [hp] at hw
  obtain ⟨i, -, hi⟩ := List.mem_filterMap.mp hw
  have hm : w ∈ big := by first | exact List.mem_of_getElem? hi | exact List.getElem?_mem hi
  exact ⟨hm, good_of_word h1⟩
theorem goodIn_app {big a b : List Cond} (ha : GoodIn big a) (hb : GoodIn big b) : GoodIn big (a ++ b) := fun w h => (List.mem_append.mp h).elim (ha w) (hb w)
theorem goodIn_ca {big a b : List Cond} {c : Cond} (ha : GoodIn big (c :: a)) (hb : GoodIn big b) : GoodIn big (c :: (a ++ b)) := fun w h => (List.mem_cons.mp h).elim (fun e => ha w (List.mem_cons.mpr (Or.inl e))) (fun h => (List.mem_append.mp h).elim (fun h => ha w (List.mem_cons.mpr (Or.inr h))) (hb w))
theorem goodIn_sub {big ws : List Cond} (hm : ∀ w ∈ ws, w ∈ big) (h : ws.all goodWord = true) : GoodIn big ws := fun w hw => ⟨hm w hw, good_of_word (List.all_eq_true.mp h w hw)⟩
/-! ===== END ===== -/

/-! ===== BEGIN new T[n][m]: the outer array a place, the inner ones among the pooled ===== -/
/-- f, but v at every address of l -/
def vr_up {α : Type} (f : Nat → α) (l : List Nat) (v : α) : Nat → α := fun a => if a ∈ l then v else f a
theorem vr_up_in {α : Type} {f : Nat → α} {l : List Nat} {v : α} {a : Nat} (h : a ∈ l) : vr_up f l v a = v := if_pos h
theorem vr_up_ne {α : Type} {f : Nat → α} {l : List Nat} {v : α} {a : Nat} (h : a ∉ l) : vr_up f l v a = f a := if_neg h
theorem vr_rows {L l : List Nat} {f : Nat → va_E} {e : va_E} (h : ∀ a, a ∈ l → a ∉ L) : va_pl L f ++ l.map (fun a => (a, e)) = va_pl (L ++ l) (vr_up f l e) := by
  unfold va_pl
  rw [List.map_append]
  congr 1
  · apply List.map_congr_left
    intro a ha
    rw [vr_up_ne (fun q => h a q ha)]
  · apply List.map_congr_left
    intro a ha
    rw [vr_up_in ha]
theorem vr_lay {X rows : va_W} {x : Nat × va_E} {pl : va_W} {D : va_G} {cl : List vw_C} {H : Heap} (hP : va_P D cl (((X ++ pl) ++ [x]) ++ rows) H) : va_P D cl ((X ++ [x]) ++ (pl ++ rows)) H := by
  rw [List.append_assoc (X ++ pl)] at hP
  have h := va_P.swap hP
  rw [← List.append_assoc X] at h
  have h2 := va_P.swap h
  rw [List.append_assoc (X ++ [x])] at h2
  exact h2
theorem vr_layD {X rows : va_W} {x : Nat × va_E} {pl : va_W} {A : Nat → Prop} (hD : va_D A (((X ++ pl) ++ [x]) ++ rows)) : va_D A ((X ++ [x]) ++ (pl ++ rows)) := by
  rw [List.append_assoc (X ++ pl)] at hD
  have h := va_D.swap hD
  rw [← List.append_assoc X] at h
  have h2 := va_D.swap h
  rw [List.append_assoc (X ++ [x])] at h2
  exact h2
theorem vr_outer (c : ClassId) (N h0 : Nat) : ∀ i : Nat, Jvm.Free.Multi.outerC c N h0 i = arrV c N (fun j => va_rf (if j < i then some (h0 + 1 + j) else none))
  | 0 => by
    show ({ cls := c, slots := Array.replicate N .null, vm := .none } : Cell) = _
    rw [arrV_new]
    refine congrArg (arrV c N) (funext fun j => ?_)
    simp [va_rf]
  | i + 1 => by
    show (Jvm.Free.Multi.outerC c N h0 i).setSlot i (.ref (h0 + 1 + i)) = _
    rw [vr_outer c N h0 i, arrV_store]
    refine congrArg (arrV c N) (funext fun j => ?_)
    by_cases e : j = i
    · subst e
      simp [updV, va_rf]
    · by_cases h : j < i
      · simp [updV, e, h, Nat.lt_succ_of_lt h]
      · simp [updV, e, h, show ¬ j < i + 1 by omega]
def va_AOA (ty : FieldType) (U : State) : Prop := (Cond.arrayOver (.array ty)).before #[] U = true
theorem va_AOA.use {ty : FieldType} {A : Array Value} {U : State} (h : va_AOA ty U) : (Cond.arrayOver (.array ty)).before A U = true := h
section VGM
variable {p : Program} {l : Launch} {e : Env} {R : Room} {s : State} {m : MethodId} {args : Array Value} {below : List Frame} {meth : Method} {c : Code} {H : Heap} {locs : List Loc} {cells slots : Nat} {Q : State → Prop}
variable {cc : ByteArray} {pc : Nat} {ls : Array Slot} {rest : List Value} {D : va_G} {cl : List vw_C} {A : Nat → Prop} {a : Nat} {tys : List (ClassId × FieldType)} {ws : va_W} {H0 : Heap}
theorem va_mna {X : va_W} {L : List Nat} {f : Nat → va_E} {cc : ByteArray} (hexec : p.tables.exec = Jvm.exec) (hb : c.code = cc) {own : String} {index : Nat} {ty : FieldType} {cy : ClassId} (hown : s.vm.findClass own = some m.cls) (hclink : (Cond.classLink own index ("[" ++ (FieldType.array ty).toString)).before args s = true) (hover : va_AOA ty s) (harr : (Cond.arrayClass ty).before args s = true) (hcy : s.vm.findClass (FieldType.array ty).toString = some cy)
    (hK : va_K D cl tys s) (hP : va_P D cl (X ++ va_pl L f) H) (hD : va_D A (X ++ va_pl L f)) (hS : va_S A H0 H locs) (hA : ∀ q, H0.size ≤ q → A q) {n k : Int32} {N' K' : Nat} {z : vp_A} (hn : ¬ n < 0) (hk : ¬ k < 0) (hN : n.toNatClampNeg = N') (hM : k.toNatClampNeg = K')
    (hb1 : N' * 4 ≤ 536870912) (hb2 : K' * componentBytes ty ≤ 536870912) (hb3 : K' ≤ 536870912) (hdf : fits ty (defaultValue ty) = true) (hdd : (defaultValue ty).isDefault = true) (hcells : cells + (1 + N') ≤ R.cells) (hslots : slots + (N' + N' * K') ≤ R.slots) (hz : ∀ c : ClassId, Jvm.Free.Multi.innerC c K' (defaultValue ty) = vp_cell c z) (hdg : decode cc pc = .ok (.multianewarray index 2, 4))
    (kk : ∀ (q : Nat) (r : Nat → Nat) (cA : ClassId) (H1 : Heap), (∀ i j : Nat, i < N' → j < N' → r i = r j → i = j) → (∀ i : Nat, i < N' → r i ∉ L) → va_K D cl (tys ++ [(cA, .array ty)]) s →
      va_P D cl ((X ++ [(q, .inl (cA, N', .inr (.inr (.inr (.inr (fun i => if i < N' then some (r i) else none))))))]) ++ va_pl (L ++ (List.range N').map r) (vr_up f ((List.range N').map r) (.inl (cy, z)))) H1 → va_D A ((X ++ [(q, .inl (cA, N', .inr (.inr (.inr (.inr (fun i => if i < N' then some (r i) else none))))))]) ++ va_pl (L ++ (List.range N').map r) (vr_up f ((List.range N').map r) (.inl (cy, z)))) → va_S A H0 H1 locs →
      W p l e R s m args below meth c H1 locs (cells + 1 + N') (slots + N' + N' * K') Q (F0 m (pc + 4) ls (.ref q :: rest))) : W p l e R s m args below meth c H locs cells slots Q (F0 m pc ls (.int k :: .int n :: rest)) := by
  subst hN
  subst hM
  intro T hT Xs
  obtain ⟨vm₁, cA, comp, -, fA, fC, hO, -, X', step⟩ := Xs.multianewarray2F hexec hown hclink (va_AOA.use hover) harr (g := F0 m pc ls (.int k :: .int n :: rest)) rfl (by rw [hb]; exact hdg) rfl hn hk hb1 hb2 hb3 hdf hdd hcells hslots
  have ec : some cy = some comp := hcy.symm.trans fC
  cases ec
  generalize hF : Jvm.Free.Multi.fill (T.setVm vm₁) cA cy n.toNatClampNeg k.toNatClampNeg (defaultValue ty) n.toNatClampNeg = F at X' step
  have hTh : (T.setVm vm₁).heap = H := hT
  obtain ⟨f1, f2, -, -⟩ := Jvm.Free.Multi.fill_facts (T.setVm vm₁) cA cy n.toNatClampNeg k.toNatClampNeg (defaultValue ty) n.toNatClampNeg
  rw [hF, hTh] at f1 f2
  have hold : ∀ x : Nat, x < H.size → F.heap[x]? = H[x]? := fun x hx => by
    have := Jvm.Free.Multi.fill_old (T.setVm vm₁) cA cy n.toNatClampNeg k.toNatClampNeg (defaultValue ty) (a := x) (by rw [hTh]; exact hx) n.toNatClampNeg
    rw [hF, hTh] at this
    exact this
  have hrow : ∀ j : Nat, j < n.toNatClampNeg → F.heap[H.size + 1 + j]? = some (vp_cell cy z) := fun j hj => by
    have := Jvm.Free.Multi.fill_inner (T.setVm vm₁) cA cy n.toNatClampNeg k.toNatClampNeg (defaultValue ty) n.toNatClampNeg j hj
    rw [hF, hTh, hz] at this
    exact this
  have hout : Jvm.Free.Multi.outerC cA n.toNatClampNeg H.size n.toNatClampNeg = vp_cell cA (n.toNatClampNeg, .inr (.inr (.inr (.inr (fun i => if i < n.toNatClampNeg then some (H.size + 1 + i) else none))))) := by
    rw [vp_cell_q]
    exact vr_outer cA n.toNatClampNeg H.size n.toNatClampNeg
  rw [hout] at f2
  have hlt : ∀ a, a ∈ L → a < H.size := fun a ha => by
    obtain ⟨k9, hk9⟩ := va_pl_get (X := X) (f := f) ha
    exact (hP k9 _ hk9).lt
  have hnl : ∀ i : Nat, i < n.toNatClampNeg → H.size + 1 + i ∉ L := fun i _ h => by
    have := hlt _ h
    omega
  have hnm : ∀ a, a ∈ (List.range n.toNatClampNeg).map (fun i => H.size + 1 + i) → a ∉ L := fun a ha h => by
    obtain ⟨i, -, rfl⟩ := List.mem_map.mp ha
    have := hlt _ h
    omega
  have hP0 : va_P D cl (X ++ va_pl L f) F.heap := hP.kept (fun k9 x hx => hold x.1 ((hP k9 x hx).lt))
  have hP1 : va_P D cl ((X ++ va_pl L f) ++ [(H.size, .inl (cA, n.toNatClampNeg, .inr (.inr (.inr (.inr (fun i => if i < n.toNatClampNeg then some (H.size + 1 + i) else none))))))]) F.heap := hP0.app (fun k9 x hx => by
    have h0 : k9 < 1 := (List.getElem?_eq_some_iff.mp hx).1
    rw [show k9 = 0 by omega] at hx
    cases hx
    exact f2)
  have hP2 : va_P D cl (((X ++ va_pl L f) ++ [(H.size, .inl (cA, n.toNatClampNeg, .inr (.inr (.inr (.inr (fun i => if i < n.toNatClampNeg then some (H.size + 1 + i) else none))))))]) ++ ((List.range n.toNatClampNeg).map (fun i => H.size + 1 + i)).map (fun a => (a, .inl (cy, z)))) F.heap := hP1.app (fun k9 x hx => by
    obtain ⟨a, ha, rfl⟩ := List.mem_map.mp (List.mem_of_getElem? hx)
    obtain ⟨i, hi, rfl⟩ := List.mem_map.mp ha
    exact hrow i (List.mem_range.mp hi))
  have hD2 : va_D A (((X ++ va_pl L f) ++ [(H.size, .inl (cA, n.toNatClampNeg, .inr (.inr (.inr (.inr (fun i => if i < n.toNatClampNeg then some (H.size + 1 + i) else none))))))]) ++ ((List.range n.toNatClampNeg).map (fun i => H.size + 1 + i)).map (fun a => (a, .inl (cy, z)))) := by
    have hD1 := hD.push (e := .inl (cA, n.toNatClampNeg, .inr (.inr (.inr (.inr (fun i => if i < n.toNatClampNeg then some (H.size + 1 + i) else none)))))) hP rfl (hA _ hS.1)
    generalize hW1 : (X ++ va_pl L f) ++ [(H.size, .inl (cA, n.toNatClampNeg, .inr (.inr (.inr (.inr (fun i => if i < n.toNatClampNeg then some (H.size + 1 + i) else none))))))] = W1 at hD1 hP1 ⊢
    have hle : ∀ (k9 : Nat) (x : Nat × va_E), W1[k9]? = some x → x.1 ≤ H.size := fun k9 x hx => by
      rw [← hW1] at hx
      by_cases hl : k9 < (X ++ va_pl L f).length
      · rw [List.getElem?_append_left hl] at hx
        exact Nat.le_of_lt ((hP k9 x hx).lt)
      · rw [List.getElem?_append_right (by omega)] at hx
        have h0 : k9 - (X ++ va_pl L f).length < 1 := (List.getElem?_eq_some_iff.mp hx).1
        rw [show k9 - (X ++ va_pl L f).length = 0 by omega] at hx
        cases hx
        exact Nat.le_refl _
    have hr : ∀ (k9 : Nat) (x : Nat × va_E), (((List.range n.toNatClampNeg).map (fun i => H.size + 1 + i)).map (fun a => ((a, .inl (cy, z)) : Nat × va_E)))[k9]? = some x → x.1 = H.size + 1 + k9 := fun k9 x hx => by
      rw [List.getElem?_map, List.getElem?_map] at hx
      by_cases h9 : k9 < n.toNatClampNeg
      · rw [List.getElem?_range h9] at hx
        cases hx
        rfl
      · have hn0 : (List.range n.toNatClampNeg)[k9]? = none := List.getElem?_eq_none (by rw [List.length_range]; omega)
        rw [hn0] at hx
        cases hx
    refine ⟨fun i j x y hi hj hxy => ?_, fun k9 x hx => ?_⟩
    · by_cases h1 : i < W1.length <;> by_cases h2 : j < W1.length
      · rw [List.getElem?_append_left h1] at hi
        rw [List.getElem?_append_left h2] at hj
        exact hD1.1 i j x y hi hj hxy
      · rw [List.getElem?_append_left h1] at hi
        rw [List.getElem?_append_right (by omega)] at hj
        have := hle _ _ hi
        have := hr _ _ hj
        omega
      · rw [List.getElem?_append_right (by omega)] at hi
        rw [List.getElem?_append_left h2] at hj
        have := hle _ _ hj
        have := hr _ _ hi
        omega
      · rw [List.getElem?_append_right (by omega)] at hi hj
        have := hr _ _ hi
        have := hr _ _ hj
        omega
    · by_cases h1 : k9 < W1.length
      · rw [List.getElem?_append_left h1] at hx
        exact hD1.2 k9 x hx
      · rw [List.getElem?_append_right (by omega)] at hx
        have := hr _ _ hx
        exact hA _ (by have := hS.1; omega)
  have hAr : ArrOfT s cA (.array ty) := fun N9 z9 => by
    obtain ⟨-, k9, hk9, cm9, hkk9⟩ := (hO 0 0 0).1
    exact ⟨(fun q hq => by cases hq), k9, hk9, cm9, hkk9⟩
  have hK2 : va_K D cl (tys ++ [(cA, .array ty)]) s := ⟨hK.1, fun k9 x hx => by
    by_cases hl : k9 < tys.length
    · rw [List.getElem?_append_left hl] at hx
      exact hK.2 k9 x hx
    · rw [List.getElem?_append_right (by omega)] at hx
      have h0 : k9 - tys.length < 1 := (List.getElem?_eq_some_iff.mp hx).1
      rw [show k9 - tys.length = 0 by omega] at hx
      cases hx
      exact ⟨hAr, fA⟩⟩
  obtain ⟨t, a1, b1⟩ := kk H.size (fun i => H.size + 1 + i) cA F.heap (fun i j _ _ h => by have h9 : H.size + 1 + i = H.size + 1 + j := h; omega) hnl hK2 (by rw [← vr_rows hnm]; exact vr_lay hP2) (by rw [← vr_rows hnm]; exact vr_layD hD2) ⟨by rw [f1]; have := hS.1; omega, fun x h1 h2 => (hold x (Nat.lt_of_lt_of_le h1 hS.1)).trans (hS.2.1 x h1 h2), hS.2.2⟩ F rfl X'
  refine ⟨t, step t ?_, b1⟩
  have e : T.heap.size = H.size := by rw [hT]
  rw [e]
  exact a1
end VGM
/-! ===== END ===== -/

def RX0 : String := "HarbourlightMonitor$Alert"
def TX0 : u_T := fun k => match k with
  | 0 => ("HarbourlightMonitor$Alert", "state", "I", false)
  | 1 => ("HarbourlightMonitor$Alert", "since", "I", false)
  | _ => ("HarbourlightMonitor$Alert", "ticksNotBeyond", "I", false)
def tyX0 : Nat → FieldType := fun k => match k with
  | 0 => .int
  | 1 => .int
  | _ => .int
abbrev wsX00 : List Cond := u_ws RX0 TX0 3
theorem nmX0 : ∀ a, a < 3 → ∀ b, b < 3 → a ≠ b → (TX0 a).2.1 ≠ (TX0 b).2.1 := by decide +kernel
theorem tyX0_ok : ∀ k, k < 3 → parseFieldDescriptor (TX0 k).2.2.1 = some (tyX0 k) := by decide +kernel
abbrev cX0_init : ByteArray := prog_2_method_1_code
def yX0_init : MethodName := ⟨RX0, "<init>", "()V"⟩
abbrev cX0_step : ByteArray := prog_2_method_2_code
def yX0_step : MethodName := ⟨RX0, "step", "(ZII)V"⟩
abbrev cX0_rise : ByteArray := prog_2_method_3_code
def yX0_rise : MethodName := ⟨RX0, "rise", "(II)V"⟩
abbrev cX0_fall : ByteArray := prog_2_method_4_code
def yX0_fall : MethodName := ⟨RX0, "fall", "()V"⟩
abbrev cX0_become : ByteArray := prog_2_method_5_code
def yX0_become : MethodName := ⟨RX0, "become", "(LHarbourlightMonitor$Alert;)V"⟩
def RX1 : String := "HarbourlightMonitor$Group"
def TX1 : u_T := fun k => match k with
  | 0 => ("HarbourlightMonitor$Group", "loud", "[I", true)
  | 1 => ("HarbourlightMonitor$Group", "told", "[I", true)
  | 2 => ("HarbourlightMonitor$Group", "toldAt", "I", false)
  | _ => ("HarbourlightMonitor$Group", "wasLoud", "Z", false)
def tyX1 : Nat → FieldType := fun k => match k with
  | 0 => .array .int
  | 1 => .array .int
  | 2 => .int
  | _ => .boolean
abbrev wsX10 : List Cond := u_ws RX1 TX1 4
theorem nmX1 : ∀ a, a < 4 → ∀ b, b < 4 → a ≠ b → (TX1 a).2.1 ≠ (TX1 b).2.1 := by decide +kernel
theorem tyX1_ok : ∀ k, k < 4 → parseFieldDescriptor (TX1 k).2.2.1 = some (tyX1 k) := by decide +kernel
abbrev cX1_init : ByteArray := prog_3_method_1_code
def yX1_init : MethodName := ⟨RX1, "<init>", "()V"⟩
abbrev cX1_forget : ByteArray := prog_3_method_2_code
def yX1_forget : MethodName := ⟨RX1, "forget", "()V"⟩
abbrev cX1_clearLoud : ByteArray := prog_3_method_3_code
def yX1_clearLoud : MethodName := ⟨RX1, "clearLoud", "()V"⟩
abbrev cX1_addLoud : ByteArray := prog_3_method_4_code
def yX1_addLoud : MethodName := ⟨RX1, "addLoud", "(II)V"⟩
abbrev cX1_hasLoudOf : ByteArray := prog_3_method_5_code
def yX1_hasLoudOf : MethodName := ⟨RX1, "hasLoudOf", "(I)Z"⟩
abbrev cX1_isLoud : ByteArray := prog_3_method_6_code
def yX1_isLoud : MethodName := ⟨RX1, "isLoud", "()Z"⟩
abbrev cX1_countLoudNow : ByteArray := prog_3_method_7_code
def yX1_countLoudNow : MethodName := ⟨RX1, "countLoudNow", "()I"⟩
abbrev cX1_hasTold : ByteArray := prog_3_method_8_code
def yX1_hasTold : MethodName := ⟨RX1, "hasTold", "()Z"⟩
abbrev cX1_hasChanged : ByteArray := prog_3_method_9_code
def yX1_hasChanged : MethodName := ⟨RX1, "hasChanged", "()Z"⟩
abbrev cX1_isDue : ByteArray := prog_3_method_10_code
def yX1_isDue : MethodName := ⟨RX1, "isDue", "(II)Z"⟩
abbrev cX1_markTold : ByteArray := prog_3_method_11_code
def yX1_markTold : MethodName := ⟨RX1, "markTold", "(I)V"⟩
def RX2 : String := "HarbourlightMonitor$Hush"
def TX2 : u_T := fun k => match k with
  | 0 => ("HarbourlightMonitor$Hush", "rule", "I", true)
  | 1 => ("HarbourlightMonitor$Hush", "place", "I", true)
  | _ => ("HarbourlightMonitor$Hush", "till", "I", true)
def tyX2 : Nat → FieldType := fun k => match k with
  | 0 => .int
  | 1 => .int
  | _ => .int
abbrev wsX20 : List Cond := u_ws RX2 TX2 3
theorem nmX2 : ∀ a, a < 3 → ∀ b, b < 3 → a ≠ b → (TX2 a).2.1 ≠ (TX2 b).2.1 := by decide +kernel
theorem tyX2_ok : ∀ k, k < 3 → parseFieldDescriptor (TX2 k).2.2.1 = some (tyX2 k) := by decide +kernel
abbrev cX2_init : ByteArray := prog_4_method_1_code
def yX2_init : MethodName := ⟨RX2, "<init>", "(III)V"⟩
abbrev cX2_covers : ByteArray := prog_4_method_2_code
def yX2_covers : MethodName := ⟨RX2, "covers", "(III)Z"⟩
def RX3 : String := "HarbourlightMonitor$NoticeLog"
def TX3 : u_T := fun k => match k with
  | 0 => ("HarbourlightMonitor$NoticeLog", "kept", "[[I", true)
  | 1 => ("HarbourlightMonitor$NoticeLog", "latest", "I", false)
  | 2 => ("HarbourlightMonitor$NoticeLog", "held", "I", false)
  | _ => ("HarbourlightMonitor$NoticeLog", "ever", "I", false)
def tyX3 : Nat → FieldType := fun k => match k with
  | 0 => .array (.array .int)
  | 1 => .int
  | 2 => .int
  | _ => .int
abbrev wsX30 : List Cond := u_ws RX3 TX3 4
theorem nmX3 : ∀ a, a < 4 → ∀ b, b < 4 → a ≠ b → (TX3 a).2.1 ≠ (TX3 b).2.1 := by decide +kernel
theorem tyX3_ok : ∀ k, k < 4 → parseFieldDescriptor (TX3 k).2.2.1 = some (tyX3 k) := by decide +kernel
abbrev cX3_init : ByteArray := prog_5_method_1_code
def yX3_init : MethodName := ⟨RX3, "<init>", "()V"⟩
abbrev cX3_keep : ByteArray := prog_5_method_2_code
def yX3_keep : MethodName := ⟨RX3, "keep", "(IIII)V"⟩
abbrev cX3_factOf : ByteArray := prog_5_method_3_code
def yX3_factOf : MethodName := ⟨RX3, "factOf", "(II)I"⟩
def RX4 : String := "HarbourlightMonitor$Rule"
def TX4 : u_T := fun k => match k with
  | 0 => ("HarbourlightMonitor$Rule", "number", "I", true)
  | 1 => ("HarbourlightMonitor$Rule", "metric", "I", true)
  | 2 => ("HarbourlightMonitor$Rule", "look", "I", true)
  | 3 => ("HarbourlightMonitor$Rule", "w", "I", true)
  | 4 => ("HarbourlightMonitor$Rule", "way", "I", true)
  | 5 => ("HarbourlightMonitor$Rule", "isAbove", "Z", false)
  | 6 => ("HarbourlightMonitor$Rule", "limit", "I", false)
  | 7 => ("HarbourlightMonitor$Rule", "wait", "I", false)
  | 8 => ("HarbourlightMonitor$Rule", "rank", "I", false)
  | _ => ("HarbourlightMonitor$Rule", "alerts", "[LHarbourlightMonitor$Alert;", true)
def tyX4 : Nat → FieldType := fun k => match k with
  | 0 => .int
  | 1 => .int
  | 2 => .int
  | 3 => .int
  | 4 => .int
  | 5 => .boolean
  | 6 => .int
  | 7 => .int
  | 8 => .int
  | _ => .array (.object "HarbourlightMonitor$Alert")
abbrev wsX40 : List Cond := u_ws RX4 TX4 10
theorem nmX4 : ∀ a, a < 10 → ∀ b, b < 10 → a ≠ b → (TX4 a).2.1 ≠ (TX4 b).2.1 := by decide +kernel
theorem tyX4_ok : ∀ k, k < 10 → parseFieldDescriptor (TX4 k).2.2.1 = some (tyX4 k) := by decide +kernel
abbrev cX4_init : ByteArray := prog_6_method_1_code
def yX4_init : MethodName := ⟨RX4, "<init>", "(IIIII)V"⟩
abbrev cX4_takes : ByteArray := prog_6_method_2_code
def yX4_takes : MethodName := ⟨RX4, "takes", "(LHarbourlightMonitor$Series;I)Z"⟩
abbrev cX4_isBeyond : ByteArray := prog_6_method_3_code
def yX4_isBeyond : MethodName := ⟨RX4, "isBeyond", "(II)Z"⟩
abbrev cX4_alertOf : ByteArray := prog_6_method_4_code
def yX4_alertOf : MethodName := ⟨RX4, "alertOf", "(I)LHarbourlightMonitor$Alert;"⟩
abbrev cX4_hasAlert : ByteArray := prog_6_method_5_code
def yX4_hasAlert : MethodName := ⟨RX4, "hasAlert", "(I)Z"⟩
abbrev cX4_burns : ByteArray := prog_6_method_6_code
def yX4_burns : MethodName := ⟨RX4, "burns", "(I)Z"⟩
abbrev cX4_countAlertsFrom : ByteArray := prog_6_method_7_code
def yX4_countAlertsFrom : MethodName := ⟨RX4, "countAlertsFrom", "(I)I"⟩
abbrev cX4_keyOfAlert : ByteArray := prog_6_method_8_code
def yX4_keyOfAlert : MethodName := ⟨RX4, "keyOfAlert", "(I)I"⟩
def RX5 : String := "HarbourlightMonitor$Series"
def TX5 : u_T := fun k => match k with
  | 0 => ("HarbourlightMonitor$Series", "number", "I", true)
  | 1 => ("HarbourlightMonitor$Series", "kind", "I", true)
  | 2 => ("HarbourlightMonitor$Series", "metric", "I", true)
  | 3 => ("HarbourlightMonitor$Series", "place", "I", true)
  | 4 => ("HarbourlightMonitor$Series", "present", "[I", true)
  | 5 => ("HarbourlightMonitor$Series", "samples", "[[I", true)
  | 6 => ("HarbourlightMonitor$Series", "latest", "I", false)
  | _ => ("HarbourlightMonitor$Series", "held", "I", false)
def tyX5 : Nat → FieldType := fun k => match k with
  | 0 => .int
  | 1 => .int
  | 2 => .int
  | 3 => .int
  | 4 => .array .int
  | 5 => .array (.array .int)
  | 6 => .int
  | _ => .int
abbrev wsX50 : List Cond := u_ws RX5 TX5 8
theorem nmX5 : ∀ a, a < 8 → ∀ b, b < 8 → a ≠ b → (TX5 a).2.1 ≠ (TX5 b).2.1 := by decide +kernel
theorem tyX5_ok : ∀ k, k < 8 → parseFieldDescriptor (TX5 k).2.2.1 = some (tyX5 k) := by decide +kernel
abbrev cX5_init : ByteArray := prog_7_method_1_code
def yX5_init : MethodName := ⟨RX5, "<init>", "(IIII)V"⟩
abbrev cX5_take : ByteArray := prog_7_method_2_code
def yX5_take : MethodName := ⟨RX5, "take", "(I)V"⟩
abbrev cX5_columnFor : ByteArray := prog_7_method_3_code
def yX5_columnFor : MethodName := ⟨RX5, "columnFor", "(I)I"⟩
abbrev cX5_beginAnew : ByteArray := prog_7_method_4_code
def yX5_beginAnew : MethodName := ⟨RX5, "beginAnew", "()V"⟩
abbrev cX5_keepSample : ByteArray := prog_7_method_5_code
def yX5_keepSample : MethodName := ⟨RX5, "keepSample", "()V"⟩
abbrev cX5_past : ByteArray := prog_7_method_6_code
def yX5_past : MethodName := ⟨RX5, "past", "(III)I"⟩
abbrev cX5_lookOver : ByteArray := prog_7_method_7_code
def yX5_lookOver : MethodName := ⟨RX5, "lookOver", "(III)I"⟩
abbrev cX5_growthOf : ByteArray := prog_7_method_8_code
def yX5_growthOf : MethodName := ⟨RX5, "growthOf", "(III)I"⟩
abbrev cX5_meanOver : ByteArray := prog_7_method_9_code
def yX5_meanOver : MethodName := ⟨RX5, "meanOver", "(II)I"⟩
abbrev cX5_utmostOver : ByteArray := prog_7_method_10_code
def yX5_utmostOver : MethodName := ⟨RX5, "utmostOver", "(IIZ)I"⟩
abbrev cX5_partOver : ByteArray := prog_7_method_11_code
def yX5_partOver : MethodName := ⟨RX5, "partOver", "(III)I"⟩
def RX6 : String := "HarbourlightMonitor"
def TX6 : u_T := fun k => match k with
  | 0 => ("HarbourlightMonitor", "seriesList", "Ljava/util/ArrayList;", true)
  | 1 => ("HarbourlightMonitor", "ruleList", "Ljava/util/ArrayList;", true)
  | 2 => ("HarbourlightMonitor", "hushList", "Ljava/util/ArrayList;", true)
  | 3 => ("HarbourlightMonitor", "groups", "[LHarbourlightMonitor$Group;", true)
  | 4 => ("HarbourlightMonitor", "log", "LHarbourlightMonitor$NoticeLog;", true)
  | 5 => ("HarbourlightMonitor", "rehearsed", "LHarbourlightMonitor$Alert;", true)
  | 6 => ("HarbourlightMonitor", "clockNow", "I", false)
  | 7 => ("HarbourlightMonitor", "grouping", "I", false)
  | _ => ("HarbourlightMonitor", "repeat", "I", false)
def tyX6 : Nat → FieldType := fun k => match k with
  | 0 => .object "java/util/ArrayList"
  | 1 => .object "java/util/ArrayList"
  | 2 => .object "java/util/ArrayList"
  | 3 => .array (.object "HarbourlightMonitor$Group")
  | 4 => .object "HarbourlightMonitor$NoticeLog"
  | 5 => .object "HarbourlightMonitor$Alert"
  | 6 => .int
  | 7 => .int
  | _ => .int
abbrev wsX60 : List Cond := u_ws RX6 TX6 9
theorem nmX6 : ∀ a, a < 9 → ∀ b, b < 9 → a ≠ b → (TX6 a).2.1 ≠ (TX6 b).2.1 := by decide +kernel
theorem tyX6_ok : ∀ k, k < 9 → parseFieldDescriptor (TX6 k).2.2.1 = some (tyX6 k) := by decide +kernel
abbrev cX6_init : ByteArray := prog_1_method_1_code
def yX6_init : MethodName := ⟨RX6, "<init>", "()V"⟩
abbrev cX6_series : ByteArray := prog_1_method_2_code
def yX6_series : MethodName := ⟨RX6, "series", "(III)I"⟩
abbrev cX6_tell : ByteArray := prog_1_method_3_code
def yX6_tell : MethodName := ⟨RX6, "tell", "(II)I"⟩
abbrev cX6_reset : ByteArray := prog_1_method_4_code
def yX6_reset : MethodName := ⟨RX6, "reset", "(I)I"⟩
abbrev cX6_rule : ByteArray := prog_1_method_5_code
def yX6_rule : MethodName := ⟨RX6, "rule", "(IIIIIZ)I"⟩
abbrev cX6_setRule : ByteArray := prog_1_method_6_code
def yX6_setRule : MethodName := ⟨RX6, "setRule", "(IIII)I"⟩
abbrev cX6_dropRule : ByteArray := prog_1_method_7_code
def yX6_dropRule : MethodName := ⟨RX6, "dropRule", "()I"⟩
abbrev cX6_hush : ByteArray := prog_1_method_8_code
def yX6_hush : MethodName := ⟨RX6, "hush", "(III)I"⟩
abbrev cX6_group : ByteArray := prog_1_method_10_code
def yX6_group : MethodName := ⟨RX6, "group", "(II)I"⟩
abbrev cX6_tick : ByteArray := prog_1_method_11_code
def yX6_tick : MethodName := ⟨RX6, "tick", "(I)I"⟩
abbrev cX6_clock : ByteArray := prog_1_method_12_code
def yX6_clock : MethodName := ⟨RX6, "clock", "()I"⟩
abbrev cX6_many : ByteArray := prog_1_method_13_code
def yX6_many : MethodName := ⟨RX6, "many", "(I)I"⟩
abbrev cX6_now : ByteArray := prog_1_method_14_code
def yX6_now : MethodName := ⟨RX6, "now", "(II)I"⟩
abbrev cX6_sample : ByteArray := prog_1_method_15_code
def yX6_sample : MethodName := ⟨RX6, "sample", "(II)I"⟩
abbrev cX6_look : ByteArray := prog_1_method_16_code
def yX6_look : MethodName := ⟨RX6, "look", "(III)I"⟩
abbrev cX6_alert : ByteArray := prog_1_method_19_code
def yX6_alert : MethodName := ⟨RX6, "alert", "(III)I"⟩
abbrev cX6_alertAt : ByteArray := prog_1_method_20_code
def yX6_alertAt : MethodName := ⟨RX6, "alertAt", "(II)I"⟩
abbrev cX6_ofHush : ByteArray := prog_1_method_21_code
def yX6_ofHush : MethodName := ⟨RX6, "ofHush", "(II)I"⟩
abbrev cX6_notice : ByteArray := prog_1_method_22_code
def yX6_notice : MethodName := ⟨RX6, "notice", "(II)I"⟩
abbrev cX6_burningIn : ByteArray := prog_1_method_23_code
def yX6_burningIn : MethodName := ⟨RX6, "burningIn", "(I)I"⟩
abbrev cX6_beyond : ByteArray := prog_1_method_24_code
def yX6_beyond : MethodName := ⟨RX6, "beyond", "(II)I"⟩
abbrev cX6_calm : ByteArray := prog_1_method_25_code
def yX6_calm : MethodName := ⟨RX6, "calm", "(I)I"⟩
abbrev cX6_loudWithout : ByteArray := prog_1_method_26_code
def yX6_loudWithout : MethodName := ⟨RX6, "loudWithout", "(I)I"⟩
abbrev cX6_digest : ByteArray := prog_1_method_27_code
def yX6_digest : MethodName := ⟨RX6, "digest", "()J"⟩
abbrev cX6_mix : ByteArray := prog_1_method_28_code
def yX6_mix : MethodName := ⟨RX6, "mix", "(JI)J"⟩
abbrev cX6_mixSeries : ByteArray := prog_1_method_29_code
def yX6_mixSeries : MethodName := ⟨RX6, "mixSeries", "(JI)J"⟩
abbrev cX6_mixAlert : ByteArray := prog_1_method_30_code
def yX6_mixAlert : MethodName := ⟨RX6, "mixAlert", "(JI)J"⟩
abbrev cX6_mixHush : ByteArray := prog_1_method_31_code
def yX6_mixHush : MethodName := ⟨RX6, "mixHush", "(JI)J"⟩
abbrev cX6_mixNotices : ByteArray := prog_1_method_32_code
def yX6_mixNotices : MethodName := ⟨RX6, "mixNotices", "(J)J"⟩
abbrev cX6_isOutside : ByteArray := prog_1_method_33_code
def yX6_isOutside : MethodName := ⟨RX6, "isOutside", "(III)Z"⟩
abbrev cX6_requireMetric : ByteArray := prog_1_method_34_code
def yX6_requireMetric : MethodName := ⟨RX6, "requireMetric", "(I)V"⟩
abbrev cX6_requireLook : ByteArray := prog_1_method_35_code
def yX6_requireLook : MethodName := ⟨RX6, "requireLook", "(I)V"⟩
abbrev cX6_requireW : ByteArray := prog_1_method_36_code
def yX6_requireW : MethodName := ⟨RX6, "requireW", "(I)V"⟩
abbrev cX6_requireLimit : ByteArray := prog_1_method_37_code
def yX6_requireLimit : MethodName := ⟨RX6, "requireLimit", "(I)V"⟩
abbrev cX6_requireTicks : ByteArray := prog_1_method_38_code
def yX6_requireTicks : MethodName := ⟨RX6, "requireTicks", "(I)V"⟩
abbrev cX6_requireSeries : ByteArray := prog_1_method_39_code
def yX6_requireSeries : MethodName := ⟨RX6, "requireSeries", "(I)LHarbourlightMonitor$Series;"⟩
abbrev cX6_requireRule : ByteArray := prog_1_method_40_code
def yX6_requireRule : MethodName := ⟨RX6, "requireRule", "(I)LHarbourlightMonitor$Rule;"⟩
abbrev cX6_requireHush : ByteArray := prog_1_method_41_code
def yX6_requireHush : MethodName := ⟨RX6, "requireHush", "(I)LHarbourlightMonitor$Hush;"⟩
abbrev cX6_hasKey : ByteArray := prog_1_method_42_code
def yX6_hasKey : MethodName := ⟨RX6, "hasKey", "(LHarbourlightMonitor$Rule;I)Z"⟩
abbrev cX6_lookedAt : ByteArray := prog_1_method_43_code
def yX6_lookedAt : MethodName := ⟨RX6, "lookedAt", "(LHarbourlightMonitor$Rule;II)I"⟩
abbrev cX6_placeOf : ByteArray := prog_1_method_44_code
def yX6_placeOf : MethodName := ⟨RX6, "placeOf", "(LHarbourlightMonitor$Rule;I)I"⟩
abbrev cX6_stepAlerts : ByteArray := prog_1_method_45_code
def yX6_stepAlerts : MethodName := ⟨RX6, "stepAlerts", "(LHarbourlightMonitor$Rule;)V"⟩
abbrev cX6_wouldBurn : ByteArray := prog_1_method_46_code
def yX6_wouldBurn : MethodName := ⟨RX6, "wouldBurn", "(LHarbourlightMonitor$Rule;II)Z"⟩
abbrev cX6_countAlerts : ByteArray := prog_1_method_47_code
def yX6_countAlerts : MethodName := ⟨RX6, "countAlerts", "(I)I"⟩
abbrev cX6_hearing : ByteArray := prog_1_method_48_code
def yX6_hearing : MethodName := ⟨RX6, "hearing", "(LHarbourlightMonitor$Rule;II)I"⟩
abbrev cX6_isHushed : ByteArray := prog_1_method_49_code
def yX6_isHushed : MethodName := ⟨RX6, "isHushed", "(III)Z"⟩
abbrev cX6_isQuiet : ByteArray := prog_1_method_50_code
def yX6_isQuiet : MethodName := ⟨RX6, "isQuiet", "(III)Z"⟩
abbrev cX6_countLoud : ByteArray := prog_1_method_51_code
def yX6_countLoud : MethodName := ⟨RX6, "countLoud", "(I)I"⟩
abbrev cX6_countCovered : ByteArray := prog_1_method_52_code
def yX6_countCovered : MethodName := ⟨RX6, "countCovered", "(LHarbourlightMonitor$Hush;)I"⟩
abbrev cX6_dropHushesOf : ByteArray := prog_1_method_53_code
def yX6_dropHushesOf : MethodName := ⟨RX6, "dropHushesOf", "(I)V"⟩
abbrev cX6_forgetGroups : ByteArray := prog_1_method_54_code
def yX6_forgetGroups : MethodName := ⟨RX6, "forgetGroups", "()V"⟩
abbrev cX6_sendNotices : ByteArray := prog_1_method_55_code
def yX6_sendNotices : MethodName := ⟨RX6, "sendNotices", "()I"⟩
abbrev cX6_gatherLoud : ByteArray := prog_1_method_56_code
def yX6_gatherLoud : MethodName := ⟨RX6, "gatherLoud", "()V"⟩
abbrev cX6_groupOf : ByteArray := prog_1_method_57_code
def yX6_groupOf : MethodName := ⟨RX6, "groupOf", "(LHarbourlightMonitor$Rule;I)I"⟩
abbrev cX6_greatestRank : ByteArray := prog_1_method_58_code
def yX6_greatestRank : MethodName := ⟨RX6, "greatestRank", "(LHarbourlightMonitor$Group;)I"⟩
def RX7 : String := "HarbourlightMonitorModel$Alert"
def TX7 : u_T := fun k => match k with
  | _ => ("", "", "", false)
def tyX7 : Nat → FieldType := fun k => match k with
  | _ => .int
abbrev wsX70 : List Cond := u_ws RX7 TX7 0
theorem nmX7 : ∀ a, a < 0 → ∀ b, b < 0 → a ≠ b → (TX7 a).2.1 ≠ (TX7 b).2.1 := by decide +kernel
theorem tyX7_ok : ∀ k, k < 0 → parseFieldDescriptor (TX7 k).2.2.1 = some (tyX7 k) := by decide +kernel
def RX8 : String := "HarbourlightMonitorModel$Group"
def TX8 : u_T := fun k => match k with
  | _ => ("", "", "", false)
def tyX8 : Nat → FieldType := fun k => match k with
  | _ => .int
abbrev wsX80 : List Cond := u_ws RX8 TX8 0
theorem nmX8 : ∀ a, a < 0 → ∀ b, b < 0 → a ≠ b → (TX8 a).2.1 ≠ (TX8 b).2.1 := by decide +kernel
theorem tyX8_ok : ∀ k, k < 0 → parseFieldDescriptor (TX8 k).2.2.1 = some (tyX8 k) := by decide +kernel
def RX9 : String := "HarbourlightMonitorModel$Hush"
def TX9 : u_T := fun k => match k with
  | _ => ("", "", "", false)
def tyX9 : Nat → FieldType := fun k => match k with
  | _ => .int
abbrev wsX90 : List Cond := u_ws RX9 TX9 0
theorem nmX9 : ∀ a, a < 0 → ∀ b, b < 0 → a ≠ b → (TX9 a).2.1 ≠ (TX9 b).2.1 := by decide +kernel
theorem tyX9_ok : ∀ k, k < 0 → parseFieldDescriptor (TX9 k).2.2.1 = some (tyX9 k) := by decide +kernel
def RX10 : String := "HarbourlightMonitorModel$Rule"
def TX10 : u_T := fun k => match k with
  | _ => ("", "", "", false)
def tyX10 : Nat → FieldType := fun k => match k with
  | _ => .int
abbrev wsX100 : List Cond := u_ws RX10 TX10 0
theorem nmX10 : ∀ a, a < 0 → ∀ b, b < 0 → a ≠ b → (TX10 a).2.1 ≠ (TX10 b).2.1 := by decide +kernel
theorem tyX10_ok : ∀ k, k < 0 → parseFieldDescriptor (TX10 k).2.2.1 = some (tyX10 k) := by decide +kernel
def RX11 : String := "HarbourlightMonitorModel$Series"
def TX11 : u_T := fun k => match k with
  | _ => ("", "", "", false)
def tyX11 : Nat → FieldType := fun k => match k with
  | _ => .int
abbrev wsX110 : List Cond := u_ws RX11 TX11 0
theorem nmX11 : ∀ a, a < 0 → ∀ b, b < 0 → a ≠ b → (TX11 a).2.1 ≠ (TX11 b).2.1 := by decide +kernel
theorem tyX11_ok : ∀ k, k < 0 → parseFieldDescriptor (TX11 k).2.2.1 = some (tyX11 k) := by decide +kernel
def RX12 : String := "HarbourlightMonitorModel$World"
def TX12 : u_T := fun k => match k with
  | _ => ("", "", "", false)
def tyX12 : Nat → FieldType := fun k => match k with
  | _ => .int
abbrev wsX120 : List Cond := u_ws RX12 TX12 0
theorem nmX12 : ∀ a, a < 0 → ∀ b, b < 0 → a ≠ b → (TX12 a).2.1 ≠ (TX12 b).2.1 := by decide +kernel
theorem tyX12_ok : ∀ k, k < 0 → parseFieldDescriptor (TX12 k).2.2.1 = some (tyX12 k) := by decide +kernel
def RX13 : String := "HarbourlightMonitorModel"
def TX13 : u_T := fun k => match k with
  | _ => ("", "", "", false)
def tyX13 : Nat → FieldType := fun k => match k with
  | _ => .int
abbrev wsX130 : List Cond := u_ws RX13 TX13 0
theorem nmX13 : ∀ a, a < 0 → ∀ b, b < 0 → a ≠ b → (TX13 a).2.1 ≠ (TX13 b).2.1 := by decide +kernel
theorem tyX13_ok : ∀ k, k < 0 → parseFieldDescriptor (TX13 k).2.2.1 = some (tyX13 k) := by decide +kernel
def RJx145de : String := "java/io/Serializable"
def TJx145de : u_T := fun k => match k with
  | _ => ("", "", "", false)
def tyJx145de : Nat → FieldType := fun k => match k with
  | _ => .int
abbrev wsJx145de0 : List Cond := u_ws RJx145de TJx145de 0
theorem nmJx145de : ∀ a, a < 0 → ∀ b, b < 0 → a ≠ b → (TJx145de a).2.1 ≠ (TJx145de b).2.1 := by decide +kernel
theorem tyJx145de_ok : ∀ k, k < 0 → parseFieldDescriptor (TJx145de k).2.2.1 = some (tyJx145de k) := by decide +kernel
def RJx8e188 : String := "java/lang/Cloneable"
def TJx8e188 : u_T := fun k => match k with
  | _ => ("", "", "", false)
def tyJx8e188 : Nat → FieldType := fun k => match k with
  | _ => .int
abbrev wsJx8e1880 : List Cond := u_ws RJx8e188 TJx8e188 0
theorem nmJx8e188 : ∀ a, a < 0 → ∀ b, b < 0 → a ≠ b → (TJx8e188 a).2.1 ≠ (TJx8e188 b).2.1 := by decide +kernel
theorem tyJx8e188_ok : ∀ k, k < 0 → parseFieldDescriptor (TJx8e188 k).2.2.1 = some (tyJx8e188 k) := by decide +kernel
def RJ6 : String := "java/lang/Integer"
def TJ6 : u_T := fun k => match k with
  | _ => ("", "", "", false)
def tyJ6 : Nat → FieldType := fun k => match k with
  | _ => .int
abbrev wsJ60 : List Cond := u_ws RJ6 TJ6 0
theorem nmJ6 : ∀ a, a < 0 → ∀ b, b < 0 → a ≠ b → (TJ6 a).2.1 ≠ (TJ6 b).2.1 := by decide +kernel
theorem tyJ6_ok : ∀ k, k < 0 → parseFieldDescriptor (TJ6 k).2.2.1 = some (tyJ6 k) := by decide +kernel
abbrev cJ6_bitCount_0f7a4 : ByteArray := prog_22_method_49_code
def yJ6_bitCount_0f7a4 : MethodName := ⟨RJ6, "bitCount", "(I)I"⟩
def RJxab1ab : String := "java/lang/Iterable"
def TJxab1ab : u_T := fun k => match k with
  | _ => ("", "", "", false)
def tyJxab1ab : Nat → FieldType := fun k => match k with
  | _ => .int
abbrev wsJxab1ab0 : List Cond := u_ws RJxab1ab TJxab1ab 0
theorem nmJxab1ab : ∀ a, a < 0 → ∀ b, b < 0 → a ≠ b → (TJxab1ab a).2.1 ≠ (TJxab1ab b).2.1 := by decide +kernel
theorem tyJxab1ab_ok : ∀ k, k < 0 → parseFieldDescriptor (TJxab1ab k).2.2.1 = some (tyJxab1ab k) := by decide +kernel
def RJ9 : String := "java/lang/Math"
def TJ9 : u_T := fun k => match k with
  | _ => ("", "", "", false)
def tyJ9 : Nat → FieldType := fun k => match k with
  | _ => .int
abbrev wsJ90 : List Cond := u_ws RJ9 TJ9 0
theorem nmJ9 : ∀ a, a < 0 → ∀ b, b < 0 → a ≠ b → (TJ9 a).2.1 ≠ (TJ9 b).2.1 := by decide +kernel
theorem tyJ9_ok : ∀ k, k < 0 → parseFieldDescriptor (TJ9 k).2.2.1 = some (tyJ9 k) := by decide +kernel
abbrev cJ9_max_7cf53 : ByteArray := prog_24_method_65_code
def yJ9_max_7cf53 : MethodName := ⟨RJ9, "max", "(II)I"⟩
abbrev cJ9_min_7cf53 : ByteArray := prog_24_method_69_code
def yJ9_min_7cf53 : MethodName := ⟨RJ9, "min", "(II)I"⟩
def RJ0 : String := "java/lang/String"
def TJ0 : u_T := fun k => match k with
  | _ => ("", "", "", false)
def tyJ0 : Nat → FieldType := fun k => match k with
  | _ => .int
abbrev wsJ00 : List Cond := u_ws RJ0 TJ0 0
theorem nmJ0 : ∀ a, a < 0 → ∀ b, b < 0 → a ≠ b → (TJ0 a).2.1 ≠ (TJ0 b).2.1 := by decide +kernel
theorem tyJ0_ok : ∀ k, k < 0 → parseFieldDescriptor (TJ0 k).2.2.1 = some (tyJ0 k) := by decide +kernel
def RJ10 : String := "java/lang/System"
def TJ10 : u_T := fun k => match k with
  | _ => ("", "", "", false)
def tyJ10 : Nat → FieldType := fun k => match k with
  | _ => .int
abbrev wsJ100 : List Cond := u_ws RJ10 TJ10 0
theorem nmJ10 : ∀ a, a < 0 → ∀ b, b < 0 → a ≠ b → (TJ10 a).2.1 ≠ (TJ10 b).2.1 := by decide +kernel
theorem tyJ10_ok : ∀ k, k < 0 → parseFieldDescriptor (TJ10 k).2.2.1 = some (tyJ10 k) := by decide +kernel
def RJxa1e45 : String := "java/util/AbstractCollection"
def TJxa1e45 : u_T := fun k => match k with
  | _ => ("", "", "", false)
def tyJxa1e45 : Nat → FieldType := fun k => match k with
  | _ => .int
abbrev wsJxa1e450 : List Cond := u_ws RJxa1e45 TJxa1e45 0
theorem nmJxa1e45 : ∀ a, a < 0 → ∀ b, b < 0 → a ≠ b → (TJxa1e45 a).2.1 ≠ (TJxa1e45 b).2.1 := by decide +kernel
theorem tyJxa1e45_ok : ∀ k, k < 0 → parseFieldDescriptor (TJxa1e45 k).2.2.1 = some (tyJxa1e45 k) := by decide +kernel
abbrev cJxa1e45_init_da8c8 : ByteArray := prog_29_method_1_code
def yJxa1e45_init_da8c8 : MethodName := ⟨RJxa1e45, "<init>", "()V"⟩
def RJxc12de : String := "java/util/AbstractList"
def TJxc12de : u_T := fun k => match k with
  | _ => ("", "", "", false)
def tyJxc12de : Nat → FieldType := fun k => match k with
  | _ => .int
abbrev wsJxc12de0 : List Cond := u_ws RJxc12de TJxc12de 0
theorem nmJxc12de : ∀ a, a < 0 → ∀ b, b < 0 → a ≠ b → (TJxc12de a).2.1 ≠ (TJxc12de b).2.1 := by decide +kernel
theorem tyJxc12de_ok : ∀ k, k < 0 → parseFieldDescriptor (TJxc12de k).2.2.1 = some (tyJxc12de k) := by decide +kernel
abbrev cJxc12de_init_da8c8 : ByteArray := prog_30_method_1_code
def yJxc12de_init_da8c8 : MethodName := ⟨RJxc12de, "<init>", "()V"⟩
def RJx4a65c : String := "java/util/ArrayList"
def TJx4a65c : u_T := fun k => match k with
  | 0 => ("java/util/AbstractList", "modCount", "I", false)
  | 1 => ("java/util/ArrayList", "elementData", "[Ljava/lang/Object;", false)
  | _ => ("java/util/ArrayList", "size", "I", false)
def tyJx4a65c : Nat → FieldType := fun k => match k with
  | 0 => .int
  | 1 => .array (.object "java/lang/Object")
  | _ => .int
abbrev wsJx4a65c0 : List Cond := u_ws RJx4a65c TJx4a65c 3
theorem nmJx4a65c : ∀ a, a < 3 → ∀ b, b < 3 → a ≠ b → (TJx4a65c a).2.1 ≠ (TJx4a65c b).2.1 := by decide +kernel
theorem tyJx4a65c_ok : ∀ k, k < 3 → parseFieldDescriptor (TJx4a65c k).2.2.1 = some (tyJx4a65c k) := by decide +kernel
abbrev cJx4a65c_init_da8c8 : ByteArray := prog_31_method_2_code
def yJx4a65c_init_da8c8 : MethodName := ⟨RJx4a65c, "<init>", "()V"⟩
abbrev cJx4a65c_grow_92f84 : ByteArray := prog_31_method_6_code
def yJx4a65c_grow_92f84 : MethodName := ⟨RJx4a65c, "grow", "(I)[Ljava/lang/Object;"⟩
abbrev cJx4a65c_grow_d5877 : ByteArray := prog_31_method_7_code
def yJx4a65c_grow_d5877 : MethodName := ⟨RJx4a65c, "grow", "()[Ljava/lang/Object;"⟩
abbrev cJx4a65c_size_8abf5 : ByteArray := prog_31_method_8_code
def yJx4a65c_size_8abf5 : MethodName := ⟨RJx4a65c, "size", "()I"⟩
abbrev cJx4a65c_elementData_915e3 : ByteArray := prog_31_method_18_code
def yJx4a65c_elementData_915e3 : MethodName := ⟨RJx4a65c, "elementData", "(I)Ljava/lang/Object;"⟩
abbrev cJx4a65c_get_915e3 : ByteArray := prog_31_method_20_code
def yJx4a65c_get_915e3 : MethodName := ⟨RJx4a65c, "get", "(I)Ljava/lang/Object;"⟩
abbrev cJx4a65c_add_72be8 : ByteArray := prog_31_method_24_code
def yJx4a65c_add_72be8 : MethodName := ⟨RJx4a65c, "add", "(Ljava/lang/Object;[Ljava/lang/Object;I)V"⟩
abbrev cJx4a65c_add_9ea2d : ByteArray := prog_31_method_25_code
def yJx4a65c_add_9ea2d : MethodName := ⟨RJx4a65c, "add", "(Ljava/lang/Object;)Z"⟩
abbrev cJx4a65c_remove_915e3 : ByteArray := prog_31_method_29_code
def yJx4a65c_remove_915e3 : MethodName := ⟨RJx4a65c, "remove", "(I)Ljava/lang/Object;"⟩
abbrev cJx4a65c_fastRemove_b59b0 : ByteArray := prog_31_method_39_code
def yJx4a65c_fastRemove_b59b0 : MethodName := ⟨RJx4a65c, "fastRemove", "([Ljava/lang/Object;I)V"⟩
def RJ7 : String := "java/util/Arrays"
def TJ7 : u_T := fun k => match k with
  | _ => ("", "", "", false)
def tyJ7 : Nat → FieldType := fun k => match k with
  | _ => .int
abbrev wsJ70 : List Cond := u_ws RJ7 TJ7 0
theorem nmJ7 : ∀ a, a < 0 → ∀ b, b < 0 → a ≠ b → (TJ7 a).2.1 ≠ (TJ7 b).2.1 := by decide +kernel
theorem tyJ7_ok : ∀ k, k < 0 → parseFieldDescriptor (TJ7 k).2.2.1 = some (tyJ7 k) := by decide +kernel
abbrev cJ7_copyOf_1904c : ByteArray := prog_32_method_119_code
def yJ7_copyOf_1904c : MethodName := ⟨RJ7, "copyOf", "([Ljava/lang/Object;I)[Ljava/lang/Object;"⟩
abbrev cJ7_copyOf_6403c : ByteArray := prog_32_method_120_code
def yJ7_copyOf_6403c : MethodName := ⟨RJ7, "copyOf", "([Ljava/lang/Object;ILjava/lang/Class;)[Ljava/lang/Object;"⟩
def RJx5ef63 : String := "java/util/Collection"
def TJx5ef63 : u_T := fun k => match k with
  | _ => ("", "", "", false)
def tyJx5ef63 : Nat → FieldType := fun k => match k with
  | _ => .int
abbrev wsJx5ef630 : List Cond := u_ws RJx5ef63 TJx5ef63 0
theorem nmJx5ef63 : ∀ a, a < 0 → ∀ b, b < 0 → a ≠ b → (TJx5ef63 a).2.1 ≠ (TJx5ef63 b).2.1 := by decide +kernel
theorem tyJx5ef63_ok : ∀ k, k < 0 → parseFieldDescriptor (TJx5ef63 k).2.2.1 = some (tyJx5ef63 k) := by decide +kernel
def RJxbd725 : String := "java/util/List"
def TJxbd725 : u_T := fun k => match k with
  | _ => ("", "", "", false)
def tyJxbd725 : Nat → FieldType := fun k => match k with
  | _ => .int
abbrev wsJxbd7250 : List Cond := u_ws RJxbd725 TJxbd725 0
theorem nmJxbd725 : ∀ a, a < 0 → ∀ b, b < 0 → a ≠ b → (TJxbd725 a).2.1 ≠ (TJxbd725 b).2.1 := by decide +kernel
theorem tyJxbd725_ok : ∀ k, k < 0 → parseFieldDescriptor (TJxbd725 k).2.2.1 = some (tyJxbd725 k) := by decide +kernel
def RJ15 : String := "java/util/Objects"
def TJ15 : u_T := fun k => match k with
  | _ => ("", "", "", false)
def tyJ15 : Nat → FieldType := fun k => match k with
  | _ => .int
abbrev wsJ150 : List Cond := u_ws RJ15 TJ15 0
theorem nmJ15 : ∀ a, a < 0 → ∀ b, b < 0 → a ≠ b → (TJ15 a).2.1 ≠ (TJ15 b).2.1 := by decide +kernel
theorem tyJ15_ok : ∀ k, k < 0 → parseFieldDescriptor (TJ15 k).2.2.1 = some (tyJ15 k) := by decide +kernel
abbrev cJ15_checkIndex_7cf53 : ByteArray := prog_35_method_17_code
def yJ15_checkIndex_7cf53 : MethodName := ⟨RJ15, "checkIndex", "(II)I"⟩
def RJxf0a74 : String := "java/util/RandomAccess"
def TJxf0a74 : u_T := fun k => match k with
  | _ => ("", "", "", false)
def tyJxf0a74 : Nat → FieldType := fun k => match k with
  | _ => .int
abbrev wsJxf0a740 : List Cond := u_ws RJxf0a74 TJxf0a74 0
theorem nmJxf0a74 : ∀ a, a < 0 → ∀ b, b < 0 → a ≠ b → (TJxf0a74 a).2.1 ≠ (TJxf0a74 b).2.1 := by decide +kernel
theorem tyJxf0a74_ok : ∀ k, k < 0 → parseFieldDescriptor (TJxf0a74 k).2.2.1 = some (tyJxf0a74 k) := by decide +kernel
def RJxa66e6 : String := "java/util/SequencedCollection"
def TJxa66e6 : u_T := fun k => match k with
  | _ => ("", "", "", false)
def tyJxa66e6 : Nat → FieldType := fun k => match k with
  | _ => .int
abbrev wsJxa66e60 : List Cond := u_ws RJxa66e6 TJxa66e6 0
theorem nmJxa66e6 : ∀ a, a < 0 → ∀ b, b < 0 → a ≠ b → (TJxa66e6 a).2.1 ≠ (TJxa66e6 b).2.1 := by decide +kernel
theorem tyJxa66e6_ok : ∀ k, k < 0 → parseFieldDescriptor (TJxa66e6 k).2.2.1 = some (tyJxa66e6 k) := by decide +kernel
def RJ8 : String := "jdk/internal/util/ArraysSupport"
def TJ8 : u_T := fun k => match k with
  | _ => ("", "", "", false)
def tyJ8 : Nat → FieldType := fun k => match k with
  | _ => .int
abbrev wsJ80 : List Cond := u_ws RJ8 TJ8 0
theorem nmJ8 : ∀ a, a < 0 → ∀ b, b < 0 → a ≠ b → (TJ8 a).2.1 ≠ (TJ8 b).2.1 := by decide +kernel
theorem tyJ8_ok : ∀ k, k < 0 → parseFieldDescriptor (TJ8 k).2.2.1 = some (tyJ8 k) := by decide +kernel
abbrev cJ8_newLength_cabcc : ByteArray := prog_38_method_27_code
def yJ8_newLength_cabcc : MethodName := ⟨RJ8, "newLength", "(III)I"⟩
abbrev cJ8_hugeLength_7cf53 : ByteArray := prog_38_method_28_code
def yJ8_hugeLength_7cf53 : MethodName := ⟨RJ8, "hugeLength", "(II)I"⟩
def RJ3 : String := "jdk/internal/util/Preconditions"
def TJ3 : u_T := fun k => match k with
  | _ => ("", "", "", false)
def tyJ3 : Nat → FieldType := fun k => match k with
  | _ => .int
abbrev wsJ30 : List Cond := u_ws RJ3 TJ3 0
theorem nmJ3 : ∀ a, a < 0 → ∀ b, b < 0 → a ≠ b → (TJ3 a).2.1 ≠ (TJ3 b).2.1 := by decide +kernel
theorem tyJ3_ok : ∀ k, k < 0 → parseFieldDescriptor (TJ3 k).2.2.1 = some (tyJ3 k) := by decide +kernel
abbrev cJ3_checkIndex_8e157 : ByteArray := prog_39_method_11_code
def yJ3_checkIndex_8e157 : MethodName := ⟨RJ3, "checkIndex", "(IILjava/util/function/BiFunction;)I"⟩
def RL : String := "HarbourlightMonitorLaw"
abbrev cL_below : ByteArray := method_2_code
def yL_below : MethodName := ⟨RL, "below", "(II)I"⟩
abbrev cL_cell : ByteArray := method_3_code
def yL_cell : MethodName := ⟨RL, "cell", "([II)I"⟩
abbrev cL_law : ByteArray := code
def yL_law : MethodName := ⟨RL, "law", "([I)Z"⟩
abbrev vwCl : List vw_C := [(RJx4a65c, TJx4a65c, 3), (RX0, TX0, 3), (RX1, TX1, 4), (RX2, TX2, 3), (RX3, TX3, 4), (RX4, TX4, 10), (RX5, TX5, 8), (RX6, TX6, 9)]
end
section
def hm_B0 : List Cond := [Cond.classLink RL 9 RX6, Cond.instantiable RX6 9, Cond.initialized RX6, Cond.methodLink RL 79 Lib.Math.min.name, Cond.static Lib.Math.min.name, Cond.initialized "java/lang/Math", Cond.code Lib.Math.min.name Lib.Math.min.code 2 (some .int), Cond.methodLink RL 11 yX6_init, Cond.instanceMethod yX6_init, Cond.code yX6_init cX6_init 2 none, Cond.methodLink RX6 1 objectInit, Cond.instanceMethod objectInit, Cond.code objectInit ⟨#[0xb1]⟩ 1 none, Cond.classLink RX6 7 RJx4a65c, Cond.instantiable RJx4a65c 3, Cond.initialized RJx4a65c, Cond.fieldLink RX6 10 "HarbourlightMonitor" "seriesList" "Ljava/util/ArrayList;", Cond.fieldLink RX6 16 "HarbourlightMonitor" "ruleList" "Ljava/util/ArrayList;", Cond.fieldLink RX6 19 "HarbourlightMonitor" "hushList" "Ljava/util/ArrayList;", Cond.classLink RX6 22 RX1, Cond.fieldLink RX6 24 "HarbourlightMonitor" "groups" "[LHarbourlightMonitor$Group;", Cond.instantiable RX1 4, Cond.initialized RX1, Cond.classLink RX6 29 RX3, Cond.instantiable RX3 4, Cond.initialized RX3, Cond.fieldLink RX6 32 "HarbourlightMonitor" "log" "LHarbourlightMonitor$NoticeLog;", Cond.classLink RX6 36 RX0, Cond.instantiable RX0 3, Cond.initialized RX0, Cond.fieldLink RX6 39 "HarbourlightMonitor" "rehearsed" "LHarbourlightMonitor$Alert;", Cond.fieldLink RX6 43 "HarbourlightMonitor" "clockNow" "I", Cond.fieldLink RX6 47 "HarbourlightMonitor" "grouping" "I", Cond.fieldLink RX6 50 "HarbourlightMonitor" "repeat" "I", Cond.methodLink RX6 9 yJx4a65c_init_da8c8, Cond.instanceMethod yJx4a65c_init_da8c8, Cond.code yJx4a65c_init_da8c8 cJx4a65c_init_da8c8 1 none, Cond.fieldLink RJx4a65c 39 "java/util/ArrayList" "DEFAULTCAPACITY_EMPTY_ELEMENTDATA" "[Ljava/lang/Object;", Cond.fieldLink RJx4a65c 9 "java/util/ArrayList" "elementData" "[Ljava/lang/Object;", Cond.methodLink RJx4a65c 1 yJxc12de_init_da8c8]
def hm_B1 : List Cond := [Cond.instanceMethod yJxc12de_init_da8c8, Cond.initialized RJxc12de, Cond.code yJxc12de_init_da8c8 cJxc12de_init_da8c8 1 none, Cond.fieldLink RJxc12de 7 "java/util/AbstractList" "modCount" "I", Cond.methodLink RJxc12de 1 yJxa1e45_init_da8c8, Cond.instanceMethod yJxa1e45_init_da8c8, Cond.initialized RJxa1e45, Cond.code yJxa1e45_init_da8c8 cJxa1e45_init_da8c8 1 none, Cond.methodLink RJxa1e45 1 objectInit, Cond.instanceMethod yX1_init, Cond.code yX1_init cX1_init 1 none, Cond.methodLink RX1 3 objectInit, Cond.arrayClass .int, Cond.fieldLink RX1 9 "HarbourlightMonitor$Group" "loud" "[I", Cond.fieldLink RX1 15 "HarbourlightMonitor$Group" "told" "[I", Cond.fieldLink RX1 18 "HarbourlightMonitor$Group" "toldAt" "I", Cond.fieldLink RX1 22 "HarbourlightMonitor$Group" "wasLoud" "Z", Cond.instanceMethod yX3_init, Cond.code yX3_init cX3_init 1 none, Cond.methodLink RX3 3 objectInit, Cond.classLink RX3 9 "[[I", Cond.fieldLink RX3 11 "HarbourlightMonitor$NoticeLog" "kept" "[[I", Cond.fieldLink RX3 16 "HarbourlightMonitor$NoticeLog" "latest" "I", Cond.fieldLink RX3 20 "HarbourlightMonitor$NoticeLog" "held" "I", Cond.fieldLink RX3 23 "HarbourlightMonitor$NoticeLog" "ever" "I", Cond.instanceMethod yX0_init, Cond.code yX0_init cX0_init 1 none, Cond.methodLink RX0 3 objectInit, Cond.fieldLink RX0 9 "HarbourlightMonitor$Alert" "state" "I", Cond.fieldLink RX0 15 "HarbourlightMonitor$Alert" "since" "I", Cond.fieldLink RX0 18 "HarbourlightMonitor$Alert" "ticksNotBeyond" "I", Cond.methodLink RL 12 yL_cell, Cond.static yL_cell, Cond.initialized RL, Cond.code yL_cell cL_cell 2 (some .int), Cond.constant RL 8 (790386105), Cond.methodLink RL 18 yL_below, Cond.static yL_below, Cond.code yL_below cL_below 2 (some .int), Cond.constant RL 7 (2147483647)]
def hm_B2 : List Cond := [Cond.methodLink RL 22 yX6_series, Cond.instanceMethod yX6_series, Cond.selects RX6 yX6_series yX6_series, Cond.code yX6_series cX6_series 5 (some .int), Cond.classLink RX6 57 "java/lang/IllegalArgumentException", Cond.initialized "java/lang/IllegalArgumentException", Cond.classLink RX6 74 "java/lang/IllegalStateException", Cond.initialized "java/lang/IllegalStateException", Cond.classLink RX6 79 RX5, Cond.instantiable RX5 8, Cond.initialized RX5, Cond.methodLink RX6 53 yX6_isOutside, Cond.static yX6_isOutside, Cond.code yX6_isOutside cX6_isOutside 3 (some .boolean), Cond.methodLink RX6 64 yX6_requireMetric, Cond.static yX6_requireMetric, Cond.code yX6_requireMetric cX6_requireMetric 1 none, Cond.methodLink RX6 70 yJx4a65c_size_8abf5, Cond.instanceMethod yJx4a65c_size_8abf5, Cond.selects RJx4a65c yJx4a65c_size_8abf5 yJx4a65c_size_8abf5, Cond.code yJx4a65c_size_8abf5 cJx4a65c_size_8abf5 1 (some .int), Cond.fieldLink RJx4a65c 48 "java/util/ArrayList" "size" "I", Cond.methodLink RX6 81 yX5_init, Cond.instanceMethod yX5_init, Cond.code yX5_init cX5_init 5 none, Cond.methodLink RX5 3 objectInit, Cond.fieldLink RX5 9 "HarbourlightMonitor$Series" "present" "[I", Cond.classLink RX5 15 "[[I", Cond.fieldLink RX5 17 "HarbourlightMonitor$Series" "samples" "[[I", Cond.fieldLink RX5 20 "HarbourlightMonitor$Series" "latest" "I", Cond.fieldLink RX5 24 "HarbourlightMonitor$Series" "held" "I", Cond.fieldLink RX5 27 "HarbourlightMonitor$Series" "number" "I", Cond.fieldLink RX5 30 "HarbourlightMonitor$Series" "kind" "I", Cond.fieldLink RX5 33 "HarbourlightMonitor$Series" "metric" "I", Cond.fieldLink RX5 36 "HarbourlightMonitor$Series" "place" "I", Cond.methodLink RX6 84 yJx4a65c_add_9ea2d, Cond.instanceMethod yJx4a65c_add_9ea2d, Cond.selects RJx4a65c yJx4a65c_add_9ea2d yJx4a65c_add_9ea2d, Cond.code yJx4a65c_add_9ea2d cJx4a65c_add_9ea2d 2 (some .boolean), Cond.fieldLink RJx4a65c 63 "java/util/ArrayList" "modCount" "I"]
def hm_B3 : List Cond := [Cond.sameField "java/util/ArrayList" "java/util/AbstractList" "modCount" "I", Cond.methodLink RJx4a65c 131 yJx4a65c_add_72be8, Cond.instanceMethod yJx4a65c_add_72be8, Cond.selects RJx4a65c yJx4a65c_add_72be8 yJx4a65c_add_72be8, Cond.code yJx4a65c_add_72be8 cJx4a65c_add_72be8 4 none, Cond.methodLink RJx4a65c 129 yJx4a65c_grow_d5877, Cond.instanceMethod yJx4a65c_grow_d5877, Cond.selects RJx4a65c yJx4a65c_grow_d5877 yJx4a65c_grow_d5877, Cond.code yJx4a65c_grow_d5877 cJx4a65c_grow_d5877 1 (some (.array (.object "java/lang/Object"))), Cond.methodLink RJx4a65c 69 yJx4a65c_grow_92f84, Cond.instanceMethod yJx4a65c_grow_92f84, Cond.selects RJx4a65c yJx4a65c_grow_92f84 yJx4a65c_grow_92f84, Cond.code yJx4a65c_grow_92f84 cJx4a65c_grow_92f84 4 (some (.array (.object "java/lang/Object"))), Cond.methodLink RJx4a65c 79 Lib.Math.max.name, Cond.static Lib.Math.max.name, Cond.code Lib.Math.max.name Lib.Math.max.code 2 (some .int), Cond.classLink RJx4a65c 7 "java/lang/Object", Cond.methodLink RJx4a65c 73 yJ8_newLength_cabcc, Cond.static yJ8_newLength_cabcc, Cond.initialized RJ8, Cond.code yJ8_newLength_cabcc cJ8_newLength_cabcc 4 (some .int), Cond.methodLink RJ8 194 Lib.Math.max.name, Cond.constant RJ8 200 (2147483639), Cond.methodLink RJ8 201 yJ8_hugeLength_7cf53, Cond.static yJ8_hugeLength_7cf53, Cond.code yJ8_hugeLength_7cf53 cJ8_hugeLength_7cf53 3 (some .int), Cond.methodLink RJx4a65c 66 yJ7_copyOf_1904c, Cond.static yJ7_copyOf_1904c, Cond.initialized RJ7, Cond.code yJ7_copyOf_1904c cJ7_copyOf_1904c 2 (some (.array (.object "java/lang/Object"))), Cond.methodLink RJ7 86 ⟨"java/lang/Object", "getClass", "()Ljava/lang/Class;"⟩, Cond.selects "[Ljava/lang/Object;" ⟨"java/lang/Object", "getClass", "()Ljava/lang/Class;"⟩ ⟨"java/lang/Object", "getClass", "()Ljava/lang/Class;"⟩, Cond.instanceMethod ⟨"java/lang/Object", "getClass", "()Ljava/lang/Class;"⟩, Cond.native ⟨"java/lang/Object", "getClass", "()Ljava/lang/Class;"⟩, Cond.methodLink RJ7 300 yJ7_copyOf_6403c, Cond.static yJ7_copyOf_6403c, Cond.code yJ7_copyOf_6403c cJ7_copyOf_6403c 4 (some (.array (.object "java/lang/Object"))), Cond.classLink RJ7 110 "[Ljava/lang/Object;", Cond.classLink RJ7 2 "java/lang/Object", Cond.methodLink RJ7 304 Lib.Math.min.name]
def hm_B4 : List Cond := [Cond.methodLink RJ7 150 arraycopyName, Cond.native arraycopyName, Cond.static arraycopyName, Cond.initialized "java/lang/System", Cond.methodLink RL 26 yX6_rule, Cond.instanceMethod yX6_rule, Cond.selects RX6 yX6_rule yX6_rule, Cond.code yX6_rule cX6_rule 9 (some .int), Cond.classLink RX6 120 RX4, Cond.instantiable RX4 10, Cond.initialized RX4, Cond.fieldLink RX6 125 "HarbourlightMonitor$Rule" "limit" "I", Cond.fieldLink RX6 128 "HarbourlightMonitor$Rule" "isAbove" "Z", Cond.methodLink RX6 107 yX6_requireLook, Cond.static yX6_requireLook, Cond.code yX6_requireLook cX6_requireLook 1 none, Cond.methodLink RX6 110 yX6_requireW, Cond.static yX6_requireW, Cond.code yX6_requireW cX6_requireW 1 none, Cond.methodLink RX6 115 yX6_requireLimit, Cond.static yX6_requireLimit, Cond.code yX6_requireLimit cX6_requireLimit 1 none, Cond.methodLink RX6 122 yX4_init, Cond.instanceMethod yX4_init, Cond.code yX4_init cX4_init 7 none, Cond.methodLink RX4 3 objectInit, Cond.fieldLink RX4 9 "HarbourlightMonitor$Rule" "wait" "I", Cond.fieldLink RX4 15 "HarbourlightMonitor$Rule" "rank" "I", Cond.classLink RX4 18 RX0, Cond.fieldLink RX4 20 "HarbourlightMonitor$Rule" "alerts" "[LHarbourlightMonitor$Alert;", Cond.fieldLink RX4 24 "HarbourlightMonitor$Rule" "number" "I", Cond.fieldLink RX4 27 "HarbourlightMonitor$Rule" "metric" "I", Cond.fieldLink RX4 30 "HarbourlightMonitor$Rule" "look" "I", Cond.fieldLink RX4 33 "HarbourlightMonitor$Rule" "w" "I", Cond.fieldLink RX4 36 "HarbourlightMonitor$Rule" "way" "I", Cond.methodLink RL 30 yX6_setRule, Cond.instanceMethod yX6_setRule, Cond.selects RX6 yX6_setRule yX6_setRule, Cond.code yX6_setRule cX6_setRule 7 (some .int), Cond.fieldLink RX6 140 "HarbourlightMonitor$Rule" "wait" "I"]
def hm_B5 : List Cond := [Cond.fieldLink RX6 143 "HarbourlightMonitor$Rule" "rank" "I", Cond.methodLink RX6 132 yX6_requireRule, Cond.instanceMethod yX6_requireRule, Cond.selects RX6 yX6_requireRule yX6_requireRule, Cond.code yX6_requireRule cX6_requireRule 2 (some (.object "HarbourlightMonitor$Rule")), Cond.classLink RX6 248 "java/lang/IndexOutOfBoundsException", Cond.initialized "java/lang/IndexOutOfBoundsException", Cond.classLink RX6 120 "HarbourlightMonitor$Rule", Cond.methodLink RX6 180 yJx4a65c_get_915e3, Cond.instanceMethod yJx4a65c_get_915e3, Cond.selects RJx4a65c yJx4a65c_get_915e3 yJx4a65c_get_915e3, Cond.code yJx4a65c_get_915e3 cJx4a65c_get_915e3 2 (some (.object "java/lang/Object")), Cond.methodLink RJx4a65c 118 yJ15_checkIndex_7cf53, Cond.static yJ15_checkIndex_7cf53, Cond.initialized RJ15, Cond.code yJ15_checkIndex_7cf53 cJ15_checkIndex_7cf53 2 (some .int), Cond.methodLink RJ15 105 yJ3_checkIndex_8e157, Cond.static yJ3_checkIndex_8e157, Cond.initialized RJ3, Cond.code yJ3_checkIndex_8e157 cJ3_checkIndex_8e157 3 (some .int), Cond.methodLink RJx4a65c 123 yJx4a65c_elementData_915e3, Cond.instanceMethod yJx4a65c_elementData_915e3, Cond.selects RJx4a65c yJx4a65c_elementData_915e3 yJx4a65c_elementData_915e3, Cond.code yJx4a65c_elementData_915e3 cJx4a65c_elementData_915e3 2 (some (.object "java/lang/Object")), Cond.methodLink RL 34 yX6_group, Cond.instanceMethod yX6_group, Cond.selects RX6 yX6_group yX6_group, Cond.code yX6_group cX6_group 4 (some .int), Cond.methodLink RX6 174 yX6_forgetGroups, Cond.instanceMethod yX6_forgetGroups, Cond.selects RX6 yX6_forgetGroups yX6_forgetGroups, Cond.code yX6_forgetGroups cX6_forgetGroups 2 none, Cond.methodLink RX6 401 yX1_forget, Cond.instanceMethod yX1_forget, Cond.selects RX1 yX1_forget yX1_forget, Cond.code yX1_forget cX1_forget 2 none, Cond.methodLink RL 37 yX6_tell, Cond.instanceMethod yX6_tell, Cond.selects RX6 yX6_tell yX6_tell, Cond.code yX6_tell cX6_tell 5 (some .int)]
def hm_B6 : List Cond := [Cond.fieldLink RX6 92 "HarbourlightMonitor$Series" "kind" "I", Cond.fieldLink RX6 100 "HarbourlightMonitor$Series" "present" "[I", Cond.methodLink RX6 88 yX6_requireSeries, Cond.instanceMethod yX6_requireSeries, Cond.selects RX6 yX6_requireSeries yX6_requireSeries, Cond.code yX6_requireSeries cX6_requireSeries 2 (some (.object "HarbourlightMonitor$Series")), Cond.classLink RX6 79 "HarbourlightMonitor$Series", Cond.methodLink RX6 97 yX5_take, Cond.instanceMethod yX5_take, Cond.selects RX5 yX5_take yX5_take, Cond.code yX5_take cX5_take 2 none, Cond.methodLink RX5 39 yX5_columnFor, Cond.static yX5_columnFor, Cond.code yX5_columnFor cX5_columnFor 2 (some .int), Cond.methodLink RL 40 yX6_reset, Cond.instanceMethod yX6_reset, Cond.selects RX6 yX6_reset yX6_reset, Cond.code yX6_reset cX6_reset 4 (some .int), Cond.methodLink RX6 104 yX5_beginAnew, Cond.instanceMethod yX5_beginAnew, Cond.selects RX5 yX5_beginAnew yX5_beginAnew, Cond.code yX5_beginAnew cX5_beginAnew 2 none, Cond.methodLink RL 44 yX6_many, Cond.instanceMethod yX6_many, Cond.selects RX6 yX6_many yX6_many, Cond.code yX6_many cX6_many 2 (some .int), Cond.fieldLink RX6 200 "HarbourlightMonitor$NoticeLog" "ever" "I", Cond.methodLink RX6 193 yX6_countAlerts, Cond.instanceMethod yX6_countAlerts, Cond.selects RX6 yX6_countAlerts yX6_countAlerts, Cond.code yX6_countAlerts cX6_countAlerts 4 (some .int), Cond.methodLink RX6 245 yX4_countAlertsFrom, Cond.instanceMethod yX4_countAlertsFrom, Cond.selects RX4 yX4_countAlertsFrom yX4_countAlertsFrom, Cond.code yX4_countAlertsFrom cX4_countAlertsFrom 4 (some .int), Cond.fieldLink RX4 59 "HarbourlightMonitor$Alert" "state" "I", Cond.methodLink RX6 197 yX6_countLoud, Cond.instanceMethod yX6_countLoud, Cond.selects RX6 yX6_countLoud yX6_countLoud, Cond.code yX6_countLoud cX6_countLoud 6 (some .int)]
def hm_B7 : List Cond := [Cond.methodLink RX6 239 yX6_hearing, Cond.instanceMethod yX6_hearing, Cond.selects RX6 yX6_hearing yX6_hearing, Cond.code yX6_hearing cX6_hearing 5 (some .int), Cond.fieldLink RX6 253 "HarbourlightMonitor$Rule" "number" "I", Cond.methodLink RX6 385 yX4_burns, Cond.instanceMethod yX4_burns, Cond.selects RX4 yX4_burns yX4_burns, Cond.code yX4_burns cX4_burns 3 (some .boolean), Cond.methodLink RX4 55 yX4_alertOf, Cond.instanceMethod yX4_alertOf, Cond.selects RX4 yX4_alertOf yX4_alertOf, Cond.code yX4_alertOf cX4_alertOf 2 (some (.object "HarbourlightMonitor$Alert")), Cond.methodLink RX6 256 yX6_placeOf, Cond.instanceMethod yX6_placeOf, Cond.selects RX6 yX6_placeOf yX6_placeOf, Cond.code yX6_placeOf cX6_placeOf 3 (some .int), Cond.fieldLink RX6 373 "HarbourlightMonitor$Rule" "way" "I", Cond.fieldLink RX6 376 "HarbourlightMonitor$Series" "place" "I", Cond.methodLink RX6 389 yX6_isHushed, Cond.instanceMethod yX6_isHushed, Cond.selects RX6 yX6_isHushed yX6_isHushed, Cond.code yX6_isHushed cX6_isHushed 5 (some .boolean), Cond.classLink RX6 161 "HarbourlightMonitor$Hush", Cond.methodLink RX6 395 yX2_covers, Cond.instanceMethod yX2_covers, Cond.selects RX2 yX2_covers yX2_covers, Cond.initialized RX2, Cond.code yX2_covers cX2_covers 4 (some .boolean), Cond.fieldLink RX2 18 "HarbourlightMonitor$Hush" "till" "I", Cond.fieldLink RX2 9 "HarbourlightMonitor$Hush" "rule" "I", Cond.fieldLink RX2 15 "HarbourlightMonitor$Hush" "place" "I", Cond.methodLink RX6 392 yX6_isQuiet, Cond.instanceMethod yX6_isQuiet, Cond.selects RX6 yX6_isQuiet yX6_isQuiet, Cond.code yX6_isQuiet cX6_isQuiet 9 (some .boolean), Cond.methodLink RL 47 yX6_hush, Cond.instanceMethod yX6_hush, Cond.selects RX6 yX6_hush yX6_hush, Cond.code yX6_hush cX6_hush 5 (some .int)]
def hm_B8 : List Cond := [Cond.classLink RX6 161 RX2, Cond.instantiable RX2 3, Cond.methodLink RX6 163 yX2_init, Cond.instanceMethod yX2_init, Cond.code yX2_init cX2_init 4 none, Cond.methodLink RX2 3 objectInit, Cond.methodLink RL 50 yX6_burningIn, Cond.instanceMethod yX6_burningIn, Cond.selects RX6 yX6_burningIn yX6_burningIn, Cond.code yX6_burningIn cX6_burningIn 6 (some .int), Cond.methodLink RX6 177 yX6_requireTicks, Cond.static yX6_requireTicks, Cond.code yX6_requireTicks cX6_requireTicks 1 none, Cond.methodLink RX6 282 yX6_wouldBurn, Cond.instanceMethod yX6_wouldBurn, Cond.selects RX6 yX6_wouldBurn yX6_wouldBurn, Cond.code yX6_wouldBurn cX6_wouldBurn 6 (some .boolean), Cond.fieldLink RX6 233 "HarbourlightMonitor$Alert" "state" "I", Cond.methodLink RX6 229 yX4_alertOf, Cond.methodLink RX6 286 yX6_hasKey, Cond.instanceMethod yX6_hasKey, Cond.selects RX6 yX6_hasKey yX6_hasKey, Cond.code yX6_hasKey cX6_hasKey 4 (some .boolean), Cond.methodLink RX6 364 yX4_takes, Cond.instanceMethod yX4_takes, Cond.selects RX4 yX4_takes yX4_takes, Cond.code yX4_takes cX4_takes 3 (some .boolean), Cond.fieldLink RX4 40 "HarbourlightMonitor$Series" "metric" "I", Cond.fieldLink RX4 43 "HarbourlightMonitor$Series" "number" "I", Cond.fieldLink RX4 44 "HarbourlightMonitor$Series" "place" "I", Cond.methodLink RX6 381 yX0_become, Cond.instanceMethod yX0_become, Cond.selects RX0 yX0_become yX0_become, Cond.code yX0_become cX0_become 2 none, Cond.methodLink RX6 223 yX6_lookedAt, Cond.instanceMethod yX6_lookedAt, Cond.selects RX6 yX6_lookedAt yX6_lookedAt, Cond.code yX6_lookedAt cX6_lookedAt 7 (some .int), Cond.fieldLink RX6 368 "HarbourlightMonitor$Rule" "look" "I", Cond.fieldLink RX6 370 "HarbourlightMonitor$Rule" "w" "I"]
def hm_B9 : List Cond := [Cond.methodLink RX6 214 yX5_lookOver, Cond.instanceMethod yX5_lookOver, Cond.selects RX5 yX5_lookOver yX5_lookOver, Cond.code yX5_lookOver cX5_lookOver 4 (some .int), Cond.methodLink RX5 58 yX5_past, Cond.instanceMethod yX5_past, Cond.selects RX5 yX5_past yX5_past, Cond.code yX5_past cX5_past 5 (some .int), Cond.methodLink RX5 62 yX5_growthOf, Cond.instanceMethod yX5_growthOf, Cond.selects RX5 yX5_growthOf yX5_growthOf, Cond.code yX5_growthOf cX5_growthOf 8 (some .int), Cond.methodLink RX5 46 Lib.Math.min.name, Cond.methodLink RX5 65 yX5_meanOver, Cond.instanceMethod yX5_meanOver, Cond.selects RX5 yX5_meanOver yX5_meanOver, Cond.code yX5_meanOver cX5_meanOver 6 (some .int), Cond.methodLink RX5 68 yX5_utmostOver, Cond.instanceMethod yX5_utmostOver, Cond.selects RX5 yX5_utmostOver yX5_utmostOver, Cond.code yX5_utmostOver cX5_utmostOver 8 (some .int), Cond.methodLink RX5 78 Lib.Math.max.name, Cond.methodLink RX5 75 yX5_partOver, Cond.instanceMethod yX5_partOver, Cond.selects RX5 yX5_partOver yX5_partOver, Cond.code yX5_partOver cX5_partOver 10 (some .int), Cond.methodLink RX6 290 yX4_isBeyond, Cond.instanceMethod yX4_isBeyond, Cond.selects RX4 yX4_isBeyond yX4_isBeyond, Cond.code yX4_isBeyond cX4_isBeyond 3 (some .boolean), Cond.fieldLink RX4 47 "HarbourlightMonitor$Rule" "isAbove" "Z", Cond.methodLink RX6 377 yX0_step, Cond.instanceMethod yX0_step, Cond.selects RX0 yX0_step yX0_step, Cond.code yX0_step cX0_step 4 none, Cond.methodLink RX0 21 yX0_rise, Cond.instanceMethod yX0_rise, Cond.selects RX0 yX0_rise yX0_rise, Cond.code yX0_rise cX0_rise 3 none, Cond.methodLink RX0 25 yX0_fall]
def hm_B10 : List Cond := [Cond.instanceMethod yX0_fall, Cond.selects RX0 yX0_fall yX0_fall, Cond.code yX0_fall cX0_fall 1 none, Cond.methodLink RL 53 yX6_tick, Cond.instanceMethod yX6_tick, Cond.selects RX6 yX6_tick yX6_tick, Cond.code yX6_tick cX6_tick 5 (some .int), Cond.methodLink RX6 183 yX5_keepSample, Cond.instanceMethod yX5_keepSample, Cond.selects RX5 yX5_keepSample yX5_keepSample, Cond.code yX5_keepSample cX5_keepSample 1 none, Cond.methodLink RX5 52 arraycopyName, Cond.methodLink RX6 186 yX6_stepAlerts, Cond.instanceMethod yX6_stepAlerts, Cond.selects RX6 yX6_stepAlerts yX6_stepAlerts, Cond.code yX6_stepAlerts cX6_stepAlerts 4 none, Cond.methodLink RX6 190 yX6_sendNotices, Cond.instanceMethod yX6_sendNotices, Cond.selects RX6 yX6_sendNotices yX6_sendNotices, Cond.code yX6_sendNotices cX6_sendNotices 4 (some .int), Cond.fieldLink RX6 427 "HarbourlightMonitor$Group" "wasLoud" "Z", Cond.methodLink RX6 404 yX6_gatherLoud, Cond.instanceMethod yX6_gatherLoud, Cond.selects RX6 yX6_gatherLoud yX6_gatherLoud, Cond.code yX6_gatherLoud cX6_gatherLoud 5 none, Cond.methodLink RX6 430 yX1_clearLoud, Cond.instanceMethod yX1_clearLoud, Cond.selects RX1 yX1_clearLoud yX1_clearLoud, Cond.code yX1_clearLoud cX1_clearLoud 2 none, Cond.methodLink RX6 433 yX6_groupOf, Cond.instanceMethod yX6_groupOf, Cond.selects RX6 yX6_groupOf yX6_groupOf, Cond.code yX6_groupOf cX6_groupOf 4 (some .int), Cond.methodLink RX6 436 yX1_addLoud, Cond.instanceMethod yX1_addLoud, Cond.selects RX1 yX1_addLoud yX1_addLoud, Cond.code yX1_addLoud cX1_addLoud 3 none, Cond.methodLink RX6 407 yX1_isDue, Cond.instanceMethod yX1_isDue, Cond.selects RX1 yX1_isDue yX1_isDue]
def hm_B11 : List Cond := [Cond.code yX1_isDue cX1_isDue 4 (some .boolean), Cond.methodLink RX1 40 yX1_isLoud, Cond.instanceMethod yX1_isLoud, Cond.selects RX1 yX1_isLoud yX1_isLoud, Cond.code yX1_isLoud cX1_isLoud 1 (some .boolean), Cond.methodLink RX1 30 yX1_countLoudNow, Cond.instanceMethod yX1_countLoudNow, Cond.selects RX1 yX1_countLoudNow yX1_countLoudNow, Cond.code yX1_countLoudNow cX1_countLoudNow 3 (some .int), Cond.methodLink RX1 34 yJ6_bitCount_0f7a4, Cond.static yJ6_bitCount_0f7a4, Cond.initialized RJ6, Cond.code yJ6_bitCount_0f7a4 cJ6_bitCount_0f7a4 1 (some .int), Cond.constant RJ6 265 (1431655765), Cond.constant RJ6 266 (858993459), Cond.constant RJ6 267 (252645135), Cond.methodLink RX1 44 yX1_hasTold, Cond.instanceMethod yX1_hasTold, Cond.selects RX1 yX1_hasTold yX1_hasTold, Cond.code yX1_hasTold cX1_hasTold 2 (some .boolean), Cond.methodLink RX1 47 yX1_hasChanged, Cond.instanceMethod yX1_hasChanged, Cond.selects RX1 yX1_hasChanged yX1_hasChanged, Cond.code yX1_hasChanged cX1_hasChanged 2 (some .boolean), Cond.methodLink RX6 410 yX1_countLoudNow, Cond.methodLink RX6 413 yX6_greatestRank, Cond.instanceMethod yX6_greatestRank, Cond.selects RX6 yX6_greatestRank yX6_greatestRank, Cond.code yX6_greatestRank cX6_greatestRank 4 (some .int), Cond.methodLink RX6 443 Lib.Math.max.name, Cond.methodLink RX6 440 yX1_hasLoudOf, Cond.instanceMethod yX1_hasLoudOf, Cond.selects RX1 yX1_hasLoudOf yX1_hasLoudOf, Cond.code yX1_hasLoudOf cX1_hasLoudOf 2 (some .boolean), Cond.methodLink RX6 417 yX3_keep, Cond.instanceMethod yX3_keep, Cond.selects RX3 yX3_keep yX3_keep, Cond.code yX3_keep cX3_keep 6 none, Cond.methodLink RX3 26 Lib.Math.min.name, Cond.methodLink RX6 420 yX1_markTold]
def hm_B12 : List Cond := [Cond.instanceMethod yX1_markTold, Cond.selects RX1 yX1_markTold yX1_markTold, Cond.code yX1_markTold cX1_markTold 2 none, Cond.methodLink RX1 50 arraycopyName, Cond.methodLink RX6 423 yX1_isLoud, Cond.methodLink RL 56 yX6_digest, Cond.instanceMethod yX6_digest, Cond.selects RX6 yX6_digest yX6_digest, Cond.code yX6_digest cX6_digest 5 (some .long), Cond.constantLong RX6 294 (58073), Cond.methodLink RX6 296 yX6_clock, Cond.instanceMethod yX6_clock, Cond.selects RX6 yX6_clock yX6_clock, Cond.code yX6_clock cX6_clock 1 (some .int), Cond.methodLink RX6 299 yX6_mix, Cond.static yX6_mix, Cond.code yX6_mix cX6_mix 3 (some .long), Cond.constantLong RX6 325 (31), Cond.methodLink RX6 303 yX6_many, Cond.methodLink RX6 306 yX6_mixSeries, Cond.instanceMethod yX6_mixSeries, Cond.selects RX6 yX6_mixSeries yX6_mixSeries, Cond.code yX6_mixSeries cX6_mixSeries 7 (some .long), Cond.methodLink RX6 327 yX6_now, Cond.instanceMethod yX6_now, Cond.selects RX6 yX6_now yX6_now, Cond.code yX6_now cX6_now 4 (some .int), Cond.fieldLink RX6 205 "HarbourlightMonitor$Series" "held" "I", Cond.methodLink RX6 330 yX6_sample, Cond.instanceMethod yX6_sample, Cond.selects RX6 yX6_sample yX6_sample, Cond.code yX6_sample cX6_sample 4 (some .int), Cond.methodLink RX6 210 yX5_past, Cond.methodLink RX6 333 yX6_look, Cond.instanceMethod yX6_look, Cond.selects RX6 yX6_look yX6_look, Cond.code yX6_look cX6_look 5 (some .int), Cond.methodLink RX6 309 yX6_calm, Cond.instanceMethod yX6_calm, Cond.selects RX6 yX6_calm yX6_calm]
def hm_B13 : List Cond := [Cond.code yX6_calm cX6_calm 7 (some .int), Cond.methodLink RX6 312 yX6_beyond, Cond.instanceMethod yX6_beyond, Cond.selects RX6 yX6_beyond yX6_beyond, Cond.code yX6_beyond cX6_beyond 6 (some .int), Cond.methodLink RX6 315 yX6_mixAlert, Cond.instanceMethod yX6_mixAlert, Cond.selects RX6 yX6_mixAlert yX6_mixAlert, Cond.code yX6_mixAlert cX6_mixAlert 9 (some .long), Cond.methodLink RX6 336 yX6_alertAt, Cond.instanceMethod yX6_alertAt, Cond.selects RX6 yX6_alertAt yX6_alertAt, Cond.code yX6_alertAt cX6_alertAt 8 (some .int), Cond.methodLink RX6 242 yX4_keyOfAlert, Cond.instanceMethod yX4_keyOfAlert, Cond.selects RX4 yX4_keyOfAlert yX4_keyOfAlert, Cond.code yX4_keyOfAlert cX4_keyOfAlert 4 (some .int), Cond.methodLink RX6 339 yX6_alert, Cond.instanceMethod yX6_alert, Cond.selects RX6 yX6_alert yX6_alert, Cond.code yX6_alert cX6_alert 6 (some .int), Cond.fieldLink RX6 236 "HarbourlightMonitor$Alert" "since" "I", Cond.methodLink RX6 318 yX6_mixHush, Cond.instanceMethod yX6_mixHush, Cond.selects RX6 yX6_mixHush yX6_mixHush, Cond.code yX6_mixHush cX6_mixHush 7 (some .long), Cond.methodLink RX6 342 yX6_ofHush, Cond.instanceMethod yX6_ofHush, Cond.selects RX6 yX6_ofHush yX6_ofHush, Cond.code yX6_ofHush cX6_ofHush 4 (some .int), Cond.fieldLink RX6 260 "HarbourlightMonitor$Hush" "rule" "I", Cond.fieldLink RX6 263 "HarbourlightMonitor$Hush" "place" "I", Cond.fieldLink RX6 266 "HarbourlightMonitor$Hush" "till" "I", Cond.methodLink RX6 166 yX6_requireHush, Cond.instanceMethod yX6_requireHush, Cond.selects RX6 yX6_requireHush yX6_requireHush, Cond.code yX6_requireHush cX6_requireHush 2 (some (.object "HarbourlightMonitor$Hush")), Cond.methodLink RX6 269 yX6_countCovered, Cond.instanceMethod yX6_countCovered, Cond.selects RX6 yX6_countCovered yX6_countCovered]
def hm_B14 : List Cond := [Cond.code yX6_countCovered cX6_countCovered 6 (some .int), Cond.methodLink RX6 398 yX4_hasAlert, Cond.instanceMethod yX4_hasAlert, Cond.selects RX4 yX4_hasAlert yX4_hasAlert, Cond.code yX4_hasAlert cX4_hasAlert 3 (some .boolean), Cond.methodLink RX6 321 yX6_mixNotices, Cond.instanceMethod yX6_mixNotices, Cond.selects RX6 yX6_mixNotices yX6_mixNotices, Cond.code yX6_mixNotices cX6_mixNotices 7 (some .long), Cond.fieldLink RX6 275 "HarbourlightMonitor$NoticeLog" "held" "I", Cond.methodLink RX6 345 yX6_notice, Cond.instanceMethod yX6_notice, Cond.selects RX6 yX6_notice yX6_notice, Cond.code yX6_notice cX6_notice 3 (some .int), Cond.methodLink RX6 278 yX3_factOf, Cond.instanceMethod yX3_factOf, Cond.selects RX3 yX3_factOf yX3_factOf, Cond.code yX3_factOf cX3_factOf 3 (some .int), Cond.methodLink RL 60 yX6_alertAt, Cond.methodLink RL 63 yX6_alert, Cond.methodLink RL 66 yX6_clock, Cond.methodLink RL 70 yX6_look, Cond.methodLink RL 73 yX6_sample, Cond.methodLink RL 76 yX6_now, Cond.methodLink RL 84 yX6_ofHush, Cond.methodLink RL 87 yX6_loudWithout, Cond.instanceMethod yX6_loudWithout, Cond.selects RX6 yX6_loudWithout yX6_loudWithout, Cond.code yX6_loudWithout cX6_loudWithout 2 (some .int), Cond.methodLink RL 90 yX6_calm, Cond.methodLink RL 93 yX6_beyond, Cond.methodLink RL 96 yX6_notice, Cond.methodLink RL 99 yX6_dropRule, Cond.instanceMethod yX6_dropRule, Cond.selects RX6 yX6_dropRule yX6_dropRule, Cond.code yX6_dropRule cX6_dropRule 2 (some .int), Cond.methodLink RX6 148 yJx4a65c_remove_915e3, Cond.instanceMethod yJx4a65c_remove_915e3, Cond.selects RJx4a65c yJx4a65c_remove_915e3 yJx4a65c_remove_915e3, Cond.code yJx4a65c_remove_915e3 cJx4a65c_remove_915e3 4 (some (.object "java/lang/Object"))]
def hm_B15 : List Cond := [Cond.methodLink RJx4a65c 144 yJx4a65c_fastRemove_b59b0, Cond.instanceMethod yJx4a65c_fastRemove_b59b0, Cond.selects RJx4a65c yJx4a65c_fastRemove_b59b0 yJx4a65c_fastRemove_b59b0, Cond.code yJx4a65c_fastRemove_b59b0 cJx4a65c_fastRemove_b59b0 4 none, Cond.methodLink RJx4a65c 112 arraycopyName, Cond.methodLink RX6 152 yX6_dropHushesOf, Cond.instanceMethod yX6_dropHushesOf, Cond.selects RX6 yX6_dropHushesOf yX6_dropHushesOf, Cond.code yX6_dropHushesOf cX6_dropHushesOf 3 none]
def hm_BT : List Cond := wsX60 ++ (wsJx4a65c0 ++ (wsX10 ++ (wsX30 ++ (wsX00 ++ (wsX50 ++ (wsX40 ++ (wsX20)))))))
def hm_B : List Cond := hm_B0 ++ (hm_B1 ++ (hm_B2 ++ (hm_B3 ++ (hm_B4 ++ (hm_B5 ++ (hm_B6 ++ (hm_B7 ++ (hm_B8 ++ (hm_B9 ++ (hm_B10 ++ (hm_B11 ++ (hm_B12 ++ (hm_B13 ++ (hm_B14 ++ (hm_B15 ++ (hm_BT))))))))))))))))
set_option maxRecDepth 20000 in
theorem hm_Bg0 : hm_B0.all goodWord = true := by decide +kernel
set_option maxRecDepth 20000 in
theorem hm_Bi0 : ∀ w ∈ hm_B0, w ∈ hm_B := fun _ h => List.mem_append_left _ h
set_option maxRecDepth 20000 in
theorem hm_Bg1 : hm_B1.all goodWord = true := by decide +kernel
set_option maxRecDepth 20000 in
theorem hm_Bi1 : ∀ w ∈ hm_B1, w ∈ hm_B := fun _ h => List.mem_append_right _ (List.mem_append_left _ h)
set_option maxRecDepth 20000 in
theorem hm_Bg2 : hm_B2.all goodWord = true := by decide +kernel
set_option maxRecDepth 20000 in
theorem hm_Bi2 : ∀ w ∈ hm_B2, w ∈ hm_B := fun _ h => List.mem_append_right _ (List.mem_append_right _ (List.mem_append_left _ h))
set_option maxRecDepth 20000 in
theorem hm_Bg3 : hm_B3.all goodWord = true := by decide +kernel
set_option maxRecDepth 20000 in
theorem hm_Bi3 : ∀ w ∈ hm_B3, w ∈ hm_B := fun _ h => List.mem_append_right _ (List.mem_append_right _ (List.mem_append_right _ (List.mem_append_left _ h)))
set_option maxRecDepth 20000 in
theorem hm_Bg4 : hm_B4.all goodWord = true := by decide +kernel
set_option maxRecDepth 20000 in
theorem hm_Bi4 : ∀ w ∈ hm_B4, w ∈ hm_B := fun _ h => List.mem_append_right _ (List.mem_append_right _ (List.mem_append_right _ (List.mem_append_right _ (List.mem_append_left _ h))))
set_option maxRecDepth 20000 in
theorem hm_Bg5 : hm_B5.all goodWord = true := by decide +kernel
set_option maxRecDepth 20000 in
theorem hm_Bi5 : ∀ w ∈ hm_B5, w ∈ hm_B := fun _ h => List.mem_append_right _ (List.mem_append_right _ (List.mem_append_right _ (List.mem_append_right _ (List.mem_append_right _ (List.mem_append_left _ h)))))
set_option maxRecDepth 20000 in
theorem hm_Bg6 : hm_B6.all goodWord = true := by decide +kernel
set_option maxRecDepth 20000 in
theorem hm_Bi6 : ∀ w ∈ hm_B6, w ∈ hm_B := fun _ h => List.mem_append_right _ (List.mem_append_right _ (List.mem_append_right _ (List.mem_append_right _ (List.mem_append_right _ (List.mem_append_right _ (List.mem_append_left _ h))))))
set_option maxRecDepth 20000 in
theorem hm_Bg7 : hm_B7.all goodWord = true := by decide +kernel
set_option maxRecDepth 20000 in
theorem hm_Bi7 : ∀ w ∈ hm_B7, w ∈ hm_B := fun _ h => List.mem_append_right _ (List.mem_append_right _ (List.mem_append_right _ (List.mem_append_right _ (List.mem_append_right _ (List.mem_append_right _ (List.mem_append_right _ (List.mem_append_left _ h)))))))
set_option maxRecDepth 20000 in
theorem hm_Bg8 : hm_B8.all goodWord = true := by decide +kernel
set_option maxRecDepth 20000 in
theorem hm_Bi8 : ∀ w ∈ hm_B8, w ∈ hm_B := fun _ h => List.mem_append_right _ (List.mem_append_right _ (List.mem_append_right _ (List.mem_append_right _ (List.mem_append_right _ (List.mem_append_right _ (List.mem_append_right _ (List.mem_append_right _ (List.mem_append_left _ h))))))))
set_option maxRecDepth 20000 in
theorem hm_Bg9 : hm_B9.all goodWord = true := by decide +kernel
set_option maxRecDepth 20000 in
theorem hm_Bi9 : ∀ w ∈ hm_B9, w ∈ hm_B := fun _ h => List.mem_append_right _ (List.mem_append_right _ (List.mem_append_right _ (List.mem_append_right _ (List.mem_append_right _ (List.mem_append_right _ (List.mem_append_right _ (List.mem_append_right _ (List.mem_append_right _ (List.mem_append_left _ h)))))))))
set_option maxRecDepth 20000 in
theorem hm_Bg10 : hm_B10.all goodWord = true := by decide +kernel
set_option maxRecDepth 20000 in
theorem hm_Bi10 : ∀ w ∈ hm_B10, w ∈ hm_B := fun _ h => List.mem_append_right _ (List.mem_append_right _ (List.mem_append_right _ (List.mem_append_right _ (List.mem_append_right _ (List.mem_append_right _ (List.mem_append_right _ (List.mem_append_right _ (List.mem_append_right _ (List.mem_append_right _ (List.mem_append_left _ h))))))))))
set_option maxRecDepth 20000 in
theorem hm_Bg11 : hm_B11.all goodWord = true := by decide +kernel
set_option maxRecDepth 20000 in
theorem hm_Bi11 : ∀ w ∈ hm_B11, w ∈ hm_B := fun _ h => List.mem_append_right _ (List.mem_append_right _ (List.mem_append_right _ (List.mem_append_right _ (List.mem_append_right _ (List.mem_append_right _ (List.mem_append_right _ (List.mem_append_right _ (List.mem_append_right _ (List.mem_append_right _ (List.mem_append_right _ (List.mem_append_left _ h)))))))))))
set_option maxRecDepth 20000 in
theorem hm_Bg12 : hm_B12.all goodWord = true := by decide +kernel
set_option maxRecDepth 20000 in
theorem hm_Bi12 : ∀ w ∈ hm_B12, w ∈ hm_B := fun _ h => List.mem_append_right _ (List.mem_append_right _ (List.mem_append_right _ (List.mem_append_right _ (List.mem_append_right _ (List.mem_append_right _ (List.mem_append_right _ (List.mem_append_right _ (List.mem_append_right _ (List.mem_append_right _ (List.mem_append_right _ (List.mem_append_right _ (List.mem_append_left _ h))))))))))))
set_option maxRecDepth 20000 in
theorem hm_Bg13 : hm_B13.all goodWord = true := by decide +kernel
set_option maxRecDepth 20000 in
theorem hm_Bi13 : ∀ w ∈ hm_B13, w ∈ hm_B := fun _ h => List.mem_append_right _ (List.mem_append_right _ (List.mem_append_right _ (List.mem_append_right _ (List.mem_append_right _ (List.mem_append_right _ (List.mem_append_right _ (List.mem_append_right _ (List.mem_append_right _ (List.mem_append_right _ (List.mem_append_right _ (List.mem_append_right _ (List.mem_append_right _ (List.mem_append_left _ h)))))))))))))
set_option maxRecDepth 20000 in
theorem hm_Bg14 : hm_B14.all goodWord = true := by decide +kernel
set_option maxRecDepth 20000 in
theorem hm_Bi14 : ∀ w ∈ hm_B14, w ∈ hm_B := fun _ h => List.mem_append_right _ (List.mem_append_right _ (List.mem_append_right _ (List.mem_append_right _ (List.mem_append_right _ (List.mem_append_right _ (List.mem_append_right _ (List.mem_append_right _ (List.mem_append_right _ (List.mem_append_right _ (List.mem_append_right _ (List.mem_append_right _ (List.mem_append_right _ (List.mem_append_right _ (List.mem_append_left _ h))))))))))))))
set_option maxRecDepth 20000 in
theorem hm_Bg15 : hm_B15.all goodWord = true := by decide +kernel
set_option maxRecDepth 20000 in
theorem hm_Bi15 : ∀ w ∈ hm_B15, w ∈ hm_B := fun _ h => List.mem_append_right _ (List.mem_append_right _ (List.mem_append_right _ (List.mem_append_right _ (List.mem_append_right _ (List.mem_append_right _ (List.mem_append_right _ (List.mem_append_right _ (List.mem_append_right _ (List.mem_append_right _ (List.mem_append_right _ (List.mem_append_right _ (List.mem_append_right _ (List.mem_append_right _ (List.mem_append_right _ (List.mem_append_left _ h)))))))))))))))
theorem hm_BgT : hm_BT.all goodWord = true := by decide +kernel
theorem hm_BiT : ∀ w ∈ hm_BT, w ∈ hm_B := fun _ h => List.mem_append_right _ (List.mem_append_right _ (List.mem_append_right _ (List.mem_append_right _ (List.mem_append_right _ (List.mem_append_right _ (List.mem_append_right _ (List.mem_append_right _ (List.mem_append_right _ (List.mem_append_right _ (List.mem_append_right _ (List.mem_append_right _ (List.mem_append_right _ (List.mem_append_right _ (List.mem_append_right _ (List.mem_append_right _ h)))))))))))))))
theorem hm_allapp {a b : List Cond} (h1 : a.all goodWord = true) (h2 : b.all goodWord = true) : (a ++ b).all goodWord = true := by rw [List.all_append, h1, h2]; rfl
theorem hm_Bgood : hm_B.all goodWord = true := hm_allapp hm_Bg0 (hm_allapp hm_Bg1 (hm_allapp hm_Bg2 (hm_allapp hm_Bg3 (hm_allapp hm_Bg4 (hm_allapp hm_Bg5 (hm_allapp hm_Bg6 (hm_allapp hm_Bg7 (hm_allapp hm_Bg8 (hm_allapp hm_Bg9 (hm_allapp hm_Bg10 (hm_allapp hm_Bg11 (hm_allapp hm_Bg12 (hm_allapp hm_Bg13 (hm_allapp hm_Bg14 (hm_allapp hm_Bg15 (hm_BgT))))))))))))))))
theorem hb_0 : Cond.classLink RL 9 RX6 ∈ hm_B := hm_Bi0 _ (List.mem_of_getElem? (i := 0) rfl)
theorem hb_1 : Cond.instantiable RX6 9 ∈ hm_B := hm_Bi0 _ (List.mem_of_getElem? (i := 1) rfl)
theorem hb_2 : Cond.initialized RX6 ∈ hm_B := hm_Bi0 _ (List.mem_of_getElem? (i := 2) rfl)
theorem hb_3 : Cond.methodLink RL 79 Lib.Math.min.name ∈ hm_B := hm_Bi0 _ (List.mem_of_getElem? (i := 3) rfl)
theorem hb_4 : Cond.static Lib.Math.min.name ∈ hm_B := hm_Bi0 _ (List.mem_of_getElem? (i := 4) rfl)
theorem hb_5 : Cond.initialized "java/lang/Math" ∈ hm_B := hm_Bi0 _ (List.mem_of_getElem? (i := 5) rfl)
theorem hb_6 : Cond.code Lib.Math.min.name Lib.Math.min.code 2 (some .int) ∈ hm_B := hm_Bi0 _ (List.mem_of_getElem? (i := 6) rfl)
theorem hb_7 : Cond.methodLink RL 11 yX6_init ∈ hm_B := hm_Bi0 _ (List.mem_of_getElem? (i := 7) rfl)
theorem hb_8 : Cond.instanceMethod yX6_init ∈ hm_B := hm_Bi0 _ (List.mem_of_getElem? (i := 8) rfl)
theorem hb_9 : Cond.code yX6_init cX6_init 2 none ∈ hm_B := hm_Bi0 _ (List.mem_of_getElem? (i := 9) rfl)
theorem hb_10 : Cond.methodLink RX6 1 objectInit ∈ hm_B := hm_Bi0 _ (List.mem_of_getElem? (i := 10) rfl)
theorem hb_11 : Cond.instanceMethod objectInit ∈ hm_B := hm_Bi0 _ (List.mem_of_getElem? (i := 11) rfl)
theorem hb_12 : Cond.code objectInit ⟨#[0xb1]⟩ 1 none ∈ hm_B := hm_Bi0 _ (List.mem_of_getElem? (i := 12) rfl)
theorem hb_13 : Cond.classLink RX6 7 RJx4a65c ∈ hm_B := hm_Bi0 _ (List.mem_of_getElem? (i := 13) rfl)
theorem hb_14 : Cond.instantiable RJx4a65c 3 ∈ hm_B := hm_Bi0 _ (List.mem_of_getElem? (i := 14) rfl)
theorem hb_15 : Cond.initialized RJx4a65c ∈ hm_B := hm_Bi0 _ (List.mem_of_getElem? (i := 15) rfl)
theorem hb_16 : Cond.fieldLink RX6 10 "HarbourlightMonitor" "seriesList" "Ljava/util/ArrayList;" ∈ hm_B := hm_Bi0 _ (List.mem_of_getElem? (i := 16) rfl)
theorem hb_17 : Cond.fieldLink RX6 16 "HarbourlightMonitor" "ruleList" "Ljava/util/ArrayList;" ∈ hm_B := hm_Bi0 _ (List.mem_of_getElem? (i := 17) rfl)
theorem hb_18 : Cond.fieldLink RX6 19 "HarbourlightMonitor" "hushList" "Ljava/util/ArrayList;" ∈ hm_B := hm_Bi0 _ (List.mem_of_getElem? (i := 18) rfl)
theorem hb_19 : Cond.classLink RX6 22 RX1 ∈ hm_B := hm_Bi0 _ (List.mem_of_getElem? (i := 19) rfl)
theorem hb_20 : Cond.fieldLink RX6 24 "HarbourlightMonitor" "groups" "[LHarbourlightMonitor$Group;" ∈ hm_B := hm_Bi0 _ (List.mem_of_getElem? (i := 20) rfl)
theorem hb_21 : Cond.instantiable RX1 4 ∈ hm_B := hm_Bi0 _ (List.mem_of_getElem? (i := 21) rfl)
theorem hb_22 : Cond.initialized RX1 ∈ hm_B := hm_Bi0 _ (List.mem_of_getElem? (i := 22) rfl)
theorem hb_23 : Cond.classLink RX6 29 RX3 ∈ hm_B := hm_Bi0 _ (List.mem_of_getElem? (i := 23) rfl)
theorem hb_24 : Cond.instantiable RX3 4 ∈ hm_B := hm_Bi0 _ (List.mem_of_getElem? (i := 24) rfl)
theorem hb_25 : Cond.initialized RX3 ∈ hm_B := hm_Bi0 _ (List.mem_of_getElem? (i := 25) rfl)
theorem hb_26 : Cond.fieldLink RX6 32 "HarbourlightMonitor" "log" "LHarbourlightMonitor$NoticeLog;" ∈ hm_B := hm_Bi0 _ (List.mem_of_getElem? (i := 26) rfl)
theorem hb_27 : Cond.classLink RX6 36 RX0 ∈ hm_B := hm_Bi0 _ (List.mem_of_getElem? (i := 27) rfl)
theorem hb_28 : Cond.instantiable RX0 3 ∈ hm_B := hm_Bi0 _ (List.mem_of_getElem? (i := 28) rfl)
theorem hb_29 : Cond.initialized RX0 ∈ hm_B := hm_Bi0 _ (List.mem_of_getElem? (i := 29) rfl)
theorem hb_30 : Cond.fieldLink RX6 39 "HarbourlightMonitor" "rehearsed" "LHarbourlightMonitor$Alert;" ∈ hm_B := hm_Bi0 _ (List.mem_of_getElem? (i := 30) rfl)
theorem hb_31 : Cond.fieldLink RX6 43 "HarbourlightMonitor" "clockNow" "I" ∈ hm_B := hm_Bi0 _ (List.mem_of_getElem? (i := 31) rfl)
theorem hb_32 : Cond.fieldLink RX6 47 "HarbourlightMonitor" "grouping" "I" ∈ hm_B := hm_Bi0 _ (List.mem_of_getElem? (i := 32) rfl)
theorem hb_33 : Cond.fieldLink RX6 50 "HarbourlightMonitor" "repeat" "I" ∈ hm_B := hm_Bi0 _ (List.mem_of_getElem? (i := 33) rfl)
theorem hb_34 : Cond.methodLink RX6 9 yJx4a65c_init_da8c8 ∈ hm_B := hm_Bi0 _ (List.mem_of_getElem? (i := 34) rfl)
theorem hb_35 : Cond.instanceMethod yJx4a65c_init_da8c8 ∈ hm_B := hm_Bi0 _ (List.mem_of_getElem? (i := 35) rfl)
theorem hb_36 : Cond.code yJx4a65c_init_da8c8 cJx4a65c_init_da8c8 1 none ∈ hm_B := hm_Bi0 _ (List.mem_of_getElem? (i := 36) rfl)
theorem hb_37 : Cond.fieldLink RJx4a65c 39 "java/util/ArrayList" "DEFAULTCAPACITY_EMPTY_ELEMENTDATA" "[Ljava/lang/Object;" ∈ hm_B := hm_Bi0 _ (List.mem_of_getElem? (i := 37) rfl)
theorem hb_38 : Cond.fieldLink RJx4a65c 9 "java/util/ArrayList" "elementData" "[Ljava/lang/Object;" ∈ hm_B := hm_Bi0 _ (List.mem_of_getElem? (i := 38) rfl)
theorem hb_39 : Cond.methodLink RJx4a65c 1 yJxc12de_init_da8c8 ∈ hm_B := hm_Bi0 _ (List.mem_of_getElem? (i := 39) rfl)
theorem hb_40 : Cond.instanceMethod yJxc12de_init_da8c8 ∈ hm_B := hm_Bi1 _ (List.mem_of_getElem? (i := 0) rfl)
theorem hb_41 : Cond.initialized RJxc12de ∈ hm_B := hm_Bi1 _ (List.mem_of_getElem? (i := 1) rfl)
theorem hb_42 : Cond.code yJxc12de_init_da8c8 cJxc12de_init_da8c8 1 none ∈ hm_B := hm_Bi1 _ (List.mem_of_getElem? (i := 2) rfl)
theorem hb_43 : Cond.fieldLink RJxc12de 7 "java/util/AbstractList" "modCount" "I" ∈ hm_B := hm_Bi1 _ (List.mem_of_getElem? (i := 3) rfl)
theorem hb_44 : Cond.methodLink RJxc12de 1 yJxa1e45_init_da8c8 ∈ hm_B := hm_Bi1 _ (List.mem_of_getElem? (i := 4) rfl)
theorem hb_45 : Cond.instanceMethod yJxa1e45_init_da8c8 ∈ hm_B := hm_Bi1 _ (List.mem_of_getElem? (i := 5) rfl)
theorem hb_46 : Cond.initialized RJxa1e45 ∈ hm_B := hm_Bi1 _ (List.mem_of_getElem? (i := 6) rfl)
theorem hb_47 : Cond.code yJxa1e45_init_da8c8 cJxa1e45_init_da8c8 1 none ∈ hm_B := hm_Bi1 _ (List.mem_of_getElem? (i := 7) rfl)
theorem hb_48 : Cond.methodLink RJxa1e45 1 objectInit ∈ hm_B := hm_Bi1 _ (List.mem_of_getElem? (i := 8) rfl)
theorem hb_49 : Cond.instanceMethod yX1_init ∈ hm_B := hm_Bi1 _ (List.mem_of_getElem? (i := 9) rfl)
theorem hb_50 : Cond.code yX1_init cX1_init 1 none ∈ hm_B := hm_Bi1 _ (List.mem_of_getElem? (i := 10) rfl)
theorem hb_51 : Cond.methodLink RX1 3 objectInit ∈ hm_B := hm_Bi1 _ (List.mem_of_getElem? (i := 11) rfl)
theorem hb_52 : Cond.arrayClass .int ∈ hm_B := hm_Bi1 _ (List.mem_of_getElem? (i := 12) rfl)
theorem hb_53 : Cond.fieldLink RX1 9 "HarbourlightMonitor$Group" "loud" "[I" ∈ hm_B := hm_Bi1 _ (List.mem_of_getElem? (i := 13) rfl)
theorem hb_54 : Cond.fieldLink RX1 15 "HarbourlightMonitor$Group" "told" "[I" ∈ hm_B := hm_Bi1 _ (List.mem_of_getElem? (i := 14) rfl)
theorem hb_55 : Cond.fieldLink RX1 18 "HarbourlightMonitor$Group" "toldAt" "I" ∈ hm_B := hm_Bi1 _ (List.mem_of_getElem? (i := 15) rfl)
theorem hb_56 : Cond.fieldLink RX1 22 "HarbourlightMonitor$Group" "wasLoud" "Z" ∈ hm_B := hm_Bi1 _ (List.mem_of_getElem? (i := 16) rfl)
theorem hb_57 : Cond.instanceMethod yX3_init ∈ hm_B := hm_Bi1 _ (List.mem_of_getElem? (i := 17) rfl)
theorem hb_58 : Cond.code yX3_init cX3_init 1 none ∈ hm_B := hm_Bi1 _ (List.mem_of_getElem? (i := 18) rfl)
theorem hb_59 : Cond.methodLink RX3 3 objectInit ∈ hm_B := hm_Bi1 _ (List.mem_of_getElem? (i := 19) rfl)
theorem hb_60 : Cond.classLink RX3 9 "[[I" ∈ hm_B := hm_Bi1 _ (List.mem_of_getElem? (i := 20) rfl)
theorem hb_61 : Cond.fieldLink RX3 11 "HarbourlightMonitor$NoticeLog" "kept" "[[I" ∈ hm_B := hm_Bi1 _ (List.mem_of_getElem? (i := 21) rfl)
theorem hb_62 : Cond.fieldLink RX3 16 "HarbourlightMonitor$NoticeLog" "latest" "I" ∈ hm_B := hm_Bi1 _ (List.mem_of_getElem? (i := 22) rfl)
theorem hb_63 : Cond.fieldLink RX3 20 "HarbourlightMonitor$NoticeLog" "held" "I" ∈ hm_B := hm_Bi1 _ (List.mem_of_getElem? (i := 23) rfl)
theorem hb_64 : Cond.fieldLink RX3 23 "HarbourlightMonitor$NoticeLog" "ever" "I" ∈ hm_B := hm_Bi1 _ (List.mem_of_getElem? (i := 24) rfl)
theorem hb_65 : Cond.instanceMethod yX0_init ∈ hm_B := hm_Bi1 _ (List.mem_of_getElem? (i := 25) rfl)
theorem hb_66 : Cond.code yX0_init cX0_init 1 none ∈ hm_B := hm_Bi1 _ (List.mem_of_getElem? (i := 26) rfl)
theorem hb_67 : Cond.methodLink RX0 3 objectInit ∈ hm_B := hm_Bi1 _ (List.mem_of_getElem? (i := 27) rfl)
theorem hb_68 : Cond.fieldLink RX0 9 "HarbourlightMonitor$Alert" "state" "I" ∈ hm_B := hm_Bi1 _ (List.mem_of_getElem? (i := 28) rfl)
theorem hb_69 : Cond.fieldLink RX0 15 "HarbourlightMonitor$Alert" "since" "I" ∈ hm_B := hm_Bi1 _ (List.mem_of_getElem? (i := 29) rfl)
theorem hb_70 : Cond.fieldLink RX0 18 "HarbourlightMonitor$Alert" "ticksNotBeyond" "I" ∈ hm_B := hm_Bi1 _ (List.mem_of_getElem? (i := 30) rfl)
theorem hb_71 : Cond.methodLink RL 12 yL_cell ∈ hm_B := hm_Bi1 _ (List.mem_of_getElem? (i := 31) rfl)
theorem hb_72 : Cond.static yL_cell ∈ hm_B := hm_Bi1 _ (List.mem_of_getElem? (i := 32) rfl)
theorem hb_73 : Cond.initialized RL ∈ hm_B := hm_Bi1 _ (List.mem_of_getElem? (i := 33) rfl)
theorem hb_74 : Cond.code yL_cell cL_cell 2 (some .int) ∈ hm_B := hm_Bi1 _ (List.mem_of_getElem? (i := 34) rfl)
theorem hb_75 : Cond.constant RL 8 (790386105) ∈ hm_B := hm_Bi1 _ (List.mem_of_getElem? (i := 35) rfl)
theorem hb_76 : Cond.methodLink RL 18 yL_below ∈ hm_B := hm_Bi1 _ (List.mem_of_getElem? (i := 36) rfl)
theorem hb_77 : Cond.static yL_below ∈ hm_B := hm_Bi1 _ (List.mem_of_getElem? (i := 37) rfl)
theorem hb_78 : Cond.code yL_below cL_below 2 (some .int) ∈ hm_B := hm_Bi1 _ (List.mem_of_getElem? (i := 38) rfl)
theorem hb_79 : Cond.constant RL 7 (2147483647) ∈ hm_B := hm_Bi1 _ (List.mem_of_getElem? (i := 39) rfl)
theorem hb_80 : Cond.methodLink RL 22 yX6_series ∈ hm_B := hm_Bi2 _ (List.mem_of_getElem? (i := 0) rfl)
theorem hb_81 : Cond.instanceMethod yX6_series ∈ hm_B := hm_Bi2 _ (List.mem_of_getElem? (i := 1) rfl)
theorem hb_82 : Cond.selects RX6 yX6_series yX6_series ∈ hm_B := hm_Bi2 _ (List.mem_of_getElem? (i := 2) rfl)
theorem hb_83 : Cond.code yX6_series cX6_series 5 (some .int) ∈ hm_B := hm_Bi2 _ (List.mem_of_getElem? (i := 3) rfl)
theorem hb_84 : Cond.classLink RX6 57 "java/lang/IllegalArgumentException" ∈ hm_B := hm_Bi2 _ (List.mem_of_getElem? (i := 4) rfl)
theorem hb_85 : Cond.initialized "java/lang/IllegalArgumentException" ∈ hm_B := hm_Bi2 _ (List.mem_of_getElem? (i := 5) rfl)
theorem hb_86 : Cond.classLink RX6 74 "java/lang/IllegalStateException" ∈ hm_B := hm_Bi2 _ (List.mem_of_getElem? (i := 6) rfl)
theorem hb_87 : Cond.initialized "java/lang/IllegalStateException" ∈ hm_B := hm_Bi2 _ (List.mem_of_getElem? (i := 7) rfl)
theorem hb_88 : Cond.classLink RX6 79 RX5 ∈ hm_B := hm_Bi2 _ (List.mem_of_getElem? (i := 8) rfl)
theorem hb_89 : Cond.instantiable RX5 8 ∈ hm_B := hm_Bi2 _ (List.mem_of_getElem? (i := 9) rfl)
theorem hb_90 : Cond.initialized RX5 ∈ hm_B := hm_Bi2 _ (List.mem_of_getElem? (i := 10) rfl)
theorem hb_91 : Cond.methodLink RX6 53 yX6_isOutside ∈ hm_B := hm_Bi2 _ (List.mem_of_getElem? (i := 11) rfl)
theorem hb_92 : Cond.static yX6_isOutside ∈ hm_B := hm_Bi2 _ (List.mem_of_getElem? (i := 12) rfl)
theorem hb_93 : Cond.code yX6_isOutside cX6_isOutside 3 (some .boolean) ∈ hm_B := hm_Bi2 _ (List.mem_of_getElem? (i := 13) rfl)
theorem hb_94 : Cond.methodLink RX6 64 yX6_requireMetric ∈ hm_B := hm_Bi2 _ (List.mem_of_getElem? (i := 14) rfl)
theorem hb_95 : Cond.static yX6_requireMetric ∈ hm_B := hm_Bi2 _ (List.mem_of_getElem? (i := 15) rfl)
theorem hb_96 : Cond.code yX6_requireMetric cX6_requireMetric 1 none ∈ hm_B := hm_Bi2 _ (List.mem_of_getElem? (i := 16) rfl)
theorem hb_97 : Cond.methodLink RX6 70 yJx4a65c_size_8abf5 ∈ hm_B := hm_Bi2 _ (List.mem_of_getElem? (i := 17) rfl)
theorem hb_98 : Cond.instanceMethod yJx4a65c_size_8abf5 ∈ hm_B := hm_Bi2 _ (List.mem_of_getElem? (i := 18) rfl)
theorem hb_99 : Cond.selects RJx4a65c yJx4a65c_size_8abf5 yJx4a65c_size_8abf5 ∈ hm_B := hm_Bi2 _ (List.mem_of_getElem? (i := 19) rfl)
theorem hb_100 : Cond.code yJx4a65c_size_8abf5 cJx4a65c_size_8abf5 1 (some .int) ∈ hm_B := hm_Bi2 _ (List.mem_of_getElem? (i := 20) rfl)
theorem hb_101 : Cond.fieldLink RJx4a65c 48 "java/util/ArrayList" "size" "I" ∈ hm_B := hm_Bi2 _ (List.mem_of_getElem? (i := 21) rfl)
theorem hb_102 : Cond.methodLink RX6 81 yX5_init ∈ hm_B := hm_Bi2 _ (List.mem_of_getElem? (i := 22) rfl)
theorem hb_103 : Cond.instanceMethod yX5_init ∈ hm_B := hm_Bi2 _ (List.mem_of_getElem? (i := 23) rfl)
theorem hb_104 : Cond.code yX5_init cX5_init 5 none ∈ hm_B := hm_Bi2 _ (List.mem_of_getElem? (i := 24) rfl)
theorem hb_105 : Cond.methodLink RX5 3 objectInit ∈ hm_B := hm_Bi2 _ (List.mem_of_getElem? (i := 25) rfl)
theorem hb_106 : Cond.fieldLink RX5 9 "HarbourlightMonitor$Series" "present" "[I" ∈ hm_B := hm_Bi2 _ (List.mem_of_getElem? (i := 26) rfl)
theorem hb_107 : Cond.classLink RX5 15 "[[I" ∈ hm_B := hm_Bi2 _ (List.mem_of_getElem? (i := 27) rfl)
theorem hb_108 : Cond.fieldLink RX5 17 "HarbourlightMonitor$Series" "samples" "[[I" ∈ hm_B := hm_Bi2 _ (List.mem_of_getElem? (i := 28) rfl)
theorem hb_109 : Cond.fieldLink RX5 20 "HarbourlightMonitor$Series" "latest" "I" ∈ hm_B := hm_Bi2 _ (List.mem_of_getElem? (i := 29) rfl)
theorem hb_110 : Cond.fieldLink RX5 24 "HarbourlightMonitor$Series" "held" "I" ∈ hm_B := hm_Bi2 _ (List.mem_of_getElem? (i := 30) rfl)
theorem hb_111 : Cond.fieldLink RX5 27 "HarbourlightMonitor$Series" "number" "I" ∈ hm_B := hm_Bi2 _ (List.mem_of_getElem? (i := 31) rfl)
theorem hb_112 : Cond.fieldLink RX5 30 "HarbourlightMonitor$Series" "kind" "I" ∈ hm_B := hm_Bi2 _ (List.mem_of_getElem? (i := 32) rfl)
theorem hb_113 : Cond.fieldLink RX5 33 "HarbourlightMonitor$Series" "metric" "I" ∈ hm_B := hm_Bi2 _ (List.mem_of_getElem? (i := 33) rfl)
theorem hb_114 : Cond.fieldLink RX5 36 "HarbourlightMonitor$Series" "place" "I" ∈ hm_B := hm_Bi2 _ (List.mem_of_getElem? (i := 34) rfl)
theorem hb_115 : Cond.methodLink RX6 84 yJx4a65c_add_9ea2d ∈ hm_B := hm_Bi2 _ (List.mem_of_getElem? (i := 35) rfl)
theorem hb_116 : Cond.instanceMethod yJx4a65c_add_9ea2d ∈ hm_B := hm_Bi2 _ (List.mem_of_getElem? (i := 36) rfl)
theorem hb_117 : Cond.selects RJx4a65c yJx4a65c_add_9ea2d yJx4a65c_add_9ea2d ∈ hm_B := hm_Bi2 _ (List.mem_of_getElem? (i := 37) rfl)
theorem hb_118 : Cond.code yJx4a65c_add_9ea2d cJx4a65c_add_9ea2d 2 (some .boolean) ∈ hm_B := hm_Bi2 _ (List.mem_of_getElem? (i := 38) rfl)
theorem hb_119 : Cond.fieldLink RJx4a65c 63 "java/util/ArrayList" "modCount" "I" ∈ hm_B := hm_Bi2 _ (List.mem_of_getElem? (i := 39) rfl)
theorem hb_120 : Cond.sameField "java/util/ArrayList" "java/util/AbstractList" "modCount" "I" ∈ hm_B := hm_Bi3 _ (List.mem_of_getElem? (i := 0) rfl)
theorem hb_121 : Cond.methodLink RJx4a65c 131 yJx4a65c_add_72be8 ∈ hm_B := hm_Bi3 _ (List.mem_of_getElem? (i := 1) rfl)
theorem hb_122 : Cond.instanceMethod yJx4a65c_add_72be8 ∈ hm_B := hm_Bi3 _ (List.mem_of_getElem? (i := 2) rfl)
theorem hb_123 : Cond.selects RJx4a65c yJx4a65c_add_72be8 yJx4a65c_add_72be8 ∈ hm_B := hm_Bi3 _ (List.mem_of_getElem? (i := 3) rfl)
theorem hb_124 : Cond.code yJx4a65c_add_72be8 cJx4a65c_add_72be8 4 none ∈ hm_B := hm_Bi3 _ (List.mem_of_getElem? (i := 4) rfl)
theorem hb_125 : Cond.methodLink RJx4a65c 129 yJx4a65c_grow_d5877 ∈ hm_B := hm_Bi3 _ (List.mem_of_getElem? (i := 5) rfl)
theorem hb_126 : Cond.instanceMethod yJx4a65c_grow_d5877 ∈ hm_B := hm_Bi3 _ (List.mem_of_getElem? (i := 6) rfl)
theorem hb_127 : Cond.selects RJx4a65c yJx4a65c_grow_d5877 yJx4a65c_grow_d5877 ∈ hm_B := hm_Bi3 _ (List.mem_of_getElem? (i := 7) rfl)
theorem hb_128 : Cond.code yJx4a65c_grow_d5877 cJx4a65c_grow_d5877 1 (some (.array (.object "java/lang/Object"))) ∈ hm_B := hm_Bi3 _ (List.mem_of_getElem? (i := 8) rfl)
theorem hb_129 : Cond.methodLink RJx4a65c 69 yJx4a65c_grow_92f84 ∈ hm_B := hm_Bi3 _ (List.mem_of_getElem? (i := 9) rfl)
theorem hb_130 : Cond.instanceMethod yJx4a65c_grow_92f84 ∈ hm_B := hm_Bi3 _ (List.mem_of_getElem? (i := 10) rfl)
theorem hb_131 : Cond.selects RJx4a65c yJx4a65c_grow_92f84 yJx4a65c_grow_92f84 ∈ hm_B := hm_Bi3 _ (List.mem_of_getElem? (i := 11) rfl)
theorem hb_132 : Cond.code yJx4a65c_grow_92f84 cJx4a65c_grow_92f84 4 (some (.array (.object "java/lang/Object"))) ∈ hm_B := hm_Bi3 _ (List.mem_of_getElem? (i := 12) rfl)
theorem hb_133 : Cond.methodLink RJx4a65c 79 Lib.Math.max.name ∈ hm_B := hm_Bi3 _ (List.mem_of_getElem? (i := 13) rfl)
theorem hb_134 : Cond.static Lib.Math.max.name ∈ hm_B := hm_Bi3 _ (List.mem_of_getElem? (i := 14) rfl)
theorem hb_135 : Cond.code Lib.Math.max.name Lib.Math.max.code 2 (some .int) ∈ hm_B := hm_Bi3 _ (List.mem_of_getElem? (i := 15) rfl)
theorem hb_136 : Cond.classLink RJx4a65c 7 "java/lang/Object" ∈ hm_B := hm_Bi3 _ (List.mem_of_getElem? (i := 16) rfl)
theorem hb_137 : Cond.methodLink RJx4a65c 73 yJ8_newLength_cabcc ∈ hm_B := hm_Bi3 _ (List.mem_of_getElem? (i := 17) rfl)
theorem hb_138 : Cond.static yJ8_newLength_cabcc ∈ hm_B := hm_Bi3 _ (List.mem_of_getElem? (i := 18) rfl)
theorem hb_139 : Cond.initialized RJ8 ∈ hm_B := hm_Bi3 _ (List.mem_of_getElem? (i := 19) rfl)
theorem hb_140 : Cond.code yJ8_newLength_cabcc cJ8_newLength_cabcc 4 (some .int) ∈ hm_B := hm_Bi3 _ (List.mem_of_getElem? (i := 20) rfl)
theorem hb_141 : Cond.methodLink RJ8 194 Lib.Math.max.name ∈ hm_B := hm_Bi3 _ (List.mem_of_getElem? (i := 21) rfl)
theorem hb_142 : Cond.constant RJ8 200 (2147483639) ∈ hm_B := hm_Bi3 _ (List.mem_of_getElem? (i := 22) rfl)
theorem hb_143 : Cond.methodLink RJ8 201 yJ8_hugeLength_7cf53 ∈ hm_B := hm_Bi3 _ (List.mem_of_getElem? (i := 23) rfl)
theorem hb_144 : Cond.static yJ8_hugeLength_7cf53 ∈ hm_B := hm_Bi3 _ (List.mem_of_getElem? (i := 24) rfl)
theorem hb_145 : Cond.code yJ8_hugeLength_7cf53 cJ8_hugeLength_7cf53 3 (some .int) ∈ hm_B := hm_Bi3 _ (List.mem_of_getElem? (i := 25) rfl)
theorem hb_146 : Cond.methodLink RJx4a65c 66 yJ7_copyOf_1904c ∈ hm_B := hm_Bi3 _ (List.mem_of_getElem? (i := 26) rfl)
theorem hb_147 : Cond.static yJ7_copyOf_1904c ∈ hm_B := hm_Bi3 _ (List.mem_of_getElem? (i := 27) rfl)
theorem hb_148 : Cond.initialized RJ7 ∈ hm_B := hm_Bi3 _ (List.mem_of_getElem? (i := 28) rfl)
theorem hb_149 : Cond.code yJ7_copyOf_1904c cJ7_copyOf_1904c 2 (some (.array (.object "java/lang/Object"))) ∈ hm_B := hm_Bi3 _ (List.mem_of_getElem? (i := 29) rfl)
theorem hb_150 : Cond.methodLink RJ7 86 ⟨"java/lang/Object", "getClass", "()Ljava/lang/Class;"⟩ ∈ hm_B := hm_Bi3 _ (List.mem_of_getElem? (i := 30) rfl)
theorem hb_151 : Cond.selects "[Ljava/lang/Object;" ⟨"java/lang/Object", "getClass", "()Ljava/lang/Class;"⟩ ⟨"java/lang/Object", "getClass", "()Ljava/lang/Class;"⟩ ∈ hm_B := hm_Bi3 _ (List.mem_of_getElem? (i := 31) rfl)
theorem hb_152 : Cond.instanceMethod ⟨"java/lang/Object", "getClass", "()Ljava/lang/Class;"⟩ ∈ hm_B := hm_Bi3 _ (List.mem_of_getElem? (i := 32) rfl)
theorem hb_153 : Cond.native ⟨"java/lang/Object", "getClass", "()Ljava/lang/Class;"⟩ ∈ hm_B := hm_Bi3 _ (List.mem_of_getElem? (i := 33) rfl)
theorem hb_154 : Cond.methodLink RJ7 300 yJ7_copyOf_6403c ∈ hm_B := hm_Bi3 _ (List.mem_of_getElem? (i := 34) rfl)
theorem hb_155 : Cond.static yJ7_copyOf_6403c ∈ hm_B := hm_Bi3 _ (List.mem_of_getElem? (i := 35) rfl)
theorem hb_156 : Cond.code yJ7_copyOf_6403c cJ7_copyOf_6403c 4 (some (.array (.object "java/lang/Object"))) ∈ hm_B := hm_Bi3 _ (List.mem_of_getElem? (i := 36) rfl)
theorem hb_157 : Cond.classLink RJ7 110 "[Ljava/lang/Object;" ∈ hm_B := hm_Bi3 _ (List.mem_of_getElem? (i := 37) rfl)
theorem hb_158 : Cond.classLink RJ7 2 "java/lang/Object" ∈ hm_B := hm_Bi3 _ (List.mem_of_getElem? (i := 38) rfl)
theorem hb_159 : Cond.methodLink RJ7 304 Lib.Math.min.name ∈ hm_B := hm_Bi3 _ (List.mem_of_getElem? (i := 39) rfl)
theorem hb_160 : Cond.methodLink RJ7 150 arraycopyName ∈ hm_B := hm_Bi4 _ (List.mem_of_getElem? (i := 0) rfl)
theorem hb_161 : Cond.native arraycopyName ∈ hm_B := hm_Bi4 _ (List.mem_of_getElem? (i := 1) rfl)
theorem hb_162 : Cond.static arraycopyName ∈ hm_B := hm_Bi4 _ (List.mem_of_getElem? (i := 2) rfl)
theorem hb_163 : Cond.initialized "java/lang/System" ∈ hm_B := hm_Bi4 _ (List.mem_of_getElem? (i := 3) rfl)
theorem hb_164 : Cond.methodLink RL 26 yX6_rule ∈ hm_B := hm_Bi4 _ (List.mem_of_getElem? (i := 4) rfl)
theorem hb_165 : Cond.instanceMethod yX6_rule ∈ hm_B := hm_Bi4 _ (List.mem_of_getElem? (i := 5) rfl)
theorem hb_166 : Cond.selects RX6 yX6_rule yX6_rule ∈ hm_B := hm_Bi4 _ (List.mem_of_getElem? (i := 6) rfl)
theorem hb_167 : Cond.code yX6_rule cX6_rule 9 (some .int) ∈ hm_B := hm_Bi4 _ (List.mem_of_getElem? (i := 7) rfl)
theorem hb_168 : Cond.classLink RX6 120 RX4 ∈ hm_B := hm_Bi4 _ (List.mem_of_getElem? (i := 8) rfl)
theorem hb_169 : Cond.instantiable RX4 10 ∈ hm_B := hm_Bi4 _ (List.mem_of_getElem? (i := 9) rfl)
theorem hb_170 : Cond.initialized RX4 ∈ hm_B := hm_Bi4 _ (List.mem_of_getElem? (i := 10) rfl)
theorem hb_171 : Cond.fieldLink RX6 125 "HarbourlightMonitor$Rule" "limit" "I" ∈ hm_B := hm_Bi4 _ (List.mem_of_getElem? (i := 11) rfl)
theorem hb_172 : Cond.fieldLink RX6 128 "HarbourlightMonitor$Rule" "isAbove" "Z" ∈ hm_B := hm_Bi4 _ (List.mem_of_getElem? (i := 12) rfl)
theorem hb_173 : Cond.methodLink RX6 107 yX6_requireLook ∈ hm_B := hm_Bi4 _ (List.mem_of_getElem? (i := 13) rfl)
theorem hb_174 : Cond.static yX6_requireLook ∈ hm_B := hm_Bi4 _ (List.mem_of_getElem? (i := 14) rfl)
theorem hb_175 : Cond.code yX6_requireLook cX6_requireLook 1 none ∈ hm_B := hm_Bi4 _ (List.mem_of_getElem? (i := 15) rfl)
theorem hb_176 : Cond.methodLink RX6 110 yX6_requireW ∈ hm_B := hm_Bi4 _ (List.mem_of_getElem? (i := 16) rfl)
theorem hb_177 : Cond.static yX6_requireW ∈ hm_B := hm_Bi4 _ (List.mem_of_getElem? (i := 17) rfl)
theorem hb_178 : Cond.code yX6_requireW cX6_requireW 1 none ∈ hm_B := hm_Bi4 _ (List.mem_of_getElem? (i := 18) rfl)
theorem hb_179 : Cond.methodLink RX6 115 yX6_requireLimit ∈ hm_B := hm_Bi4 _ (List.mem_of_getElem? (i := 19) rfl)
theorem hb_180 : Cond.static yX6_requireLimit ∈ hm_B := hm_Bi4 _ (List.mem_of_getElem? (i := 20) rfl)
theorem hb_181 : Cond.code yX6_requireLimit cX6_requireLimit 1 none ∈ hm_B := hm_Bi4 _ (List.mem_of_getElem? (i := 21) rfl)
theorem hb_182 : Cond.methodLink RX6 122 yX4_init ∈ hm_B := hm_Bi4 _ (List.mem_of_getElem? (i := 22) rfl)
theorem hb_183 : Cond.instanceMethod yX4_init ∈ hm_B := hm_Bi4 _ (List.mem_of_getElem? (i := 23) rfl)
theorem hb_184 : Cond.code yX4_init cX4_init 7 none ∈ hm_B := hm_Bi4 _ (List.mem_of_getElem? (i := 24) rfl)
theorem hb_185 : Cond.methodLink RX4 3 objectInit ∈ hm_B := hm_Bi4 _ (List.mem_of_getElem? (i := 25) rfl)
theorem hb_186 : Cond.fieldLink RX4 9 "HarbourlightMonitor$Rule" "wait" "I" ∈ hm_B := hm_Bi4 _ (List.mem_of_getElem? (i := 26) rfl)
theorem hb_187 : Cond.fieldLink RX4 15 "HarbourlightMonitor$Rule" "rank" "I" ∈ hm_B := hm_Bi4 _ (List.mem_of_getElem? (i := 27) rfl)
theorem hb_188 : Cond.classLink RX4 18 RX0 ∈ hm_B := hm_Bi4 _ (List.mem_of_getElem? (i := 28) rfl)
theorem hb_189 : Cond.fieldLink RX4 20 "HarbourlightMonitor$Rule" "alerts" "[LHarbourlightMonitor$Alert;" ∈ hm_B := hm_Bi4 _ (List.mem_of_getElem? (i := 29) rfl)
theorem hb_190 : Cond.fieldLink RX4 24 "HarbourlightMonitor$Rule" "number" "I" ∈ hm_B := hm_Bi4 _ (List.mem_of_getElem? (i := 30) rfl)
theorem hb_191 : Cond.fieldLink RX4 27 "HarbourlightMonitor$Rule" "metric" "I" ∈ hm_B := hm_Bi4 _ (List.mem_of_getElem? (i := 31) rfl)
theorem hb_192 : Cond.fieldLink RX4 30 "HarbourlightMonitor$Rule" "look" "I" ∈ hm_B := hm_Bi4 _ (List.mem_of_getElem? (i := 32) rfl)
theorem hb_193 : Cond.fieldLink RX4 33 "HarbourlightMonitor$Rule" "w" "I" ∈ hm_B := hm_Bi4 _ (List.mem_of_getElem? (i := 33) rfl)
theorem hb_194 : Cond.fieldLink RX4 36 "HarbourlightMonitor$Rule" "way" "I" ∈ hm_B := hm_Bi4 _ (List.mem_of_getElem? (i := 34) rfl)
theorem hb_195 : Cond.methodLink RL 30 yX6_setRule ∈ hm_B := hm_Bi4 _ (List.mem_of_getElem? (i := 35) rfl)
theorem hb_196 : Cond.instanceMethod yX6_setRule ∈ hm_B := hm_Bi4 _ (List.mem_of_getElem? (i := 36) rfl)
theorem hb_197 : Cond.selects RX6 yX6_setRule yX6_setRule ∈ hm_B := hm_Bi4 _ (List.mem_of_getElem? (i := 37) rfl)
theorem hb_198 : Cond.code yX6_setRule cX6_setRule 7 (some .int) ∈ hm_B := hm_Bi4 _ (List.mem_of_getElem? (i := 38) rfl)
theorem hb_199 : Cond.fieldLink RX6 140 "HarbourlightMonitor$Rule" "wait" "I" ∈ hm_B := hm_Bi4 _ (List.mem_of_getElem? (i := 39) rfl)
theorem hb_200 : Cond.fieldLink RX6 143 "HarbourlightMonitor$Rule" "rank" "I" ∈ hm_B := hm_Bi5 _ (List.mem_of_getElem? (i := 0) rfl)
theorem hb_201 : Cond.methodLink RX6 132 yX6_requireRule ∈ hm_B := hm_Bi5 _ (List.mem_of_getElem? (i := 1) rfl)
theorem hb_202 : Cond.instanceMethod yX6_requireRule ∈ hm_B := hm_Bi5 _ (List.mem_of_getElem? (i := 2) rfl)
theorem hb_203 : Cond.selects RX6 yX6_requireRule yX6_requireRule ∈ hm_B := hm_Bi5 _ (List.mem_of_getElem? (i := 3) rfl)
theorem hb_204 : Cond.code yX6_requireRule cX6_requireRule 2 (some (.object "HarbourlightMonitor$Rule")) ∈ hm_B := hm_Bi5 _ (List.mem_of_getElem? (i := 4) rfl)
theorem hb_205 : Cond.classLink RX6 248 "java/lang/IndexOutOfBoundsException" ∈ hm_B := hm_Bi5 _ (List.mem_of_getElem? (i := 5) rfl)
theorem hb_206 : Cond.initialized "java/lang/IndexOutOfBoundsException" ∈ hm_B := hm_Bi5 _ (List.mem_of_getElem? (i := 6) rfl)
theorem hb_207 : Cond.classLink RX6 120 "HarbourlightMonitor$Rule" ∈ hm_B := hm_Bi5 _ (List.mem_of_getElem? (i := 7) rfl)
theorem hb_208 : Cond.methodLink RX6 180 yJx4a65c_get_915e3 ∈ hm_B := hm_Bi5 _ (List.mem_of_getElem? (i := 8) rfl)
theorem hb_209 : Cond.instanceMethod yJx4a65c_get_915e3 ∈ hm_B := hm_Bi5 _ (List.mem_of_getElem? (i := 9) rfl)
theorem hb_210 : Cond.selects RJx4a65c yJx4a65c_get_915e3 yJx4a65c_get_915e3 ∈ hm_B := hm_Bi5 _ (List.mem_of_getElem? (i := 10) rfl)
theorem hb_211 : Cond.code yJx4a65c_get_915e3 cJx4a65c_get_915e3 2 (some (.object "java/lang/Object")) ∈ hm_B := hm_Bi5 _ (List.mem_of_getElem? (i := 11) rfl)
theorem hb_212 : Cond.methodLink RJx4a65c 118 yJ15_checkIndex_7cf53 ∈ hm_B := hm_Bi5 _ (List.mem_of_getElem? (i := 12) rfl)
theorem hb_213 : Cond.static yJ15_checkIndex_7cf53 ∈ hm_B := hm_Bi5 _ (List.mem_of_getElem? (i := 13) rfl)
theorem hb_214 : Cond.initialized RJ15 ∈ hm_B := hm_Bi5 _ (List.mem_of_getElem? (i := 14) rfl)
theorem hb_215 : Cond.code yJ15_checkIndex_7cf53 cJ15_checkIndex_7cf53 2 (some .int) ∈ hm_B := hm_Bi5 _ (List.mem_of_getElem? (i := 15) rfl)
theorem hb_216 : Cond.methodLink RJ15 105 yJ3_checkIndex_8e157 ∈ hm_B := hm_Bi5 _ (List.mem_of_getElem? (i := 16) rfl)
theorem hb_217 : Cond.static yJ3_checkIndex_8e157 ∈ hm_B := hm_Bi5 _ (List.mem_of_getElem? (i := 17) rfl)
theorem hb_218 : Cond.initialized RJ3 ∈ hm_B := hm_Bi5 _ (List.mem_of_getElem? (i := 18) rfl)
theorem hb_219 : Cond.code yJ3_checkIndex_8e157 cJ3_checkIndex_8e157 3 (some .int) ∈ hm_B := hm_Bi5 _ (List.mem_of_getElem? (i := 19) rfl)
theorem hb_220 : Cond.methodLink RJx4a65c 123 yJx4a65c_elementData_915e3 ∈ hm_B := hm_Bi5 _ (List.mem_of_getElem? (i := 20) rfl)
theorem hb_221 : Cond.instanceMethod yJx4a65c_elementData_915e3 ∈ hm_B := hm_Bi5 _ (List.mem_of_getElem? (i := 21) rfl)
theorem hb_222 : Cond.selects RJx4a65c yJx4a65c_elementData_915e3 yJx4a65c_elementData_915e3 ∈ hm_B := hm_Bi5 _ (List.mem_of_getElem? (i := 22) rfl)
theorem hb_223 : Cond.code yJx4a65c_elementData_915e3 cJx4a65c_elementData_915e3 2 (some (.object "java/lang/Object")) ∈ hm_B := hm_Bi5 _ (List.mem_of_getElem? (i := 23) rfl)
theorem hb_224 : Cond.methodLink RL 34 yX6_group ∈ hm_B := hm_Bi5 _ (List.mem_of_getElem? (i := 24) rfl)
theorem hb_225 : Cond.instanceMethod yX6_group ∈ hm_B := hm_Bi5 _ (List.mem_of_getElem? (i := 25) rfl)
theorem hb_226 : Cond.selects RX6 yX6_group yX6_group ∈ hm_B := hm_Bi5 _ (List.mem_of_getElem? (i := 26) rfl)
theorem hb_227 : Cond.code yX6_group cX6_group 4 (some .int) ∈ hm_B := hm_Bi5 _ (List.mem_of_getElem? (i := 27) rfl)
theorem hb_228 : Cond.methodLink RX6 174 yX6_forgetGroups ∈ hm_B := hm_Bi5 _ (List.mem_of_getElem? (i := 28) rfl)
theorem hb_229 : Cond.instanceMethod yX6_forgetGroups ∈ hm_B := hm_Bi5 _ (List.mem_of_getElem? (i := 29) rfl)
theorem hb_230 : Cond.selects RX6 yX6_forgetGroups yX6_forgetGroups ∈ hm_B := hm_Bi5 _ (List.mem_of_getElem? (i := 30) rfl)
theorem hb_231 : Cond.code yX6_forgetGroups cX6_forgetGroups 2 none ∈ hm_B := hm_Bi5 _ (List.mem_of_getElem? (i := 31) rfl)
theorem hb_232 : Cond.methodLink RX6 401 yX1_forget ∈ hm_B := hm_Bi5 _ (List.mem_of_getElem? (i := 32) rfl)
theorem hb_233 : Cond.instanceMethod yX1_forget ∈ hm_B := hm_Bi5 _ (List.mem_of_getElem? (i := 33) rfl)
theorem hb_234 : Cond.selects RX1 yX1_forget yX1_forget ∈ hm_B := hm_Bi5 _ (List.mem_of_getElem? (i := 34) rfl)
theorem hb_235 : Cond.code yX1_forget cX1_forget 2 none ∈ hm_B := hm_Bi5 _ (List.mem_of_getElem? (i := 35) rfl)
theorem hb_236 : Cond.methodLink RL 37 yX6_tell ∈ hm_B := hm_Bi5 _ (List.mem_of_getElem? (i := 36) rfl)
theorem hb_237 : Cond.instanceMethod yX6_tell ∈ hm_B := hm_Bi5 _ (List.mem_of_getElem? (i := 37) rfl)
theorem hb_238 : Cond.selects RX6 yX6_tell yX6_tell ∈ hm_B := hm_Bi5 _ (List.mem_of_getElem? (i := 38) rfl)
theorem hb_239 : Cond.code yX6_tell cX6_tell 5 (some .int) ∈ hm_B := hm_Bi5 _ (List.mem_of_getElem? (i := 39) rfl)
theorem hb_240 : Cond.fieldLink RX6 92 "HarbourlightMonitor$Series" "kind" "I" ∈ hm_B := hm_Bi6 _ (List.mem_of_getElem? (i := 0) rfl)
theorem hb_241 : Cond.fieldLink RX6 100 "HarbourlightMonitor$Series" "present" "[I" ∈ hm_B := hm_Bi6 _ (List.mem_of_getElem? (i := 1) rfl)
theorem hb_242 : Cond.methodLink RX6 88 yX6_requireSeries ∈ hm_B := hm_Bi6 _ (List.mem_of_getElem? (i := 2) rfl)
theorem hb_243 : Cond.instanceMethod yX6_requireSeries ∈ hm_B := hm_Bi6 _ (List.mem_of_getElem? (i := 3) rfl)
theorem hb_244 : Cond.selects RX6 yX6_requireSeries yX6_requireSeries ∈ hm_B := hm_Bi6 _ (List.mem_of_getElem? (i := 4) rfl)
theorem hb_245 : Cond.code yX6_requireSeries cX6_requireSeries 2 (some (.object "HarbourlightMonitor$Series")) ∈ hm_B := hm_Bi6 _ (List.mem_of_getElem? (i := 5) rfl)
theorem hb_246 : Cond.classLink RX6 79 "HarbourlightMonitor$Series" ∈ hm_B := hm_Bi6 _ (List.mem_of_getElem? (i := 6) rfl)
theorem hb_247 : Cond.methodLink RX6 97 yX5_take ∈ hm_B := hm_Bi6 _ (List.mem_of_getElem? (i := 7) rfl)
theorem hb_248 : Cond.instanceMethod yX5_take ∈ hm_B := hm_Bi6 _ (List.mem_of_getElem? (i := 8) rfl)
theorem hb_249 : Cond.selects RX5 yX5_take yX5_take ∈ hm_B := hm_Bi6 _ (List.mem_of_getElem? (i := 9) rfl)
theorem hb_250 : Cond.code yX5_take cX5_take 2 none ∈ hm_B := hm_Bi6 _ (List.mem_of_getElem? (i := 10) rfl)
theorem hb_251 : Cond.methodLink RX5 39 yX5_columnFor ∈ hm_B := hm_Bi6 _ (List.mem_of_getElem? (i := 11) rfl)
theorem hb_252 : Cond.static yX5_columnFor ∈ hm_B := hm_Bi6 _ (List.mem_of_getElem? (i := 12) rfl)
theorem hb_253 : Cond.code yX5_columnFor cX5_columnFor 2 (some .int) ∈ hm_B := hm_Bi6 _ (List.mem_of_getElem? (i := 13) rfl)
theorem hb_254 : Cond.methodLink RL 40 yX6_reset ∈ hm_B := hm_Bi6 _ (List.mem_of_getElem? (i := 14) rfl)
theorem hb_255 : Cond.instanceMethod yX6_reset ∈ hm_B := hm_Bi6 _ (List.mem_of_getElem? (i := 15) rfl)
theorem hb_256 : Cond.selects RX6 yX6_reset yX6_reset ∈ hm_B := hm_Bi6 _ (List.mem_of_getElem? (i := 16) rfl)
theorem hb_257 : Cond.code yX6_reset cX6_reset 4 (some .int) ∈ hm_B := hm_Bi6 _ (List.mem_of_getElem? (i := 17) rfl)
theorem hb_258 : Cond.methodLink RX6 104 yX5_beginAnew ∈ hm_B := hm_Bi6 _ (List.mem_of_getElem? (i := 18) rfl)
theorem hb_259 : Cond.instanceMethod yX5_beginAnew ∈ hm_B := hm_Bi6 _ (List.mem_of_getElem? (i := 19) rfl)
theorem hb_260 : Cond.selects RX5 yX5_beginAnew yX5_beginAnew ∈ hm_B := hm_Bi6 _ (List.mem_of_getElem? (i := 20) rfl)
theorem hb_261 : Cond.code yX5_beginAnew cX5_beginAnew 2 none ∈ hm_B := hm_Bi6 _ (List.mem_of_getElem? (i := 21) rfl)
theorem hb_262 : Cond.methodLink RL 44 yX6_many ∈ hm_B := hm_Bi6 _ (List.mem_of_getElem? (i := 22) rfl)
theorem hb_263 : Cond.instanceMethod yX6_many ∈ hm_B := hm_Bi6 _ (List.mem_of_getElem? (i := 23) rfl)
theorem hb_264 : Cond.selects RX6 yX6_many yX6_many ∈ hm_B := hm_Bi6 _ (List.mem_of_getElem? (i := 24) rfl)
theorem hb_265 : Cond.code yX6_many cX6_many 2 (some .int) ∈ hm_B := hm_Bi6 _ (List.mem_of_getElem? (i := 25) rfl)
theorem hb_266 : Cond.fieldLink RX6 200 "HarbourlightMonitor$NoticeLog" "ever" "I" ∈ hm_B := hm_Bi6 _ (List.mem_of_getElem? (i := 26) rfl)
theorem hb_267 : Cond.methodLink RX6 193 yX6_countAlerts ∈ hm_B := hm_Bi6 _ (List.mem_of_getElem? (i := 27) rfl)
theorem hb_268 : Cond.instanceMethod yX6_countAlerts ∈ hm_B := hm_Bi6 _ (List.mem_of_getElem? (i := 28) rfl)
theorem hb_269 : Cond.selects RX6 yX6_countAlerts yX6_countAlerts ∈ hm_B := hm_Bi6 _ (List.mem_of_getElem? (i := 29) rfl)
theorem hb_270 : Cond.code yX6_countAlerts cX6_countAlerts 4 (some .int) ∈ hm_B := hm_Bi6 _ (List.mem_of_getElem? (i := 30) rfl)
theorem hb_271 : Cond.methodLink RX6 245 yX4_countAlertsFrom ∈ hm_B := hm_Bi6 _ (List.mem_of_getElem? (i := 31) rfl)
theorem hb_272 : Cond.instanceMethod yX4_countAlertsFrom ∈ hm_B := hm_Bi6 _ (List.mem_of_getElem? (i := 32) rfl)
theorem hb_273 : Cond.selects RX4 yX4_countAlertsFrom yX4_countAlertsFrom ∈ hm_B := hm_Bi6 _ (List.mem_of_getElem? (i := 33) rfl)
theorem hb_274 : Cond.code yX4_countAlertsFrom cX4_countAlertsFrom 4 (some .int) ∈ hm_B := hm_Bi6 _ (List.mem_of_getElem? (i := 34) rfl)
theorem hb_275 : Cond.fieldLink RX4 59 "HarbourlightMonitor$Alert" "state" "I" ∈ hm_B := hm_Bi6 _ (List.mem_of_getElem? (i := 35) rfl)
theorem hb_276 : Cond.methodLink RX6 197 yX6_countLoud ∈ hm_B := hm_Bi6 _ (List.mem_of_getElem? (i := 36) rfl)
theorem hb_277 : Cond.instanceMethod yX6_countLoud ∈ hm_B := hm_Bi6 _ (List.mem_of_getElem? (i := 37) rfl)
theorem hb_278 : Cond.selects RX6 yX6_countLoud yX6_countLoud ∈ hm_B := hm_Bi6 _ (List.mem_of_getElem? (i := 38) rfl)
theorem hb_279 : Cond.code yX6_countLoud cX6_countLoud 6 (some .int) ∈ hm_B := hm_Bi6 _ (List.mem_of_getElem? (i := 39) rfl)
theorem hb_280 : Cond.methodLink RX6 239 yX6_hearing ∈ hm_B := hm_Bi7 _ (List.mem_of_getElem? (i := 0) rfl)
theorem hb_281 : Cond.instanceMethod yX6_hearing ∈ hm_B := hm_Bi7 _ (List.mem_of_getElem? (i := 1) rfl)
theorem hb_282 : Cond.selects RX6 yX6_hearing yX6_hearing ∈ hm_B := hm_Bi7 _ (List.mem_of_getElem? (i := 2) rfl)
theorem hb_283 : Cond.code yX6_hearing cX6_hearing 5 (some .int) ∈ hm_B := hm_Bi7 _ (List.mem_of_getElem? (i := 3) rfl)
theorem hb_284 : Cond.fieldLink RX6 253 "HarbourlightMonitor$Rule" "number" "I" ∈ hm_B := hm_Bi7 _ (List.mem_of_getElem? (i := 4) rfl)
theorem hb_285 : Cond.methodLink RX6 385 yX4_burns ∈ hm_B := hm_Bi7 _ (List.mem_of_getElem? (i := 5) rfl)
theorem hb_286 : Cond.instanceMethod yX4_burns ∈ hm_B := hm_Bi7 _ (List.mem_of_getElem? (i := 6) rfl)
theorem hb_287 : Cond.selects RX4 yX4_burns yX4_burns ∈ hm_B := hm_Bi7 _ (List.mem_of_getElem? (i := 7) rfl)
theorem hb_288 : Cond.code yX4_burns cX4_burns 3 (some .boolean) ∈ hm_B := hm_Bi7 _ (List.mem_of_getElem? (i := 8) rfl)
theorem hb_289 : Cond.methodLink RX4 55 yX4_alertOf ∈ hm_B := hm_Bi7 _ (List.mem_of_getElem? (i := 9) rfl)
theorem hb_290 : Cond.instanceMethod yX4_alertOf ∈ hm_B := hm_Bi7 _ (List.mem_of_getElem? (i := 10) rfl)
theorem hb_291 : Cond.selects RX4 yX4_alertOf yX4_alertOf ∈ hm_B := hm_Bi7 _ (List.mem_of_getElem? (i := 11) rfl)
theorem hb_292 : Cond.code yX4_alertOf cX4_alertOf 2 (some (.object "HarbourlightMonitor$Alert")) ∈ hm_B := hm_Bi7 _ (List.mem_of_getElem? (i := 12) rfl)
theorem hb_293 : Cond.methodLink RX6 256 yX6_placeOf ∈ hm_B := hm_Bi7 _ (List.mem_of_getElem? (i := 13) rfl)
theorem hb_294 : Cond.instanceMethod yX6_placeOf ∈ hm_B := hm_Bi7 _ (List.mem_of_getElem? (i := 14) rfl)
theorem hb_295 : Cond.selects RX6 yX6_placeOf yX6_placeOf ∈ hm_B := hm_Bi7 _ (List.mem_of_getElem? (i := 15) rfl)
theorem hb_296 : Cond.code yX6_placeOf cX6_placeOf 3 (some .int) ∈ hm_B := hm_Bi7 _ (List.mem_of_getElem? (i := 16) rfl)
theorem hb_297 : Cond.fieldLink RX6 373 "HarbourlightMonitor$Rule" "way" "I" ∈ hm_B := hm_Bi7 _ (List.mem_of_getElem? (i := 17) rfl)
theorem hb_298 : Cond.fieldLink RX6 376 "HarbourlightMonitor$Series" "place" "I" ∈ hm_B := hm_Bi7 _ (List.mem_of_getElem? (i := 18) rfl)
theorem hb_299 : Cond.methodLink RX6 389 yX6_isHushed ∈ hm_B := hm_Bi7 _ (List.mem_of_getElem? (i := 19) rfl)
theorem hb_300 : Cond.instanceMethod yX6_isHushed ∈ hm_B := hm_Bi7 _ (List.mem_of_getElem? (i := 20) rfl)
theorem hb_301 : Cond.selects RX6 yX6_isHushed yX6_isHushed ∈ hm_B := hm_Bi7 _ (List.mem_of_getElem? (i := 21) rfl)
theorem hb_302 : Cond.code yX6_isHushed cX6_isHushed 5 (some .boolean) ∈ hm_B := hm_Bi7 _ (List.mem_of_getElem? (i := 22) rfl)
theorem hb_303 : Cond.classLink RX6 161 "HarbourlightMonitor$Hush" ∈ hm_B := hm_Bi7 _ (List.mem_of_getElem? (i := 23) rfl)
theorem hb_304 : Cond.methodLink RX6 395 yX2_covers ∈ hm_B := hm_Bi7 _ (List.mem_of_getElem? (i := 24) rfl)
theorem hb_305 : Cond.instanceMethod yX2_covers ∈ hm_B := hm_Bi7 _ (List.mem_of_getElem? (i := 25) rfl)
theorem hb_306 : Cond.selects RX2 yX2_covers yX2_covers ∈ hm_B := hm_Bi7 _ (List.mem_of_getElem? (i := 26) rfl)
theorem hb_307 : Cond.initialized RX2 ∈ hm_B := hm_Bi7 _ (List.mem_of_getElem? (i := 27) rfl)
theorem hb_308 : Cond.code yX2_covers cX2_covers 4 (some .boolean) ∈ hm_B := hm_Bi7 _ (List.mem_of_getElem? (i := 28) rfl)
theorem hb_309 : Cond.fieldLink RX2 18 "HarbourlightMonitor$Hush" "till" "I" ∈ hm_B := hm_Bi7 _ (List.mem_of_getElem? (i := 29) rfl)
theorem hb_310 : Cond.fieldLink RX2 9 "HarbourlightMonitor$Hush" "rule" "I" ∈ hm_B := hm_Bi7 _ (List.mem_of_getElem? (i := 30) rfl)
theorem hb_311 : Cond.fieldLink RX2 15 "HarbourlightMonitor$Hush" "place" "I" ∈ hm_B := hm_Bi7 _ (List.mem_of_getElem? (i := 31) rfl)
theorem hb_312 : Cond.methodLink RX6 392 yX6_isQuiet ∈ hm_B := hm_Bi7 _ (List.mem_of_getElem? (i := 32) rfl)
theorem hb_313 : Cond.instanceMethod yX6_isQuiet ∈ hm_B := hm_Bi7 _ (List.mem_of_getElem? (i := 33) rfl)
theorem hb_314 : Cond.selects RX6 yX6_isQuiet yX6_isQuiet ∈ hm_B := hm_Bi7 _ (List.mem_of_getElem? (i := 34) rfl)
theorem hb_315 : Cond.code yX6_isQuiet cX6_isQuiet 9 (some .boolean) ∈ hm_B := hm_Bi7 _ (List.mem_of_getElem? (i := 35) rfl)
theorem hb_316 : Cond.methodLink RL 47 yX6_hush ∈ hm_B := hm_Bi7 _ (List.mem_of_getElem? (i := 36) rfl)
theorem hb_317 : Cond.instanceMethod yX6_hush ∈ hm_B := hm_Bi7 _ (List.mem_of_getElem? (i := 37) rfl)
theorem hb_318 : Cond.selects RX6 yX6_hush yX6_hush ∈ hm_B := hm_Bi7 _ (List.mem_of_getElem? (i := 38) rfl)
theorem hb_319 : Cond.code yX6_hush cX6_hush 5 (some .int) ∈ hm_B := hm_Bi7 _ (List.mem_of_getElem? (i := 39) rfl)
theorem hb_320 : Cond.classLink RX6 161 RX2 ∈ hm_B := hm_Bi8 _ (List.mem_of_getElem? (i := 0) rfl)
theorem hb_321 : Cond.instantiable RX2 3 ∈ hm_B := hm_Bi8 _ (List.mem_of_getElem? (i := 1) rfl)
theorem hb_322 : Cond.methodLink RX6 163 yX2_init ∈ hm_B := hm_Bi8 _ (List.mem_of_getElem? (i := 2) rfl)
theorem hb_323 : Cond.instanceMethod yX2_init ∈ hm_B := hm_Bi8 _ (List.mem_of_getElem? (i := 3) rfl)
theorem hb_324 : Cond.code yX2_init cX2_init 4 none ∈ hm_B := hm_Bi8 _ (List.mem_of_getElem? (i := 4) rfl)
theorem hb_325 : Cond.methodLink RX2 3 objectInit ∈ hm_B := hm_Bi8 _ (List.mem_of_getElem? (i := 5) rfl)
theorem hb_326 : Cond.methodLink RL 50 yX6_burningIn ∈ hm_B := hm_Bi8 _ (List.mem_of_getElem? (i := 6) rfl)
theorem hb_327 : Cond.instanceMethod yX6_burningIn ∈ hm_B := hm_Bi8 _ (List.mem_of_getElem? (i := 7) rfl)
theorem hb_328 : Cond.selects RX6 yX6_burningIn yX6_burningIn ∈ hm_B := hm_Bi8 _ (List.mem_of_getElem? (i := 8) rfl)
theorem hb_329 : Cond.code yX6_burningIn cX6_burningIn 6 (some .int) ∈ hm_B := hm_Bi8 _ (List.mem_of_getElem? (i := 9) rfl)
theorem hb_330 : Cond.methodLink RX6 177 yX6_requireTicks ∈ hm_B := hm_Bi8 _ (List.mem_of_getElem? (i := 10) rfl)
theorem hb_331 : Cond.static yX6_requireTicks ∈ hm_B := hm_Bi8 _ (List.mem_of_getElem? (i := 11) rfl)
theorem hb_332 : Cond.code yX6_requireTicks cX6_requireTicks 1 none ∈ hm_B := hm_Bi8 _ (List.mem_of_getElem? (i := 12) rfl)
theorem hb_333 : Cond.methodLink RX6 282 yX6_wouldBurn ∈ hm_B := hm_Bi8 _ (List.mem_of_getElem? (i := 13) rfl)
theorem hb_334 : Cond.instanceMethod yX6_wouldBurn ∈ hm_B := hm_Bi8 _ (List.mem_of_getElem? (i := 14) rfl)
theorem hb_335 : Cond.selects RX6 yX6_wouldBurn yX6_wouldBurn ∈ hm_B := hm_Bi8 _ (List.mem_of_getElem? (i := 15) rfl)
theorem hb_336 : Cond.code yX6_wouldBurn cX6_wouldBurn 6 (some .boolean) ∈ hm_B := hm_Bi8 _ (List.mem_of_getElem? (i := 16) rfl)
theorem hb_337 : Cond.fieldLink RX6 233 "HarbourlightMonitor$Alert" "state" "I" ∈ hm_B := hm_Bi8 _ (List.mem_of_getElem? (i := 17) rfl)
theorem hb_338 : Cond.methodLink RX6 229 yX4_alertOf ∈ hm_B := hm_Bi8 _ (List.mem_of_getElem? (i := 18) rfl)
theorem hb_339 : Cond.methodLink RX6 286 yX6_hasKey ∈ hm_B := hm_Bi8 _ (List.mem_of_getElem? (i := 19) rfl)
theorem hb_340 : Cond.instanceMethod yX6_hasKey ∈ hm_B := hm_Bi8 _ (List.mem_of_getElem? (i := 20) rfl)
theorem hb_341 : Cond.selects RX6 yX6_hasKey yX6_hasKey ∈ hm_B := hm_Bi8 _ (List.mem_of_getElem? (i := 21) rfl)
theorem hb_342 : Cond.code yX6_hasKey cX6_hasKey 4 (some .boolean) ∈ hm_B := hm_Bi8 _ (List.mem_of_getElem? (i := 22) rfl)
theorem hb_343 : Cond.methodLink RX6 364 yX4_takes ∈ hm_B := hm_Bi8 _ (List.mem_of_getElem? (i := 23) rfl)
theorem hb_344 : Cond.instanceMethod yX4_takes ∈ hm_B := hm_Bi8 _ (List.mem_of_getElem? (i := 24) rfl)
theorem hb_345 : Cond.selects RX4 yX4_takes yX4_takes ∈ hm_B := hm_Bi8 _ (List.mem_of_getElem? (i := 25) rfl)
theorem hb_346 : Cond.code yX4_takes cX4_takes 3 (some .boolean) ∈ hm_B := hm_Bi8 _ (List.mem_of_getElem? (i := 26) rfl)
theorem hb_347 : Cond.fieldLink RX4 40 "HarbourlightMonitor$Series" "metric" "I" ∈ hm_B := hm_Bi8 _ (List.mem_of_getElem? (i := 27) rfl)
theorem hb_348 : Cond.fieldLink RX4 43 "HarbourlightMonitor$Series" "number" "I" ∈ hm_B := hm_Bi8 _ (List.mem_of_getElem? (i := 28) rfl)
theorem hb_349 : Cond.fieldLink RX4 44 "HarbourlightMonitor$Series" "place" "I" ∈ hm_B := hm_Bi8 _ (List.mem_of_getElem? (i := 29) rfl)
theorem hb_350 : Cond.methodLink RX6 381 yX0_become ∈ hm_B := hm_Bi8 _ (List.mem_of_getElem? (i := 30) rfl)
theorem hb_351 : Cond.instanceMethod yX0_become ∈ hm_B := hm_Bi8 _ (List.mem_of_getElem? (i := 31) rfl)
theorem hb_352 : Cond.selects RX0 yX0_become yX0_become ∈ hm_B := hm_Bi8 _ (List.mem_of_getElem? (i := 32) rfl)
theorem hb_353 : Cond.code yX0_become cX0_become 2 none ∈ hm_B := hm_Bi8 _ (List.mem_of_getElem? (i := 33) rfl)
theorem hb_354 : Cond.methodLink RX6 223 yX6_lookedAt ∈ hm_B := hm_Bi8 _ (List.mem_of_getElem? (i := 34) rfl)
theorem hb_355 : Cond.instanceMethod yX6_lookedAt ∈ hm_B := hm_Bi8 _ (List.mem_of_getElem? (i := 35) rfl)
theorem hb_356 : Cond.selects RX6 yX6_lookedAt yX6_lookedAt ∈ hm_B := hm_Bi8 _ (List.mem_of_getElem? (i := 36) rfl)
theorem hb_357 : Cond.code yX6_lookedAt cX6_lookedAt 7 (some .int) ∈ hm_B := hm_Bi8 _ (List.mem_of_getElem? (i := 37) rfl)
theorem hb_358 : Cond.fieldLink RX6 368 "HarbourlightMonitor$Rule" "look" "I" ∈ hm_B := hm_Bi8 _ (List.mem_of_getElem? (i := 38) rfl)
theorem hb_359 : Cond.fieldLink RX6 370 "HarbourlightMonitor$Rule" "w" "I" ∈ hm_B := hm_Bi8 _ (List.mem_of_getElem? (i := 39) rfl)
theorem hb_360 : Cond.methodLink RX6 214 yX5_lookOver ∈ hm_B := hm_Bi9 _ (List.mem_of_getElem? (i := 0) rfl)
theorem hb_361 : Cond.instanceMethod yX5_lookOver ∈ hm_B := hm_Bi9 _ (List.mem_of_getElem? (i := 1) rfl)
theorem hb_362 : Cond.selects RX5 yX5_lookOver yX5_lookOver ∈ hm_B := hm_Bi9 _ (List.mem_of_getElem? (i := 2) rfl)
theorem hb_363 : Cond.code yX5_lookOver cX5_lookOver 4 (some .int) ∈ hm_B := hm_Bi9 _ (List.mem_of_getElem? (i := 3) rfl)
theorem hb_364 : Cond.methodLink RX5 58 yX5_past ∈ hm_B := hm_Bi9 _ (List.mem_of_getElem? (i := 4) rfl)
theorem hb_365 : Cond.instanceMethod yX5_past ∈ hm_B := hm_Bi9 _ (List.mem_of_getElem? (i := 5) rfl)
theorem hb_366 : Cond.selects RX5 yX5_past yX5_past ∈ hm_B := hm_Bi9 _ (List.mem_of_getElem? (i := 6) rfl)
theorem hb_367 : Cond.code yX5_past cX5_past 5 (some .int) ∈ hm_B := hm_Bi9 _ (List.mem_of_getElem? (i := 7) rfl)
theorem hb_368 : Cond.methodLink RX5 62 yX5_growthOf ∈ hm_B := hm_Bi9 _ (List.mem_of_getElem? (i := 8) rfl)
theorem hb_369 : Cond.instanceMethod yX5_growthOf ∈ hm_B := hm_Bi9 _ (List.mem_of_getElem? (i := 9) rfl)
theorem hb_370 : Cond.selects RX5 yX5_growthOf yX5_growthOf ∈ hm_B := hm_Bi9 _ (List.mem_of_getElem? (i := 10) rfl)
theorem hb_371 : Cond.code yX5_growthOf cX5_growthOf 8 (some .int) ∈ hm_B := hm_Bi9 _ (List.mem_of_getElem? (i := 11) rfl)
theorem hb_372 : Cond.methodLink RX5 46 Lib.Math.min.name ∈ hm_B := hm_Bi9 _ (List.mem_of_getElem? (i := 12) rfl)
theorem hb_373 : Cond.methodLink RX5 65 yX5_meanOver ∈ hm_B := hm_Bi9 _ (List.mem_of_getElem? (i := 13) rfl)
theorem hb_374 : Cond.instanceMethod yX5_meanOver ∈ hm_B := hm_Bi9 _ (List.mem_of_getElem? (i := 14) rfl)
theorem hb_375 : Cond.selects RX5 yX5_meanOver yX5_meanOver ∈ hm_B := hm_Bi9 _ (List.mem_of_getElem? (i := 15) rfl)
theorem hb_376 : Cond.code yX5_meanOver cX5_meanOver 6 (some .int) ∈ hm_B := hm_Bi9 _ (List.mem_of_getElem? (i := 16) rfl)
theorem hb_377 : Cond.methodLink RX5 68 yX5_utmostOver ∈ hm_B := hm_Bi9 _ (List.mem_of_getElem? (i := 17) rfl)
theorem hb_378 : Cond.instanceMethod yX5_utmostOver ∈ hm_B := hm_Bi9 _ (List.mem_of_getElem? (i := 18) rfl)
theorem hb_379 : Cond.selects RX5 yX5_utmostOver yX5_utmostOver ∈ hm_B := hm_Bi9 _ (List.mem_of_getElem? (i := 19) rfl)
theorem hb_380 : Cond.code yX5_utmostOver cX5_utmostOver 8 (some .int) ∈ hm_B := hm_Bi9 _ (List.mem_of_getElem? (i := 20) rfl)
theorem hb_381 : Cond.methodLink RX5 78 Lib.Math.max.name ∈ hm_B := hm_Bi9 _ (List.mem_of_getElem? (i := 21) rfl)
theorem hb_382 : Cond.methodLink RX5 75 yX5_partOver ∈ hm_B := hm_Bi9 _ (List.mem_of_getElem? (i := 22) rfl)
theorem hb_383 : Cond.instanceMethod yX5_partOver ∈ hm_B := hm_Bi9 _ (List.mem_of_getElem? (i := 23) rfl)
theorem hb_384 : Cond.selects RX5 yX5_partOver yX5_partOver ∈ hm_B := hm_Bi9 _ (List.mem_of_getElem? (i := 24) rfl)
theorem hb_385 : Cond.code yX5_partOver cX5_partOver 10 (some .int) ∈ hm_B := hm_Bi9 _ (List.mem_of_getElem? (i := 25) rfl)
theorem hb_386 : Cond.methodLink RX6 290 yX4_isBeyond ∈ hm_B := hm_Bi9 _ (List.mem_of_getElem? (i := 26) rfl)
theorem hb_387 : Cond.instanceMethod yX4_isBeyond ∈ hm_B := hm_Bi9 _ (List.mem_of_getElem? (i := 27) rfl)
theorem hb_388 : Cond.selects RX4 yX4_isBeyond yX4_isBeyond ∈ hm_B := hm_Bi9 _ (List.mem_of_getElem? (i := 28) rfl)
theorem hb_389 : Cond.code yX4_isBeyond cX4_isBeyond 3 (some .boolean) ∈ hm_B := hm_Bi9 _ (List.mem_of_getElem? (i := 29) rfl)
theorem hb_390 : Cond.fieldLink RX4 47 "HarbourlightMonitor$Rule" "isAbove" "Z" ∈ hm_B := hm_Bi9 _ (List.mem_of_getElem? (i := 30) rfl)
theorem hb_391 : Cond.methodLink RX6 377 yX0_step ∈ hm_B := hm_Bi9 _ (List.mem_of_getElem? (i := 31) rfl)
theorem hb_392 : Cond.instanceMethod yX0_step ∈ hm_B := hm_Bi9 _ (List.mem_of_getElem? (i := 32) rfl)
theorem hb_393 : Cond.selects RX0 yX0_step yX0_step ∈ hm_B := hm_Bi9 _ (List.mem_of_getElem? (i := 33) rfl)
theorem hb_394 : Cond.code yX0_step cX0_step 4 none ∈ hm_B := hm_Bi9 _ (List.mem_of_getElem? (i := 34) rfl)
theorem hb_395 : Cond.methodLink RX0 21 yX0_rise ∈ hm_B := hm_Bi9 _ (List.mem_of_getElem? (i := 35) rfl)
theorem hb_396 : Cond.instanceMethod yX0_rise ∈ hm_B := hm_Bi9 _ (List.mem_of_getElem? (i := 36) rfl)
theorem hb_397 : Cond.selects RX0 yX0_rise yX0_rise ∈ hm_B := hm_Bi9 _ (List.mem_of_getElem? (i := 37) rfl)
theorem hb_398 : Cond.code yX0_rise cX0_rise 3 none ∈ hm_B := hm_Bi9 _ (List.mem_of_getElem? (i := 38) rfl)
theorem hb_399 : Cond.methodLink RX0 25 yX0_fall ∈ hm_B := hm_Bi9 _ (List.mem_of_getElem? (i := 39) rfl)
theorem hb_400 : Cond.instanceMethod yX0_fall ∈ hm_B := hm_Bi10 _ (List.mem_of_getElem? (i := 0) rfl)
theorem hb_401 : Cond.selects RX0 yX0_fall yX0_fall ∈ hm_B := hm_Bi10 _ (List.mem_of_getElem? (i := 1) rfl)
theorem hb_402 : Cond.code yX0_fall cX0_fall 1 none ∈ hm_B := hm_Bi10 _ (List.mem_of_getElem? (i := 2) rfl)
theorem hb_403 : Cond.methodLink RL 53 yX6_tick ∈ hm_B := hm_Bi10 _ (List.mem_of_getElem? (i := 3) rfl)
theorem hb_404 : Cond.instanceMethod yX6_tick ∈ hm_B := hm_Bi10 _ (List.mem_of_getElem? (i := 4) rfl)
theorem hb_405 : Cond.selects RX6 yX6_tick yX6_tick ∈ hm_B := hm_Bi10 _ (List.mem_of_getElem? (i := 5) rfl)
theorem hb_406 : Cond.code yX6_tick cX6_tick 5 (some .int) ∈ hm_B := hm_Bi10 _ (List.mem_of_getElem? (i := 6) rfl)
theorem hb_407 : Cond.methodLink RX6 183 yX5_keepSample ∈ hm_B := hm_Bi10 _ (List.mem_of_getElem? (i := 7) rfl)
theorem hb_408 : Cond.instanceMethod yX5_keepSample ∈ hm_B := hm_Bi10 _ (List.mem_of_getElem? (i := 8) rfl)
theorem hb_409 : Cond.selects RX5 yX5_keepSample yX5_keepSample ∈ hm_B := hm_Bi10 _ (List.mem_of_getElem? (i := 9) rfl)
theorem hb_410 : Cond.code yX5_keepSample cX5_keepSample 1 none ∈ hm_B := hm_Bi10 _ (List.mem_of_getElem? (i := 10) rfl)
theorem hb_411 : Cond.methodLink RX5 52 arraycopyName ∈ hm_B := hm_Bi10 _ (List.mem_of_getElem? (i := 11) rfl)
theorem hb_412 : Cond.methodLink RX6 186 yX6_stepAlerts ∈ hm_B := hm_Bi10 _ (List.mem_of_getElem? (i := 12) rfl)
theorem hb_413 : Cond.instanceMethod yX6_stepAlerts ∈ hm_B := hm_Bi10 _ (List.mem_of_getElem? (i := 13) rfl)
theorem hb_414 : Cond.selects RX6 yX6_stepAlerts yX6_stepAlerts ∈ hm_B := hm_Bi10 _ (List.mem_of_getElem? (i := 14) rfl)
theorem hb_415 : Cond.code yX6_stepAlerts cX6_stepAlerts 4 none ∈ hm_B := hm_Bi10 _ (List.mem_of_getElem? (i := 15) rfl)
theorem hb_416 : Cond.methodLink RX6 190 yX6_sendNotices ∈ hm_B := hm_Bi10 _ (List.mem_of_getElem? (i := 16) rfl)
theorem hb_417 : Cond.instanceMethod yX6_sendNotices ∈ hm_B := hm_Bi10 _ (List.mem_of_getElem? (i := 17) rfl)
theorem hb_418 : Cond.selects RX6 yX6_sendNotices yX6_sendNotices ∈ hm_B := hm_Bi10 _ (List.mem_of_getElem? (i := 18) rfl)
theorem hb_419 : Cond.code yX6_sendNotices cX6_sendNotices 4 (some .int) ∈ hm_B := hm_Bi10 _ (List.mem_of_getElem? (i := 19) rfl)
theorem hb_420 : Cond.fieldLink RX6 427 "HarbourlightMonitor$Group" "wasLoud" "Z" ∈ hm_B := hm_Bi10 _ (List.mem_of_getElem? (i := 20) rfl)
theorem hb_421 : Cond.methodLink RX6 404 yX6_gatherLoud ∈ hm_B := hm_Bi10 _ (List.mem_of_getElem? (i := 21) rfl)
theorem hb_422 : Cond.instanceMethod yX6_gatherLoud ∈ hm_B := hm_Bi10 _ (List.mem_of_getElem? (i := 22) rfl)
theorem hb_423 : Cond.selects RX6 yX6_gatherLoud yX6_gatherLoud ∈ hm_B := hm_Bi10 _ (List.mem_of_getElem? (i := 23) rfl)
theorem hb_424 : Cond.code yX6_gatherLoud cX6_gatherLoud 5 none ∈ hm_B := hm_Bi10 _ (List.mem_of_getElem? (i := 24) rfl)
theorem hb_425 : Cond.methodLink RX6 430 yX1_clearLoud ∈ hm_B := hm_Bi10 _ (List.mem_of_getElem? (i := 25) rfl)
theorem hb_426 : Cond.instanceMethod yX1_clearLoud ∈ hm_B := hm_Bi10 _ (List.mem_of_getElem? (i := 26) rfl)
theorem hb_427 : Cond.selects RX1 yX1_clearLoud yX1_clearLoud ∈ hm_B := hm_Bi10 _ (List.mem_of_getElem? (i := 27) rfl)
theorem hb_428 : Cond.code yX1_clearLoud cX1_clearLoud 2 none ∈ hm_B := hm_Bi10 _ (List.mem_of_getElem? (i := 28) rfl)
theorem hb_429 : Cond.methodLink RX6 433 yX6_groupOf ∈ hm_B := hm_Bi10 _ (List.mem_of_getElem? (i := 29) rfl)
theorem hb_430 : Cond.instanceMethod yX6_groupOf ∈ hm_B := hm_Bi10 _ (List.mem_of_getElem? (i := 30) rfl)
theorem hb_431 : Cond.selects RX6 yX6_groupOf yX6_groupOf ∈ hm_B := hm_Bi10 _ (List.mem_of_getElem? (i := 31) rfl)
theorem hb_432 : Cond.code yX6_groupOf cX6_groupOf 4 (some .int) ∈ hm_B := hm_Bi10 _ (List.mem_of_getElem? (i := 32) rfl)
theorem hb_433 : Cond.methodLink RX6 436 yX1_addLoud ∈ hm_B := hm_Bi10 _ (List.mem_of_getElem? (i := 33) rfl)
theorem hb_434 : Cond.instanceMethod yX1_addLoud ∈ hm_B := hm_Bi10 _ (List.mem_of_getElem? (i := 34) rfl)
theorem hb_435 : Cond.selects RX1 yX1_addLoud yX1_addLoud ∈ hm_B := hm_Bi10 _ (List.mem_of_getElem? (i := 35) rfl)
theorem hb_436 : Cond.code yX1_addLoud cX1_addLoud 3 none ∈ hm_B := hm_Bi10 _ (List.mem_of_getElem? (i := 36) rfl)
theorem hb_437 : Cond.methodLink RX6 407 yX1_isDue ∈ hm_B := hm_Bi10 _ (List.mem_of_getElem? (i := 37) rfl)
theorem hb_438 : Cond.instanceMethod yX1_isDue ∈ hm_B := hm_Bi10 _ (List.mem_of_getElem? (i := 38) rfl)
theorem hb_439 : Cond.selects RX1 yX1_isDue yX1_isDue ∈ hm_B := hm_Bi10 _ (List.mem_of_getElem? (i := 39) rfl)
theorem hb_440 : Cond.code yX1_isDue cX1_isDue 4 (some .boolean) ∈ hm_B := hm_Bi11 _ (List.mem_of_getElem? (i := 0) rfl)
theorem hb_441 : Cond.methodLink RX1 40 yX1_isLoud ∈ hm_B := hm_Bi11 _ (List.mem_of_getElem? (i := 1) rfl)
theorem hb_442 : Cond.instanceMethod yX1_isLoud ∈ hm_B := hm_Bi11 _ (List.mem_of_getElem? (i := 2) rfl)
theorem hb_443 : Cond.selects RX1 yX1_isLoud yX1_isLoud ∈ hm_B := hm_Bi11 _ (List.mem_of_getElem? (i := 3) rfl)
theorem hb_444 : Cond.code yX1_isLoud cX1_isLoud 1 (some .boolean) ∈ hm_B := hm_Bi11 _ (List.mem_of_getElem? (i := 4) rfl)
theorem hb_445 : Cond.methodLink RX1 30 yX1_countLoudNow ∈ hm_B := hm_Bi11 _ (List.mem_of_getElem? (i := 5) rfl)
theorem hb_446 : Cond.instanceMethod yX1_countLoudNow ∈ hm_B := hm_Bi11 _ (List.mem_of_getElem? (i := 6) rfl)
theorem hb_447 : Cond.selects RX1 yX1_countLoudNow yX1_countLoudNow ∈ hm_B := hm_Bi11 _ (List.mem_of_getElem? (i := 7) rfl)
theorem hb_448 : Cond.code yX1_countLoudNow cX1_countLoudNow 3 (some .int) ∈ hm_B := hm_Bi11 _ (List.mem_of_getElem? (i := 8) rfl)
theorem hb_449 : Cond.methodLink RX1 34 yJ6_bitCount_0f7a4 ∈ hm_B := hm_Bi11 _ (List.mem_of_getElem? (i := 9) rfl)
theorem hb_450 : Cond.static yJ6_bitCount_0f7a4 ∈ hm_B := hm_Bi11 _ (List.mem_of_getElem? (i := 10) rfl)
theorem hb_451 : Cond.initialized RJ6 ∈ hm_B := hm_Bi11 _ (List.mem_of_getElem? (i := 11) rfl)
theorem hb_452 : Cond.code yJ6_bitCount_0f7a4 cJ6_bitCount_0f7a4 1 (some .int) ∈ hm_B := hm_Bi11 _ (List.mem_of_getElem? (i := 12) rfl)
theorem hb_453 : Cond.constant RJ6 265 (1431655765) ∈ hm_B := hm_Bi11 _ (List.mem_of_getElem? (i := 13) rfl)
theorem hb_454 : Cond.constant RJ6 266 (858993459) ∈ hm_B := hm_Bi11 _ (List.mem_of_getElem? (i := 14) rfl)
theorem hb_455 : Cond.constant RJ6 267 (252645135) ∈ hm_B := hm_Bi11 _ (List.mem_of_getElem? (i := 15) rfl)
theorem hb_456 : Cond.methodLink RX1 44 yX1_hasTold ∈ hm_B := hm_Bi11 _ (List.mem_of_getElem? (i := 16) rfl)
theorem hb_457 : Cond.instanceMethod yX1_hasTold ∈ hm_B := hm_Bi11 _ (List.mem_of_getElem? (i := 17) rfl)
theorem hb_458 : Cond.selects RX1 yX1_hasTold yX1_hasTold ∈ hm_B := hm_Bi11 _ (List.mem_of_getElem? (i := 18) rfl)
theorem hb_459 : Cond.code yX1_hasTold cX1_hasTold 2 (some .boolean) ∈ hm_B := hm_Bi11 _ (List.mem_of_getElem? (i := 19) rfl)
theorem hb_460 : Cond.methodLink RX1 47 yX1_hasChanged ∈ hm_B := hm_Bi11 _ (List.mem_of_getElem? (i := 20) rfl)
theorem hb_461 : Cond.instanceMethod yX1_hasChanged ∈ hm_B := hm_Bi11 _ (List.mem_of_getElem? (i := 21) rfl)
theorem hb_462 : Cond.selects RX1 yX1_hasChanged yX1_hasChanged ∈ hm_B := hm_Bi11 _ (List.mem_of_getElem? (i := 22) rfl)
theorem hb_463 : Cond.code yX1_hasChanged cX1_hasChanged 2 (some .boolean) ∈ hm_B := hm_Bi11 _ (List.mem_of_getElem? (i := 23) rfl)
theorem hb_464 : Cond.methodLink RX6 410 yX1_countLoudNow ∈ hm_B := hm_Bi11 _ (List.mem_of_getElem? (i := 24) rfl)
theorem hb_465 : Cond.methodLink RX6 413 yX6_greatestRank ∈ hm_B := hm_Bi11 _ (List.mem_of_getElem? (i := 25) rfl)
theorem hb_466 : Cond.instanceMethod yX6_greatestRank ∈ hm_B := hm_Bi11 _ (List.mem_of_getElem? (i := 26) rfl)
theorem hb_467 : Cond.selects RX6 yX6_greatestRank yX6_greatestRank ∈ hm_B := hm_Bi11 _ (List.mem_of_getElem? (i := 27) rfl)
theorem hb_468 : Cond.code yX6_greatestRank cX6_greatestRank 4 (some .int) ∈ hm_B := hm_Bi11 _ (List.mem_of_getElem? (i := 28) rfl)
theorem hb_469 : Cond.methodLink RX6 443 Lib.Math.max.name ∈ hm_B := hm_Bi11 _ (List.mem_of_getElem? (i := 29) rfl)
theorem hb_470 : Cond.methodLink RX6 440 yX1_hasLoudOf ∈ hm_B := hm_Bi11 _ (List.mem_of_getElem? (i := 30) rfl)
theorem hb_471 : Cond.instanceMethod yX1_hasLoudOf ∈ hm_B := hm_Bi11 _ (List.mem_of_getElem? (i := 31) rfl)
theorem hb_472 : Cond.selects RX1 yX1_hasLoudOf yX1_hasLoudOf ∈ hm_B := hm_Bi11 _ (List.mem_of_getElem? (i := 32) rfl)
theorem hb_473 : Cond.code yX1_hasLoudOf cX1_hasLoudOf 2 (some .boolean) ∈ hm_B := hm_Bi11 _ (List.mem_of_getElem? (i := 33) rfl)
theorem hb_474 : Cond.methodLink RX6 417 yX3_keep ∈ hm_B := hm_Bi11 _ (List.mem_of_getElem? (i := 34) rfl)
theorem hb_475 : Cond.instanceMethod yX3_keep ∈ hm_B := hm_Bi11 _ (List.mem_of_getElem? (i := 35) rfl)
theorem hb_476 : Cond.selects RX3 yX3_keep yX3_keep ∈ hm_B := hm_Bi11 _ (List.mem_of_getElem? (i := 36) rfl)
theorem hb_477 : Cond.code yX3_keep cX3_keep 6 none ∈ hm_B := hm_Bi11 _ (List.mem_of_getElem? (i := 37) rfl)
theorem hb_478 : Cond.methodLink RX3 26 Lib.Math.min.name ∈ hm_B := hm_Bi11 _ (List.mem_of_getElem? (i := 38) rfl)
theorem hb_479 : Cond.methodLink RX6 420 yX1_markTold ∈ hm_B := hm_Bi11 _ (List.mem_of_getElem? (i := 39) rfl)
theorem hb_480 : Cond.instanceMethod yX1_markTold ∈ hm_B := hm_Bi12 _ (List.mem_of_getElem? (i := 0) rfl)
theorem hb_481 : Cond.selects RX1 yX1_markTold yX1_markTold ∈ hm_B := hm_Bi12 _ (List.mem_of_getElem? (i := 1) rfl)
theorem hb_482 : Cond.code yX1_markTold cX1_markTold 2 none ∈ hm_B := hm_Bi12 _ (List.mem_of_getElem? (i := 2) rfl)
theorem hb_483 : Cond.methodLink RX1 50 arraycopyName ∈ hm_B := hm_Bi12 _ (List.mem_of_getElem? (i := 3) rfl)
theorem hb_484 : Cond.methodLink RX6 423 yX1_isLoud ∈ hm_B := hm_Bi12 _ (List.mem_of_getElem? (i := 4) rfl)
theorem hb_485 : Cond.methodLink RL 56 yX6_digest ∈ hm_B := hm_Bi12 _ (List.mem_of_getElem? (i := 5) rfl)
theorem hb_486 : Cond.instanceMethod yX6_digest ∈ hm_B := hm_Bi12 _ (List.mem_of_getElem? (i := 6) rfl)
theorem hb_487 : Cond.selects RX6 yX6_digest yX6_digest ∈ hm_B := hm_Bi12 _ (List.mem_of_getElem? (i := 7) rfl)
theorem hb_488 : Cond.code yX6_digest cX6_digest 5 (some .long) ∈ hm_B := hm_Bi12 _ (List.mem_of_getElem? (i := 8) rfl)
theorem hb_489 : Cond.constantLong RX6 294 (58073) ∈ hm_B := hm_Bi12 _ (List.mem_of_getElem? (i := 9) rfl)
theorem hb_490 : Cond.methodLink RX6 296 yX6_clock ∈ hm_B := hm_Bi12 _ (List.mem_of_getElem? (i := 10) rfl)
theorem hb_491 : Cond.instanceMethod yX6_clock ∈ hm_B := hm_Bi12 _ (List.mem_of_getElem? (i := 11) rfl)
theorem hb_492 : Cond.selects RX6 yX6_clock yX6_clock ∈ hm_B := hm_Bi12 _ (List.mem_of_getElem? (i := 12) rfl)
theorem hb_493 : Cond.code yX6_clock cX6_clock 1 (some .int) ∈ hm_B := hm_Bi12 _ (List.mem_of_getElem? (i := 13) rfl)
theorem hb_494 : Cond.methodLink RX6 299 yX6_mix ∈ hm_B := hm_Bi12 _ (List.mem_of_getElem? (i := 14) rfl)
theorem hb_495 : Cond.static yX6_mix ∈ hm_B := hm_Bi12 _ (List.mem_of_getElem? (i := 15) rfl)
theorem hb_496 : Cond.code yX6_mix cX6_mix 3 (some .long) ∈ hm_B := hm_Bi12 _ (List.mem_of_getElem? (i := 16) rfl)
theorem hb_497 : Cond.constantLong RX6 325 (31) ∈ hm_B := hm_Bi12 _ (List.mem_of_getElem? (i := 17) rfl)
theorem hb_498 : Cond.methodLink RX6 303 yX6_many ∈ hm_B := hm_Bi12 _ (List.mem_of_getElem? (i := 18) rfl)
theorem hb_499 : Cond.methodLink RX6 306 yX6_mixSeries ∈ hm_B := hm_Bi12 _ (List.mem_of_getElem? (i := 19) rfl)
theorem hb_500 : Cond.instanceMethod yX6_mixSeries ∈ hm_B := hm_Bi12 _ (List.mem_of_getElem? (i := 20) rfl)
theorem hb_501 : Cond.selects RX6 yX6_mixSeries yX6_mixSeries ∈ hm_B := hm_Bi12 _ (List.mem_of_getElem? (i := 21) rfl)
theorem hb_502 : Cond.code yX6_mixSeries cX6_mixSeries 7 (some .long) ∈ hm_B := hm_Bi12 _ (List.mem_of_getElem? (i := 22) rfl)
theorem hb_503 : Cond.methodLink RX6 327 yX6_now ∈ hm_B := hm_Bi12 _ (List.mem_of_getElem? (i := 23) rfl)
theorem hb_504 : Cond.instanceMethod yX6_now ∈ hm_B := hm_Bi12 _ (List.mem_of_getElem? (i := 24) rfl)
theorem hb_505 : Cond.selects RX6 yX6_now yX6_now ∈ hm_B := hm_Bi12 _ (List.mem_of_getElem? (i := 25) rfl)
theorem hb_506 : Cond.code yX6_now cX6_now 4 (some .int) ∈ hm_B := hm_Bi12 _ (List.mem_of_getElem? (i := 26) rfl)
theorem hb_507 : Cond.fieldLink RX6 205 "HarbourlightMonitor$Series" "held" "I" ∈ hm_B := hm_Bi12 _ (List.mem_of_getElem? (i := 27) rfl)
theorem hb_508 : Cond.methodLink RX6 330 yX6_sample ∈ hm_B := hm_Bi12 _ (List.mem_of_getElem? (i := 28) rfl)
theorem hb_509 : Cond.instanceMethod yX6_sample ∈ hm_B := hm_Bi12 _ (List.mem_of_getElem? (i := 29) rfl)
theorem hb_510 : Cond.selects RX6 yX6_sample yX6_sample ∈ hm_B := hm_Bi12 _ (List.mem_of_getElem? (i := 30) rfl)
theorem hb_511 : Cond.code yX6_sample cX6_sample 4 (some .int) ∈ hm_B := hm_Bi12 _ (List.mem_of_getElem? (i := 31) rfl)
theorem hb_512 : Cond.methodLink RX6 210 yX5_past ∈ hm_B := hm_Bi12 _ (List.mem_of_getElem? (i := 32) rfl)
theorem hb_513 : Cond.methodLink RX6 333 yX6_look ∈ hm_B := hm_Bi12 _ (List.mem_of_getElem? (i := 33) rfl)
theorem hb_514 : Cond.instanceMethod yX6_look ∈ hm_B := hm_Bi12 _ (List.mem_of_getElem? (i := 34) rfl)
theorem hb_515 : Cond.selects RX6 yX6_look yX6_look ∈ hm_B := hm_Bi12 _ (List.mem_of_getElem? (i := 35) rfl)
theorem hb_516 : Cond.code yX6_look cX6_look 5 (some .int) ∈ hm_B := hm_Bi12 _ (List.mem_of_getElem? (i := 36) rfl)
theorem hb_517 : Cond.methodLink RX6 309 yX6_calm ∈ hm_B := hm_Bi12 _ (List.mem_of_getElem? (i := 37) rfl)
theorem hb_518 : Cond.instanceMethod yX6_calm ∈ hm_B := hm_Bi12 _ (List.mem_of_getElem? (i := 38) rfl)
theorem hb_519 : Cond.selects RX6 yX6_calm yX6_calm ∈ hm_B := hm_Bi12 _ (List.mem_of_getElem? (i := 39) rfl)
theorem hb_520 : Cond.code yX6_calm cX6_calm 7 (some .int) ∈ hm_B := hm_Bi13 _ (List.mem_of_getElem? (i := 0) rfl)
theorem hb_521 : Cond.methodLink RX6 312 yX6_beyond ∈ hm_B := hm_Bi13 _ (List.mem_of_getElem? (i := 1) rfl)
theorem hb_522 : Cond.instanceMethod yX6_beyond ∈ hm_B := hm_Bi13 _ (List.mem_of_getElem? (i := 2) rfl)
theorem hb_523 : Cond.selects RX6 yX6_beyond yX6_beyond ∈ hm_B := hm_Bi13 _ (List.mem_of_getElem? (i := 3) rfl)
theorem hb_524 : Cond.code yX6_beyond cX6_beyond 6 (some .int) ∈ hm_B := hm_Bi13 _ (List.mem_of_getElem? (i := 4) rfl)
theorem hb_525 : Cond.methodLink RX6 315 yX6_mixAlert ∈ hm_B := hm_Bi13 _ (List.mem_of_getElem? (i := 5) rfl)
theorem hb_526 : Cond.instanceMethod yX6_mixAlert ∈ hm_B := hm_Bi13 _ (List.mem_of_getElem? (i := 6) rfl)
theorem hb_527 : Cond.selects RX6 yX6_mixAlert yX6_mixAlert ∈ hm_B := hm_Bi13 _ (List.mem_of_getElem? (i := 7) rfl)
theorem hb_528 : Cond.code yX6_mixAlert cX6_mixAlert 9 (some .long) ∈ hm_B := hm_Bi13 _ (List.mem_of_getElem? (i := 8) rfl)
theorem hb_529 : Cond.methodLink RX6 336 yX6_alertAt ∈ hm_B := hm_Bi13 _ (List.mem_of_getElem? (i := 9) rfl)
theorem hb_530 : Cond.instanceMethod yX6_alertAt ∈ hm_B := hm_Bi13 _ (List.mem_of_getElem? (i := 10) rfl)
theorem hb_531 : Cond.selects RX6 yX6_alertAt yX6_alertAt ∈ hm_B := hm_Bi13 _ (List.mem_of_getElem? (i := 11) rfl)
theorem hb_532 : Cond.code yX6_alertAt cX6_alertAt 8 (some .int) ∈ hm_B := hm_Bi13 _ (List.mem_of_getElem? (i := 12) rfl)
theorem hb_533 : Cond.methodLink RX6 242 yX4_keyOfAlert ∈ hm_B := hm_Bi13 _ (List.mem_of_getElem? (i := 13) rfl)
theorem hb_534 : Cond.instanceMethod yX4_keyOfAlert ∈ hm_B := hm_Bi13 _ (List.mem_of_getElem? (i := 14) rfl)
theorem hb_535 : Cond.selects RX4 yX4_keyOfAlert yX4_keyOfAlert ∈ hm_B := hm_Bi13 _ (List.mem_of_getElem? (i := 15) rfl)
theorem hb_536 : Cond.code yX4_keyOfAlert cX4_keyOfAlert 4 (some .int) ∈ hm_B := hm_Bi13 _ (List.mem_of_getElem? (i := 16) rfl)
theorem hb_537 : Cond.methodLink RX6 339 yX6_alert ∈ hm_B := hm_Bi13 _ (List.mem_of_getElem? (i := 17) rfl)
theorem hb_538 : Cond.instanceMethod yX6_alert ∈ hm_B := hm_Bi13 _ (List.mem_of_getElem? (i := 18) rfl)
theorem hb_539 : Cond.selects RX6 yX6_alert yX6_alert ∈ hm_B := hm_Bi13 _ (List.mem_of_getElem? (i := 19) rfl)
theorem hb_540 : Cond.code yX6_alert cX6_alert 6 (some .int) ∈ hm_B := hm_Bi13 _ (List.mem_of_getElem? (i := 20) rfl)
theorem hb_541 : Cond.fieldLink RX6 236 "HarbourlightMonitor$Alert" "since" "I" ∈ hm_B := hm_Bi13 _ (List.mem_of_getElem? (i := 21) rfl)
theorem hb_542 : Cond.methodLink RX6 318 yX6_mixHush ∈ hm_B := hm_Bi13 _ (List.mem_of_getElem? (i := 22) rfl)
theorem hb_543 : Cond.instanceMethod yX6_mixHush ∈ hm_B := hm_Bi13 _ (List.mem_of_getElem? (i := 23) rfl)
theorem hb_544 : Cond.selects RX6 yX6_mixHush yX6_mixHush ∈ hm_B := hm_Bi13 _ (List.mem_of_getElem? (i := 24) rfl)
theorem hb_545 : Cond.code yX6_mixHush cX6_mixHush 7 (some .long) ∈ hm_B := hm_Bi13 _ (List.mem_of_getElem? (i := 25) rfl)
theorem hb_546 : Cond.methodLink RX6 342 yX6_ofHush ∈ hm_B := hm_Bi13 _ (List.mem_of_getElem? (i := 26) rfl)
theorem hb_547 : Cond.instanceMethod yX6_ofHush ∈ hm_B := hm_Bi13 _ (List.mem_of_getElem? (i := 27) rfl)
theorem hb_548 : Cond.selects RX6 yX6_ofHush yX6_ofHush ∈ hm_B := hm_Bi13 _ (List.mem_of_getElem? (i := 28) rfl)
theorem hb_549 : Cond.code yX6_ofHush cX6_ofHush 4 (some .int) ∈ hm_B := hm_Bi13 _ (List.mem_of_getElem? (i := 29) rfl)
theorem hb_550 : Cond.fieldLink RX6 260 "HarbourlightMonitor$Hush" "rule" "I" ∈ hm_B := hm_Bi13 _ (List.mem_of_getElem? (i := 30) rfl)
theorem hb_551 : Cond.fieldLink RX6 263 "HarbourlightMonitor$Hush" "place" "I" ∈ hm_B := hm_Bi13 _ (List.mem_of_getElem? (i := 31) rfl)
theorem hb_552 : Cond.fieldLink RX6 266 "HarbourlightMonitor$Hush" "till" "I" ∈ hm_B := hm_Bi13 _ (List.mem_of_getElem? (i := 32) rfl)
theorem hb_553 : Cond.methodLink RX6 166 yX6_requireHush ∈ hm_B := hm_Bi13 _ (List.mem_of_getElem? (i := 33) rfl)
theorem hb_554 : Cond.instanceMethod yX6_requireHush ∈ hm_B := hm_Bi13 _ (List.mem_of_getElem? (i := 34) rfl)
theorem hb_555 : Cond.selects RX6 yX6_requireHush yX6_requireHush ∈ hm_B := hm_Bi13 _ (List.mem_of_getElem? (i := 35) rfl)
theorem hb_556 : Cond.code yX6_requireHush cX6_requireHush 2 (some (.object "HarbourlightMonitor$Hush")) ∈ hm_B := hm_Bi13 _ (List.mem_of_getElem? (i := 36) rfl)
theorem hb_557 : Cond.methodLink RX6 269 yX6_countCovered ∈ hm_B := hm_Bi13 _ (List.mem_of_getElem? (i := 37) rfl)
theorem hb_558 : Cond.instanceMethod yX6_countCovered ∈ hm_B := hm_Bi13 _ (List.mem_of_getElem? (i := 38) rfl)
theorem hb_559 : Cond.selects RX6 yX6_countCovered yX6_countCovered ∈ hm_B := hm_Bi13 _ (List.mem_of_getElem? (i := 39) rfl)
theorem hb_560 : Cond.code yX6_countCovered cX6_countCovered 6 (some .int) ∈ hm_B := hm_Bi14 _ (List.mem_of_getElem? (i := 0) rfl)
theorem hb_561 : Cond.methodLink RX6 398 yX4_hasAlert ∈ hm_B := hm_Bi14 _ (List.mem_of_getElem? (i := 1) rfl)
theorem hb_562 : Cond.instanceMethod yX4_hasAlert ∈ hm_B := hm_Bi14 _ (List.mem_of_getElem? (i := 2) rfl)
theorem hb_563 : Cond.selects RX4 yX4_hasAlert yX4_hasAlert ∈ hm_B := hm_Bi14 _ (List.mem_of_getElem? (i := 3) rfl)
theorem hb_564 : Cond.code yX4_hasAlert cX4_hasAlert 3 (some .boolean) ∈ hm_B := hm_Bi14 _ (List.mem_of_getElem? (i := 4) rfl)
theorem hb_565 : Cond.methodLink RX6 321 yX6_mixNotices ∈ hm_B := hm_Bi14 _ (List.mem_of_getElem? (i := 5) rfl)
theorem hb_566 : Cond.instanceMethod yX6_mixNotices ∈ hm_B := hm_Bi14 _ (List.mem_of_getElem? (i := 6) rfl)
theorem hb_567 : Cond.selects RX6 yX6_mixNotices yX6_mixNotices ∈ hm_B := hm_Bi14 _ (List.mem_of_getElem? (i := 7) rfl)
theorem hb_568 : Cond.code yX6_mixNotices cX6_mixNotices 7 (some .long) ∈ hm_B := hm_Bi14 _ (List.mem_of_getElem? (i := 8) rfl)
theorem hb_569 : Cond.fieldLink RX6 275 "HarbourlightMonitor$NoticeLog" "held" "I" ∈ hm_B := hm_Bi14 _ (List.mem_of_getElem? (i := 9) rfl)
theorem hb_570 : Cond.methodLink RX6 345 yX6_notice ∈ hm_B := hm_Bi14 _ (List.mem_of_getElem? (i := 10) rfl)
theorem hb_571 : Cond.instanceMethod yX6_notice ∈ hm_B := hm_Bi14 _ (List.mem_of_getElem? (i := 11) rfl)
theorem hb_572 : Cond.selects RX6 yX6_notice yX6_notice ∈ hm_B := hm_Bi14 _ (List.mem_of_getElem? (i := 12) rfl)
theorem hb_573 : Cond.code yX6_notice cX6_notice 3 (some .int) ∈ hm_B := hm_Bi14 _ (List.mem_of_getElem? (i := 13) rfl)
theorem hb_574 : Cond.methodLink RX6 278 yX3_factOf ∈ hm_B := hm_Bi14 _ (List.mem_of_getElem? (i := 14) rfl)
theorem hb_575 : Cond.instanceMethod yX3_factOf ∈ hm_B := hm_Bi14 _ (List.mem_of_getElem? (i := 15) rfl)
theorem hb_576 : Cond.selects RX3 yX3_factOf yX3_factOf ∈ hm_B := hm_Bi14 _ (List.mem_of_getElem? (i := 16) rfl)
theorem hb_577 : Cond.code yX3_factOf cX3_factOf 3 (some .int) ∈ hm_B := hm_Bi14 _ (List.mem_of_getElem? (i := 17) rfl)
theorem hb_578 : Cond.methodLink RL 60 yX6_alertAt ∈ hm_B := hm_Bi14 _ (List.mem_of_getElem? (i := 18) rfl)
theorem hb_579 : Cond.methodLink RL 63 yX6_alert ∈ hm_B := hm_Bi14 _ (List.mem_of_getElem? (i := 19) rfl)
theorem hb_580 : Cond.methodLink RL 66 yX6_clock ∈ hm_B := hm_Bi14 _ (List.mem_of_getElem? (i := 20) rfl)
theorem hb_581 : Cond.methodLink RL 70 yX6_look ∈ hm_B := hm_Bi14 _ (List.mem_of_getElem? (i := 21) rfl)
theorem hb_582 : Cond.methodLink RL 73 yX6_sample ∈ hm_B := hm_Bi14 _ (List.mem_of_getElem? (i := 22) rfl)
theorem hb_583 : Cond.methodLink RL 76 yX6_now ∈ hm_B := hm_Bi14 _ (List.mem_of_getElem? (i := 23) rfl)
theorem hb_584 : Cond.methodLink RL 84 yX6_ofHush ∈ hm_B := hm_Bi14 _ (List.mem_of_getElem? (i := 24) rfl)
theorem hb_585 : Cond.methodLink RL 87 yX6_loudWithout ∈ hm_B := hm_Bi14 _ (List.mem_of_getElem? (i := 25) rfl)
theorem hb_586 : Cond.instanceMethod yX6_loudWithout ∈ hm_B := hm_Bi14 _ (List.mem_of_getElem? (i := 26) rfl)
theorem hb_587 : Cond.selects RX6 yX6_loudWithout yX6_loudWithout ∈ hm_B := hm_Bi14 _ (List.mem_of_getElem? (i := 27) rfl)
theorem hb_588 : Cond.code yX6_loudWithout cX6_loudWithout 2 (some .int) ∈ hm_B := hm_Bi14 _ (List.mem_of_getElem? (i := 28) rfl)
theorem hb_589 : Cond.methodLink RL 90 yX6_calm ∈ hm_B := hm_Bi14 _ (List.mem_of_getElem? (i := 29) rfl)
theorem hb_590 : Cond.methodLink RL 93 yX6_beyond ∈ hm_B := hm_Bi14 _ (List.mem_of_getElem? (i := 30) rfl)
theorem hb_591 : Cond.methodLink RL 96 yX6_notice ∈ hm_B := hm_Bi14 _ (List.mem_of_getElem? (i := 31) rfl)
theorem hb_592 : Cond.methodLink RL 99 yX6_dropRule ∈ hm_B := hm_Bi14 _ (List.mem_of_getElem? (i := 32) rfl)
theorem hb_593 : Cond.instanceMethod yX6_dropRule ∈ hm_B := hm_Bi14 _ (List.mem_of_getElem? (i := 33) rfl)
theorem hb_594 : Cond.selects RX6 yX6_dropRule yX6_dropRule ∈ hm_B := hm_Bi14 _ (List.mem_of_getElem? (i := 34) rfl)
theorem hb_595 : Cond.code yX6_dropRule cX6_dropRule 2 (some .int) ∈ hm_B := hm_Bi14 _ (List.mem_of_getElem? (i := 35) rfl)
theorem hb_596 : Cond.methodLink RX6 148 yJx4a65c_remove_915e3 ∈ hm_B := hm_Bi14 _ (List.mem_of_getElem? (i := 36) rfl)
theorem hb_597 : Cond.instanceMethod yJx4a65c_remove_915e3 ∈ hm_B := hm_Bi14 _ (List.mem_of_getElem? (i := 37) rfl)
theorem hb_598 : Cond.selects RJx4a65c yJx4a65c_remove_915e3 yJx4a65c_remove_915e3 ∈ hm_B := hm_Bi14 _ (List.mem_of_getElem? (i := 38) rfl)
theorem hb_599 : Cond.code yJx4a65c_remove_915e3 cJx4a65c_remove_915e3 4 (some (.object "java/lang/Object")) ∈ hm_B := hm_Bi14 _ (List.mem_of_getElem? (i := 39) rfl)
theorem hb_600 : Cond.methodLink RJx4a65c 144 yJx4a65c_fastRemove_b59b0 ∈ hm_B := hm_Bi15 _ (List.mem_of_getElem? (i := 0) rfl)
theorem hb_601 : Cond.instanceMethod yJx4a65c_fastRemove_b59b0 ∈ hm_B := hm_Bi15 _ (List.mem_of_getElem? (i := 1) rfl)
theorem hb_602 : Cond.selects RJx4a65c yJx4a65c_fastRemove_b59b0 yJx4a65c_fastRemove_b59b0 ∈ hm_B := hm_Bi15 _ (List.mem_of_getElem? (i := 2) rfl)
theorem hb_603 : Cond.code yJx4a65c_fastRemove_b59b0 cJx4a65c_fastRemove_b59b0 4 none ∈ hm_B := hm_Bi15 _ (List.mem_of_getElem? (i := 3) rfl)
theorem hb_604 : Cond.methodLink RJx4a65c 112 arraycopyName ∈ hm_B := hm_Bi15 _ (List.mem_of_getElem? (i := 4) rfl)
theorem hb_605 : Cond.methodLink RX6 152 yX6_dropHushesOf ∈ hm_B := hm_Bi15 _ (List.mem_of_getElem? (i := 5) rfl)
theorem hb_606 : Cond.instanceMethod yX6_dropHushesOf ∈ hm_B := hm_Bi15 _ (List.mem_of_getElem? (i := 6) rfl)
theorem hb_607 : Cond.selects RX6 yX6_dropHushesOf yX6_dropHushesOf ∈ hm_B := hm_Bi15 _ (List.mem_of_getElem? (i := 7) rfl)
theorem hb_608 : Cond.code yX6_dropHushesOf cX6_dropHushesOf 3 none ∈ hm_B := hm_Bi15 _ (List.mem_of_getElem? (i := 8) rfl)
theorem hi_X60 : ∀ w ∈ wsX60, w ∈ hm_B := fun w h => hm_BiT w (List.mem_append_left _ h)
theorem hi_Jx4a65c0 : ∀ w ∈ wsJx4a65c0, w ∈ hm_B := fun w h => hm_BiT w (List.mem_append_right _ (List.mem_append_left _ h))
theorem hi_X10 : ∀ w ∈ wsX10, w ∈ hm_B := fun w h => hm_BiT w (List.mem_append_right _ (List.mem_append_right _ (List.mem_append_left _ h)))
theorem hi_X30 : ∀ w ∈ wsX30, w ∈ hm_B := fun w h => hm_BiT w (List.mem_append_right _ (List.mem_append_right _ (List.mem_append_right _ (List.mem_append_left _ h))))
theorem hi_X00 : ∀ w ∈ wsX00, w ∈ hm_B := fun w h => hm_BiT w (List.mem_append_right _ (List.mem_append_right _ (List.mem_append_right _ (List.mem_append_right _ (List.mem_append_left _ h)))))
theorem hi_X50 : ∀ w ∈ wsX50, w ∈ hm_B := fun w h => hm_BiT w (List.mem_append_right _ (List.mem_append_right _ (List.mem_append_right _ (List.mem_append_right _ (List.mem_append_right _ (List.mem_append_left _ h))))))
theorem hi_X40 : ∀ w ∈ wsX40, w ∈ hm_B := fun w h => hm_BiT w (List.mem_append_right _ (List.mem_append_right _ (List.mem_append_right _ (List.mem_append_right _ (List.mem_append_right _ (List.mem_append_right _ (List.mem_append_left _ h)))))))
theorem hi_X20 : ∀ w ∈ wsX20, w ∈ hm_B := fun w h => hm_BiT w (List.mem_append_right _ (List.mem_append_right _ (List.mem_append_right _ (List.mem_append_right _ (List.mem_append_right _ (List.mem_append_right _ (List.mem_append_right _ (h))))))))
end
section
theorem dX0_init_0 : decode cX0_init 0 = .ok (.aload_n 0, 1) := by decide +kernel
theorem dX0_init_1 : decode cX0_init 1 = .ok (.invokespecial 3, 3) := by decide +kernel
theorem dX0_init_4 : decode cX0_init 4 = .ok (.aload_n 0, 1) := by decide +kernel
theorem dX0_init_5 : decode cX0_init 5 = .ok (.iconst 0, 1) := by decide +kernel
theorem dX0_init_6 : decode cX0_init 6 = .ok (.putfield 9, 3) := by decide +kernel
theorem dX0_init_9 : decode cX0_init 9 = .ok (.aload_n 0, 1) := by decide +kernel
theorem dX0_init_10 : decode cX0_init 10 = .ok (.iconst (-1), 1) := by decide +kernel
theorem dX0_init_11 : decode cX0_init 11 = .ok (.putfield 15, 3) := by decide +kernel
theorem dX0_init_14 : decode cX0_init 14 = .ok (.aload_n 0, 1) := by decide +kernel
theorem dX0_init_15 : decode cX0_init 15 = .ok (.iconst 0, 1) := by decide +kernel
theorem dX0_init_16 : decode cX0_init 16 = .ok (.putfield 18, 3) := by decide +kernel
theorem dX0_init_19 : decode cX0_init 19 = .ok (.return_, 1) := by decide +kernel
theorem dX0_step_0 : decode cX0_step 0 = .ok (.iload_n 1, 1) := by decide +kernel
theorem dX0_step_1 : decode cX0_step 1 = .ok (.ifCond .eq 12, 3) := by decide +kernel
theorem dX0_step_4 : decode cX0_step 4 = .ok (.aload_n 0, 1) := by decide +kernel
theorem dX0_step_5 : decode cX0_step 5 = .ok (.iload_n 2, 1) := by decide +kernel
theorem dX0_step_6 : decode cX0_step 6 = .ok (.iload_n 3, 1) := by decide +kernel
theorem dX0_step_7 : decode cX0_step 7 = .ok (.invokevirtual 21, 3) := by decide +kernel
theorem dX0_step_10 : decode cX0_step 10 = .ok (.goto 7, 3) := by decide +kernel
theorem dX0_step_13 : decode cX0_step 13 = .ok (.aload_n 0, 1) := by decide +kernel
theorem dX0_step_14 : decode cX0_step 14 = .ok (.invokevirtual 25, 3) := by decide +kernel
theorem dX0_step_17 : decode cX0_step 17 = .ok (.return_, 1) := by decide +kernel
theorem dX0_rise_0 : decode cX0_rise 0 = .ok (.aload_n 0, 1) := by decide +kernel
theorem dX0_rise_1 : decode cX0_rise 1 = .ok (.iconst 0, 1) := by decide +kernel
theorem dX0_rise_2 : decode cX0_rise 2 = .ok (.putfield 18, 3) := by decide +kernel
theorem dX0_rise_5 : decode cX0_rise 5 = .ok (.aload_n 0, 1) := by decide +kernel
theorem dX0_rise_6 : decode cX0_rise 6 = .ok (.getfield 9, 3) := by decide +kernel
theorem dX0_rise_9 : decode cX0_rise 9 = .ok (.ifCond .ne 13, 3) := by decide +kernel
theorem dX0_rise_12 : decode cX0_rise 12 = .ok (.aload_n 0, 1) := by decide +kernel
theorem dX0_rise_13 : decode cX0_rise 13 = .ok (.iconst 1, 1) := by decide +kernel
theorem dX0_rise_14 : decode cX0_rise 14 = .ok (.putfield 9, 3) := by decide +kernel
theorem dX0_rise_17 : decode cX0_rise 17 = .ok (.aload_n 0, 1) := by decide +kernel
theorem dX0_rise_18 : decode cX0_rise 18 = .ok (.iload_n 2, 1) := by decide +kernel
theorem dX0_rise_19 : decode cX0_rise 19 = .ok (.putfield 15, 3) := by decide +kernel
theorem dX0_rise_22 : decode cX0_rise 22 = .ok (.aload_n 0, 1) := by decide +kernel
theorem dX0_rise_23 : decode cX0_rise 23 = .ok (.getfield 9, 3) := by decide +kernel
theorem dX0_rise_26 : decode cX0_rise 26 = .ok (.iconst 1, 1) := by decide +kernel
theorem dX0_rise_27 : decode cX0_rise 27 = .ok (.if_icmp .ne 23, 3) := by decide +kernel
theorem dX0_rise_30 : decode cX0_rise 30 = .ok (.iload_n 2, 1) := by decide +kernel
theorem dX0_rise_31 : decode cX0_rise 31 = .ok (.aload_n 0, 1) := by decide +kernel
theorem dX0_rise_32 : decode cX0_rise 32 = .ok (.getfield 15, 3) := by decide +kernel
theorem dX0_rise_35 : decode cX0_rise 35 = .ok (.isub, 1) := by decide +kernel
theorem dX0_rise_36 : decode cX0_rise 36 = .ok (.iload_n 1, 1) := by decide +kernel
theorem dX0_rise_37 : decode cX0_rise 37 = .ok (.if_icmp .lt 13, 3) := by decide +kernel
theorem dX0_rise_40 : decode cX0_rise 40 = .ok (.aload_n 0, 1) := by decide +kernel
theorem dX0_rise_41 : decode cX0_rise 41 = .ok (.iconst 2, 1) := by decide +kernel
theorem dX0_rise_42 : decode cX0_rise 42 = .ok (.putfield 9, 3) := by decide +kernel
theorem dX0_rise_45 : decode cX0_rise 45 = .ok (.aload_n 0, 1) := by decide +kernel
theorem dX0_rise_46 : decode cX0_rise 46 = .ok (.iload_n 2, 1) := by decide +kernel
theorem dX0_rise_47 : decode cX0_rise 47 = .ok (.putfield 15, 3) := by decide +kernel
theorem dX0_rise_50 : decode cX0_rise 50 = .ok (.return_, 1) := by decide +kernel
theorem dX0_fall_0 : decode cX0_fall 0 = .ok (.aload_n 0, 1) := by decide +kernel
theorem dX0_fall_1 : decode cX0_fall 1 = .ok (.dup, 1) := by decide +kernel
theorem dX0_fall_2 : decode cX0_fall 2 = .ok (.getfield 18, 3) := by decide +kernel
theorem dX0_fall_5 : decode cX0_fall 5 = .ok (.iconst 1, 1) := by decide +kernel
theorem dX0_fall_6 : decode cX0_fall 6 = .ok (.iadd, 1) := by decide +kernel
theorem dX0_fall_7 : decode cX0_fall 7 = .ok (.putfield 18, 3) := by decide +kernel
theorem dX0_fall_10 : decode cX0_fall 10 = .ok (.aload_n 0, 1) := by decide +kernel
theorem dX0_fall_11 : decode cX0_fall 11 = .ok (.getfield 9, 3) := by decide +kernel
theorem dX0_fall_14 : decode cX0_fall 14 = .ok (.iconst 2, 1) := by decide +kernel
theorem dX0_fall_15 : decode cX0_fall 15 = .ok (.if_icmp .ne 11, 3) := by decide +kernel
theorem dX0_fall_18 : decode cX0_fall 18 = .ok (.aload_n 0, 1) := by decide +kernel
theorem dX0_fall_19 : decode cX0_fall 19 = .ok (.getfield 18, 3) := by decide +kernel
theorem dX0_fall_22 : decode cX0_fall 22 = .ok (.iconst 3, 1) := by decide +kernel
theorem dX0_fall_23 : decode cX0_fall 23 = .ok (.if_icmp .lt 13, 3) := by decide +kernel
theorem dX0_fall_26 : decode cX0_fall 26 = .ok (.aload_n 0, 1) := by decide +kernel
theorem dX0_fall_27 : decode cX0_fall 27 = .ok (.iconst 0, 1) := by decide +kernel
theorem dX0_fall_28 : decode cX0_fall 28 = .ok (.putfield 9, 3) := by decide +kernel
theorem dX0_fall_31 : decode cX0_fall 31 = .ok (.aload_n 0, 1) := by decide +kernel
theorem dX0_fall_32 : decode cX0_fall 32 = .ok (.iconst (-1), 1) := by decide +kernel
theorem dX0_fall_33 : decode cX0_fall 33 = .ok (.putfield 15, 3) := by decide +kernel
theorem dX0_fall_36 : decode cX0_fall 36 = .ok (.return_, 1) := by decide +kernel
theorem dX0_become_0 : decode cX0_become 0 = .ok (.aload_n 0, 1) := by decide +kernel
theorem dX0_become_1 : decode cX0_become 1 = .ok (.aload_n 1, 1) := by decide +kernel
theorem dX0_become_2 : decode cX0_become 2 = .ok (.getfield 9, 3) := by decide +kernel
theorem dX0_become_5 : decode cX0_become 5 = .ok (.putfield 9, 3) := by decide +kernel
theorem dX0_become_8 : decode cX0_become 8 = .ok (.aload_n 0, 1) := by decide +kernel
theorem dX0_become_9 : decode cX0_become 9 = .ok (.aload_n 1, 1) := by decide +kernel
theorem dX0_become_10 : decode cX0_become 10 = .ok (.getfield 15, 3) := by decide +kernel
theorem dX0_become_13 : decode cX0_become 13 = .ok (.putfield 15, 3) := by decide +kernel
theorem dX0_become_16 : decode cX0_become 16 = .ok (.aload_n 0, 1) := by decide +kernel
theorem dX0_become_17 : decode cX0_become 17 = .ok (.aload_n 1, 1) := by decide +kernel
theorem dX0_become_18 : decode cX0_become 18 = .ok (.getfield 18, 3) := by decide +kernel
theorem dX0_become_21 : decode cX0_become 21 = .ok (.putfield 18, 3) := by decide +kernel
theorem dX0_become_24 : decode cX0_become 24 = .ok (.return_, 1) := by decide +kernel
theorem dX1_init_0 : decode cX1_init 0 = .ok (.aload_n 0, 1) := by decide +kernel
theorem dX1_init_1 : decode cX1_init 1 = .ok (.invokespecial 3, 3) := by decide +kernel
theorem dX1_init_4 : decode cX1_init 4 = .ok (.aload_n 0, 1) := by decide +kernel
theorem dX1_init_5 : decode cX1_init 5 = .ok (.bipush 6, 2) := by decide +kernel
theorem dX1_init_7 : decode cX1_init 7 = .ok (.newarray .int, 2) := by decide +kernel
theorem dX1_init_9 : decode cX1_init 9 = .ok (.putfield 9, 3) := by decide +kernel
theorem dX1_init_12 : decode cX1_init 12 = .ok (.aload_n 0, 1) := by decide +kernel
theorem dX1_init_13 : decode cX1_init 13 = .ok (.bipush 6, 2) := by decide +kernel
theorem dX1_init_15 : decode cX1_init 15 = .ok (.newarray .int, 2) := by decide +kernel
theorem dX1_init_17 : decode cX1_init 17 = .ok (.putfield 15, 3) := by decide +kernel
theorem dX1_init_20 : decode cX1_init 20 = .ok (.aload_n 0, 1) := by decide +kernel
theorem dX1_init_21 : decode cX1_init 21 = .ok (.iconst 0, 1) := by decide +kernel
theorem dX1_init_22 : decode cX1_init 22 = .ok (.putfield 18, 3) := by decide +kernel
theorem dX1_init_25 : decode cX1_init 25 = .ok (.aload_n 0, 1) := by decide +kernel
theorem dX1_init_26 : decode cX1_init 26 = .ok (.iconst 0, 1) := by decide +kernel
theorem dX1_init_27 : decode cX1_init 27 = .ok (.putfield 22, 3) := by decide +kernel
theorem dX1_init_30 : decode cX1_init 30 = .ok (.return_, 1) := by decide +kernel
theorem dX1_forget_0 : decode cX1_forget 0 = .ok (.iconst 0, 1) := by decide +kernel
theorem dX1_forget_1 : decode cX1_forget 1 = .ok (.istore_n 1, 1) := by decide +kernel
theorem dX1_forget_2 : decode cX1_forget 2 = .ok (.iload_n 1, 1) := by decide +kernel
theorem dX1_forget_3 : decode cX1_forget 3 = .ok (.bipush 6, 2) := by decide +kernel
theorem dX1_forget_5 : decode cX1_forget 5 = .ok (.if_icmp .ge 16, 3) := by decide +kernel
theorem dX1_forget_8 : decode cX1_forget 8 = .ok (.aload_n 0, 1) := by decide +kernel
theorem dX1_forget_9 : decode cX1_forget 9 = .ok (.getfield 15, 3) := by decide +kernel
theorem dX1_forget_12 : decode cX1_forget 12 = .ok (.iload_n 1, 1) := by decide +kernel
theorem dX1_forget_13 : decode cX1_forget 13 = .ok (.iconst 0, 1) := by decide +kernel
theorem dX1_forget_14 : decode cX1_forget 14 = .ok (.iastore, 1) := by decide +kernel
theorem dX1_forget_15 : decode cX1_forget 15 = .ok (.iinc 1 1, 3) := by decide +kernel
theorem dX1_forget_18 : decode cX1_forget 18 = .ok (.goto (-16), 3) := by decide +kernel
theorem dX1_forget_21 : decode cX1_forget 21 = .ok (.aload_n 0, 1) := by decide +kernel
theorem dX1_forget_22 : decode cX1_forget 22 = .ok (.iconst 0, 1) := by decide +kernel
theorem dX1_forget_23 : decode cX1_forget 23 = .ok (.putfield 22, 3) := by decide +kernel
theorem dX1_forget_26 : decode cX1_forget 26 = .ok (.return_, 1) := by decide +kernel
theorem dX1_clearLoud_0 : decode cX1_clearLoud 0 = .ok (.iconst 0, 1) := by decide +kernel
theorem dX1_clearLoud_1 : decode cX1_clearLoud 1 = .ok (.istore_n 1, 1) := by decide +kernel
theorem dX1_clearLoud_2 : decode cX1_clearLoud 2 = .ok (.iload_n 1, 1) := by decide +kernel
theorem dX1_clearLoud_3 : decode cX1_clearLoud 3 = .ok (.bipush 6, 2) := by decide +kernel
theorem dX1_clearLoud_5 : decode cX1_clearLoud 5 = .ok (.if_icmp .ge 16, 3) := by decide +kernel
theorem dX1_clearLoud_8 : decode cX1_clearLoud 8 = .ok (.aload_n 0, 1) := by decide +kernel
theorem dX1_clearLoud_9 : decode cX1_clearLoud 9 = .ok (.getfield 9, 3) := by decide +kernel
theorem dX1_clearLoud_12 : decode cX1_clearLoud 12 = .ok (.iload_n 1, 1) := by decide +kernel
theorem dX1_clearLoud_13 : decode cX1_clearLoud 13 = .ok (.iconst 0, 1) := by decide +kernel
theorem dX1_clearLoud_14 : decode cX1_clearLoud 14 = .ok (.iastore, 1) := by decide +kernel
theorem dX1_clearLoud_15 : decode cX1_clearLoud 15 = .ok (.iinc 1 1, 3) := by decide +kernel
theorem dX1_clearLoud_18 : decode cX1_clearLoud 18 = .ok (.goto (-16), 3) := by decide +kernel
theorem dX1_clearLoud_21 : decode cX1_clearLoud 21 = .ok (.return_, 1) := by decide +kernel
theorem dX1_addLoud_0 : decode cX1_addLoud 0 = .ok (.iload_n 1, 1) := by decide +kernel
theorem dX1_addLoud_1 : decode cX1_addLoud 1 = .ok (.iconst 0, 1) := by decide +kernel
theorem dX1_addLoud_2 : decode cX1_addLoud 2 = .ok (.iconst 5, 1) := by decide +kernel
theorem dX1_addLoud_3 : decode cX1_addLoud 3 = .ok (.invokestatic 26, 3) := by decide +kernel
theorem dX1_addLoud_6 : decode cX1_addLoud 6 = .ok (.ifCond .ne 15, 3) := by decide +kernel
theorem dX1_addLoud_9 : decode cX1_addLoud 9 = .ok (.aload_n 0, 1) := by decide +kernel
theorem dX1_addLoud_10 : decode cX1_addLoud 10 = .ok (.getfield 9, 3) := by decide +kernel
theorem dX1_addLoud_13 : decode cX1_addLoud 13 = .ok (.iload_n 1, 1) := by decide +kernel
theorem dX1_addLoud_14 : decode cX1_addLoud 14 = .ok (.dup2, 1) := by decide +kernel
theorem dX1_addLoud_15 : decode cX1_addLoud 15 = .ok (.iaload, 1) := by decide +kernel
theorem dX1_addLoud_16 : decode cX1_addLoud 16 = .ok (.iconst 1, 1) := by decide +kernel
theorem dX1_addLoud_17 : decode cX1_addLoud 17 = .ok (.iload_n 2, 1) := by decide +kernel
theorem dX1_addLoud_18 : decode cX1_addLoud 18 = .ok (.ishl, 1) := by decide +kernel
theorem dX1_addLoud_19 : decode cX1_addLoud 19 = .ok (.ior, 1) := by decide +kernel
theorem dX1_addLoud_20 : decode cX1_addLoud 20 = .ok (.iastore, 1) := by decide +kernel
theorem dX1_addLoud_21 : decode cX1_addLoud 21 = .ok (.return_, 1) := by decide +kernel
theorem dX1_hasLoudOf_0 : decode cX1_hasLoudOf 0 = .ok (.iload_n 1, 1) := by decide +kernel
theorem dX1_hasLoudOf_1 : decode cX1_hasLoudOf 1 = .ok (.iconst 0, 1) := by decide +kernel
theorem dX1_hasLoudOf_2 : decode cX1_hasLoudOf 2 = .ok (.iconst 5, 1) := by decide +kernel
theorem dX1_hasLoudOf_3 : decode cX1_hasLoudOf 3 = .ok (.invokestatic 26, 3) := by decide +kernel
theorem dX1_hasLoudOf_6 : decode cX1_hasLoudOf 6 = .ok (.ifCond .ne 16, 3) := by decide +kernel
theorem dX1_hasLoudOf_9 : decode cX1_hasLoudOf 9 = .ok (.aload_n 0, 1) := by decide +kernel
theorem dX1_hasLoudOf_10 : decode cX1_hasLoudOf 10 = .ok (.getfield 9, 3) := by decide +kernel
theorem dX1_hasLoudOf_13 : decode cX1_hasLoudOf 13 = .ok (.iload_n 1, 1) := by decide +kernel
theorem dX1_hasLoudOf_14 : decode cX1_hasLoudOf 14 = .ok (.iaload, 1) := by decide +kernel
theorem dX1_hasLoudOf_15 : decode cX1_hasLoudOf 15 = .ok (.ifCond .eq 7, 3) := by decide +kernel
theorem dX1_hasLoudOf_18 : decode cX1_hasLoudOf 18 = .ok (.iconst 1, 1) := by decide +kernel
theorem dX1_hasLoudOf_19 : decode cX1_hasLoudOf 19 = .ok (.goto 4, 3) := by decide +kernel
theorem dX1_hasLoudOf_22 : decode cX1_hasLoudOf 22 = .ok (.iconst 0, 1) := by decide +kernel
theorem dX1_hasLoudOf_23 : decode cX1_hasLoudOf 23 = .ok (.ireturn, 1) := by decide +kernel
theorem dX1_isLoud_0 : decode cX1_isLoud 0 = .ok (.aload_n 0, 1) := by decide +kernel
theorem dX1_isLoud_1 : decode cX1_isLoud 1 = .ok (.invokevirtual 30, 3) := by decide +kernel
theorem dX1_isLoud_4 : decode cX1_isLoud 4 = .ok (.ifCond .le 7, 3) := by decide +kernel
theorem dX1_isLoud_7 : decode cX1_isLoud 7 = .ok (.iconst 1, 1) := by decide +kernel
theorem dX1_isLoud_8 : decode cX1_isLoud 8 = .ok (.goto 4, 3) := by decide +kernel
theorem dX1_isLoud_11 : decode cX1_isLoud 11 = .ok (.iconst 0, 1) := by decide +kernel
theorem dX1_isLoud_12 : decode cX1_isLoud 12 = .ok (.ireturn, 1) := by decide +kernel
theorem dX1_countLoudNow_0 : decode cX1_countLoudNow 0 = .ok (.iconst 0, 1) := by decide +kernel
theorem dX1_countLoudNow_1 : decode cX1_countLoudNow 1 = .ok (.istore_n 1, 1) := by decide +kernel
theorem dX1_countLoudNow_2 : decode cX1_countLoudNow 2 = .ok (.iconst 0, 1) := by decide +kernel
theorem dX1_countLoudNow_3 : decode cX1_countLoudNow 3 = .ok (.istore_n 2, 1) := by decide +kernel
theorem dX1_countLoudNow_4 : decode cX1_countLoudNow 4 = .ok (.iload_n 2, 1) := by decide +kernel
theorem dX1_countLoudNow_5 : decode cX1_countLoudNow 5 = .ok (.bipush 6, 2) := by decide +kernel
theorem dX1_countLoudNow_7 : decode cX1_countLoudNow 7 = .ok (.if_icmp .ge 21, 3) := by decide +kernel
theorem dX1_countLoudNow_10 : decode cX1_countLoudNow 10 = .ok (.iload_n 1, 1) := by decide +kernel
theorem dX1_countLoudNow_11 : decode cX1_countLoudNow 11 = .ok (.aload_n 0, 1) := by decide +kernel
theorem dX1_countLoudNow_12 : decode cX1_countLoudNow 12 = .ok (.getfield 9, 3) := by decide +kernel
theorem dX1_countLoudNow_15 : decode cX1_countLoudNow 15 = .ok (.iload_n 2, 1) := by decide +kernel
theorem dX1_countLoudNow_16 : decode cX1_countLoudNow 16 = .ok (.iaload, 1) := by decide +kernel
theorem dX1_countLoudNow_17 : decode cX1_countLoudNow 17 = .ok (.invokestatic 34, 3) := by decide +kernel
theorem dX1_countLoudNow_20 : decode cX1_countLoudNow 20 = .ok (.iadd, 1) := by decide +kernel
theorem dX1_countLoudNow_21 : decode cX1_countLoudNow 21 = .ok (.istore_n 1, 1) := by decide +kernel
theorem dX1_countLoudNow_22 : decode cX1_countLoudNow 22 = .ok (.iinc 2 1, 3) := by decide +kernel
theorem dX1_countLoudNow_25 : decode cX1_countLoudNow 25 = .ok (.goto (-21), 3) := by decide +kernel
theorem dX1_countLoudNow_28 : decode cX1_countLoudNow 28 = .ok (.iload_n 1, 1) := by decide +kernel
theorem dX1_countLoudNow_29 : decode cX1_countLoudNow 29 = .ok (.ireturn, 1) := by decide +kernel
theorem dX1_hasTold_0 : decode cX1_hasTold 0 = .ok (.iconst 0, 1) := by decide +kernel
theorem dX1_hasTold_1 : decode cX1_hasTold 1 = .ok (.istore_n 1, 1) := by decide +kernel
theorem dX1_hasTold_2 : decode cX1_hasTold 2 = .ok (.iload_n 1, 1) := by decide +kernel
theorem dX1_hasTold_3 : decode cX1_hasTold 3 = .ok (.bipush 6, 2) := by decide +kernel
theorem dX1_hasTold_5 : decode cX1_hasTold 5 = .ok (.if_icmp .ge 20, 3) := by decide +kernel
theorem dX1_hasTold_8 : decode cX1_hasTold 8 = .ok (.aload_n 0, 1) := by decide +kernel
theorem dX1_hasTold_9 : decode cX1_hasTold 9 = .ok (.getfield 15, 3) := by decide +kernel
theorem dX1_hasTold_12 : decode cX1_hasTold 12 = .ok (.iload_n 1, 1) := by decide +kernel
theorem dX1_hasTold_13 : decode cX1_hasTold 13 = .ok (.iaload, 1) := by decide +kernel
theorem dX1_hasTold_14 : decode cX1_hasTold 14 = .ok (.ifCond .eq 5, 3) := by decide +kernel
theorem dX1_hasTold_17 : decode cX1_hasTold 17 = .ok (.iconst 1, 1) := by decide +kernel
theorem dX1_hasTold_18 : decode cX1_hasTold 18 = .ok (.ireturn, 1) := by decide +kernel
theorem dX1_hasTold_19 : decode cX1_hasTold 19 = .ok (.iinc 1 1, 3) := by decide +kernel
theorem dX1_hasTold_22 : decode cX1_hasTold 22 = .ok (.goto (-20), 3) := by decide +kernel
theorem dX1_hasTold_25 : decode cX1_hasTold 25 = .ok (.iconst 0, 1) := by decide +kernel
theorem dX1_hasTold_26 : decode cX1_hasTold 26 = .ok (.ireturn, 1) := by decide +kernel
theorem dX1_hasChanged_0 : decode cX1_hasChanged 0 = .ok (.iconst 0, 1) := by decide +kernel
theorem dX1_hasChanged_1 : decode cX1_hasChanged 1 = .ok (.istore_n 1, 1) := by decide +kernel
theorem dX1_hasChanged_2 : decode cX1_hasChanged 2 = .ok (.iload_n 1, 1) := by decide +kernel
theorem dX1_hasChanged_3 : decode cX1_hasChanged 3 = .ok (.bipush 6, 2) := by decide +kernel
theorem dX1_hasChanged_5 : decode cX1_hasChanged 5 = .ok (.if_icmp .ge 26, 3) := by decide +kernel
theorem dX1_hasChanged_8 : decode cX1_hasChanged 8 = .ok (.aload_n 0, 1) := by decide +kernel
theorem dX1_hasChanged_9 : decode cX1_hasChanged 9 = .ok (.getfield 15, 3) := by decide +kernel
theorem dX1_hasChanged_12 : decode cX1_hasChanged 12 = .ok (.iload_n 1, 1) := by decide +kernel
theorem dX1_hasChanged_13 : decode cX1_hasChanged 13 = .ok (.iaload, 1) := by decide +kernel
theorem dX1_hasChanged_14 : decode cX1_hasChanged 14 = .ok (.aload_n 0, 1) := by decide +kernel
theorem dX1_hasChanged_15 : decode cX1_hasChanged 15 = .ok (.getfield 9, 3) := by decide +kernel
theorem dX1_hasChanged_18 : decode cX1_hasChanged 18 = .ok (.iload_n 1, 1) := by decide +kernel
theorem dX1_hasChanged_19 : decode cX1_hasChanged 19 = .ok (.iaload, 1) := by decide +kernel
theorem dX1_hasChanged_20 : decode cX1_hasChanged 20 = .ok (.if_icmp .eq 5, 3) := by decide +kernel
theorem dX1_hasChanged_23 : decode cX1_hasChanged 23 = .ok (.iconst 1, 1) := by decide +kernel
theorem dX1_hasChanged_24 : decode cX1_hasChanged 24 = .ok (.ireturn, 1) := by decide +kernel
theorem dX1_hasChanged_25 : decode cX1_hasChanged 25 = .ok (.iinc 1 1, 3) := by decide +kernel
theorem dX1_hasChanged_28 : decode cX1_hasChanged 28 = .ok (.goto (-26), 3) := by decide +kernel
theorem dX1_hasChanged_31 : decode cX1_hasChanged 31 = .ok (.iconst 0, 1) := by decide +kernel
theorem dX1_hasChanged_32 : decode cX1_hasChanged 32 = .ok (.ireturn, 1) := by decide +kernel
theorem dX1_isDue_0 : decode cX1_isDue 0 = .ok (.aload_n 0, 1) := by decide +kernel
theorem dX1_isDue_1 : decode cX1_isDue 1 = .ok (.invokevirtual 40, 3) := by decide +kernel
theorem dX1_isDue_4 : decode cX1_isDue 4 = .ok (.ifCond .ne 8, 3) := by decide +kernel
theorem dX1_isDue_7 : decode cX1_isDue 7 = .ok (.aload_n 0, 1) := by decide +kernel
theorem dX1_isDue_8 : decode cX1_isDue 8 = .ok (.invokevirtual 44, 3) := by decide +kernel
theorem dX1_isDue_11 : decode cX1_isDue 11 = .ok (.ireturn, 1) := by decide +kernel
theorem dX1_isDue_12 : decode cX1_isDue 12 = .ok (.aload_n 0, 1) := by decide +kernel
theorem dX1_isDue_13 : decode cX1_isDue 13 = .ok (.invokevirtual 44, 3) := by decide +kernel
theorem dX1_isDue_16 : decode cX1_isDue 16 = .ok (.ifCond .ne 8, 3) := by decide +kernel
theorem dX1_isDue_19 : decode cX1_isDue 19 = .ok (.aload_n 0, 1) := by decide +kernel
theorem dX1_isDue_20 : decode cX1_isDue 20 = .ok (.getfield 22, 3) := by decide +kernel
theorem dX1_isDue_23 : decode cX1_isDue 23 = .ok (.ireturn, 1) := by decide +kernel
theorem dX1_isDue_24 : decode cX1_isDue 24 = .ok (.iload_n 1, 1) := by decide +kernel
theorem dX1_isDue_25 : decode cX1_isDue 25 = .ok (.aload_n 0, 1) := by decide +kernel
theorem dX1_isDue_26 : decode cX1_isDue 26 = .ok (.getfield 18, 3) := by decide +kernel
theorem dX1_isDue_29 : decode cX1_isDue 29 = .ok (.isub, 1) := by decide +kernel
theorem dX1_isDue_30 : decode cX1_isDue 30 = .ok (.istore_n 3, 1) := by decide +kernel
theorem dX1_isDue_31 : decode cX1_isDue 31 = .ok (.iload_n 3, 1) := by decide +kernel
theorem dX1_isDue_32 : decode cX1_isDue 32 = .ok (.iload_n 2, 1) := by decide +kernel
theorem dX1_isDue_33 : decode cX1_isDue 33 = .ok (.if_icmp .ge 15, 3) := by decide +kernel
theorem dX1_isDue_36 : decode cX1_isDue 36 = .ok (.iload_n 3, 1) := by decide +kernel
theorem dX1_isDue_37 : decode cX1_isDue 37 = .ok (.iconst 3, 1) := by decide +kernel
theorem dX1_isDue_38 : decode cX1_isDue 38 = .ok (.if_icmp .lt 14, 3) := by decide +kernel
theorem dX1_isDue_41 : decode cX1_isDue 41 = .ok (.aload_n 0, 1) := by decide +kernel
theorem dX1_isDue_42 : decode cX1_isDue 42 = .ok (.invokevirtual 47, 3) := by decide +kernel
theorem dX1_isDue_45 : decode cX1_isDue 45 = .ok (.ifCond .eq 7, 3) := by decide +kernel
theorem dX1_isDue_48 : decode cX1_isDue 48 = .ok (.iconst 1, 1) := by decide +kernel
theorem dX1_isDue_49 : decode cX1_isDue 49 = .ok (.goto 4, 3) := by decide +kernel
theorem dX1_isDue_52 : decode cX1_isDue 52 = .ok (.iconst 0, 1) := by decide +kernel
theorem dX1_isDue_53 : decode cX1_isDue 53 = .ok (.ireturn, 1) := by decide +kernel
theorem dX1_markTold_0 : decode cX1_markTold 0 = .ok (.aload_n 0, 1) := by decide +kernel
theorem dX1_markTold_1 : decode cX1_markTold 1 = .ok (.iload_n 1, 1) := by decide +kernel
theorem dX1_markTold_2 : decode cX1_markTold 2 = .ok (.putfield 18, 3) := by decide +kernel
theorem dX1_markTold_5 : decode cX1_markTold 5 = .ok (.aload_n 0, 1) := by decide +kernel
theorem dX1_markTold_6 : decode cX1_markTold 6 = .ok (.getfield 9, 3) := by decide +kernel
theorem dX1_markTold_9 : decode cX1_markTold 9 = .ok (.iconst 0, 1) := by decide +kernel
theorem dX1_markTold_10 : decode cX1_markTold 10 = .ok (.aload_n 0, 1) := by decide +kernel
theorem dX1_markTold_11 : decode cX1_markTold 11 = .ok (.getfield 15, 3) := by decide +kernel
theorem dX1_markTold_14 : decode cX1_markTold 14 = .ok (.iconst 0, 1) := by decide +kernel
theorem dX1_markTold_15 : decode cX1_markTold 15 = .ok (.bipush 6, 2) := by decide +kernel
theorem dX1_markTold_17 : decode cX1_markTold 17 = .ok (.invokestatic 50, 3) := by decide +kernel
theorem dX1_markTold_20 : decode cX1_markTold 20 = .ok (.return_, 1) := by decide +kernel
theorem dX2_init_0 : decode cX2_init 0 = .ok (.aload_n 0, 1) := by decide +kernel
theorem dX2_init_1 : decode cX2_init 1 = .ok (.invokespecial 3, 3) := by decide +kernel
theorem dX2_init_4 : decode cX2_init 4 = .ok (.aload_n 0, 1) := by decide +kernel
theorem dX2_init_5 : decode cX2_init 5 = .ok (.iload_n 1, 1) := by decide +kernel
theorem dX2_init_6 : decode cX2_init 6 = .ok (.putfield 9, 3) := by decide +kernel
theorem dX2_init_9 : decode cX2_init 9 = .ok (.aload_n 0, 1) := by decide +kernel
theorem dX2_init_10 : decode cX2_init 10 = .ok (.iload_n 2, 1) := by decide +kernel
theorem dX2_init_11 : decode cX2_init 11 = .ok (.putfield 15, 3) := by decide +kernel
theorem dX2_init_14 : decode cX2_init 14 = .ok (.aload_n 0, 1) := by decide +kernel
theorem dX2_init_15 : decode cX2_init 15 = .ok (.iload_n 3, 1) := by decide +kernel
theorem dX2_init_16 : decode cX2_init 16 = .ok (.putfield 18, 3) := by decide +kernel
theorem dX2_init_19 : decode cX2_init 19 = .ok (.return_, 1) := by decide +kernel
theorem dX2_covers_0 : decode cX2_covers 0 = .ok (.iload_n 3, 1) := by decide +kernel
theorem dX2_covers_1 : decode cX2_covers 1 = .ok (.aload_n 0, 1) := by decide +kernel
theorem dX2_covers_2 : decode cX2_covers 2 = .ok (.getfield 18, 3) := by decide +kernel
theorem dX2_covers_5 : decode cX2_covers 5 = .ok (.if_icmp .ge 39, 3) := by decide +kernel
theorem dX2_covers_8 : decode cX2_covers 8 = .ok (.aload_n 0, 1) := by decide +kernel
theorem dX2_covers_9 : decode cX2_covers 9 = .ok (.getfield 9, 3) := by decide +kernel
theorem dX2_covers_12 : decode cX2_covers 12 = .ok (.iconst (-1), 1) := by decide +kernel
theorem dX2_covers_13 : decode cX2_covers 13 = .ok (.if_icmp .eq 11, 3) := by decide +kernel
theorem dX2_covers_16 : decode cX2_covers 16 = .ok (.aload_n 0, 1) := by decide +kernel
theorem dX2_covers_17 : decode cX2_covers 17 = .ok (.getfield 9, 3) := by decide +kernel
theorem dX2_covers_20 : decode cX2_covers 20 = .ok (.iload_n 1, 1) := by decide +kernel
theorem dX2_covers_21 : decode cX2_covers 21 = .ok (.if_icmp .ne 23, 3) := by decide +kernel
theorem dX2_covers_24 : decode cX2_covers 24 = .ok (.aload_n 0, 1) := by decide +kernel
theorem dX2_covers_25 : decode cX2_covers 25 = .ok (.getfield 15, 3) := by decide +kernel
theorem dX2_covers_28 : decode cX2_covers 28 = .ok (.iconst (-1), 1) := by decide +kernel
theorem dX2_covers_29 : decode cX2_covers 29 = .ok (.if_icmp .eq 11, 3) := by decide +kernel
theorem dX2_covers_32 : decode cX2_covers 32 = .ok (.aload_n 0, 1) := by decide +kernel
theorem dX2_covers_33 : decode cX2_covers 33 = .ok (.getfield 15, 3) := by decide +kernel
theorem dX2_covers_36 : decode cX2_covers 36 = .ok (.iload_n 2, 1) := by decide +kernel
theorem dX2_covers_37 : decode cX2_covers 37 = .ok (.if_icmp .ne 7, 3) := by decide +kernel
theorem dX2_covers_40 : decode cX2_covers 40 = .ok (.iconst 1, 1) := by decide +kernel
theorem dX2_covers_41 : decode cX2_covers 41 = .ok (.goto 4, 3) := by decide +kernel
theorem dX2_covers_44 : decode cX2_covers 44 = .ok (.iconst 0, 1) := by decide +kernel
theorem dX2_covers_45 : decode cX2_covers 45 = .ok (.ireturn, 1) := by decide +kernel
theorem dX3_init_0 : decode cX3_init 0 = .ok (.aload_n 0, 1) := by decide +kernel
theorem dX3_init_1 : decode cX3_init 1 = .ok (.invokespecial 3, 3) := by decide +kernel
theorem dX3_init_4 : decode cX3_init 4 = .ok (.aload_n 0, 1) := by decide +kernel
theorem dX3_init_5 : decode cX3_init 5 = .ok (.bipush 30, 2) := by decide +kernel
theorem dX3_init_7 : decode cX3_init 7 = .ok (.iconst 4, 1) := by decide +kernel
theorem dX3_init_8 : decode cX3_init 8 = .ok (.multianewarray 9 2, 4) := by decide +kernel
theorem dX3_init_12 : decode cX3_init 12 = .ok (.putfield 11, 3) := by decide +kernel
theorem dX3_init_15 : decode cX3_init 15 = .ok (.aload_n 0, 1) := by decide +kernel
theorem dX3_init_16 : decode cX3_init 16 = .ok (.iconst 0, 1) := by decide +kernel
theorem dX3_init_17 : decode cX3_init 17 = .ok (.putfield 16, 3) := by decide +kernel
theorem dX3_init_20 : decode cX3_init 20 = .ok (.aload_n 0, 1) := by decide +kernel
theorem dX3_init_21 : decode cX3_init 21 = .ok (.iconst 0, 1) := by decide +kernel
theorem dX3_init_22 : decode cX3_init 22 = .ok (.putfield 20, 3) := by decide +kernel
theorem dX3_init_25 : decode cX3_init 25 = .ok (.aload_n 0, 1) := by decide +kernel
theorem dX3_init_26 : decode cX3_init 26 = .ok (.iconst 0, 1) := by decide +kernel
theorem dX3_init_27 : decode cX3_init 27 = .ok (.putfield 23, 3) := by decide +kernel
theorem dX3_init_30 : decode cX3_init 30 = .ok (.return_, 1) := by decide +kernel
theorem dX3_keep_0 : decode cX3_keep 0 = .ok (.aload_n 0, 1) := by decide +kernel
theorem dX3_keep_1 : decode cX3_keep 1 = .ok (.aload_n 0, 1) := by decide +kernel
theorem dX3_keep_2 : decode cX3_keep 2 = .ok (.getfield 16, 3) := by decide +kernel
theorem dX3_keep_5 : decode cX3_keep 5 = .ok (.iconst 1, 1) := by decide +kernel
theorem dX3_keep_6 : decode cX3_keep 6 = .ok (.iadd, 1) := by decide +kernel
theorem dX3_keep_7 : decode cX3_keep 7 = .ok (.bipush 30, 2) := by decide +kernel
theorem dX3_keep_9 : decode cX3_keep 9 = .ok (.irem, 1) := by decide +kernel
theorem dX3_keep_10 : decode cX3_keep 10 = .ok (.putfield 16, 3) := by decide +kernel
theorem dX3_keep_13 : decode cX3_keep 13 = .ok (.aload_n 0, 1) := by decide +kernel
theorem dX3_keep_14 : decode cX3_keep 14 = .ok (.aload_n 0, 1) := by decide +kernel
theorem dX3_keep_15 : decode cX3_keep 15 = .ok (.getfield 20, 3) := by decide +kernel
theorem dX3_keep_18 : decode cX3_keep 18 = .ok (.iconst 1, 1) := by decide +kernel
theorem dX3_keep_19 : decode cX3_keep 19 = .ok (.iadd, 1) := by decide +kernel
theorem dX3_keep_20 : decode cX3_keep 20 = .ok (.bipush 30, 2) := by decide +kernel
theorem dX3_keep_22 : decode cX3_keep 22 = .ok (.invokestatic 26, 3) := by decide +kernel
theorem dX3_keep_25 : decode cX3_keep 25 = .ok (.putfield 20, 3) := by decide +kernel
theorem dX3_keep_28 : decode cX3_keep 28 = .ok (.aload_n 0, 1) := by decide +kernel
theorem dX3_keep_29 : decode cX3_keep 29 = .ok (.dup, 1) := by decide +kernel
theorem dX3_keep_30 : decode cX3_keep 30 = .ok (.getfield 23, 3) := by decide +kernel
theorem dX3_keep_33 : decode cX3_keep 33 = .ok (.iconst 1, 1) := by decide +kernel
theorem dX3_keep_34 : decode cX3_keep 34 = .ok (.iadd, 1) := by decide +kernel
theorem dX3_keep_35 : decode cX3_keep 35 = .ok (.putfield 23, 3) := by decide +kernel
theorem dX3_keep_38 : decode cX3_keep 38 = .ok (.aload_n 0, 1) := by decide +kernel
theorem dX3_keep_39 : decode cX3_keep 39 = .ok (.getfield 11, 3) := by decide +kernel
theorem dX3_keep_42 : decode cX3_keep 42 = .ok (.aload_n 0, 1) := by decide +kernel
theorem dX3_keep_43 : decode cX3_keep 43 = .ok (.getfield 16, 3) := by decide +kernel
theorem dX3_keep_46 : decode cX3_keep 46 = .ok (.aaload, 1) := by decide +kernel
theorem dX3_keep_47 : decode cX3_keep 47 = .ok (.astore 5, 2) := by decide +kernel
theorem dX3_keep_49 : decode cX3_keep 49 = .ok (.aload 5, 2) := by decide +kernel
theorem dX3_keep_51 : decode cX3_keep 51 = .ok (.iconst 0, 1) := by decide +kernel
theorem dX3_keep_52 : decode cX3_keep 52 = .ok (.iload_n 1, 1) := by decide +kernel
theorem dX3_keep_53 : decode cX3_keep 53 = .ok (.iastore, 1) := by decide +kernel
theorem dX3_keep_54 : decode cX3_keep 54 = .ok (.aload 5, 2) := by decide +kernel
theorem dX3_keep_56 : decode cX3_keep 56 = .ok (.iconst 1, 1) := by decide +kernel
theorem dX3_keep_57 : decode cX3_keep 57 = .ok (.iload_n 2, 1) := by decide +kernel
theorem dX3_keep_58 : decode cX3_keep 58 = .ok (.iastore, 1) := by decide +kernel
theorem dX3_keep_59 : decode cX3_keep 59 = .ok (.aload 5, 2) := by decide +kernel
theorem dX3_keep_61 : decode cX3_keep 61 = .ok (.iconst 2, 1) := by decide +kernel
theorem dX3_keep_62 : decode cX3_keep 62 = .ok (.iload_n 3, 1) := by decide +kernel
theorem dX3_keep_63 : decode cX3_keep 63 = .ok (.iastore, 1) := by decide +kernel
theorem dX3_keep_64 : decode cX3_keep 64 = .ok (.aload 5, 2) := by decide +kernel
theorem dX3_keep_66 : decode cX3_keep 66 = .ok (.iconst 3, 1) := by decide +kernel
theorem dX3_keep_67 : decode cX3_keep 67 = .ok (.iload 4, 2) := by decide +kernel
theorem dX3_keep_69 : decode cX3_keep 69 = .ok (.iastore, 1) := by decide +kernel
theorem dX3_keep_70 : decode cX3_keep 70 = .ok (.return_, 1) := by decide +kernel
theorem dX3_factOf_0 : decode cX3_factOf 0 = .ok (.aload_n 0, 1) := by decide +kernel
theorem dX3_factOf_1 : decode cX3_factOf 1 = .ok (.getfield 11, 3) := by decide +kernel
theorem dX3_factOf_4 : decode cX3_factOf 4 = .ok (.aload_n 0, 1) := by decide +kernel
theorem dX3_factOf_5 : decode cX3_factOf 5 = .ok (.getfield 16, 3) := by decide +kernel
theorem dX3_factOf_8 : decode cX3_factOf 8 = .ok (.iload_n 1, 1) := by decide +kernel
theorem dX3_factOf_9 : decode cX3_factOf 9 = .ok (.isub, 1) := by decide +kernel
theorem dX3_factOf_10 : decode cX3_factOf 10 = .ok (.bipush 30, 2) := by decide +kernel
theorem dX3_factOf_12 : decode cX3_factOf 12 = .ok (.iadd, 1) := by decide +kernel
theorem dX3_factOf_13 : decode cX3_factOf 13 = .ok (.bipush 30, 2) := by decide +kernel
theorem dX3_factOf_15 : decode cX3_factOf 15 = .ok (.irem, 1) := by decide +kernel
theorem dX3_factOf_16 : decode cX3_factOf 16 = .ok (.aaload, 1) := by decide +kernel
theorem dX3_factOf_17 : decode cX3_factOf 17 = .ok (.iload_n 2, 1) := by decide +kernel
theorem dX3_factOf_18 : decode cX3_factOf 18 = .ok (.iaload, 1) := by decide +kernel
theorem dX3_factOf_19 : decode cX3_factOf 19 = .ok (.ireturn, 1) := by decide +kernel
theorem dX4_init_0 : decode cX4_init 0 = .ok (.aload_n 0, 1) := by decide +kernel
theorem dX4_init_1 : decode cX4_init 1 = .ok (.invokespecial 3, 3) := by decide +kernel
theorem dX4_init_4 : decode cX4_init 4 = .ok (.aload_n 0, 1) := by decide +kernel
theorem dX4_init_5 : decode cX4_init 5 = .ok (.iconst 0, 1) := by decide +kernel
theorem dX4_init_6 : decode cX4_init 6 = .ok (.putfield 9, 3) := by decide +kernel
theorem dX4_init_9 : decode cX4_init 9 = .ok (.aload_n 0, 1) := by decide +kernel
theorem dX4_init_10 : decode cX4_init 10 = .ok (.iconst 0, 1) := by decide +kernel
theorem dX4_init_11 : decode cX4_init 11 = .ok (.putfield 15, 3) := by decide +kernel
theorem dX4_init_14 : decode cX4_init 14 = .ok (.aload_n 0, 1) := by decide +kernel
theorem dX4_init_15 : decode cX4_init 15 = .ok (.bipush 12, 2) := by decide +kernel
theorem dX4_init_17 : decode cX4_init 17 = .ok (.anewarray 18, 3) := by decide +kernel
theorem dX4_init_20 : decode cX4_init 20 = .ok (.putfield 20, 3) := by decide +kernel
theorem dX4_init_23 : decode cX4_init 23 = .ok (.aload_n 0, 1) := by decide +kernel
theorem dX4_init_24 : decode cX4_init 24 = .ok (.iload_n 1, 1) := by decide +kernel
theorem dX4_init_25 : decode cX4_init 25 = .ok (.putfield 24, 3) := by decide +kernel
theorem dX4_init_28 : decode cX4_init 28 = .ok (.aload_n 0, 1) := by decide +kernel
theorem dX4_init_29 : decode cX4_init 29 = .ok (.iload_n 2, 1) := by decide +kernel
theorem dX4_init_30 : decode cX4_init 30 = .ok (.putfield 27, 3) := by decide +kernel
theorem dX4_init_33 : decode cX4_init 33 = .ok (.aload_n 0, 1) := by decide +kernel
theorem dX4_init_34 : decode cX4_init 34 = .ok (.iload_n 3, 1) := by decide +kernel
theorem dX4_init_35 : decode cX4_init 35 = .ok (.putfield 30, 3) := by decide +kernel
theorem dX4_init_38 : decode cX4_init 38 = .ok (.aload_n 0, 1) := by decide +kernel
theorem dX4_init_39 : decode cX4_init 39 = .ok (.iload 4, 2) := by decide +kernel
theorem dX4_init_41 : decode cX4_init 41 = .ok (.putfield 33, 3) := by decide +kernel
theorem dX4_init_44 : decode cX4_init 44 = .ok (.aload_n 0, 1) := by decide +kernel
theorem dX4_init_45 : decode cX4_init 45 = .ok (.iload 5, 2) := by decide +kernel
theorem dX4_init_47 : decode cX4_init 47 = .ok (.putfield 36, 3) := by decide +kernel
theorem dX4_init_50 : decode cX4_init 50 = .ok (.iconst 0, 1) := by decide +kernel
theorem dX4_init_51 : decode cX4_init 51 = .ok (.istore 6, 2) := by decide +kernel
theorem dX4_init_53 : decode cX4_init 53 = .ok (.iload 6, 2) := by decide +kernel
theorem dX4_init_55 : decode cX4_init 55 = .ok (.bipush 12, 2) := by decide +kernel
theorem dX4_init_57 : decode cX4_init 57 = .ok (.if_icmp .ge 23, 3) := by decide +kernel
theorem dX4_init_60 : decode cX4_init 60 = .ok (.aload_n 0, 1) := by decide +kernel
theorem dX4_init_61 : decode cX4_init 61 = .ok (.getfield 20, 3) := by decide +kernel
theorem dX4_init_64 : decode cX4_init 64 = .ok (.iload 6, 2) := by decide +kernel
theorem dX4_init_66 : decode cX4_init 66 = .ok (.new 18, 3) := by decide +kernel
theorem dX4_init_69 : decode cX4_init 69 = .ok (.dup, 1) := by decide +kernel
theorem dX4_init_70 : decode cX4_init 70 = .ok (.invokespecial 39, 3) := by decide +kernel
theorem dX4_init_73 : decode cX4_init 73 = .ok (.aastore, 1) := by decide +kernel
theorem dX4_init_74 : decode cX4_init 74 = .ok (.iinc 6 1, 3) := by decide +kernel
theorem dX4_init_77 : decode cX4_init 77 = .ok (.goto (-24), 3) := by decide +kernel
theorem dX4_init_80 : decode cX4_init 80 = .ok (.return_, 1) := by decide +kernel
theorem dX4_takes_0 : decode cX4_takes 0 = .ok (.aload_n 1, 1) := by decide +kernel
theorem dX4_takes_1 : decode cX4_takes 1 = .ok (.getfield 40, 3) := by decide +kernel
theorem dX4_takes_4 : decode cX4_takes 4 = .ok (.aload_n 0, 1) := by decide +kernel
theorem dX4_takes_5 : decode cX4_takes 5 = .ok (.getfield 27, 3) := by decide +kernel
theorem dX4_takes_8 : decode cX4_takes 8 = .ok (.if_icmp .eq 5, 3) := by decide +kernel
theorem dX4_takes_11 : decode cX4_takes 11 = .ok (.iconst 0, 1) := by decide +kernel
theorem dX4_takes_12 : decode cX4_takes 12 = .ok (.ireturn, 1) := by decide +kernel
theorem dX4_takes_13 : decode cX4_takes 13 = .ok (.aload_n 0, 1) := by decide +kernel
theorem dX4_takes_14 : decode cX4_takes 14 = .ok (.getfield 36, 3) := by decide +kernel
theorem dX4_takes_17 : decode cX4_takes 17 = .ok (.lookupswitch 55 #[(0, 27), (1, 41)], 27) := by decide +kernel
theorem dX4_takes_44 : decode cX4_takes 44 = .ok (.aload_n 1, 1) := by decide +kernel
theorem dX4_takes_45 : decode cX4_takes 45 = .ok (.getfield 43, 3) := by decide +kernel
theorem dX4_takes_48 : decode cX4_takes 48 = .ok (.iload_n 2, 1) := by decide +kernel
theorem dX4_takes_49 : decode cX4_takes 49 = .ok (.if_icmp .ne 7, 3) := by decide +kernel
theorem dX4_takes_52 : decode cX4_takes 52 = .ok (.iconst 1, 1) := by decide +kernel
theorem dX4_takes_53 : decode cX4_takes 53 = .ok (.goto 4, 3) := by decide +kernel
theorem dX4_takes_56 : decode cX4_takes 56 = .ok (.iconst 0, 1) := by decide +kernel
theorem dX4_takes_57 : decode cX4_takes 57 = .ok (.ireturn, 1) := by decide +kernel
theorem dX4_takes_58 : decode cX4_takes 58 = .ok (.aload_n 1, 1) := by decide +kernel
theorem dX4_takes_59 : decode cX4_takes 59 = .ok (.getfield 44, 3) := by decide +kernel
theorem dX4_takes_62 : decode cX4_takes 62 = .ok (.iload_n 2, 1) := by decide +kernel
theorem dX4_takes_63 : decode cX4_takes 63 = .ok (.if_icmp .ne 7, 3) := by decide +kernel
theorem dX4_takes_66 : decode cX4_takes 66 = .ok (.iconst 1, 1) := by decide +kernel
theorem dX4_takes_67 : decode cX4_takes 67 = .ok (.goto 4, 3) := by decide +kernel
theorem dX4_takes_70 : decode cX4_takes 70 = .ok (.iconst 0, 1) := by decide +kernel
theorem dX4_takes_71 : decode cX4_takes 71 = .ok (.ireturn, 1) := by decide +kernel
theorem dX4_takes_72 : decode cX4_takes 72 = .ok (.iload_n 2, 1) := by decide +kernel
theorem dX4_takes_73 : decode cX4_takes 73 = .ok (.ifCond .ne 7, 3) := by decide +kernel
theorem dX4_takes_76 : decode cX4_takes 76 = .ok (.iconst 1, 1) := by decide +kernel
theorem dX4_takes_77 : decode cX4_takes 77 = .ok (.goto 4, 3) := by decide +kernel
theorem dX4_takes_80 : decode cX4_takes 80 = .ok (.iconst 0, 1) := by decide +kernel
theorem dX4_takes_81 : decode cX4_takes 81 = .ok (.ireturn, 1) := by decide +kernel
theorem dX4_isBeyond_0 : decode cX4_isBeyond 0 = .ok (.aload_n 0, 1) := by decide +kernel
theorem dX4_isBeyond_1 : decode cX4_isBeyond 1 = .ok (.getfield 47, 3) := by decide +kernel
theorem dX4_isBeyond_4 : decode cX4_isBeyond 4 = .ok (.ifCond .eq 16, 3) := by decide +kernel
theorem dX4_isBeyond_7 : decode cX4_isBeyond 7 = .ok (.iload_n 1, 1) := by decide +kernel
theorem dX4_isBeyond_8 : decode cX4_isBeyond 8 = .ok (.iload_n 2, 1) := by decide +kernel
theorem dX4_isBeyond_9 : decode cX4_isBeyond 9 = .ok (.if_icmp .le 7, 3) := by decide +kernel
theorem dX4_isBeyond_12 : decode cX4_isBeyond 12 = .ok (.iconst 1, 1) := by decide +kernel
theorem dX4_isBeyond_13 : decode cX4_isBeyond 13 = .ok (.goto 17, 3) := by decide +kernel
theorem dX4_isBeyond_16 : decode cX4_isBeyond 16 = .ok (.iconst 0, 1) := by decide +kernel
theorem dX4_isBeyond_17 : decode cX4_isBeyond 17 = .ok (.goto 13, 3) := by decide +kernel
theorem dX4_isBeyond_20 : decode cX4_isBeyond 20 = .ok (.iload_n 1, 1) := by decide +kernel
theorem dX4_isBeyond_21 : decode cX4_isBeyond 21 = .ok (.iload_n 2, 1) := by decide +kernel
theorem dX4_isBeyond_22 : decode cX4_isBeyond 22 = .ok (.if_icmp .ge 7, 3) := by decide +kernel
theorem dX4_isBeyond_25 : decode cX4_isBeyond 25 = .ok (.iconst 1, 1) := by decide +kernel
theorem dX4_isBeyond_26 : decode cX4_isBeyond 26 = .ok (.goto 4, 3) := by decide +kernel
theorem dX4_isBeyond_29 : decode cX4_isBeyond 29 = .ok (.iconst 0, 1) := by decide +kernel
theorem dX4_isBeyond_30 : decode cX4_isBeyond 30 = .ok (.ireturn, 1) := by decide +kernel
theorem dX4_alertOf_0 : decode cX4_alertOf 0 = .ok (.iload_n 1, 1) := by decide +kernel
theorem dX4_alertOf_1 : decode cX4_alertOf 1 = .ok (.iconst 0, 1) := by decide +kernel
theorem dX4_alertOf_2 : decode cX4_alertOf 2 = .ok (.bipush 11, 2) := by decide +kernel
theorem dX4_alertOf_4 : decode cX4_alertOf 4 = .ok (.invokestatic 51, 3) := by decide +kernel
theorem dX4_alertOf_7 : decode cX4_alertOf 7 = .ok (.ifCond .eq 7, 3) := by decide +kernel
theorem dX4_alertOf_10 : decode cX4_alertOf 10 = .ok (.aconst_null, 1) := by decide +kernel
theorem dX4_alertOf_11 : decode cX4_alertOf 11 = .ok (.goto 9, 3) := by decide +kernel
theorem dX4_alertOf_14 : decode cX4_alertOf 14 = .ok (.aload_n 0, 1) := by decide +kernel
theorem dX4_alertOf_15 : decode cX4_alertOf 15 = .ok (.getfield 20, 3) := by decide +kernel
theorem dX4_alertOf_18 : decode cX4_alertOf 18 = .ok (.iload_n 1, 1) := by decide +kernel
theorem dX4_alertOf_19 : decode cX4_alertOf 19 = .ok (.aaload, 1) := by decide +kernel
theorem dX4_alertOf_20 : decode cX4_alertOf 20 = .ok (.areturn, 1) := by decide +kernel
end
