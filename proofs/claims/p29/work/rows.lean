section
-- ===== PART A: goes FIRST, ahead of the names: the tables' words, and 'selects' of the private methods out of them =====
/-- a private method of a class that the tables say can be made, by its rows of tables_1 -/
def lw_okq (q : MethodName × Nat) : Prop := (q.1.cls ≠ "java/lang/invoke/MethodHandle" ∧ q.1.cls ≠ "java/lang/invoke/VarHandle") ∧ Cond.instantiable q.1.cls q.2 ∈ tables_1 ∧ Cond.privateMethod q.1 ∈ tables_1 ∧ Cond.instanceMethod q.1 ∈ tables_1
theorem lw_p0 : lw_okq (⟨"java/lang/Throwable", "fillInStackTrace", "(I)Ljava/lang/Throwable;"⟩, 6) := ⟨⟨by decide +kernel, by decide +kernel⟩, List.mem_of_getElem? (i := 196) (by decide +kernel), List.mem_of_getElem? (i := 194) (by decide +kernel), List.mem_of_getElem? (i := 195) (by decide +kernel)⟩
theorem lw_p1 : lw_okq (⟨"java/util/ArrayList", "add", "(Ljava/lang/Object;[Ljava/lang/Object;I)V"⟩, 3) := ⟨⟨by decide +kernel, by decide +kernel⟩, List.mem_of_getElem? (i := 33) (by decide +kernel), List.mem_of_getElem? (i := 294) (by decide +kernel), List.mem_of_getElem? (i := 295) (by decide +kernel)⟩
theorem lw_p2 : lw_okq (⟨"java/util/ArrayList", "grow", "()[Ljava/lang/Object;"⟩, 3) := ⟨⟨by decide +kernel, by decide +kernel⟩, List.mem_of_getElem? (i := 33) (by decide +kernel), List.mem_of_getElem? (i := 298) (by decide +kernel), List.mem_of_getElem? (i := 299) (by decide +kernel)⟩
theorem lw_p3 : lw_okq (⟨"java/util/ArrayList", "grow", "(I)[Ljava/lang/Object;"⟩, 3) := ⟨⟨by decide +kernel, by decide +kernel⟩, List.mem_of_getElem? (i := 33) (by decide +kernel), List.mem_of_getElem? (i := 302) (by decide +kernel), List.mem_of_getElem? (i := 303) (by decide +kernel)⟩
theorem lw_p4 : lw_okq (⟨"HarbourlightMonitor", "requireSeries", "(I)LHarbourlightMonitor$Series;"⟩, 9) := ⟨⟨by decide +kernel, by decide +kernel⟩, List.mem_of_getElem? (i := 25) (by decide +kernel), List.mem_of_getElem? (i := 352) (by decide +kernel), List.mem_of_getElem? (i := 353) (by decide +kernel)⟩
theorem lw_p5 : lw_okq (⟨"HarbourlightMonitor", "requireRule", "(I)LHarbourlightMonitor$Rule;"⟩, 9) := ⟨⟨by decide +kernel, by decide +kernel⟩, List.mem_of_getElem? (i := 25) (by decide +kernel), List.mem_of_getElem? (i := 473) (by decide +kernel), List.mem_of_getElem? (i := 474) (by decide +kernel)⟩
theorem lw_p6 : lw_okq (⟨"java/util/ArrayList", "fastRemove", "([Ljava/lang/Object;I)V"⟩, 3) := ⟨⟨by decide +kernel, by decide +kernel⟩, List.mem_of_getElem? (i := 33) (by decide +kernel), List.mem_of_getElem? (i := 489) (by decide +kernel), List.mem_of_getElem? (i := 490) (by decide +kernel)⟩
theorem lw_p7 : lw_okq (⟨"HarbourlightMonitor", "dropHushesOf", "(I)V"⟩, 9) := ⟨⟨by decide +kernel, by decide +kernel⟩, List.mem_of_getElem? (i := 25) (by decide +kernel), List.mem_of_getElem? (i := 494) (by decide +kernel), List.mem_of_getElem? (i := 495) (by decide +kernel)⟩
theorem lw_p8 : lw_okq (⟨"HarbourlightMonitor", "forgetGroups", "()V"⟩, 9) := ⟨⟨by decide +kernel, by decide +kernel⟩, List.mem_of_getElem? (i := 25) (by decide +kernel), List.mem_of_getElem? (i := 530) (by decide +kernel), List.mem_of_getElem? (i := 531) (by decide +kernel)⟩
theorem lw_p9 : lw_okq (⟨"HarbourlightMonitor", "stepAlerts", "(LHarbourlightMonitor$Rule;)V"⟩, 9) := ⟨⟨by decide +kernel, by decide +kernel⟩, List.mem_of_getElem? (i := 25) (by decide +kernel), List.mem_of_getElem? (i := 552) (by decide +kernel), List.mem_of_getElem? (i := 553) (by decide +kernel)⟩
theorem lw_p10 : lw_okq (⟨"HarbourlightMonitor", "hasKey", "(LHarbourlightMonitor$Rule;I)Z"⟩, 9) := ⟨⟨by decide +kernel, by decide +kernel⟩, List.mem_of_getElem? (i := 25) (by decide +kernel), List.mem_of_getElem? (i := 561) (by decide +kernel), List.mem_of_getElem? (i := 562) (by decide +kernel)⟩
theorem lw_p11 : lw_okq (⟨"HarbourlightMonitor", "lookedAt", "(LHarbourlightMonitor$Rule;II)I"⟩, 9) := ⟨⟨by decide +kernel, by decide +kernel⟩, List.mem_of_getElem? (i := 25) (by decide +kernel), List.mem_of_getElem? (i := 569) (by decide +kernel), List.mem_of_getElem? (i := 570) (by decide +kernel)⟩
theorem lw_p12 : lw_okq (⟨"HarbourlightMonitor$Series", "meanOver", "(II)I"⟩, 8) := ⟨⟨by decide +kernel, by decide +kernel⟩, List.mem_of_getElem? (i := 251) (by decide +kernel), List.mem_of_getElem? (i := 585) (by decide +kernel), List.mem_of_getElem? (i := 586) (by decide +kernel)⟩
theorem lw_p13 : lw_okq (⟨"HarbourlightMonitor$Series", "utmostOver", "(IIZ)I"⟩, 8) := ⟨⟨by decide +kernel, by decide +kernel⟩, List.mem_of_getElem? (i := 251) (by decide +kernel), List.mem_of_getElem? (i := 589) (by decide +kernel), List.mem_of_getElem? (i := 590) (by decide +kernel)⟩
theorem lw_p14 : lw_okq (⟨"HarbourlightMonitor$Series", "partOver", "(III)I"⟩, 8) := ⟨⟨by decide +kernel, by decide +kernel⟩, List.mem_of_getElem? (i := 251) (by decide +kernel), List.mem_of_getElem? (i := 596) (by decide +kernel), List.mem_of_getElem? (i := 597) (by decide +kernel)⟩
theorem lw_p15 : lw_okq (⟨"HarbourlightMonitor$Alert", "rise", "(II)V"⟩, 3) := ⟨⟨by decide +kernel, by decide +kernel⟩, List.mem_of_getElem? (i := 104) (by decide +kernel), List.mem_of_getElem? (i := 608) (by decide +kernel), List.mem_of_getElem? (i := 609) (by decide +kernel)⟩
def lw_privs_1 : List (MethodName × Nat) := [(⟨"java/lang/Throwable", "fillInStackTrace", "(I)Ljava/lang/Throwable;"⟩, 6), (⟨"java/util/ArrayList", "add", "(Ljava/lang/Object;[Ljava/lang/Object;I)V"⟩, 3), (⟨"java/util/ArrayList", "grow", "()[Ljava/lang/Object;"⟩, 3), (⟨"java/util/ArrayList", "grow", "(I)[Ljava/lang/Object;"⟩, 3), (⟨"HarbourlightMonitor", "requireSeries", "(I)LHarbourlightMonitor$Series;"⟩, 9), (⟨"HarbourlightMonitor", "requireRule", "(I)LHarbourlightMonitor$Rule;"⟩, 9), (⟨"java/util/ArrayList", "fastRemove", "([Ljava/lang/Object;I)V"⟩, 3), (⟨"HarbourlightMonitor", "dropHushesOf", "(I)V"⟩, 9), (⟨"HarbourlightMonitor", "forgetGroups", "()V"⟩, 9), (⟨"HarbourlightMonitor", "stepAlerts", "(LHarbourlightMonitor$Rule;)V"⟩, 9), (⟨"HarbourlightMonitor", "hasKey", "(LHarbourlightMonitor$Rule;I)Z"⟩, 9), (⟨"HarbourlightMonitor", "lookedAt", "(LHarbourlightMonitor$Rule;II)I"⟩, 9), (⟨"HarbourlightMonitor$Series", "meanOver", "(II)I"⟩, 8), (⟨"HarbourlightMonitor$Series", "utmostOver", "(IIZ)I"⟩, 8), (⟨"HarbourlightMonitor$Series", "partOver", "(III)I"⟩, 8), (⟨"HarbourlightMonitor$Alert", "rise", "(II)V"⟩, 3)]
theorem lw_r1 : ∀ q ∈ lw_privs_1, lw_okq q := List.forall_mem_cons.mpr ⟨lw_p0, List.forall_mem_cons.mpr ⟨lw_p1, List.forall_mem_cons.mpr ⟨lw_p2, List.forall_mem_cons.mpr ⟨lw_p3, List.forall_mem_cons.mpr ⟨lw_p4, List.forall_mem_cons.mpr ⟨lw_p5, List.forall_mem_cons.mpr ⟨lw_p6, List.forall_mem_cons.mpr ⟨lw_p7, List.forall_mem_cons.mpr ⟨lw_p8, List.forall_mem_cons.mpr ⟨lw_p9, List.forall_mem_cons.mpr ⟨lw_p10, List.forall_mem_cons.mpr ⟨lw_p11, List.forall_mem_cons.mpr ⟨lw_p12, List.forall_mem_cons.mpr ⟨lw_p13, List.forall_mem_cons.mpr ⟨lw_p14, List.forall_mem_cons.mpr ⟨lw_p15, fun _ h => absurd h List.not_mem_nil⟩⟩⟩⟩⟩⟩⟩⟩⟩⟩⟩⟩⟩⟩⟩⟩
theorem lw_p16 : lw_okq (⟨"HarbourlightMonitor$Alert", "fall", "()V"⟩, 3) := ⟨⟨by decide +kernel, by decide +kernel⟩, List.mem_of_getElem? (i := 104) (by decide +kernel), List.mem_of_getElem? (i := 612) (by decide +kernel), List.mem_of_getElem? (i := 613) (by decide +kernel)⟩
theorem lw_p17 : lw_okq (⟨"HarbourlightMonitor", "sendNotices", "()I"⟩, 9) := ⟨⟨by decide +kernel, by decide +kernel⟩, List.mem_of_getElem? (i := 25) (by decide +kernel), List.mem_of_getElem? (i := 616) (by decide +kernel), List.mem_of_getElem? (i := 617) (by decide +kernel)⟩
theorem lw_p18 : lw_okq (⟨"HarbourlightMonitor", "gatherLoud", "()V"⟩, 9) := ⟨⟨by decide +kernel, by decide +kernel⟩, List.mem_of_getElem? (i := 25) (by decide +kernel), List.mem_of_getElem? (i := 620) (by decide +kernel), List.mem_of_getElem? (i := 621) (by decide +kernel)⟩
theorem lw_p19 : lw_okq (⟨"HarbourlightMonitor", "groupOf", "(LHarbourlightMonitor$Rule;I)I"⟩, 9) := ⟨⟨by decide +kernel, by decide +kernel⟩, List.mem_of_getElem? (i := 25) (by decide +kernel), List.mem_of_getElem? (i := 628) (by decide +kernel), List.mem_of_getElem? (i := 629) (by decide +kernel)⟩
theorem lw_p20 : lw_okq (⟨"HarbourlightMonitor", "placeOf", "(LHarbourlightMonitor$Rule;I)I"⟩, 9) := ⟨⟨by decide +kernel, by decide +kernel⟩, List.mem_of_getElem? (i := 25) (by decide +kernel), List.mem_of_getElem? (i := 632) (by decide +kernel), List.mem_of_getElem? (i := 633) (by decide +kernel)⟩
theorem lw_p21 : lw_okq (⟨"HarbourlightMonitor", "hearing", "(LHarbourlightMonitor$Rule;II)I"⟩, 9) := ⟨⟨by decide +kernel, by decide +kernel⟩, List.mem_of_getElem? (i := 25) (by decide +kernel), List.mem_of_getElem? (i := 636) (by decide +kernel), List.mem_of_getElem? (i := 637) (by decide +kernel)⟩
theorem lw_p22 : lw_okq (⟨"HarbourlightMonitor", "isHushed", "(III)Z"⟩, 9) := ⟨⟨by decide +kernel, by decide +kernel⟩, List.mem_of_getElem? (i := 25) (by decide +kernel), List.mem_of_getElem? (i := 645) (by decide +kernel), List.mem_of_getElem? (i := 646) (by decide +kernel)⟩
theorem lw_p23 : lw_okq (⟨"HarbourlightMonitor", "isQuiet", "(III)Z"⟩, 9) := ⟨⟨by decide +kernel, by decide +kernel⟩, List.mem_of_getElem? (i := 25) (by decide +kernel), List.mem_of_getElem? (i := 653) (by decide +kernel), List.mem_of_getElem? (i := 654) (by decide +kernel)⟩
theorem lw_p24 : lw_okq (⟨"HarbourlightMonitor$Group", "hasTold", "()Z"⟩, 4) := ⟨⟨by decide +kernel, by decide +kernel⟩, List.mem_of_getElem? (i := 60) (by decide +kernel), List.mem_of_getElem? (i := 680) (by decide +kernel), List.mem_of_getElem? (i := 681) (by decide +kernel)⟩
theorem lw_p25 : lw_okq (⟨"HarbourlightMonitor$Group", "hasChanged", "()Z"⟩, 4) := ⟨⟨by decide +kernel, by decide +kernel⟩, List.mem_of_getElem? (i := 60) (by decide +kernel), List.mem_of_getElem? (i := 684) (by decide +kernel), List.mem_of_getElem? (i := 685) (by decide +kernel)⟩
theorem lw_p26 : lw_okq (⟨"HarbourlightMonitor", "greatestRank", "(LHarbourlightMonitor$Group;)I"⟩, 9) := ⟨⟨by decide +kernel, by decide +kernel⟩, List.mem_of_getElem? (i := 25) (by decide +kernel), List.mem_of_getElem? (i := 689) (by decide +kernel), List.mem_of_getElem? (i := 690) (by decide +kernel)⟩
theorem lw_p27 : lw_okq (⟨"HarbourlightMonitor", "countAlerts", "(I)I"⟩, 9) := ⟨⟨by decide +kernel, by decide +kernel⟩, List.mem_of_getElem? (i := 25) (by decide +kernel), List.mem_of_getElem? (i := 717) (by decide +kernel), List.mem_of_getElem? (i := 718) (by decide +kernel)⟩
theorem lw_p28 : lw_okq (⟨"HarbourlightMonitor", "countLoud", "(I)I"⟩, 9) := ⟨⟨by decide +kernel, by decide +kernel⟩, List.mem_of_getElem? (i := 25) (by decide +kernel), List.mem_of_getElem? (i := 725) (by decide +kernel), List.mem_of_getElem? (i := 726) (by decide +kernel)⟩
theorem lw_p29 : lw_okq (⟨"HarbourlightMonitor", "requireHush", "(I)LHarbourlightMonitor$Hush;"⟩, 9) := ⟨⟨by decide +kernel, by decide +kernel⟩, List.mem_of_getElem? (i := 25) (by decide +kernel), List.mem_of_getElem? (i := 762) (by decide +kernel), List.mem_of_getElem? (i := 763) (by decide +kernel)⟩
theorem lw_p30 : lw_okq (⟨"HarbourlightMonitor", "countCovered", "(LHarbourlightMonitor$Hush;)I"⟩, 9) := ⟨⟨by decide +kernel, by decide +kernel⟩, List.mem_of_getElem? (i := 25) (by decide +kernel), List.mem_of_getElem? (i := 767) (by decide +kernel), List.mem_of_getElem? (i := 768) (by decide +kernel)⟩
theorem lw_p31 : lw_okq (⟨"HarbourlightMonitor", "wouldBurn", "(LHarbourlightMonitor$Rule;II)Z"⟩, 9) := ⟨⟨by decide +kernel, by decide +kernel⟩, List.mem_of_getElem? (i := 25) (by decide +kernel), List.mem_of_getElem? (i := 789) (by decide +kernel), List.mem_of_getElem? (i := 790) (by decide +kernel)⟩
def lw_privs_2 : List (MethodName × Nat) := [(⟨"HarbourlightMonitor$Alert", "fall", "()V"⟩, 3), (⟨"HarbourlightMonitor", "sendNotices", "()I"⟩, 9), (⟨"HarbourlightMonitor", "gatherLoud", "()V"⟩, 9), (⟨"HarbourlightMonitor", "groupOf", "(LHarbourlightMonitor$Rule;I)I"⟩, 9), (⟨"HarbourlightMonitor", "placeOf", "(LHarbourlightMonitor$Rule;I)I"⟩, 9), (⟨"HarbourlightMonitor", "hearing", "(LHarbourlightMonitor$Rule;II)I"⟩, 9), (⟨"HarbourlightMonitor", "isHushed", "(III)Z"⟩, 9), (⟨"HarbourlightMonitor", "isQuiet", "(III)Z"⟩, 9), (⟨"HarbourlightMonitor$Group", "hasTold", "()Z"⟩, 4), (⟨"HarbourlightMonitor$Group", "hasChanged", "()Z"⟩, 4), (⟨"HarbourlightMonitor", "greatestRank", "(LHarbourlightMonitor$Group;)I"⟩, 9), (⟨"HarbourlightMonitor", "countAlerts", "(I)I"⟩, 9), (⟨"HarbourlightMonitor", "countLoud", "(I)I"⟩, 9), (⟨"HarbourlightMonitor", "requireHush", "(I)LHarbourlightMonitor$Hush;"⟩, 9), (⟨"HarbourlightMonitor", "countCovered", "(LHarbourlightMonitor$Hush;)I"⟩, 9), (⟨"HarbourlightMonitor", "wouldBurn", "(LHarbourlightMonitor$Rule;II)Z"⟩, 9)]
theorem lw_r2 : ∀ q ∈ lw_privs_2, lw_okq q := List.forall_mem_cons.mpr ⟨lw_p16, List.forall_mem_cons.mpr ⟨lw_p17, List.forall_mem_cons.mpr ⟨lw_p18, List.forall_mem_cons.mpr ⟨lw_p19, List.forall_mem_cons.mpr ⟨lw_p20, List.forall_mem_cons.mpr ⟨lw_p21, List.forall_mem_cons.mpr ⟨lw_p22, List.forall_mem_cons.mpr ⟨lw_p23, List.forall_mem_cons.mpr ⟨lw_p24, List.forall_mem_cons.mpr ⟨lw_p25, List.forall_mem_cons.mpr ⟨lw_p26, List.forall_mem_cons.mpr ⟨lw_p27, List.forall_mem_cons.mpr ⟨lw_p28, List.forall_mem_cons.mpr ⟨lw_p29, List.forall_mem_cons.mpr ⟨lw_p30, List.forall_mem_cons.mpr ⟨lw_p31, fun _ h => absurd h List.not_mem_nil⟩⟩⟩⟩⟩⟩⟩⟩⟩⟩⟩⟩⟩⟩⟩⟩
theorem lw_p32 : lw_okq (⟨"HarbourlightMonitor", "mixSeries", "(JI)J"⟩, 9) := ⟨⟨by decide +kernel, by decide +kernel⟩, List.mem_of_getElem? (i := 25) (by decide +kernel), List.mem_of_getElem? (i := 820) (by decide +kernel), List.mem_of_getElem? (i := 821) (by decide +kernel)⟩
theorem lw_p33 : lw_okq (⟨"HarbourlightMonitor", "mixAlert", "(JI)J"⟩, 9) := ⟨⟨by decide +kernel, by decide +kernel⟩, List.mem_of_getElem? (i := 25) (by decide +kernel), List.mem_of_getElem? (i := 829) (by decide +kernel), List.mem_of_getElem? (i := 830) (by decide +kernel)⟩
theorem lw_p34 : lw_okq (⟨"HarbourlightMonitor", "mixHush", "(JI)J"⟩, 9) := ⟨⟨by decide +kernel, by decide +kernel⟩, List.mem_of_getElem? (i := 25) (by decide +kernel), List.mem_of_getElem? (i := 835) (by decide +kernel), List.mem_of_getElem? (i := 836) (by decide +kernel)⟩
theorem lw_p35 : lw_okq (⟨"HarbourlightMonitor", "mixNotices", "(J)J"⟩, 9) := ⟨⟨by decide +kernel, by decide +kernel⟩, List.mem_of_getElem? (i := 25) (by decide +kernel), List.mem_of_getElem? (i := 840) (by decide +kernel), List.mem_of_getElem? (i := 841) (by decide +kernel)⟩
def lw_privs_3 : List (MethodName × Nat) := [(⟨"HarbourlightMonitor", "mixSeries", "(JI)J"⟩, 9), (⟨"HarbourlightMonitor", "mixAlert", "(JI)J"⟩, 9), (⟨"HarbourlightMonitor", "mixHush", "(JI)J"⟩, 9), (⟨"HarbourlightMonitor", "mixNotices", "(J)J"⟩, 9)]
theorem lw_r3 : ∀ q ∈ lw_privs_3, lw_okq q := List.forall_mem_cons.mpr ⟨lw_p32, List.forall_mem_cons.mpr ⟨lw_p33, List.forall_mem_cons.mpr ⟨lw_p34, List.forall_mem_cons.mpr ⟨lw_p35, fun _ h => absurd h List.not_mem_nil⟩⟩⟩⟩
def lw_privs : List (MethodName × Nat) := lw_privs_1 ++ (lw_privs_2 ++ (lw_privs_3))
def lw_tbl : List Cond := k2_sels lw_privs ++ tables_1
theorem lw_privs_ok : ∀ q ∈ lw_privs, lw_okq q := by
  show ∀ q ∈ lw_privs_1 ++ (lw_privs_2 ++ (lw_privs_3)), lw_okq q
  exact List.forall_mem_append.mpr ⟨lw_r1, List.forall_mem_append.mpr ⟨lw_r2, lw_r3⟩⟩
-- ===== end of PART A; then your names; then what follows =====
end
section
/-! ===== BEGIN words of one list among another's, by their places ===== -/
theorem goodIn_r {big : List Cond} (ws : List Cond) (ps : List Nat) (hp : ws = ps.filterMap (fun i => big[i]?)) (h : ws.all goodWord = true) : GoodIn big ws := by
  intro w hw
  have h1 := List.all_eq_true.mp h w hw
  rw [hp] at hw
  obtain ⟨i, -, hi⟩ := List.mem_filterMap.mp hw
  have hm : w ∈ big := by first | exact List.mem_of_getElem? hi | exact List.getElem?_mem hi
  exact ⟨hm, good_of_word h1⟩
theorem goodIn_app {big a b : List Cond} (ha : GoodIn big a) (hb : GoodIn big b) : GoodIn big (a ++ b) := fun w h => (List.mem_append.mp h).elim (ha w) (hb w)
theorem goodIn_ca {big a b : List Cond} {c : Cond} (ha : GoodIn big (c :: a)) (hb : GoodIn big b) : GoodIn big (c :: (a ++ b)) := fun w h => (List.mem_cons.mp h).elim (fun e => ha w (List.mem_cons.mpr (Or.inl e))) (fun h => (List.mem_append.mp h).elim (fun h => ha w (List.mem_cons.mpr (Or.inr h))) (hb w))
theorem goodIn_sub {big ws : List Cond} (hm : ∀ w ∈ ws, w ∈ big) (h : ws.all goodWord = true) : GoodIn big ws := fun w hw => ⟨hm w hw, good_of_word (List.all_eq_true.mp h w hw)⟩
/-! ===== END ===== -/

/-! ===== BEGIN new T[n][m]: the outer array a place, the inner ones among the pooled ===== -/
/-- f, but v at every address of l -/
def vr_up {α : Type} (f : Nat → α) (l : List Nat) (v : α) : Nat → α := fun a => if a ∈ l then v else f a
theorem vr_up_in {α : Type} {f : Nat → α} {l : List Nat} {v : α} {a : Nat} (h : a ∈ l) : vr_up f l v a = v := if_pos h
theorem vr_up_ne {α : Type} {f : Nat → α} {l : List Nat} {v : α} {a : Nat} (h : a ∉ l) : vr_up f l v a = f a := if_neg h
theorem vr_rows {L l : List Nat} {f : Nat → va_E} {e : va_E} (h : ∀ a, a ∈ l → a ∉ L) : va_pl L f ++ l.map (fun a => (a, e)) = va_pl (L ++ l) (vr_up f l e) := by
  unfold va_pl
  rw [List.map_append]
  congr 1
  · apply List.map_congr_left
    intro a ha
    rw [vr_up_ne (fun q => h a q ha)]
  · apply List.map_congr_left
    intro a ha
    rw [vr_up_in ha]
theorem vr_lay {X rows : va_W} {x : Nat × va_E} {pl : va_W} {D : va_G} {cl : List vw_C} {H : Heap} (hP : va_P D cl (((X ++ pl) ++ [x]) ++ rows) H) : va_P D cl ((X ++ [x]) ++ (pl ++ rows)) H := by
  rw [List.append_assoc (X ++ pl)] at hP
  have h := va_P.swap hP
  rw [← List.append_assoc X] at h
  have h2 := va_P.swap h
  rw [List.append_assoc (X ++ [x])] at h2
  exact h2
theorem vr_layD {X rows : va_W} {x : Nat × va_E} {pl : va_W} {A : Nat → Prop} (hD : va_D A (((X ++ pl) ++ [x]) ++ rows)) : va_D A ((X ++ [x]) ++ (pl ++ rows)) := by
  rw [List.append_assoc (X ++ pl)] at hD
  have h := va_D.swap hD
  rw [← List.append_assoc X] at h
  have h2 := va_D.swap h
  rw [List.append_assoc (X ++ [x])] at h2
  exact h2
theorem vr_outer (c : ClassId) (N h0 : Nat) : ∀ i : Nat, Jvm.Free.Multi.outerC c N h0 i = arrV c N (fun j => va_rf (if j < i then some (h0 + 1 + j) else none))
  | 0 => by
    show ({ cls := c, slots := Array.replicate N .null, vm := .none } : Cell) = _
    rw [arrV_new]
    refine congrArg (arrV c N) (funext fun j => ?_)
    simp [va_rf]
  | i + 1 => by
    show (Jvm.Free.Multi.outerC c N h0 i).setSlot i (.ref (h0 + 1 + i)) = _
    rw [vr_outer c N h0 i, arrV_store]
    refine congrArg (arrV c N) (funext fun j => ?_)
    by_cases e : j = i
    · subst e
      simp [updV, va_rf]
    · by_cases h : j < i
      · simp [updV, e, h, Nat.lt_succ_of_lt h]
      · simp [updV, e, h, show ¬ j < i + 1 by omega]
def va_AOA (ty : FieldType) (U : State) : Prop := (Cond.arrayOver (.array ty)).before #[] U = true
theorem va_AOA.use {ty : FieldType} {A : Array Value} {U : State} (h : va_AOA ty U) : (Cond.arrayOver (.array ty)).before A U = true := h
section VGM
variable {p : Program} {l : Launch} {e : Env} {R : Room} {s : State} {m : MethodId} {args : Array Value} {below : List Frame} {meth : Method} {c : Code} {H : Heap} {locs : List Loc} {cells slots : Nat} {Q : State → Prop}
variable {cc : ByteArray} {pc : Nat} {ls : Array Slot} {rest : List Value} {D : va_G} {cl : List vw_C} {A : Nat → Prop} {a : Nat} {tys : List (ClassId × FieldType)} {ws : va_W} {H0 : Heap}
theorem va_mna {X : va_W} {L : List Nat} {f : Nat → va_E} {cc : ByteArray} (hexec : p.tables.exec = Jvm.exec) (hb : c.code = cc) {own : String} {index : Nat} {ty : FieldType} {cy : ClassId} (hown : s.vm.findClass own = some m.cls) (hclink : (Cond.classLink own index ("[" ++ (FieldType.array ty).toString)).before args s = true) (hover : va_AOA ty s) (harr : (Cond.arrayClass ty).before args s = true) (hcy : s.vm.findClass (FieldType.array ty).toString = some cy)
    (hK : va_K D cl tys s) (hP : va_P D cl (X ++ va_pl L f) H) (hD : va_D A (X ++ va_pl L f)) (hS : va_S A H0 H locs) (hA : ∀ q, H0.size ≤ q → A q) {n k : Int32} {N' K' : Nat} {z : vp_A} (hn : ¬ n < 0) (hk : ¬ k < 0) (hN : n.toNatClampNeg = N') (hM : k.toNatClampNeg = K')
    (hb1 : N' * 4 ≤ 536870912) (hb2 : K' * componentBytes ty ≤ 536870912) (hb3 : K' ≤ 536870912) (hdf : fits ty (defaultValue ty) = true) (hdd : (defaultValue ty).isDefault = true) (hcells : cells + (1 + N') ≤ R.cells) (hslots : slots + (N' + N' * K') ≤ R.slots) (hz : ∀ c : ClassId, Jvm.Free.Multi.innerC c K' (defaultValue ty) = vp_cell c z) (hdg : decode cc pc = .ok (.multianewarray index 2, 4))
    (kk : ∀ (q : Nat) (r : Nat → Nat) (cA : ClassId) (H1 : Heap), (∀ i j : Nat, i < N' → j < N' → r i = r j → i = j) → (∀ i : Nat, i < N' → r i ∉ L) → va_K D cl (tys ++ [(cA, .array ty)]) s →
      va_P D cl ((X ++ [(q, .inl (cA, N', .inr (.inr (.inr (.inr (fun i => if i < N' then some (r i) else none))))))]) ++ va_pl (L ++ (List.range N').map r) (vr_up f ((List.range N').map r) (.inl (cy, z)))) H1 → va_D A ((X ++ [(q, .inl (cA, N', .inr (.inr (.inr (.inr (fun i => if i < N' then some (r i) else none))))))]) ++ va_pl (L ++ (List.range N').map r) (vr_up f ((List.range N').map r) (.inl (cy, z)))) → va_S A H0 H1 locs →
      W p l e R s m args below meth c H1 locs (cells + 1 + N') (slots + N' + N' * K') Q (F0 m (pc + 4) ls (.ref q :: rest))) : W p l e R s m args below meth c H locs cells slots Q (F0 m pc ls (.int k :: .int n :: rest)) := by
  subst hN
  subst hM
  intro T hT Xs
  obtain ⟨vm₁, cA, comp, -, fA, fC, hO, -, X', step⟩ := Xs.multianewarray2F hexec hown hclink (va_AOA.use hover) harr (g := F0 m pc ls (.int k :: .int n :: rest)) rfl (by rw [hb]; exact hdg) rfl hn hk hb1 hb2 hb3 hdf hdd hcells hslots
  have ec : some cy = some comp := hcy.symm.trans fC
  cases ec
  generalize hF : Jvm.Free.Multi.fill (T.setVm vm₁) cA cy n.toNatClampNeg k.toNatClampNeg (defaultValue ty) n.toNatClampNeg = F at X' step
  have hTh : (T.setVm vm₁).heap = H := hT
  obtain ⟨f1, f2, -, -⟩ := Jvm.Free.Multi.fill_facts (T.setVm vm₁) cA cy n.toNatClampNeg k.toNatClampNeg (defaultValue ty) n.toNatClampNeg
  rw [hF, hTh] at f1 f2
  have hold : ∀ x : Nat, x < H.size → F.heap[x]? = H[x]? := fun x hx => by
    have := Jvm.Free.Multi.fill_old (T.setVm vm₁) cA cy n.toNatClampNeg k.toNatClampNeg (defaultValue ty) (a := x) (by rw [hTh]; exact hx) n.toNatClampNeg
    rw [hF, hTh] at this
    exact this
  have hrow : ∀ j : Nat, j < n.toNatClampNeg → F.heap[H.size + 1 + j]? = some (vp_cell cy z) := fun j hj => by
    have := Jvm.Free.Multi.fill_inner (T.setVm vm₁) cA cy n.toNatClampNeg k.toNatClampNeg (defaultValue ty) n.toNatClampNeg j hj
    rw [hF, hTh, hz] at this
    exact this
  have hout : Jvm.Free.Multi.outerC cA n.toNatClampNeg H.size n.toNatClampNeg = vp_cell cA (n.toNatClampNeg, .inr (.inr (.inr (.inr (fun i => if i < n.toNatClampNeg then some (H.size + 1 + i) else none))))) := by
    rw [vp_cell_q]
    exact vr_outer cA n.toNatClampNeg H.size n.toNatClampNeg
  rw [hout] at f2
  have hlt : ∀ a, a ∈ L → a < H.size := fun a ha => by
    obtain ⟨k9, hk9⟩ := va_pl_get (X := X) (f := f) ha
    exact (hP k9 _ hk9).lt
  have hnl : ∀ i : Nat, i < n.toNatClampNeg → H.size + 1 + i ∉ L := fun i _ h => by
    have := hlt _ h
    omega
  have hnm : ∀ a, a ∈ (List.range n.toNatClampNeg).map (fun i => H.size + 1 + i) → a ∉ L := fun a ha h => by
    obtain ⟨i, -, rfl⟩ := List.mem_map.mp ha
    have := hlt _ h
    omega
  have hP0 : va_P D cl (X ++ va_pl L f) F.heap := hP.kept (fun k9 x hx => hold x.1 ((hP k9 x hx).lt))
  have hP1 : va_P D cl ((X ++ va_pl L f) ++ [(H.size, .inl (cA, n.toNatClampNeg, .inr (.inr (.inr (.inr (fun i => if i < n.toNatClampNeg then some (H.size + 1 + i) else none))))))]) F.heap := hP0.app (fun k9 x hx => by
    have h0 : k9 < 1 := (List.getElem?_eq_some_iff.mp hx).1
    rw [show k9 = 0 by omega] at hx
    cases hx
    exact f2)
  have hP2 : va_P D cl (((X ++ va_pl L f) ++ [(H.size, .inl (cA, n.toNatClampNeg, .inr (.inr (.inr (.inr (fun i => if i < n.toNatClampNeg then some (H.size + 1 + i) else none))))))]) ++ ((List.range n.toNatClampNeg).map (fun i => H.size + 1 + i)).map (fun a => (a, .inl (cy, z)))) F.heap := hP1.app (fun k9 x hx => by
    obtain ⟨a, ha, rfl⟩ := List.mem_map.mp (List.mem_of_getElem? hx)
    obtain ⟨i, hi, rfl⟩ := List.mem_map.mp ha
    exact hrow i (List.mem_range.mp hi))
  have hD2 : va_D A (((X ++ va_pl L f) ++ [(H.size, .inl (cA, n.toNatClampNeg, .inr (.inr (.inr (.inr (fun i => if i < n.toNatClampNeg then some (H.size + 1 + i) else none))))))]) ++ ((List.range n.toNatClampNeg).map (fun i => H.size + 1 + i)).map (fun a => (a, .inl (cy, z)))) := by
    have hD1 := hD.push (e := .inl (cA, n.toNatClampNeg, .inr (.inr (.inr (.inr (fun i => if i < n.toNatClampNeg then some (H.size + 1 + i) else none)))))) hP rfl (hA _ hS.1)
    generalize hW1 : (X ++ va_pl L f) ++ [(H.size, .inl (cA, n.toNatClampNeg, .inr (.inr (.inr (.inr (fun i => if i < n.toNatClampNeg then some (H.size + 1 + i) else none))))))] = W1 at hD1 hP1 ⊢
    have hle : ∀ (k9 : Nat) (x : Nat × va_E), W1[k9]? = some x → x.1 ≤ H.size := fun k9 x hx => by
      rw [← hW1] at hx
      by_cases hl : k9 < (X ++ va_pl L f).length
      · rw [List.getElem?_append_left hl] at hx
        exact Nat.le_of_lt ((hP k9 x hx).lt)
      · rw [List.getElem?_append_right (by omega)] at hx
        have h0 : k9 - (X ++ va_pl L f).length < 1 := (List.getElem?_eq_some_iff.mp hx).1
        rw [show k9 - (X ++ va_pl L f).length = 0 by omega] at hx
        cases hx
        exact Nat.le_refl _
    have hr : ∀ (k9 : Nat) (x : Nat × va_E), (((List.range n.toNatClampNeg).map (fun i => H.size + 1 + i)).map (fun a => ((a, .inl (cy, z)) : Nat × va_E)))[k9]? = some x → x.1 = H.size + 1 + k9 := fun k9 x hx => by
      rw [List.getElem?_map, List.getElem?_map] at hx
      by_cases h9 : k9 < n.toNatClampNeg
      · rw [List.getElem?_range h9] at hx
        cases hx
        rfl
      · have hn0 : (List.range n.toNatClampNeg)[k9]? = none := List.getElem?_eq_none (by rw [List.length_range]; omega)
        rw [hn0] at hx
        cases hx
    refine ⟨fun i j x y hi hj hxy => ?_, fun k9 x hx => ?_⟩
    · by_cases h1 : i < W1.length <;> by_cases h2 : j < W1.length
      · rw [List.getElem?_append_left h1] at hi
        rw [List.getElem?_append_left h2] at hj
        exact hD1.1 i j x y hi hj hxy
      · rw [List.getElem?_append_left h1] at hi
        rw [List.getElem?_append_right (by omega)] at hj
        have := hle _ _ hi
        have := hr _ _ hj
        omega
      · rw [List.getElem?_append_right (by omega)] at hi
        rw [List.getElem?_append_left h2] at hj
        have := hle _ _ hj
        have := hr _ _ hi
        omega
      · rw [List.getElem?_append_right (by omega)] at hi hj
        have := hr _ _ hi
        have := hr _ _ hj
        omega
    · by_cases h1 : k9 < W1.length
      · rw [List.getElem?_append_left h1] at hx
        exact hD1.2 k9 x hx
      · rw [List.getElem?_append_right (by omega)] at hx
        have := hr _ _ hx
        exact hA _ (by have := hS.1; omega)
  have hAr : ArrOfT s cA (.array ty) := fun N9 z9 => by
    obtain ⟨-, k9, hk9, cm9, hkk9⟩ := (hO 0 0 0).1
    exact ⟨(fun q hq => by cases hq), k9, hk9, cm9, hkk9⟩
  have hK2 : va_K D cl (tys ++ [(cA, .array ty)]) s := ⟨hK.1, fun k9 x hx => by
    by_cases hl : k9 < tys.length
    · rw [List.getElem?_append_left hl] at hx
      exact hK.2 k9 x hx
    · rw [List.getElem?_append_right (by omega)] at hx
      have h0 : k9 - tys.length < 1 := (List.getElem?_eq_some_iff.mp hx).1
      rw [show k9 - tys.length = 0 by omega] at hx
      cases hx
      exact ⟨hAr, fA⟩⟩
  obtain ⟨t, a1, b1⟩ := kk H.size (fun i => H.size + 1 + i) cA F.heap (fun i j _ _ h => by have h9 : H.size + 1 + i = H.size + 1 + j := h; omega) hnl hK2 (by rw [← vr_rows hnm]; exact vr_lay hP2) (by rw [← vr_rows hnm]; exact vr_layD hD2) ⟨by rw [f1]; have := hS.1; omega, fun x h1 h2 => (hold x (Nat.lt_of_lt_of_le h1 hS.1)).trans (hS.2.1 x h1 h2), hS.2.2⟩ F rfl X'
  refine ⟨t, step t ?_, b1⟩
  have e : T.heap.size = H.size := by rw [hT]
  rw [e]
  exact a1
end VGM
/-! ===== END ===== -/

def RX0 : String := "HarbourlightMonitor$Alert"
def TX0 : u_T := fun k => match k with
  | 0 => ("HarbourlightMonitor$Alert", "state", "I", false)
  | 1 => ("HarbourlightMonitor$Alert", "since", "I", false)
  | _ => ("HarbourlightMonitor$Alert", "ticksNotBeyond", "I", false)
def tyX0 : Nat → FieldType := fun k => match k with
  | 0 => .int
  | 1 => .int
  | _ => .int
abbrev wsX00 : List Cond := u_ws RX0 TX0 3
theorem nmX0 : ∀ a, a < 3 → ∀ b, b < 3 → a ≠ b → (TX0 a).2.1 ≠ (TX0 b).2.1 := by decide +kernel
theorem tyX0_ok : ∀ k, k < 3 → parseFieldDescriptor (TX0 k).2.2.1 = some (tyX0 k) := by decide +kernel
abbrev cX0_init : ByteArray := prog_2_method_1_code
def yX0_init : MethodName := ⟨RX0, "<init>", "()V"⟩
abbrev cX0_step : ByteArray := prog_2_method_2_code
def yX0_step : MethodName := ⟨RX0, "step", "(ZII)V"⟩
abbrev cX0_rise : ByteArray := prog_2_method_3_code
def yX0_rise : MethodName := ⟨RX0, "rise", "(II)V"⟩
abbrev cX0_fall : ByteArray := prog_2_method_4_code
def yX0_fall : MethodName := ⟨RX0, "fall", "()V"⟩
abbrev cX0_become : ByteArray := prog_2_method_5_code
def yX0_become : MethodName := ⟨RX0, "become", "(LHarbourlightMonitor$Alert;)V"⟩
def RX1 : String := "HarbourlightMonitor$Group"
def TX1 : u_T := fun k => match k with
  | 0 => ("HarbourlightMonitor$Group", "loud", "[I", true)
  | 1 => ("HarbourlightMonitor$Group", "told", "[I", true)
  | 2 => ("HarbourlightMonitor$Group", "toldAt", "I", false)
  | _ => ("HarbourlightMonitor$Group", "wasLoud", "Z", false)
def tyX1 : Nat → FieldType := fun k => match k with
  | 0 => .array .int
  | 1 => .array .int
  | 2 => .int
  | _ => .boolean
abbrev wsX10 : List Cond := u_ws RX1 TX1 4
theorem nmX1 : ∀ a, a < 4 → ∀ b, b < 4 → a ≠ b → (TX1 a).2.1 ≠ (TX1 b).2.1 := by decide +kernel
theorem tyX1_ok : ∀ k, k < 4 → parseFieldDescriptor (TX1 k).2.2.1 = some (tyX1 k) := by decide +kernel
abbrev cX1_init : ByteArray := prog_3_method_1_code
def yX1_init : MethodName := ⟨RX1, "<init>", "()V"⟩
abbrev cX1_forget : ByteArray := prog_3_method_2_code
def yX1_forget : MethodName := ⟨RX1, "forget", "()V"⟩
abbrev cX1_clearLoud : ByteArray := prog_3_method_3_code
def yX1_clearLoud : MethodName := ⟨RX1, "clearLoud", "()V"⟩
abbrev cX1_addLoud : ByteArray := prog_3_method_4_code
def yX1_addLoud : MethodName := ⟨RX1, "addLoud", "(II)V"⟩
abbrev cX1_hasLoudOf : ByteArray := prog_3_method_5_code
def yX1_hasLoudOf : MethodName := ⟨RX1, "hasLoudOf", "(I)Z"⟩
abbrev cX1_isLoud : ByteArray := prog_3_method_6_code
def yX1_isLoud : MethodName := ⟨RX1, "isLoud", "()Z"⟩
abbrev cX1_countLoudNow : ByteArray := prog_3_method_7_code
def yX1_countLoudNow : MethodName := ⟨RX1, "countLoudNow", "()I"⟩
abbrev cX1_hasTold : ByteArray := prog_3_method_8_code
def yX1_hasTold : MethodName := ⟨RX1, "hasTold", "()Z"⟩
abbrev cX1_hasChanged : ByteArray := prog_3_method_9_code
def yX1_hasChanged : MethodName := ⟨RX1, "hasChanged", "()Z"⟩
abbrev cX1_isDue : ByteArray := prog_3_method_10_code
def yX1_isDue : MethodName := ⟨RX1, "isDue", "(II)Z"⟩
abbrev cX1_markTold : ByteArray := prog_3_method_11_code
def yX1_markTold : MethodName := ⟨RX1, "markTold", "(I)V"⟩
def RX2 : String := "HarbourlightMonitor$Hush"
def TX2 : u_T := fun k => match k with
  | 0 => ("HarbourlightMonitor$Hush", "rule", "I", true)
  | 1 => ("HarbourlightMonitor$Hush", "place", "I", true)
  | _ => ("HarbourlightMonitor$Hush", "till", "I", true)
def tyX2 : Nat → FieldType := fun k => match k with
  | 0 => .int
  | 1 => .int
  | _ => .int
abbrev wsX20 : List Cond := u_ws RX2 TX2 3
theorem nmX2 : ∀ a, a < 3 → ∀ b, b < 3 → a ≠ b → (TX2 a).2.1 ≠ (TX2 b).2.1 := by decide +kernel
theorem tyX2_ok : ∀ k, k < 3 → parseFieldDescriptor (TX2 k).2.2.1 = some (tyX2 k) := by decide +kernel
abbrev cX2_init : ByteArray := prog_4_method_1_code
def yX2_init : MethodName := ⟨RX2, "<init>", "(III)V"⟩
abbrev cX2_covers : ByteArray := prog_4_method_2_code
def yX2_covers : MethodName := ⟨RX2, "covers", "(III)Z"⟩
def RX3 : String := "HarbourlightMonitor$NoticeLog"
def TX3 : u_T := fun k => match k with
  | 0 => ("HarbourlightMonitor$NoticeLog", "kept", "[[I", true)
  | 1 => ("HarbourlightMonitor$NoticeLog", "latest", "I", false)
  | 2 => ("HarbourlightMonitor$NoticeLog", "held", "I", false)
  | _ => ("HarbourlightMonitor$NoticeLog", "ever", "I", false)
def tyX3 : Nat → FieldType := fun k => match k with
  | 0 => .array (.array .int)
  | 1 => .int
  | 2 => .int
  | _ => .int
abbrev wsX30 : List Cond := u_ws RX3 TX3 4
theorem nmX3 : ∀ a, a < 4 → ∀ b, b < 4 → a ≠ b → (TX3 a).2.1 ≠ (TX3 b).2.1 := by decide +kernel
theorem tyX3_ok : ∀ k, k < 4 → parseFieldDescriptor (TX3 k).2.2.1 = some (tyX3 k) := by decide +kernel
abbrev cX3_init : ByteArray := prog_5_method_1_code
def yX3_init : MethodName := ⟨RX3, "<init>", "()V"⟩
abbrev cX3_keep : ByteArray := prog_5_method_2_code
def yX3_keep : MethodName := ⟨RX3, "keep", "(IIII)V"⟩
abbrev cX3_factOf : ByteArray := prog_5_method_3_code
def yX3_factOf : MethodName := ⟨RX3, "factOf", "(II)I"⟩
def RX4 : String := "HarbourlightMonitor$Rule"
def TX4 : u_T := fun k => match k with
  | 0 => ("HarbourlightMonitor$Rule", "number", "I", true)
  | 1 => ("HarbourlightMonitor$Rule", "metric", "I", true)
  | 2 => ("HarbourlightMonitor$Rule", "look", "I", true)
  | 3 => ("HarbourlightMonitor$Rule", "w", "I", true)
  | 4 => ("HarbourlightMonitor$Rule", "way", "I", true)
  | 5 => ("HarbourlightMonitor$Rule", "isAbove", "Z", false)
  | 6 => ("HarbourlightMonitor$Rule", "limit", "I", false)
  | 7 => ("HarbourlightMonitor$Rule", "wait", "I", false)
  | 8 => ("HarbourlightMonitor$Rule", "rank", "I", false)
  | _ => ("HarbourlightMonitor$Rule", "alerts", "[LHarbourlightMonitor$Alert;", true)
def tyX4 : Nat → FieldType := fun k => match k with
  | 0 => .int
  | 1 => .int
  | 2 => .int
  | 3 => .int
  | 4 => .int
  | 5 => .boolean
  | 6 => .int
  | 7 => .int
  | 8 => .int
  | _ => .array (.object "HarbourlightMonitor$Alert")
abbrev wsX40 : List Cond := u_ws RX4 TX4 10
theorem nmX4 : ∀ a, a < 10 → ∀ b, b < 10 → a ≠ b → (TX4 a).2.1 ≠ (TX4 b).2.1 := by decide +kernel
theorem tyX4_ok : ∀ k, k < 10 → parseFieldDescriptor (TX4 k).2.2.1 = some (tyX4 k) := by decide +kernel
abbrev cX4_init : ByteArray := prog_6_method_1_code
def yX4_init : MethodName := ⟨RX4, "<init>", "(IIIII)V"⟩
abbrev cX4_takes : ByteArray := prog_6_method_2_code
def yX4_takes : MethodName := ⟨RX4, "takes", "(LHarbourlightMonitor$Series;I)Z"⟩
abbrev cX4_isBeyond : ByteArray := prog_6_method_3_code
def yX4_isBeyond : MethodName := ⟨RX4, "isBeyond", "(II)Z"⟩
abbrev cX4_alertOf : ByteArray := prog_6_method_4_code
def yX4_alertOf : MethodName := ⟨RX4, "alertOf", "(I)LHarbourlightMonitor$Alert;"⟩
abbrev cX4_hasAlert : ByteArray := prog_6_method_5_code
def yX4_hasAlert : MethodName := ⟨RX4, "hasAlert", "(I)Z"⟩
abbrev cX4_burns : ByteArray := prog_6_method_6_code
def yX4_burns : MethodName := ⟨RX4, "burns", "(I)Z"⟩
abbrev cX4_countAlertsFrom : ByteArray := prog_6_method_7_code
def yX4_countAlertsFrom : MethodName := ⟨RX4, "countAlertsFrom", "(I)I"⟩
abbrev cX4_keyOfAlert : ByteArray := prog_6_method_8_code
def yX4_keyOfAlert : MethodName := ⟨RX4, "keyOfAlert", "(I)I"⟩
def RX5 : String := "HarbourlightMonitor$Series"
def TX5 : u_T := fun k => match k with
  | 0 => ("HarbourlightMonitor$Series", "number", "I", true)
  | 1 => ("HarbourlightMonitor$Series", "kind", "I", true)
  | 2 => ("HarbourlightMonitor$Series", "metric", "I", true)
  | 3 => ("HarbourlightMonitor$Series", "place", "I", true)
  | 4 => ("HarbourlightMonitor$Series", "present", "[I", true)
  | 5 => ("HarbourlightMonitor$Series", "samples", "[[I", true)
  | 6 => ("HarbourlightMonitor$Series", "latest", "I", false)
  | _ => ("HarbourlightMonitor$Series", "held", "I", false)
def tyX5 : Nat → FieldType := fun k => match k with
  | 0 => .int
  | 1 => .int
  | 2 => .int
  | 3 => .int
  | 4 => .array .int
  | 5 => .array (.array .int)
  | 6 => .int
  | _ => .int
abbrev wsX50 : List Cond := u_ws RX5 TX5 8
theorem nmX5 : ∀ a, a < 8 → ∀ b, b < 8 → a ≠ b → (TX5 a).2.1 ≠ (TX5 b).2.1 := by decide +kernel
theorem tyX5_ok : ∀ k, k < 8 → parseFieldDescriptor (TX5 k).2.2.1 = some (tyX5 k) := by decide +kernel
abbrev cX5_init : ByteArray := prog_7_method_1_code
def yX5_init : MethodName := ⟨RX5, "<init>", "(IIII)V"⟩
abbrev cX5_take : ByteArray := prog_7_method_2_code
def yX5_take : MethodName := ⟨RX5, "take", "(I)V"⟩
abbrev cX5_columnFor : ByteArray := prog_7_method_3_code
def yX5_columnFor : MethodName := ⟨RX5, "columnFor", "(I)I"⟩
abbrev cX5_beginAnew : ByteArray := prog_7_method_4_code
def yX5_beginAnew : MethodName := ⟨RX5, "beginAnew", "()V"⟩
abbrev cX5_keepSample : ByteArray := prog_7_method_5_code
def yX5_keepSample : MethodName := ⟨RX5, "keepSample", "()V"⟩
abbrev cX5_past : ByteArray := prog_7_method_6_code
def yX5_past : MethodName := ⟨RX5, "past", "(III)I"⟩
abbrev cX5_lookOver : ByteArray := prog_7_method_7_code
def yX5_lookOver : MethodName := ⟨RX5, "lookOver", "(III)I"⟩
abbrev cX5_growthOf : ByteArray := prog_7_method_8_code
def yX5_growthOf : MethodName := ⟨RX5, "growthOf", "(III)I"⟩
abbrev cX5_meanOver : ByteArray := prog_7_method_9_code
def yX5_meanOver : MethodName := ⟨RX5, "meanOver", "(II)I"⟩
abbrev cX5_utmostOver : ByteArray := prog_7_method_10_code
def yX5_utmostOver : MethodName := ⟨RX5, "utmostOver", "(IIZ)I"⟩
abbrev cX5_partOver : ByteArray := prog_7_method_11_code
def yX5_partOver : MethodName := ⟨RX5, "partOver", "(III)I"⟩
def RX6 : String := "HarbourlightMonitor"
def TX6 : u_T := fun k => match k with
  | 0 => ("HarbourlightMonitor", "seriesList", "Ljava/util/ArrayList;", true)
  | 1 => ("HarbourlightMonitor", "ruleList", "Ljava/util/ArrayList;", true)
  | 2 => ("HarbourlightMonitor", "hushList", "Ljava/util/ArrayList;", true)
  | 3 => ("HarbourlightMonitor", "groups", "[LHarbourlightMonitor$Group;", true)
  | 4 => ("HarbourlightMonitor", "log", "LHarbourlightMonitor$NoticeLog;", true)
  | 5 => ("HarbourlightMonitor", "rehearsed", "LHarbourlightMonitor$Alert;", true)
  | 6 => ("HarbourlightMonitor", "clockNow", "I", false)
  | 7 => ("HarbourlightMonitor", "grouping", "I", false)
  | _ => ("HarbourlightMonitor", "repeat", "I", false)
def tyX6 : Nat → FieldType := fun k => match k with
  | 0 => .object "java/util/ArrayList"
  | 1 => .object "java/util/ArrayList"
  | 2 => .object "java/util/ArrayList"
  | 3 => .array (.object "HarbourlightMonitor$Group")
  | 4 => .object "HarbourlightMonitor$NoticeLog"
  | 5 => .object "HarbourlightMonitor$Alert"
  | 6 => .int
  | 7 => .int
  | _ => .int
abbrev wsX60 : List Cond := u_ws RX6 TX6 9
theorem nmX6 : ∀ a, a < 9 → ∀ b, b < 9 → a ≠ b → (TX6 a).2.1 ≠ (TX6 b).2.1 := by decide +kernel
theorem tyX6_ok : ∀ k, k < 9 → parseFieldDescriptor (TX6 k).2.2.1 = some (tyX6 k) := by decide +kernel
abbrev cX6_init : ByteArray := prog_1_method_1_code
def yX6_init : MethodName := ⟨RX6, "<init>", "()V"⟩
abbrev cX6_series : ByteArray := prog_1_method_2_code
def yX6_series : MethodName := ⟨RX6, "series", "(III)I"⟩
abbrev cX6_tell : ByteArray := prog_1_method_3_code
def yX6_tell : MethodName := ⟨RX6, "tell", "(II)I"⟩
abbrev cX6_reset : ByteArray := prog_1_method_4_code
def yX6_reset : MethodName := ⟨RX6, "reset", "(I)I"⟩
abbrev cX6_rule : ByteArray := prog_1_method_5_code
def yX6_rule : MethodName := ⟨RX6, "rule", "(IIIIIZ)I"⟩
abbrev cX6_setRule : ByteArray := prog_1_method_6_code
def yX6_setRule : MethodName := ⟨RX6, "setRule", "(IIII)I"⟩
abbrev cX6_dropRule : ByteArray := prog_1_method_7_code
def yX6_dropRule : MethodName := ⟨RX6, "dropRule", "()I"⟩
abbrev cX6_hush : ByteArray := prog_1_method_8_code
def yX6_hush : MethodName := ⟨RX6, "hush", "(III)I"⟩
abbrev cX6_group : ByteArray := prog_1_method_10_code
def yX6_group : MethodName := ⟨RX6, "group", "(II)I"⟩
abbrev cX6_tick : ByteArray := prog_1_method_11_code
def yX6_tick : MethodName := ⟨RX6, "tick", "(I)I"⟩
abbrev cX6_clock : ByteArray := prog_1_method_12_code
def yX6_clock : MethodName := ⟨RX6, "clock", "()I"⟩
abbrev cX6_many : ByteArray := prog_1_method_13_code
def yX6_many : MethodName := ⟨RX6, "many", "(I)I"⟩
abbrev cX6_now : ByteArray := prog_1_method_14_code
def yX6_now : MethodName := ⟨RX6, "now", "(II)I"⟩
abbrev cX6_sample : ByteArray := prog_1_method_15_code
def yX6_sample : MethodName := ⟨RX6, "sample", "(II)I"⟩
abbrev cX6_look : ByteArray := prog_1_method_16_code
def yX6_look : MethodName := ⟨RX6, "look", "(III)I"⟩
abbrev cX6_alert : ByteArray := prog_1_method_19_code
def yX6_alert : MethodName := ⟨RX6, "alert", "(III)I"⟩
abbrev cX6_alertAt : ByteArray := prog_1_method_20_code
def yX6_alertAt : MethodName := ⟨RX6, "alertAt", "(II)I"⟩
abbrev cX6_ofHush : ByteArray := prog_1_method_21_code
def yX6_ofHush : MethodName := ⟨RX6, "ofHush", "(II)I"⟩
abbrev cX6_notice : ByteArray := prog_1_method_22_code
def yX6_notice : MethodName := ⟨RX6, "notice", "(II)I"⟩
abbrev cX6_burningIn : ByteArray := prog_1_method_23_code
def yX6_burningIn : MethodName := ⟨RX6, "burningIn", "(I)I"⟩
abbrev cX6_beyond : ByteArray := prog_1_method_24_code
def yX6_beyond : MethodName := ⟨RX6, "beyond", "(II)I"⟩
abbrev cX6_calm : ByteArray := prog_1_method_25_code
def yX6_calm : MethodName := ⟨RX6, "calm", "(I)I"⟩
abbrev cX6_loudWithout : ByteArray := prog_1_method_26_code
def yX6_loudWithout : MethodName := ⟨RX6, "loudWithout", "(I)I"⟩
abbrev cX6_digest : ByteArray := prog_1_method_27_code
def yX6_digest : MethodName := ⟨RX6, "digest", "()J"⟩
abbrev cX6_mix : ByteArray := prog_1_method_28_code
def yX6_mix : MethodName := ⟨RX6, "mix", "(JI)J"⟩
abbrev cX6_mixSeries : ByteArray := prog_1_method_29_code
def yX6_mixSeries : MethodName := ⟨RX6, "mixSeries", "(JI)J"⟩
abbrev cX6_mixAlert : ByteArray := prog_1_method_30_code
def yX6_mixAlert : MethodName := ⟨RX6, "mixAlert", "(JI)J"⟩
abbrev cX6_mixHush : ByteArray := prog_1_method_31_code
def yX6_mixHush : MethodName := ⟨RX6, "mixHush", "(JI)J"⟩
abbrev cX6_mixNotices : ByteArray := prog_1_method_32_code
def yX6_mixNotices : MethodName := ⟨RX6, "mixNotices", "(J)J"⟩
abbrev cX6_isOutside : ByteArray := prog_1_method_33_code
def yX6_isOutside : MethodName := ⟨RX6, "isOutside", "(III)Z"⟩
abbrev cX6_requireMetric : ByteArray := prog_1_method_34_code
def yX6_requireMetric : MethodName := ⟨RX6, "requireMetric", "(I)V"⟩
abbrev cX6_requireLook : ByteArray := prog_1_method_35_code
def yX6_requireLook : MethodName := ⟨RX6, "requireLook", "(I)V"⟩
abbrev cX6_requireW : ByteArray := prog_1_method_36_code
def yX6_requireW : MethodName := ⟨RX6, "requireW", "(I)V"⟩
abbrev cX6_requireLimit : ByteArray := prog_1_method_37_code
def yX6_requireLimit : MethodName := ⟨RX6, "requireLimit", "(I)V"⟩
abbrev cX6_requireTicks : ByteArray := prog_1_method_38_code
def yX6_requireTicks : MethodName := ⟨RX6, "requireTicks", "(I)V"⟩
abbrev cX6_requireSeries : ByteArray := prog_1_method_39_code
def yX6_requireSeries : MethodName := ⟨RX6, "requireSeries", "(I)LHarbourlightMonitor$Series;"⟩
abbrev cX6_requireRule : ByteArray := prog_1_method_40_code
def yX6_requireRule : MethodName := ⟨RX6, "requireRule", "(I)LHarbourlightMonitor$Rule;"⟩
abbrev cX6_requireHush : ByteArray := prog_1_method_41_code
def yX6_requireHush : MethodName := ⟨RX6, "requireHush", "(I)LHarbourlightMonitor$Hush;"⟩
abbrev cX6_hasKey : ByteArray := prog_1_method_42_code
def yX6_hasKey : MethodName := ⟨RX6, "hasKey", "(LHarbourlightMonitor$Rule;I)Z"⟩
abbrev cX6_lookedAt : ByteArray := prog_1_method_43_code
def yX6_lookedAt : MethodName := ⟨RX6, "lookedAt", "(LHarbourlightMonitor$Rule;II)I"⟩
abbrev cX6_placeOf : ByteArray := prog_1_method_44_code
def yX6_placeOf : MethodName := ⟨RX6, "placeOf", "(LHarbourlightMonitor$Rule;I)I"⟩
abbrev cX6_stepAlerts : ByteArray := prog_1_method_45_code
def yX6_stepAlerts : MethodName := ⟨RX6, "stepAlerts", "(LHarbourlightMonitor$Rule;)V"⟩
abbrev cX6_wouldBurn : ByteArray := prog_1_method_46_code
def yX6_wouldBurn : MethodName := ⟨RX6, "wouldBurn", "(LHarbourlightMonitor$Rule;II)Z"⟩
abbrev cX6_countAlerts : ByteArray := prog_1_method_47_code
def yX6_countAlerts : MethodName := ⟨RX6, "countAlerts", "(I)I"⟩
abbrev cX6_hearing : ByteArray := prog_1_method_48_code
def yX6_hearing : MethodName := ⟨RX6, "hearing", "(LHarbourlightMonitor$Rule;II)I"⟩
abbrev cX6_isHushed : ByteArray := prog_1_method_49_code
def yX6_isHushed : MethodName := ⟨RX6, "isHushed", "(III)Z"⟩
abbrev cX6_isQuiet : ByteArray := prog_1_method_50_code
def yX6_isQuiet : MethodName := ⟨RX6, "isQuiet", "(III)Z"⟩
abbrev cX6_countLoud : ByteArray := prog_1_method_51_code
def yX6_countLoud : MethodName := ⟨RX6, "countLoud", "(I)I"⟩
abbrev cX6_countCovered : ByteArray := prog_1_method_52_code
def yX6_countCovered : MethodName := ⟨RX6, "countCovered", "(LHarbourlightMonitor$Hush;)I"⟩
abbrev cX6_dropHushesOf : ByteArray := prog_1_method_53_code
def yX6_dropHushesOf : MethodName := ⟨RX6, "dropHushesOf", "(I)V"⟩
abbrev cX6_forgetGroups : ByteArray := prog_1_method_54_code
def yX6_forgetGroups : MethodName := ⟨RX6, "forgetGroups", "()V"⟩
abbrev cX6_sendNotices : ByteArray := prog_1_method_55_code
def yX6_sendNotices : MethodName := ⟨RX6, "sendNotices", "()I"⟩
abbrev cX6_gatherLoud : ByteArray := prog_1_method_56_code
def yX6_gatherLoud : MethodName := ⟨RX6, "gatherLoud", "()V"⟩
abbrev cX6_groupOf : ByteArray := prog_1_method_57_code
def yX6_groupOf : MethodName := ⟨RX6, "groupOf", "(LHarbourlightMonitor$Rule;I)I"⟩
abbrev cX6_greatestRank : ByteArray := prog_1_method_58_code
def yX6_greatestRank : MethodName := ⟨RX6, "greatestRank", "(LHarbourlightMonitor$Group;)I"⟩
def RX7 : String := "HarbourlightMonitorModel$Alert"
def TX7 : u_T := fun k => match k with
  | _ => ("", "", "", false)
def tyX7 : Nat → FieldType := fun k => match k with
  | _ => .int
abbrev wsX70 : List Cond := u_ws RX7 TX7 0
theorem nmX7 : ∀ a, a < 0 → ∀ b, b < 0 → a ≠ b → (TX7 a).2.1 ≠ (TX7 b).2.1 := by decide +kernel
theorem tyX7_ok : ∀ k, k < 0 → parseFieldDescriptor (TX7 k).2.2.1 = some (tyX7 k) := by decide +kernel
def RX8 : String := "HarbourlightMonitorModel$Group"
def TX8 : u_T := fun k => match k with
  | _ => ("", "", "", false)
def tyX8 : Nat → FieldType := fun k => match k with
  | _ => .int
abbrev wsX80 : List Cond := u_ws RX8 TX8 0
theorem nmX8 : ∀ a, a < 0 → ∀ b, b < 0 → a ≠ b → (TX8 a).2.1 ≠ (TX8 b).2.1 := by decide +kernel
theorem tyX8_ok : ∀ k, k < 0 → parseFieldDescriptor (TX8 k).2.2.1 = some (tyX8 k) := by decide +kernel
def RX9 : String := "HarbourlightMonitorModel$Hush"
def TX9 : u_T := fun k => match k with
  | _ => ("", "", "", false)
def tyX9 : Nat → FieldType := fun k => match k with
  | _ => .int
abbrev wsX90 : List Cond := u_ws RX9 TX9 0
theorem nmX9 : ∀ a, a < 0 → ∀ b, b < 0 → a ≠ b → (TX9 a).2.1 ≠ (TX9 b).2.1 := by decide +kernel
theorem tyX9_ok : ∀ k, k < 0 → parseFieldDescriptor (TX9 k).2.2.1 = some (tyX9 k) := by decide +kernel
def RX10 : String := "HarbourlightMonitorModel$Rule"
def TX10 : u_T := fun k => match k with
  | _ => ("", "", "", false)
def tyX10 : Nat → FieldType := fun k => match k with
  | _ => .int
abbrev wsX100 : List Cond := u_ws RX10 TX10 0
theorem nmX10 : ∀ a, a < 0 → ∀ b, b < 0 → a ≠ b → (TX10 a).2.1 ≠ (TX10 b).2.1 := by decide +kernel
theorem tyX10_ok : ∀ k, k < 0 → parseFieldDescriptor (TX10 k).2.2.1 = some (tyX10 k) := by decide +kernel
def RX11 : String := "HarbourlightMonitorModel$Series"
def TX11 : u_T := fun k => match k with
  | _ => ("", "", "", false)
def tyX11 : Nat → FieldType := fun k => match k with
  | _ => .int
abbrev wsX110 : List Cond := u_ws RX11 TX11 0
theorem nmX11 : ∀ a, a < 0 → ∀ b, b < 0 → a ≠ b → (TX11 a).2.1 ≠ (TX11 b).2.1 := by decide +kernel
theorem tyX11_ok : ∀ k, k < 0 → parseFieldDescriptor (TX11 k).2.2.1 = some (tyX11 k) := by decide +kernel
def RX12 : String := "HarbourlightMonitorModel$World"
def TX12 : u_T := fun k => match k with
  | _ => ("", "", "", false)
def tyX12 : Nat → FieldType := fun k => match k with
  | _ => .int
abbrev wsX120 : List Cond := u_ws RX12 TX12 0
theorem nmX12 : ∀ a, a < 0 → ∀ b, b < 0 → a ≠ b → (TX12 a).2.1 ≠ (TX12 b).2.1 := by decide +kernel
theorem tyX12_ok : ∀ k, k < 0 → parseFieldDescriptor (TX12 k).2.2.1 = some (tyX12 k) := by decide +kernel
def RX13 : String := "HarbourlightMonitorModel"
def TX13 : u_T := fun k => match k with
  | _ => ("", "", "", false)
def tyX13 : Nat → FieldType := fun k => match k with
  | _ => .int
abbrev wsX130 : List Cond := u_ws RX13 TX13 0
theorem nmX13 : ∀ a, a < 0 → ∀ b, b < 0 → a ≠ b → (TX13 a).2.1 ≠ (TX13 b).2.1 := by decide +kernel
theorem tyX13_ok : ∀ k, k < 0 → parseFieldDescriptor (TX13 k).2.2.1 = some (tyX13 k) := by decide +kernel
def RJx145de : String := "java/io/Serializable"
def TJx145de : u_T := fun k => match k with
  | _ => ("", "", "", false)
def tyJx145de : Nat → FieldType := fun k => match k with
  | _ => .int
abbrev wsJx145de0 : List Cond := u_ws RJx145de TJx145de 0
theorem nmJx145de : ∀ a, a < 0 → ∀ b, b < 0 → a ≠ b → (TJx145de a).2.1 ≠ (TJx145de b).2.1 := by decide +kernel
theorem tyJx145de_ok : ∀ k, k < 0 → parseFieldDescriptor (TJx145de k).2.2.1 = some (tyJx145de k) := by decide +kernel
def RJx8e188 : String := "java/lang/Cloneable"
def TJx8e188 : u_T := fun k => match k with
  | _ => ("", "", "", false)
def tyJx8e188 : Nat → FieldType := fun k => match k with
  | _ => .int
abbrev wsJx8e1880 : List Cond := u_ws RJx8e188 TJx8e188 0
theorem nmJx8e188 : ∀ a, a < 0 → ∀ b, b < 0 → a ≠ b → (TJx8e188 a).2.1 ≠ (TJx8e188 b).2.1 := by decide +kernel
theorem tyJx8e188_ok : ∀ k, k < 0 → parseFieldDescriptor (TJx8e188 k).2.2.1 = some (tyJx8e188 k) := by decide +kernel
def RJ6 : String := "java/lang/Integer"
def TJ6 : u_T := fun k => match k with
  | _ => ("", "", "", false)
def tyJ6 : Nat → FieldType := fun k => match k with
  | _ => .int
abbrev wsJ60 : List Cond := u_ws RJ6 TJ6 0
theorem nmJ6 : ∀ a, a < 0 → ∀ b, b < 0 → a ≠ b → (TJ6 a).2.1 ≠ (TJ6 b).2.1 := by decide +kernel
theorem tyJ6_ok : ∀ k, k < 0 → parseFieldDescriptor (TJ6 k).2.2.1 = some (tyJ6 k) := by decide +kernel
abbrev cJ6_bitCount_0f7a4 : ByteArray := prog_22_method_49_code
def yJ6_bitCount_0f7a4 : MethodName := ⟨RJ6, "bitCount", "(I)I"⟩
def RJxab1ab : String := "java/lang/Iterable"
def TJxab1ab : u_T := fun k => match k with
  | _ => ("", "", "", false)
def tyJxab1ab : Nat → FieldType := fun k => match k with
  | _ => .int
abbrev wsJxab1ab0 : List Cond := u_ws RJxab1ab TJxab1ab 0
theorem nmJxab1ab : ∀ a, a < 0 → ∀ b, b < 0 → a ≠ b → (TJxab1ab a).2.1 ≠ (TJxab1ab b).2.1 := by decide +kernel
theorem tyJxab1ab_ok : ∀ k, k < 0 → parseFieldDescriptor (TJxab1ab k).2.2.1 = some (tyJxab1ab k) := by decide +kernel
def RJ9 : String := "java/lang/Math"
def TJ9 : u_T := fun k => match k with
  | _ => ("", "", "", false)
def tyJ9 : Nat → FieldType := fun k => match k with
  | _ => .int
abbrev wsJ90 : List Cond := u_ws RJ9 TJ9 0
theorem nmJ9 : ∀ a, a < 0 → ∀ b, b < 0 → a ≠ b → (TJ9 a).2.1 ≠ (TJ9 b).2.1 := by decide +kernel
theorem tyJ9_ok : ∀ k, k < 0 → parseFieldDescriptor (TJ9 k).2.2.1 = some (tyJ9 k) := by decide +kernel
abbrev cJ9_max_7cf53 : ByteArray := prog_24_method_65_code
def yJ9_max_7cf53 : MethodName := ⟨RJ9, "max", "(II)I"⟩
abbrev cJ9_min_7cf53 : ByteArray := prog_24_method_69_code
def yJ9_min_7cf53 : MethodName := ⟨RJ9, "min", "(II)I"⟩
def RJ0 : String := "java/lang/String"
def TJ0 : u_T := fun k => match k with
  | _ => ("", "", "", false)
def tyJ0 : Nat → FieldType := fun k => match k with
  | _ => .int
abbrev wsJ00 : List Cond := u_ws RJ0 TJ0 0
theorem nmJ0 : ∀ a, a < 0 → ∀ b, b < 0 → a ≠ b → (TJ0 a).2.1 ≠ (TJ0 b).2.1 := by decide +kernel
theorem tyJ0_ok : ∀ k, k < 0 → parseFieldDescriptor (TJ0 k).2.2.1 = some (tyJ0 k) := by decide +kernel
def RJ10 : String := "java/lang/System"
def TJ10 : u_T := fun k => match k with
  | _ => ("", "", "", false)
def tyJ10 : Nat → FieldType := fun k => match k with
  | _ => .int
abbrev wsJ100 : List Cond := u_ws RJ10 TJ10 0
theorem nmJ10 : ∀ a, a < 0 → ∀ b, b < 0 → a ≠ b → (TJ10 a).2.1 ≠ (TJ10 b).2.1 := by decide +kernel
theorem tyJ10_ok : ∀ k, k < 0 → parseFieldDescriptor (TJ10 k).2.2.1 = some (tyJ10 k) := by decide +kernel
def RJxa1e45 : String := "java/util/AbstractCollection"
def TJxa1e45 : u_T := fun k => match k with
  | _ => ("", "", "", false)
def tyJxa1e45 : Nat → FieldType := fun k => match k with
  | _ => .int
abbrev wsJxa1e450 : List Cond := u_ws RJxa1e45 TJxa1e45 0
theorem nmJxa1e45 : ∀ a, a < 0 → ∀ b, b < 0 → a ≠ b → (TJxa1e45 a).2.1 ≠ (TJxa1e45 b).2.1 := by decide +kernel
theorem tyJxa1e45_ok : ∀ k, k < 0 → parseFieldDescriptor (TJxa1e45 k).2.2.1 = some (tyJxa1e45 k) := by decide +kernel
abbrev cJxa1e45_init_da8c8 : ByteArray := prog_29_method_1_code
def yJxa1e45_init_da8c8 : MethodName := ⟨RJxa1e45, "<init>", "()V"⟩
def RJxc12de : String := "java/util/AbstractList"
def TJxc12de : u_T := fun k => match k with
  | _ => ("", "", "", false)
def tyJxc12de : Nat → FieldType := fun k => match k with
  | _ => .int
abbrev wsJxc12de0 : List Cond := u_ws RJxc12de TJxc12de 0
theorem nmJxc12de : ∀ a, a < 0 → ∀ b, b < 0 → a ≠ b → (TJxc12de a).2.1 ≠ (TJxc12de b).2.1 := by decide +kernel
theorem tyJxc12de_ok : ∀ k, k < 0 → parseFieldDescriptor (TJxc12de k).2.2.1 = some (tyJxc12de k) := by decide +kernel
abbrev cJxc12de_init_da8c8 : ByteArray := prog_30_method_1_code
def yJxc12de_init_da8c8 : MethodName := ⟨RJxc12de, "<init>", "()V"⟩
def RJx4a65c : String := "java/util/ArrayList"
def TJx4a65c : u_T := fun k => match k with
  | 0 => ("java/util/AbstractList", "modCount", "I", false)
  | 1 => ("java/util/ArrayList", "elementData", "[Ljava/lang/Object;", false)
  | _ => ("java/util/ArrayList", "size", "I", false)
def tyJx4a65c : Nat → FieldType := fun k => match k with
  | 0 => .int
  | 1 => .array (.object "java/lang/Object")
  | _ => .int
abbrev wsJx4a65c0 : List Cond := u_ws RJx4a65c TJx4a65c 3
theorem nmJx4a65c : ∀ a, a < 3 → ∀ b, b < 3 → a ≠ b → (TJx4a65c a).2.1 ≠ (TJx4a65c b).2.1 := by decide +kernel
theorem tyJx4a65c_ok : ∀ k, k < 3 → parseFieldDescriptor (TJx4a65c k).2.2.1 = some (tyJx4a65c k) := by decide +kernel
abbrev cJx4a65c_init_da8c8 : ByteArray := prog_31_method_2_code
def yJx4a65c_init_da8c8 : MethodName := ⟨RJx4a65c, "<init>", "()V"⟩
abbrev cJx4a65c_grow_92f84 : ByteArray := prog_31_method_6_code
def yJx4a65c_grow_92f84 : MethodName := ⟨RJx4a65c, "grow", "(I)[Ljava/lang/Object;"⟩
abbrev cJx4a65c_grow_d5877 : ByteArray := prog_31_method_7_code
def yJx4a65c_grow_d5877 : MethodName := ⟨RJx4a65c, "grow", "()[Ljava/lang/Object;"⟩
abbrev cJx4a65c_size_8abf5 : ByteArray := prog_31_method_8_code
def yJx4a65c_size_8abf5 : MethodName := ⟨RJx4a65c, "size", "()I"⟩
abbrev cJx4a65c_elementData_915e3 : ByteArray := prog_31_method_18_code
def yJx4a65c_elementData_915e3 : MethodName := ⟨RJx4a65c, "elementData", "(I)Ljava/lang/Object;"⟩
abbrev cJx4a65c_get_915e3 : ByteArray := prog_31_method_20_code
def yJx4a65c_get_915e3 : MethodName := ⟨RJx4a65c, "get", "(I)Ljava/lang/Object;"⟩
abbrev cJx4a65c_add_72be8 : ByteArray := prog_31_method_24_code
def yJx4a65c_add_72be8 : MethodName := ⟨RJx4a65c, "add", "(Ljava/lang/Object;[Ljava/lang/Object;I)V"⟩
abbrev cJx4a65c_add_9ea2d : ByteArray := prog_31_method_25_code
def yJx4a65c_add_9ea2d : MethodName := ⟨RJx4a65c, "add", "(Ljava/lang/Object;)Z"⟩
abbrev cJx4a65c_remove_915e3 : ByteArray := prog_31_method_29_code
def yJx4a65c_remove_915e3 : MethodName := ⟨RJx4a65c, "remove", "(I)Ljava/lang/Object;"⟩
abbrev cJx4a65c_fastRemove_b59b0 : ByteArray := prog_31_method_39_code
def yJx4a65c_fastRemove_b59b0 : MethodName := ⟨RJx4a65c, "fastRemove", "([Ljava/lang/Object;I)V"⟩
def RJ7 : String := "java/util/Arrays"
def TJ7 : u_T := fun k => match k with
  | _ => ("", "", "", false)
def tyJ7 : Nat → FieldType := fun k => match k with
  | _ => .int
abbrev wsJ70 : List Cond := u_ws RJ7 TJ7 0
theorem nmJ7 : ∀ a, a < 0 → ∀ b, b < 0 → a ≠ b → (TJ7 a).2.1 ≠ (TJ7 b).2.1 := by decide +kernel
theorem tyJ7_ok : ∀ k, k < 0 → parseFieldDescriptor (TJ7 k).2.2.1 = some (tyJ7 k) := by decide +kernel
abbrev cJ7_copyOf_1904c : ByteArray := prog_32_method_119_code
def yJ7_copyOf_1904c : MethodName := ⟨RJ7, "copyOf", "([Ljava/lang/Object;I)[Ljava/lang/Object;"⟩
abbrev cJ7_copyOf_6403c : ByteArray := prog_32_method_120_code
def yJ7_copyOf_6403c : MethodName := ⟨RJ7, "copyOf", "([Ljava/lang/Object;ILjava/lang/Class;)[Ljava/lang/Object;"⟩
def RJx5ef63 : String := "java/util/Collection"
def TJx5ef63 : u_T := fun k => match k with
  | _ => ("", "", "", false)
def tyJx5ef63 : Nat → FieldType := fun k => match k with
  | _ => .int
abbrev wsJx5ef630 : List Cond := u_ws RJx5ef63 TJx5ef63 0
theorem nmJx5ef63 : ∀ a, a < 0 → ∀ b, b < 0 → a ≠ b → (TJx5ef63 a).2.1 ≠ (TJx5ef63 b).2.1 := by decide +kernel
theorem tyJx5ef63_ok : ∀ k, k < 0 → parseFieldDescriptor (TJx5ef63 k).2.2.1 = some (tyJx5ef63 k) := by decide +kernel
def RJxbd725 : String := "java/util/List"
def TJxbd725 : u_T := fun k => match k with
  | _ => ("", "", "", false)
def tyJxbd725 : Nat → FieldType := fun k => match k with
  | _ => .int
abbrev wsJxbd7250 : List Cond := u_ws RJxbd725 TJxbd725 0
theorem nmJxbd725 : ∀ a, a < 0 → ∀ b, b < 0 → a ≠ b → (TJxbd725 a).2.1 ≠ (TJxbd725 b).2.1 := by decide +kernel
theorem tyJxbd725_ok : ∀ k, k < 0 → parseFieldDescriptor (TJxbd725 k).2.2.1 = some (tyJxbd725 k) := by decide +kernel
def RJ15 : String := "java/util/Objects"
def TJ15 : u_T := fun k => match k with
  | _ => ("", "", "", false)
def tyJ15 : Nat → FieldType := fun k => match k with
  | _ => .int
abbrev wsJ150 : List Cond := u_ws RJ15 TJ15 0
theorem nmJ15 : ∀ a, a < 0 → ∀ b, b < 0 → a ≠ b → (TJ15 a).2.1 ≠ (TJ15 b).2.1 := by decide +kernel
theorem tyJ15_ok : ∀ k, k < 0 → parseFieldDescriptor (TJ15 k).2.2.1 = some (tyJ15 k) := by decide +kernel
abbrev cJ15_checkIndex_7cf53 : ByteArray := prog_35_method_17_code
def yJ15_checkIndex_7cf53 : MethodName := ⟨RJ15, "checkIndex", "(II)I"⟩
def RJxf0a74 : String := "java/util/RandomAccess"
def TJxf0a74 : u_T := fun k => match k with
  | _ => ("", "", "", false)
def tyJxf0a74 : Nat → FieldType := fun k => match k with
  | _ => .int
abbrev wsJxf0a740 : List Cond := u_ws RJxf0a74 TJxf0a74 0
theorem nmJxf0a74 : ∀ a, a < 0 → ∀ b, b < 0 → a ≠ b → (TJxf0a74 a).2.1 ≠ (TJxf0a74 b).2.1 := by decide +kernel
theorem tyJxf0a74_ok : ∀ k, k < 0 → parseFieldDescriptor (TJxf0a74 k).2.2.1 = some (tyJxf0a74 k) := by decide +kernel
def RJxa66e6 : String := "java/util/SequencedCollection"
def TJxa66e6 : u_T := fun k => match k with
  | _ => ("", "", "", false)
def tyJxa66e6 : Nat → FieldType := fun k => match k with
  | _ => .int
abbrev wsJxa66e60 : List Cond := u_ws RJxa66e6 TJxa66e6 0
theorem nmJxa66e6 : ∀ a, a < 0 → ∀ b, b < 0 → a ≠ b → (TJxa66e6 a).2.1 ≠ (TJxa66e6 b).2.1 := by decide +kernel
theorem tyJxa66e6_ok : ∀ k, k < 0 → parseFieldDescriptor (TJxa66e6 k).2.2.1 = some (tyJxa66e6 k) := by decide +kernel
def RJ8 : String := "jdk/internal/util/ArraysSupport"
def TJ8 : u_T := fun k => match k with
  | _ => ("", "", "", false)
def tyJ8 : Nat → FieldType := fun k => match k with
  | _ => .int
abbrev wsJ80 : List Cond := u_ws RJ8 TJ8 0
theorem nmJ8 : ∀ a, a < 0 → ∀ b, b < 0 → a ≠ b → (TJ8 a).2.1 ≠ (TJ8 b).2.1 := by decide +kernel
theorem tyJ8_ok : ∀ k, k < 0 → parseFieldDescriptor (TJ8 k).2.2.1 = some (tyJ8 k) := by decide +kernel
abbrev cJ8_newLength_cabcc : ByteArray := prog_38_method_27_code
def yJ8_newLength_cabcc : MethodName := ⟨RJ8, "newLength", "(III)I"⟩
abbrev cJ8_hugeLength_7cf53 : ByteArray := prog_38_method_28_code
def yJ8_hugeLength_7cf53 : MethodName := ⟨RJ8, "hugeLength", "(II)I"⟩
def RJ3 : String := "jdk/internal/util/Preconditions"
def TJ3 : u_T := fun k => match k with
  | _ => ("", "", "", false)
def tyJ3 : Nat → FieldType := fun k => match k with
  | _ => .int
abbrev wsJ30 : List Cond := u_ws RJ3 TJ3 0
theorem nmJ3 : ∀ a, a < 0 → ∀ b, b < 0 → a ≠ b → (TJ3 a).2.1 ≠ (TJ3 b).2.1 := by decide +kernel
theorem tyJ3_ok : ∀ k, k < 0 → parseFieldDescriptor (TJ3 k).2.2.1 = some (tyJ3 k) := by decide +kernel
abbrev cJ3_checkIndex_8e157 : ByteArray := prog_39_method_11_code
def yJ3_checkIndex_8e157 : MethodName := ⟨RJ3, "checkIndex", "(IILjava/util/function/BiFunction;)I"⟩
def RL : String := "HarbourlightMonitorLaw"
abbrev cL_below : ByteArray := method_2_code
def yL_below : MethodName := ⟨RL, "below", "(II)I"⟩
abbrev cL_cell : ByteArray := method_3_code
def yL_cell : MethodName := ⟨RL, "cell", "([II)I"⟩
abbrev cL_law : ByteArray := code
def yL_law : MethodName := ⟨RL, "law", "([I)Z"⟩
abbrev vwCl : List vw_C := [(RJx4a65c, TJx4a65c, 3), (RX0, TX0, 3), (RX1, TX1, 4), (RX2, TX2, 3), (RX3, TX3, 4), (RX4, TX4, 10), (RX5, TX5, 8), (RX6, TX6, 9)]
end
section
def hm_B0 : List Cond := [Cond.classLink RL 9 RX6, Cond.instantiable RX6 9, Cond.initialized RX6, Cond.methodLink RL 79 Lib.Math.min.name, Cond.static Lib.Math.min.name, Cond.initialized "java/lang/Math", Cond.code Lib.Math.min.name Lib.Math.min.code 2 (some .int), Cond.methodLink RL 11 yX6_init, Cond.instanceMethod yX6_init, Cond.code yX6_init cX6_init 2 none, Cond.methodLink RX6 1 objectInit, Cond.instanceMethod objectInit, Cond.code objectInit ⟨#[0xb1]⟩ 1 none, Cond.classLink RX6 7 RJx4a65c, Cond.instantiable RJx4a65c 3, Cond.initialized RJx4a65c, Cond.fieldLink RX6 10 "HarbourlightMonitor" "seriesList" "Ljava/util/ArrayList;", Cond.fieldLink RX6 16 "HarbourlightMonitor" "ruleList" "Ljava/util/ArrayList;", Cond.fieldLink RX6 19 "HarbourlightMonitor" "hushList" "Ljava/util/ArrayList;", Cond.classLink RX6 22 RX1, Cond.fieldLink RX6 24 "HarbourlightMonitor" "groups" "[LHarbourlightMonitor$Group;", Cond.instantiable RX1 4, Cond.initialized RX1, Cond.classLink RX6 29 RX3, Cond.instantiable RX3 4, Cond.initialized RX3, Cond.fieldLink RX6 32 "HarbourlightMonitor" "log" "LHarbourlightMonitor$NoticeLog;", Cond.classLink RX6 36 RX0, Cond.instantiable RX0 3, Cond.initialized RX0, Cond.fieldLink RX6 39 "HarbourlightMonitor" "rehearsed" "LHarbourlightMonitor$Alert;", Cond.fieldLink RX6 43 "HarbourlightMonitor" "clockNow" "I", Cond.fieldLink RX6 47 "HarbourlightMonitor" "grouping" "I", Cond.fieldLink RX6 50 "HarbourlightMonitor" "repeat" "I", Cond.methodLink RX6 9 yJx4a65c_init_da8c8, Cond.instanceMethod yJx4a65c_init_da8c8, Cond.code yJx4a65c_init_da8c8 cJx4a65c_init_da8c8 1 none, Cond.fieldLink RJx4a65c 39 "java/util/ArrayList" "DEFAULTCAPACITY_EMPTY_ELEMENTDATA" "[Ljava/lang/Object;", Cond.fieldLink RJx4a65c 9 "java/util/ArrayList" "elementData" "[Ljava/lang/Object;", Cond.methodLink RJx4a65c 1 yJxc12de_init_da8c8]
def hm_B1 : List Cond := [Cond.instanceMethod yJxc12de_init_da8c8, Cond.initialized RJxc12de, Cond.code yJxc12de_init_da8c8 cJxc12de_init_da8c8 1 none, Cond.fieldLink RJxc12de 7 "java/util/AbstractList" "modCount" "I", Cond.methodLink RJxc12de 1 yJxa1e45_init_da8c8, Cond.instanceMethod yJxa1e45_init_da8c8, Cond.initialized RJxa1e45, Cond.code yJxa1e45_init_da8c8 cJxa1e45_init_da8c8 1 none, Cond.methodLink RJxa1e45 1 objectInit, Cond.instanceMethod yX1_init, Cond.code yX1_init cX1_init 1 none, Cond.methodLink RX1 3 objectInit, Cond.arrayClass .int, Cond.fieldLink RX1 9 "HarbourlightMonitor$Group" "loud" "[I", Cond.fieldLink RX1 15 "HarbourlightMonitor$Group" "told" "[I", Cond.fieldLink RX1 18 "HarbourlightMonitor$Group" "toldAt" "I", Cond.fieldLink RX1 22 "HarbourlightMonitor$Group" "wasLoud" "Z", Cond.instanceMethod yX3_init, Cond.code yX3_init cX3_init 1 none, Cond.methodLink RX3 3 objectInit, Cond.classLink RX3 9 "[[I", Cond.fieldLink RX3 11 "HarbourlightMonitor$NoticeLog" "kept" "[[I", Cond.fieldLink RX3 16 "HarbourlightMonitor$NoticeLog" "latest" "I", Cond.fieldLink RX3 20 "HarbourlightMonitor$NoticeLog" "held" "I", Cond.fieldLink RX3 23 "HarbourlightMonitor$NoticeLog" "ever" "I", Cond.instanceMethod yX0_init, Cond.code yX0_init cX0_init 1 none, Cond.methodLink RX0 3 objectInit, Cond.fieldLink RX0 9 "HarbourlightMonitor$Alert" "state" "I", Cond.fieldLink RX0 15 "HarbourlightMonitor$Alert" "since" "I", Cond.fieldLink RX0 18 "HarbourlightMonitor$Alert" "ticksNotBeyond" "I", Cond.methodLink RL 12 yL_cell, Cond.static yL_cell, Cond.initialized RL, Cond.code yL_cell cL_cell 2 (some .int), Cond.constant RL 8 (790386105), Cond.methodLink RL 18 yL_below, Cond.static yL_below, Cond.code yL_below cL_below 2 (some .int), Cond.constant RL 7 (2147483647)]
def hm_B2 : List Cond := [Cond.methodLink RL 22 yX6_series, Cond.instanceMethod yX6_series, Cond.selects RX6 yX6_series yX6_series, Cond.code yX6_series cX6_series 5 (some .int), Cond.classLink RX6 57 "java/lang/IllegalArgumentException", Cond.initialized "java/lang/IllegalArgumentException", Cond.classLink RX6 74 "java/lang/IllegalStateException", Cond.initialized "java/lang/IllegalStateException", Cond.classLink RX6 79 RX5, Cond.instantiable RX5 8, Cond.initialized RX5, Cond.methodLink RX6 53 yX6_isOutside, Cond.static yX6_isOutside, Cond.code yX6_isOutside cX6_isOutside 3 (some .boolean), Cond.methodLink RX6 64 yX6_requireMetric, Cond.static yX6_requireMetric, Cond.code yX6_requireMetric cX6_requireMetric 1 none, Cond.methodLink RX6 70 yJx4a65c_size_8abf5, Cond.instanceMethod yJx4a65c_size_8abf5, Cond.selects RJx4a65c yJx4a65c_size_8abf5 yJx4a65c_size_8abf5, Cond.code yJx4a65c_size_8abf5 cJx4a65c_size_8abf5 1 (some .int), Cond.fieldLink RJx4a65c 48 "java/util/ArrayList" "size" "I", Cond.methodLink RX6 81 yX5_init, Cond.instanceMethod yX5_init, Cond.code yX5_init cX5_init 5 none, Cond.methodLink RX5 3 objectInit, Cond.fieldLink RX5 9 "HarbourlightMonitor$Series" "present" "[I", Cond.classLink RX5 15 "[[I", Cond.fieldLink RX5 17 "HarbourlightMonitor$Series" "samples" "[[I", Cond.fieldLink RX5 20 "HarbourlightMonitor$Series" "latest" "I", Cond.fieldLink RX5 24 "HarbourlightMonitor$Series" "held" "I", Cond.fieldLink RX5 27 "HarbourlightMonitor$Series" "number" "I", Cond.fieldLink RX5 30 "HarbourlightMonitor$Series" "kind" "I", Cond.fieldLink RX5 33 "HarbourlightMonitor$Series" "metric" "I", Cond.fieldLink RX5 36 "HarbourlightMonitor$Series" "place" "I", Cond.methodLink RX6 84 yJx4a65c_add_9ea2d, Cond.instanceMethod yJx4a65c_add_9ea2d, Cond.selects RJx4a65c yJx4a65c_add_9ea2d yJx4a65c_add_9ea2d, Cond.code yJx4a65c_add_9ea2d cJx4a65c_add_9ea2d 2 (some .boolean), Cond.fieldLink RJx4a65c 63 "java/util/ArrayList" "modCount" "I"]
def hm_B3 : List Cond := [Cond.sameField "java/util/ArrayList" "java/util/AbstractList" "modCount" "I", Cond.methodLink RJx4a65c 131 yJx4a65c_add_72be8, Cond.instanceMethod yJx4a65c_add_72be8, Cond.selects RJx4a65c yJx4a65c_add_72be8 yJx4a65c_add_72be8, Cond.code yJx4a65c_add_72be8 cJx4a65c_add_72be8 4 none, Cond.methodLink RJx4a65c 129 yJx4a65c_grow_d5877, Cond.instanceMethod yJx4a65c_grow_d5877, Cond.selects RJx4a65c yJx4a65c_grow_d5877 yJx4a65c_grow_d5877, Cond.code yJx4a65c_grow_d5877 cJx4a65c_grow_d5877 1 (some (.array (.object "java/lang/Object"))), Cond.methodLink RJx4a65c 69 yJx4a65c_grow_92f84, Cond.instanceMethod yJx4a65c_grow_92f84, Cond.selects RJx4a65c yJx4a65c_grow_92f84 yJx4a65c_grow_92f84, Cond.code yJx4a65c_grow_92f84 cJx4a65c_grow_92f84 4 (some (.array (.object "java/lang/Object"))), Cond.methodLink RJx4a65c 79 Lib.Math.max.name, Cond.static Lib.Math.max.name, Cond.code Lib.Math.max.name Lib.Math.max.code 2 (some .int), Cond.classLink RJx4a65c 7 "java/lang/Object", Cond.methodLink RJx4a65c 73 yJ8_newLength_cabcc, Cond.static yJ8_newLength_cabcc, Cond.initialized RJ8, Cond.code yJ8_newLength_cabcc cJ8_newLength_cabcc 4 (some .int), Cond.methodLink RJ8 194 Lib.Math.max.name, Cond.constant RJ8 200 (2147483639), Cond.methodLink RJ8 201 yJ8_hugeLength_7cf53, Cond.static yJ8_hugeLength_7cf53, Cond.code yJ8_hugeLength_7cf53 cJ8_hugeLength_7cf53 3 (some .int), Cond.methodLink RJx4a65c 66 yJ7_copyOf_1904c, Cond.static yJ7_copyOf_1904c, Cond.initialized RJ7, Cond.code yJ7_copyOf_1904c cJ7_copyOf_1904c 2 (some (.array (.object "java/lang/Object"))), Cond.methodLink RJ7 86 ⟨"java/lang/Object", "getClass", "()Ljava/lang/Class;"⟩, Cond.selects "[Ljava/lang/Object;" ⟨"java/lang/Object", "getClass", "()Ljava/lang/Class;"⟩ ⟨"java/lang/Object", "getClass", "()Ljava/lang/Class;"⟩, Cond.instanceMethod ⟨"java/lang/Object", "getClass", "()Ljava/lang/Class;"⟩, Cond.native ⟨"java/lang/Object", "getClass", "()Ljava/lang/Class;"⟩, Cond.methodLink RJ7 300 yJ7_copyOf_6403c, Cond.static yJ7_copyOf_6403c, Cond.code yJ7_copyOf_6403c cJ7_copyOf_6403c 4 (some (.array (.object "java/lang/Object"))), Cond.classLink RJ7 110 "[Ljava/lang/Object;", Cond.classLink RJ7 2 "java/lang/Object", Cond.methodLink RJ7 304 Lib.Math.min.name]
def hm_B4 : List Cond := [Cond.methodLink RJ7 150 arraycopyName, Cond.native arraycopyName, Cond.static arraycopyName, Cond.initialized "java/lang/System", Cond.methodLink RL 26 yX6_rule, Cond.instanceMethod yX6_rule, Cond.selects RX6 yX6_rule yX6_rule, Cond.code yX6_rule cX6_rule 9 (some .int), Cond.classLink RX6 120 RX4, Cond.instantiable RX4 10, Cond.initialized RX4, Cond.fieldLink RX6 125 "HarbourlightMonitor$Rule" "limit" "I", Cond.fieldLink RX6 128 "HarbourlightMonitor$Rule" "isAbove" "Z", Cond.methodLink RX6 107 yX6_requireLook, Cond.static yX6_requireLook, Cond.code yX6_requireLook cX6_requireLook 1 none, Cond.methodLink RX6 110 yX6_requireW, Cond.static yX6_requireW, Cond.code yX6_requireW cX6_requireW 1 none, Cond.methodLink RX6 115 yX6_requireLimit, Cond.static yX6_requireLimit, Cond.code yX6_requireLimit cX6_requireLimit 1 none, Cond.methodLink RX6 122 yX4_init, Cond.instanceMethod yX4_init, Cond.code yX4_init cX4_init 7 none, Cond.methodLink RX4 3 objectInit, Cond.fieldLink RX4 9 "HarbourlightMonitor$Rule" "wait" "I", Cond.fieldLink RX4 15 "HarbourlightMonitor$Rule" "rank" "I", Cond.classLink RX4 18 RX0, Cond.fieldLink RX4 20 "HarbourlightMonitor$Rule" "alerts" "[LHarbourlightMonitor$Alert;", Cond.fieldLink RX4 24 "HarbourlightMonitor$Rule" "number" "I", Cond.fieldLink RX4 27 "HarbourlightMonitor$Rule" "metric" "I", Cond.fieldLink RX4 30 "HarbourlightMonitor$Rule" "look" "I", Cond.fieldLink RX4 33 "HarbourlightMonitor$Rule" "w" "I", Cond.fieldLink RX4 36 "HarbourlightMonitor$Rule" "way" "I", Cond.methodLink RL 30 yX6_setRule, Cond.instanceMethod yX6_setRule, Cond.selects RX6 yX6_setRule yX6_setRule, Cond.code yX6_setRule cX6_setRule 7 (some .int), Cond.fieldLink RX6 140 "HarbourlightMonitor$Rule" "wait" "I"]
def hm_B5 : List Cond := [Cond.fieldLink RX6 143 "HarbourlightMonitor$Rule" "rank" "I", Cond.methodLink RX6 132 yX6_requireRule, Cond.instanceMethod yX6_requireRule, Cond.selects RX6 yX6_requireRule yX6_requireRule, Cond.code yX6_requireRule cX6_requireRule 2 (some (.object "HarbourlightMonitor$Rule")), Cond.classLink RX6 248 "java/lang/IndexOutOfBoundsException", Cond.initialized "java/lang/IndexOutOfBoundsException", Cond.classLink RX6 120 "HarbourlightMonitor$Rule", Cond.methodLink RX6 180 yJx4a65c_get_915e3, Cond.instanceMethod yJx4a65c_get_915e3, Cond.selects RJx4a65c yJx4a65c_get_915e3 yJx4a65c_get_915e3, Cond.code yJx4a65c_get_915e3 cJx4a65c_get_915e3 2 (some (.object "java/lang/Object")), Cond.methodLink RJx4a65c 118 yJ15_checkIndex_7cf53, Cond.static yJ15_checkIndex_7cf53, Cond.initialized RJ15, Cond.code yJ15_checkIndex_7cf53 cJ15_checkIndex_7cf53 2 (some .int), Cond.methodLink RJ15 105 yJ3_checkIndex_8e157, Cond.static yJ3_checkIndex_8e157, Cond.initialized RJ3, Cond.code yJ3_checkIndex_8e157 cJ3_checkIndex_8e157 3 (some .int), Cond.methodLink RJx4a65c 123 yJx4a65c_elementData_915e3, Cond.instanceMethod yJx4a65c_elementData_915e3, Cond.selects RJx4a65c yJx4a65c_elementData_915e3 yJx4a65c_elementData_915e3, Cond.code yJx4a65c_elementData_915e3 cJx4a65c_elementData_915e3 2 (some (.object "java/lang/Object")), Cond.methodLink RL 34 yX6_group, Cond.instanceMethod yX6_group, Cond.selects RX6 yX6_group yX6_group, Cond.code yX6_group cX6_group 4 (some .int), Cond.methodLink RX6 174 yX6_forgetGroups, Cond.instanceMethod yX6_forgetGroups, Cond.selects RX6 yX6_forgetGroups yX6_forgetGroups, Cond.code yX6_forgetGroups cX6_forgetGroups 2 none, Cond.methodLink RX6 401 yX1_forget, Cond.instanceMethod yX1_forget, Cond.selects RX1 yX1_forget yX1_forget, Cond.code yX1_forget cX1_forget 2 none, Cond.methodLink RL 37 yX6_tell, Cond.instanceMethod yX6_tell, Cond.selects RX6 yX6_tell yX6_tell, Cond.code yX6_tell cX6_tell 5 (some .int)]
def hm_B6 : List Cond := [Cond.fieldLink RX6 92 "HarbourlightMonitor$Series" "kind" "I", Cond.fieldLink RX6 100 "HarbourlightMonitor$Series" "present" "[I", Cond.methodLink RX6 88 yX6_requireSeries, Cond.instanceMethod yX6_requireSeries, Cond.selects RX6 yX6_requireSeries yX6_requireSeries, Cond.code yX6_requireSeries cX6_requireSeries 2 (some (.object "HarbourlightMonitor$Series")), Cond.classLink RX6 79 "HarbourlightMonitor$Series", Cond.methodLink RX6 97 yX5_take, Cond.instanceMethod yX5_take, Cond.selects RX5 yX5_take yX5_take, Cond.code yX5_take cX5_take 2 none, Cond.methodLink RX5 39 yX5_columnFor, Cond.static yX5_columnFor, Cond.code yX5_columnFor cX5_columnFor 2 (some .int), Cond.methodLink RL 40 yX6_reset, Cond.instanceMethod yX6_reset, Cond.selects RX6 yX6_reset yX6_reset, Cond.code yX6_reset cX6_reset 4 (some .int), Cond.methodLink RX6 104 yX5_beginAnew, Cond.instanceMethod yX5_beginAnew, Cond.selects RX5 yX5_beginAnew yX5_beginAnew, Cond.code yX5_beginAnew cX5_beginAnew 2 none, Cond.methodLink RL 44 yX6_many, Cond.instanceMethod yX6_many, Cond.selects RX6 yX6_many yX6_many, Cond.code yX6_many cX6_many 2 (some .int), Cond.fieldLink RX6 200 "HarbourlightMonitor$NoticeLog" "ever" "I", Cond.methodLink RX6 193 yX6_countAlerts, Cond.instanceMethod yX6_countAlerts, Cond.selects RX6 yX6_countAlerts yX6_countAlerts, Cond.code yX6_countAlerts cX6_countAlerts 4 (some .int), Cond.methodLink RX6 245 yX4_countAlertsFrom, Cond.instanceMethod yX4_countAlertsFrom, Cond.selects RX4 yX4_countAlertsFrom yX4_countAlertsFrom, Cond.code yX4_countAlertsFrom cX4_countAlertsFrom 4 (some .int), Cond.fieldLink RX4 59 "HarbourlightMonitor$Alert" "state" "I", Cond.methodLink RX6 197 yX6_countLoud, Cond.instanceMethod yX6_countLoud, Cond.selects RX6 yX6_countLoud yX6_countLoud, Cond.code yX6_countLoud cX6_countLoud 6 (some .int)]
def hm_B7 : List Cond := [Cond.methodLink RX6 239 yX6_hearing, Cond.instanceMethod yX6_hearing, Cond.selects RX6 yX6_hearing yX6_hearing, Cond.code yX6_hearing cX6_hearing 5 (some .int), Cond.fieldLink RX6 253 "HarbourlightMonitor$Rule" "number" "I", Cond.methodLink RX6 385 yX4_burns, Cond.instanceMethod yX4_burns, Cond.selects RX4 yX4_burns yX4_burns, Cond.code yX4_burns cX4_burns 3 (some .boolean), Cond.methodLink RX4 55 yX4_alertOf, Cond.instanceMethod yX4_alertOf, Cond.selects RX4 yX4_alertOf yX4_alertOf, Cond.code yX4_alertOf cX4_alertOf 2 (some (.object "HarbourlightMonitor$Alert")), Cond.methodLink RX6 256 yX6_placeOf, Cond.instanceMethod yX6_placeOf, Cond.selects RX6 yX6_placeOf yX6_placeOf, Cond.code yX6_placeOf cX6_placeOf 3 (some .int), Cond.fieldLink RX6 373 "HarbourlightMonitor$Rule" "way" "I", Cond.fieldLink RX6 376 "HarbourlightMonitor$Series" "place" "I", Cond.methodLink RX6 389 yX6_isHushed, Cond.instanceMethod yX6_isHushed, Cond.selects RX6 yX6_isHushed yX6_isHushed, Cond.code yX6_isHushed cX6_isHushed 5 (some .boolean), Cond.classLink RX6 161 "HarbourlightMonitor$Hush", Cond.methodLink RX6 395 yX2_covers, Cond.instanceMethod yX2_covers, Cond.selects RX2 yX2_covers yX2_covers, Cond.initialized RX2, Cond.code yX2_covers cX2_covers 4 (some .boolean), Cond.fieldLink RX2 18 "HarbourlightMonitor$Hush" "till" "I", Cond.fieldLink RX2 9 "HarbourlightMonitor$Hush" "rule" "I", Cond.fieldLink RX2 15 "HarbourlightMonitor$Hush" "place" "I", Cond.methodLink RX6 392 yX6_isQuiet, Cond.instanceMethod yX6_isQuiet, Cond.selects RX6 yX6_isQuiet yX6_isQuiet, Cond.code yX6_isQuiet cX6_isQuiet 9 (some .boolean), Cond.methodLink RL 47 yX6_hush, Cond.instanceMethod yX6_hush, Cond.selects RX6 yX6_hush yX6_hush, Cond.code yX6_hush cX6_hush 5 (some .int)]
def hm_B8 : List Cond := [Cond.classLink RX6 161 RX2, Cond.instantiable RX2 3, Cond.methodLink RX6 163 yX2_init, Cond.instanceMethod yX2_init, Cond.code yX2_init cX2_init 4 none, Cond.methodLink RX2 3 objectInit, Cond.methodLink RL 50 yX6_burningIn, Cond.instanceMethod yX6_burningIn, Cond.selects RX6 yX6_burningIn yX6_burningIn, Cond.code yX6_burningIn cX6_burningIn 6 (some .int), Cond.methodLink RX6 177 yX6_requireTicks, Cond.static yX6_requireTicks, Cond.code yX6_requireTicks cX6_requireTicks 1 none, Cond.methodLink RX6 282 yX6_wouldBurn, Cond.instanceMethod yX6_wouldBurn, Cond.selects RX6 yX6_wouldBurn yX6_wouldBurn, Cond.code yX6_wouldBurn cX6_wouldBurn 6 (some .boolean), Cond.fieldLink RX6 233 "HarbourlightMonitor$Alert" "state" "I", Cond.methodLink RX6 229 yX4_alertOf, Cond.methodLink RX6 286 yX6_hasKey, Cond.instanceMethod yX6_hasKey, Cond.selects RX6 yX6_hasKey yX6_hasKey, Cond.code yX6_hasKey cX6_hasKey 4 (some .boolean), Cond.methodLink RX6 364 yX4_takes, Cond.instanceMethod yX4_takes, Cond.selects RX4 yX4_takes yX4_takes, Cond.code yX4_takes cX4_takes 3 (some .boolean), Cond.fieldLink RX4 40 "HarbourlightMonitor$Series" "metric" "I", Cond.fieldLink RX4 43 "HarbourlightMonitor$Series" "number" "I", Cond.fieldLink RX4 44 "HarbourlightMonitor$Series" "place" "I", Cond.methodLink RX6 381 yX0_become, Cond.instanceMethod yX0_become, Cond.selects RX0 yX0_become yX0_become, Cond.code yX0_become cX0_become 2 none, Cond.methodLink RX6 223 yX6_lookedAt, Cond.instanceMethod yX6_lookedAt, Cond.selects RX6 yX6_lookedAt yX6_lookedAt, Cond.code yX6_lookedAt cX6_lookedAt 7 (some .int), Cond.fieldLink RX6 368 "HarbourlightMonitor$Rule" "look" "I", Cond.fieldLink RX6 370 "HarbourlightMonitor$Rule" "w" "I"]
def hm_B9 : List Cond := [Cond.methodLink RX6 214 yX5_lookOver, Cond.instanceMethod yX5_lookOver, Cond.selects RX5 yX5_lookOver yX5_lookOver, Cond.code yX5_lookOver cX5_lookOver 4 (some .int), Cond.methodLink RX5 58 yX5_past, Cond.instanceMethod yX5_past, Cond.selects RX5 yX5_past yX5_past, Cond.code yX5_past cX5_past 5 (some .int), Cond.methodLink RX5 62 yX5_growthOf, Cond.instanceMethod yX5_growthOf, Cond.selects RX5 yX5_growthOf yX5_growthOf, Cond.code yX5_growthOf cX5_growthOf 8 (some .int), Cond.methodLink RX5 46 Lib.Math.min.name, Cond.methodLink RX5 65 yX5_meanOver, Cond.instanceMethod yX5_meanOver, Cond.selects RX5 yX5_meanOver yX5_meanOver, Cond.code yX5_meanOver cX5_meanOver 6 (some .int), Cond.methodLink RX5 68 yX5_utmostOver, Cond.instanceMethod yX5_utmostOver, Cond.selects RX5 yX5_utmostOver yX5_utmostOver, Cond.code yX5_utmostOver cX5_utmostOver 8 (some .int), Cond.methodLink RX5 78 Lib.Math.max.name, Cond.methodLink RX5 75 yX5_partOver, Cond.instanceMethod yX5_partOver, Cond.selects RX5 yX5_partOver yX5_partOver, Cond.code yX5_partOver cX5_partOver 10 (some .int), Cond.methodLink RX6 290 yX4_isBeyond, Cond.instanceMethod yX4_isBeyond, Cond.selects RX4 yX4_isBeyond yX4_isBeyond, Cond.code yX4_isBeyond cX4_isBeyond 3 (some .boolean), Cond.fieldLink RX4 47 "HarbourlightMonitor$Rule" "isAbove" "Z", Cond.methodLink RX6 377 yX0_step, Cond.instanceMethod yX0_step, Cond.selects RX0 yX0_step yX0_step, Cond.code yX0_step cX0_step 4 none, Cond.methodLink RX0 21 yX0_rise, Cond.instanceMethod yX0_rise, Cond.selects RX0 yX0_rise yX0_rise, Cond.code yX0_rise cX0_rise 3 none, Cond.methodLink RX0 25 yX0_fall]
def hm_B10 : List Cond := [Cond.instanceMethod yX0_fall, Cond.selects RX0 yX0_fall yX0_fall, Cond.code yX0_fall cX0_fall 1 none, Cond.methodLink RL 53 yX6_tick, Cond.instanceMethod yX6_tick, Cond.selects RX6 yX6_tick yX6_tick, Cond.code yX6_tick cX6_tick 5 (some .int), Cond.methodLink RX6 183 yX5_keepSample, Cond.instanceMethod yX5_keepSample, Cond.selects RX5 yX5_keepSample yX5_keepSample, Cond.code yX5_keepSample cX5_keepSample 1 none, Cond.methodLink RX5 52 arraycopyName, Cond.methodLink RX6 186 yX6_stepAlerts, Cond.instanceMethod yX6_stepAlerts, Cond.selects RX6 yX6_stepAlerts yX6_stepAlerts, Cond.code yX6_stepAlerts cX6_stepAlerts 4 none, Cond.methodLink RX6 190 yX6_sendNotices, Cond.instanceMethod yX6_sendNotices, Cond.selects RX6 yX6_sendNotices yX6_sendNotices, Cond.code yX6_sendNotices cX6_sendNotices 4 (some .int), Cond.fieldLink RX6 427 "HarbourlightMonitor$Group" "wasLoud" "Z", Cond.methodLink RX6 404 yX6_gatherLoud, Cond.instanceMethod yX6_gatherLoud, Cond.selects RX6 yX6_gatherLoud yX6_gatherLoud, Cond.code yX6_gatherLoud cX6_gatherLoud 5 none, Cond.methodLink RX6 430 yX1_clearLoud, Cond.instanceMethod yX1_clearLoud, Cond.selects RX1 yX1_clearLoud yX1_clearLoud, Cond.code yX1_clearLoud cX1_clearLoud 2 none, Cond.methodLink RX6 433 yX6_groupOf, Cond.instanceMethod yX6_groupOf, Cond.selects RX6 yX6_groupOf yX6_groupOf, Cond.code yX6_groupOf cX6_groupOf 4 (some .int), Cond.methodLink RX6 436 yX1_addLoud, Cond.instanceMethod yX1_addLoud, Cond.selects RX1 yX1_addLoud yX1_addLoud, Cond.code yX1_addLoud cX1_addLoud 3 none, Cond.methodLink RX6 407 yX1_isDue, Cond.instanceMethod yX1_isDue, Cond.selects RX1 yX1_isDue yX1_isDue]
def hm_B11 : List Cond := [Cond.code yX1_isDue cX1_isDue 4 (some .boolean), Cond.methodLink RX1 40 yX1_isLoud, Cond.instanceMethod yX1_isLoud, Cond.selects RX1 yX1_isLoud yX1_isLoud, Cond.code yX1_isLoud cX1_isLoud 1 (some .boolean), Cond.methodLink RX1 30 yX1_countLoudNow, Cond.instanceMethod yX1_countLoudNow, Cond.selects RX1 yX1_countLoudNow yX1_countLoudNow, Cond.code yX1_countLoudNow cX1_countLoudNow 3 (some .int), Cond.methodLink RX1 34 yJ6_bitCount_0f7a4, Cond.static yJ6_bitCount_0f7a4, Cond.initialized RJ6, Cond.code yJ6_bitCount_0f7a4 cJ6_bitCount_0f7a4 1 (some .int), Cond.constant RJ6 265 (1431655765), Cond.constant RJ6 266 (858993459), Cond.constant RJ6 267 (252645135), Cond.methodLink RX1 44 yX1_hasTold, Cond.instanceMethod yX1_hasTold, Cond.selects RX1 yX1_hasTold yX1_hasTold, Cond.code yX1_hasTold cX1_hasTold 2 (some .boolean), Cond.methodLink RX1 47 yX1_hasChanged, Cond.instanceMethod yX1_hasChanged, Cond.selects RX1 yX1_hasChanged yX1_hasChanged, Cond.code yX1_hasChanged cX1_hasChanged 2 (some .boolean), Cond.methodLink RX6 410 yX1_countLoudNow, Cond.methodLink RX6 413 yX6_greatestRank, Cond.instanceMethod yX6_greatestRank, Cond.selects RX6 yX6_greatestRank yX6_greatestRank, Cond.code yX6_greatestRank cX6_greatestRank 4 (some .int), Cond.methodLink RX6 443 Lib.Math.max.name, Cond.methodLink RX6 440 yX1_hasLoudOf, Cond.instanceMethod yX1_hasLoudOf, Cond.selects RX1 yX1_hasLoudOf yX1_hasLoudOf, Cond.code yX1_hasLoudOf cX1_hasLoudOf 2 (some .boolean), Cond.methodLink RX6 417 yX3_keep, Cond.instanceMethod yX3_keep, Cond.selects RX3 yX3_keep yX3_keep, Cond.code yX3_keep cX3_keep 6 none, Cond.methodLink RX3 26 Lib.Math.min.name, Cond.methodLink RX6 420 yX1_markTold]
def hm_B12 : List Cond := [Cond.instanceMethod yX1_markTold, Cond.selects RX1 yX1_markTold yX1_markTold, Cond.code yX1_markTold cX1_markTold 2 none, Cond.methodLink RX1 50 arraycopyName, Cond.methodLink RX6 423 yX1_isLoud, Cond.methodLink RL 56 yX6_digest, Cond.instanceMethod yX6_digest, Cond.selects RX6 yX6_digest yX6_digest, Cond.code yX6_digest cX6_digest 5 (some .long), Cond.constantLong RX6 294 (58073), Cond.methodLink RX6 296 yX6_clock, Cond.instanceMethod yX6_clock, Cond.selects RX6 yX6_clock yX6_clock, Cond.code yX6_clock cX6_clock 1 (some .int), Cond.methodLink RX6 299 yX6_mix, Cond.static yX6_mix, Cond.code yX6_mix cX6_mix 3 (some .long), Cond.constantLong RX6 325 (31), Cond.methodLink RX6 303 yX6_many, Cond.methodLink RX6 306 yX6_mixSeries, Cond.instanceMethod yX6_mixSeries, Cond.selects RX6 yX6_mixSeries yX6_mixSeries, Cond.code yX6_mixSeries cX6_mixSeries 7 (some .long), Cond.methodLink RX6 327 yX6_now, Cond.instanceMethod yX6_now, Cond.selects RX6 yX6_now yX6_now, Cond.code yX6_now cX6_now 4 (some .int), Cond.fieldLink RX6 205 "HarbourlightMonitor$Series" "held" "I", Cond.methodLink RX6 330 yX6_sample, Cond.instanceMethod yX6_sample, Cond.selects RX6 yX6_sample yX6_sample, Cond.code yX6_sample cX6_sample 4 (some .int), Cond.methodLink RX6 210 yX5_past, Cond.methodLink RX6 333 yX6_look, Cond.instanceMethod yX6_look, Cond.selects RX6 yX6_look yX6_look, Cond.code yX6_look cX6_look 5 (some .int), Cond.methodLink RX6 309 yX6_calm, Cond.instanceMethod yX6_calm, Cond.selects RX6 yX6_calm yX6_calm]
def hm_B13 : List Cond := [Cond.code yX6_calm cX6_calm 7 (some .int), Cond.methodLink RX6 312 yX6_beyond, Cond.instanceMethod yX6_beyond, Cond.selects RX6 yX6_beyond yX6_beyond, Cond.code yX6_beyond cX6_beyond 6 (some .int), Cond.methodLink RX6 315 yX6_mixAlert, Cond.instanceMethod yX6_mixAlert, Cond.selects RX6 yX6_mixAlert yX6_mixAlert, Cond.code yX6_mixAlert cX6_mixAlert 9 (some .long), Cond.methodLink RX6 336 yX6_alertAt, Cond.instanceMethod yX6_alertAt, Cond.selects RX6 yX6_alertAt yX6_alertAt, Cond.code yX6_alertAt cX6_alertAt 8 (some .int), Cond.methodLink RX6 242 yX4_keyOfAlert, Cond.instanceMethod yX4_keyOfAlert, Cond.selects RX4 yX4_keyOfAlert yX4_keyOfAlert, Cond.code yX4_keyOfAlert cX4_keyOfAlert 4 (some .int), Cond.methodLink RX6 339 yX6_alert, Cond.instanceMethod yX6_alert, Cond.selects RX6 yX6_alert yX6_alert, Cond.code yX6_alert cX6_alert 6 (some .int), Cond.fieldLink RX6 236 "HarbourlightMonitor$Alert" "since" "I", Cond.methodLink RX6 318 yX6_mixHush, Cond.instanceMethod yX6_mixHush, Cond.selects RX6 yX6_mixHush yX6_mixHush, Cond.code yX6_mixHush cX6_mixHush 7 (some .long), Cond.methodLink RX6 342 yX6_ofHush, Cond.instanceMethod yX6_ofHush, Cond.selects RX6 yX6_ofHush yX6_ofHush, Cond.code yX6_ofHush cX6_ofHush 4 (some .int), Cond.fieldLink RX6 260 "HarbourlightMonitor$Hush" "rule" "I", Cond.fieldLink RX6 263 "HarbourlightMonitor$Hush" "place" "I", Cond.fieldLink RX6 266 "HarbourlightMonitor$Hush" "till" "I", Cond.methodLink RX6 166 yX6_requireHush, Cond.instanceMethod yX6_requireHush, Cond.selects RX6 yX6_requireHush yX6_requireHush, Cond.code yX6_requireHush cX6_requireHush 2 (some (.object "HarbourlightMonitor$Hush")), Cond.methodLink RX6 269 yX6_countCovered, Cond.instanceMethod yX6_countCovered, Cond.selects RX6 yX6_countCovered yX6_countCovered]
def hm_B14 : List Cond := [Cond.code yX6_countCovered cX6_countCovered 6 (some .int), Cond.methodLink RX6 398 yX4_hasAlert, Cond.instanceMethod yX4_hasAlert, Cond.selects RX4 yX4_hasAlert yX4_hasAlert, Cond.code yX4_hasAlert cX4_hasAlert 3 (some .boolean), Cond.methodLink RX6 321 yX6_mixNotices, Cond.instanceMethod yX6_mixNotices, Cond.selects RX6 yX6_mixNotices yX6_mixNotices, Cond.code yX6_mixNotices cX6_mixNotices 7 (some .long), Cond.fieldLink RX6 275 "HarbourlightMonitor$NoticeLog" "held" "I", Cond.methodLink RX6 345 yX6_notice, Cond.instanceMethod yX6_notice, Cond.selects RX6 yX6_notice yX6_notice, Cond.code yX6_notice cX6_notice 3 (some .int), Cond.methodLink RX6 278 yX3_factOf, Cond.instanceMethod yX3_factOf, Cond.selects RX3 yX3_factOf yX3_factOf, Cond.code yX3_factOf cX3_factOf 3 (some .int), Cond.methodLink RL 60 yX6_alertAt, Cond.methodLink RL 63 yX6_alert, Cond.methodLink RL 66 yX6_clock, Cond.methodLink RL 70 yX6_look, Cond.methodLink RL 73 yX6_sample, Cond.methodLink RL 76 yX6_now, Cond.methodLink RL 84 yX6_ofHush, Cond.methodLink RL 87 yX6_loudWithout, Cond.instanceMethod yX6_loudWithout, Cond.selects RX6 yX6_loudWithout yX6_loudWithout, Cond.code yX6_loudWithout cX6_loudWithout 2 (some .int), Cond.methodLink RL 90 yX6_calm, Cond.methodLink RL 93 yX6_beyond, Cond.methodLink RL 96 yX6_notice, Cond.methodLink RL 99 yX6_dropRule, Cond.instanceMethod yX6_dropRule, Cond.selects RX6 yX6_dropRule yX6_dropRule, Cond.code yX6_dropRule cX6_dropRule 2 (some .int), Cond.methodLink RX6 148 yJx4a65c_remove_915e3, Cond.instanceMethod yJx4a65c_remove_915e3, Cond.selects RJx4a65c yJx4a65c_remove_915e3 yJx4a65c_remove_915e3, Cond.code yJx4a65c_remove_915e3 cJx4a65c_remove_915e3 4 (some (.object "java/lang/Object"))]
def hm_B15 : List Cond := [Cond.methodLink RJx4a65c 144 yJx4a65c_fastRemove_b59b0, Cond.instanceMethod yJx4a65c_fastRemove_b59b0, Cond.selects RJx4a65c yJx4a65c_fastRemove_b59b0 yJx4a65c_fastRemove_b59b0, Cond.code yJx4a65c_fastRemove_b59b0 cJx4a65c_fastRemove_b59b0 4 none, Cond.methodLink RJx4a65c 112 arraycopyName, Cond.methodLink RX6 152 yX6_dropHushesOf, Cond.instanceMethod yX6_dropHushesOf, Cond.selects RX6 yX6_dropHushesOf yX6_dropHushesOf, Cond.code yX6_dropHushesOf cX6_dropHushesOf 3 none]
def hm_BT : List Cond := wsX60 ++ (wsJx4a65c0 ++ (wsX10 ++ (wsX30 ++ (wsX00 ++ (wsX50 ++ (wsX40 ++ (wsX20)))))))
def hm_B : List Cond := hm_B0 ++ (hm_B1 ++ (hm_B2 ++ (hm_B3 ++ (hm_B4 ++ (hm_B5 ++ (hm_B6 ++ (hm_B7 ++ (hm_B8 ++ (hm_B9 ++ (hm_B10 ++ (hm_B11 ++ (hm_B12 ++ (hm_B13 ++ (hm_B14 ++ (hm_B15 ++ (hm_BT))))))))))))))))
set_option maxRecDepth 20000 in
theorem hm_Bg0 : hm_B0.all goodWord = true := by decide +kernel
set_option maxRecDepth 20000 in
theorem hm_Bi0 : ∀ w ∈ hm_B0, w ∈ hm_B := fun _ h => List.mem_append_left _ h
set_option maxRecDepth 20000 in
theorem hm_Bg1 : hm_B1.all goodWord = true := by decide +kernel
set_option maxRecDepth 20000 in
theorem hm_Bi1 : ∀ w ∈ hm_B1, w ∈ hm_B := fun _ h => List.mem_append_right _ (List.mem_append_left _ h)
set_option maxRecDepth 20000 in
theorem hm_Bg2 : hm_B2.all goodWord = true := by decide +kernel
set_option maxRecDepth 20000 in
theorem hm_Bi2 : ∀ w ∈ hm_B2, w ∈ hm_B := fun _ h => List.mem_append_right _ (List.mem_append_right _ (List.mem_append_left _ h))
set_option maxRecDepth 20000 in
theorem hm_Bg3 : hm_B3.all goodWord = true := by decide +kernel
set_option maxRecDepth 20000 in
theorem hm_Bi3 : ∀ w ∈ hm_B3, w ∈ hm_B := fun _ h => List.mem_append_right _ (List.mem_append_right _ (List.mem_append_right _ (List.mem_append_left _ h)))
set_option maxRecDepth 20000 in
theorem hm_Bg4 : hm_B4.all goodWord = true := by decide +kernel
set_option maxRecDepth 20000 in
theorem hm_Bi4 : ∀ w ∈ hm_B4, w ∈ hm_B := fun _ h => List.mem_append_right _ (List.mem_append_right _ (List.mem_append_right _ (List.mem_append_right _ (List.mem_append_left _ h))))
set_option maxRecDepth 20000 in
theorem hm_Bg5 : hm_B5.all goodWord = true := by decide +kernel
set_option maxRecDepth 20000 in
theorem hm_Bi5 : ∀ w ∈ hm_B5, w ∈ hm_B := fun _ h => List.mem_append_right _ (List.mem_append_right _ (List.mem_append_right _ (List.mem_append_right _ (List.mem_append_right _ (List.mem_append_left _ h)))))
set_option maxRecDepth 20000 in
theorem hm_Bg6 : hm_B6.all goodWord = true := by decide +kernel
set_option maxRecDepth 20000 in
theorem hm_Bi6 : ∀ w ∈ hm_B6, w ∈ hm_B := fun _ h => List.mem_append_right _ (List.mem_append_right _ (List.mem_append_right _ (List.mem_append_right _ (List.mem_append_right _ (List.mem_append_right _ (List.mem_append_left _ h))))))
set_option maxRecDepth 20000 in
theorem hm_Bg7 : hm_B7.all goodWord = true := by decide +kernel
set_option maxRecDepth 20000 in
theorem hm_Bi7 : ∀ w ∈ hm_B7, w ∈ hm_B := fun _ h => List.mem_append_right _ (List.mem_append_right _ (List.mem_append_right _ (List.mem_append_right _ (List.mem_append_right _ (List.mem_append_right _ (List.mem_append_right _ (List.mem_append_left _ h)))))))
set_option maxRecDepth 20000 in
theorem hm_Bg8 : hm_B8.all goodWord = true := by decide +kernel
set_option maxRecDepth 20000 in
theorem hm_Bi8 : ∀ w ∈ hm_B8, w ∈ hm_B := fun _ h => List.mem_append_right _ (List.mem_append_right _ (List.mem_append_right _ (List.mem_append_right _ (List.mem_append_right _ (List.mem_append_right _ (List.mem_append_right _ (List.mem_append_right _ (List.mem_append_left _ h))))))))
set_option maxRecDepth 20000 in
theorem hm_Bg9 : hm_B9.all goodWord = true := by decide +kernel
set_option maxRecDepth 20000 in
theorem hm_Bi9 : ∀ w ∈ hm_B9, w ∈ hm_B := fun _ h => List.mem_append_right _ (List.mem_append_right _ (List.mem_append_right _ (List.mem_append_right _ (List.mem_append_right _ (List.mem_append_right _ (List.mem_append_right _ (List.mem_append_right _ (List.mem_append_right _ (List.mem_append_left _ h)))))))))
set_option maxRecDepth 20000 in
theorem hm_Bg10 : hm_B10.all goodWord = true := by decide +kernel
set_option maxRecDepth 20000 in
theorem hm_Bi10 : ∀ w ∈ hm_B10, w ∈ hm_B := fun _ h => List.mem_append_right _ (List.mem_append_right _ (List.mem_append_right _ (List.mem_append_right _ (List.mem_append_right _ (List.mem_append_right _ (List.mem_append_right _ (List.mem_append_right _ (List.mem_append_right _ (List.mem_append_right _ (List.mem_append_left _ h))))))))))
set_option maxRecDepth 20000 in
theorem hm_Bg11 : hm_B11.all goodWord = true := by decide +kernel
set_option maxRecDepth 20000 in
theorem hm_Bi11 : ∀ w ∈ hm_B11, w ∈ hm_B := fun _ h => List.mem_append_right _ (List.mem_append_right _ (List.mem_append_right _ (List.mem_append_right _ (List.mem_append_right _ (List.mem_append_right _ (List.mem_append_right _ (List.mem_append_right _ (List.mem_append_right _ (List.mem_append_right _ (List.mem_append_right _ (List.mem_append_left _ h)))))))))))
set_option maxRecDepth 20000 in
theorem hm_Bg12 : hm_B12.all goodWord = true := by decide +kernel
set_option maxRecDepth 20000 in
theorem hm_Bi12 : ∀ w ∈ hm_B12, w ∈ hm_B := fun _ h => List.mem_append_right _ (List.mem_append_right _ (List.mem_append_right _ (List.mem_append_right _ (List.mem_append_right _ (List.mem_append_right _ (List.mem_append_right _ (List.mem_append_right _ (List.mem_append_right _ (List.mem_append_right _ (List.mem_append_right _ (List.mem_append_right _ (List.mem_append_left _ h))))))))))))
set_option maxRecDepth 20000 in
theorem hm_Bg13 : hm_B13.all goodWord = true := by decide +kernel
set_option maxRecDepth 20000 in
theorem hm_Bi13 : ∀ w ∈ hm_B13, w ∈ hm_B := fun _ h => List.mem_append_right _ (List.mem_append_right _ (List.mem_append_right _ (List.mem_append_right _ (List.mem_append_right _ (List.mem_append_right _ (List.mem_append_right _ (List.mem_append_right _ (List.mem_append_right _ (List.mem_append_right _ (List.mem_append_right _ (List.mem_append_right _ (List.mem_append_right _ (List.mem_append_left _ h)))))))))))))
set_option maxRecDepth 20000 in
theorem hm_Bg14 : hm_B14.all goodWord = true := by decide +kernel
set_option maxRecDepth 20000 in
theorem hm_Bi14 : ∀ w ∈ hm_B14, w ∈ hm_B := fun _ h => List.mem_append_right _ (List.mem_append_right _ (List.mem_append_right _ (List.mem_append_right _ (List.mem_append_right _ (List.mem_append_right _ (List.mem_append_right _ (List.mem_append_right _ (List.mem_append_right _ (List.mem_append_right _ (List.mem_append_right _ (List.mem_append_right _ (List.mem_append_right _ (List.mem_append_right _ (List.mem_append_left _ h))))))))))))))
set_option maxRecDepth 20000 in
theorem hm_Bg15 : hm_B15.all goodWord = true := by decide +kernel
set_option maxRecDepth 20000 in
theorem hm_Bi15 : ∀ w ∈ hm_B15, w ∈ hm_B := fun _ h => List.mem_append_right _ (List.mem_append_right _ (List.mem_append_right _ (List.mem_append_right _ (List.mem_append_right _ (List.mem_append_right _ (List.mem_append_right _ (List.mem_append_right _ (List.mem_append_right _ (List.mem_append_right _ (List.mem_append_right _ (List.mem_append_right _ (List.mem_append_right _ (List.mem_append_right _ (List.mem_append_right _ (List.mem_append_left _ h)))))))))))))))
theorem hm_BgT : hm_BT.all goodWord = true := by decide +kernel
theorem hm_BiT : ∀ w ∈ hm_BT, w ∈ hm_B := fun _ h => List.mem_append_right _ (List.mem_append_right _ (List.mem_append_right _ (List.mem_append_right _ (List.mem_append_right _ (List.mem_append_right _ (List.mem_append_right _ (List.mem_append_right _ (List.mem_append_right _ (List.mem_append_right _ (List.mem_append_right _ (List.mem_append_right _ (List.mem_append_right _ (List.mem_append_right _ (List.mem_append_right _ (List.mem_append_right _ h)))))))))))))))
theorem hm_allapp {a b : List Cond} (h1 : a.all goodWord = true) (h2 : b.all goodWord = true) : (a ++ b).all goodWord = true := by rw [List.all_append, h1, h2]; rfl
theorem hm_Bgood : hm_B.all goodWord = true := hm_allapp hm_Bg0 (hm_allapp hm_Bg1 (hm_allapp hm_Bg2 (hm_allapp hm_Bg3 (hm_allapp hm_Bg4 (hm_allapp hm_Bg5 (hm_allapp hm_Bg6 (hm_allapp hm_Bg7 (hm_allapp hm_Bg8 (hm_allapp hm_Bg9 (hm_allapp hm_Bg10 (hm_allapp hm_Bg11 (hm_allapp hm_Bg12 (hm_allapp hm_Bg13 (hm_allapp hm_Bg14 (hm_allapp hm_Bg15 (hm_BgT))))))))))))))))
theorem hb_0 : Cond.classLink RL 9 RX6 ∈ hm_B := hm_Bi0 _ (List.mem_of_getElem? (i := 0) rfl)
theorem hb_1 : Cond.instantiable RX6 9 ∈ hm_B := hm_Bi0 _ (List.mem_of_getElem? (i := 1) rfl)
theorem hb_2 : Cond.initialized RX6 ∈ hm_B := hm_Bi0 _ (List.mem_of_getElem? (i := 2) rfl)
theorem hb_3 : Cond.methodLink RL 79 Lib.Math.min.name ∈ hm_B := hm_Bi0 _ (List.mem_of_getElem? (i := 3) rfl)
theorem hb_4 : Cond.static Lib.Math.min.name ∈ hm_B := hm_Bi0 _ (List.mem_of_getElem? (i := 4) rfl)
theorem hb_5 : Cond.initialized "java/lang/Math" ∈ hm_B := hm_Bi0 _ (List.mem_of_getElem? (i := 5) rfl)
theorem hb_6 : Cond.code Lib.Math.min.name Lib.Math.min.code 2 (some .int) ∈ hm_B := hm_Bi0 _ (List.mem_of_getElem? (i := 6) rfl)
theorem hb_7 : Cond.methodLink RL 11 yX6_init ∈ hm_B := hm_Bi0 _ (List.mem_of_getElem? (i := 7) rfl)
theorem hb_8 : Cond.instanceMethod yX6_init ∈ hm_B := hm_Bi0 _ (List.mem_of_getElem? (i := 8) rfl)
theorem hb_9 : Cond.code yX6_init cX6_init 2 none ∈ hm_B := hm_Bi0 _ (List.mem_of_getElem? (i := 9) rfl)
theorem hb_10 : Cond.methodLink RX6 1 objectInit ∈ hm_B := hm_Bi0 _ (List.mem_of_getElem? (i := 10) rfl)
theorem hb_11 : Cond.instanceMethod objectInit ∈ hm_B := hm_Bi0 _ (List.mem_of_getElem? (i := 11) rfl)
theorem hb_12 : Cond.code objectInit ⟨#[0xb1]⟩ 1 none ∈ hm_B := hm_Bi0 _ (List.mem_of_getElem? (i := 12) rfl)
theorem hb_13 : Cond.classLink RX6 7 RJx4a65c ∈ hm_B := hm_Bi0 _ (List.mem_of_getElem? (i := 13) rfl)
theorem hb_14 : Cond.instantiable RJx4a65c 3 ∈ hm_B := hm_Bi0 _ (List.mem_of_getElem? (i := 14) rfl)
theorem hb_15 : Cond.initialized RJx4a65c ∈ hm_B := hm_Bi0 _ (List.mem_of_getElem? (i := 15) rfl)
theorem hb_16 : Cond.fieldLink RX6 10 "HarbourlightMonitor" "seriesList" "Ljava/util/ArrayList;" ∈ hm_B := hm_Bi0 _ (List.mem_of_getElem? (i := 16) rfl)
theorem hb_17 : Cond.fieldLink RX6 16 "HarbourlightMonitor" "ruleList" "Ljava/util/ArrayList;" ∈ hm_B := hm_Bi0 _ (List.mem_of_getElem? (i := 17) rfl)
theorem hb_18 : Cond.fieldLink RX6 19 "HarbourlightMonitor" "hushList" "Ljava/util/ArrayList;" ∈ hm_B := hm_Bi0 _ (List.mem_of_getElem? (i := 18) rfl)
theorem hb_19 : Cond.classLink RX6 22 RX1 ∈ hm_B := hm_Bi0 _ (List.mem_of_getElem? (i := 19) rfl)
theorem hb_20 : Cond.fieldLink RX6 24 "HarbourlightMonitor" "groups" "[LHarbourlightMonitor$Group;" ∈ hm_B := hm_Bi0 _ (List.mem_of_getElem? (i := 20) rfl)
theorem hb_21 : Cond.instantiable RX1 4 ∈ hm_B := hm_Bi0 _ (List.mem_of_getElem? (i := 21) rfl)
theorem hb_22 : Cond.initialized RX1 ∈ hm_B := hm_Bi0 _ (List.mem_of_getElem? (i := 22) rfl)
theorem hb_23 : Cond.classLink RX6 29 RX3 ∈ hm_B := hm_Bi0 _ (List.mem_of_getElem? (i := 23) rfl)
theorem hb_24 : Cond.instantiable RX3 4 ∈ hm_B := hm_Bi0 _ (List.mem_of_getElem? (i := 24) rfl)
theorem hb_25 : Cond.initialized RX3 ∈ hm_B := hm_Bi0 _ (List.mem_of_getElem? (i := 25) rfl)
theorem hb_26 : Cond.fieldLink RX6 32 "HarbourlightMonitor" "log" "LHarbourlightMonitor$NoticeLog;" ∈ hm_B := hm_Bi0 _ (List.mem_of_getElem? (i := 26) rfl)
theorem hb_27 : Cond.classLink RX6 36 RX0 ∈ hm_B := hm_Bi0 _ (List.mem_of_getElem? (i := 27) rfl)
theorem hb_28 : Cond.instantiable RX0 3 ∈ hm_B := hm_Bi0 _ (List.mem_of_getElem? (i := 28) rfl)
theorem hb_29 : Cond.initialized RX0 ∈ hm_B := hm_Bi0 _ (List.mem_of_getElem? (i := 29) rfl)
theorem hb_30 : Cond.fieldLink RX6 39 "HarbourlightMonitor" "rehearsed" "LHarbourlightMonitor$Alert;" ∈ hm_B := hm_Bi0 _ (List.mem_of_getElem? (i := 30) rfl)
theorem hb_31 : Cond.fieldLink RX6 43 "HarbourlightMonitor" "clockNow" "I" ∈ hm_B := hm_Bi0 _ (List.mem_of_getElem? (i := 31) rfl)
theorem hb_32 : Cond.fieldLink RX6 47 "HarbourlightMonitor" "grouping" "I" ∈ hm_B := hm_Bi0 _ (List.mem_of_getElem? (i := 32) rfl)
theorem hb_33 : Cond.fieldLink RX6 50 "HarbourlightMonitor" "repeat" "I" ∈ hm_B := hm_Bi0 _ (List.mem_of_getElem? (i := 33) rfl)
theorem hb_34 : Cond.methodLink RX6 9 yJx4a65c_init_da8c8 ∈ hm_B := hm_Bi0 _ (List.mem_of_getElem? (i := 34) rfl)
theorem hb_35 : Cond.instanceMethod yJx4a65c_init_da8c8 ∈ hm_B := hm_Bi0 _ (List.mem_of_getElem? (i := 35) rfl)
theorem hb_36 : Cond.code yJx4a65c_init_da8c8 cJx4a65c_init_da8c8 1 none ∈ hm_B := hm_Bi0 _ (List.mem_of_getElem? (i := 36) rfl)
theorem hb_37 : Cond.fieldLink RJx4a65c 39 "java/util/ArrayList" "DEFAULTCAPACITY_EMPTY_ELEMENTDATA" "[Ljava/lang/Object;" ∈ hm_B := hm_Bi0 _ (List.mem_of_getElem? (i := 37) rfl)
theorem hb_38 : Cond.fieldLink RJx4a65c 9 "java/util/ArrayList" "elementData" "[Ljava/lang/Object;" ∈ hm_B := hm_Bi0 _ (List.mem_of_getElem? (i := 38) rfl)
theorem hb_39 : Cond.methodLink RJx4a65c 1 yJxc12de_init_da8c8 ∈ hm_B := hm_Bi0 _ (List.mem_of_getElem? (i := 39) rfl)
theorem hb_40 : Cond.instanceMethod yJxc12de_init_da8c8 ∈ hm_B := hm_Bi1 _ (List.mem_of_getElem? (i := 0) rfl)
theorem hb_41 : Cond.initialized RJxc12de ∈ hm_B := hm_Bi1 _ (List.mem_of_getElem? (i := 1) rfl)
theorem hb_42 : Cond.code yJxc12de_init_da8c8 cJxc12de_init_da8c8 1 none ∈ hm_B := hm_Bi1 _ (List.mem_of_getElem? (i := 2) rfl)
theorem hb_43 : Cond.fieldLink RJxc12de 7 "java/util/AbstractList" "modCount" "I" ∈ hm_B := hm_Bi1 _ (List.mem_of_getElem? (i := 3) rfl)
theorem hb_44 : Cond.methodLink RJxc12de 1 yJxa1e45_init_da8c8 ∈ hm_B := hm_Bi1 _ (List.mem_of_getElem? (i := 4) rfl)
theorem hb_45 : Cond.instanceMethod yJxa1e45_init_da8c8 ∈ hm_B := hm_Bi1 _ (List.mem_of_getElem? (i := 5) rfl)
theorem hb_46 : Cond.initialized RJxa1e45 ∈ hm_B := hm_Bi1 _ (List.mem_of_getElem? (i := 6) rfl)
theorem hb_47 : Cond.code yJxa1e45_init_da8c8 cJxa1e45_init_da8c8 1 none ∈ hm_B := hm_Bi1 _ (List.mem_of_getElem? (i := 7) rfl)
theorem hb_48 : Cond.methodLink RJxa1e45 1 objectInit ∈ hm_B := hm_Bi1 _ (List.mem_of_getElem? (i := 8) rfl)
theorem hb_49 : Cond.instanceMethod yX1_init ∈ hm_B := hm_Bi1 _ (List.mem_of_getElem? (i := 9) rfl)
theorem hb_50 : Cond.code yX1_init cX1_init 1 none ∈ hm_B := hm_Bi1 _ (List.mem_of_getElem? (i := 10) rfl)
theorem hb_51 : Cond.methodLink RX1 3 objectInit ∈ hm_B := hm_Bi1 _ (List.mem_of_getElem? (i := 11) rfl)
theorem hb_52 : Cond.arrayClass .int ∈ hm_B := hm_Bi1 _ (List.mem_of_getElem? (i := 12) rfl)
theorem hb_53 : Cond.fieldLink RX1 9 "HarbourlightMonitor$Group" "loud" "[I" ∈ hm_B := hm_Bi1 _ (List.mem_of_getElem? (i := 13) rfl)
theorem hb_54 : Cond.fieldLink RX1 15 "HarbourlightMonitor$Group" "told" "[I" ∈ hm_B := hm_Bi1 _ (List.mem_of_getElem? (i := 14) rfl)
theorem hb_55 : Cond.fieldLink RX1 18 "HarbourlightMonitor$Group" "toldAt" "I" ∈ hm_B := hm_Bi1 _ (List.mem_of_getElem? (i := 15) rfl)
theorem hb_56 : Cond.fieldLink RX1 22 "HarbourlightMonitor$Group" "wasLoud" "Z" ∈ hm_B := hm_Bi1 _ (List.mem_of_getElem? (i := 16) rfl)
theorem hb_57 : Cond.instanceMethod yX3_init ∈ hm_B := hm_Bi1 _ (List.mem_of_getElem? (i := 17) rfl)
theorem hb_58 : Cond.code yX3_init cX3_init 1 none ∈ hm_B := hm_Bi1 _ (List.mem_of_getElem? (i := 18) rfl)
theorem hb_59 : Cond.methodLink RX3 3 objectInit ∈ hm_B := hm_Bi1 _ (List.mem_of_getElem? (i := 19) rfl)
theorem hb_60 : Cond.classLink RX3 9 "[[I" ∈ hm_B := hm_Bi1 _ (List.mem_of_getElem? (i := 20) rfl)
theorem hb_61 : Cond.fieldLink RX3 11 "HarbourlightMonitor$NoticeLog" "kept" "[[I" ∈ hm_B := hm_Bi1 _ (List.mem_of_getElem? (i := 21) rfl)
theorem hb_62 : Cond.fieldLink RX3 16 "HarbourlightMonitor$NoticeLog" "latest" "I" ∈ hm_B := hm_Bi1 _ (List.mem_of_getElem? (i := 22) rfl)
theorem hb_63 : Cond.fieldLink RX3 20 "HarbourlightMonitor$NoticeLog" "held" "I" ∈ hm_B := hm_Bi1 _ (List.mem_of_getElem? (i := 23) rfl)
theorem hb_64 : Cond.fieldLink RX3 23 "HarbourlightMonitor$NoticeLog" "ever" "I" ∈ hm_B := hm_Bi1 _ (List.mem_of_getElem? (i := 24) rfl)
theorem hb_65 : Cond.instanceMethod yX0_init ∈ hm_B := hm_Bi1 _ (List.mem_of_getElem? (i := 25) rfl)
theorem hb_66 : Cond.code yX0_init cX0_init 1 none ∈ hm_B := hm_Bi1 _ (List.mem_of_getElem? (i := 26) rfl)
theorem hb_67 : Cond.methodLink RX0 3 objectInit ∈ hm_B := hm_Bi1 _ (List.mem_of_getElem? (i := 27) rfl)
theorem hb_68 : Cond.fieldLink RX0 9 "HarbourlightMonitor$Alert" "state" "I" ∈ hm_B := hm_Bi1 _ (List.mem_of_getElem? (i := 28) rfl)
theorem hb_69 : Cond.fieldLink RX0 15 "HarbourlightMonitor$Alert" "since" "I" ∈ hm_B := hm_Bi1 _ (List.mem_of_getElem? (i := 29) rfl)
theorem hb_70 : Cond.fieldLink RX0 18 "HarbourlightMonitor$Alert" "ticksNotBeyond" "I" ∈ hm_B := hm_Bi1 _ (List.mem_of_getElem? (i := 30) rfl)
theorem hb_71 : Cond.methodLink RL 12 yL_cell ∈ hm_B := hm_Bi1 _ (List.mem_of_getElem? (i := 31) rfl)
theorem hb_72 : Cond.static yL_cell ∈ hm_B := hm_Bi1 _ (List.mem_of_getElem? (i := 32) rfl)
theorem hb_73 : Cond.initialized RL ∈ hm_B := hm_Bi1 _ (List.mem_of_getElem? (i := 33) rfl)
theorem hb_74 : Cond.code yL_cell cL_cell 2 (some .int) ∈ hm_B := hm_Bi1 _ (List.mem_of_getElem? (i := 34) rfl)
theorem hb_75 : Cond.constant RL 8 (790386105) ∈ hm_B := hm_Bi1 _ (List.mem_of_getElem? (i := 35) rfl)
theorem hb_76 : Cond.methodLink RL 18 yL_below ∈ hm_B := hm_Bi1 _ (List.mem_of_getElem? (i := 36) rfl)
theorem hb_77 : Cond.static yL_below ∈ hm_B := hm_Bi1 _ (List.mem_of_getElem? (i := 37) rfl)
theorem hb_78 : Cond.code yL_below cL_below 2 (some .int) ∈ hm_B := hm_Bi1 _ (List.mem_of_getElem? (i := 38) rfl)
theorem hb_79 : Cond.constant RL 7 (2147483647) ∈ hm_B := hm_Bi1 _ (List.mem_of_getElem? (i := 39) rfl)
theorem hb_80 : Cond.methodLink RL 22 yX6_series ∈ hm_B := hm_Bi2 _ (List.mem_of_getElem? (i := 0) rfl)
theorem hb_81 : Cond.instanceMethod yX6_series ∈ hm_B := hm_Bi2 _ (List.mem_of_getElem? (i := 1) rfl)
theorem hb_82 : Cond.selects RX6 yX6_series yX6_series ∈ hm_B := hm_Bi2 _ (List.mem_of_getElem? (i := 2) rfl)
theorem hb_83 : Cond.code yX6_series cX6_series 5 (some .int) ∈ hm_B := hm_Bi2 _ (List.mem_of_getElem? (i := 3) rfl)
theorem hb_84 : Cond.classLink RX6 57 "java/lang/IllegalArgumentException" ∈ hm_B := hm_Bi2 _ (List.mem_of_getElem? (i := 4) rfl)
theorem hb_85 : Cond.initialized "java/lang/IllegalArgumentException" ∈ hm_B := hm_Bi2 _ (List.mem_of_getElem? (i := 5) rfl)
theorem hb_86 : Cond.classLink RX6 74 "java/lang/IllegalStateException" ∈ hm_B := hm_Bi2 _ (List.mem_of_getElem? (i := 6) rfl)
theorem hb_87 : Cond.initialized "java/lang/IllegalStateException" ∈ hm_B := hm_Bi2 _ (List.mem_of_getElem? (i := 7) rfl)
theorem hb_88 : Cond.classLink RX6 79 RX5 ∈ hm_B := hm_Bi2 _ (List.mem_of_getElem? (i := 8) rfl)
theorem hb_89 : Cond.instantiable RX5 8 ∈ hm_B := hm_Bi2 _ (List.mem_of_getElem? (i := 9) rfl)
theorem hb_90 : Cond.initialized RX5 ∈ hm_B := hm_Bi2 _ (List.mem_of_getElem? (i := 10) rfl)
theorem hb_91 : Cond.methodLink RX6 53 yX6_isOutside ∈ hm_B := hm_Bi2 _ (List.mem_of_getElem? (i := 11) rfl)
theorem hb_92 : Cond.static yX6_isOutside ∈ hm_B := hm_Bi2 _ (List.mem_of_getElem? (i := 12) rfl)
theorem hb_93 : Cond.code yX6_isOutside cX6_isOutside 3 (some .boolean) ∈ hm_B := hm_Bi2 _ (List.mem_of_getElem? (i := 13) rfl)
theorem hb_94 : Cond.methodLink RX6 64 yX6_requireMetric ∈ hm_B := hm_Bi2 _ (List.mem_of_getElem? (i := 14) rfl)
theorem hb_95 : Cond.static yX6_requireMetric ∈ hm_B := hm_Bi2 _ (List.mem_of_getElem? (i := 15) rfl)
theorem hb_96 : Cond.code yX6_requireMetric cX6_requireMetric 1 none ∈ hm_B := hm_Bi2 _ (List.mem_of_getElem? (i := 16) rfl)
theorem hb_97 : Cond.methodLink RX6 70 yJx4a65c_size_8abf5 ∈ hm_B := hm_Bi2 _ (List.mem_of_getElem? (i := 17) rfl)
theorem hb_98 : Cond.instanceMethod yJx4a65c_size_8abf5 ∈ hm_B := hm_Bi2 _ (List.mem_of_getElem? (i := 18) rfl)
theorem hb_99 : Cond.selects RJx4a65c yJx4a65c_size_8abf5 yJx4a65c_size_8abf5 ∈ hm_B := hm_Bi2 _ (List.mem_of_getElem? (i := 19) rfl)
theorem hb_100 : Cond.code yJx4a65c_size_8abf5 cJx4a65c_size_8abf5 1 (some .int) ∈ hm_B := hm_Bi2 _ (List.mem_of_getElem? (i := 20) rfl)
theorem hb_101 : Cond.fieldLink RJx4a65c 48 "java/util/ArrayList" "size" "I" ∈ hm_B := hm_Bi2 _ (List.mem_of_getElem? (i := 21) rfl)
theorem hb_102 : Cond.methodLink RX6 81 yX5_init ∈ hm_B := hm_Bi2 _ (List.mem_of_getElem? (i := 22) rfl)
theorem hb_103 : Cond.instanceMethod yX5_init ∈ hm_B := hm_Bi2 _ (List.mem_of_getElem? (i := 23) rfl)
theorem hb_104 : Cond.code yX5_init cX5_init 5 none ∈ hm_B := hm_Bi2 _ (List.mem_of_getElem? (i := 24) rfl)
theorem hb_105 : Cond.methodLink RX5 3 objectInit ∈ hm_B := hm_Bi2 _ (List.mem_of_getElem? (i := 25) rfl)
theorem hb_106 : Cond.fieldLink RX5 9 "HarbourlightMonitor$Series" "present" "[I" ∈ hm_B := hm_Bi2 _ (List.mem_of_getElem? (i := 26) rfl)
theorem hb_107 : Cond.classLink RX5 15 "[[I" ∈ hm_B := hm_Bi2 _ (List.mem_of_getElem? (i := 27) rfl)
theorem hb_108 : Cond.fieldLink RX5 17 "HarbourlightMonitor$Series" "samples" "[[I" ∈ hm_B := hm_Bi2 _ (List.mem_of_getElem? (i := 28) rfl)
theorem hb_109 : Cond.fieldLink RX5 20 "HarbourlightMonitor$Series" "latest" "I" ∈ hm_B := hm_Bi2 _ (List.mem_of_getElem? (i := 29) rfl)
theorem hb_110 : Cond.fieldLink RX5 24 "HarbourlightMonitor$Series" "held" "I" ∈ hm_B := hm_Bi2 _ (List.mem_of_getElem? (i := 30) rfl)
theorem hb_111 : Cond.fieldLink RX5 27 "HarbourlightMonitor$Series" "number" "I" ∈ hm_B := hm_Bi2 _ (List.mem_of_getElem? (i := 31) rfl)
theorem hb_112 : Cond.fieldLink RX5 30 "HarbourlightMonitor$Series" "kind" "I" ∈ hm_B := hm_Bi2 _ (List.mem_of_getElem? (i := 32) rfl)
theorem hb_113 : Cond.fieldLink RX5 33 "HarbourlightMonitor$Series" "metric" "I" ∈ hm_B := hm_Bi2 _ (List.mem_of_getElem? (i := 33) rfl)
theorem hb_114 : Cond.fieldLink RX5 36 "HarbourlightMonitor$Series" "place" "I" ∈ hm_B := hm_Bi2 _ (List.mem_of_getElem? (i := 34) rfl)
theorem hb_115 : Cond.methodLink RX6 84 yJx4a65c_add_9ea2d ∈ hm_B := hm_Bi2 _ (List.mem_of_getElem? (i := 35) rfl)
theorem hb_116 : Cond.instanceMethod yJx4a65c_add_9ea2d ∈ hm_B := hm_Bi2 _ (List.mem_of_getElem? (i := 36) rfl)
theorem hb_117 : Cond.selects RJx4a65c yJx4a65c_add_9ea2d yJx4a65c_add_9ea2d ∈ hm_B := hm_Bi2 _ (List.mem_of_getElem? (i := 37) rfl)
theorem hb_118 : Cond.code yJx4a65c_add_9ea2d cJx4a65c_add_9ea2d 2 (some .boolean) ∈ hm_B := hm_Bi2 _ (List.mem_of_getElem? (i := 38) rfl)
theorem hb_119 : Cond.fieldLink RJx4a65c 63 "java/util/ArrayList" "modCount" "I" ∈ hm_B := hm_Bi2 _ (List.mem_of_getElem? (i := 39) rfl)
theorem hb_120 : Cond.sameField "java/util/ArrayList" "java/util/AbstractList" "modCount" "I" ∈ hm_B := hm_Bi3 _ (List.mem_of_getElem? (i := 0) rfl)
theorem hb_121 : Cond.methodLink RJx4a65c 131 yJx4a65c_add_72be8 ∈ hm_B := hm_Bi3 _ (List.mem_of_getElem? (i := 1) rfl)
theorem hb_122 : Cond.instanceMethod yJx4a65c_add_72be8 ∈ hm_B := hm_Bi3 _ (List.mem_of_getElem? (i := 2) rfl)
theorem hb_123 : Cond.selects RJx4a65c yJx4a65c_add_72be8 yJx4a65c_add_72be8 ∈ hm_B := hm_Bi3 _ (List.mem_of_getElem? (i := 3) rfl)
theorem hb_124 : Cond.code yJx4a65c_add_72be8 cJx4a65c_add_72be8 4 none ∈ hm_B := hm_Bi3 _ (List.mem_of_getElem? (i := 4) rfl)
theorem hb_125 : Cond.methodLink RJx4a65c 129 yJx4a65c_grow_d5877 ∈ hm_B := hm_Bi3 _ (List.mem_of_getElem? (i := 5) rfl)
theorem hb_126 : Cond.instanceMethod yJx4a65c_grow_d5877 ∈ hm_B := hm_Bi3 _ (List.mem_of_getElem? (i := 6) rfl)
theorem hb_127 : Cond.selects RJx4a65c yJx4a65c_grow_d5877 yJx4a65c_grow_d5877 ∈ hm_B := hm_Bi3 _ (List.mem_of_getElem? (i := 7) rfl)
theorem hb_128 : Cond.code yJx4a65c_grow_d5877 cJx4a65c_grow_d5877 1 (some (.array (.object "java/lang/Object"))) ∈ hm_B := hm_Bi3 _ (List.mem_of_getElem? (i := 8) rfl)
theorem hb_129 : Cond.methodLink RJx4a65c 69 yJx4a65c_grow_92f84 ∈ hm_B := hm_Bi3 _ (List.mem_of_getElem? (i := 9) rfl)
theorem hb_130 : Cond.instanceMethod yJx4a65c_grow_92f84 ∈ hm_B := hm_Bi3 _ (List.mem_of_getElem? (i := 10) rfl)
theorem hb_131 : Cond.selects RJx4a65c yJx4a65c_grow_92f84 yJx4a65c_grow_92f84 ∈ hm_B := hm_Bi3 _ (List.mem_of_getElem? (i := 11) rfl)
theorem hb_132 : Cond.code yJx4a65c_grow_92f84 cJx4a65c_grow_92f84 4 (some (.array (.object "java/lang/Object"))) ∈ hm_B := hm_Bi3 _ (List.mem_of_getElem? (i := 12) rfl)
theorem hb_133 : Cond.methodLink RJx4a65c 79 Lib.Math.max.name ∈ hm_B := hm_Bi3 _ (List.mem_of_getElem? (i := 13) rfl)
theorem hb_134 : Cond.static Lib.Math.max.name ∈ hm_B := hm_Bi3 _ (List.mem_of_getElem? (i := 14) rfl)
theorem hb_135 : Cond.code Lib.Math.max.name Lib.Math.max.code 2 (some .int) ∈ hm_B := hm_Bi3 _ (List.mem_of_getElem? (i := 15) rfl)
theorem hb_136 : Cond.classLink RJx4a65c 7 "java/lang/Object" ∈ hm_B := hm_Bi3 _ (List.mem_of_getElem? (i := 16) rfl)
theorem hb_137 : Cond.methodLink RJx4a65c 73 yJ8_newLength_cabcc ∈ hm_B := hm_Bi3 _ (List.mem_of_getElem? (i := 17) rfl)
theorem hb_138 : Cond.static yJ8_newLength_cabcc ∈ hm_B := hm_Bi3 _ (List.mem_of_getElem? (i := 18) rfl)
theorem hb_139 : Cond.initialized RJ8 ∈ hm_B := hm_Bi3 _ (List.mem_of_getElem? (i := 19) rfl)
theorem hb_140 : Cond.code yJ8_newLength_cabcc cJ8_newLength_cabcc 4 (some .int) ∈ hm_B := hm_Bi3 _ (List.mem_of_getElem? (i := 20) rfl)
theorem hb_141 : Cond.methodLink RJ8 194 Lib.Math.max.name ∈ hm_B := hm_Bi3 _ (List.mem_of_getElem? (i := 21) rfl)
theorem hb_142 : Cond.constant RJ8 200 (2147483639) ∈ hm_B := hm_Bi3 _ (List.mem_of_getElem? (i := 22) rfl)
theorem hb_143 : Cond.methodLink RJ8 201 yJ8_hugeLength_7cf53 ∈ hm_B := hm_Bi3 _ (List.mem_of_getElem? (i := 23) rfl)
theorem hb_144 : Cond.static yJ8_hugeLength_7cf53 ∈ hm_B := hm_Bi3 _ (List.mem_of_getElem? (i := 24) rfl)
theorem hb_145 : Cond.code yJ8_hugeLength_7cf53 cJ8_hugeLength_7cf53 3 (some .int) ∈ hm_B := hm_Bi3 _ (List.mem_of_getElem? (i := 25) rfl)
theorem hb_146 : Cond.methodLink RJx4a65c 66 yJ7_copyOf_1904c ∈ hm_B := hm_Bi3 _ (List.mem_of_getElem? (i := 26) rfl)
theorem hb_147 : Cond.static yJ7_copyOf_1904c ∈ hm_B := hm_Bi3 _ (List.mem_of_getElem? (i := 27) rfl)
theorem hb_148 : Cond.initialized RJ7 ∈ hm_B := hm_Bi3 _ (List.mem_of_getElem? (i := 28) rfl)
theorem hb_149 : Cond.code yJ7_copyOf_1904c cJ7_copyOf_1904c 2 (some (.array (.object "java/lang/Object"))) ∈ hm_B := hm_Bi3 _ (List.mem_of_getElem? (i := 29) rfl)
theorem hb_150 : Cond.methodLink RJ7 86 ⟨"java/lang/Object", "getClass", "()Ljava/lang/Class;"⟩ ∈ hm_B := hm_Bi3 _ (List.mem_of_getElem? (i := 30) rfl)
theorem hb_151 : Cond.selects "[Ljava/lang/Object;" ⟨"java/lang/Object", "getClass", "()Ljava/lang/Class;"⟩ ⟨"java/lang/Object", "getClass", "()Ljava/lang/Class;"⟩ ∈ hm_B := hm_Bi3 _ (List.mem_of_getElem? (i := 31) rfl)
theorem hb_152 : Cond.instanceMethod ⟨"java/lang/Object", "getClass", "()Ljava/lang/Class;"⟩ ∈ hm_B := hm_Bi3 _ (List.mem_of_getElem? (i := 32) rfl)
theorem hb_153 : Cond.native ⟨"java/lang/Object", "getClass", "()Ljava/lang/Class;"⟩ ∈ hm_B := hm_Bi3 _ (List.mem_of_getElem? (i := 33) rfl)
theorem hb_154 : Cond.methodLink RJ7 300 yJ7_copyOf_6403c ∈ hm_B := hm_Bi3 _ (List.mem_of_getElem? (i := 34) rfl)
theorem hb_155 : Cond.static yJ7_copyOf_6403c ∈ hm_B := hm_Bi3 _ (List.mem_of_getElem? (i := 35) rfl)
theorem hb_156 : Cond.code yJ7_copyOf_6403c cJ7_copyOf_6403c 4 (some (.array (.object "java/lang/Object"))) ∈ hm_B := hm_Bi3 _ (List.mem_of_getElem? (i := 36) rfl)
theorem hb_157 : Cond.classLink RJ7 110 "[Ljava/lang/Object;" ∈ hm_B := hm_Bi3 _ (List.mem_of_getElem? (i := 37) rfl)
theorem hb_158 : Cond.classLink RJ7 2 "java/lang/Object" ∈ hm_B := hm_Bi3 _ (List.mem_of_getElem? (i := 38) rfl)
theorem hb_159 : Cond.methodLink RJ7 304 Lib.Math.min.name ∈ hm_B := hm_Bi3 _ (List.mem_of_getElem? (i := 39) rfl)
theorem hb_160 : Cond.methodLink RJ7 150 arraycopyName ∈ hm_B := hm_Bi4 _ (List.mem_of_getElem? (i := 0) rfl)
theorem hb_161 : Cond.native arraycopyName ∈ hm_B := hm_Bi4 _ (List.mem_of_getElem? (i := 1) rfl)
theorem hb_162 : Cond.static arraycopyName ∈ hm_B := hm_Bi4 _ (List.mem_of_getElem? (i := 2) rfl)
theorem hb_163 : Cond.initialized "java/lang/System" ∈ hm_B := hm_Bi4 _ (List.mem_of_getElem? (i := 3) rfl)
theorem hb_164 : Cond.methodLink RL 26 yX6_rule ∈ hm_B := hm_Bi4 _ (List.mem_of_getElem? (i := 4) rfl)
theorem hb_165 : Cond.instanceMethod yX6_rule ∈ hm_B := hm_Bi4 _ (List.mem_of_getElem? (i := 5) rfl)
theorem hb_166 : Cond.selects RX6 yX6_rule yX6_rule ∈ hm_B := hm_Bi4 _ (List.mem_of_getElem? (i := 6) rfl)
theorem hb_167 : Cond.code yX6_rule cX6_rule 9 (some .int) ∈ hm_B := hm_Bi4 _ (List.mem_of_getElem? (i := 7) rfl)
theorem hb_168 : Cond.classLink RX6 120 RX4 ∈ hm_B := hm_Bi4 _ (List.mem_of_getElem? (i := 8) rfl)
theorem hb_169 : Cond.instantiable RX4 10 ∈ hm_B := hm_Bi4 _ (List.mem_of_getElem? (i := 9) rfl)
theorem hb_170 : Cond.initialized RX4 ∈ hm_B := hm_Bi4 _ (List.mem_of_getElem? (i := 10) rfl)
theorem hb_171 : Cond.fieldLink RX6 125 "HarbourlightMonitor$Rule" "limit" "I" ∈ hm_B := hm_Bi4 _ (List.mem_of_getElem? (i := 11) rfl)
theorem hb_172 : Cond.fieldLink RX6 128 "HarbourlightMonitor$Rule" "isAbove" "Z" ∈ hm_B := hm_Bi4 _ (List.mem_of_getElem? (i := 12) rfl)
theorem hb_173 : Cond.methodLink RX6 107 yX6_requireLook ∈ hm_B := hm_Bi4 _ (List.mem_of_getElem? (i := 13) rfl)
theorem hb_174 : Cond.static yX6_requireLook ∈ hm_B := hm_Bi4 _ (List.mem_of_getElem? (i := 14) rfl)
theorem hb_175 : Cond.code yX6_requireLook cX6_requireLook 1 none ∈ hm_B := hm_Bi4 _ (List.mem_of_getElem? (i := 15) rfl)
theorem hb_176 : Cond.methodLink RX6 110 yX6_requireW ∈ hm_B := hm_Bi4 _ (List.mem_of_getElem? (i := 16) rfl)
theorem hb_177 : Cond.static yX6_requireW ∈ hm_B := hm_Bi4 _ (List.mem_of_getElem? (i := 17) rfl)
theorem hb_178 : Cond.code yX6_requireW cX6_requireW 1 none ∈ hm_B := hm_Bi4 _ (List.mem_of_getElem? (i := 18) rfl)
theorem hb_179 : Cond.methodLink RX6 115 yX6_requireLimit ∈ hm_B := hm_Bi4 _ (List.mem_of_getElem? (i := 19) rfl)
theorem hb_180 : Cond.static yX6_requireLimit ∈ hm_B := hm_Bi4 _ (List.mem_of_getElem? (i := 20) rfl)
theorem hb_181 : Cond.code yX6_requireLimit cX6_requireLimit 1 none ∈ hm_B := hm_Bi4 _ (List.mem_of_getElem? (i := 21) rfl)
theorem hb_182 : Cond.methodLink RX6 122 yX4_init ∈ hm_B := hm_Bi4 _ (List.mem_of_getElem? (i := 22) rfl)
theorem hb_183 : Cond.instanceMethod yX4_init ∈ hm_B := hm_Bi4 _ (List.mem_of_getElem? (i := 23) rfl)
theorem hb_184 : Cond.code yX4_init cX4_init 7 none ∈ hm_B := hm_Bi4 _ (List.mem_of_getElem? (i := 24) rfl)
theorem hb_185 : Cond.methodLink RX4 3 objectInit ∈ hm_B := hm_Bi4 _ (List.mem_of_getElem? (i := 25) rfl)
theorem hb_186 : Cond.fieldLink RX4 9 "HarbourlightMonitor$Rule" "wait" "I" ∈ hm_B := hm_Bi4 _ (List.mem_of_getElem? (i := 26) rfl)
theorem hb_187 : Cond.fieldLink RX4 15 "HarbourlightMonitor$Rule" "rank" "I" ∈ hm_B := hm_Bi4 _ (List.mem_of_getElem? (i := 27) rfl)
theorem hb_188 : Cond.classLink RX4 18 RX0 ∈ hm_B := hm_Bi4 _ (List.mem_of_getElem? (i := 28) rfl)
theorem hb_189 : Cond.fieldLink RX4 20 "HarbourlightMonitor$Rule" "alerts" "[LHarbourlightMonitor$Alert;" ∈ hm_B := hm_Bi4 _ (List.mem_of_getElem? (i := 29) rfl)
theorem hb_190 : Cond.fieldLink RX4 24 "HarbourlightMonitor$Rule" "number" "I" ∈ hm_B := hm_Bi4 _ (List.mem_of_getElem? (i := 30) rfl)
theorem hb_191 : Cond.fieldLink RX4 27 "HarbourlightMonitor$Rule" "metric" "I" ∈ hm_B := hm_Bi4 _ (List.mem_of_getElem? (i := 31) rfl)
theorem hb_192 : Cond.fieldLink RX4 30 "HarbourlightMonitor$Rule" "look" "I" ∈ hm_B := hm_Bi4 _ (List.mem_of_getElem? (i := 32) rfl)
theorem hb_193 : Cond.fieldLink RX4 33 "HarbourlightMonitor$Rule" "w" "I" ∈ hm_B := hm_Bi4 _ (List.mem_of_getElem? (i := 33) rfl)
theorem hb_194 : Cond.fieldLink RX4 36 "HarbourlightMonitor$Rule" "way" "I" ∈ hm_B := hm_Bi4 _ (List.mem_of_getElem? (i := 34) rfl)
theorem hb_195 : Cond.methodLink RL 30 yX6_setRule ∈ hm_B := hm_Bi4 _ (List.mem_of_getElem? (i := 35) rfl)
theorem hb_196 : Cond.instanceMethod yX6_setRule ∈ hm_B := hm_Bi4 _ (List.mem_of_getElem? (i := 36) rfl)
theorem hb_197 : Cond.selects RX6 yX6_setRule yX6_setRule ∈ hm_B := hm_Bi4 _ (List.mem_of_getElem? (i := 37) rfl)
theorem hb_198 : Cond.code yX6_setRule cX6_setRule 7 (some .int) ∈ hm_B := hm_Bi4 _ (List.mem_of_getElem? (i := 38) rfl)
theorem hb_199 : Cond.fieldLink RX6 140 "HarbourlightMonitor$Rule" "wait" "I" ∈ hm_B := hm_Bi4 _ (List.mem_of_getElem? (i := 39) rfl)
theorem hb_200 : Cond.fieldLink RX6 143 "HarbourlightMonitor$Rule" "rank" "I" ∈ hm_B := hm_Bi5 _ (List.mem_of_getElem? (i := 0) rfl)
theorem hb_201 : Cond.methodLink RX6 132 yX6_requireRule ∈ hm_B := hm_Bi5 _ (List.mem_of_getElem? (i := 1) rfl)
theorem hb_202 : Cond.instanceMethod yX6_requireRule ∈ hm_B := hm_Bi5 _ (List.mem_of_getElem? (i := 2) rfl)
theorem hb_203 : Cond.selects RX6 yX6_requireRule yX6_requireRule ∈ hm_B := hm_Bi5 _ (List.mem_of_getElem? (i := 3) rfl)
theorem hb_204 : Cond.code yX6_requireRule cX6_requireRule 2 (some (.object "HarbourlightMonitor$Rule")) ∈ hm_B := hm_Bi5 _ (List.mem_of_getElem? (i := 4) rfl)
theorem hb_205 : Cond.classLink RX6 248 "java/lang/IndexOutOfBoundsException" ∈ hm_B := hm_Bi5 _ (List.mem_of_getElem? (i := 5) rfl)
theorem hb_206 : Cond.initialized "java/lang/IndexOutOfBoundsException" ∈ hm_B := hm_Bi5 _ (List.mem_of_getElem? (i := 6) rfl)
theorem hb_207 : Cond.classLink RX6 120 "HarbourlightMonitor$Rule" ∈ hm_B := hm_Bi5 _ (List.mem_of_getElem? (i := 7) rfl)
theorem hb_208 : Cond.methodLink RX6 180 yJx4a65c_get_915e3 ∈ hm_B := hm_Bi5 _ (List.mem_of_getElem? (i := 8) rfl)
theorem hb_209 : Cond.instanceMethod yJx4a65c_get_915e3 ∈ hm_B := hm_Bi5 _ (List.mem_of_getElem? (i := 9) rfl)
theorem hb_210 : Cond.selects RJx4a65c yJx4a65c_get_915e3 yJx4a65c_get_915e3 ∈ hm_B := hm_Bi5 _ (List.mem_of_getElem? (i := 10) rfl)
theorem hb_211 : Cond.code yJx4a65c_get_915e3 cJx4a65c_get_915e3 2 (some (.object "java/lang/Object")) ∈ hm_B := hm_Bi5 _ (List.mem_of_getElem? (i := 11) rfl)
theorem hb_212 : Cond.methodLink RJx4a65c 118 yJ15_checkIndex_7cf53 ∈ hm_B := hm_Bi5 _ (List.mem_of_getElem? (i := 12) rfl)
theorem hb_213 : Cond.static yJ15_checkIndex_7cf53 ∈ hm_B := hm_Bi5 _ (List.mem_of_getElem? (i := 13) rfl)
theorem hb_214 : Cond.initialized RJ15 ∈ hm_B := hm_Bi5 _ (List.mem_of_getElem? (i := 14) rfl)
theorem hb_215 : Cond.code yJ15_checkIndex_7cf53 cJ15_checkIndex_7cf53 2 (some .int) ∈ hm_B := hm_Bi5 _ (List.mem_of_getElem? (i := 15) rfl)
theorem hb_216 : Cond.methodLink RJ15 105 yJ3_checkIndex_8e157 ∈ hm_B := hm_Bi5 _ (List.mem_of_getElem? (i := 16) rfl)
theorem hb_217 : Cond.static yJ3_checkIndex_8e157 ∈ hm_B := hm_Bi5 _ (List.mem_of_getElem? (i := 17) rfl)
theorem hb_218 : Cond.initialized RJ3 ∈ hm_B := hm_Bi5 _ (List.mem_of_getElem? (i := 18) rfl)
theorem hb_219 : Cond.code yJ3_checkIndex_8e157 cJ3_checkIndex_8e157 3 (some .int) ∈ hm_B := hm_Bi5 _ (List.mem_of_getElem? (i := 19) rfl)
theorem hb_220 : Cond.methodLink RJx4a65c 123 yJx4a65c_elementData_915e3 ∈ hm_B := hm_Bi5 _ (List.mem_of_getElem? (i := 20) rfl)
theorem hb_221 : Cond.instanceMethod yJx4a65c_elementData_915e3 ∈ hm_B := hm_Bi5 _ (List.mem_of_getElem? (i := 21) rfl)
theorem hb_222 : Cond.selects RJx4a65c yJx4a65c_elementData_915e3 yJx4a65c_elementData_915e3 ∈ hm_B := hm_Bi5 _ (List.mem_of_getElem? (i := 22) rfl)
theorem hb_223 : Cond.code yJx4a65c_elementData_915e3 cJx4a65c_elementData_915e3 2 (some (.object "java/lang/Object")) ∈ hm_B := hm_Bi5 _ (List.mem_of_getElem? (i := 23) rfl)
theorem hb_224 : Cond.methodLink RL 34 yX6_group ∈ hm_B := hm_Bi5 _ (List.mem_of_getElem? (i := 24) rfl)
theorem hb_225 : Cond.instanceMethod yX6_group ∈ hm_B := hm_Bi5 _ (List.mem_of_getElem? (i := 25) rfl)
theorem hb_226 : Cond.selects RX6 yX6_group yX6_group ∈ hm_B := hm_Bi5 _ (List.mem_of_getElem? (i := 26) rfl)
theorem hb_227 : Cond.code yX6_group cX6_group 4 (some .int) ∈ hm_B := hm_Bi5 _ (List.mem_of_getElem? (i := 27) rfl)
theorem hb_228 : Cond.methodLink RX6 174 yX6_forgetGroups ∈ hm_B := hm_Bi5 _ (List.mem_of_getElem? (i := 28) rfl)
theorem hb_229 : Cond.instanceMethod yX6_forgetGroups ∈ hm_B := hm_Bi5 _ (List.mem_of_getElem? (i := 29) rfl)
theorem hb_230 : Cond.selects RX6 yX6_forgetGroups yX6_forgetGroups ∈ hm_B := hm_Bi5 _ (List.mem_of_getElem? (i := 30) rfl)
theorem hb_231 : Cond.code yX6_forgetGroups cX6_forgetGroups 2 none ∈ hm_B := hm_Bi5 _ (List.mem_of_getElem? (i := 31) rfl)
theorem hb_232 : Cond.methodLink RX6 401 yX1_forget ∈ hm_B := hm_Bi5 _ (List.mem_of_getElem? (i := 32) rfl)
theorem hb_233 : Cond.instanceMethod yX1_forget ∈ hm_B := hm_Bi5 _ (List.mem_of_getElem? (i := 33) rfl)
theorem hb_234 : Cond.selects RX1 yX1_forget yX1_forget ∈ hm_B := hm_Bi5 _ (List.mem_of_getElem? (i := 34) rfl)
theorem hb_235 : Cond.code yX1_forget cX1_forget 2 none ∈ hm_B := hm_Bi5 _ (List.mem_of_getElem? (i := 35) rfl)
theorem hb_236 : Cond.methodLink RL 37 yX6_tell ∈ hm_B := hm_Bi5 _ (List.mem_of_getElem? (i := 36) rfl)
theorem hb_237 : Cond.instanceMethod yX6_tell ∈ hm_B := hm_Bi5 _ (List.mem_of_getElem? (i := 37) rfl)
theorem hb_238 : Cond.selects RX6 yX6_tell yX6_tell ∈ hm_B := hm_Bi5 _ (List.mem_of_getElem? (i := 38) rfl)
theorem hb_239 : Cond.code yX6_tell cX6_tell 5 (some .int) ∈ hm_B := hm_Bi5 _ (List.mem_of_getElem? (i := 39) rfl)
theorem hb_240 : Cond.fieldLink RX6 92 "HarbourlightMonitor$Series" "kind" "I" ∈ hm_B := hm_Bi6 _ (List.mem_of_getElem? (i := 0) rfl)
theorem hb_241 : Cond.fieldLink RX6 100 "HarbourlightMonitor$Series" "present" "[I" ∈ hm_B := hm_Bi6 _ (List.mem_of_getElem? (i := 1) rfl)
theorem hb_242 : Cond.methodLink RX6 88 yX6_requireSeries ∈ hm_B := hm_Bi6 _ (List.mem_of_getElem? (i := 2) rfl)
theorem hb_243 : Cond.instanceMethod yX6_requireSeries ∈ hm_B := hm_Bi6 _ (List.mem_of_getElem? (i := 3) rfl)
theorem hb_244 : Cond.selects RX6 yX6_requireSeries yX6_requireSeries ∈ hm_B := hm_Bi6 _ (List.mem_of_getElem? (i := 4) rfl)
theorem hb_245 : Cond.code yX6_requireSeries cX6_requireSeries 2 (some (.object "HarbourlightMonitor$Series")) ∈ hm_B := hm_Bi6 _ (List.mem_of_getElem? (i := 5) rfl)
theorem hb_246 : Cond.classLink RX6 79 "HarbourlightMonitor$Series" ∈ hm_B := hm_Bi6 _ (List.mem_of_getElem? (i := 6) rfl)
theorem hb_247 : Cond.methodLink RX6 97 yX5_take ∈ hm_B := hm_Bi6 _ (List.mem_of_getElem? (i := 7) rfl)
theorem hb_248 : Cond.instanceMethod yX5_take ∈ hm_B := hm_Bi6 _ (List.mem_of_getElem? (i := 8) rfl)
theorem hb_249 : Cond.selects RX5 yX5_take yX5_take ∈ hm_B := hm_Bi6 _ (List.mem_of_getElem? (i := 9) rfl)
theorem hb_250 : Cond.code yX5_take cX5_take 2 none ∈ hm_B := hm_Bi6 _ (List.mem_of_getElem? (i := 10) rfl)
theorem hb_251 : Cond.methodLink RX5 39 yX5_columnFor ∈ hm_B := hm_Bi6 _ (List.mem_of_getElem? (i := 11) rfl)
theorem hb_252 : Cond.static yX5_columnFor ∈ hm_B := hm_Bi6 _ (List.mem_of_getElem? (i := 12) rfl)
theorem hb_253 : Cond.code yX5_columnFor cX5_columnFor 2 (some .int) ∈ hm_B := hm_Bi6 _ (List.mem_of_getElem? (i := 13) rfl)
theorem hb_254 : Cond.methodLink RL 40 yX6_reset ∈ hm_B := hm_Bi6 _ (List.mem_of_getElem? (i := 14) rfl)
theorem hb_255 : Cond.instanceMethod yX6_reset ∈ hm_B := hm_Bi6 _ (List.mem_of_getElem? (i := 15) rfl)
theorem hb_256 : Cond.selects RX6 yX6_reset yX6_reset ∈ hm_B := hm_Bi6 _ (List.mem_of_getElem? (i := 16) rfl)
theorem hb_257 : Cond.code yX6_reset cX6_reset 4 (some .int) ∈ hm_B := hm_Bi6 _ (List.mem_of_getElem? (i := 17) rfl)
theorem hb_258 : Cond.methodLink RX6 104 yX5_beginAnew ∈ hm_B := hm_Bi6 _ (List.mem_of_getElem? (i := 18) rfl)
theorem hb_259 : Cond.instanceMethod yX5_beginAnew ∈ hm_B := hm_Bi6 _ (List.mem_of_getElem? (i := 19) rfl)
theorem hb_260 : Cond.selects RX5 yX5_beginAnew yX5_beginAnew ∈ hm_B := hm_Bi6 _ (List.mem_of_getElem? (i := 20) rfl)
theorem hb_261 : Cond.code yX5_beginAnew cX5_beginAnew 2 none ∈ hm_B := hm_Bi6 _ (List.mem_of_getElem? (i := 21) rfl)
theorem hb_262 : Cond.methodLink RL 44 yX6_many ∈ hm_B := hm_Bi6 _ (List.mem_of_getElem? (i := 22) rfl)
theorem hb_263 : Cond.instanceMethod yX6_many ∈ hm_B := hm_Bi6 _ (List.mem_of_getElem? (i := 23) rfl)
theorem hb_264 : Cond.selects RX6 yX6_many yX6_many ∈ hm_B := hm_Bi6 _ (List.mem_of_getElem? (i := 24) rfl)
theorem hb_265 : Cond.code yX6_many cX6_many 2 (some .int) ∈ hm_B := hm_Bi6 _ (List.mem_of_getElem? (i := 25) rfl)
theorem hb_266 : Cond.fieldLink RX6 200 "HarbourlightMonitor$NoticeLog" "ever" "I" ∈ hm_B := hm_Bi6 _ (List.mem_of_getElem? (i := 26) rfl)
theorem hb_267 : Cond.methodLink RX6 193 yX6_countAlerts ∈ hm_B := hm_Bi6 _ (List.mem_of_getElem? (i := 27) rfl)
theorem hb_268 : Cond.instanceMethod yX6_countAlerts ∈ hm_B := hm_Bi6 _ (List.mem_of_getElem? (i := 28) rfl)
theorem hb_269 : Cond.selects RX6 yX6_countAlerts yX6_countAlerts ∈ hm_B := hm_Bi6 _ (List.mem_of_getElem? (i := 29) rfl)
theorem hb_270 : Cond.code yX6_countAlerts cX6_countAlerts 4 (some .int) ∈ hm_B := hm_Bi6 _ (List.mem_of_getElem? (i := 30) rfl)
theorem hb_271 : Cond.methodLink RX6 245 yX4_countAlertsFrom ∈ hm_B := hm_Bi6 _ (List.mem_of_getElem? (i := 31) rfl)
theorem hb_272 : Cond.instanceMethod yX4_countAlertsFrom ∈ hm_B := hm_Bi6 _ (List.mem_of_getElem? (i := 32) rfl)
theorem hb_273 : Cond.selects RX4 yX4_countAlertsFrom yX4_countAlertsFrom ∈ hm_B := hm_Bi6 _ (List.mem_of_getElem? (i := 33) rfl)
theorem hb_274 : Cond.code yX4_countAlertsFrom cX4_countAlertsFrom 4 (some .int) ∈ hm_B := hm_Bi6 _ (List.mem_of_getElem? (i := 34) rfl)
theorem hb_275 : Cond.fieldLink RX4 59 "HarbourlightMonitor$Alert" "state" "I" ∈ hm_B := hm_Bi6 _ (List.mem_of_getElem? (i := 35) rfl)
theorem hb_276 : Cond.methodLink RX6 197 yX6_countLoud ∈ hm_B := hm_Bi6 _ (List.mem_of_getElem? (i := 36) rfl)
theorem hb_277 : Cond.instanceMethod yX6_countLoud ∈ hm_B := hm_Bi6 _ (List.mem_of_getElem? (i := 37) rfl)
theorem hb_278 : Cond.selects RX6 yX6_countLoud yX6_countLoud ∈ hm_B := hm_Bi6 _ (List.mem_of_getElem? (i := 38) rfl)
theorem hb_279 : Cond.code yX6_countLoud cX6_countLoud 6 (some .int) ∈ hm_B := hm_Bi6 _ (List.mem_of_getElem? (i := 39) rfl)
theorem hb_280 : Cond.methodLink RX6 239 yX6_hearing ∈ hm_B := hm_Bi7 _ (List.mem_of_getElem? (i := 0) rfl)
theorem hb_281 : Cond.instanceMethod yX6_hearing ∈ hm_B := hm_Bi7 _ (List.mem_of_getElem? (i := 1) rfl)
theorem hb_282 : Cond.selects RX6 yX6_hearing yX6_hearing ∈ hm_B := hm_Bi7 _ (List.mem_of_getElem? (i := 2) rfl)
theorem hb_283 : Cond.code yX6_hearing cX6_hearing 5 (some .int) ∈ hm_B := hm_Bi7 _ (List.mem_of_getElem? (i := 3) rfl)
theorem hb_284 : Cond.fieldLink RX6 253 "HarbourlightMonitor$Rule" "number" "I" ∈ hm_B := hm_Bi7 _ (List.mem_of_getElem? (i := 4) rfl)
theorem hb_285 : Cond.methodLink RX6 385 yX4_burns ∈ hm_B := hm_Bi7 _ (List.mem_of_getElem? (i := 5) rfl)
theorem hb_286 : Cond.instanceMethod yX4_burns ∈ hm_B := hm_Bi7 _ (List.mem_of_getElem? (i := 6) rfl)
theorem hb_287 : Cond.selects RX4 yX4_burns yX4_burns ∈ hm_B := hm_Bi7 _ (List.mem_of_getElem? (i := 7) rfl)
theorem hb_288 : Cond.code yX4_burns cX4_burns 3 (some .boolean) ∈ hm_B := hm_Bi7 _ (List.mem_of_getElem? (i := 8) rfl)
theorem hb_289 : Cond.methodLink RX4 55 yX4_alertOf ∈ hm_B := hm_Bi7 _ (List.mem_of_getElem? (i := 9) rfl)
theorem hb_290 : Cond.instanceMethod yX4_alertOf ∈ hm_B := hm_Bi7 _ (List.mem_of_getElem? (i := 10) rfl)
theorem hb_291 : Cond.selects RX4 yX4_alertOf yX4_alertOf ∈ hm_B := hm_Bi7 _ (List.mem_of_getElem? (i := 11) rfl)
theorem hb_292 : Cond.code yX4_alertOf cX4_alertOf 2 (some (.object "HarbourlightMonitor$Alert")) ∈ hm_B := hm_Bi7 _ (List.mem_of_getElem? (i := 12) rfl)
theorem hb_293 : Cond.methodLink RX6 256 yX6_placeOf ∈ hm_B := hm_Bi7 _ (List.mem_of_getElem? (i := 13) rfl)
theorem hb_294 : Cond.instanceMethod yX6_placeOf ∈ hm_B := hm_Bi7 _ (List.mem_of_getElem? (i := 14) rfl)
theorem hb_295 : Cond.selects RX6 yX6_placeOf yX6_placeOf ∈ hm_B := hm_Bi7 _ (List.mem_of_getElem? (i := 15) rfl)
theorem hb_296 : Cond.code yX6_placeOf cX6_placeOf 3 (some .int) ∈ hm_B := hm_Bi7 _ (List.mem_of_getElem? (i := 16) rfl)
theorem hb_297 : Cond.fieldLink RX6 373 "HarbourlightMonitor$Rule" "way" "I" ∈ hm_B := hm_Bi7 _ (List.mem_of_getElem? (i := 17) rfl)
theorem hb_298 : Cond.fieldLink RX6 376 "HarbourlightMonitor$Series" "place" "I" ∈ hm_B := hm_Bi7 _ (List.mem_of_getElem? (i := 18) rfl)
theorem hb_299 : Cond.methodLink RX6 389 yX6_isHushed ∈ hm_B := hm_Bi7 _ (List.mem_of_getElem? (i := 19) rfl)
theorem hb_300 : Cond.instanceMethod yX6_isHushed ∈ hm_B := hm_Bi7 _ (List.mem_of_getElem? (i := 20) rfl)
theorem hb_301 : Cond.selects RX6 yX6_isHushed yX6_isHushed ∈ hm_B := hm_Bi7 _ (List.mem_of_getElem? (i := 21) rfl)
theorem hb_302 : Cond.code yX6_isHushed cX6_isHushed 5 (some .boolean) ∈ hm_B := hm_Bi7 _ (List.mem_of_getElem? (i := 22) rfl)
theorem hb_303 : Cond.classLink RX6 161 "HarbourlightMonitor$Hush" ∈ hm_B := hm_Bi7 _ (List.mem_of_getElem? (i := 23) rfl)
theorem hb_304 : Cond.methodLink RX6 395 yX2_covers ∈ hm_B := hm_Bi7 _ (List.mem_of_getElem? (i := 24) rfl)
theorem hb_305 : Cond.instanceMethod yX2_covers ∈ hm_B := hm_Bi7 _ (List.mem_of_getElem? (i := 25) rfl)
theorem hb_306 : Cond.selects RX2 yX2_covers yX2_covers ∈ hm_B := hm_Bi7 _ (List.mem_of_getElem? (i := 26) rfl)
theorem hb_307 : Cond.initialized RX2 ∈ hm_B := hm_Bi7 _ (List.mem_of_getElem? (i := 27) rfl)
theorem hb_308 : Cond.code yX2_covers cX2_covers 4 (some .boolean) ∈ hm_B := hm_Bi7 _ (List.mem_of_getElem? (i := 28) rfl)
theorem hb_309 : Cond.fieldLink RX2 18 "HarbourlightMonitor$Hush" "till" "I" ∈ hm_B := hm_Bi7 _ (List.mem_of_getElem? (i := 29) rfl)
theorem hb_310 : Cond.fieldLink RX2 9 "HarbourlightMonitor$Hush" "rule" "I" ∈ hm_B := hm_Bi7 _ (List.mem_of_getElem? (i := 30) rfl)
theorem hb_311 : Cond.fieldLink RX2 15 "HarbourlightMonitor$Hush" "place" "I" ∈ hm_B := hm_Bi7 _ (List.mem_of_getElem? (i := 31) rfl)
theorem hb_312 : Cond.methodLink RX6 392 yX6_isQuiet ∈ hm_B := hm_Bi7 _ (List.mem_of_getElem? (i := 32) rfl)
theorem hb_313 : Cond.instanceMethod yX6_isQuiet ∈ hm_B := hm_Bi7 _ (List.mem_of_getElem? (i := 33) rfl)
theorem hb_314 : Cond.selects RX6 yX6_isQuiet yX6_isQuiet ∈ hm_B := hm_Bi7 _ (List.mem_of_getElem? (i := 34) rfl)
theorem hb_315 : Cond.code yX6_isQuiet cX6_isQuiet 9 (some .boolean) ∈ hm_B := hm_Bi7 _ (List.mem_of_getElem? (i := 35) rfl)
theorem hb_316 : Cond.methodLink RL 47 yX6_hush ∈ hm_B := hm_Bi7 _ (List.mem_of_getElem? (i := 36) rfl)
theorem hb_317 : Cond.instanceMethod yX6_hush ∈ hm_B := hm_Bi7 _ (List.mem_of_getElem? (i := 37) rfl)
theorem hb_318 : Cond.selects RX6 yX6_hush yX6_hush ∈ hm_B := hm_Bi7 _ (List.mem_of_getElem? (i := 38) rfl)
theorem hb_319 : Cond.code yX6_hush cX6_hush 5 (some .int) ∈ hm_B := hm_Bi7 _ (List.mem_of_getElem? (i := 39) rfl)
theorem hb_320 : Cond.classLink RX6 161 RX2 ∈ hm_B := hm_Bi8 _ (List.mem_of_getElem? (i := 0) rfl)
theorem hb_321 : Cond.instantiable RX2 3 ∈ hm_B := hm_Bi8 _ (List.mem_of_getElem? (i := 1) rfl)
theorem hb_322 : Cond.methodLink RX6 163 yX2_init ∈ hm_B := hm_Bi8 _ (List.mem_of_getElem? (i := 2) rfl)
theorem hb_323 : Cond.instanceMethod yX2_init ∈ hm_B := hm_Bi8 _ (List.mem_of_getElem? (i := 3) rfl)
theorem hb_324 : Cond.code yX2_init cX2_init 4 none ∈ hm_B := hm_Bi8 _ (List.mem_of_getElem? (i := 4) rfl)
theorem hb_325 : Cond.methodLink RX2 3 objectInit ∈ hm_B := hm_Bi8 _ (List.mem_of_getElem? (i := 5) rfl)
theorem hb_326 : Cond.methodLink RL 50 yX6_burningIn ∈ hm_B := hm_Bi8 _ (List.mem_of_getElem? (i := 6) rfl)
theorem hb_327 : Cond.instanceMethod yX6_burningIn ∈ hm_B := hm_Bi8 _ (List.mem_of_getElem? (i := 7) rfl)
theorem hb_328 : Cond.selects RX6 yX6_burningIn yX6_burningIn ∈ hm_B := hm_Bi8 _ (List.mem_of_getElem? (i := 8) rfl)
theorem hb_329 : Cond.code yX6_burningIn cX6_burningIn 6 (some .int) ∈ hm_B := hm_Bi8 _ (List.mem_of_getElem? (i := 9) rfl)
theorem hb_330 : Cond.methodLink RX6 177 yX6_requireTicks ∈ hm_B := hm_Bi8 _ (List.mem_of_getElem? (i := 10) rfl)
theorem hb_331 : Cond.static yX6_requireTicks ∈ hm_B := hm_Bi8 _ (List.mem_of_getElem? (i := 11) rfl)
theorem hb_332 : Cond.code yX6_requireTicks cX6_requireTicks 1 none ∈ hm_B := hm_Bi8 _ (List.mem_of_getElem? (i := 12) rfl)
theorem hb_333 : Cond.methodLink RX6 282 yX6_wouldBurn ∈ hm_B := hm_Bi8 _ (List.mem_of_getElem? (i := 13) rfl)
theorem hb_334 : Cond.instanceMethod yX6_wouldBurn ∈ hm_B := hm_Bi8 _ (List.mem_of_getElem? (i := 14) rfl)
theorem hb_335 : Cond.selects RX6 yX6_wouldBurn yX6_wouldBurn ∈ hm_B := hm_Bi8 _ (List.mem_of_getElem? (i := 15) rfl)
theorem hb_336 : Cond.code yX6_wouldBurn cX6_wouldBurn 6 (some .boolean) ∈ hm_B := hm_Bi8 _ (List.mem_of_getElem? (i := 16) rfl)
theorem hb_337 : Cond.fieldLink RX6 233 "HarbourlightMonitor$Alert" "state" "I" ∈ hm_B := hm_Bi8 _ (List.mem_of_getElem? (i := 17) rfl)
theorem hb_338 : Cond.methodLink RX6 229 yX4_alertOf ∈ hm_B := hm_Bi8 _ (List.mem_of_getElem? (i := 18) rfl)
theorem hb_339 : Cond.methodLink RX6 286 yX6_hasKey ∈ hm_B := hm_Bi8 _ (List.mem_of_getElem? (i := 19) rfl)
theorem hb_340 : Cond.instanceMethod yX6_hasKey ∈ hm_B := hm_Bi8 _ (List.mem_of_getElem? (i := 20) rfl)
theorem hb_341 : Cond.selects RX6 yX6_hasKey yX6_hasKey ∈ hm_B := hm_Bi8 _ (List.mem_of_getElem? (i := 21) rfl)
theorem hb_342 : Cond.code yX6_hasKey cX6_hasKey 4 (some .boolean) ∈ hm_B := hm_Bi8 _ (List.mem_of_getElem? (i := 22) rfl)
theorem hb_343 : Cond.methodLink RX6 364 yX4_takes ∈ hm_B := hm_Bi8 _ (List.mem_of_getElem? (i := 23) rfl)
theorem hb_344 : Cond.instanceMethod yX4_takes ∈ hm_B := hm_Bi8 _ (List.mem_of_getElem? (i := 24) rfl)
theorem hb_345 : Cond.selects RX4 yX4_takes yX4_takes ∈ hm_B := hm_Bi8 _ (List.mem_of_getElem? (i := 25) rfl)
theorem hb_346 : Cond.code yX4_takes cX4_takes 3 (some .boolean) ∈ hm_B := hm_Bi8 _ (List.mem_of_getElem? (i := 26) rfl)
theorem hb_347 : Cond.fieldLink RX4 40 "HarbourlightMonitor$Series" "metric" "I" ∈ hm_B := hm_Bi8 _ (List.mem_of_getElem? (i := 27) rfl)
theorem hb_348 : Cond.fieldLink RX4 43 "HarbourlightMonitor$Series" "number" "I" ∈ hm_B := hm_Bi8 _ (List.mem_of_getElem? (i := 28) rfl)
theorem hb_349 : Cond.fieldLink RX4 44 "HarbourlightMonitor$Series" "place" "I" ∈ hm_B := hm_Bi8 _ (List.mem_of_getElem? (i := 29) rfl)
theorem hb_350 : Cond.methodLink RX6 381 yX0_become ∈ hm_B := hm_Bi8 _ (List.mem_of_getElem? (i := 30) rfl)
theorem hb_351 : Cond.instanceMethod yX0_become ∈ hm_B := hm_Bi8 _ (List.mem_of_getElem? (i := 31) rfl)
theorem hb_352 : Cond.selects RX0 yX0_become yX0_become ∈ hm_B := hm_Bi8 _ (List.mem_of_getElem? (i := 32) rfl)
theorem hb_353 : Cond.code yX0_become cX0_become 2 none ∈ hm_B := hm_Bi8 _ (List.mem_of_getElem? (i := 33) rfl)
theorem hb_354 : Cond.methodLink RX6 223 yX6_lookedAt ∈ hm_B := hm_Bi8 _ (List.mem_of_getElem? (i := 34) rfl)
theorem hb_355 : Cond.instanceMethod yX6_lookedAt ∈ hm_B := hm_Bi8 _ (List.mem_of_getElem? (i := 35) rfl)
theorem hb_356 : Cond.selects RX6 yX6_lookedAt yX6_lookedAt ∈ hm_B := hm_Bi8 _ (List.mem_of_getElem? (i := 36) rfl)
theorem hb_357 : Cond.code yX6_lookedAt cX6_lookedAt 7 (some .int) ∈ hm_B := hm_Bi8 _ (List.mem_of_getElem? (i := 37) rfl)
theorem hb_358 : Cond.fieldLink RX6 368 "HarbourlightMonitor$Rule" "look" "I" ∈ hm_B := hm_Bi8 _ (List.mem_of_getElem? (i := 38) rfl)
theorem hb_359 : Cond.fieldLink RX6 370 "HarbourlightMonitor$Rule" "w" "I" ∈ hm_B := hm_Bi8 _ (List.mem_of_getElem? (i := 39) rfl)
theorem hb_360 : Cond.methodLink RX6 214 yX5_lookOver ∈ hm_B := hm_Bi9 _ (List.mem_of_getElem? (i := 0) rfl)
theorem hb_361 : Cond.instanceMethod yX5_lookOver ∈ hm_B := hm_Bi9 _ (List.mem_of_getElem? (i := 1) rfl)
theorem hb_362 : Cond.selects RX5 yX5_lookOver yX5_lookOver ∈ hm_B := hm_Bi9 _ (List.mem_of_getElem? (i := 2) rfl)
theorem hb_363 : Cond.code yX5_lookOver cX5_lookOver 4 (some .int) ∈ hm_B := hm_Bi9 _ (List.mem_of_getElem? (i := 3) rfl)
theorem hb_364 : Cond.methodLink RX5 58 yX5_past ∈ hm_B := hm_Bi9 _ (List.mem_of_getElem? (i := 4) rfl)
theorem hb_365 : Cond.instanceMethod yX5_past ∈ hm_B := hm_Bi9 _ (List.mem_of_getElem? (i := 5) rfl)
theorem hb_366 : Cond.selects RX5 yX5_past yX5_past ∈ hm_B := hm_Bi9 _ (List.mem_of_getElem? (i := 6) rfl)
theorem hb_367 : Cond.code yX5_past cX5_past 5 (some .int) ∈ hm_B := hm_Bi9 _ (List.mem_of_getElem? (i := 7) rfl)
theorem hb_368 : Cond.methodLink RX5 62 yX5_growthOf ∈ hm_B := hm_Bi9 _ (List.mem_of_getElem? (i := 8) rfl)
theorem hb_369 : Cond.instanceMethod yX5_growthOf ∈ hm_B := hm_Bi9 _ (List.mem_of_getElem? (i := 9) rfl)
theorem hb_370 : Cond.selects RX5 yX5_growthOf yX5_growthOf ∈ hm_B := hm_Bi9 _ (List.mem_of_getElem? (i := 10) rfl)
theorem hb_371 : Cond.code yX5_growthOf cX5_growthOf 8 (some .int) ∈ hm_B := hm_Bi9 _ (List.mem_of_getElem? (i := 11) rfl)
theorem hb_372 : Cond.methodLink RX5 46 Lib.Math.min.name ∈ hm_B := hm_Bi9 _ (List.mem_of_getElem? (i := 12) rfl)
theorem hb_373 : Cond.methodLink RX5 65 yX5_meanOver ∈ hm_B := hm_Bi9 _ (List.mem_of_getElem? (i := 13) rfl)
theorem hb_374 : Cond.instanceMethod yX5_meanOver ∈ hm_B := hm_Bi9 _ (List.mem_of_getElem? (i := 14) rfl)
theorem hb_375 : Cond.selects RX5 yX5_meanOver yX5_meanOver ∈ hm_B := hm_Bi9 _ (List.mem_of_getElem? (i := 15) rfl)
theorem hb_376 : Cond.code yX5_meanOver cX5_meanOver 6 (some .int) ∈ hm_B := hm_Bi9 _ (List.mem_of_getElem? (i := 16) rfl)
theorem hb_377 : Cond.methodLink RX5 68 yX5_utmostOver ∈ hm_B := hm_Bi9 _ (List.mem_of_getElem? (i := 17) rfl)
theorem hb_378 : Cond.instanceMethod yX5_utmostOver ∈ hm_B := hm_Bi9 _ (List.mem_of_getElem? (i := 18) rfl)
theorem hb_379 : Cond.selects RX5 yX5_utmostOver yX5_utmostOver ∈ hm_B := hm_Bi9 _ (List.mem_of_getElem? (i := 19) rfl)
theorem hb_380 : Cond.code yX5_utmostOver cX5_utmostOver 8 (some .int) ∈ hm_B := hm_Bi9 _ (List.mem_of_getElem? (i := 20) rfl)
theorem hb_381 : Cond.methodLink RX5 78 Lib.Math.max.name ∈ hm_B := hm_Bi9 _ (List.mem_of_getElem? (i := 21) rfl)
theorem hb_382 : Cond.methodLink RX5 75 yX5_partOver ∈ hm_B := hm_Bi9 _ (List.mem_of_getElem? (i := 22) rfl)
theorem hb_383 : Cond.instanceMethod yX5_partOver ∈ hm_B := hm_Bi9 _ (List.mem_of_getElem? (i := 23) rfl)
theorem hb_384 : Cond.selects RX5 yX5_partOver yX5_partOver ∈ hm_B := hm_Bi9 _ (List.mem_of_getElem? (i := 24) rfl)
theorem hb_385 : Cond.code yX5_partOver cX5_partOver 10 (some .int) ∈ hm_B := hm_Bi9 _ (List.mem_of_getElem? (i := 25) rfl)
theorem hb_386 : Cond.methodLink RX6 290 yX4_isBeyond ∈ hm_B := hm_Bi9 _ (List.mem_of_getElem? (i := 26) rfl)
theorem hb_387 : Cond.instanceMethod yX4_isBeyond ∈ hm_B := hm_Bi9 _ (List.mem_of_getElem? (i := 27) rfl)
theorem hb_388 : Cond.selects RX4 yX4_isBeyond yX4_isBeyond ∈ hm_B := hm_Bi9 _ (List.mem_of_getElem? (i := 28) rfl)
theorem hb_389 : Cond.code yX4_isBeyond cX4_isBeyond 3 (some .boolean) ∈ hm_B := hm_Bi9 _ (List.mem_of_getElem? (i := 29) rfl)
theorem hb_390 : Cond.fieldLink RX4 47 "HarbourlightMonitor$Rule" "isAbove" "Z" ∈ hm_B := hm_Bi9 _ (List.mem_of_getElem? (i := 30) rfl)
theorem hb_391 : Cond.methodLink RX6 377 yX0_step ∈ hm_B := hm_Bi9 _ (List.mem_of_getElem? (i := 31) rfl)
theorem hb_392 : Cond.instanceMethod yX0_step ∈ hm_B := hm_Bi9 _ (List.mem_of_getElem? (i := 32) rfl)
theorem hb_393 : Cond.selects RX0 yX0_step yX0_step ∈ hm_B := hm_Bi9 _ (List.mem_of_getElem? (i := 33) rfl)
theorem hb_394 : Cond.code yX0_step cX0_step 4 none ∈ hm_B := hm_Bi9 _ (List.mem_of_getElem? (i := 34) rfl)
theorem hb_395 : Cond.methodLink RX0 21 yX0_rise ∈ hm_B := hm_Bi9 _ (List.mem_of_getElem? (i := 35) rfl)
theorem hb_396 : Cond.instanceMethod yX0_rise ∈ hm_B := hm_Bi9 _ (List.mem_of_getElem? (i := 36) rfl)
theorem hb_397 : Cond.selects RX0 yX0_rise yX0_rise ∈ hm_B := hm_Bi9 _ (List.mem_of_getElem? (i := 37) rfl)
theorem hb_398 : Cond.code yX0_rise cX0_rise 3 none ∈ hm_B := hm_Bi9 _ (List.mem_of_getElem? (i := 38) rfl)
theorem hb_399 : Cond.methodLink RX0 25 yX0_fall ∈ hm_B := hm_Bi9 _ (List.mem_of_getElem? (i := 39) rfl)
theorem hb_400 : Cond.instanceMethod yX0_fall ∈ hm_B := hm_Bi10 _ (List.mem_of_getElem? (i := 0) rfl)
theorem hb_401 : Cond.selects RX0 yX0_fall yX0_fall ∈ hm_B := hm_Bi10 _ (List.mem_of_getElem? (i := 1) rfl)
theorem hb_402 : Cond.code yX0_fall cX0_fall 1 none ∈ hm_B := hm_Bi10 _ (List.mem_of_getElem? (i := 2) rfl)
theorem hb_403 : Cond.methodLink RL 53 yX6_tick ∈ hm_B := hm_Bi10 _ (List.mem_of_getElem? (i := 3) rfl)
theorem hb_404 : Cond.instanceMethod yX6_tick ∈ hm_B := hm_Bi10 _ (List.mem_of_getElem? (i := 4) rfl)
theorem hb_405 : Cond.selects RX6 yX6_tick yX6_tick ∈ hm_B := hm_Bi10 _ (List.mem_of_getElem? (i := 5) rfl)
theorem hb_406 : Cond.code yX6_tick cX6_tick 5 (some .int) ∈ hm_B := hm_Bi10 _ (List.mem_of_getElem? (i := 6) rfl)
theorem hb_407 : Cond.methodLink RX6 183 yX5_keepSample ∈ hm_B := hm_Bi10 _ (List.mem_of_getElem? (i := 7) rfl)
theorem hb_408 : Cond.instanceMethod yX5_keepSample ∈ hm_B := hm_Bi10 _ (List.mem_of_getElem? (i := 8) rfl)
theorem hb_409 : Cond.selects RX5 yX5_keepSample yX5_keepSample ∈ hm_B := hm_Bi10 _ (List.mem_of_getElem? (i := 9) rfl)
theorem hb_410 : Cond.code yX5_keepSample cX5_keepSample 1 none ∈ hm_B := hm_Bi10 _ (List.mem_of_getElem? (i := 10) rfl)
theorem hb_411 : Cond.methodLink RX5 52 arraycopyName ∈ hm_B := hm_Bi10 _ (List.mem_of_getElem? (i := 11) rfl)
theorem hb_412 : Cond.methodLink RX6 186 yX6_stepAlerts ∈ hm_B := hm_Bi10 _ (List.mem_of_getElem? (i := 12) rfl)
theorem hb_413 : Cond.instanceMethod yX6_stepAlerts ∈ hm_B := hm_Bi10 _ (List.mem_of_getElem? (i := 13) rfl)
theorem hb_414 : Cond.selects RX6 yX6_stepAlerts yX6_stepAlerts ∈ hm_B := hm_Bi10 _ (List.mem_of_getElem? (i := 14) rfl)
theorem hb_415 : Cond.code yX6_stepAlerts cX6_stepAlerts 4 none ∈ hm_B := hm_Bi10 _ (List.mem_of_getElem? (i := 15) rfl)
theorem hb_416 : Cond.methodLink RX6 190 yX6_sendNotices ∈ hm_B := hm_Bi10 _ (List.mem_of_getElem? (i := 16) rfl)
theorem hb_417 : Cond.instanceMethod yX6_sendNotices ∈ hm_B := hm_Bi10 _ (List.mem_of_getElem? (i := 17) rfl)
theorem hb_418 : Cond.selects RX6 yX6_sendNotices yX6_sendNotices ∈ hm_B := hm_Bi10 _ (List.mem_of_getElem? (i := 18) rfl)
theorem hb_419 : Cond.code yX6_sendNotices cX6_sendNotices 4 (some .int) ∈ hm_B := hm_Bi10 _ (List.mem_of_getElem? (i := 19) rfl)
theorem hb_420 : Cond.fieldLink RX6 427 "HarbourlightMonitor$Group" "wasLoud" "Z" ∈ hm_B := hm_Bi10 _ (List.mem_of_getElem? (i := 20) rfl)
theorem hb_421 : Cond.methodLink RX6 404 yX6_gatherLoud ∈ hm_B := hm_Bi10 _ (List.mem_of_getElem? (i := 21) rfl)
theorem hb_422 : Cond.instanceMethod yX6_gatherLoud ∈ hm_B := hm_Bi10 _ (List.mem_of_getElem? (i := 22) rfl)
theorem hb_423 : Cond.selects RX6 yX6_gatherLoud yX6_gatherLoud ∈ hm_B := hm_Bi10 _ (List.mem_of_getElem? (i := 23) rfl)
theorem hb_424 : Cond.code yX6_gatherLoud cX6_gatherLoud 5 none ∈ hm_B := hm_Bi10 _ (List.mem_of_getElem? (i := 24) rfl)
theorem hb_425 : Cond.methodLink RX6 430 yX1_clearLoud ∈ hm_B := hm_Bi10 _ (List.mem_of_getElem? (i := 25) rfl)
theorem hb_426 : Cond.instanceMethod yX1_clearLoud ∈ hm_B := hm_Bi10 _ (List.mem_of_getElem? (i := 26) rfl)
theorem hb_427 : Cond.selects RX1 yX1_clearLoud yX1_clearLoud ∈ hm_B := hm_Bi10 _ (List.mem_of_getElem? (i := 27) rfl)
theorem hb_428 : Cond.code yX1_clearLoud cX1_clearLoud 2 none ∈ hm_B := hm_Bi10 _ (List.mem_of_getElem? (i := 28) rfl)
theorem hb_429 : Cond.methodLink RX6 433 yX6_groupOf ∈ hm_B := hm_Bi10 _ (List.mem_of_getElem? (i := 29) rfl)
theorem hb_430 : Cond.instanceMethod yX6_groupOf ∈ hm_B := hm_Bi10 _ (List.mem_of_getElem? (i := 30) rfl)
theorem hb_431 : Cond.selects RX6 yX6_groupOf yX6_groupOf ∈ hm_B := hm_Bi10 _ (List.mem_of_getElem? (i := 31) rfl)
theorem hb_432 : Cond.code yX6_groupOf cX6_groupOf 4 (some .int) ∈ hm_B := hm_Bi10 _ (List.mem_of_getElem? (i := 32) rfl)
theorem hb_433 : Cond.methodLink RX6 436 yX1_addLoud ∈ hm_B := hm_Bi10 _ (List.mem_of_getElem? (i := 33) rfl)
theorem hb_434 : Cond.instanceMethod yX1_addLoud ∈ hm_B := hm_Bi10 _ (List.mem_of_getElem? (i := 34) rfl)
theorem hb_435 : Cond.selects RX1 yX1_addLoud yX1_addLoud ∈ hm_B := hm_Bi10 _ (List.mem_of_getElem? (i := 35) rfl)
theorem hb_436 : Cond.code yX1_addLoud cX1_addLoud 3 none ∈ hm_B := hm_Bi10 _ (List.mem_of_getElem? (i := 36) rfl)
theorem hb_437 : Cond.methodLink RX6 407 yX1_isDue ∈ hm_B := hm_Bi10 _ (List.mem_of_getElem? (i := 37) rfl)
theorem hb_438 : Cond.instanceMethod yX1_isDue ∈ hm_B := hm_Bi10 _ (List.mem_of_getElem? (i := 38) rfl)
theorem hb_439 : Cond.selects RX1 yX1_isDue yX1_isDue ∈ hm_B := hm_Bi10 _ (List.mem_of_getElem? (i := 39) rfl)
theorem hb_440 : Cond.code yX1_isDue cX1_isDue 4 (some .boolean) ∈ hm_B := hm_Bi11 _ (List.mem_of_getElem? (i := 0) rfl)
theorem hb_441 : Cond.methodLink RX1 40 yX1_isLoud ∈ hm_B := hm_Bi11 _ (List.mem_of_getElem? (i := 1) rfl)
theorem hb_442 : Cond.instanceMethod yX1_isLoud ∈ hm_B := hm_Bi11 _ (List.mem_of_getElem? (i := 2) rfl)
theorem hb_443 : Cond.selects RX1 yX1_isLoud yX1_isLoud ∈ hm_B := hm_Bi11 _ (List.mem_of_getElem? (i := 3) rfl)
theorem hb_444 : Cond.code yX1_isLoud cX1_isLoud 1 (some .boolean) ∈ hm_B := hm_Bi11 _ (List.mem_of_getElem? (i := 4) rfl)
theorem hb_445 : Cond.methodLink RX1 30 yX1_countLoudNow ∈ hm_B := hm_Bi11 _ (List.mem_of_getElem? (i := 5) rfl)
theorem hb_446 : Cond.instanceMethod yX1_countLoudNow ∈ hm_B := hm_Bi11 _ (List.mem_of_getElem? (i := 6) rfl)
theorem hb_447 : Cond.selects RX1 yX1_countLoudNow yX1_countLoudNow ∈ hm_B := hm_Bi11 _ (List.mem_of_getElem? (i := 7) rfl)
theorem hb_448 : Cond.code yX1_countLoudNow cX1_countLoudNow 3 (some .int) ∈ hm_B := hm_Bi11 _ (List.mem_of_getElem? (i := 8) rfl)
theorem hb_449 : Cond.methodLink RX1 34 yJ6_bitCount_0f7a4 ∈ hm_B := hm_Bi11 _ (List.mem_of_getElem? (i := 9) rfl)
theorem hb_450 : Cond.static yJ6_bitCount_0f7a4 ∈ hm_B := hm_Bi11 _ (List.mem_of_getElem? (i := 10) rfl)
theorem hb_451 : Cond.initialized RJ6 ∈ hm_B := hm_Bi11 _ (List.mem_of_getElem? (i := 11) rfl)
theorem hb_452 : Cond.code yJ6_bitCount_0f7a4 cJ6_bitCount_0f7a4 1 (some .int) ∈ hm_B := hm_Bi11 _ (List.mem_of_getElem? (i := 12) rfl)
theorem hb_453 : Cond.constant RJ6 265 (1431655765) ∈ hm_B := hm_Bi11 _ (List.mem_of_getElem? (i := 13) rfl)
theorem hb_454 : Cond.constant RJ6 266 (858993459) ∈ hm_B := hm_Bi11 _ (List.mem_of_getElem? (i := 14) rfl)
theorem hb_455 : Cond.constant RJ6 267 (252645135) ∈ hm_B := hm_Bi11 _ (List.mem_of_getElem? (i := 15) rfl)
theorem hb_456 : Cond.methodLink RX1 44 yX1_hasTold ∈ hm_B := hm_Bi11 _ (List.mem_of_getElem? (i := 16) rfl)
theorem hb_457 : Cond.instanceMethod yX1_hasTold ∈ hm_B := hm_Bi11 _ (List.mem_of_getElem? (i := 17) rfl)
theorem hb_458 : Cond.selects RX1 yX1_hasTold yX1_hasTold ∈ hm_B := hm_Bi11 _ (List.mem_of_getElem? (i := 18) rfl)
theorem hb_459 : Cond.code yX1_hasTold cX1_hasTold 2 (some .boolean) ∈ hm_B := hm_Bi11 _ (List.mem_of_getElem? (i := 19) rfl)
theorem hb_460 : Cond.methodLink RX1 47 yX1_hasChanged ∈ hm_B := hm_Bi11 _ (List.mem_of_getElem? (i := 20) rfl)
theorem hb_461 : Cond.instanceMethod yX1_hasChanged ∈ hm_B := hm_Bi11 _ (List.mem_of_getElem? (i := 21) rfl)
theorem hb_462 : Cond.selects RX1 yX1_hasChanged yX1_hasChanged ∈ hm_B := hm_Bi11 _ (List.mem_of_getElem? (i := 22) rfl)
theorem hb_463 : Cond.code yX1_hasChanged cX1_hasChanged 2 (some .boolean) ∈ hm_B := hm_Bi11 _ (List.mem_of_getElem? (i := 23) rfl)
theorem hb_464 : Cond.methodLink RX6 410 yX1_countLoudNow ∈ hm_B := hm_Bi11 _ (List.mem_of_getElem? (i := 24) rfl)
theorem hb_465 : Cond.methodLink RX6 413 yX6_greatestRank ∈ hm_B := hm_Bi11 _ (List.mem_of_getElem? (i := 25) rfl)
theorem hb_466 : Cond.instanceMethod yX6_greatestRank ∈ hm_B := hm_Bi11 _ (List.mem_of_getElem? (i := 26) rfl)
theorem hb_467 : Cond.selects RX6 yX6_greatestRank yX6_greatestRank ∈ hm_B := hm_Bi11 _ (List.mem_of_getElem? (i := 27) rfl)
theorem hb_468 : Cond.code yX6_greatestRank cX6_greatestRank 4 (some .int) ∈ hm_B := hm_Bi11 _ (List.mem_of_getElem? (i := 28) rfl)
theorem hb_469 : Cond.methodLink RX6 443 Lib.Math.max.name ∈ hm_B := hm_Bi11 _ (List.mem_of_getElem? (i := 29) rfl)
theorem hb_470 : Cond.methodLink RX6 440 yX1_hasLoudOf ∈ hm_B := hm_Bi11 _ (List.mem_of_getElem? (i := 30) rfl)
theorem hb_471 : Cond.instanceMethod yX1_hasLoudOf ∈ hm_B := hm_Bi11 _ (List.mem_of_getElem? (i := 31) rfl)
theorem hb_472 : Cond.selects RX1 yX1_hasLoudOf yX1_hasLoudOf ∈ hm_B := hm_Bi11 _ (List.mem_of_getElem? (i := 32) rfl)
theorem hb_473 : Cond.code yX1_hasLoudOf cX1_hasLoudOf 2 (some .boolean) ∈ hm_B := hm_Bi11 _ (List.mem_of_getElem? (i := 33) rfl)
theorem hb_474 : Cond.methodLink RX6 417 yX3_keep ∈ hm_B := hm_Bi11 _ (List.mem_of_getElem? (i := 34) rfl)
theorem hb_475 : Cond.instanceMethod yX3_keep ∈ hm_B := hm_Bi11 _ (List.mem_of_getElem? (i := 35) rfl)
theorem hb_476 : Cond.selects RX3 yX3_keep yX3_keep ∈ hm_B := hm_Bi11 _ (List.mem_of_getElem? (i := 36) rfl)
theorem hb_477 : Cond.code yX3_keep cX3_keep 6 none ∈ hm_B := hm_Bi11 _ (List.mem_of_getElem? (i := 37) rfl)
theorem hb_478 : Cond.methodLink RX3 26 Lib.Math.min.name ∈ hm_B := hm_Bi11 _ (List.mem_of_getElem? (i := 38) rfl)
theorem hb_479 : Cond.methodLink RX6 420 yX1_markTold ∈ hm_B := hm_Bi11 _ (List.mem_of_getElem? (i := 39) rfl)
theorem hb_480 : Cond.instanceMethod yX1_markTold ∈ hm_B := hm_Bi12 _ (List.mem_of_getElem? (i := 0) rfl)
theorem hb_481 : Cond.selects RX1 yX1_markTold yX1_markTold ∈ hm_B := hm_Bi12 _ (List.mem_of_getElem? (i := 1) rfl)
theorem hb_482 : Cond.code yX1_markTold cX1_markTold 2 none ∈ hm_B := hm_Bi12 _ (List.mem_of_getElem? (i := 2) rfl)
theorem hb_483 : Cond.methodLink RX1 50 arraycopyName ∈ hm_B := hm_Bi12 _ (List.mem_of_getElem? (i := 3) rfl)
theorem hb_484 : Cond.methodLink RX6 423 yX1_isLoud ∈ hm_B := hm_Bi12 _ (List.mem_of_getElem? (i := 4) rfl)
theorem hb_485 : Cond.methodLink RL 56 yX6_digest ∈ hm_B := hm_Bi12 _ (List.mem_of_getElem? (i := 5) rfl)
theorem hb_486 : Cond.instanceMethod yX6_digest ∈ hm_B := hm_Bi12 _ (List.mem_of_getElem? (i := 6) rfl)
theorem hb_487 : Cond.selects RX6 yX6_digest yX6_digest ∈ hm_B := hm_Bi12 _ (List.mem_of_getElem? (i := 7) rfl)
theorem hb_488 : Cond.code yX6_digest cX6_digest 5 (some .long) ∈ hm_B := hm_Bi12 _ (List.mem_of_getElem? (i := 8) rfl)
theorem hb_489 : Cond.constantLong RX6 294 (58073) ∈ hm_B := hm_Bi12 _ (List.mem_of_getElem? (i := 9) rfl)
theorem hb_490 : Cond.methodLink RX6 296 yX6_clock ∈ hm_B := hm_Bi12 _ (List.mem_of_getElem? (i := 10) rfl)
theorem hb_491 : Cond.instanceMethod yX6_clock ∈ hm_B := hm_Bi12 _ (List.mem_of_getElem? (i := 11) rfl)
theorem hb_492 : Cond.selects RX6 yX6_clock yX6_clock ∈ hm_B := hm_Bi12 _ (List.mem_of_getElem? (i := 12) rfl)
theorem hb_493 : Cond.code yX6_clock cX6_clock 1 (some .int) ∈ hm_B := hm_Bi12 _ (List.mem_of_getElem? (i := 13) rfl)
theorem hb_494 : Cond.methodLink RX6 299 yX6_mix ∈ hm_B := hm_Bi12 _ (List.mem_of_getElem? (i := 14) rfl)
theorem hb_495 : Cond.static yX6_mix ∈ hm_B := hm_Bi12 _ (List.mem_of_getElem? (i := 15) rfl)
theorem hb_496 : Cond.code yX6_mix cX6_mix 3 (some .long) ∈ hm_B := hm_Bi12 _ (List.mem_of_getElem? (i := 16) rfl)
theorem hb_497 : Cond.constantLong RX6 325 (31) ∈ hm_B := hm_Bi12 _ (List.mem_of_getElem? (i := 17) rfl)
theorem hb_498 : Cond.methodLink RX6 303 yX6_many ∈ hm_B := hm_Bi12 _ (List.mem_of_getElem? (i := 18) rfl)
theorem hb_499 : Cond.methodLink RX6 306 yX6_mixSeries ∈ hm_B := hm_Bi12 _ (List.mem_of_getElem? (i := 19) rfl)
theorem hb_500 : Cond.instanceMethod yX6_mixSeries ∈ hm_B := hm_Bi12 _ (List.mem_of_getElem? (i := 20) rfl)
theorem hb_501 : Cond.selects RX6 yX6_mixSeries yX6_mixSeries ∈ hm_B := hm_Bi12 _ (List.mem_of_getElem? (i := 21) rfl)
theorem hb_502 : Cond.code yX6_mixSeries cX6_mixSeries 7 (some .long) ∈ hm_B := hm_Bi12 _ (List.mem_of_getElem? (i := 22) rfl)
theorem hb_503 : Cond.methodLink RX6 327 yX6_now ∈ hm_B := hm_Bi12 _ (List.mem_of_getElem? (i := 23) rfl)
theorem hb_504 : Cond.instanceMethod yX6_now ∈ hm_B := hm_Bi12 _ (List.mem_of_getElem? (i := 24) rfl)
theorem hb_505 : Cond.selects RX6 yX6_now yX6_now ∈ hm_B := hm_Bi12 _ (List.mem_of_getElem? (i := 25) rfl)
theorem hb_506 : Cond.code yX6_now cX6_now 4 (some .int) ∈ hm_B := hm_Bi12 _ (List.mem_of_getElem? (i := 26) rfl)
theorem hb_507 : Cond.fieldLink RX6 205 "HarbourlightMonitor$Series" "held" "I" ∈ hm_B := hm_Bi12 _ (List.mem_of_getElem? (i := 27) rfl)
theorem hb_508 : Cond.methodLink RX6 330 yX6_sample ∈ hm_B := hm_Bi12 _ (List.mem_of_getElem? (i := 28) rfl)
theorem hb_509 : Cond.instanceMethod yX6_sample ∈ hm_B := hm_Bi12 _ (List.mem_of_getElem? (i := 29) rfl)
theorem hb_510 : Cond.selects RX6 yX6_sample yX6_sample ∈ hm_B := hm_Bi12 _ (List.mem_of_getElem? (i := 30) rfl)
theorem hb_511 : Cond.code yX6_sample cX6_sample 4 (some .int) ∈ hm_B := hm_Bi12 _ (List.mem_of_getElem? (i := 31) rfl)
theorem hb_512 : Cond.methodLink RX6 210 yX5_past ∈ hm_B := hm_Bi12 _ (List.mem_of_getElem? (i := 32) rfl)
theorem hb_513 : Cond.methodLink RX6 333 yX6_look ∈ hm_B := hm_Bi12 _ (List.mem_of_getElem? (i := 33) rfl)
theorem hb_514 : Cond.instanceMethod yX6_look ∈ hm_B := hm_Bi12 _ (List.mem_of_getElem? (i := 34) rfl)
theorem hb_515 : Cond.selects RX6 yX6_look yX6_look ∈ hm_B := hm_Bi12 _ (List.mem_of_getElem? (i := 35) rfl)
theorem hb_516 : Cond.code yX6_look cX6_look 5 (some .int) ∈ hm_B := hm_Bi12 _ (List.mem_of_getElem? (i := 36) rfl)
theorem hb_517 : Cond.methodLink RX6 309 yX6_calm ∈ hm_B := hm_Bi12 _ (List.mem_of_getElem? (i := 37) rfl)
theorem hb_518 : Cond.instanceMethod yX6_calm ∈ hm_B := hm_Bi12 _ (List.mem_of_getElem? (i := 38) rfl)
theorem hb_519 : Cond.selects RX6 yX6_calm yX6_calm ∈ hm_B := hm_Bi12 _ (List.mem_of_getElem? (i := 39) rfl)
theorem hb_520 : Cond.code yX6_calm cX6_calm 7 (some .int) ∈ hm_B := hm_Bi13 _ (List.mem_of_getElem? (i := 0) rfl)
theorem hb_521 : Cond.methodLink RX6 312 yX6_beyond ∈ hm_B := hm_Bi13 _ (List.mem_of_getElem? (i := 1) rfl)
theorem hb_522 : Cond.instanceMethod yX6_beyond ∈ hm_B := hm_Bi13 _ (List.mem_of_getElem? (i := 2) rfl)
theorem hb_523 : Cond.selects RX6 yX6_beyond yX6_beyond ∈ hm_B := hm_Bi13 _ (List.mem_of_getElem? (i := 3) rfl)
theorem hb_524 : Cond.code yX6_beyond cX6_beyond 6 (some .int) ∈ hm_B := hm_Bi13 _ (List.mem_of_getElem? (i := 4) rfl)
theorem hb_525 : Cond.methodLink RX6 315 yX6_mixAlert ∈ hm_B := hm_Bi13 _ (List.mem_of_getElem? (i := 5) rfl)
theorem hb_526 : Cond.instanceMethod yX6_mixAlert ∈ hm_B := hm_Bi13 _ (List.mem_of_getElem? (i := 6) rfl)
theorem hb_527 : Cond.selects RX6 yX6_mixAlert yX6_mixAlert ∈ hm_B := hm_Bi13 _ (List.mem_of_getElem? (i := 7) rfl)
theorem hb_528 : Cond.code yX6_mixAlert cX6_mixAlert 9 (some .long) ∈ hm_B := hm_Bi13 _ (List.mem_of_getElem? (i := 8) rfl)
theorem hb_529 : Cond.methodLink RX6 336 yX6_alertAt ∈ hm_B := hm_Bi13 _ (List.mem_of_getElem? (i := 9) rfl)
theorem hb_530 : Cond.instanceMethod yX6_alertAt ∈ hm_B := hm_Bi13 _ (List.mem_of_getElem? (i := 10) rfl)
theorem hb_531 : Cond.selects RX6 yX6_alertAt yX6_alertAt ∈ hm_B := hm_Bi13 _ (List.mem_of_getElem? (i := 11) rfl)
theorem hb_532 : Cond.code yX6_alertAt cX6_alertAt 8 (some .int) ∈ hm_B := hm_Bi13 _ (List.mem_of_getElem? (i := 12) rfl)
theorem hb_533 : Cond.methodLink RX6 242 yX4_keyOfAlert ∈ hm_B := hm_Bi13 _ (List.mem_of_getElem? (i := 13) rfl)
theorem hb_534 : Cond.instanceMethod yX4_keyOfAlert ∈ hm_B := hm_Bi13 _ (List.mem_of_getElem? (i := 14) rfl)
theorem hb_535 : Cond.selects RX4 yX4_keyOfAlert yX4_keyOfAlert ∈ hm_B := hm_Bi13 _ (List.mem_of_getElem? (i := 15) rfl)
theorem hb_536 : Cond.code yX4_keyOfAlert cX4_keyOfAlert 4 (some .int) ∈ hm_B := hm_Bi13 _ (List.mem_of_getElem? (i := 16) rfl)
theorem hb_537 : Cond.methodLink RX6 339 yX6_alert ∈ hm_B := hm_Bi13 _ (List.mem_of_getElem? (i := 17) rfl)
theorem hb_538 : Cond.instanceMethod yX6_alert ∈ hm_B := hm_Bi13 _ (List.mem_of_getElem? (i := 18) rfl)
theorem hb_539 : Cond.selects RX6 yX6_alert yX6_alert ∈ hm_B := hm_Bi13 _ (List.mem_of_getElem? (i := 19) rfl)
theorem hb_540 : Cond.code yX6_alert cX6_alert 6 (some .int) ∈ hm_B := hm_Bi13 _ (List.mem_of_getElem? (i := 20) rfl)
theorem hb_541 : Cond.fieldLink RX6 236 "HarbourlightMonitor$Alert" "since" "I" ∈ hm_B := hm_Bi13 _ (List.mem_of_getElem? (i := 21) rfl)
theorem hb_542 : Cond.methodLink RX6 318 yX6_mixHush ∈ hm_B := hm_Bi13 _ (List.mem_of_getElem? (i := 22) rfl)
theorem hb_543 : Cond.instanceMethod yX6_mixHush ∈ hm_B := hm_Bi13 _ (List.mem_of_getElem? (i := 23) rfl)
theorem hb_544 : Cond.selects RX6 yX6_mixHush yX6_mixHush ∈ hm_B := hm_Bi13 _ (List.mem_of_getElem? (i := 24) rfl)
theorem hb_545 : Cond.code yX6_mixHush cX6_mixHush 7 (some .long) ∈ hm_B := hm_Bi13 _ (List.mem_of_getElem? (i := 25) rfl)
theorem hb_546 : Cond.methodLink RX6 342 yX6_ofHush ∈ hm_B := hm_Bi13 _ (List.mem_of_getElem? (i := 26) rfl)
theorem hb_547 : Cond.instanceMethod yX6_ofHush ∈ hm_B := hm_Bi13 _ (List.mem_of_getElem? (i := 27) rfl)
theorem hb_548 : Cond.selects RX6 yX6_ofHush yX6_ofHush ∈ hm_B := hm_Bi13 _ (List.mem_of_getElem? (i := 28) rfl)
theorem hb_549 : Cond.code yX6_ofHush cX6_ofHush 4 (some .int) ∈ hm_B := hm_Bi13 _ (List.mem_of_getElem? (i := 29) rfl)
theorem hb_550 : Cond.fieldLink RX6 260 "HarbourlightMonitor$Hush" "rule" "I" ∈ hm_B := hm_Bi13 _ (List.mem_of_getElem? (i := 30) rfl)
theorem hb_551 : Cond.fieldLink RX6 263 "HarbourlightMonitor$Hush" "place" "I" ∈ hm_B := hm_Bi13 _ (List.mem_of_getElem? (i := 31) rfl)
theorem hb_552 : Cond.fieldLink RX6 266 "HarbourlightMonitor$Hush" "till" "I" ∈ hm_B := hm_Bi13 _ (List.mem_of_getElem? (i := 32) rfl)
theorem hb_553 : Cond.methodLink RX6 166 yX6_requireHush ∈ hm_B := hm_Bi13 _ (List.mem_of_getElem? (i := 33) rfl)
theorem hb_554 : Cond.instanceMethod yX6_requireHush ∈ hm_B := hm_Bi13 _ (List.mem_of_getElem? (i := 34) rfl)
theorem hb_555 : Cond.selects RX6 yX6_requireHush yX6_requireHush ∈ hm_B := hm_Bi13 _ (List.mem_of_getElem? (i := 35) rfl)
theorem hb_556 : Cond.code yX6_requireHush cX6_requireHush 2 (some (.object "HarbourlightMonitor$Hush")) ∈ hm_B := hm_Bi13 _ (List.mem_of_getElem? (i := 36) rfl)
theorem hb_557 : Cond.methodLink RX6 269 yX6_countCovered ∈ hm_B := hm_Bi13 _ (List.mem_of_getElem? (i := 37) rfl)
theorem hb_558 : Cond.instanceMethod yX6_countCovered ∈ hm_B := hm_Bi13 _ (List.mem_of_getElem? (i := 38) rfl)
theorem hb_559 : Cond.selects RX6 yX6_countCovered yX6_countCovered ∈ hm_B := hm_Bi13 _ (List.mem_of_getElem? (i := 39) rfl)
theorem hb_560 : Cond.code yX6_countCovered cX6_countCovered 6 (some .int) ∈ hm_B := hm_Bi14 _ (List.mem_of_getElem? (i := 0) rfl)
theorem hb_561 : Cond.methodLink RX6 398 yX4_hasAlert ∈ hm_B := hm_Bi14 _ (List.mem_of_getElem? (i := 1) rfl)
theorem hb_562 : Cond.instanceMethod yX4_hasAlert ∈ hm_B := hm_Bi14 _ (List.mem_of_getElem? (i := 2) rfl)
theorem hb_563 : Cond.selects RX4 yX4_hasAlert yX4_hasAlert ∈ hm_B := hm_Bi14 _ (List.mem_of_getElem? (i := 3) rfl)
theorem hb_564 : Cond.code yX4_hasAlert cX4_hasAlert 3 (some .boolean) ∈ hm_B := hm_Bi14 _ (List.mem_of_getElem? (i := 4) rfl)
theorem hb_565 : Cond.methodLink RX6 321 yX6_mixNotices ∈ hm_B := hm_Bi14 _ (List.mem_of_getElem? (i := 5) rfl)
theorem hb_566 : Cond.instanceMethod yX6_mixNotices ∈ hm_B := hm_Bi14 _ (List.mem_of_getElem? (i := 6) rfl)
theorem hb_567 : Cond.selects RX6 yX6_mixNotices yX6_mixNotices ∈ hm_B := hm_Bi14 _ (List.mem_of_getElem? (i := 7) rfl)
theorem hb_568 : Cond.code yX6_mixNotices cX6_mixNotices 7 (some .long) ∈ hm_B := hm_Bi14 _ (List.mem_of_getElem? (i := 8) rfl)
theorem hb_569 : Cond.fieldLink RX6 275 "HarbourlightMonitor$NoticeLog" "held" "I" ∈ hm_B := hm_Bi14 _ (List.mem_of_getElem? (i := 9) rfl)
theorem hb_570 : Cond.methodLink RX6 345 yX6_notice ∈ hm_B := hm_Bi14 _ (List.mem_of_getElem? (i := 10) rfl)
theorem hb_571 : Cond.instanceMethod yX6_notice ∈ hm_B := hm_Bi14 _ (List.mem_of_getElem? (i := 11) rfl)
theorem hb_572 : Cond.selects RX6 yX6_notice yX6_notice ∈ hm_B := hm_Bi14 _ (List.mem_of_getElem? (i := 12) rfl)
theorem hb_573 : Cond.code yX6_notice cX6_notice 3 (some .int) ∈ hm_B := hm_Bi14 _ (List.mem_of_getElem? (i := 13) rfl)
theorem hb_574 : Cond.methodLink RX6 278 yX3_factOf ∈ hm_B := hm_Bi14 _ (List.mem_of_getElem? (i := 14) rfl)
theorem hb_575 : Cond.instanceMethod yX3_factOf ∈ hm_B := hm_Bi14 _ (List.mem_of_getElem? (i := 15) rfl)
theorem hb_576 : Cond.selects RX3 yX3_factOf yX3_factOf ∈ hm_B := hm_Bi14 _ (List.mem_of_getElem? (i := 16) rfl)
theorem hb_577 : Cond.code yX3_factOf cX3_factOf 3 (some .int) ∈ hm_B := hm_Bi14 _ (List.mem_of_getElem? (i := 17) rfl)
theorem hb_578 : Cond.methodLink RL 60 yX6_alertAt ∈ hm_B := hm_Bi14 _ (List.mem_of_getElem? (i := 18) rfl)
theorem hb_579 : Cond.methodLink RL 63 yX6_alert ∈ hm_B := hm_Bi14 _ (List.mem_of_getElem? (i := 19) rfl)
theorem hb_580 : Cond.methodLink RL 66 yX6_clock ∈ hm_B := hm_Bi14 _ (List.mem_of_getElem? (i := 20) rfl)
theorem hb_581 : Cond.methodLink RL 70 yX6_look ∈ hm_B := hm_Bi14 _ (List.mem_of_getElem? (i := 21) rfl)
theorem hb_582 : Cond.methodLink RL 73 yX6_sample ∈ hm_B := hm_Bi14 _ (List.mem_of_getElem? (i := 22) rfl)
theorem hb_583 : Cond.methodLink RL 76 yX6_now ∈ hm_B := hm_Bi14 _ (List.mem_of_getElem? (i := 23) rfl)
theorem hb_584 : Cond.methodLink RL 84 yX6_ofHush ∈ hm_B := hm_Bi14 _ (List.mem_of_getElem? (i := 24) rfl)
theorem hb_585 : Cond.methodLink RL 87 yX6_loudWithout ∈ hm_B := hm_Bi14 _ (List.mem_of_getElem? (i := 25) rfl)
theorem hb_586 : Cond.instanceMethod yX6_loudWithout ∈ hm_B := hm_Bi14 _ (List.mem_of_getElem? (i := 26) rfl)
theorem hb_587 : Cond.selects RX6 yX6_loudWithout yX6_loudWithout ∈ hm_B := hm_Bi14 _ (List.mem_of_getElem? (i := 27) rfl)
theorem hb_588 : Cond.code yX6_loudWithout cX6_loudWithout 2 (some .int) ∈ hm_B := hm_Bi14 _ (List.mem_of_getElem? (i := 28) rfl)
theorem hb_589 : Cond.methodLink RL 90 yX6_calm ∈ hm_B := hm_Bi14 _ (List.mem_of_getElem? (i := 29) rfl)
theorem hb_590 : Cond.methodLink RL 93 yX6_beyond ∈ hm_B := hm_Bi14 _ (List.mem_of_getElem? (i := 30) rfl)
theorem hb_591 : Cond.methodLink RL 96 yX6_notice ∈ hm_B := hm_Bi14 _ (List.mem_of_getElem? (i := 31) rfl)
theorem hb_592 : Cond.methodLink RL 99 yX6_dropRule ∈ hm_B := hm_Bi14 _ (List.mem_of_getElem? (i := 32) rfl)
theorem hb_593 : Cond.instanceMethod yX6_dropRule ∈ hm_B := hm_Bi14 _ (List.mem_of_getElem? (i := 33) rfl)
theorem hb_594 : Cond.selects RX6 yX6_dropRule yX6_dropRule ∈ hm_B := hm_Bi14 _ (List.mem_of_getElem? (i := 34) rfl)
theorem hb_595 : Cond.code yX6_dropRule cX6_dropRule 2 (some .int) ∈ hm_B := hm_Bi14 _ (List.mem_of_getElem? (i := 35) rfl)
theorem hb_596 : Cond.methodLink RX6 148 yJx4a65c_remove_915e3 ∈ hm_B := hm_Bi14 _ (List.mem_of_getElem? (i := 36) rfl)
theorem hb_597 : Cond.instanceMethod yJx4a65c_remove_915e3 ∈ hm_B := hm_Bi14 _ (List.mem_of_getElem? (i := 37) rfl)
theorem hb_598 : Cond.selects RJx4a65c yJx4a65c_remove_915e3 yJx4a65c_remove_915e3 ∈ hm_B := hm_Bi14 _ (List.mem_of_getElem? (i := 38) rfl)
theorem hb_599 : Cond.code yJx4a65c_remove_915e3 cJx4a65c_remove_915e3 4 (some (.object "java/lang/Object")) ∈ hm_B := hm_Bi14 _ (List.mem_of_getElem? (i := 39) rfl)
theorem hb_600 : Cond.methodLink RJx4a65c 144 yJx4a65c_fastRemove_b59b0 ∈ hm_B := hm_Bi15 _ (List.mem_of_getElem? (i := 0) rfl)
theorem hb_601 : Cond.instanceMethod yJx4a65c_fastRemove_b59b0 ∈ hm_B := hm_Bi15 _ (List.mem_of_getElem? (i := 1) rfl)
theorem hb_602 : Cond.selects RJx4a65c yJx4a65c_fastRemove_b59b0 yJx4a65c_fastRemove_b59b0 ∈ hm_B := hm_Bi15 _ (List.mem_of_getElem? (i := 2) rfl)
theorem hb_603 : Cond.code yJx4a65c_fastRemove_b59b0 cJx4a65c_fastRemove_b59b0 4 none ∈ hm_B := hm_Bi15 _ (List.mem_of_getElem? (i := 3) rfl)
theorem hb_604 : Cond.methodLink RJx4a65c 112 arraycopyName ∈ hm_B := hm_Bi15 _ (List.mem_of_getElem? (i := 4) rfl)
theorem hb_605 : Cond.methodLink RX6 152 yX6_dropHushesOf ∈ hm_B := hm_Bi15 _ (List.mem_of_getElem? (i := 5) rfl)
theorem hb_606 : Cond.instanceMethod yX6_dropHushesOf ∈ hm_B := hm_Bi15 _ (List.mem_of_getElem? (i := 6) rfl)
theorem hb_607 : Cond.selects RX6 yX6_dropHushesOf yX6_dropHushesOf ∈ hm_B := hm_Bi15 _ (List.mem_of_getElem? (i := 7) rfl)
theorem hb_608 : Cond.code yX6_dropHushesOf cX6_dropHushesOf 3 none ∈ hm_B := hm_Bi15 _ (List.mem_of_getElem? (i := 8) rfl)
theorem hi_X60 : ∀ w ∈ wsX60, w ∈ hm_B := fun w h => hm_BiT w (List.mem_append_left _ h)
theorem hi_Jx4a65c0 : ∀ w ∈ wsJx4a65c0, w ∈ hm_B := fun w h => hm_BiT w (List.mem_append_right _ (List.mem_append_left _ h))
theorem hi_X10 : ∀ w ∈ wsX10, w ∈ hm_B := fun w h => hm_BiT w (List.mem_append_right _ (List.mem_append_right _ (List.mem_append_left _ h)))
theorem hi_X30 : ∀ w ∈ wsX30, w ∈ hm_B := fun w h => hm_BiT w (List.mem_append_right _ (List.mem_append_right _ (List.mem_append_right _ (List.mem_append_left _ h))))
theorem hi_X00 : ∀ w ∈ wsX00, w ∈ hm_B := fun w h => hm_BiT w (List.mem_append_right _ (List.mem_append_right _ (List.mem_append_right _ (List.mem_append_right _ (List.mem_append_left _ h)))))
theorem hi_X50 : ∀ w ∈ wsX50, w ∈ hm_B := fun w h => hm_BiT w (List.mem_append_right _ (List.mem_append_right _ (List.mem_append_right _ (List.mem_append_right _ (List.mem_append_right _ (List.mem_append_left _ h))))))
theorem hi_X40 : ∀ w ∈ wsX40, w ∈ hm_B := fun w h => hm_BiT w (List.mem_append_right _ (List.mem_append_right _ (List.mem_append_right _ (List.mem_append_right _ (List.mem_append_right _ (List.mem_append_right _ (List.mem_append_left _ h)))))))
theorem hi_X20 : ∀ w ∈ wsX20, w ∈ hm_B := fun w h => hm_BiT w (List.mem_append_right _ (List.mem_append_right _ (List.mem_append_right _ (List.mem_append_right _ (List.mem_append_right _ (List.mem_append_right _ (List.mem_append_right _ (h))))))))
end
section
theorem dX0_init_0 : decode cX0_init 0 = .ok (.aload_n 0, 1) := by decide +kernel
theorem dX0_init_1 : decode cX0_init 1 = .ok (.invokespecial 3, 3) := by decide +kernel
theorem dX0_init_4 : decode cX0_init 4 = .ok (.aload_n 0, 1) := by decide +kernel
theorem dX0_init_5 : decode cX0_init 5 = .ok (.iconst 0, 1) := by decide +kernel
theorem dX0_init_6 : decode cX0_init 6 = .ok (.putfield 9, 3) := by decide +kernel
theorem dX0_init_9 : decode cX0_init 9 = .ok (.aload_n 0, 1) := by decide +kernel
theorem dX0_init_10 : decode cX0_init 10 = .ok (.iconst (-1), 1) := by decide +kernel
theorem dX0_init_11 : decode cX0_init 11 = .ok (.putfield 15, 3) := by decide +kernel
theorem dX0_init_14 : decode cX0_init 14 = .ok (.aload_n 0, 1) := by decide +kernel
theorem dX0_init_15 : decode cX0_init 15 = .ok (.iconst 0, 1) := by decide +kernel
theorem dX0_init_16 : decode cX0_init 16 = .ok (.putfield 18, 3) := by decide +kernel
theorem dX0_init_19 : decode cX0_init 19 = .ok (.return_, 1) := by decide +kernel
theorem dX0_step_0 : decode cX0_step 0 = .ok (.iload_n 1, 1) := by decide +kernel
theorem dX0_step_1 : decode cX0_step 1 = .ok (.ifCond .eq 12, 3) := by decide +kernel
theorem dX0_step_4 : decode cX0_step 4 = .ok (.aload_n 0, 1) := by decide +kernel
theorem dX0_step_5 : decode cX0_step 5 = .ok (.iload_n 2, 1) := by decide +kernel
theorem dX0_step_6 : decode cX0_step 6 = .ok (.iload_n 3, 1) := by decide +kernel
theorem dX0_step_7 : decode cX0_step 7 = .ok (.invokevirtual 21, 3) := by decide +kernel
theorem dX0_step_10 : decode cX0_step 10 = .ok (.goto 7, 3) := by decide +kernel
theorem dX0_step_13 : decode cX0_step 13 = .ok (.aload_n 0, 1) := by decide +kernel
theorem dX0_step_14 : decode cX0_step 14 = .ok (.invokevirtual 25, 3) := by decide +kernel
theorem dX0_step_17 : decode cX0_step 17 = .ok (.return_, 1) := by decide +kernel
theorem dX0_rise_0 : decode cX0_rise 0 = .ok (.aload_n 0, 1) := by decide +kernel
theorem dX0_rise_1 : decode cX0_rise 1 = .ok (.iconst 0, 1) := by decide +kernel
theorem dX0_rise_2 : decode cX0_rise 2 = .ok (.putfield 18, 3) := by decide +kernel
theorem dX0_rise_5 : decode cX0_rise 5 = .ok (.aload_n 0, 1) := by decide +kernel
theorem dX0_rise_6 : decode cX0_rise 6 = .ok (.getfield 9, 3) := by decide +kernel
theorem dX0_rise_9 : decode cX0_rise 9 = .ok (.ifCond .ne 13, 3) := by decide +kernel
theorem dX0_rise_12 : decode cX0_rise 12 = .ok (.aload_n 0, 1) := by decide +kernel
theorem dX0_rise_13 : decode cX0_rise 13 = .ok (.iconst 1, 1) := by decide +kernel
theorem dX0_rise_14 : decode cX0_rise 14 = .ok (.putfield 9, 3) := by decide +kernel
theorem dX0_rise_17 : decode cX0_rise 17 = .ok (.aload_n 0, 1) := by decide +kernel
theorem dX0_rise_18 : decode cX0_rise 18 = .ok (.iload_n 2, 1) := by decide +kernel
theorem dX0_rise_19 : decode cX0_rise 19 = .ok (.putfield 15, 3) := by decide +kernel
theorem dX0_rise_22 : decode cX0_rise 22 = .ok (.aload_n 0, 1) := by decide +kernel
theorem dX0_rise_23 : decode cX0_rise 23 = .ok (.getfield 9, 3) := by decide +kernel
theorem dX0_rise_26 : decode cX0_rise 26 = .ok (.iconst 1, 1) := by decide +kernel
theorem dX0_rise_27 : decode cX0_rise 27 = .ok (.if_icmp .ne 23, 3) := by decide +kernel
theorem dX0_rise_30 : decode cX0_rise 30 = .ok (.iload_n 2, 1) := by decide +kernel
theorem dX0_rise_31 : decode cX0_rise 31 = .ok (.aload_n 0, 1) := by decide +kernel
theorem dX0_rise_32 : decode cX0_rise 32 = .ok (.getfield 15, 3) := by decide +kernel
theorem dX0_rise_35 : decode cX0_rise 35 = .ok (.isub, 1) := by decide +kernel
theorem dX0_rise_36 : decode cX0_rise 36 = .ok (.iload_n 1, 1) := by decide +kernel
theorem dX0_rise_37 : decode cX0_rise 37 = .ok (.if_icmp .lt 13, 3) := by decide +kernel
theorem dX0_rise_40 : decode cX0_rise 40 = .ok (.aload_n 0, 1) := by decide +kernel
theorem dX0_rise_41 : decode cX0_rise 41 = .ok (.iconst 2, 1) := by decide +kernel
theorem dX0_rise_42 : decode cX0_rise 42 = .ok (.putfield 9, 3) := by decide +kernel
theorem dX0_rise_45 : decode cX0_rise 45 = .ok (.aload_n 0, 1) := by decide +kernel
theorem dX0_rise_46 : decode cX0_rise 46 = .ok (.iload_n 2, 1) := by decide +kernel
theorem dX0_rise_47 : decode cX0_rise 47 = .ok (.putfield 15, 3) := by decide +kernel
theorem dX0_rise_50 : decode cX0_rise 50 = .ok (.return_, 1) := by decide +kernel
theorem dX0_fall_0 : decode cX0_fall 0 = .ok (.aload_n 0, 1) := by decide +kernel
theorem dX0_fall_1 : decode cX0_fall 1 = .ok (.dup, 1) := by decide +kernel
theorem dX0_fall_2 : decode cX0_fall 2 = .ok (.getfield 18, 3) := by decide +kernel
theorem dX0_fall_5 : decode cX0_fall 5 = .ok (.iconst 1, 1) := by decide +kernel
theorem dX0_fall_6 : decode cX0_fall 6 = .ok (.iadd, 1) := by decide +kernel
theorem dX0_fall_7 : decode cX0_fall 7 = .ok (.putfield 18, 3) := by decide +kernel
theorem dX0_fall_10 : decode cX0_fall 10 = .ok (.aload_n 0, 1) := by decide +kernel
theorem dX0_fall_11 : decode cX0_fall 11 = .ok (.getfield 9, 3) := by decide +kernel
theorem dX0_fall_14 : decode cX0_fall 14 = .ok (.iconst 2, 1) := by decide +kernel
theorem dX0_fall_15 : decode cX0_fall 15 = .ok (.if_icmp .ne 11, 3) := by decide +kernel
theorem dX0_fall_18 : decode cX0_fall 18 = .ok (.aload_n 0, 1) := by decide +kernel
theorem dX0_fall_19 : decode cX0_fall 19 = .ok (.getfield 18, 3) := by decide +kernel
theorem dX0_fall_22 : decode cX0_fall 22 = .ok (.iconst 3, 1) := by decide +kernel
theorem dX0_fall_23 : decode cX0_fall 23 = .ok (.if_icmp .lt 13, 3) := by decide +kernel
theorem dX0_fall_26 : decode cX0_fall 26 = .ok (.aload_n 0, 1) := by decide +kernel
theorem dX0_fall_27 : decode cX0_fall 27 = .ok (.iconst 0, 1) := by decide +kernel
theorem dX0_fall_28 : decode cX0_fall 28 = .ok (.putfield 9, 3) := by decide +kernel
theorem dX0_fall_31 : decode cX0_fall 31 = .ok (.aload_n 0, 1) := by decide +kernel
theorem dX0_fall_32 : decode cX0_fall 32 = .ok (.iconst (-1), 1) := by decide +kernel
theorem dX0_fall_33 : decode cX0_fall 33 = .ok (.putfield 15, 3) := by decide +kernel
theorem dX0_fall_36 : decode cX0_fall 36 = .ok (.return_, 1) := by decide +kernel
theorem dX0_become_0 : decode cX0_become 0 = .ok (.aload_n 0, 1) := by decide +kernel
theorem dX0_become_1 : decode cX0_become 1 = .ok (.aload_n 1, 1) := by decide +kernel
theorem dX0_become_2 : decode cX0_become 2 = .ok (.getfield 9, 3) := by decide +kernel
theorem dX0_become_5 : decode cX0_become 5 = .ok (.putfield 9, 3) := by decide +kernel
theorem dX0_become_8 : decode cX0_become 8 = .ok (.aload_n 0, 1) := by decide +kernel
theorem dX0_become_9 : decode cX0_become 9 = .ok (.aload_n 1, 1) := by decide +kernel
theorem dX0_become_10 : decode cX0_become 10 = .ok (.getfield 15, 3) := by decide +kernel
theorem dX0_become_13 : decode cX0_become 13 = .ok (.putfield 15, 3) := by decide +kernel
theorem dX0_become_16 : decode cX0_become 16 = .ok (.aload_n 0, 1) := by decide +kernel
theorem dX0_become_17 : decode cX0_become 17 = .ok (.aload_n 1, 1) := by decide +kernel
theorem dX0_become_18 : decode cX0_become 18 = .ok (.getfield 18, 3) := by decide +kernel
theorem dX0_become_21 : decode cX0_become 21 = .ok (.putfield 18, 3) := by decide +kernel
theorem dX0_become_24 : decode cX0_become 24 = .ok (.return_, 1) := by decide +kernel
theorem dX1_init_0 : decode cX1_init 0 = .ok (.aload_n 0, 1) := by decide +kernel
theorem dX1_init_1 : decode cX1_init 1 = .ok (.invokespecial 3, 3) := by decide +kernel
theorem dX1_init_4 : decode cX1_init 4 = .ok (.aload_n 0, 1) := by decide +kernel
theorem dX1_init_5 : decode cX1_init 5 = .ok (.bipush 6, 2) := by decide +kernel
theorem dX1_init_7 : decode cX1_init 7 = .ok (.newarray .int, 2) := by decide +kernel
theorem dX1_init_9 : decode cX1_init 9 = .ok (.putfield 9, 3) := by decide +kernel
theorem dX1_init_12 : decode cX1_init 12 = .ok (.aload_n 0, 1) := by decide +kernel
theorem dX1_init_13 : decode cX1_init 13 = .ok (.bipush 6, 2) := by decide +kernel
theorem dX1_init_15 : decode cX1_init 15 = .ok (.newarray .int, 2) := by decide +kernel
theorem dX1_init_17 : decode cX1_init 17 = .ok (.putfield 15, 3) := by decide +kernel
theorem dX1_init_20 : decode cX1_init 20 = .ok (.aload_n 0, 1) := by decide +kernel
theorem dX1_init_21 : decode cX1_init 21 = .ok (.iconst 0, 1) := by decide +kernel
theorem dX1_init_22 : decode cX1_init 22 = .ok (.putfield 18, 3) := by decide +kernel
theorem dX1_init_25 : decode cX1_init 25 = .ok (.aload_n 0, 1) := by decide +kernel
theorem dX1_init_26 : decode cX1_init 26 = .ok (.iconst 0, 1) := by decide +kernel
theorem dX1_init_27 : decode cX1_init 27 = .ok (.putfield 22, 3) := by decide +kernel
theorem dX1_init_30 : decode cX1_init 30 = .ok (.return_, 1) := by decide +kernel
theorem dX1_forget_0 : decode cX1_forget 0 = .ok (.iconst 0, 1) := by decide +kernel
theorem dX1_forget_1 : decode cX1_forget 1 = .ok (.istore_n 1, 1) := by decide +kernel
theorem dX1_forget_2 : decode cX1_forget 2 = .ok (.iload_n 1, 1) := by decide +kernel
theorem dX1_forget_3 : decode cX1_forget 3 = .ok (.bipush 6, 2) := by decide +kernel
theorem dX1_forget_5 : decode cX1_forget 5 = .ok (.if_icmp .ge 16, 3) := by decide +kernel
theorem dX1_forget_8 : decode cX1_forget 8 = .ok (.aload_n 0, 1) := by decide +kernel
theorem dX1_forget_9 : decode cX1_forget 9 = .ok (.getfield 15, 3) := by decide +kernel
theorem dX1_forget_12 : decode cX1_forget 12 = .ok (.iload_n 1, 1) := by decide +kernel
theorem dX1_forget_13 : decode cX1_forget 13 = .ok (.iconst 0, 1) := by decide +kernel
theorem dX1_forget_14 : decode cX1_forget 14 = .ok (.iastore, 1) := by decide +kernel
theorem dX1_forget_15 : decode cX1_forget 15 = .ok (.iinc 1 1, 3) := by decide +kernel
theorem dX1_forget_18 : decode cX1_forget 18 = .ok (.goto (-16), 3) := by decide +kernel
theorem dX1_forget_21 : decode cX1_forget 21 = .ok (.aload_n 0, 1) := by decide +kernel
theorem dX1_forget_22 : decode cX1_forget 22 = .ok (.iconst 0, 1) := by decide +kernel
theorem dX1_forget_23 : decode cX1_forget 23 = .ok (.putfield 22, 3) := by decide +kernel
theorem dX1_forget_26 : decode cX1_forget 26 = .ok (.return_, 1) := by decide +kernel
theorem dX1_clearLoud_0 : decode cX1_clearLoud 0 = .ok (.iconst 0, 1) := by decide +kernel
theorem dX1_clearLoud_1 : decode cX1_clearLoud 1 = .ok (.istore_n 1, 1) := by decide +kernel
theorem dX1_clearLoud_2 : decode cX1_clearLoud 2 = .ok (.iload_n 1, 1) := by decide +kernel
theorem dX1_clearLoud_3 : decode cX1_clearLoud 3 = .ok (.bipush 6, 2) := by decide +kernel
theorem dX1_clearLoud_5 : decode cX1_clearLoud 5 = .ok (.if_icmp .ge 16, 3) := by decide +kernel
theorem dX1_clearLoud_8 : decode cX1_clearLoud 8 = .ok (.aload_n 0, 1) := by decide +kernel
theorem dX1_clearLoud_9 : decode cX1_clearLoud 9 = .ok (.getfield 9, 3) := by decide +kernel
theorem dX1_clearLoud_12 : decode cX1_clearLoud 12 = .ok (.iload_n 1, 1) := by decide +kernel
theorem dX1_clearLoud_13 : decode cX1_clearLoud 13 = .ok (.iconst 0, 1) := by decide +kernel
theorem dX1_clearLoud_14 : decode cX1_clearLoud 14 = .ok (.iastore, 1) := by decide +kernel
theorem dX1_clearLoud_15 : decode cX1_clearLoud 15 = .ok (.iinc 1 1, 3) := by decide +kernel
theorem dX1_clearLoud_18 : decode cX1_clearLoud 18 = .ok (.goto (-16), 3) := by decide +kernel
theorem dX1_clearLoud_21 : decode cX1_clearLoud 21 = .ok (.return_, 1) := by decide +kernel
theorem dX1_addLoud_0 : decode cX1_addLoud 0 = .ok (.iload_n 1, 1) := by decide +kernel
theorem dX1_addLoud_1 : decode cX1_addLoud 1 = .ok (.iconst 0, 1) := by decide +kernel
theorem dX1_addLoud_2 : decode cX1_addLoud 2 = .ok (.iconst 5, 1) := by decide +kernel
theorem dX1_addLoud_3 : decode cX1_addLoud 3 = .ok (.invokestatic 26, 3) := by decide +kernel
theorem dX1_addLoud_6 : decode cX1_addLoud 6 = .ok (.ifCond .ne 15, 3) := by decide +kernel
theorem dX1_addLoud_9 : decode cX1_addLoud 9 = .ok (.aload_n 0, 1) := by decide +kernel
theorem dX1_addLoud_10 : decode cX1_addLoud 10 = .ok (.getfield 9, 3) := by decide +kernel
theorem dX1_addLoud_13 : decode cX1_addLoud 13 = .ok (.iload_n 1, 1) := by decide +kernel
theorem dX1_addLoud_14 : decode cX1_addLoud 14 = .ok (.dup2, 1) := by decide +kernel
theorem dX1_addLoud_15 : decode cX1_addLoud 15 = .ok (.iaload, 1) := by decide +kernel
theorem dX1_addLoud_16 : decode cX1_addLoud 16 = .ok (.iconst 1, 1) := by decide +kernel
theorem dX1_addLoud_17 : decode cX1_addLoud 17 = .ok (.iload_n 2, 1) := by decide +kernel
theorem dX1_addLoud_18 : decode cX1_addLoud 18 = .ok (.ishl, 1) := by decide +kernel
theorem dX1_addLoud_19 : decode cX1_addLoud 19 = .ok (.ior, 1) := by decide +kernel
theorem dX1_addLoud_20 : decode cX1_addLoud 20 = .ok (.iastore, 1) := by decide +kernel
theorem dX1_addLoud_21 : decode cX1_addLoud 21 = .ok (.return_, 1) := by decide +kernel
theorem dX1_hasLoudOf_0 : decode cX1_hasLoudOf 0 = .ok (.iload_n 1, 1) := by decide +kernel
theorem dX1_hasLoudOf_1 : decode cX1_hasLoudOf 1 = .ok (.iconst 0, 1) := by decide +kernel
theorem dX1_hasLoudOf_2 : decode cX1_hasLoudOf 2 = .ok (.iconst 5, 1) := by decide +kernel
theorem dX1_hasLoudOf_3 : decode cX1_hasLoudOf 3 = .ok (.invokestatic 26, 3) := by decide +kernel
theorem dX1_hasLoudOf_6 : decode cX1_hasLoudOf 6 = .ok (.ifCond .ne 16, 3) := by decide +kernel
theorem dX1_hasLoudOf_9 : decode cX1_hasLoudOf 9 = .ok (.aload_n 0, 1) := by decide +kernel
theorem dX1_hasLoudOf_10 : decode cX1_hasLoudOf 10 = .ok (.getfield 9, 3) := by decide +kernel
theorem dX1_hasLoudOf_13 : decode cX1_hasLoudOf 13 = .ok (.iload_n 1, 1) := by decide +kernel
theorem dX1_hasLoudOf_14 : decode cX1_hasLoudOf 14 = .ok (.iaload, 1) := by decide +kernel
theorem dX1_hasLoudOf_15 : decode cX1_hasLoudOf 15 = .ok (.ifCond .eq 7, 3) := by decide +kernel
theorem dX1_hasLoudOf_18 : decode cX1_hasLoudOf 18 = .ok (.iconst 1, 1) := by decide +kernel
theorem dX1_hasLoudOf_19 : decode cX1_hasLoudOf 19 = .ok (.goto 4, 3) := by decide +kernel
theorem dX1_hasLoudOf_22 : decode cX1_hasLoudOf 22 = .ok (.iconst 0, 1) := by decide +kernel
theorem dX1_hasLoudOf_23 : decode cX1_hasLoudOf 23 = .ok (.ireturn, 1) := by decide +kernel
theorem dX1_isLoud_0 : decode cX1_isLoud 0 = .ok (.aload_n 0, 1) := by decide +kernel
theorem dX1_isLoud_1 : decode cX1_isLoud 1 = .ok (.invokevirtual 30, 3) := by decide +kernel
theorem dX1_isLoud_4 : decode cX1_isLoud 4 = .ok (.ifCond .le 7, 3) := by decide +kernel
theorem dX1_isLoud_7 : decode cX1_isLoud 7 = .ok (.iconst 1, 1) := by decide +kernel
theorem dX1_isLoud_8 : decode cX1_isLoud 8 = .ok (.goto 4, 3) := by decide +kernel
theorem dX1_isLoud_11 : decode cX1_isLoud 11 = .ok (.iconst 0, 1) := by decide +kernel
theorem dX1_isLoud_12 : decode cX1_isLoud 12 = .ok (.ireturn, 1) := by decide +kernel
theorem dX1_countLoudNow_0 : decode cX1_countLoudNow 0 = .ok (.iconst 0, 1) := by decide +kernel
theorem dX1_countLoudNow_1 : decode cX1_countLoudNow 1 = .ok (.istore_n 1, 1) := by decide +kernel
theorem dX1_countLoudNow_2 : decode cX1_countLoudNow 2 = .ok (.iconst 0, 1) := by decide +kernel
theorem dX1_countLoudNow_3 : decode cX1_countLoudNow 3 = .ok (.istore_n 2, 1) := by decide +kernel
theorem dX1_countLoudNow_4 : decode cX1_countLoudNow 4 = .ok (.iload_n 2, 1) := by decide +kernel
theorem dX1_countLoudNow_5 : decode cX1_countLoudNow 5 = .ok (.bipush 6, 2) := by decide +kernel
theorem dX1_countLoudNow_7 : decode cX1_countLoudNow 7 = .ok (.if_icmp .ge 21, 3) := by decide +kernel
theorem dX1_countLoudNow_10 : decode cX1_countLoudNow 10 = .ok (.iload_n 1, 1) := by decide +kernel
theorem dX1_countLoudNow_11 : decode cX1_countLoudNow 11 = .ok (.aload_n 0, 1) := by decide +kernel
theorem dX1_countLoudNow_12 : decode cX1_countLoudNow 12 = .ok (.getfield 9, 3) := by decide +kernel
theorem dX1_countLoudNow_15 : decode cX1_countLoudNow 15 = .ok (.iload_n 2, 1) := by decide +kernel
theorem dX1_countLoudNow_16 : decode cX1_countLoudNow 16 = .ok (.iaload, 1) := by decide +kernel
theorem dX1_countLoudNow_17 : decode cX1_countLoudNow 17 = .ok (.invokestatic 34, 3) := by decide +kernel
theorem dX1_countLoudNow_20 : decode cX1_countLoudNow 20 = .ok (.iadd, 1) := by decide +kernel
theorem dX1_countLoudNow_21 : decode cX1_countLoudNow 21 = .ok (.istore_n 1, 1) := by decide +kernel
theorem dX1_countLoudNow_22 : decode cX1_countLoudNow 22 = .ok (.iinc 2 1, 3) := by decide +kernel
theorem dX1_countLoudNow_25 : decode cX1_countLoudNow 25 = .ok (.goto (-21), 3) := by decide +kernel
theorem dX1_countLoudNow_28 : decode cX1_countLoudNow 28 = .ok (.iload_n 1, 1) := by decide +kernel
theorem dX1_countLoudNow_29 : decode cX1_countLoudNow 29 = .ok (.ireturn, 1) := by decide +kernel
theorem dX1_hasTold_0 : decode cX1_hasTold 0 = .ok (.iconst 0, 1) := by decide +kernel
theorem dX1_hasTold_1 : decode cX1_hasTold 1 = .ok (.istore_n 1, 1) := by decide +kernel
theorem dX1_hasTold_2 : decode cX1_hasTold 2 = .ok (.iload_n 1, 1) := by decide +kernel
theorem dX1_hasTold_3 : decode cX1_hasTold 3 = .ok (.bipush 6, 2) := by decide +kernel
theorem dX1_hasTold_5 : decode cX1_hasTold 5 = .ok (.if_icmp .ge 20, 3) := by decide +kernel
theorem dX1_hasTold_8 : decode cX1_hasTold 8 = .ok (.aload_n 0, 1) := by decide +kernel
theorem dX1_hasTold_9 : decode cX1_hasTold 9 = .ok (.getfield 15, 3) := by decide +kernel
theorem dX1_hasTold_12 : decode cX1_hasTold 12 = .ok (.iload_n 1, 1) := by decide +kernel
theorem dX1_hasTold_13 : decode cX1_hasTold 13 = .ok (.iaload, 1) := by decide +kernel
theorem dX1_hasTold_14 : decode cX1_hasTold 14 = .ok (.ifCond .eq 5, 3) := by decide +kernel
theorem dX1_hasTold_17 : decode cX1_hasTold 17 = .ok (.iconst 1, 1) := by decide +kernel
theorem dX1_hasTold_18 : decode cX1_hasTold 18 = .ok (.ireturn, 1) := by decide +kernel
theorem dX1_hasTold_19 : decode cX1_hasTold 19 = .ok (.iinc 1 1, 3) := by decide +kernel
theorem dX1_hasTold_22 : decode cX1_hasTold 22 = .ok (.goto (-20), 3) := by decide +kernel
theorem dX1_hasTold_25 : decode cX1_hasTold 25 = .ok (.iconst 0, 1) := by decide +kernel
theorem dX1_hasTold_26 : decode cX1_hasTold 26 = .ok (.ireturn, 1) := by decide +kernel
theorem dX1_hasChanged_0 : decode cX1_hasChanged 0 = .ok (.iconst 0, 1) := by decide +kernel
theorem dX1_hasChanged_1 : decode cX1_hasChanged 1 = .ok (.istore_n 1, 1) := by decide +kernel
theorem dX1_hasChanged_2 : decode cX1_hasChanged 2 = .ok (.iload_n 1, 1) := by decide +kernel
theorem dX1_hasChanged_3 : decode cX1_hasChanged 3 = .ok (.bipush 6, 2) := by decide +kernel
theorem dX1_hasChanged_5 : decode cX1_hasChanged 5 = .ok (.if_icmp .ge 26, 3) := by decide +kernel
theorem dX1_hasChanged_8 : decode cX1_hasChanged 8 = .ok (.aload_n 0, 1) := by decide +kernel
theorem dX1_hasChanged_9 : decode cX1_hasChanged 9 = .ok (.getfield 15, 3) := by decide +kernel
theorem dX1_hasChanged_12 : decode cX1_hasChanged 12 = .ok (.iload_n 1, 1) := by decide +kernel
theorem dX1_hasChanged_13 : decode cX1_hasChanged 13 = .ok (.iaload, 1) := by decide +kernel
theorem dX1_hasChanged_14 : decode cX1_hasChanged 14 = .ok (.aload_n 0, 1) := by decide +kernel
theorem dX1_hasChanged_15 : decode cX1_hasChanged 15 = .ok (.getfield 9, 3) := by decide +kernel
theorem dX1_hasChanged_18 : decode cX1_hasChanged 18 = .ok (.iload_n 1, 1) := by decide +kernel
theorem dX1_hasChanged_19 : decode cX1_hasChanged 19 = .ok (.iaload, 1) := by decide +kernel
theorem dX1_hasChanged_20 : decode cX1_hasChanged 20 = .ok (.if_icmp .eq 5, 3) := by decide +kernel
theorem dX1_hasChanged_23 : decode cX1_hasChanged 23 = .ok (.iconst 1, 1) := by decide +kernel
theorem dX1_hasChanged_24 : decode cX1_hasChanged 24 = .ok (.ireturn, 1) := by decide +kernel
theorem dX1_hasChanged_25 : decode cX1_hasChanged 25 = .ok (.iinc 1 1, 3) := by decide +kernel
theorem dX1_hasChanged_28 : decode cX1_hasChanged 28 = .ok (.goto (-26), 3) := by decide +kernel
theorem dX1_hasChanged_31 : decode cX1_hasChanged 31 = .ok (.iconst 0, 1) := by decide +kernel
theorem dX1_hasChanged_32 : decode cX1_hasChanged 32 = .ok (.ireturn, 1) := by decide +kernel
theorem dX1_isDue_0 : decode cX1_isDue 0 = .ok (.aload_n 0, 1) := by decide +kernel
theorem dX1_isDue_1 : decode cX1_isDue 1 = .ok (.invokevirtual 40, 3) := by decide +kernel
theorem dX1_isDue_4 : decode cX1_isDue 4 = .ok (.ifCond .ne 8, 3) := by decide +kernel
theorem dX1_isDue_7 : decode cX1_isDue 7 = .ok (.aload_n 0, 1) := by decide +kernel
theorem dX1_isDue_8 : decode cX1_isDue 8 = .ok (.invokevirtual 44, 3) := by decide +kernel
theorem dX1_isDue_11 : decode cX1_isDue 11 = .ok (.ireturn, 1) := by decide +kernel
theorem dX1_isDue_12 : decode cX1_isDue 12 = .ok (.aload_n 0, 1) := by decide +kernel
theorem dX1_isDue_13 : decode cX1_isDue 13 = .ok (.invokevirtual 44, 3) := by decide +kernel
theorem dX1_isDue_16 : decode cX1_isDue 16 = .ok (.ifCond .ne 8, 3) := by decide +kernel
theorem dX1_isDue_19 : decode cX1_isDue 19 = .ok (.aload_n 0, 1) := by decide +kernel
theorem dX1_isDue_20 : decode cX1_isDue 20 = .ok (.getfield 22, 3) := by decide +kernel
theorem dX1_isDue_23 : decode cX1_isDue 23 = .ok (.ireturn, 1) := by decide +kernel
theorem dX1_isDue_24 : decode cX1_isDue 24 = .ok (.iload_n 1, 1) := by decide +kernel
theorem dX1_isDue_25 : decode cX1_isDue 25 = .ok (.aload_n 0, 1) := by decide +kernel
theorem dX1_isDue_26 : decode cX1_isDue 26 = .ok (.getfield 18, 3) := by decide +kernel
theorem dX1_isDue_29 : decode cX1_isDue 29 = .ok (.isub, 1) := by decide +kernel
theorem dX1_isDue_30 : decode cX1_isDue 30 = .ok (.istore_n 3, 1) := by decide +kernel
theorem dX1_isDue_31 : decode cX1_isDue 31 = .ok (.iload_n 3, 1) := by decide +kernel
theorem dX1_isDue_32 : decode cX1_isDue 32 = .ok (.iload_n 2, 1) := by decide +kernel
theorem dX1_isDue_33 : decode cX1_isDue 33 = .ok (.if_icmp .ge 15, 3) := by decide +kernel
theorem dX1_isDue_36 : decode cX1_isDue 36 = .ok (.iload_n 3, 1) := by decide +kernel
theorem dX1_isDue_37 : decode cX1_isDue 37 = .ok (.iconst 3, 1) := by decide +kernel
theorem dX1_isDue_38 : decode cX1_isDue 38 = .ok (.if_icmp .lt 14, 3) := by decide +kernel
theorem dX1_isDue_41 : decode cX1_isDue 41 = .ok (.aload_n 0, 1) := by decide +kernel
theorem dX1_isDue_42 : decode cX1_isDue 42 = .ok (.invokevirtual 47, 3) := by decide +kernel
theorem dX1_isDue_45 : decode cX1_isDue 45 = .ok (.ifCond .eq 7, 3) := by decide +kernel
theorem dX1_isDue_48 : decode cX1_isDue 48 = .ok (.iconst 1, 1) := by decide +kernel
theorem dX1_isDue_49 : decode cX1_isDue 49 = .ok (.goto 4, 3) := by decide +kernel
theorem dX1_isDue_52 : decode cX1_isDue 52 = .ok (.iconst 0, 1) := by decide +kernel
theorem dX1_isDue_53 : decode cX1_isDue 53 = .ok (.ireturn, 1) := by decide +kernel
theorem dX1_markTold_0 : decode cX1_markTold 0 = .ok (.aload_n 0, 1) := by decide +kernel
theorem dX1_markTold_1 : decode cX1_markTold 1 = .ok (.iload_n 1, 1) := by decide +kernel
theorem dX1_markTold_2 : decode cX1_markTold 2 = .ok (.putfield 18, 3) := by decide +kernel
theorem dX1_markTold_5 : decode cX1_markTold 5 = .ok (.aload_n 0, 1) := by decide +kernel
theorem dX1_markTold_6 : decode cX1_markTold 6 = .ok (.getfield 9, 3) := by decide +kernel
theorem dX1_markTold_9 : decode cX1_markTold 9 = .ok (.iconst 0, 1) := by decide +kernel
theorem dX1_markTold_10 : decode cX1_markTold 10 = .ok (.aload_n 0, 1) := by decide +kernel
theorem dX1_markTold_11 : decode cX1_markTold 11 = .ok (.getfield 15, 3) := by decide +kernel
theorem dX1_markTold_14 : decode cX1_markTold 14 = .ok (.iconst 0, 1) := by decide +kernel
theorem dX1_markTold_15 : decode cX1_markTold 15 = .ok (.bipush 6, 2) := by decide +kernel
theorem dX1_markTold_17 : decode cX1_markTold 17 = .ok (.invokestatic 50, 3) := by decide +kernel
theorem dX1_markTold_20 : decode cX1_markTold 20 = .ok (.return_, 1) := by decide +kernel
theorem dX2_init_0 : decode cX2_init 0 = .ok (.aload_n 0, 1) := by decide +kernel
theorem dX2_init_1 : decode cX2_init 1 = .ok (.invokespecial 3, 3) := by decide +kernel
theorem dX2_init_4 : decode cX2_init 4 = .ok (.aload_n 0, 1) := by decide +kernel
theorem dX2_init_5 : decode cX2_init 5 = .ok (.iload_n 1, 1) := by decide +kernel
theorem dX2_init_6 : decode cX2_init 6 = .ok (.putfield 9, 3) := by decide +kernel
theorem dX2_init_9 : decode cX2_init 9 = .ok (.aload_n 0, 1) := by decide +kernel
theorem dX2_init_10 : decode cX2_init 10 = .ok (.iload_n 2, 1) := by decide +kernel
theorem dX2_init_11 : decode cX2_init 11 = .ok (.putfield 15, 3) := by decide +kernel
theorem dX2_init_14 : decode cX2_init 14 = .ok (.aload_n 0, 1) := by decide +kernel
theorem dX2_init_15 : decode cX2_init 15 = .ok (.iload_n 3, 1) := by decide +kernel
theorem dX2_init_16 : decode cX2_init 16 = .ok (.putfield 18, 3) := by decide +kernel
theorem dX2_init_19 : decode cX2_init 19 = .ok (.return_, 1) := by decide +kernel
theorem dX2_covers_0 : decode cX2_covers 0 = .ok (.iload_n 3, 1) := by decide +kernel
theorem dX2_covers_1 : decode cX2_covers 1 = .ok (.aload_n 0, 1) := by decide +kernel
theorem dX2_covers_2 : decode cX2_covers 2 = .ok (.getfield 18, 3) := by decide +kernel
theorem dX2_covers_5 : decode cX2_covers 5 = .ok (.if_icmp .ge 39, 3) := by decide +kernel
theorem dX2_covers_8 : decode cX2_covers 8 = .ok (.aload_n 0, 1) := by decide +kernel
theorem dX2_covers_9 : decode cX2_covers 9 = .ok (.getfield 9, 3) := by decide +kernel
theorem dX2_covers_12 : decode cX2_covers 12 = .ok (.iconst (-1), 1) := by decide +kernel
theorem dX2_covers_13 : decode cX2_covers 13 = .ok (.if_icmp .eq 11, 3) := by decide +kernel
theorem dX2_covers_16 : decode cX2_covers 16 = .ok (.aload_n 0, 1) := by decide +kernel
theorem dX2_covers_17 : decode cX2_covers 17 = .ok (.getfield 9, 3) := by decide +kernel
theorem dX2_covers_20 : decode cX2_covers 20 = .ok (.iload_n 1, 1) := by decide +kernel
theorem dX2_covers_21 : decode cX2_covers 21 = .ok (.if_icmp .ne 23, 3) := by decide +kernel
theorem dX2_covers_24 : decode cX2_covers 24 = .ok (.aload_n 0, 1) := by decide +kernel
theorem dX2_covers_25 : decode cX2_covers 25 = .ok (.getfield 15, 3) := by decide +kernel
theorem dX2_covers_28 : decode cX2_covers 28 = .ok (.iconst (-1), 1) := by decide +kernel
theorem dX2_covers_29 : decode cX2_covers 29 = .ok (.if_icmp .eq 11, 3) := by decide +kernel
theorem dX2_covers_32 : decode cX2_covers 32 = .ok (.aload_n 0, 1) := by decide +kernel
theorem dX2_covers_33 : decode cX2_covers 33 = .ok (.getfield 15, 3) := by decide +kernel
theorem dX2_covers_36 : decode cX2_covers 36 = .ok (.iload_n 2, 1) := by decide +kernel
theorem dX2_covers_37 : decode cX2_covers 37 = .ok (.if_icmp .ne 7, 3) := by decide +kernel
theorem dX2_covers_40 : decode cX2_covers 40 = .ok (.iconst 1, 1) := by decide +kernel
theorem dX2_covers_41 : decode cX2_covers 41 = .ok (.goto 4, 3) := by decide +kernel
theorem dX2_covers_44 : decode cX2_covers 44 = .ok (.iconst 0, 1) := by decide +kernel
theorem dX2_covers_45 : decode cX2_covers 45 = .ok (.ireturn, 1) := by decide +kernel
theorem dX3_init_0 : decode cX3_init 0 = .ok (.aload_n 0, 1) := by decide +kernel
theorem dX3_init_1 : decode cX3_init 1 = .ok (.invokespecial 3, 3) := by decide +kernel
theorem dX3_init_4 : decode cX3_init 4 = .ok (.aload_n 0, 1) := by decide +kernel
theorem dX3_init_5 : decode cX3_init 5 = .ok (.bipush 30, 2) := by decide +kernel
theorem dX3_init_7 : decode cX3_init 7 = .ok (.iconst 4, 1) := by decide +kernel
theorem dX3_init_8 : decode cX3_init 8 = .ok (.multianewarray 9 2, 4) := by decide +kernel
theorem dX3_init_12 : decode cX3_init 12 = .ok (.putfield 11, 3) := by decide +kernel
theorem dX3_init_15 : decode cX3_init 15 = .ok (.aload_n 0, 1) := by decide +kernel
theorem dX3_init_16 : decode cX3_init 16 = .ok (.iconst 0, 1) := by decide +kernel
theorem dX3_init_17 : decode cX3_init 17 = .ok (.putfield 16, 3) := by decide +kernel
theorem dX3_init_20 : decode cX3_init 20 = .ok (.aload_n 0, 1) := by decide +kernel
theorem dX3_init_21 : decode cX3_init 21 = .ok (.iconst 0, 1) := by decide +kernel
theorem dX3_init_22 : decode cX3_init 22 = .ok (.putfield 20, 3) := by decide +kernel
theorem dX3_init_25 : decode cX3_init 25 = .ok (.aload_n 0, 1) := by decide +kernel
theorem dX3_init_26 : decode cX3_init 26 = .ok (.iconst 0, 1) := by decide +kernel
theorem dX3_init_27 : decode cX3_init 27 = .ok (.putfield 23, 3) := by decide +kernel
theorem dX3_init_30 : decode cX3_init 30 = .ok (.return_, 1) := by decide +kernel
theorem dX3_keep_0 : decode cX3_keep 0 = .ok (.aload_n 0, 1) := by decide +kernel
theorem dX3_keep_1 : decode cX3_keep 1 = .ok (.aload_n 0, 1) := by decide +kernel
theorem dX3_keep_2 : decode cX3_keep 2 = .ok (.getfield 16, 3) := by decide +kernel
theorem dX3_keep_5 : decode cX3_keep 5 = .ok (.iconst 1, 1) := by decide +kernel
theorem dX3_keep_6 : decode cX3_keep 6 = .ok (.iadd, 1) := by decide +kernel
theorem dX3_keep_7 : decode cX3_keep 7 = .ok (.bipush 30, 2) := by decide +kernel
theorem dX3_keep_9 : decode cX3_keep 9 = .ok (.irem, 1) := by decide +kernel
theorem dX3_keep_10 : decode cX3_keep 10 = .ok (.putfield 16, 3) := by decide +kernel
theorem dX3_keep_13 : decode cX3_keep 13 = .ok (.aload_n 0, 1) := by decide +kernel
theorem dX3_keep_14 : decode cX3_keep 14 = .ok (.aload_n 0, 1) := by decide +kernel
theorem dX3_keep_15 : decode cX3_keep 15 = .ok (.getfield 20, 3) := by decide +kernel
theorem dX3_keep_18 : decode cX3_keep 18 = .ok (.iconst 1, 1) := by decide +kernel
theorem dX3_keep_19 : decode cX3_keep 19 = .ok (.iadd, 1) := by decide +kernel
theorem dX3_keep_20 : decode cX3_keep 20 = .ok (.bipush 30, 2) := by decide +kernel
theorem dX3_keep_22 : decode cX3_keep 22 = .ok (.invokestatic 26, 3) := by decide +kernel
theorem dX3_keep_25 : decode cX3_keep 25 = .ok (.putfield 20, 3) := by decide +kernel
theorem dX3_keep_28 : decode cX3_keep 28 = .ok (.aload_n 0, 1) := by decide +kernel
theorem dX3_keep_29 : decode cX3_keep 29 = .ok (.dup, 1) := by decide +kernel
theorem dX3_keep_30 : decode cX3_keep 30 = .ok (.getfield 23, 3) := by decide +kernel
theorem dX3_keep_33 : decode cX3_keep 33 = .ok (.iconst 1, 1) := by decide +kernel
theorem dX3_keep_34 : decode cX3_keep 34 = .ok (.iadd, 1) := by decide +kernel
theorem dX3_keep_35 : decode cX3_keep 35 = .ok (.putfield 23, 3) := by decide +kernel
theorem dX3_keep_38 : decode cX3_keep 38 = .ok (.aload_n 0, 1) := by decide +kernel
theorem dX3_keep_39 : decode cX3_keep 39 = .ok (.getfield 11, 3) := by decide +kernel
theorem dX3_keep_42 : decode cX3_keep 42 = .ok (.aload_n 0, 1) := by decide +kernel
theorem dX3_keep_43 : decode cX3_keep 43 = .ok (.getfield 16, 3) := by decide +kernel
theorem dX3_keep_46 : decode cX3_keep 46 = .ok (.aaload, 1) := by decide +kernel
theorem dX3_keep_47 : decode cX3_keep 47 = .ok (.astore 5, 2) := by decide +kernel
theorem dX3_keep_49 : decode cX3_keep 49 = .ok (.aload 5, 2) := by decide +kernel
theorem dX3_keep_51 : decode cX3_keep 51 = .ok (.iconst 0, 1) := by decide +kernel
theorem dX3_keep_52 : decode cX3_keep 52 = .ok (.iload_n 1, 1) := by decide +kernel
theorem dX3_keep_53 : decode cX3_keep 53 = .ok (.iastore, 1) := by decide +kernel
theorem dX3_keep_54 : decode cX3_keep 54 = .ok (.aload 5, 2) := by decide +kernel
theorem dX3_keep_56 : decode cX3_keep 56 = .ok (.iconst 1, 1) := by decide +kernel
theorem dX3_keep_57 : decode cX3_keep 57 = .ok (.iload_n 2, 1) := by decide +kernel
theorem dX3_keep_58 : decode cX3_keep 58 = .ok (.iastore, 1) := by decide +kernel
theorem dX3_keep_59 : decode cX3_keep 59 = .ok (.aload 5, 2) := by decide +kernel
theorem dX3_keep_61 : decode cX3_keep 61 = .ok (.iconst 2, 1) := by decide +kernel
theorem dX3_keep_62 : decode cX3_keep 62 = .ok (.iload_n 3, 1) := by decide +kernel
theorem dX3_keep_63 : decode cX3_keep 63 = .ok (.iastore, 1) := by decide +kernel
theorem dX3_keep_64 : decode cX3_keep 64 = .ok (.aload 5, 2) := by decide +kernel
theorem dX3_keep_66 : decode cX3_keep 66 = .ok (.iconst 3, 1) := by decide +kernel
theorem dX3_keep_67 : decode cX3_keep 67 = .ok (.iload 4, 2) := by decide +kernel
theorem dX3_keep_69 : decode cX3_keep 69 = .ok (.iastore, 1) := by decide +kernel
theorem dX3_keep_70 : decode cX3_keep 70 = .ok (.return_, 1) := by decide +kernel
theorem dX3_factOf_0 : decode cX3_factOf 0 = .ok (.aload_n 0, 1) := by decide +kernel
theorem dX3_factOf_1 : decode cX3_factOf 1 = .ok (.getfield 11, 3) := by decide +kernel
theorem dX3_factOf_4 : decode cX3_factOf 4 = .ok (.aload_n 0, 1) := by decide +kernel
theorem dX3_factOf_5 : decode cX3_factOf 5 = .ok (.getfield 16, 3) := by decide +kernel
theorem dX3_factOf_8 : decode cX3_factOf 8 = .ok (.iload_n 1, 1) := by decide +kernel
theorem dX3_factOf_9 : decode cX3_factOf 9 = .ok (.isub, 1) := by decide +kernel
theorem dX3_factOf_10 : decode cX3_factOf 10 = .ok (.bipush 30, 2) := by decide +kernel
theorem dX3_factOf_12 : decode cX3_factOf 12 = .ok (.iadd, 1) := by decide +kernel
theorem dX3_factOf_13 : decode cX3_factOf 13 = .ok (.bipush 30, 2) := by decide +kernel
theorem dX3_factOf_15 : decode cX3_factOf 15 = .ok (.irem, 1) := by decide +kernel
theorem dX3_factOf_16 : decode cX3_factOf 16 = .ok (.aaload, 1) := by decide +kernel
theorem dX3_factOf_17 : decode cX3_factOf 17 = .ok (.iload_n 2, 1) := by decide +kernel
theorem dX3_factOf_18 : decode cX3_factOf 18 = .ok (.iaload, 1) := by decide +kernel
theorem dX3_factOf_19 : decode cX3_factOf 19 = .ok (.ireturn, 1) := by decide +kernel
theorem dX4_init_0 : decode cX4_init 0 = .ok (.aload_n 0, 1) := by decide +kernel
theorem dX4_init_1 : decode cX4_init 1 = .ok (.invokespecial 3, 3) := by decide +kernel
theorem dX4_init_4 : decode cX4_init 4 = .ok (.aload_n 0, 1) := by decide +kernel
theorem dX4_init_5 : decode cX4_init 5 = .ok (.iconst 0, 1) := by decide +kernel
theorem dX4_init_6 : decode cX4_init 6 = .ok (.putfield 9, 3) := by decide +kernel
theorem dX4_init_9 : decode cX4_init 9 = .ok (.aload_n 0, 1) := by decide +kernel
theorem dX4_init_10 : decode cX4_init 10 = .ok (.iconst 0, 1) := by decide +kernel
theorem dX4_init_11 : decode cX4_init 11 = .ok (.putfield 15, 3) := by decide +kernel
theorem dX4_init_14 : decode cX4_init 14 = .ok (.aload_n 0, 1) := by decide +kernel
theorem dX4_init_15 : decode cX4_init 15 = .ok (.bipush 12, 2) := by decide +kernel
theorem dX4_init_17 : decode cX4_init 17 = .ok (.anewarray 18, 3) := by decide +kernel
theorem dX4_init_20 : decode cX4_init 20 = .ok (.putfield 20, 3) := by decide +kernel
theorem dX4_init_23 : decode cX4_init 23 = .ok (.aload_n 0, 1) := by decide +kernel
theorem dX4_init_24 : decode cX4_init 24 = .ok (.iload_n 1, 1) := by decide +kernel
theorem dX4_init_25 : decode cX4_init 25 = .ok (.putfield 24, 3) := by decide +kernel
theorem dX4_init_28 : decode cX4_init 28 = .ok (.aload_n 0, 1) := by decide +kernel
theorem dX4_init_29 : decode cX4_init 29 = .ok (.iload_n 2, 1) := by decide +kernel
theorem dX4_init_30 : decode cX4_init 30 = .ok (.putfield 27, 3) := by decide +kernel
theorem dX4_init_33 : decode cX4_init 33 = .ok (.aload_n 0, 1) := by decide +kernel
theorem dX4_init_34 : decode cX4_init 34 = .ok (.iload_n 3, 1) := by decide +kernel
theorem dX4_init_35 : decode cX4_init 35 = .ok (.putfield 30, 3) := by decide +kernel
theorem dX4_init_38 : decode cX4_init 38 = .ok (.aload_n 0, 1) := by decide +kernel
theorem dX4_init_39 : decode cX4_init 39 = .ok (.iload 4, 2) := by decide +kernel
theorem dX4_init_41 : decode cX4_init 41 = .ok (.putfield 33, 3) := by decide +kernel
theorem dX4_init_44 : decode cX4_init 44 = .ok (.aload_n 0, 1) := by decide +kernel
theorem dX4_init_45 : decode cX4_init 45 = .ok (.iload 5, 2) := by decide +kernel
theorem dX4_init_47 : decode cX4_init 47 = .ok (.putfield 36, 3) := by decide +kernel
theorem dX4_init_50 : decode cX4_init 50 = .ok (.iconst 0, 1) := by decide +kernel
theorem dX4_init_51 : decode cX4_init 51 = .ok (.istore 6, 2) := by decide +kernel
theorem dX4_init_53 : decode cX4_init 53 = .ok (.iload 6, 2) := by decide +kernel
theorem dX4_init_55 : decode cX4_init 55 = .ok (.bipush 12, 2) := by decide +kernel
theorem dX4_init_57 : decode cX4_init 57 = .ok (.if_icmp .ge 23, 3) := by decide +kernel
theorem dX4_init_60 : decode cX4_init 60 = .ok (.aload_n 0, 1) := by decide +kernel
theorem dX4_init_61 : decode cX4_init 61 = .ok (.getfield 20, 3) := by decide +kernel
theorem dX4_init_64 : decode cX4_init 64 = .ok (.iload 6, 2) := by decide +kernel
theorem dX4_init_66 : decode cX4_init 66 = .ok (.new 18, 3) := by decide +kernel
theorem dX4_init_69 : decode cX4_init 69 = .ok (.dup, 1) := by decide +kernel
theorem dX4_init_70 : decode cX4_init 70 = .ok (.invokespecial 39, 3) := by decide +kernel
theorem dX4_init_73 : decode cX4_init 73 = .ok (.aastore, 1) := by decide +kernel
theorem dX4_init_74 : decode cX4_init 74 = .ok (.iinc 6 1, 3) := by decide +kernel
theorem dX4_init_77 : decode cX4_init 77 = .ok (.goto (-24), 3) := by decide +kernel
theorem dX4_init_80 : decode cX4_init 80 = .ok (.return_, 1) := by decide +kernel
theorem dX4_takes_0 : decode cX4_takes 0 = .ok (.aload_n 1, 1) := by decide +kernel
theorem dX4_takes_1 : decode cX4_takes 1 = .ok (.getfield 40, 3) := by decide +kernel
theorem dX4_takes_4 : decode cX4_takes 4 = .ok (.aload_n 0, 1) := by decide +kernel
theorem dX4_takes_5 : decode cX4_takes 5 = .ok (.getfield 27, 3) := by decide +kernel
theorem dX4_takes_8 : decode cX4_takes 8 = .ok (.if_icmp .eq 5, 3) := by decide +kernel
theorem dX4_takes_11 : decode cX4_takes 11 = .ok (.iconst 0, 1) := by decide +kernel
theorem dX4_takes_12 : decode cX4_takes 12 = .ok (.ireturn, 1) := by decide +kernel
theorem dX4_takes_13 : decode cX4_takes 13 = .ok (.aload_n 0, 1) := by decide +kernel
theorem dX4_takes_14 : decode cX4_takes 14 = .ok (.getfield 36, 3) := by decide +kernel
theorem dX4_takes_17 : decode cX4_takes 17 = .ok (.lookupswitch 55 #[(0, 27), (1, 41)], 27) := by decide +kernel
theorem dX4_takes_44 : decode cX4_takes 44 = .ok (.aload_n 1, 1) := by decide +kernel
theorem dX4_takes_45 : decode cX4_takes 45 = .ok (.getfield 43, 3) := by decide +kernel
theorem dX4_takes_48 : decode cX4_takes 48 = .ok (.iload_n 2, 1) := by decide +kernel
theorem dX4_takes_49 : decode cX4_takes 49 = .ok (.if_icmp .ne 7, 3) := by decide +kernel
theorem dX4_takes_52 : decode cX4_takes 52 = .ok (.iconst 1, 1) := by decide +kernel
theorem dX4_takes_53 : decode cX4_takes 53 = .ok (.goto 4, 3) := by decide +kernel
theorem dX4_takes_56 : decode cX4_takes 56 = .ok (.iconst 0, 1) := by decide +kernel
theorem dX4_takes_57 : decode cX4_takes 57 = .ok (.ireturn, 1) := by decide +kernel
theorem dX4_takes_58 : decode cX4_takes 58 = .ok (.aload_n 1, 1) := by decide +kernel
theorem dX4_takes_59 : decode cX4_takes 59 = .ok (.getfield 44, 3) := by decide +kernel
theorem dX4_takes_62 : decode cX4_takes 62 = .ok (.iload_n 2, 1) := by decide +kernel
theorem dX4_takes_63 : decode cX4_takes 63 = .ok (.if_icmp .ne 7, 3) := by decide +kernel
theorem dX4_takes_66 : decode cX4_takes 66 = .ok (.iconst 1, 1) := by decide +kernel
theorem dX4_takes_67 : decode cX4_takes 67 = .ok (.goto 4, 3) := by decide +kernel
theorem dX4_takes_70 : decode cX4_takes 70 = .ok (.iconst 0, 1) := by decide +kernel
theorem dX4_takes_71 : decode cX4_takes 71 = .ok (.ireturn, 1) := by decide +kernel
theorem dX4_takes_72 : decode cX4_takes 72 = .ok (.iload_n 2, 1) := by decide +kernel
theorem dX4_takes_73 : decode cX4_takes 73 = .ok (.ifCond .ne 7, 3) := by decide +kernel
theorem dX4_takes_76 : decode cX4_takes 76 = .ok (.iconst 1, 1) := by decide +kernel
theorem dX4_takes_77 : decode cX4_takes 77 = .ok (.goto 4, 3) := by decide +kernel
theorem dX4_takes_80 : decode cX4_takes 80 = .ok (.iconst 0, 1) := by decide +kernel
theorem dX4_takes_81 : decode cX4_takes 81 = .ok (.ireturn, 1) := by decide +kernel
theorem dX4_isBeyond_0 : decode cX4_isBeyond 0 = .ok (.aload_n 0, 1) := by decide +kernel
theorem dX4_isBeyond_1 : decode cX4_isBeyond 1 = .ok (.getfield 47, 3) := by decide +kernel
theorem dX4_isBeyond_4 : decode cX4_isBeyond 4 = .ok (.ifCond .eq 16, 3) := by decide +kernel
theorem dX4_isBeyond_7 : decode cX4_isBeyond 7 = .ok (.iload_n 1, 1) := by decide +kernel
theorem dX4_isBeyond_8 : decode cX4_isBeyond 8 = .ok (.iload_n 2, 1) := by decide +kernel
theorem dX4_isBeyond_9 : decode cX4_isBeyond 9 = .ok (.if_icmp .le 7, 3) := by decide +kernel
theorem dX4_isBeyond_12 : decode cX4_isBeyond 12 = .ok (.iconst 1, 1) := by decide +kernel
theorem dX4_isBeyond_13 : decode cX4_isBeyond 13 = .ok (.goto 17, 3) := by decide +kernel
theorem dX4_isBeyond_16 : decode cX4_isBeyond 16 = .ok (.iconst 0, 1) := by decide +kernel
theorem dX4_isBeyond_17 : decode cX4_isBeyond 17 = .ok (.goto 13, 3) := by decide +kernel
theorem dX4_isBeyond_20 : decode cX4_isBeyond 20 = .ok (.iload_n 1, 1) := by decide +kernel
theorem dX4_isBeyond_21 : decode cX4_isBeyond 21 = .ok (.iload_n 2, 1) := by decide +kernel
theorem dX4_isBeyond_22 : decode cX4_isBeyond 22 = .ok (.if_icmp .ge 7, 3) := by decide +kernel
theorem dX4_isBeyond_25 : decode cX4_isBeyond 25 = .ok (.iconst 1, 1) := by decide +kernel
theorem dX4_isBeyond_26 : decode cX4_isBeyond 26 = .ok (.goto 4, 3) := by decide +kernel
theorem dX4_isBeyond_29 : decode cX4_isBeyond 29 = .ok (.iconst 0, 1) := by decide +kernel
theorem dX4_isBeyond_30 : decode cX4_isBeyond 30 = .ok (.ireturn, 1) := by decide +kernel
theorem dX4_alertOf_0 : decode cX4_alertOf 0 = .ok (.iload_n 1, 1) := by decide +kernel
theorem dX4_alertOf_1 : decode cX4_alertOf 1 = .ok (.iconst 0, 1) := by decide +kernel
theorem dX4_alertOf_2 : decode cX4_alertOf 2 = .ok (.bipush 11, 2) := by decide +kernel
theorem dX4_alertOf_4 : decode cX4_alertOf 4 = .ok (.invokestatic 51, 3) := by decide +kernel
theorem dX4_alertOf_7 : decode cX4_alertOf 7 = .ok (.ifCond .eq 7, 3) := by decide +kernel
theorem dX4_alertOf_10 : decode cX4_alertOf 10 = .ok (.aconst_null, 1) := by decide +kernel
theorem dX4_alertOf_11 : decode cX4_alertOf 11 = .ok (.goto 9, 3) := by decide +kernel
theorem dX4_alertOf_14 : decode cX4_alertOf 14 = .ok (.aload_n 0, 1) := by decide +kernel
theorem dX4_alertOf_15 : decode cX4_alertOf 15 = .ok (.getfield 20, 3) := by decide +kernel
theorem dX4_alertOf_18 : decode cX4_alertOf 18 = .ok (.iload_n 1, 1) := by decide +kernel
theorem dX4_alertOf_19 : decode cX4_alertOf 19 = .ok (.aaload, 1) := by decide +kernel
theorem dX4_alertOf_20 : decode cX4_alertOf 20 = .ok (.areturn, 1) := by decide +kernel
end
section
theorem dX4_hasAlert_0 : decode cX4_hasAlert 0 = .ok (.aload_n 0, 1) := by decide +kernel
theorem dX4_hasAlert_1 : decode cX4_hasAlert 1 = .ok (.iload_n 1, 1) := by decide +kernel
theorem dX4_hasAlert_2 : decode cX4_hasAlert 2 = .ok (.invokevirtual 55, 3) := by decide +kernel
theorem dX4_hasAlert_5 : decode cX4_hasAlert 5 = .ok (.astore_n 2, 1) := by decide +kernel
theorem dX4_hasAlert_6 : decode cX4_hasAlert 6 = .ok (.aload_n 2, 1) := by decide +kernel
theorem dX4_hasAlert_7 : decode cX4_hasAlert 7 = .ok (.ifnull 14, 3) := by decide +kernel
theorem dX4_hasAlert_10 : decode cX4_hasAlert 10 = .ok (.aload_n 2, 1) := by decide +kernel
theorem dX4_hasAlert_11 : decode cX4_hasAlert 11 = .ok (.getfield 59, 3) := by decide +kernel
theorem dX4_hasAlert_14 : decode cX4_hasAlert 14 = .ok (.ifCond .eq 7, 3) := by decide +kernel
theorem dX4_hasAlert_17 : decode cX4_hasAlert 17 = .ok (.iconst 1, 1) := by decide +kernel
theorem dX4_hasAlert_18 : decode cX4_hasAlert 18 = .ok (.goto 4, 3) := by decide +kernel
theorem dX4_hasAlert_21 : decode cX4_hasAlert 21 = .ok (.iconst 0, 1) := by decide +kernel
theorem dX4_hasAlert_22 : decode cX4_hasAlert 22 = .ok (.ireturn, 1) := by decide +kernel
theorem dX4_burns_0 : decode cX4_burns 0 = .ok (.aload_n 0, 1) := by decide +kernel
theorem dX4_burns_1 : decode cX4_burns 1 = .ok (.iload_n 1, 1) := by decide +kernel
theorem dX4_burns_2 : decode cX4_burns 2 = .ok (.invokevirtual 55, 3) := by decide +kernel
theorem dX4_burns_5 : decode cX4_burns 5 = .ok (.astore_n 2, 1) := by decide +kernel
theorem dX4_burns_6 : decode cX4_burns 6 = .ok (.aload_n 2, 1) := by decide +kernel
theorem dX4_burns_7 : decode cX4_burns 7 = .ok (.ifnull 15, 3) := by decide +kernel
theorem dX4_burns_10 : decode cX4_burns 10 = .ok (.aload_n 2, 1) := by decide +kernel
theorem dX4_burns_11 : decode cX4_burns 11 = .ok (.getfield 59, 3) := by decide +kernel
theorem dX4_burns_14 : decode cX4_burns 14 = .ok (.iconst 2, 1) := by decide +kernel
theorem dX4_burns_15 : decode cX4_burns 15 = .ok (.if_icmp .ne 7, 3) := by decide +kernel
theorem dX4_burns_18 : decode cX4_burns 18 = .ok (.iconst 1, 1) := by decide +kernel
theorem dX4_burns_19 : decode cX4_burns 19 = .ok (.goto 4, 3) := by decide +kernel
theorem dX4_burns_22 : decode cX4_burns 22 = .ok (.iconst 0, 1) := by decide +kernel
theorem dX4_burns_23 : decode cX4_burns 23 = .ok (.ireturn, 1) := by decide +kernel
theorem dX4_countAlertsFrom_0 : decode cX4_countAlertsFrom 0 = .ok (.iconst 0, 1) := by decide +kernel
theorem dX4_countAlertsFrom_1 : decode cX4_countAlertsFrom 1 = .ok (.istore_n 2, 1) := by decide +kernel
theorem dX4_countAlertsFrom_2 : decode cX4_countAlertsFrom 2 = .ok (.iconst 0, 1) := by decide +kernel
theorem dX4_countAlertsFrom_3 : decode cX4_countAlertsFrom 3 = .ok (.istore_n 3, 1) := by decide +kernel
theorem dX4_countAlertsFrom_4 : decode cX4_countAlertsFrom 4 = .ok (.iload_n 3, 1) := by decide +kernel
theorem dX4_countAlertsFrom_5 : decode cX4_countAlertsFrom 5 = .ok (.bipush 12, 2) := by decide +kernel
theorem dX4_countAlertsFrom_7 : decode cX4_countAlertsFrom 7 = .ok (.if_icmp .ge 25, 3) := by decide +kernel
theorem dX4_countAlertsFrom_10 : decode cX4_countAlertsFrom 10 = .ok (.aload_n 0, 1) := by decide +kernel
theorem dX4_countAlertsFrom_11 : decode cX4_countAlertsFrom 11 = .ok (.getfield 20, 3) := by decide +kernel
theorem dX4_countAlertsFrom_14 : decode cX4_countAlertsFrom 14 = .ok (.iload_n 3, 1) := by decide +kernel
theorem dX4_countAlertsFrom_15 : decode cX4_countAlertsFrom 15 = .ok (.aaload, 1) := by decide +kernel
theorem dX4_countAlertsFrom_16 : decode cX4_countAlertsFrom 16 = .ok (.getfield 59, 3) := by decide +kernel
theorem dX4_countAlertsFrom_19 : decode cX4_countAlertsFrom 19 = .ok (.iload_n 1, 1) := by decide +kernel
theorem dX4_countAlertsFrom_20 : decode cX4_countAlertsFrom 20 = .ok (.if_icmp .lt 6, 3) := by decide +kernel
theorem dX4_countAlertsFrom_23 : decode cX4_countAlertsFrom 23 = .ok (.iinc 2 1, 3) := by decide +kernel
theorem dX4_countAlertsFrom_26 : decode cX4_countAlertsFrom 26 = .ok (.iinc 3 1, 3) := by decide +kernel
theorem dX4_countAlertsFrom_29 : decode cX4_countAlertsFrom 29 = .ok (.goto (-25), 3) := by decide +kernel
theorem dX4_countAlertsFrom_32 : decode cX4_countAlertsFrom 32 = .ok (.iload_n 2, 1) := by decide +kernel
theorem dX4_countAlertsFrom_33 : decode cX4_countAlertsFrom 33 = .ok (.ireturn, 1) := by decide +kernel
theorem dX4_keyOfAlert_0 : decode cX4_keyOfAlert 0 = .ok (.iconst 0, 1) := by decide +kernel
theorem dX4_keyOfAlert_1 : decode cX4_keyOfAlert 1 = .ok (.istore_n 2, 1) := by decide +kernel
theorem dX4_keyOfAlert_2 : decode cX4_keyOfAlert 2 = .ok (.iconst 0, 1) := by decide +kernel
theorem dX4_keyOfAlert_3 : decode cX4_keyOfAlert 3 = .ok (.istore_n 3, 1) := by decide +kernel
theorem dX4_keyOfAlert_4 : decode cX4_keyOfAlert 4 = .ok (.iload_n 3, 1) := by decide +kernel
theorem dX4_keyOfAlert_5 : decode cX4_keyOfAlert 5 = .ok (.bipush 12, 2) := by decide +kernel
theorem dX4_keyOfAlert_7 : decode cX4_keyOfAlert 7 = .ok (.if_icmp .ge 31, 3) := by decide +kernel
theorem dX4_keyOfAlert_10 : decode cX4_keyOfAlert 10 = .ok (.aload_n 0, 1) := by decide +kernel
theorem dX4_keyOfAlert_11 : decode cX4_keyOfAlert 11 = .ok (.getfield 20, 3) := by decide +kernel
theorem dX4_keyOfAlert_14 : decode cX4_keyOfAlert 14 = .ok (.iload_n 3, 1) := by decide +kernel
theorem dX4_keyOfAlert_15 : decode cX4_keyOfAlert 15 = .ok (.aaload, 1) := by decide +kernel
theorem dX4_keyOfAlert_16 : decode cX4_keyOfAlert 16 = .ok (.getfield 59, 3) := by decide +kernel
theorem dX4_keyOfAlert_19 : decode cX4_keyOfAlert 19 = .ok (.ifCond .eq 13, 3) := by decide +kernel
theorem dX4_keyOfAlert_22 : decode cX4_keyOfAlert 22 = .ok (.iload_n 2, 1) := by decide +kernel
theorem dX4_keyOfAlert_23 : decode cX4_keyOfAlert 23 = .ok (.iload_n 1, 1) := by decide +kernel
theorem dX4_keyOfAlert_24 : decode cX4_keyOfAlert 24 = .ok (.if_icmp .ne 5, 3) := by decide +kernel
theorem dX4_keyOfAlert_27 : decode cX4_keyOfAlert 27 = .ok (.iload_n 3, 1) := by decide +kernel
theorem dX4_keyOfAlert_28 : decode cX4_keyOfAlert 28 = .ok (.ireturn, 1) := by decide +kernel
theorem dX4_keyOfAlert_29 : decode cX4_keyOfAlert 29 = .ok (.iinc 2 1, 3) := by decide +kernel
theorem dX4_keyOfAlert_32 : decode cX4_keyOfAlert 32 = .ok (.iinc 3 1, 3) := by decide +kernel
theorem dX4_keyOfAlert_35 : decode cX4_keyOfAlert 35 = .ok (.goto (-31), 3) := by decide +kernel
theorem dX4_keyOfAlert_38 : decode cX4_keyOfAlert 38 = .ok (.iconst (-1), 1) := by decide +kernel
theorem dX4_keyOfAlert_39 : decode cX4_keyOfAlert 39 = .ok (.ireturn, 1) := by decide +kernel
theorem dX5_init_0 : decode cX5_init 0 = .ok (.aload_n 0, 1) := by decide +kernel
theorem dX5_init_1 : decode cX5_init 1 = .ok (.invokespecial 3, 3) := by decide +kernel
theorem dX5_init_4 : decode cX5_init 4 = .ok (.aload_n 0, 1) := by decide +kernel
theorem dX5_init_5 : decode cX5_init 5 = .ok (.bipush 6, 2) := by decide +kernel
theorem dX5_init_7 : decode cX5_init 7 = .ok (.newarray .int, 2) := by decide +kernel
theorem dX5_init_9 : decode cX5_init 9 = .ok (.putfield 9, 3) := by decide +kernel
theorem dX5_init_12 : decode cX5_init 12 = .ok (.aload_n 0, 1) := by decide +kernel
theorem dX5_init_13 : decode cX5_init 13 = .ok (.bipush 13, 2) := by decide +kernel
theorem dX5_init_15 : decode cX5_init 15 = .ok (.bipush 6, 2) := by decide +kernel
theorem dX5_init_17 : decode cX5_init 17 = .ok (.multianewarray 15 2, 4) := by decide +kernel
theorem dX5_init_21 : decode cX5_init 21 = .ok (.putfield 17, 3) := by decide +kernel
theorem dX5_init_24 : decode cX5_init 24 = .ok (.aload_n 0, 1) := by decide +kernel
theorem dX5_init_25 : decode cX5_init 25 = .ok (.iconst 0, 1) := by decide +kernel
theorem dX5_init_26 : decode cX5_init 26 = .ok (.putfield 20, 3) := by decide +kernel
theorem dX5_init_29 : decode cX5_init 29 = .ok (.aload_n 0, 1) := by decide +kernel
theorem dX5_init_30 : decode cX5_init 30 = .ok (.iconst 0, 1) := by decide +kernel
theorem dX5_init_31 : decode cX5_init 31 = .ok (.putfield 24, 3) := by decide +kernel
theorem dX5_init_34 : decode cX5_init 34 = .ok (.aload_n 0, 1) := by decide +kernel
theorem dX5_init_35 : decode cX5_init 35 = .ok (.iload_n 1, 1) := by decide +kernel
theorem dX5_init_36 : decode cX5_init 36 = .ok (.putfield 27, 3) := by decide +kernel
theorem dX5_init_39 : decode cX5_init 39 = .ok (.aload_n 0, 1) := by decide +kernel
theorem dX5_init_40 : decode cX5_init 40 = .ok (.iload_n 2, 1) := by decide +kernel
theorem dX5_init_41 : decode cX5_init 41 = .ok (.putfield 30, 3) := by decide +kernel
theorem dX5_init_44 : decode cX5_init 44 = .ok (.aload_n 0, 1) := by decide +kernel
theorem dX5_init_45 : decode cX5_init 45 = .ok (.iload_n 3, 1) := by decide +kernel
theorem dX5_init_46 : decode cX5_init 46 = .ok (.putfield 33, 3) := by decide +kernel
theorem dX5_init_49 : decode cX5_init 49 = .ok (.aload_n 0, 1) := by decide +kernel
theorem dX5_init_50 : decode cX5_init 50 = .ok (.iload 4, 2) := by decide +kernel
theorem dX5_init_52 : decode cX5_init 52 = .ok (.putfield 36, 3) := by decide +kernel
theorem dX5_init_55 : decode cX5_init 55 = .ok (.return_, 1) := by decide +kernel
theorem dX5_take_0 : decode cX5_take 0 = .ok (.aload_n 0, 1) := by decide +kernel
theorem dX5_take_1 : decode cX5_take 1 = .ok (.getfield 30, 3) := by decide +kernel
theorem dX5_take_4 : decode cX5_take 4 = .ok (.iconst 1, 1) := by decide +kernel
theorem dX5_take_5 : decode cX5_take 5 = .ok (.if_icmp .ne 13, 3) := by decide +kernel
theorem dX5_take_8 : decode cX5_take 8 = .ok (.aload_n 0, 1) := by decide +kernel
theorem dX5_take_9 : decode cX5_take 9 = .ok (.getfield 9, 3) := by decide +kernel
theorem dX5_take_12 : decode cX5_take 12 = .ok (.iconst 0, 1) := by decide +kernel
theorem dX5_take_13 : decode cX5_take 13 = .ok (.iload_n 1, 1) := by decide +kernel
theorem dX5_take_14 : decode cX5_take 14 = .ok (.iastore, 1) := by decide +kernel
theorem dX5_take_15 : decode cX5_take 15 = .ok (.goto 46, 3) := by decide +kernel
theorem dX5_take_18 : decode cX5_take 18 = .ok (.aload_n 0, 1) := by decide +kernel
theorem dX5_take_19 : decode cX5_take 19 = .ok (.getfield 30, 3) := by decide +kernel
theorem dX5_take_22 : decode cX5_take 22 = .ok (.ifCond .ne 16, 3) := by decide +kernel
theorem dX5_take_25 : decode cX5_take 25 = .ok (.aload_n 0, 1) := by decide +kernel
theorem dX5_take_26 : decode cX5_take 26 = .ok (.getfield 9, 3) := by decide +kernel
theorem dX5_take_29 : decode cX5_take 29 = .ok (.iconst 0, 1) := by decide +kernel
theorem dX5_take_30 : decode cX5_take 30 = .ok (.dup2, 1) := by decide +kernel
theorem dX5_take_31 : decode cX5_take 31 = .ok (.iaload, 1) := by decide +kernel
theorem dX5_take_32 : decode cX5_take 32 = .ok (.iload_n 1, 1) := by decide +kernel
theorem dX5_take_33 : decode cX5_take 33 = .ok (.iadd, 1) := by decide +kernel
theorem dX5_take_34 : decode cX5_take 34 = .ok (.iastore, 1) := by decide +kernel
theorem dX5_take_35 : decode cX5_take 35 = .ok (.goto 26, 3) := by decide +kernel
theorem dX5_take_38 : decode cX5_take 38 = .ok (.aload_n 0, 1) := by decide +kernel
theorem dX5_take_39 : decode cX5_take 39 = .ok (.getfield 9, 3) := by decide +kernel
theorem dX5_take_42 : decode cX5_take 42 = .ok (.iload_n 1, 1) := by decide +kernel
theorem dX5_take_43 : decode cX5_take 43 = .ok (.invokestatic 39, 3) := by decide +kernel
theorem dX5_take_46 : decode cX5_take 46 = .ok (.dup2, 1) := by decide +kernel
theorem dX5_take_47 : decode cX5_take 47 = .ok (.iaload, 1) := by decide +kernel
theorem dX5_take_48 : decode cX5_take 48 = .ok (.iconst 1, 1) := by decide +kernel
theorem dX5_take_49 : decode cX5_take 49 = .ok (.iadd, 1) := by decide +kernel
theorem dX5_take_50 : decode cX5_take 50 = .ok (.iastore, 1) := by decide +kernel
theorem dX5_take_51 : decode cX5_take 51 = .ok (.aload_n 0, 1) := by decide +kernel
theorem dX5_take_52 : decode cX5_take 52 = .ok (.getfield 9, 3) := by decide +kernel
theorem dX5_take_55 : decode cX5_take 55 = .ok (.iconst 0, 1) := by decide +kernel
theorem dX5_take_56 : decode cX5_take 56 = .ok (.dup2, 1) := by decide +kernel
theorem dX5_take_57 : decode cX5_take 57 = .ok (.iaload, 1) := by decide +kernel
theorem dX5_take_58 : decode cX5_take 58 = .ok (.iconst 1, 1) := by decide +kernel
theorem dX5_take_59 : decode cX5_take 59 = .ok (.iadd, 1) := by decide +kernel
theorem dX5_take_60 : decode cX5_take 60 = .ok (.iastore, 1) := by decide +kernel
theorem dX5_take_61 : decode cX5_take 61 = .ok (.return_, 1) := by decide +kernel
theorem dX5_columnFor_0 : decode cX5_columnFor 0 = .ok (.iconst 1, 1) := by decide +kernel
theorem dX5_columnFor_1 : decode cX5_columnFor 1 = .ok (.istore_n 1, 1) := by decide +kernel
theorem dX5_columnFor_2 : decode cX5_columnFor 2 = .ok (.iload_n 1, 1) := by decide +kernel
theorem dX5_columnFor_3 : decode cX5_columnFor 3 = .ok (.iconst 5, 1) := by decide +kernel
theorem dX5_columnFor_4 : decode cX5_columnFor 4 = .ok (.if_icmp .ge 18, 3) := by decide +kernel
theorem dX5_columnFor_7 : decode cX5_columnFor 7 = .ok (.iload_n 0, 1) := by decide +kernel
theorem dX5_columnFor_8 : decode cX5_columnFor 8 = .ok (.getstatic 43, 3) := by decide +kernel
theorem dX5_columnFor_11 : decode cX5_columnFor 11 = .ok (.iload_n 1, 1) := by decide +kernel
theorem dX5_columnFor_12 : decode cX5_columnFor 12 = .ok (.iaload, 1) := by decide +kernel
theorem dX5_columnFor_13 : decode cX5_columnFor 13 = .ok (.if_icmp .le 9, 3) := by decide +kernel
theorem dX5_columnFor_16 : decode cX5_columnFor 16 = .ok (.iinc 1 1, 3) := by decide +kernel
theorem dX5_columnFor_19 : decode cX5_columnFor 19 = .ok (.goto (-17), 3) := by decide +kernel
theorem dX5_columnFor_22 : decode cX5_columnFor 22 = .ok (.iload_n 1, 1) := by decide +kernel
theorem dX5_columnFor_23 : decode cX5_columnFor 23 = .ok (.ireturn, 1) := by decide +kernel
theorem dX5_beginAnew_0 : decode cX5_beginAnew 0 = .ok (.iconst 0, 1) := by decide +kernel
theorem dX5_beginAnew_1 : decode cX5_beginAnew 1 = .ok (.istore_n 1, 1) := by decide +kernel
theorem dX5_beginAnew_2 : decode cX5_beginAnew 2 = .ok (.iload_n 1, 1) := by decide +kernel
theorem dX5_beginAnew_3 : decode cX5_beginAnew 3 = .ok (.bipush 6, 2) := by decide +kernel
theorem dX5_beginAnew_5 : decode cX5_beginAnew 5 = .ok (.if_icmp .ge 16, 3) := by decide +kernel
theorem dX5_beginAnew_8 : decode cX5_beginAnew 8 = .ok (.aload_n 0, 1) := by decide +kernel
theorem dX5_beginAnew_9 : decode cX5_beginAnew 9 = .ok (.getfield 9, 3) := by decide +kernel
theorem dX5_beginAnew_12 : decode cX5_beginAnew 12 = .ok (.iload_n 1, 1) := by decide +kernel
theorem dX5_beginAnew_13 : decode cX5_beginAnew 13 = .ok (.iconst 0, 1) := by decide +kernel
theorem dX5_beginAnew_14 : decode cX5_beginAnew 14 = .ok (.iastore, 1) := by decide +kernel
theorem dX5_beginAnew_15 : decode cX5_beginAnew 15 = .ok (.iinc 1 1, 3) := by decide +kernel
theorem dX5_beginAnew_18 : decode cX5_beginAnew 18 = .ok (.goto (-16), 3) := by decide +kernel
theorem dX5_beginAnew_21 : decode cX5_beginAnew 21 = .ok (.return_, 1) := by decide +kernel
theorem dX5_keepSample_0 : decode cX5_keepSample 0 = .ok (.aload_n 0, 1) := by decide +kernel
theorem dX5_keepSample_1 : decode cX5_keepSample 1 = .ok (.aload_n 0, 1) := by decide +kernel
theorem dX5_keepSample_2 : decode cX5_keepSample 2 = .ok (.getfield 20, 3) := by decide +kernel
theorem dX5_keepSample_5 : decode cX5_keepSample 5 = .ok (.iconst 1, 1) := by decide +kernel
theorem dX5_keepSample_6 : decode cX5_keepSample 6 = .ok (.iadd, 1) := by decide +kernel
theorem dX5_keepSample_7 : decode cX5_keepSample 7 = .ok (.bipush 13, 2) := by decide +kernel
theorem dX5_keepSample_9 : decode cX5_keepSample 9 = .ok (.irem, 1) := by decide +kernel
theorem dX5_keepSample_10 : decode cX5_keepSample 10 = .ok (.putfield 20, 3) := by decide +kernel
theorem dX5_keepSample_13 : decode cX5_keepSample 13 = .ok (.aload_n 0, 1) := by decide +kernel
theorem dX5_keepSample_14 : decode cX5_keepSample 14 = .ok (.aload_n 0, 1) := by decide +kernel
theorem dX5_keepSample_15 : decode cX5_keepSample 15 = .ok (.getfield 24, 3) := by decide +kernel
theorem dX5_keepSample_18 : decode cX5_keepSample 18 = .ok (.iconst 1, 1) := by decide +kernel
theorem dX5_keepSample_19 : decode cX5_keepSample 19 = .ok (.iadd, 1) := by decide +kernel
theorem dX5_keepSample_20 : decode cX5_keepSample 20 = .ok (.bipush 13, 2) := by decide +kernel
theorem dX5_keepSample_22 : decode cX5_keepSample 22 = .ok (.invokestatic 46, 3) := by decide +kernel
theorem dX5_keepSample_25 : decode cX5_keepSample 25 = .ok (.putfield 24, 3) := by decide +kernel
theorem dX5_keepSample_28 : decode cX5_keepSample 28 = .ok (.aload_n 0, 1) := by decide +kernel
theorem dX5_keepSample_29 : decode cX5_keepSample 29 = .ok (.getfield 9, 3) := by decide +kernel
theorem dX5_keepSample_32 : decode cX5_keepSample 32 = .ok (.iconst 0, 1) := by decide +kernel
theorem dX5_keepSample_33 : decode cX5_keepSample 33 = .ok (.aload_n 0, 1) := by decide +kernel
theorem dX5_keepSample_34 : decode cX5_keepSample 34 = .ok (.getfield 17, 3) := by decide +kernel
theorem dX5_keepSample_37 : decode cX5_keepSample 37 = .ok (.aload_n 0, 1) := by decide +kernel
theorem dX5_keepSample_38 : decode cX5_keepSample 38 = .ok (.getfield 20, 3) := by decide +kernel
theorem dX5_keepSample_41 : decode cX5_keepSample 41 = .ok (.aaload, 1) := by decide +kernel
theorem dX5_keepSample_42 : decode cX5_keepSample 42 = .ok (.iconst 0, 1) := by decide +kernel
theorem dX5_keepSample_43 : decode cX5_keepSample 43 = .ok (.bipush 6, 2) := by decide +kernel
theorem dX5_keepSample_45 : decode cX5_keepSample 45 = .ok (.invokestatic 52, 3) := by decide +kernel
theorem dX5_keepSample_48 : decode cX5_keepSample 48 = .ok (.return_, 1) := by decide +kernel
theorem dX5_past_0 : decode cX5_past 0 = .ok (.iload_n 2, 1) := by decide +kernel
theorem dX5_past_1 : decode cX5_past 1 = .ok (.iload_n 3, 1) := by decide +kernel
theorem dX5_past_2 : decode cX5_past 2 = .ok (.if_icmp .ge 10, 3) := by decide +kernel
theorem dX5_past_5 : decode cX5_past 5 = .ok (.aload_n 0, 1) := by decide +kernel
theorem dX5_past_6 : decode cX5_past 6 = .ok (.getfield 9, 3) := by decide +kernel
theorem dX5_past_9 : decode cX5_past 9 = .ok (.iload_n 1, 1) := by decide +kernel
theorem dX5_past_10 : decode cX5_past 10 = .ok (.iaload, 1) := by decide +kernel
theorem dX5_past_11 : decode cX5_past 11 = .ok (.ireturn, 1) := by decide +kernel
theorem dX5_past_12 : decode cX5_past 12 = .ok (.iload_n 2, 1) := by decide +kernel
theorem dX5_past_13 : decode cX5_past 13 = .ok (.iload_n 3, 1) := by decide +kernel
theorem dX5_past_14 : decode cX5_past 14 = .ok (.isub, 1) := by decide +kernel
theorem dX5_past_15 : decode cX5_past 15 = .ok (.istore 4, 2) := by decide +kernel
theorem dX5_past_17 : decode cX5_past 17 = .ok (.iload 4, 2) := by decide +kernel
theorem dX5_past_19 : decode cX5_past 19 = .ok (.aload_n 0, 1) := by decide +kernel
theorem dX5_past_20 : decode cX5_past 20 = .ok (.getfield 24, 3) := by decide +kernel
theorem dX5_past_23 : decode cX5_past 23 = .ok (.if_icmp .lt 5, 3) := by decide +kernel
theorem dX5_past_26 : decode cX5_past 26 = .ok (.iconst 0, 1) := by decide +kernel
theorem dX5_past_27 : decode cX5_past 27 = .ok (.ireturn, 1) := by decide +kernel
theorem dX5_past_28 : decode cX5_past 28 = .ok (.aload_n 0, 1) := by decide +kernel
theorem dX5_past_29 : decode cX5_past 29 = .ok (.getfield 17, 3) := by decide +kernel
theorem dX5_past_32 : decode cX5_past 32 = .ok (.aload_n 0, 1) := by decide +kernel
theorem dX5_past_33 : decode cX5_past 33 = .ok (.getfield 20, 3) := by decide +kernel
theorem dX5_past_36 : decode cX5_past 36 = .ok (.iload 4, 2) := by decide +kernel
theorem dX5_past_38 : decode cX5_past 38 = .ok (.isub, 1) := by decide +kernel
theorem dX5_past_39 : decode cX5_past 39 = .ok (.bipush 13, 2) := by decide +kernel
theorem dX5_past_41 : decode cX5_past 41 = .ok (.iadd, 1) := by decide +kernel
theorem dX5_past_42 : decode cX5_past 42 = .ok (.bipush 13, 2) := by decide +kernel
theorem dX5_past_44 : decode cX5_past 44 = .ok (.irem, 1) := by decide +kernel
theorem dX5_past_45 : decode cX5_past 45 = .ok (.aaload, 1) := by decide +kernel
theorem dX5_past_46 : decode cX5_past 46 = .ok (.iload_n 1, 1) := by decide +kernel
theorem dX5_past_47 : decode cX5_past 47 = .ok (.iaload, 1) := by decide +kernel
theorem dX5_past_48 : decode cX5_past 48 = .ok (.ireturn, 1) := by decide +kernel
theorem dX5_lookOver_0 : decode cX5_lookOver 0 = .ok (.iload_n 1, 1) := by decide +kernel
theorem dX5_lookOver_1 : decode cX5_lookOver 1 = .ok (.tableswitch 74 0 4 #[35, 43, 51, 58, 66], 35) := by decide +kernel
theorem dX5_lookOver_36 : decode cX5_lookOver 36 = .ok (.aload_n 0, 1) := by decide +kernel
theorem dX5_lookOver_37 : decode cX5_lookOver 37 = .ok (.iconst 0, 1) := by decide +kernel
theorem dX5_lookOver_38 : decode cX5_lookOver 38 = .ok (.iconst 0, 1) := by decide +kernel
theorem dX5_lookOver_39 : decode cX5_lookOver 39 = .ok (.iload_n 3, 1) := by decide +kernel
theorem dX5_lookOver_40 : decode cX5_lookOver 40 = .ok (.invokevirtual 58, 3) := by decide +kernel
theorem dX5_lookOver_43 : decode cX5_lookOver 43 = .ok (.ireturn, 1) := by decide +kernel
theorem dX5_lookOver_44 : decode cX5_lookOver 44 = .ok (.aload_n 0, 1) := by decide +kernel
theorem dX5_lookOver_45 : decode cX5_lookOver 45 = .ok (.iconst 0, 1) := by decide +kernel
theorem dX5_lookOver_46 : decode cX5_lookOver 46 = .ok (.iload_n 2, 1) := by decide +kernel
theorem dX5_lookOver_47 : decode cX5_lookOver 47 = .ok (.iload_n 3, 1) := by decide +kernel
theorem dX5_lookOver_48 : decode cX5_lookOver 48 = .ok (.invokevirtual 62, 3) := by decide +kernel
theorem dX5_lookOver_51 : decode cX5_lookOver 51 = .ok (.ireturn, 1) := by decide +kernel
theorem dX5_lookOver_52 : decode cX5_lookOver 52 = .ok (.aload_n 0, 1) := by decide +kernel
theorem dX5_lookOver_53 : decode cX5_lookOver 53 = .ok (.iload_n 2, 1) := by decide +kernel
theorem dX5_lookOver_54 : decode cX5_lookOver 54 = .ok (.iload_n 3, 1) := by decide +kernel
theorem dX5_lookOver_55 : decode cX5_lookOver 55 = .ok (.invokevirtual 65, 3) := by decide +kernel
theorem dX5_lookOver_58 : decode cX5_lookOver 58 = .ok (.ireturn, 1) := by decide +kernel
theorem dX5_lookOver_59 : decode cX5_lookOver 59 = .ok (.aload_n 0, 1) := by decide +kernel
theorem dX5_lookOver_60 : decode cX5_lookOver 60 = .ok (.iload_n 2, 1) := by decide +kernel
theorem dX5_lookOver_61 : decode cX5_lookOver 61 = .ok (.iload_n 3, 1) := by decide +kernel
theorem dX5_lookOver_62 : decode cX5_lookOver 62 = .ok (.iconst 1, 1) := by decide +kernel
theorem dX5_lookOver_63 : decode cX5_lookOver 63 = .ok (.invokevirtual 68, 3) := by decide +kernel
theorem dX5_lookOver_66 : decode cX5_lookOver 66 = .ok (.ireturn, 1) := by decide +kernel
theorem dX5_lookOver_67 : decode cX5_lookOver 67 = .ok (.aload_n 0, 1) := by decide +kernel
theorem dX5_lookOver_68 : decode cX5_lookOver 68 = .ok (.iload_n 2, 1) := by decide +kernel
theorem dX5_lookOver_69 : decode cX5_lookOver 69 = .ok (.iload_n 3, 1) := by decide +kernel
theorem dX5_lookOver_70 : decode cX5_lookOver 70 = .ok (.iconst 0, 1) := by decide +kernel
theorem dX5_lookOver_71 : decode cX5_lookOver 71 = .ok (.invokevirtual 68, 3) := by decide +kernel
theorem dX5_lookOver_74 : decode cX5_lookOver 74 = .ok (.ireturn, 1) := by decide +kernel
theorem dX5_lookOver_75 : decode cX5_lookOver 75 = .ok (.aload_n 0, 1) := by decide +kernel
theorem dX5_lookOver_76 : decode cX5_lookOver 76 = .ok (.getfield 30, 3) := by decide +kernel
theorem dX5_lookOver_79 : decode cX5_lookOver 79 = .ok (.iconst 2, 1) := by decide +kernel
theorem dX5_lookOver_80 : decode cX5_lookOver 80 = .ok (.if_icmp .ne 19, 3) := by decide +kernel
theorem dX5_lookOver_83 : decode cX5_lookOver 83 = .ok (.aload_n 0, 1) := by decide +kernel
theorem dX5_lookOver_84 : decode cX5_lookOver 84 = .ok (.getstatic 72, 3) := by decide +kernel
theorem dX5_lookOver_87 : decode cX5_lookOver 87 = .ok (.iload_n 1, 1) := by decide +kernel
theorem dX5_lookOver_88 : decode cX5_lookOver 88 = .ok (.iconst 5, 1) := by decide +kernel
theorem dX5_lookOver_89 : decode cX5_lookOver 89 = .ok (.isub, 1) := by decide +kernel
theorem dX5_lookOver_90 : decode cX5_lookOver 90 = .ok (.iaload, 1) := by decide +kernel
theorem dX5_lookOver_91 : decode cX5_lookOver 91 = .ok (.iload_n 2, 1) := by decide +kernel
theorem dX5_lookOver_92 : decode cX5_lookOver 92 = .ok (.iload_n 3, 1) := by decide +kernel
theorem dX5_lookOver_93 : decode cX5_lookOver 93 = .ok (.invokevirtual 75, 3) := by decide +kernel
theorem dX5_lookOver_96 : decode cX5_lookOver 96 = .ok (.goto 4, 3) := by decide +kernel
theorem dX5_lookOver_99 : decode cX5_lookOver 99 = .ok (.iconst 0, 1) := by decide +kernel
theorem dX5_lookOver_100 : decode cX5_lookOver 100 = .ok (.ireturn, 1) := by decide +kernel
theorem dX5_growthOf_0 : decode cX5_growthOf 0 = .ok (.iconst 0, 1) := by decide +kernel
theorem dX5_growthOf_1 : decode cX5_growthOf 1 = .ok (.istore 4, 2) := by decide +kernel
theorem dX5_growthOf_3 : decode cX5_growthOf 3 = .ok (.iload_n 2, 1) := by decide +kernel
theorem dX5_growthOf_4 : decode cX5_growthOf 4 = .ok (.iconst 1, 1) := by decide +kernel
theorem dX5_growthOf_5 : decode cX5_growthOf 5 = .ok (.iadd, 1) := by decide +kernel
theorem dX5_growthOf_6 : decode cX5_growthOf 6 = .ok (.aload_n 0, 1) := by decide +kernel
theorem dX5_growthOf_7 : decode cX5_growthOf 7 = .ok (.getfield 24, 3) := by decide +kernel
theorem dX5_growthOf_10 : decode cX5_growthOf 10 = .ok (.iload_n 3, 1) := by decide +kernel
theorem dX5_growthOf_11 : decode cX5_growthOf 11 = .ok (.iadd, 1) := by decide +kernel
theorem dX5_growthOf_12 : decode cX5_growthOf 12 = .ok (.invokestatic 46, 3) := by decide +kernel
theorem dX5_growthOf_15 : decode cX5_growthOf 15 = .ok (.iconst 1, 1) := by decide +kernel
theorem dX5_growthOf_16 : decode cX5_growthOf 16 = .ok (.isub, 1) := by decide +kernel
theorem dX5_growthOf_17 : decode cX5_growthOf 17 = .ok (.istore 5, 2) := by decide +kernel
theorem dX5_growthOf_19 : decode cX5_growthOf 19 = .ok (.iload 5, 2) := by decide +kernel
theorem dX5_growthOf_21 : decode cX5_growthOf 21 = .ok (.ifCond .le 51, 3) := by decide +kernel
theorem dX5_growthOf_24 : decode cX5_growthOf 24 = .ok (.aload_n 0, 1) := by decide +kernel
theorem dX5_growthOf_25 : decode cX5_growthOf 25 = .ok (.iload_n 1, 1) := by decide +kernel
theorem dX5_growthOf_26 : decode cX5_growthOf 26 = .ok (.iload 5, 2) := by decide +kernel
theorem dX5_growthOf_28 : decode cX5_growthOf 28 = .ok (.iconst 1, 1) := by decide +kernel
theorem dX5_growthOf_29 : decode cX5_growthOf 29 = .ok (.isub, 1) := by decide +kernel
theorem dX5_growthOf_30 : decode cX5_growthOf 30 = .ok (.iload_n 3, 1) := by decide +kernel
theorem dX5_growthOf_31 : decode cX5_growthOf 31 = .ok (.invokevirtual 58, 3) := by decide +kernel
theorem dX5_growthOf_34 : decode cX5_growthOf 34 = .ok (.istore 6, 2) := by decide +kernel
theorem dX5_growthOf_36 : decode cX5_growthOf 36 = .ok (.iload 6, 2) := by decide +kernel
theorem dX5_growthOf_38 : decode cX5_growthOf 38 = .ok (.aload_n 0, 1) := by decide +kernel
theorem dX5_growthOf_39 : decode cX5_growthOf 39 = .ok (.iload_n 1, 1) := by decide +kernel
theorem dX5_growthOf_40 : decode cX5_growthOf 40 = .ok (.iload 5, 2) := by decide +kernel
theorem dX5_growthOf_42 : decode cX5_growthOf 42 = .ok (.iload_n 3, 1) := by decide +kernel
theorem dX5_growthOf_43 : decode cX5_growthOf 43 = .ok (.invokevirtual 58, 3) := by decide +kernel
theorem dX5_growthOf_46 : decode cX5_growthOf 46 = .ok (.isub, 1) := by decide +kernel
theorem dX5_growthOf_47 : decode cX5_growthOf 47 = .ok (.istore 7, 2) := by decide +kernel
theorem dX5_growthOf_49 : decode cX5_growthOf 49 = .ok (.iload 4, 2) := by decide +kernel
theorem dX5_growthOf_51 : decode cX5_growthOf 51 = .ok (.iload 7, 2) := by decide +kernel
theorem dX5_growthOf_53 : decode cX5_growthOf 53 = .ok (.ifCond .ge 8, 3) := by decide +kernel
theorem dX5_growthOf_56 : decode cX5_growthOf 56 = .ok (.iload 6, 2) := by decide +kernel
theorem dX5_growthOf_58 : decode cX5_growthOf 58 = .ok (.goto 5, 3) := by decide +kernel
theorem dX5_growthOf_61 : decode cX5_growthOf 61 = .ok (.iload 7, 2) := by decide +kernel
theorem dX5_growthOf_63 : decode cX5_growthOf 63 = .ok (.iadd, 1) := by decide +kernel
theorem dX5_growthOf_64 : decode cX5_growthOf 64 = .ok (.istore 4, 2) := by decide +kernel
theorem dX5_growthOf_66 : decode cX5_growthOf 66 = .ok (.iinc 5 (-1), 3) := by decide +kernel
theorem dX5_growthOf_69 : decode cX5_growthOf 69 = .ok (.goto (-50), 3) := by decide +kernel
theorem dX5_growthOf_72 : decode cX5_growthOf 72 = .ok (.iload 4, 2) := by decide +kernel
theorem dX5_growthOf_74 : decode cX5_growthOf 74 = .ok (.ireturn, 1) := by decide +kernel
theorem dX5_meanOver_0 : decode cX5_meanOver 0 = .ok (.iload_n 1, 1) := by decide +kernel
theorem dX5_meanOver_1 : decode cX5_meanOver 1 = .ok (.aload_n 0, 1) := by decide +kernel
theorem dX5_meanOver_2 : decode cX5_meanOver 2 = .ok (.getfield 24, 3) := by decide +kernel
theorem dX5_meanOver_5 : decode cX5_meanOver 5 = .ok (.iload_n 2, 1) := by decide +kernel
theorem dX5_meanOver_6 : decode cX5_meanOver 6 = .ok (.iadd, 1) := by decide +kernel
theorem dX5_meanOver_7 : decode cX5_meanOver 7 = .ok (.invokestatic 46, 3) := by decide +kernel
theorem dX5_meanOver_10 : decode cX5_meanOver 10 = .ok (.istore_n 3, 1) := by decide +kernel
theorem dX5_meanOver_11 : decode cX5_meanOver 11 = .ok (.iconst 0, 1) := by decide +kernel
theorem dX5_meanOver_12 : decode cX5_meanOver 12 = .ok (.istore 4, 2) := by decide +kernel
theorem dX5_meanOver_14 : decode cX5_meanOver 14 = .ok (.iconst 0, 1) := by decide +kernel
theorem dX5_meanOver_15 : decode cX5_meanOver 15 = .ok (.istore 5, 2) := by decide +kernel
theorem dX5_meanOver_17 : decode cX5_meanOver 17 = .ok (.iload 5, 2) := by decide +kernel
theorem dX5_meanOver_19 : decode cX5_meanOver 19 = .ok (.iload_n 3, 1) := by decide +kernel
theorem dX5_meanOver_20 : decode cX5_meanOver 20 = .ok (.if_icmp .ge 22, 3) := by decide +kernel
theorem dX5_meanOver_23 : decode cX5_meanOver 23 = .ok (.iload 4, 2) := by decide +kernel
theorem dX5_meanOver_25 : decode cX5_meanOver 25 = .ok (.aload_n 0, 1) := by decide +kernel
theorem dX5_meanOver_26 : decode cX5_meanOver 26 = .ok (.iconst 0, 1) := by decide +kernel
theorem dX5_meanOver_27 : decode cX5_meanOver 27 = .ok (.iload 5, 2) := by decide +kernel
theorem dX5_meanOver_29 : decode cX5_meanOver 29 = .ok (.iload_n 2, 1) := by decide +kernel
theorem dX5_meanOver_30 : decode cX5_meanOver 30 = .ok (.invokevirtual 58, 3) := by decide +kernel
theorem dX5_meanOver_33 : decode cX5_meanOver 33 = .ok (.iadd, 1) := by decide +kernel
theorem dX5_meanOver_34 : decode cX5_meanOver 34 = .ok (.istore 4, 2) := by decide +kernel
theorem dX5_meanOver_36 : decode cX5_meanOver 36 = .ok (.iinc 5 1, 3) := by decide +kernel
theorem dX5_meanOver_39 : decode cX5_meanOver 39 = .ok (.goto (-22), 3) := by decide +kernel
theorem dX5_meanOver_42 : decode cX5_meanOver 42 = .ok (.iload_n 3, 1) := by decide +kernel
theorem dX5_meanOver_43 : decode cX5_meanOver 43 = .ok (.ifCond .le 10, 3) := by decide +kernel
theorem dX5_meanOver_46 : decode cX5_meanOver 46 = .ok (.iload 4, 2) := by decide +kernel
theorem dX5_meanOver_48 : decode cX5_meanOver 48 = .ok (.iload_n 3, 1) := by decide +kernel
theorem dX5_meanOver_49 : decode cX5_meanOver 49 = .ok (.idiv, 1) := by decide +kernel
theorem dX5_meanOver_50 : decode cX5_meanOver 50 = .ok (.goto 4, 3) := by decide +kernel
theorem dX5_meanOver_53 : decode cX5_meanOver 53 = .ok (.iconst 0, 1) := by decide +kernel
theorem dX5_meanOver_54 : decode cX5_meanOver 54 = .ok (.ireturn, 1) := by decide +kernel
theorem dX5_utmostOver_0 : decode cX5_utmostOver 0 = .ok (.iload_n 1, 1) := by decide +kernel
theorem dX5_utmostOver_1 : decode cX5_utmostOver 1 = .ok (.aload_n 0, 1) := by decide +kernel
theorem dX5_utmostOver_2 : decode cX5_utmostOver 2 = .ok (.getfield 24, 3) := by decide +kernel
theorem dX5_utmostOver_5 : decode cX5_utmostOver 5 = .ok (.iload_n 2, 1) := by decide +kernel
theorem dX5_utmostOver_6 : decode cX5_utmostOver 6 = .ok (.iadd, 1) := by decide +kernel
theorem dX5_utmostOver_7 : decode cX5_utmostOver 7 = .ok (.invokestatic 46, 3) := by decide +kernel
theorem dX5_utmostOver_10 : decode cX5_utmostOver 10 = .ok (.istore 4, 2) := by decide +kernel
theorem dX5_utmostOver_12 : decode cX5_utmostOver 12 = .ok (.aload_n 0, 1) := by decide +kernel
theorem dX5_utmostOver_13 : decode cX5_utmostOver 13 = .ok (.iconst 0, 1) := by decide +kernel
theorem dX5_utmostOver_14 : decode cX5_utmostOver 14 = .ok (.iconst 0, 1) := by decide +kernel
theorem dX5_utmostOver_15 : decode cX5_utmostOver 15 = .ok (.iload_n 2, 1) := by decide +kernel
theorem dX5_utmostOver_16 : decode cX5_utmostOver 16 = .ok (.invokevirtual 58, 3) := by decide +kernel
theorem dX5_utmostOver_19 : decode cX5_utmostOver 19 = .ok (.istore 5, 2) := by decide +kernel
theorem dX5_utmostOver_21 : decode cX5_utmostOver 21 = .ok (.iconst 1, 1) := by decide +kernel
theorem dX5_utmostOver_22 : decode cX5_utmostOver 22 = .ok (.istore 6, 2) := by decide +kernel
theorem dX5_utmostOver_24 : decode cX5_utmostOver 24 = .ok (.iload 6, 2) := by decide +kernel
theorem dX5_utmostOver_26 : decode cX5_utmostOver 26 = .ok (.iload 4, 2) := by decide +kernel
theorem dX5_utmostOver_28 : decode cX5_utmostOver 28 = .ok (.if_icmp .ge 42, 3) := by decide +kernel
theorem dX5_utmostOver_31 : decode cX5_utmostOver 31 = .ok (.aload_n 0, 1) := by decide +kernel
theorem dX5_utmostOver_32 : decode cX5_utmostOver 32 = .ok (.iconst 0, 1) := by decide +kernel
theorem dX5_utmostOver_33 : decode cX5_utmostOver 33 = .ok (.iload 6, 2) := by decide +kernel
theorem dX5_utmostOver_35 : decode cX5_utmostOver 35 = .ok (.iload_n 2, 1) := by decide +kernel
theorem dX5_utmostOver_36 : decode cX5_utmostOver 36 = .ok (.invokevirtual 58, 3) := by decide +kernel
theorem dX5_utmostOver_39 : decode cX5_utmostOver 39 = .ok (.istore 7, 2) := by decide +kernel
theorem dX5_utmostOver_41 : decode cX5_utmostOver 41 = .ok (.iload_n 3, 1) := by decide +kernel
theorem dX5_utmostOver_42 : decode cX5_utmostOver 42 = .ok (.ifCond .eq 13, 3) := by decide +kernel
theorem dX5_utmostOver_45 : decode cX5_utmostOver 45 = .ok (.iload 5, 2) := by decide +kernel
theorem dX5_utmostOver_47 : decode cX5_utmostOver 47 = .ok (.iload 7, 2) := by decide +kernel
theorem dX5_utmostOver_49 : decode cX5_utmostOver 49 = .ok (.invokestatic 78, 3) := by decide +kernel
theorem dX5_utmostOver_52 : decode cX5_utmostOver 52 = .ok (.goto 10, 3) := by decide +kernel
theorem dX5_utmostOver_55 : decode cX5_utmostOver 55 = .ok (.iload 5, 2) := by decide +kernel
theorem dX5_utmostOver_57 : decode cX5_utmostOver 57 = .ok (.iload 7, 2) := by decide +kernel
theorem dX5_utmostOver_59 : decode cX5_utmostOver 59 = .ok (.invokestatic 46, 3) := by decide +kernel
theorem dX5_utmostOver_62 : decode cX5_utmostOver 62 = .ok (.istore 5, 2) := by decide +kernel
theorem dX5_utmostOver_64 : decode cX5_utmostOver 64 = .ok (.iinc 6 1, 3) := by decide +kernel
theorem dX5_utmostOver_67 : decode cX5_utmostOver 67 = .ok (.goto (-43), 3) := by decide +kernel
theorem dX5_utmostOver_70 : decode cX5_utmostOver 70 = .ok (.iload 5, 2) := by decide +kernel
theorem dX5_utmostOver_72 : decode cX5_utmostOver 72 = .ok (.ireturn, 1) := by decide +kernel
theorem dX5_partOver_0 : decode cX5_partOver 0 = .ok (.iconst 0, 1) := by decide +kernel
theorem dX5_partOver_1 : decode cX5_partOver 1 = .ok (.istore 4, 2) := by decide +kernel
theorem dX5_partOver_3 : decode cX5_partOver 3 = .ok (.iconst 1, 1) := by decide +kernel
theorem dX5_partOver_4 : decode cX5_partOver 4 = .ok (.istore 5, 2) := by decide +kernel
theorem dX5_partOver_6 : decode cX5_partOver 6 = .ok (.iload 5, 2) := by decide +kernel
theorem dX5_partOver_8 : decode cX5_partOver 8 = .ok (.iconst 5, 1) := by decide +kernel
theorem dX5_partOver_9 : decode cX5_partOver 9 = .ok (.if_icmp .gt 22, 3) := by decide +kernel
theorem dX5_partOver_12 : decode cX5_partOver 12 = .ok (.iload 4, 2) := by decide +kernel
theorem dX5_partOver_14 : decode cX5_partOver 14 = .ok (.aload_n 0, 1) := by decide +kernel
theorem dX5_partOver_15 : decode cX5_partOver 15 = .ok (.iload 5, 2) := by decide +kernel
theorem dX5_partOver_17 : decode cX5_partOver 17 = .ok (.iload_n 2, 1) := by decide +kernel
theorem dX5_partOver_18 : decode cX5_partOver 18 = .ok (.iload_n 3, 1) := by decide +kernel
theorem dX5_partOver_19 : decode cX5_partOver 19 = .ok (.invokevirtual 62, 3) := by decide +kernel
theorem dX5_partOver_22 : decode cX5_partOver 22 = .ok (.iadd, 1) := by decide +kernel
theorem dX5_partOver_23 : decode cX5_partOver 23 = .ok (.istore 4, 2) := by decide +kernel
theorem dX5_partOver_25 : decode cX5_partOver 25 = .ok (.iinc 5 1, 3) := by decide +kernel
theorem dX5_partOver_28 : decode cX5_partOver 28 = .ok (.goto (-22), 3) := by decide +kernel
theorem dX5_partOver_31 : decode cX5_partOver 31 = .ok (.iload 4, 2) := by decide +kernel
theorem dX5_partOver_33 : decode cX5_partOver 33 = .ok (.ifCond .ne 5, 3) := by decide +kernel
theorem dX5_partOver_36 : decode cX5_partOver 36 = .ok (.iconst 0, 1) := by decide +kernel
theorem dX5_partOver_37 : decode cX5_partOver 37 = .ok (.ireturn, 1) := by decide +kernel
theorem dX5_partOver_38 : decode cX5_partOver 38 = .ok (.iload_n 1, 1) := by decide +kernel
theorem dX5_partOver_39 : decode cX5_partOver 39 = .ok (.iload 4, 2) := by decide +kernel
theorem dX5_partOver_41 : decode cX5_partOver 41 = .ok (.imul, 1) := by decide +kernel
theorem dX5_partOver_42 : decode cX5_partOver 42 = .ok (.bipush 99, 2) := by decide +kernel
theorem dX5_partOver_44 : decode cX5_partOver 44 = .ok (.iadd, 1) := by decide +kernel
theorem dX5_partOver_45 : decode cX5_partOver 45 = .ok (.bipush 100, 2) := by decide +kernel
theorem dX5_partOver_47 : decode cX5_partOver 47 = .ok (.idiv, 1) := by decide +kernel
theorem dX5_partOver_48 : decode cX5_partOver 48 = .ok (.istore 5, 2) := by decide +kernel
theorem dX5_partOver_50 : decode cX5_partOver 50 = .ok (.iconst 0, 1) := by decide +kernel
theorem dX5_partOver_51 : decode cX5_partOver 51 = .ok (.istore 6, 2) := by decide +kernel
theorem dX5_partOver_53 : decode cX5_partOver 53 = .ok (.iconst 1, 1) := by decide +kernel
theorem dX5_partOver_54 : decode cX5_partOver 54 = .ok (.istore 7, 2) := by decide +kernel
theorem dX5_partOver_56 : decode cX5_partOver 56 = .ok (.iload 7, 2) := by decide +kernel
theorem dX5_partOver_58 : decode cX5_partOver 58 = .ok (.iconst 5, 1) := by decide +kernel
theorem dX5_partOver_59 : decode cX5_partOver 59 = .ok (.if_icmp .ge 73, 3) := by decide +kernel
theorem dX5_partOver_62 : decode cX5_partOver 62 = .ok (.aload_n 0, 1) := by decide +kernel
theorem dX5_partOver_63 : decode cX5_partOver 63 = .ok (.iload 7, 2) := by decide +kernel
theorem dX5_partOver_65 : decode cX5_partOver 65 = .ok (.iload_n 2, 1) := by decide +kernel
theorem dX5_partOver_66 : decode cX5_partOver 66 = .ok (.iload_n 3, 1) := by decide +kernel
theorem dX5_partOver_67 : decode cX5_partOver 67 = .ok (.invokevirtual 62, 3) := by decide +kernel
theorem dX5_partOver_70 : decode cX5_partOver 70 = .ok (.istore 8, 2) := by decide +kernel
theorem dX5_partOver_72 : decode cX5_partOver 72 = .ok (.iload 8, 2) := by decide +kernel
theorem dX5_partOver_74 : decode cX5_partOver 74 = .ok (.ifCond .le 45, 3) := by decide +kernel
theorem dX5_partOver_77 : decode cX5_partOver 77 = .ok (.iload 6, 2) := by decide +kernel
theorem dX5_partOver_79 : decode cX5_partOver 79 = .ok (.iload 8, 2) := by decide +kernel
theorem dX5_partOver_81 : decode cX5_partOver 81 = .ok (.iadd, 1) := by decide +kernel
theorem dX5_partOver_82 : decode cX5_partOver 82 = .ok (.iload 5, 2) := by decide +kernel
theorem dX5_partOver_84 : decode cX5_partOver 84 = .ok (.if_icmp .lt 35, 3) := by decide +kernel
theorem dX5_partOver_87 : decode cX5_partOver 87 = .ok (.getstatic 43, 3) := by decide +kernel
theorem dX5_partOver_90 : decode cX5_partOver 90 = .ok (.iload 7, 2) := by decide +kernel
theorem dX5_partOver_92 : decode cX5_partOver 92 = .ok (.iconst 1, 1) := by decide +kernel
theorem dX5_partOver_93 : decode cX5_partOver 93 = .ok (.isub, 1) := by decide +kernel
theorem dX5_partOver_94 : decode cX5_partOver 94 = .ok (.iaload, 1) := by decide +kernel
theorem dX5_partOver_95 : decode cX5_partOver 95 = .ok (.istore 9, 2) := by decide +kernel
theorem dX5_partOver_97 : decode cX5_partOver 97 = .ok (.iload 9, 2) := by decide +kernel
theorem dX5_partOver_99 : decode cX5_partOver 99 = .ok (.getstatic 43, 3) := by decide +kernel
theorem dX5_partOver_102 : decode cX5_partOver 102 = .ok (.iload 7, 2) := by decide +kernel
theorem dX5_partOver_104 : decode cX5_partOver 104 = .ok (.iaload, 1) := by decide +kernel
theorem dX5_partOver_105 : decode cX5_partOver 105 = .ok (.iload 9, 2) := by decide +kernel
theorem dX5_partOver_107 : decode cX5_partOver 107 = .ok (.isub, 1) := by decide +kernel
theorem dX5_partOver_108 : decode cX5_partOver 108 = .ok (.iload 5, 2) := by decide +kernel
theorem dX5_partOver_110 : decode cX5_partOver 110 = .ok (.iload 6, 2) := by decide +kernel
theorem dX5_partOver_112 : decode cX5_partOver 112 = .ok (.isub, 1) := by decide +kernel
theorem dX5_partOver_113 : decode cX5_partOver 113 = .ok (.imul, 1) := by decide +kernel
theorem dX5_partOver_114 : decode cX5_partOver 114 = .ok (.iload 8, 2) := by decide +kernel
theorem dX5_partOver_116 : decode cX5_partOver 116 = .ok (.idiv, 1) := by decide +kernel
theorem dX5_partOver_117 : decode cX5_partOver 117 = .ok (.iadd, 1) := by decide +kernel
theorem dX5_partOver_118 : decode cX5_partOver 118 = .ok (.ireturn, 1) := by decide +kernel
theorem dX5_partOver_119 : decode cX5_partOver 119 = .ok (.iload 6, 2) := by decide +kernel
theorem dX5_partOver_121 : decode cX5_partOver 121 = .ok (.iload 8, 2) := by decide +kernel
theorem dX5_partOver_123 : decode cX5_partOver 123 = .ok (.iadd, 1) := by decide +kernel
theorem dX5_partOver_124 : decode cX5_partOver 124 = .ok (.istore 6, 2) := by decide +kernel
theorem dX5_partOver_126 : decode cX5_partOver 126 = .ok (.iinc 7 1, 3) := by decide +kernel
theorem dX5_partOver_129 : decode cX5_partOver 129 = .ok (.goto (-73), 3) := by decide +kernel
theorem dX5_partOver_132 : decode cX5_partOver 132 = .ok (.sipush 500, 3) := by decide +kernel
theorem dX5_partOver_135 : decode cX5_partOver 135 = .ok (.ireturn, 1) := by decide +kernel
theorem dX6_init_0 : decode cX6_init 0 = .ok (.aload_n 0, 1) := by decide +kernel
theorem dX6_init_1 : decode cX6_init 1 = .ok (.invokespecial 1, 3) := by decide +kernel
theorem dX6_init_4 : decode cX6_init 4 = .ok (.aload_n 0, 1) := by decide +kernel
theorem dX6_init_5 : decode cX6_init 5 = .ok (.new 7, 3) := by decide +kernel
theorem dX6_init_8 : decode cX6_init 8 = .ok (.dup, 1) := by decide +kernel
theorem dX6_init_9 : decode cX6_init 9 = .ok (.invokespecial 9, 3) := by decide +kernel
theorem dX6_init_12 : decode cX6_init 12 = .ok (.putfield 10, 3) := by decide +kernel
theorem dX6_init_15 : decode cX6_init 15 = .ok (.aload_n 0, 1) := by decide +kernel
theorem dX6_init_16 : decode cX6_init 16 = .ok (.new 7, 3) := by decide +kernel
theorem dX6_init_19 : decode cX6_init 19 = .ok (.dup, 1) := by decide +kernel
theorem dX6_init_20 : decode cX6_init 20 = .ok (.invokespecial 9, 3) := by decide +kernel
theorem dX6_init_23 : decode cX6_init 23 = .ok (.putfield 16, 3) := by decide +kernel
theorem dX6_init_26 : decode cX6_init 26 = .ok (.aload_n 0, 1) := by decide +kernel
theorem dX6_init_27 : decode cX6_init 27 = .ok (.new 7, 3) := by decide +kernel
theorem dX6_init_30 : decode cX6_init 30 = .ok (.dup, 1) := by decide +kernel
theorem dX6_init_31 : decode cX6_init 31 = .ok (.invokespecial 9, 3) := by decide +kernel
theorem dX6_init_34 : decode cX6_init 34 = .ok (.putfield 19, 3) := by decide +kernel
end
section
theorem dX6_init_37 : decode cX6_init 37 = .ok (.aload_n 0, 1) := by decide +kernel
theorem dX6_init_38 : decode cX6_init 38 = .ok (.bipush 7, 2) := by decide +kernel
theorem dX6_init_40 : decode cX6_init 40 = .ok (.anewarray 22, 3) := by decide +kernel
theorem dX6_init_43 : decode cX6_init 43 = .ok (.putfield 24, 3) := by decide +kernel
theorem dX6_init_46 : decode cX6_init 46 = .ok (.iconst 0, 1) := by decide +kernel
theorem dX6_init_47 : decode cX6_init 47 = .ok (.istore_n 1, 1) := by decide +kernel
theorem dX6_init_48 : decode cX6_init 48 = .ok (.iload_n 1, 1) := by decide +kernel
theorem dX6_init_49 : decode cX6_init 49 = .ok (.bipush 7, 2) := by decide +kernel
theorem dX6_init_51 : decode cX6_init 51 = .ok (.if_icmp .ge 22, 3) := by decide +kernel
theorem dX6_init_54 : decode cX6_init 54 = .ok (.aload_n 0, 1) := by decide +kernel
theorem dX6_init_55 : decode cX6_init 55 = .ok (.getfield 24, 3) := by decide +kernel
theorem dX6_init_58 : decode cX6_init 58 = .ok (.iload_n 1, 1) := by decide +kernel
theorem dX6_init_59 : decode cX6_init 59 = .ok (.new 22, 3) := by decide +kernel
theorem dX6_init_62 : decode cX6_init 62 = .ok (.dup, 1) := by decide +kernel
theorem dX6_init_63 : decode cX6_init 63 = .ok (.invokespecial 28, 3) := by decide +kernel
theorem dX6_init_66 : decode cX6_init 66 = .ok (.aastore, 1) := by decide +kernel
theorem dX6_init_67 : decode cX6_init 67 = .ok (.iinc 1 1, 3) := by decide +kernel
theorem dX6_init_70 : decode cX6_init 70 = .ok (.goto (-22), 3) := by decide +kernel
theorem dX6_init_73 : decode cX6_init 73 = .ok (.aload_n 0, 1) := by decide +kernel
theorem dX6_init_74 : decode cX6_init 74 = .ok (.new 29, 3) := by decide +kernel
theorem dX6_init_77 : decode cX6_init 77 = .ok (.dup, 1) := by decide +kernel
theorem dX6_init_78 : decode cX6_init 78 = .ok (.invokespecial 31, 3) := by decide +kernel
theorem dX6_init_81 : decode cX6_init 81 = .ok (.putfield 32, 3) := by decide +kernel
theorem dX6_init_84 : decode cX6_init 84 = .ok (.aload_n 0, 1) := by decide +kernel
theorem dX6_init_85 : decode cX6_init 85 = .ok (.new 36, 3) := by decide +kernel
theorem dX6_init_88 : decode cX6_init 88 = .ok (.dup, 1) := by decide +kernel
theorem dX6_init_89 : decode cX6_init 89 = .ok (.invokespecial 38, 3) := by decide +kernel
theorem dX6_init_92 : decode cX6_init 92 = .ok (.putfield 39, 3) := by decide +kernel
theorem dX6_init_95 : decode cX6_init 95 = .ok (.aload_n 0, 1) := by decide +kernel
theorem dX6_init_96 : decode cX6_init 96 = .ok (.iconst 0, 1) := by decide +kernel
theorem dX6_init_97 : decode cX6_init 97 = .ok (.putfield 43, 3) := by decide +kernel
theorem dX6_init_100 : decode cX6_init 100 = .ok (.aload_n 0, 1) := by decide +kernel
theorem dX6_init_101 : decode cX6_init 101 = .ok (.iconst 0, 1) := by decide +kernel
theorem dX6_init_102 : decode cX6_init 102 = .ok (.putfield 47, 3) := by decide +kernel
theorem dX6_init_105 : decode cX6_init 105 = .ok (.aload_n 0, 1) := by decide +kernel
theorem dX6_init_106 : decode cX6_init 106 = .ok (.bipush 10, 2) := by decide +kernel
theorem dX6_init_108 : decode cX6_init 108 = .ok (.putfield 50, 3) := by decide +kernel
theorem dX6_init_111 : decode cX6_init 111 = .ok (.return_, 1) := by decide +kernel
theorem dX6_series_0 : decode cX6_series 0 = .ok (.iload_n 1, 1) := by decide +kernel
theorem dX6_series_1 : decode cX6_series 1 = .ok (.iconst 0, 1) := by decide +kernel
theorem dX6_series_2 : decode cX6_series 2 = .ok (.iconst 2, 1) := by decide +kernel
theorem dX6_series_3 : decode cX6_series 3 = .ok (.invokestatic 53, 3) := by decide +kernel
theorem dX6_series_6 : decode cX6_series 6 = .ok (.ifCond .eq 13, 3) := by decide +kernel
theorem dX6_series_9 : decode cX6_series 9 = .ok (.new 57, 3) := by decide +kernel
theorem dX6_series_12 : decode cX6_series 12 = .ok (.dup, 1) := by decide +kernel
theorem dX6_series_13 : decode cX6_series 13 = .ok (.ldc 59, 2) := by decide +kernel
theorem dX6_series_15 : decode cX6_series 15 = .ok (.invokespecial 61, 3) := by decide +kernel
theorem dX6_series_18 : decode cX6_series 18 = .ok (.athrow, 1) := by decide +kernel
theorem dX6_series_19 : decode cX6_series 19 = .ok (.iload_n 2, 1) := by decide +kernel
theorem dX6_series_20 : decode cX6_series 20 = .ok (.invokestatic 64, 3) := by decide +kernel
theorem dX6_series_23 : decode cX6_series 23 = .ok (.iload_n 3, 1) := by decide +kernel
theorem dX6_series_24 : decode cX6_series 24 = .ok (.iconst 0, 1) := by decide +kernel
theorem dX6_series_25 : decode cX6_series 25 = .ok (.iconst 5, 1) := by decide +kernel
theorem dX6_series_26 : decode cX6_series 26 = .ok (.invokestatic 53, 3) := by decide +kernel
theorem dX6_series_29 : decode cX6_series 29 = .ok (.ifCond .eq 13, 3) := by decide +kernel
theorem dX6_series_32 : decode cX6_series 32 = .ok (.new 57, 3) := by decide +kernel
theorem dX6_series_35 : decode cX6_series 35 = .ok (.dup, 1) := by decide +kernel
theorem dX6_series_36 : decode cX6_series 36 = .ok (.ldc 68, 2) := by decide +kernel
theorem dX6_series_38 : decode cX6_series 38 = .ok (.invokespecial 61, 3) := by decide +kernel
theorem dX6_series_41 : decode cX6_series 41 = .ok (.athrow, 1) := by decide +kernel
theorem dX6_series_42 : decode cX6_series 42 = .ok (.aload_n 0, 1) := by decide +kernel
theorem dX6_series_43 : decode cX6_series 43 = .ok (.getfield 10, 3) := by decide +kernel
theorem dX6_series_46 : decode cX6_series 46 = .ok (.invokevirtual 70, 3) := by decide +kernel
theorem dX6_series_49 : decode cX6_series 49 = .ok (.istore 4, 2) := by decide +kernel
theorem dX6_series_51 : decode cX6_series 51 = .ok (.iload 4, 2) := by decide +kernel
theorem dX6_series_53 : decode cX6_series 53 = .ok (.bipush 12, 2) := by decide +kernel
theorem dX6_series_55 : decode cX6_series 55 = .ok (.if_icmp .lt 13, 3) := by decide +kernel
theorem dX6_series_58 : decode cX6_series 58 = .ok (.new 74, 3) := by decide +kernel
theorem dX6_series_61 : decode cX6_series 61 = .ok (.dup, 1) := by decide +kernel
theorem dX6_series_62 : decode cX6_series 62 = .ok (.ldc 76, 2) := by decide +kernel
theorem dX6_series_64 : decode cX6_series 64 = .ok (.invokespecial 78, 3) := by decide +kernel
theorem dX6_series_67 : decode cX6_series 67 = .ok (.athrow, 1) := by decide +kernel
theorem dX6_series_68 : decode cX6_series 68 = .ok (.aload_n 0, 1) := by decide +kernel
theorem dX6_series_69 : decode cX6_series 69 = .ok (.getfield 10, 3) := by decide +kernel
theorem dX6_series_72 : decode cX6_series 72 = .ok (.new 79, 3) := by decide +kernel
theorem dX6_series_75 : decode cX6_series 75 = .ok (.dup, 1) := by decide +kernel
theorem dX6_series_76 : decode cX6_series 76 = .ok (.iload 4, 2) := by decide +kernel
theorem dX6_series_78 : decode cX6_series 78 = .ok (.iload_n 1, 1) := by decide +kernel
theorem dX6_series_79 : decode cX6_series 79 = .ok (.iload_n 2, 1) := by decide +kernel
theorem dX6_series_80 : decode cX6_series 80 = .ok (.iload_n 3, 1) := by decide +kernel
theorem dX6_series_81 : decode cX6_series 81 = .ok (.invokespecial 81, 3) := by decide +kernel
theorem dX6_series_84 : decode cX6_series 84 = .ok (.invokevirtual 84, 3) := by decide +kernel
theorem dX6_series_87 : decode cX6_series 87 = .ok (.pop, 1) := by decide +kernel
theorem dX6_series_88 : decode cX6_series 88 = .ok (.iload 4, 2) := by decide +kernel
theorem dX6_series_90 : decode cX6_series 90 = .ok (.ireturn, 1) := by decide +kernel
theorem dX6_tell_0 : decode cX6_tell 0 = .ok (.aload_n 0, 1) := by decide +kernel
theorem dX6_tell_1 : decode cX6_tell 1 = .ok (.iload_n 1, 1) := by decide +kernel
theorem dX6_tell_2 : decode cX6_tell 2 = .ok (.invokevirtual 88, 3) := by decide +kernel
theorem dX6_tell_5 : decode cX6_tell 5 = .ok (.astore_n 3, 1) := by decide +kernel
theorem dX6_tell_6 : decode cX6_tell 6 = .ok (.aload_n 3, 1) := by decide +kernel
theorem dX6_tell_7 : decode cX6_tell 7 = .ok (.getfield 92, 3) := by decide +kernel
theorem dX6_tell_10 : decode cX6_tell 10 = .ok (.iconst 1, 1) := by decide +kernel
theorem dX6_tell_11 : decode cX6_tell 11 = .ok (.if_icmp .ne 9, 3) := by decide +kernel
theorem dX6_tell_14 : decode cX6_tell 14 = .ok (.sipush (-1000), 3) := by decide +kernel
theorem dX6_tell_17 : decode cX6_tell 17 = .ok (.goto 4, 3) := by decide +kernel
theorem dX6_tell_20 : decode cX6_tell 20 = .ok (.iconst 0, 1) := by decide +kernel
theorem dX6_tell_21 : decode cX6_tell 21 = .ok (.istore 4, 2) := by decide +kernel
theorem dX6_tell_23 : decode cX6_tell 23 = .ok (.iload_n 2, 1) := by decide +kernel
theorem dX6_tell_24 : decode cX6_tell 24 = .ok (.iload 4, 2) := by decide +kernel
theorem dX6_tell_26 : decode cX6_tell 26 = .ok (.sipush 1000, 3) := by decide +kernel
theorem dX6_tell_29 : decode cX6_tell 29 = .ok (.invokestatic 53, 3) := by decide +kernel
theorem dX6_tell_32 : decode cX6_tell 32 = .ok (.ifCond .eq 13, 3) := by decide +kernel
theorem dX6_tell_35 : decode cX6_tell 35 = .ok (.new 57, 3) := by decide +kernel
theorem dX6_tell_38 : decode cX6_tell 38 = .ok (.dup, 1) := by decide +kernel
theorem dX6_tell_39 : decode cX6_tell 39 = .ok (.ldc 95, 2) := by decide +kernel
theorem dX6_tell_41 : decode cX6_tell 41 = .ok (.invokespecial 61, 3) := by decide +kernel
theorem dX6_tell_44 : decode cX6_tell 44 = .ok (.athrow, 1) := by decide +kernel
theorem dX6_tell_45 : decode cX6_tell 45 = .ok (.aload_n 3, 1) := by decide +kernel
theorem dX6_tell_46 : decode cX6_tell 46 = .ok (.iload_n 2, 1) := by decide +kernel
theorem dX6_tell_47 : decode cX6_tell 47 = .ok (.invokevirtual 97, 3) := by decide +kernel
theorem dX6_tell_50 : decode cX6_tell 50 = .ok (.aload_n 3, 1) := by decide +kernel
theorem dX6_tell_51 : decode cX6_tell 51 = .ok (.getfield 100, 3) := by decide +kernel
theorem dX6_tell_54 : decode cX6_tell 54 = .ok (.iconst 0, 1) := by decide +kernel
theorem dX6_tell_55 : decode cX6_tell 55 = .ok (.iaload, 1) := by decide +kernel
theorem dX6_tell_56 : decode cX6_tell 56 = .ok (.ireturn, 1) := by decide +kernel
theorem dX6_reset_0 : decode cX6_reset 0 = .ok (.aload_n 0, 1) := by decide +kernel
theorem dX6_reset_1 : decode cX6_reset 1 = .ok (.iload_n 1, 1) := by decide +kernel
theorem dX6_reset_2 : decode cX6_reset 2 = .ok (.invokevirtual 88, 3) := by decide +kernel
theorem dX6_reset_5 : decode cX6_reset 5 = .ok (.astore_n 2, 1) := by decide +kernel
theorem dX6_reset_6 : decode cX6_reset 6 = .ok (.aload_n 2, 1) := by decide +kernel
theorem dX6_reset_7 : decode cX6_reset 7 = .ok (.getfield 100, 3) := by decide +kernel
theorem dX6_reset_10 : decode cX6_reset 10 = .ok (.iconst 0, 1) := by decide +kernel
theorem dX6_reset_11 : decode cX6_reset 11 = .ok (.iaload, 1) := by decide +kernel
theorem dX6_reset_12 : decode cX6_reset 12 = .ok (.istore_n 3, 1) := by decide +kernel
theorem dX6_reset_13 : decode cX6_reset 13 = .ok (.aload_n 2, 1) := by decide +kernel
theorem dX6_reset_14 : decode cX6_reset 14 = .ok (.invokevirtual 104, 3) := by decide +kernel
theorem dX6_reset_17 : decode cX6_reset 17 = .ok (.iload_n 3, 1) := by decide +kernel
theorem dX6_reset_18 : decode cX6_reset 18 = .ok (.ireturn, 1) := by decide +kernel
theorem dX6_rule_0 : decode cX6_rule 0 = .ok (.iload_n 1, 1) := by decide +kernel
theorem dX6_rule_1 : decode cX6_rule 1 = .ok (.invokestatic 64, 3) := by decide +kernel
theorem dX6_rule_4 : decode cX6_rule 4 = .ok (.iload_n 2, 1) := by decide +kernel
theorem dX6_rule_5 : decode cX6_rule 5 = .ok (.invokestatic 107, 3) := by decide +kernel
theorem dX6_rule_8 : decode cX6_rule 8 = .ok (.iload_n 3, 1) := by decide +kernel
theorem dX6_rule_9 : decode cX6_rule 9 = .ok (.invokestatic 110, 3) := by decide +kernel
theorem dX6_rule_12 : decode cX6_rule 12 = .ok (.iload 4, 2) := by decide +kernel
theorem dX6_rule_14 : decode cX6_rule 14 = .ok (.iconst 0, 1) := by decide +kernel
theorem dX6_rule_15 : decode cX6_rule 15 = .ok (.iconst 2, 1) := by decide +kernel
theorem dX6_rule_16 : decode cX6_rule 16 = .ok (.invokestatic 53, 3) := by decide +kernel
theorem dX6_rule_19 : decode cX6_rule 19 = .ok (.ifCond .eq 13, 3) := by decide +kernel
theorem dX6_rule_22 : decode cX6_rule 22 = .ok (.new 57, 3) := by decide +kernel
theorem dX6_rule_25 : decode cX6_rule 25 = .ok (.dup, 1) := by decide +kernel
theorem dX6_rule_26 : decode cX6_rule 26 = .ok (.ldc 113, 2) := by decide +kernel
theorem dX6_rule_28 : decode cX6_rule 28 = .ok (.invokespecial 61, 3) := by decide +kernel
theorem dX6_rule_31 : decode cX6_rule 31 = .ok (.athrow, 1) := by decide +kernel
theorem dX6_rule_32 : decode cX6_rule 32 = .ok (.iload 5, 2) := by decide +kernel
theorem dX6_rule_34 : decode cX6_rule 34 = .ok (.invokestatic 115, 3) := by decide +kernel
theorem dX6_rule_37 : decode cX6_rule 37 = .ok (.aload_n 0, 1) := by decide +kernel
theorem dX6_rule_38 : decode cX6_rule 38 = .ok (.getfield 16, 3) := by decide +kernel
theorem dX6_rule_41 : decode cX6_rule 41 = .ok (.invokevirtual 70, 3) := by decide +kernel
theorem dX6_rule_44 : decode cX6_rule 44 = .ok (.istore 7, 2) := by decide +kernel
theorem dX6_rule_46 : decode cX6_rule 46 = .ok (.iload 7, 2) := by decide +kernel
theorem dX6_rule_48 : decode cX6_rule 48 = .ok (.bipush 6, 2) := by decide +kernel
theorem dX6_rule_50 : decode cX6_rule 50 = .ok (.if_icmp .lt 13, 3) := by decide +kernel
theorem dX6_rule_53 : decode cX6_rule 53 = .ok (.new 74, 3) := by decide +kernel
theorem dX6_rule_56 : decode cX6_rule 56 = .ok (.dup, 1) := by decide +kernel
theorem dX6_rule_57 : decode cX6_rule 57 = .ok (.ldc 118, 2) := by decide +kernel
theorem dX6_rule_59 : decode cX6_rule 59 = .ok (.invokespecial 78, 3) := by decide +kernel
theorem dX6_rule_62 : decode cX6_rule 62 = .ok (.athrow, 1) := by decide +kernel
theorem dX6_rule_63 : decode cX6_rule 63 = .ok (.new 120, 3) := by decide +kernel
theorem dX6_rule_66 : decode cX6_rule 66 = .ok (.dup, 1) := by decide +kernel
theorem dX6_rule_67 : decode cX6_rule 67 = .ok (.iload 7, 2) := by decide +kernel
theorem dX6_rule_69 : decode cX6_rule 69 = .ok (.iload_n 1, 1) := by decide +kernel
theorem dX6_rule_70 : decode cX6_rule 70 = .ok (.iload_n 2, 1) := by decide +kernel
theorem dX6_rule_71 : decode cX6_rule 71 = .ok (.iload_n 3, 1) := by decide +kernel
theorem dX6_rule_72 : decode cX6_rule 72 = .ok (.iload 4, 2) := by decide +kernel
theorem dX6_rule_74 : decode cX6_rule 74 = .ok (.invokespecial 122, 3) := by decide +kernel
theorem dX6_rule_77 : decode cX6_rule 77 = .ok (.astore 8, 2) := by decide +kernel
theorem dX6_rule_79 : decode cX6_rule 79 = .ok (.aload 8, 2) := by decide +kernel
theorem dX6_rule_81 : decode cX6_rule 81 = .ok (.iload 5, 2) := by decide +kernel
theorem dX6_rule_83 : decode cX6_rule 83 = .ok (.putfield 125, 3) := by decide +kernel
theorem dX6_rule_86 : decode cX6_rule 86 = .ok (.aload 8, 2) := by decide +kernel
theorem dX6_rule_88 : decode cX6_rule 88 = .ok (.iload 6, 2) := by decide +kernel
theorem dX6_rule_90 : decode cX6_rule 90 = .ok (.putfield 128, 3) := by decide +kernel
theorem dX6_rule_93 : decode cX6_rule 93 = .ok (.aload_n 0, 1) := by decide +kernel
theorem dX6_rule_94 : decode cX6_rule 94 = .ok (.getfield 16, 3) := by decide +kernel
theorem dX6_rule_97 : decode cX6_rule 97 = .ok (.aload 8, 2) := by decide +kernel
theorem dX6_rule_99 : decode cX6_rule 99 = .ok (.invokevirtual 84, 3) := by decide +kernel
theorem dX6_rule_102 : decode cX6_rule 102 = .ok (.pop, 1) := by decide +kernel
theorem dX6_rule_103 : decode cX6_rule 103 = .ok (.iload 7, 2) := by decide +kernel
theorem dX6_rule_105 : decode cX6_rule 105 = .ok (.ireturn, 1) := by decide +kernel
theorem dX6_setRule_0 : decode cX6_setRule 0 = .ok (.aload_n 0, 1) := by decide +kernel
theorem dX6_setRule_1 : decode cX6_setRule 1 = .ok (.iload_n 1, 1) := by decide +kernel
theorem dX6_setRule_2 : decode cX6_setRule 2 = .ok (.invokevirtual 132, 3) := by decide +kernel
theorem dX6_setRule_5 : decode cX6_setRule 5 = .ok (.astore 5, 2) := by decide +kernel
theorem dX6_setRule_7 : decode cX6_setRule 7 = .ok (.iload_n 2, 1) := by decide +kernel
theorem dX6_setRule_8 : decode cX6_setRule 8 = .ok (.invokestatic 115, 3) := by decide +kernel
theorem dX6_setRule_11 : decode cX6_setRule 11 = .ok (.iload_n 3, 1) := by decide +kernel
theorem dX6_setRule_12 : decode cX6_setRule 12 = .ok (.iconst 0, 1) := by decide +kernel
theorem dX6_setRule_13 : decode cX6_setRule 13 = .ok (.bipush 20, 2) := by decide +kernel
theorem dX6_setRule_15 : decode cX6_setRule 15 = .ok (.invokestatic 53, 3) := by decide +kernel
theorem dX6_setRule_18 : decode cX6_setRule 18 = .ok (.ifCond .eq 13, 3) := by decide +kernel
theorem dX6_setRule_21 : decode cX6_setRule 21 = .ok (.new 57, 3) := by decide +kernel
theorem dX6_setRule_24 : decode cX6_setRule 24 = .ok (.dup, 1) := by decide +kernel
theorem dX6_setRule_25 : decode cX6_setRule 25 = .ok (.ldc 136, 2) := by decide +kernel
theorem dX6_setRule_27 : decode cX6_setRule 27 = .ok (.invokespecial 61, 3) := by decide +kernel
theorem dX6_setRule_30 : decode cX6_setRule 30 = .ok (.athrow, 1) := by decide +kernel
theorem dX6_setRule_31 : decode cX6_setRule 31 = .ok (.iload 4, 2) := by decide +kernel
theorem dX6_setRule_33 : decode cX6_setRule 33 = .ok (.iconst 0, 1) := by decide +kernel
theorem dX6_setRule_34 : decode cX6_setRule 34 = .ok (.iconst 3, 1) := by decide +kernel
theorem dX6_setRule_35 : decode cX6_setRule 35 = .ok (.invokestatic 53, 3) := by decide +kernel
theorem dX6_setRule_38 : decode cX6_setRule 38 = .ok (.ifCond .eq 13, 3) := by decide +kernel
theorem dX6_setRule_41 : decode cX6_setRule 41 = .ok (.new 57, 3) := by decide +kernel
theorem dX6_setRule_44 : decode cX6_setRule 44 = .ok (.dup, 1) := by decide +kernel
theorem dX6_setRule_45 : decode cX6_setRule 45 = .ok (.ldc 138, 2) := by decide +kernel
theorem dX6_setRule_47 : decode cX6_setRule 47 = .ok (.invokespecial 61, 3) := by decide +kernel
theorem dX6_setRule_50 : decode cX6_setRule 50 = .ok (.athrow, 1) := by decide +kernel
theorem dX6_setRule_51 : decode cX6_setRule 51 = .ok (.aload 5, 2) := by decide +kernel
theorem dX6_setRule_53 : decode cX6_setRule 53 = .ok (.getfield 125, 3) := by decide +kernel
theorem dX6_setRule_56 : decode cX6_setRule 56 = .ok (.istore 6, 2) := by decide +kernel
theorem dX6_setRule_58 : decode cX6_setRule 58 = .ok (.aload 5, 2) := by decide +kernel
theorem dX6_setRule_60 : decode cX6_setRule 60 = .ok (.iload_n 2, 1) := by decide +kernel
theorem dX6_setRule_61 : decode cX6_setRule 61 = .ok (.putfield 125, 3) := by decide +kernel
theorem dX6_setRule_64 : decode cX6_setRule 64 = .ok (.aload 5, 2) := by decide +kernel
theorem dX6_setRule_66 : decode cX6_setRule 66 = .ok (.iload_n 3, 1) := by decide +kernel
theorem dX6_setRule_67 : decode cX6_setRule 67 = .ok (.putfield 140, 3) := by decide +kernel
theorem dX6_setRule_70 : decode cX6_setRule 70 = .ok (.aload 5, 2) := by decide +kernel
theorem dX6_setRule_72 : decode cX6_setRule 72 = .ok (.iload 4, 2) := by decide +kernel
theorem dX6_setRule_74 : decode cX6_setRule 74 = .ok (.putfield 143, 3) := by decide +kernel
theorem dX6_setRule_77 : decode cX6_setRule 77 = .ok (.iload 6, 2) := by decide +kernel
theorem dX6_setRule_79 : decode cX6_setRule 79 = .ok (.ireturn, 1) := by decide +kernel
theorem dX6_dropRule_0 : decode cX6_dropRule 0 = .ok (.aload_n 0, 1) := by decide +kernel
theorem dX6_dropRule_1 : decode cX6_dropRule 1 = .ok (.getfield 16, 3) := by decide +kernel
theorem dX6_dropRule_4 : decode cX6_dropRule 4 = .ok (.invokevirtual 70, 3) := by decide +kernel
theorem dX6_dropRule_7 : decode cX6_dropRule 7 = .ok (.iconst 1, 1) := by decide +kernel
theorem dX6_dropRule_8 : decode cX6_dropRule 8 = .ok (.isub, 1) := by decide +kernel
theorem dX6_dropRule_9 : decode cX6_dropRule 9 = .ok (.istore_n 1, 1) := by decide +kernel
theorem dX6_dropRule_10 : decode cX6_dropRule 10 = .ok (.iload_n 1, 1) := by decide +kernel
theorem dX6_dropRule_11 : decode cX6_dropRule 11 = .ok (.ifCond .ge 13, 3) := by decide +kernel
theorem dX6_dropRule_14 : decode cX6_dropRule 14 = .ok (.new 74, 3) := by decide +kernel
theorem dX6_dropRule_17 : decode cX6_dropRule 17 = .ok (.dup, 1) := by decide +kernel
theorem dX6_dropRule_18 : decode cX6_dropRule 18 = .ok (.ldc 146, 2) := by decide +kernel
theorem dX6_dropRule_20 : decode cX6_dropRule 20 = .ok (.invokespecial 78, 3) := by decide +kernel
theorem dX6_dropRule_23 : decode cX6_dropRule 23 = .ok (.athrow, 1) := by decide +kernel
theorem dX6_dropRule_24 : decode cX6_dropRule 24 = .ok (.aload_n 0, 1) := by decide +kernel
theorem dX6_dropRule_25 : decode cX6_dropRule 25 = .ok (.getfield 16, 3) := by decide +kernel
theorem dX6_dropRule_28 : decode cX6_dropRule 28 = .ok (.iload_n 1, 1) := by decide +kernel
theorem dX6_dropRule_29 : decode cX6_dropRule 29 = .ok (.invokevirtual 148, 3) := by decide +kernel
theorem dX6_dropRule_32 : decode cX6_dropRule 32 = .ok (.pop, 1) := by decide +kernel
theorem dX6_dropRule_33 : decode cX6_dropRule 33 = .ok (.aload_n 0, 1) := by decide +kernel
theorem dX6_dropRule_34 : decode cX6_dropRule 34 = .ok (.iload_n 1, 1) := by decide +kernel
theorem dX6_dropRule_35 : decode cX6_dropRule 35 = .ok (.invokevirtual 152, 3) := by decide +kernel
theorem dX6_dropRule_38 : decode cX6_dropRule 38 = .ok (.iload_n 1, 1) := by decide +kernel
theorem dX6_dropRule_39 : decode cX6_dropRule 39 = .ok (.ireturn, 1) := by decide +kernel
theorem dX6_hush_0 : decode cX6_hush 0 = .ok (.iload_n 1, 1) := by decide +kernel
theorem dX6_hush_1 : decode cX6_hush 1 = .ok (.iconst (-1), 1) := by decide +kernel
theorem dX6_hush_2 : decode cX6_hush 2 = .ok (.if_icmp .eq 9, 3) := by decide +kernel
theorem dX6_hush_5 : decode cX6_hush 5 = .ok (.aload_n 0, 1) := by decide +kernel
theorem dX6_hush_6 : decode cX6_hush 6 = .ok (.iload_n 1, 1) := by decide +kernel
theorem dX6_hush_7 : decode cX6_hush 7 = .ok (.invokevirtual 132, 3) := by decide +kernel
theorem dX6_hush_10 : decode cX6_hush 10 = .ok (.pop, 1) := by decide +kernel
theorem dX6_hush_11 : decode cX6_hush 11 = .ok (.iload_n 2, 1) := by decide +kernel
theorem dX6_hush_12 : decode cX6_hush 12 = .ok (.iconst (-1), 1) := by decide +kernel
theorem dX6_hush_13 : decode cX6_hush 13 = .ok (.iconst 5, 1) := by decide +kernel
theorem dX6_hush_14 : decode cX6_hush 14 = .ok (.invokestatic 53, 3) := by decide +kernel
theorem dX6_hush_17 : decode cX6_hush 17 = .ok (.ifCond .eq 13, 3) := by decide +kernel
theorem dX6_hush_20 : decode cX6_hush 20 = .ok (.new 57, 3) := by decide +kernel
theorem dX6_hush_23 : decode cX6_hush 23 = .ok (.dup, 1) := by decide +kernel
theorem dX6_hush_24 : decode cX6_hush 24 = .ok (.ldc 155, 2) := by decide +kernel
theorem dX6_hush_26 : decode cX6_hush 26 = .ok (.invokespecial 61, 3) := by decide +kernel
theorem dX6_hush_29 : decode cX6_hush 29 = .ok (.athrow, 1) := by decide +kernel
theorem dX6_hush_30 : decode cX6_hush 30 = .ok (.iload_n 3, 1) := by decide +kernel
theorem dX6_hush_31 : decode cX6_hush 31 = .ok (.iconst 1, 1) := by decide +kernel
theorem dX6_hush_32 : decode cX6_hush 32 = .ok (.bipush 60, 2) := by decide +kernel
theorem dX6_hush_34 : decode cX6_hush 34 = .ok (.invokestatic 53, 3) := by decide +kernel
theorem dX6_hush_37 : decode cX6_hush 37 = .ok (.ifCond .eq 13, 3) := by decide +kernel
theorem dX6_hush_40 : decode cX6_hush 40 = .ok (.new 57, 3) := by decide +kernel
theorem dX6_hush_43 : decode cX6_hush 43 = .ok (.dup, 1) := by decide +kernel
theorem dX6_hush_44 : decode cX6_hush 44 = .ok (.ldc 157, 2) := by decide +kernel
theorem dX6_hush_46 : decode cX6_hush 46 = .ok (.invokespecial 61, 3) := by decide +kernel
theorem dX6_hush_49 : decode cX6_hush 49 = .ok (.athrow, 1) := by decide +kernel
theorem dX6_hush_50 : decode cX6_hush 50 = .ok (.aload_n 0, 1) := by decide +kernel
theorem dX6_hush_51 : decode cX6_hush 51 = .ok (.getfield 19, 3) := by decide +kernel
theorem dX6_hush_54 : decode cX6_hush 54 = .ok (.invokevirtual 70, 3) := by decide +kernel
theorem dX6_hush_57 : decode cX6_hush 57 = .ok (.istore 4, 2) := by decide +kernel
theorem dX6_hush_59 : decode cX6_hush 59 = .ok (.iload 4, 2) := by decide +kernel
theorem dX6_hush_61 : decode cX6_hush 61 = .ok (.iconst 5, 1) := by decide +kernel
theorem dX6_hush_62 : decode cX6_hush 62 = .ok (.if_icmp .lt 13, 3) := by decide +kernel
theorem dX6_hush_65 : decode cX6_hush 65 = .ok (.new 74, 3) := by decide +kernel
theorem dX6_hush_68 : decode cX6_hush 68 = .ok (.dup, 1) := by decide +kernel
theorem dX6_hush_69 : decode cX6_hush 69 = .ok (.ldc 159, 2) := by decide +kernel
theorem dX6_hush_71 : decode cX6_hush 71 = .ok (.invokespecial 78, 3) := by decide +kernel
theorem dX6_hush_74 : decode cX6_hush 74 = .ok (.athrow, 1) := by decide +kernel
theorem dX6_hush_75 : decode cX6_hush 75 = .ok (.aload_n 0, 1) := by decide +kernel
theorem dX6_hush_76 : decode cX6_hush 76 = .ok (.getfield 19, 3) := by decide +kernel
theorem dX6_hush_79 : decode cX6_hush 79 = .ok (.new 161, 3) := by decide +kernel
theorem dX6_hush_82 : decode cX6_hush 82 = .ok (.dup, 1) := by decide +kernel
theorem dX6_hush_83 : decode cX6_hush 83 = .ok (.iload_n 1, 1) := by decide +kernel
theorem dX6_hush_84 : decode cX6_hush 84 = .ok (.iload_n 2, 1) := by decide +kernel
theorem dX6_hush_85 : decode cX6_hush 85 = .ok (.aload_n 0, 1) := by decide +kernel
theorem dX6_hush_86 : decode cX6_hush 86 = .ok (.getfield 43, 3) := by decide +kernel
theorem dX6_hush_89 : decode cX6_hush 89 = .ok (.iload_n 3, 1) := by decide +kernel
theorem dX6_hush_90 : decode cX6_hush 90 = .ok (.iadd, 1) := by decide +kernel
theorem dX6_hush_91 : decode cX6_hush 91 = .ok (.invokespecial 163, 3) := by decide +kernel
theorem dX6_hush_94 : decode cX6_hush 94 = .ok (.invokevirtual 84, 3) := by decide +kernel
theorem dX6_hush_97 : decode cX6_hush 97 = .ok (.pop, 1) := by decide +kernel
theorem dX6_hush_98 : decode cX6_hush 98 = .ok (.iload 4, 2) := by decide +kernel
theorem dX6_hush_100 : decode cX6_hush 100 = .ok (.ireturn, 1) := by decide +kernel
theorem dX6_group_0 : decode cX6_group 0 = .ok (.iload_n 1, 1) := by decide +kernel
theorem dX6_group_1 : decode cX6_group 1 = .ok (.iconst 0, 1) := by decide +kernel
theorem dX6_group_2 : decode cX6_group 2 = .ok (.iconst 2, 1) := by decide +kernel
theorem dX6_group_3 : decode cX6_group 3 = .ok (.invokestatic 53, 3) := by decide +kernel
theorem dX6_group_6 : decode cX6_group 6 = .ok (.ifCond .eq 13, 3) := by decide +kernel
theorem dX6_group_9 : decode cX6_group 9 = .ok (.new 57, 3) := by decide +kernel
theorem dX6_group_12 : decode cX6_group 12 = .ok (.dup, 1) := by decide +kernel
theorem dX6_group_13 : decode cX6_group 13 = .ok (.ldc 170, 2) := by decide +kernel
theorem dX6_group_15 : decode cX6_group 15 = .ok (.invokespecial 61, 3) := by decide +kernel
theorem dX6_group_18 : decode cX6_group 18 = .ok (.athrow, 1) := by decide +kernel
theorem dX6_group_19 : decode cX6_group 19 = .ok (.iload_n 2, 1) := by decide +kernel
theorem dX6_group_20 : decode cX6_group 20 = .ok (.iconst 5, 1) := by decide +kernel
theorem dX6_group_21 : decode cX6_group 21 = .ok (.bipush 50, 2) := by decide +kernel
theorem dX6_group_23 : decode cX6_group 23 = .ok (.invokestatic 53, 3) := by decide +kernel
theorem dX6_group_26 : decode cX6_group 26 = .ok (.ifCond .eq 13, 3) := by decide +kernel
theorem dX6_group_29 : decode cX6_group 29 = .ok (.new 57, 3) := by decide +kernel
theorem dX6_group_32 : decode cX6_group 32 = .ok (.dup, 1) := by decide +kernel
theorem dX6_group_33 : decode cX6_group 33 = .ok (.ldc 172, 2) := by decide +kernel
theorem dX6_group_35 : decode cX6_group 35 = .ok (.invokespecial 61, 3) := by decide +kernel
theorem dX6_group_38 : decode cX6_group 38 = .ok (.athrow, 1) := by decide +kernel
theorem dX6_group_39 : decode cX6_group 39 = .ok (.aload_n 0, 1) := by decide +kernel
theorem dX6_group_40 : decode cX6_group 40 = .ok (.getfield 47, 3) := by decide +kernel
theorem dX6_group_43 : decode cX6_group 43 = .ok (.istore_n 3, 1) := by decide +kernel
theorem dX6_group_44 : decode cX6_group 44 = .ok (.aload_n 0, 1) := by decide +kernel
theorem dX6_group_45 : decode cX6_group 45 = .ok (.iload_n 2, 1) := by decide +kernel
theorem dX6_group_46 : decode cX6_group 46 = .ok (.putfield 50, 3) := by decide +kernel
theorem dX6_group_49 : decode cX6_group 49 = .ok (.iload_n 1, 1) := by decide +kernel
theorem dX6_group_50 : decode cX6_group 50 = .ok (.iload_n 3, 1) := by decide +kernel
theorem dX6_group_51 : decode cX6_group 51 = .ok (.if_icmp .eq 12, 3) := by decide +kernel
theorem dX6_group_54 : decode cX6_group 54 = .ok (.aload_n 0, 1) := by decide +kernel
theorem dX6_group_55 : decode cX6_group 55 = .ok (.iload_n 1, 1) := by decide +kernel
theorem dX6_group_56 : decode cX6_group 56 = .ok (.putfield 47, 3) := by decide +kernel
theorem dX6_group_59 : decode cX6_group 59 = .ok (.aload_n 0, 1) := by decide +kernel
theorem dX6_group_60 : decode cX6_group 60 = .ok (.invokevirtual 174, 3) := by decide +kernel
theorem dX6_group_63 : decode cX6_group 63 = .ok (.iload_n 3, 1) := by decide +kernel
theorem dX6_group_64 : decode cX6_group 64 = .ok (.ireturn, 1) := by decide +kernel
theorem dX6_tick_0 : decode cX6_tick 0 = .ok (.iload_n 1, 1) := by decide +kernel
theorem dX6_tick_1 : decode cX6_tick 1 = .ok (.invokestatic 177, 3) := by decide +kernel
theorem dX6_tick_4 : decode cX6_tick 4 = .ok (.iconst 0, 1) := by decide +kernel
theorem dX6_tick_5 : decode cX6_tick 5 = .ok (.istore_n 2, 1) := by decide +kernel
theorem dX6_tick_6 : decode cX6_tick 6 = .ok (.iconst 0, 1) := by decide +kernel
theorem dX6_tick_7 : decode cX6_tick 7 = .ok (.istore_n 3, 1) := by decide +kernel
theorem dX6_tick_8 : decode cX6_tick 8 = .ok (.iload_n 3, 1) := by decide +kernel
theorem dX6_tick_9 : decode cX6_tick 9 = .ok (.iload_n 1, 1) := by decide +kernel
theorem dX6_tick_10 : decode cX6_tick 10 = .ok (.if_icmp .ge 99, 3) := by decide +kernel
theorem dX6_tick_13 : decode cX6_tick 13 = .ok (.aload_n 0, 1) := by decide +kernel
theorem dX6_tick_14 : decode cX6_tick 14 = .ok (.dup, 1) := by decide +kernel
theorem dX6_tick_15 : decode cX6_tick 15 = .ok (.getfield 43, 3) := by decide +kernel
theorem dX6_tick_18 : decode cX6_tick 18 = .ok (.iconst 1, 1) := by decide +kernel
theorem dX6_tick_19 : decode cX6_tick 19 = .ok (.iadd, 1) := by decide +kernel
theorem dX6_tick_20 : decode cX6_tick 20 = .ok (.putfield 43, 3) := by decide +kernel
theorem dX6_tick_23 : decode cX6_tick 23 = .ok (.iconst 0, 1) := by decide +kernel
theorem dX6_tick_24 : decode cX6_tick 24 = .ok (.istore 4, 2) := by decide +kernel
theorem dX6_tick_26 : decode cX6_tick 26 = .ok (.iload 4, 2) := by decide +kernel
theorem dX6_tick_28 : decode cX6_tick 28 = .ok (.aload_n 0, 1) := by decide +kernel
theorem dX6_tick_29 : decode cX6_tick 29 = .ok (.getfield 10, 3) := by decide +kernel
theorem dX6_tick_32 : decode cX6_tick 32 = .ok (.invokevirtual 70, 3) := by decide +kernel
theorem dX6_tick_35 : decode cX6_tick 35 = .ok (.if_icmp .ge 24, 3) := by decide +kernel
theorem dX6_tick_38 : decode cX6_tick 38 = .ok (.aload_n 0, 1) := by decide +kernel
theorem dX6_tick_39 : decode cX6_tick 39 = .ok (.getfield 10, 3) := by decide +kernel
theorem dX6_tick_42 : decode cX6_tick 42 = .ok (.iload 4, 2) := by decide +kernel
theorem dX6_tick_44 : decode cX6_tick 44 = .ok (.invokevirtual 180, 3) := by decide +kernel
theorem dX6_tick_47 : decode cX6_tick 47 = .ok (.checkcast 79, 3) := by decide +kernel
theorem dX6_tick_50 : decode cX6_tick 50 = .ok (.invokevirtual 183, 3) := by decide +kernel
theorem dX6_tick_53 : decode cX6_tick 53 = .ok (.iinc 4 1, 3) := by decide +kernel
theorem dX6_tick_56 : decode cX6_tick 56 = .ok (.goto (-30), 3) := by decide +kernel
theorem dX6_tick_59 : decode cX6_tick 59 = .ok (.iconst 0, 1) := by decide +kernel
theorem dX6_tick_60 : decode cX6_tick 60 = .ok (.istore 4, 2) := by decide +kernel
theorem dX6_tick_62 : decode cX6_tick 62 = .ok (.iload 4, 2) := by decide +kernel
theorem dX6_tick_64 : decode cX6_tick 64 = .ok (.aload_n 0, 1) := by decide +kernel
theorem dX6_tick_65 : decode cX6_tick 65 = .ok (.getfield 16, 3) := by decide +kernel
theorem dX6_tick_68 : decode cX6_tick 68 = .ok (.invokevirtual 70, 3) := by decide +kernel
theorem dX6_tick_71 : decode cX6_tick 71 = .ok (.if_icmp .ge 25, 3) := by decide +kernel
theorem dX6_tick_74 : decode cX6_tick 74 = .ok (.aload_n 0, 1) := by decide +kernel
theorem dX6_tick_75 : decode cX6_tick 75 = .ok (.aload_n 0, 1) := by decide +kernel
theorem dX6_tick_76 : decode cX6_tick 76 = .ok (.getfield 16, 3) := by decide +kernel
theorem dX6_tick_79 : decode cX6_tick 79 = .ok (.iload 4, 2) := by decide +kernel
theorem dX6_tick_81 : decode cX6_tick 81 = .ok (.invokevirtual 180, 3) := by decide +kernel
theorem dX6_tick_84 : decode cX6_tick 84 = .ok (.checkcast 120, 3) := by decide +kernel
theorem dX6_tick_87 : decode cX6_tick 87 = .ok (.invokevirtual 186, 3) := by decide +kernel
theorem dX6_tick_90 : decode cX6_tick 90 = .ok (.iinc 4 1, 3) := by decide +kernel
theorem dX6_tick_93 : decode cX6_tick 93 = .ok (.goto (-31), 3) := by decide +kernel
theorem dX6_tick_96 : decode cX6_tick 96 = .ok (.iload_n 2, 1) := by decide +kernel
theorem dX6_tick_97 : decode cX6_tick 97 = .ok (.aload_n 0, 1) := by decide +kernel
theorem dX6_tick_98 : decode cX6_tick 98 = .ok (.invokevirtual 190, 3) := by decide +kernel
theorem dX6_tick_101 : decode cX6_tick 101 = .ok (.iadd, 1) := by decide +kernel
theorem dX6_tick_102 : decode cX6_tick 102 = .ok (.istore_n 2, 1) := by decide +kernel
theorem dX6_tick_103 : decode cX6_tick 103 = .ok (.iinc 3 1, 3) := by decide +kernel
theorem dX6_tick_106 : decode cX6_tick 106 = .ok (.goto (-98), 3) := by decide +kernel
theorem dX6_tick_109 : decode cX6_tick 109 = .ok (.iload_n 2, 1) := by decide +kernel
theorem dX6_tick_110 : decode cX6_tick 110 = .ok (.ireturn, 1) := by decide +kernel
theorem dX6_clock_0 : decode cX6_clock 0 = .ok (.aload_n 0, 1) := by decide +kernel
theorem dX6_clock_1 : decode cX6_clock 1 = .ok (.getfield 43, 3) := by decide +kernel
theorem dX6_clock_4 : decode cX6_clock 4 = .ok (.ireturn, 1) := by decide +kernel
theorem dX6_many_0 : decode cX6_many 0 = .ok (.iload_n 1, 1) := by decide +kernel
theorem dX6_many_1 : decode cX6_many 1 = .ok (.tableswitch 93 0 6 #[43, 51, 59, 67, 73, 79, 85], 43) := by decide +kernel
theorem dX6_many_44 : decode cX6_many 44 = .ok (.aload_n 0, 1) := by decide +kernel
theorem dX6_many_45 : decode cX6_many 45 = .ok (.getfield 10, 3) := by decide +kernel
theorem dX6_many_48 : decode cX6_many 48 = .ok (.invokevirtual 70, 3) := by decide +kernel
theorem dX6_many_51 : decode cX6_many 51 = .ok (.ireturn, 1) := by decide +kernel
theorem dX6_many_52 : decode cX6_many 52 = .ok (.aload_n 0, 1) := by decide +kernel
theorem dX6_many_53 : decode cX6_many 53 = .ok (.getfield 16, 3) := by decide +kernel
theorem dX6_many_56 : decode cX6_many 56 = .ok (.invokevirtual 70, 3) := by decide +kernel
theorem dX6_many_59 : decode cX6_many 59 = .ok (.ireturn, 1) := by decide +kernel
theorem dX6_many_60 : decode cX6_many 60 = .ok (.aload_n 0, 1) := by decide +kernel
theorem dX6_many_61 : decode cX6_many 61 = .ok (.getfield 19, 3) := by decide +kernel
theorem dX6_many_64 : decode cX6_many 64 = .ok (.invokevirtual 70, 3) := by decide +kernel
theorem dX6_many_67 : decode cX6_many 67 = .ok (.ireturn, 1) := by decide +kernel
theorem dX6_many_68 : decode cX6_many 68 = .ok (.aload_n 0, 1) := by decide +kernel
theorem dX6_many_69 : decode cX6_many 69 = .ok (.iconst 1, 1) := by decide +kernel
theorem dX6_many_70 : decode cX6_many 70 = .ok (.invokevirtual 193, 3) := by decide +kernel
theorem dX6_many_73 : decode cX6_many 73 = .ok (.ireturn, 1) := by decide +kernel
theorem dX6_many_74 : decode cX6_many 74 = .ok (.aload_n 0, 1) := by decide +kernel
theorem dX6_many_75 : decode cX6_many 75 = .ok (.iconst 2, 1) := by decide +kernel
theorem dX6_many_76 : decode cX6_many 76 = .ok (.invokevirtual 193, 3) := by decide +kernel
theorem dX6_many_79 : decode cX6_many 79 = .ok (.ireturn, 1) := by decide +kernel
theorem dX6_many_80 : decode cX6_many 80 = .ok (.aload_n 0, 1) := by decide +kernel
theorem dX6_many_81 : decode cX6_many 81 = .ok (.iconst (-1), 1) := by decide +kernel
theorem dX6_many_82 : decode cX6_many 82 = .ok (.invokevirtual 197, 3) := by decide +kernel
theorem dX6_many_85 : decode cX6_many 85 = .ok (.ireturn, 1) := by decide +kernel
theorem dX6_many_86 : decode cX6_many 86 = .ok (.aload_n 0, 1) := by decide +kernel
theorem dX6_many_87 : decode cX6_many 87 = .ok (.getfield 32, 3) := by decide +kernel
theorem dX6_many_90 : decode cX6_many 90 = .ok (.getfield 200, 3) := by decide +kernel
theorem dX6_many_93 : decode cX6_many 93 = .ok (.ireturn, 1) := by decide +kernel
theorem dX6_many_94 : decode cX6_many 94 = .ok (.new 57, 3) := by decide +kernel
theorem dX6_many_97 : decode cX6_many 97 = .ok (.dup, 1) := by decide +kernel
theorem dX6_many_98 : decode cX6_many 98 = .ok (.ldc 203, 2) := by decide +kernel
theorem dX6_many_100 : decode cX6_many 100 = .ok (.invokespecial 61, 3) := by decide +kernel
theorem dX6_many_103 : decode cX6_many 103 = .ok (.athrow, 1) := by decide +kernel
theorem dX6_now_0 : decode cX6_now 0 = .ok (.aload_n 0, 1) := by decide +kernel
theorem dX6_now_1 : decode cX6_now 1 = .ok (.iload_n 1, 1) := by decide +kernel
theorem dX6_now_2 : decode cX6_now 2 = .ok (.invokevirtual 88, 3) := by decide +kernel
theorem dX6_now_5 : decode cX6_now 5 = .ok (.astore_n 3, 1) := by decide +kernel
theorem dX6_now_6 : decode cX6_now 6 = .ok (.iload_n 2, 1) := by decide +kernel
theorem dX6_now_7 : decode cX6_now 7 = .ok (.iconst 0, 1) := by decide +kernel
theorem dX6_now_8 : decode cX6_now 8 = .ok (.bipush 6, 2) := by decide +kernel
theorem dX6_now_10 : decode cX6_now 10 = .ok (.invokestatic 53, 3) := by decide +kernel
theorem dX6_now_13 : decode cX6_now 13 = .ok (.ifCond .eq 13, 3) := by decide +kernel
theorem dX6_now_16 : decode cX6_now 16 = .ok (.new 57, 3) := by decide +kernel
theorem dX6_now_19 : decode cX6_now 19 = .ok (.dup, 1) := by decide +kernel
theorem dX6_now_20 : decode cX6_now 20 = .ok (.ldc 203, 2) := by decide +kernel
theorem dX6_now_22 : decode cX6_now 22 = .ok (.invokespecial 61, 3) := by decide +kernel
theorem dX6_now_25 : decode cX6_now 25 = .ok (.athrow, 1) := by decide +kernel
theorem dX6_now_26 : decode cX6_now 26 = .ok (.iload_n 2, 1) := by decide +kernel
theorem dX6_now_27 : decode cX6_now 27 = .ok (.ifCond .ne 10, 3) := by decide +kernel
theorem dX6_now_30 : decode cX6_now 30 = .ok (.aload_n 3, 1) := by decide +kernel
theorem dX6_now_31 : decode cX6_now 31 = .ok (.getfield 100, 3) := by decide +kernel
theorem dX6_now_34 : decode cX6_now 34 = .ok (.iconst 0, 1) := by decide +kernel
theorem dX6_now_35 : decode cX6_now 35 = .ok (.iaload, 1) := by decide +kernel
theorem dX6_now_36 : decode cX6_now 36 = .ok (.ireturn, 1) := by decide +kernel
theorem dX6_now_37 : decode cX6_now 37 = .ok (.iload_n 2, 1) := by decide +kernel
theorem dX6_now_38 : decode cX6_now 38 = .ok (.iconst 1, 1) := by decide +kernel
theorem dX6_now_39 : decode cX6_now 39 = .ok (.if_icmp .ne 10, 3) := by decide +kernel
theorem dX6_now_42 : decode cX6_now 42 = .ok (.aload_n 3, 1) := by decide +kernel
theorem dX6_now_43 : decode cX6_now 43 = .ok (.getfield 205, 3) := by decide +kernel
theorem dX6_now_46 : decode cX6_now 46 = .ok (.goto 13, 3) := by decide +kernel
theorem dX6_now_49 : decode cX6_now 49 = .ok (.aload_n 3, 1) := by decide +kernel
theorem dX6_now_50 : decode cX6_now 50 = .ok (.getfield 100, 3) := by decide +kernel
theorem dX6_now_53 : decode cX6_now 53 = .ok (.iload_n 2, 1) := by decide +kernel
theorem dX6_now_54 : decode cX6_now 54 = .ok (.iconst 2, 1) := by decide +kernel
theorem dX6_now_55 : decode cX6_now 55 = .ok (.isub, 1) := by decide +kernel
theorem dX6_now_56 : decode cX6_now 56 = .ok (.iconst 1, 1) := by decide +kernel
theorem dX6_now_57 : decode cX6_now 57 = .ok (.iadd, 1) := by decide +kernel
theorem dX6_now_58 : decode cX6_now 58 = .ok (.iaload, 1) := by decide +kernel
theorem dX6_now_59 : decode cX6_now 59 = .ok (.ireturn, 1) := by decide +kernel
theorem dX6_sample_0 : decode cX6_sample 0 = .ok (.aload_n 0, 1) := by decide +kernel
theorem dX6_sample_1 : decode cX6_sample 1 = .ok (.iload_n 1, 1) := by decide +kernel
theorem dX6_sample_2 : decode cX6_sample 2 = .ok (.invokevirtual 88, 3) := by decide +kernel
theorem dX6_sample_5 : decode cX6_sample 5 = .ok (.astore_n 3, 1) := by decide +kernel
theorem dX6_sample_6 : decode cX6_sample 6 = .ok (.iload_n 2, 1) := by decide +kernel
theorem dX6_sample_7 : decode cX6_sample 7 = .ok (.ifCond .ge 13, 3) := by decide +kernel
theorem dX6_sample_10 : decode cX6_sample 10 = .ok (.new 57, 3) := by decide +kernel
theorem dX6_sample_13 : decode cX6_sample 13 = .ok (.dup, 1) := by decide +kernel
theorem dX6_sample_14 : decode cX6_sample 14 = .ok (.ldc 208, 2) := by decide +kernel
theorem dX6_sample_16 : decode cX6_sample 16 = .ok (.invokespecial 61, 3) := by decide +kernel
theorem dX6_sample_19 : decode cX6_sample 19 = .ok (.athrow, 1) := by decide +kernel
theorem dX6_sample_20 : decode cX6_sample 20 = .ok (.aload_n 3, 1) := by decide +kernel
theorem dX6_sample_21 : decode cX6_sample 21 = .ok (.iconst 0, 1) := by decide +kernel
theorem dX6_sample_22 : decode cX6_sample 22 = .ok (.iload_n 2, 1) := by decide +kernel
theorem dX6_sample_23 : decode cX6_sample 23 = .ok (.iconst 0, 1) := by decide +kernel
theorem dX6_sample_24 : decode cX6_sample 24 = .ok (.invokevirtual 210, 3) := by decide +kernel
theorem dX6_sample_27 : decode cX6_sample 27 = .ok (.ireturn, 1) := by decide +kernel
theorem dX6_look_0 : decode cX6_look 0 = .ok (.aload_n 0, 1) := by decide +kernel
end
section
theorem dX6_look_1 : decode cX6_look 1 = .ok (.iload_n 1, 1) := by decide +kernel
theorem dX6_look_2 : decode cX6_look 2 = .ok (.invokevirtual 88, 3) := by decide +kernel
theorem dX6_look_5 : decode cX6_look 5 = .ok (.astore 4, 2) := by decide +kernel
theorem dX6_look_7 : decode cX6_look 7 = .ok (.iload_n 2, 1) := by decide +kernel
theorem dX6_look_8 : decode cX6_look 8 = .ok (.invokestatic 107, 3) := by decide +kernel
theorem dX6_look_11 : decode cX6_look 11 = .ok (.iload_n 3, 1) := by decide +kernel
theorem dX6_look_12 : decode cX6_look 12 = .ok (.invokestatic 110, 3) := by decide +kernel
theorem dX6_look_15 : decode cX6_look 15 = .ok (.aload 4, 2) := by decide +kernel
theorem dX6_look_17 : decode cX6_look 17 = .ok (.iload_n 2, 1) := by decide +kernel
theorem dX6_look_18 : decode cX6_look 18 = .ok (.iload_n 3, 1) := by decide +kernel
theorem dX6_look_19 : decode cX6_look 19 = .ok (.iconst 0, 1) := by decide +kernel
theorem dX6_look_20 : decode cX6_look 20 = .ok (.invokevirtual 214, 3) := by decide +kernel
theorem dX6_look_23 : decode cX6_look 23 = .ok (.ireturn, 1) := by decide +kernel
theorem dX6_alert_0 : decode cX6_alert 0 = .ok (.aload_n 0, 1) := by decide +kernel
theorem dX6_alert_1 : decode cX6_alert 1 = .ok (.iload_n 1, 1) := by decide +kernel
theorem dX6_alert_2 : decode cX6_alert 2 = .ok (.invokevirtual 132, 3) := by decide +kernel
theorem dX6_alert_5 : decode cX6_alert 5 = .ok (.astore 4, 2) := by decide +kernel
theorem dX6_alert_7 : decode cX6_alert 7 = .ok (.iload_n 3, 1) := by decide +kernel
theorem dX6_alert_8 : decode cX6_alert 8 = .ok (.iconst 0, 1) := by decide +kernel
theorem dX6_alert_9 : decode cX6_alert 9 = .ok (.iconst 2, 1) := by decide +kernel
theorem dX6_alert_10 : decode cX6_alert 10 = .ok (.invokestatic 53, 3) := by decide +kernel
theorem dX6_alert_13 : decode cX6_alert 13 = .ok (.ifCond .eq 13, 3) := by decide +kernel
theorem dX6_alert_16 : decode cX6_alert 16 = .ok (.new 57, 3) := by decide +kernel
theorem dX6_alert_19 : decode cX6_alert 19 = .ok (.dup, 1) := by decide +kernel
theorem dX6_alert_20 : decode cX6_alert 20 = .ok (.ldc 227, 2) := by decide +kernel
theorem dX6_alert_22 : decode cX6_alert 22 = .ok (.invokespecial 61, 3) := by decide +kernel
theorem dX6_alert_25 : decode cX6_alert 25 = .ok (.athrow, 1) := by decide +kernel
theorem dX6_alert_26 : decode cX6_alert 26 = .ok (.aload 4, 2) := by decide +kernel
theorem dX6_alert_28 : decode cX6_alert 28 = .ok (.iload_n 2, 1) := by decide +kernel
theorem dX6_alert_29 : decode cX6_alert 29 = .ok (.invokevirtual 229, 3) := by decide +kernel
theorem dX6_alert_32 : decode cX6_alert 32 = .ok (.astore 5, 2) := by decide +kernel
theorem dX6_alert_34 : decode cX6_alert 34 = .ok (.aload 5, 2) := by decide +kernel
theorem dX6_alert_36 : decode cX6_alert 36 = .ok (.ifnonnull 22, 3) := by decide +kernel
theorem dX6_alert_39 : decode cX6_alert 39 = .ok (.iload_n 3, 1) := by decide +kernel
theorem dX6_alert_40 : decode cX6_alert 40 = .ok (.ifCond .ne 7, 3) := by decide +kernel
theorem dX6_alert_43 : decode cX6_alert 43 = .ok (.iconst 0, 1) := by decide +kernel
theorem dX6_alert_44 : decode cX6_alert 44 = .ok (.goto 13, 3) := by decide +kernel
theorem dX6_alert_47 : decode cX6_alert 47 = .ok (.iload_n 3, 1) := by decide +kernel
theorem dX6_alert_48 : decode cX6_alert 48 = .ok (.iconst 1, 1) := by decide +kernel
theorem dX6_alert_49 : decode cX6_alert 49 = .ok (.if_icmp .ne 7, 3) := by decide +kernel
theorem dX6_alert_52 : decode cX6_alert 52 = .ok (.iconst (-1), 1) := by decide +kernel
theorem dX6_alert_53 : decode cX6_alert 53 = .ok (.goto 4, 3) := by decide +kernel
theorem dX6_alert_56 : decode cX6_alert 56 = .ok (.iconst 1, 1) := by decide +kernel
theorem dX6_alert_57 : decode cX6_alert 57 = .ok (.ireturn, 1) := by decide +kernel
theorem dX6_alert_58 : decode cX6_alert 58 = .ok (.iload_n 3, 1) := by decide +kernel
theorem dX6_alert_59 : decode cX6_alert 59 = .ok (.lookupswitch 37 #[(0, 25), (1, 31)], 25) := by decide +kernel
theorem dX6_alert_84 : decode cX6_alert 84 = .ok (.aload 5, 2) := by decide +kernel
theorem dX6_alert_86 : decode cX6_alert 86 = .ok (.getfield 233, 3) := by decide +kernel
theorem dX6_alert_89 : decode cX6_alert 89 = .ok (.ireturn, 1) := by decide +kernel
theorem dX6_alert_90 : decode cX6_alert 90 = .ok (.aload 5, 2) := by decide +kernel
theorem dX6_alert_92 : decode cX6_alert 92 = .ok (.getfield 236, 3) := by decide +kernel
theorem dX6_alert_95 : decode cX6_alert 95 = .ok (.ireturn, 1) := by decide +kernel
theorem dX6_alert_96 : decode cX6_alert 96 = .ok (.aload_n 0, 1) := by decide +kernel
theorem dX6_alert_97 : decode cX6_alert 97 = .ok (.aload 4, 2) := by decide +kernel
theorem dX6_alert_99 : decode cX6_alert 99 = .ok (.iload_n 2, 1) := by decide +kernel
theorem dX6_alert_100 : decode cX6_alert 100 = .ok (.iconst (-1), 1) := by decide +kernel
theorem dX6_alert_101 : decode cX6_alert 101 = .ok (.invokevirtual 239, 3) := by decide +kernel
theorem dX6_alert_104 : decode cX6_alert 104 = .ok (.ireturn, 1) := by decide +kernel
theorem dX6_alertAt_0 : decode cX6_alertAt 0 = .ok (.aconst_null, 1) := by decide +kernel
theorem dX6_alertAt_1 : decode cX6_alertAt 1 = .ok (.astore_n 3, 1) := by decide +kernel
theorem dX6_alertAt_2 : decode cX6_alertAt 2 = .ok (.iconst (-1), 1) := by decide +kernel
theorem dX6_alertAt_3 : decode cX6_alertAt 3 = .ok (.istore 4, 2) := by decide +kernel
theorem dX6_alertAt_5 : decode cX6_alertAt 5 = .ok (.iconst 0, 1) := by decide +kernel
theorem dX6_alertAt_6 : decode cX6_alertAt 6 = .ok (.istore 5, 2) := by decide +kernel
theorem dX6_alertAt_8 : decode cX6_alertAt 8 = .ok (.iconst 0, 1) := by decide +kernel
theorem dX6_alertAt_9 : decode cX6_alertAt 9 = .ok (.istore 6, 2) := by decide +kernel
theorem dX6_alertAt_11 : decode cX6_alertAt 11 = .ok (.iload 6, 2) := by decide +kernel
theorem dX6_alertAt_13 : decode cX6_alertAt 13 = .ok (.aload_n 0, 1) := by decide +kernel
theorem dX6_alertAt_14 : decode cX6_alertAt 14 = .ok (.getfield 16, 3) := by decide +kernel
theorem dX6_alertAt_17 : decode cX6_alertAt 17 = .ok (.invokevirtual 70, 3) := by decide +kernel
theorem dX6_alertAt_20 : decode cX6_alertAt 20 = .ok (.if_icmp .ge 62, 3) := by decide +kernel
theorem dX6_alertAt_23 : decode cX6_alertAt 23 = .ok (.aload_n 3, 1) := by decide +kernel
theorem dX6_alertAt_24 : decode cX6_alertAt 24 = .ok (.ifnonnull 58, 3) := by decide +kernel
theorem dX6_alertAt_27 : decode cX6_alertAt 27 = .ok (.aload_n 0, 1) := by decide +kernel
theorem dX6_alertAt_28 : decode cX6_alertAt 28 = .ok (.getfield 16, 3) := by decide +kernel
theorem dX6_alertAt_31 : decode cX6_alertAt 31 = .ok (.iload 6, 2) := by decide +kernel
theorem dX6_alertAt_33 : decode cX6_alertAt 33 = .ok (.invokevirtual 180, 3) := by decide +kernel
theorem dX6_alertAt_36 : decode cX6_alertAt 36 = .ok (.checkcast 120, 3) := by decide +kernel
theorem dX6_alertAt_39 : decode cX6_alertAt 39 = .ok (.astore 7, 2) := by decide +kernel
theorem dX6_alertAt_41 : decode cX6_alertAt 41 = .ok (.aload 7, 2) := by decide +kernel
theorem dX6_alertAt_43 : decode cX6_alertAt 43 = .ok (.iload_n 1, 1) := by decide +kernel
theorem dX6_alertAt_44 : decode cX6_alertAt 44 = .ok (.iload 5, 2) := by decide +kernel
theorem dX6_alertAt_46 : decode cX6_alertAt 46 = .ok (.isub, 1) := by decide +kernel
theorem dX6_alertAt_47 : decode cX6_alertAt 47 = .ok (.invokevirtual 242, 3) := by decide +kernel
theorem dX6_alertAt_50 : decode cX6_alertAt 50 = .ok (.istore 4, 2) := by decide +kernel
theorem dX6_alertAt_52 : decode cX6_alertAt 52 = .ok (.iload 4, 2) := by decide +kernel
theorem dX6_alertAt_54 : decode cX6_alertAt 54 = .ok (.iconst (-1), 1) := by decide +kernel
theorem dX6_alertAt_55 : decode cX6_alertAt 55 = .ok (.if_icmp .ne 7, 3) := by decide +kernel
theorem dX6_alertAt_58 : decode cX6_alertAt 58 = .ok (.aconst_null, 1) := by decide +kernel
theorem dX6_alertAt_59 : decode cX6_alertAt 59 = .ok (.goto 5, 3) := by decide +kernel
theorem dX6_alertAt_62 : decode cX6_alertAt 62 = .ok (.aload 7, 2) := by decide +kernel
theorem dX6_alertAt_64 : decode cX6_alertAt 64 = .ok (.astore_n 3, 1) := by decide +kernel
theorem dX6_alertAt_65 : decode cX6_alertAt 65 = .ok (.iload 5, 2) := by decide +kernel
theorem dX6_alertAt_67 : decode cX6_alertAt 67 = .ok (.aload 7, 2) := by decide +kernel
theorem dX6_alertAt_69 : decode cX6_alertAt 69 = .ok (.iconst 1, 1) := by decide +kernel
theorem dX6_alertAt_70 : decode cX6_alertAt 70 = .ok (.invokevirtual 245, 3) := by decide +kernel
theorem dX6_alertAt_73 : decode cX6_alertAt 73 = .ok (.iadd, 1) := by decide +kernel
theorem dX6_alertAt_74 : decode cX6_alertAt 74 = .ok (.istore 5, 2) := by decide +kernel
theorem dX6_alertAt_76 : decode cX6_alertAt 76 = .ok (.iinc 6 1, 3) := by decide +kernel
theorem dX6_alertAt_79 : decode cX6_alertAt 79 = .ok (.goto (-68), 3) := by decide +kernel
theorem dX6_alertAt_82 : decode cX6_alertAt 82 = .ok (.aload_n 3, 1) := by decide +kernel
theorem dX6_alertAt_83 : decode cX6_alertAt 83 = .ok (.ifnonnull 13, 3) := by decide +kernel
theorem dX6_alertAt_86 : decode cX6_alertAt 86 = .ok (.new 248, 3) := by decide +kernel
theorem dX6_alertAt_89 : decode cX6_alertAt 89 = .ok (.dup, 1) := by decide +kernel
theorem dX6_alertAt_90 : decode cX6_alertAt 90 = .ok (.ldc 250, 2) := by decide +kernel
theorem dX6_alertAt_92 : decode cX6_alertAt 92 = .ok (.invokespecial 252, 3) := by decide +kernel
theorem dX6_alertAt_95 : decode cX6_alertAt 95 = .ok (.athrow, 1) := by decide +kernel
theorem dX6_alertAt_96 : decode cX6_alertAt 96 = .ok (.iload_n 2, 1) := by decide +kernel
theorem dX6_alertAt_97 : decode cX6_alertAt 97 = .ok (.tableswitch 43 0 2 #[27, 32, 35], 27) := by decide +kernel
theorem dX6_alertAt_124 : decode cX6_alertAt 124 = .ok (.aload_n 3, 1) := by decide +kernel
theorem dX6_alertAt_125 : decode cX6_alertAt 125 = .ok (.getfield 253, 3) := by decide +kernel
theorem dX6_alertAt_128 : decode cX6_alertAt 128 = .ok (.ireturn, 1) := by decide +kernel
theorem dX6_alertAt_129 : decode cX6_alertAt 129 = .ok (.iload 4, 2) := by decide +kernel
theorem dX6_alertAt_131 : decode cX6_alertAt 131 = .ok (.ireturn, 1) := by decide +kernel
theorem dX6_alertAt_132 : decode cX6_alertAt 132 = .ok (.aload_n 0, 1) := by decide +kernel
theorem dX6_alertAt_133 : decode cX6_alertAt 133 = .ok (.aload_n 3, 1) := by decide +kernel
theorem dX6_alertAt_134 : decode cX6_alertAt 134 = .ok (.iload 4, 2) := by decide +kernel
theorem dX6_alertAt_136 : decode cX6_alertAt 136 = .ok (.invokevirtual 256, 3) := by decide +kernel
theorem dX6_alertAt_139 : decode cX6_alertAt 139 = .ok (.ireturn, 1) := by decide +kernel
theorem dX6_alertAt_140 : decode cX6_alertAt 140 = .ok (.new 57, 3) := by decide +kernel
theorem dX6_alertAt_143 : decode cX6_alertAt 143 = .ok (.dup, 1) := by decide +kernel
theorem dX6_alertAt_144 : decode cX6_alertAt 144 = .ok (.ldc 227, 2) := by decide +kernel
theorem dX6_alertAt_146 : decode cX6_alertAt 146 = .ok (.invokespecial 61, 3) := by decide +kernel
theorem dX6_alertAt_149 : decode cX6_alertAt 149 = .ok (.athrow, 1) := by decide +kernel
theorem dX6_ofHush_0 : decode cX6_ofHush 0 = .ok (.aload_n 0, 1) := by decide +kernel
theorem dX6_ofHush_1 : decode cX6_ofHush 1 = .ok (.iload_n 1, 1) := by decide +kernel
theorem dX6_ofHush_2 : decode cX6_ofHush 2 = .ok (.invokevirtual 166, 3) := by decide +kernel
theorem dX6_ofHush_5 : decode cX6_ofHush 5 = .ok (.astore_n 3, 1) := by decide +kernel
theorem dX6_ofHush_6 : decode cX6_ofHush 6 = .ok (.iload_n 2, 1) := by decide +kernel
theorem dX6_ofHush_7 : decode cX6_ofHush 7 = .ok (.tableswitch 50 0 3 #[29, 34, 39, 44], 29) := by decide +kernel
theorem dX6_ofHush_36 : decode cX6_ofHush 36 = .ok (.aload_n 3, 1) := by decide +kernel
theorem dX6_ofHush_37 : decode cX6_ofHush 37 = .ok (.getfield 260, 3) := by decide +kernel
theorem dX6_ofHush_40 : decode cX6_ofHush 40 = .ok (.ireturn, 1) := by decide +kernel
theorem dX6_ofHush_41 : decode cX6_ofHush 41 = .ok (.aload_n 3, 1) := by decide +kernel
theorem dX6_ofHush_42 : decode cX6_ofHush 42 = .ok (.getfield 263, 3) := by decide +kernel
theorem dX6_ofHush_45 : decode cX6_ofHush 45 = .ok (.ireturn, 1) := by decide +kernel
theorem dX6_ofHush_46 : decode cX6_ofHush 46 = .ok (.aload_n 3, 1) := by decide +kernel
theorem dX6_ofHush_47 : decode cX6_ofHush 47 = .ok (.getfield 266, 3) := by decide +kernel
theorem dX6_ofHush_50 : decode cX6_ofHush 50 = .ok (.ireturn, 1) := by decide +kernel
theorem dX6_ofHush_51 : decode cX6_ofHush 51 = .ok (.aload_n 0, 1) := by decide +kernel
theorem dX6_ofHush_52 : decode cX6_ofHush 52 = .ok (.aload_n 3, 1) := by decide +kernel
theorem dX6_ofHush_53 : decode cX6_ofHush 53 = .ok (.invokevirtual 269, 3) := by decide +kernel
theorem dX6_ofHush_56 : decode cX6_ofHush 56 = .ok (.ireturn, 1) := by decide +kernel
theorem dX6_ofHush_57 : decode cX6_ofHush 57 = .ok (.new 57, 3) := by decide +kernel
theorem dX6_ofHush_60 : decode cX6_ofHush 60 = .ok (.dup, 1) := by decide +kernel
theorem dX6_ofHush_61 : decode cX6_ofHush 61 = .ok (.ldc_w 273, 3) := by decide +kernel
theorem dX6_ofHush_64 : decode cX6_ofHush 64 = .ok (.invokespecial 61, 3) := by decide +kernel
theorem dX6_ofHush_67 : decode cX6_ofHush 67 = .ok (.athrow, 1) := by decide +kernel
theorem dX6_notice_0 : decode cX6_notice 0 = .ok (.iload_n 1, 1) := by decide +kernel
theorem dX6_notice_1 : decode cX6_notice 1 = .ok (.iconst 0, 1) := by decide +kernel
theorem dX6_notice_2 : decode cX6_notice 2 = .ok (.aload_n 0, 1) := by decide +kernel
theorem dX6_notice_3 : decode cX6_notice 3 = .ok (.getfield 32, 3) := by decide +kernel
theorem dX6_notice_6 : decode cX6_notice 6 = .ok (.getfield 275, 3) := by decide +kernel
theorem dX6_notice_9 : decode cX6_notice 9 = .ok (.iconst 1, 1) := by decide +kernel
theorem dX6_notice_10 : decode cX6_notice 10 = .ok (.isub, 1) := by decide +kernel
theorem dX6_notice_11 : decode cX6_notice 11 = .ok (.invokestatic 53, 3) := by decide +kernel
theorem dX6_notice_14 : decode cX6_notice 14 = .ok (.ifCond .eq 14, 3) := by decide +kernel
theorem dX6_notice_17 : decode cX6_notice 17 = .ok (.new 248, 3) := by decide +kernel
theorem dX6_notice_20 : decode cX6_notice 20 = .ok (.dup, 1) := by decide +kernel
theorem dX6_notice_21 : decode cX6_notice 21 = .ok (.ldc_w 276, 3) := by decide +kernel
theorem dX6_notice_24 : decode cX6_notice 24 = .ok (.invokespecial 252, 3) := by decide +kernel
theorem dX6_notice_27 : decode cX6_notice 27 = .ok (.athrow, 1) := by decide +kernel
theorem dX6_notice_28 : decode cX6_notice 28 = .ok (.iload_n 2, 1) := by decide +kernel
theorem dX6_notice_29 : decode cX6_notice 29 = .ok (.iconst 0, 1) := by decide +kernel
theorem dX6_notice_30 : decode cX6_notice 30 = .ok (.iconst 3, 1) := by decide +kernel
theorem dX6_notice_31 : decode cX6_notice 31 = .ok (.invokestatic 53, 3) := by decide +kernel
theorem dX6_notice_34 : decode cX6_notice 34 = .ok (.ifCond .eq 14, 3) := by decide +kernel
theorem dX6_notice_37 : decode cX6_notice 37 = .ok (.new 57, 3) := by decide +kernel
theorem dX6_notice_40 : decode cX6_notice 40 = .ok (.dup, 1) := by decide +kernel
theorem dX6_notice_41 : decode cX6_notice 41 = .ok (.ldc_w 273, 3) := by decide +kernel
theorem dX6_notice_44 : decode cX6_notice 44 = .ok (.invokespecial 61, 3) := by decide +kernel
theorem dX6_notice_47 : decode cX6_notice 47 = .ok (.athrow, 1) := by decide +kernel
theorem dX6_notice_48 : decode cX6_notice 48 = .ok (.aload_n 0, 1) := by decide +kernel
theorem dX6_notice_49 : decode cX6_notice 49 = .ok (.getfield 32, 3) := by decide +kernel
theorem dX6_notice_52 : decode cX6_notice 52 = .ok (.iload_n 1, 1) := by decide +kernel
theorem dX6_notice_53 : decode cX6_notice 53 = .ok (.iload_n 2, 1) := by decide +kernel
theorem dX6_notice_54 : decode cX6_notice 54 = .ok (.invokevirtual 278, 3) := by decide +kernel
theorem dX6_notice_57 : decode cX6_notice 57 = .ok (.ireturn, 1) := by decide +kernel
theorem dX6_burningIn_0 : decode cX6_burningIn 0 = .ok (.iload_n 1, 1) := by decide +kernel
theorem dX6_burningIn_1 : decode cX6_burningIn 1 = .ok (.invokestatic 177, 3) := by decide +kernel
theorem dX6_burningIn_4 : decode cX6_burningIn 4 = .ok (.iconst 0, 1) := by decide +kernel
theorem dX6_burningIn_5 : decode cX6_burningIn 5 = .ok (.istore_n 2, 1) := by decide +kernel
theorem dX6_burningIn_6 : decode cX6_burningIn 6 = .ok (.iconst 0, 1) := by decide +kernel
theorem dX6_burningIn_7 : decode cX6_burningIn 7 = .ok (.istore_n 3, 1) := by decide +kernel
theorem dX6_burningIn_8 : decode cX6_burningIn 8 = .ok (.iload_n 3, 1) := by decide +kernel
theorem dX6_burningIn_9 : decode cX6_burningIn 9 = .ok (.aload_n 0, 1) := by decide +kernel
theorem dX6_burningIn_10 : decode cX6_burningIn 10 = .ok (.getfield 16, 3) := by decide +kernel
theorem dX6_burningIn_13 : decode cX6_burningIn 13 = .ok (.invokevirtual 70, 3) := by decide +kernel
theorem dX6_burningIn_16 : decode cX6_burningIn 16 = .ok (.if_icmp .ge 53, 3) := by decide +kernel
theorem dX6_burningIn_19 : decode cX6_burningIn 19 = .ok (.aload_n 0, 1) := by decide +kernel
theorem dX6_burningIn_20 : decode cX6_burningIn 20 = .ok (.getfield 16, 3) := by decide +kernel
theorem dX6_burningIn_23 : decode cX6_burningIn 23 = .ok (.iload_n 3, 1) := by decide +kernel
theorem dX6_burningIn_24 : decode cX6_burningIn 24 = .ok (.invokevirtual 180, 3) := by decide +kernel
theorem dX6_burningIn_27 : decode cX6_burningIn 27 = .ok (.checkcast 120, 3) := by decide +kernel
theorem dX6_burningIn_30 : decode cX6_burningIn 30 = .ok (.astore 4, 2) := by decide +kernel
theorem dX6_burningIn_32 : decode cX6_burningIn 32 = .ok (.iconst 0, 1) := by decide +kernel
theorem dX6_burningIn_33 : decode cX6_burningIn 33 = .ok (.istore 5, 2) := by decide +kernel
theorem dX6_burningIn_35 : decode cX6_burningIn 35 = .ok (.iload 5, 2) := by decide +kernel
theorem dX6_burningIn_37 : decode cX6_burningIn 37 = .ok (.bipush 12, 2) := by decide +kernel
theorem dX6_burningIn_39 : decode cX6_burningIn 39 = .ok (.if_icmp .ge 24, 3) := by decide +kernel
theorem dX6_burningIn_42 : decode cX6_burningIn 42 = .ok (.aload_n 0, 1) := by decide +kernel
theorem dX6_burningIn_43 : decode cX6_burningIn 43 = .ok (.aload 4, 2) := by decide +kernel
theorem dX6_burningIn_45 : decode cX6_burningIn 45 = .ok (.iload 5, 2) := by decide +kernel
theorem dX6_burningIn_47 : decode cX6_burningIn 47 = .ok (.iload_n 1, 1) := by decide +kernel
theorem dX6_burningIn_48 : decode cX6_burningIn 48 = .ok (.invokevirtual 282, 3) := by decide +kernel
theorem dX6_burningIn_51 : decode cX6_burningIn 51 = .ok (.ifCond .eq 6, 3) := by decide +kernel
theorem dX6_burningIn_54 : decode cX6_burningIn 54 = .ok (.iinc 2 1, 3) := by decide +kernel
theorem dX6_burningIn_57 : decode cX6_burningIn 57 = .ok (.iinc 5 1, 3) := by decide +kernel
theorem dX6_burningIn_60 : decode cX6_burningIn 60 = .ok (.goto (-25), 3) := by decide +kernel
theorem dX6_burningIn_63 : decode cX6_burningIn 63 = .ok (.iinc 3 1, 3) := by decide +kernel
theorem dX6_burningIn_66 : decode cX6_burningIn 66 = .ok (.goto (-58), 3) := by decide +kernel
theorem dX6_burningIn_69 : decode cX6_burningIn 69 = .ok (.iload_n 2, 1) := by decide +kernel
theorem dX6_burningIn_70 : decode cX6_burningIn 70 = .ok (.ireturn, 1) := by decide +kernel
theorem dX6_beyond_0 : decode cX6_beyond 0 = .ok (.aload_n 0, 1) := by decide +kernel
theorem dX6_beyond_1 : decode cX6_beyond 1 = .ok (.iload_n 1, 1) := by decide +kernel
theorem dX6_beyond_2 : decode cX6_beyond 2 = .ok (.invokevirtual 132, 3) := by decide +kernel
theorem dX6_beyond_5 : decode cX6_beyond 5 = .ok (.astore_n 3, 1) := by decide +kernel
theorem dX6_beyond_6 : decode cX6_beyond 6 = .ok (.iload_n 2, 1) := by decide +kernel
theorem dX6_beyond_7 : decode cX6_beyond 7 = .ok (.invokestatic 115, 3) := by decide +kernel
theorem dX6_beyond_10 : decode cX6_beyond 10 = .ok (.iconst 0, 1) := by decide +kernel
theorem dX6_beyond_11 : decode cX6_beyond 11 = .ok (.istore 4, 2) := by decide +kernel
theorem dX6_beyond_13 : decode cX6_beyond 13 = .ok (.iconst 0, 1) := by decide +kernel
theorem dX6_beyond_14 : decode cX6_beyond 14 = .ok (.istore 5, 2) := by decide +kernel
theorem dX6_beyond_16 : decode cX6_beyond 16 = .ok (.iload 5, 2) := by decide +kernel
theorem dX6_beyond_18 : decode cX6_beyond 18 = .ok (.bipush 12, 2) := by decide +kernel
theorem dX6_beyond_20 : decode cX6_beyond 20 = .ok (.if_icmp .ge 38, 3) := by decide +kernel
theorem dX6_beyond_23 : decode cX6_beyond 23 = .ok (.aload_n 0, 1) := by decide +kernel
theorem dX6_beyond_24 : decode cX6_beyond 24 = .ok (.aload_n 3, 1) := by decide +kernel
theorem dX6_beyond_25 : decode cX6_beyond 25 = .ok (.iload 5, 2) := by decide +kernel
theorem dX6_beyond_27 : decode cX6_beyond 27 = .ok (.invokevirtual 286, 3) := by decide +kernel
theorem dX6_beyond_30 : decode cX6_beyond 30 = .ok (.ifCond .eq 22, 3) := by decide +kernel
theorem dX6_beyond_33 : decode cX6_beyond 33 = .ok (.aload_n 3, 1) := by decide +kernel
theorem dX6_beyond_34 : decode cX6_beyond 34 = .ok (.aload_n 0, 1) := by decide +kernel
theorem dX6_beyond_35 : decode cX6_beyond 35 = .ok (.aload_n 3, 1) := by decide +kernel
theorem dX6_beyond_36 : decode cX6_beyond 36 = .ok (.iload 5, 2) := by decide +kernel
theorem dX6_beyond_38 : decode cX6_beyond 38 = .ok (.iconst 0, 1) := by decide +kernel
theorem dX6_beyond_39 : decode cX6_beyond 39 = .ok (.invokevirtual 223, 3) := by decide +kernel
theorem dX6_beyond_42 : decode cX6_beyond 42 = .ok (.iload_n 2, 1) := by decide +kernel
theorem dX6_beyond_43 : decode cX6_beyond 43 = .ok (.invokevirtual 290, 3) := by decide +kernel
theorem dX6_beyond_46 : decode cX6_beyond 46 = .ok (.ifCond .eq 6, 3) := by decide +kernel
theorem dX6_beyond_49 : decode cX6_beyond 49 = .ok (.iinc 4 1, 3) := by decide +kernel
theorem dX6_beyond_52 : decode cX6_beyond 52 = .ok (.iinc 5 1, 3) := by decide +kernel
theorem dX6_beyond_55 : decode cX6_beyond 55 = .ok (.goto (-39), 3) := by decide +kernel
theorem dX6_beyond_58 : decode cX6_beyond 58 = .ok (.iload 4, 2) := by decide +kernel
theorem dX6_beyond_60 : decode cX6_beyond 60 = .ok (.ireturn, 1) := by decide +kernel
theorem dX6_calm_0 : decode cX6_calm 0 = .ok (.aload_n 0, 1) := by decide +kernel
theorem dX6_calm_1 : decode cX6_calm 1 = .ok (.iload_n 1, 1) := by decide +kernel
theorem dX6_calm_2 : decode cX6_calm 2 = .ok (.invokevirtual 132, 3) := by decide +kernel
theorem dX6_calm_5 : decode cX6_calm 5 = .ok (.astore_n 2, 1) := by decide +kernel
theorem dX6_calm_6 : decode cX6_calm 6 = .ok (.iconst 1, 1) := by decide +kernel
theorem dX6_calm_7 : decode cX6_calm 7 = .ok (.istore_n 3, 1) := by decide +kernel
theorem dX6_calm_8 : decode cX6_calm 8 = .ok (.iconst 0, 1) := by decide +kernel
theorem dX6_calm_9 : decode cX6_calm 9 = .ok (.istore 4, 2) := by decide +kernel
theorem dX6_calm_11 : decode cX6_calm 11 = .ok (.iconst 0, 1) := by decide +kernel
theorem dX6_calm_12 : decode cX6_calm 12 = .ok (.istore 5, 2) := by decide +kernel
theorem dX6_calm_14 : decode cX6_calm 14 = .ok (.iload 5, 2) := by decide +kernel
theorem dX6_calm_16 : decode cX6_calm 16 = .ok (.bipush 12, 2) := by decide +kernel
theorem dX6_calm_18 : decode cX6_calm 18 = .ok (.if_icmp .ge 50, 3) := by decide +kernel
theorem dX6_calm_21 : decode cX6_calm 21 = .ok (.aload_n 0, 1) := by decide +kernel
theorem dX6_calm_22 : decode cX6_calm 22 = .ok (.aload_n 2, 1) := by decide +kernel
theorem dX6_calm_23 : decode cX6_calm 23 = .ok (.iload 5, 2) := by decide +kernel
theorem dX6_calm_25 : decode cX6_calm 25 = .ok (.invokevirtual 286, 3) := by decide +kernel
theorem dX6_calm_28 : decode cX6_calm 28 = .ok (.ifCond .eq 34, 3) := by decide +kernel
theorem dX6_calm_31 : decode cX6_calm 31 = .ok (.aload_n 0, 1) := by decide +kernel
theorem dX6_calm_32 : decode cX6_calm 32 = .ok (.aload_n 2, 1) := by decide +kernel
theorem dX6_calm_33 : decode cX6_calm 33 = .ok (.iload 5, 2) := by decide +kernel
theorem dX6_calm_35 : decode cX6_calm 35 = .ok (.iconst 0, 1) := by decide +kernel
theorem dX6_calm_36 : decode cX6_calm 36 = .ok (.invokevirtual 223, 3) := by decide +kernel
theorem dX6_calm_39 : decode cX6_calm 39 = .ok (.istore 6, 2) := by decide +kernel
theorem dX6_calm_41 : decode cX6_calm 41 = .ok (.iload_n 3, 1) := by decide +kernel
theorem dX6_calm_42 : decode cX6_calm 42 = .ok (.ifCond .ne 14, 3) := by decide +kernel
theorem dX6_calm_45 : decode cX6_calm 45 = .ok (.aload_n 2, 1) := by decide +kernel
theorem dX6_calm_46 : decode cX6_calm 46 = .ok (.iload 6, 2) := by decide +kernel
theorem dX6_calm_48 : decode cX6_calm 48 = .ok (.iload 4, 2) := by decide +kernel
theorem dX6_calm_50 : decode cX6_calm 50 = .ok (.invokevirtual 290, 3) := by decide +kernel
theorem dX6_calm_53 : decode cX6_calm 53 = .ok (.ifCond .eq 7, 3) := by decide +kernel
theorem dX6_calm_56 : decode cX6_calm 56 = .ok (.iload 6, 2) := by decide +kernel
theorem dX6_calm_58 : decode cX6_calm 58 = .ok (.istore 4, 2) := by decide +kernel
theorem dX6_calm_60 : decode cX6_calm 60 = .ok (.iconst 0, 1) := by decide +kernel
theorem dX6_calm_61 : decode cX6_calm 61 = .ok (.istore_n 3, 1) := by decide +kernel
theorem dX6_calm_62 : decode cX6_calm 62 = .ok (.iinc 5 1, 3) := by decide +kernel
theorem dX6_calm_65 : decode cX6_calm 65 = .ok (.goto (-51), 3) := by decide +kernel
theorem dX6_calm_68 : decode cX6_calm 68 = .ok (.iload 4, 2) := by decide +kernel
theorem dX6_calm_70 : decode cX6_calm 70 = .ok (.ireturn, 1) := by decide +kernel
theorem dX6_loudWithout_0 : decode cX6_loudWithout 0 = .ok (.aload_n 0, 1) := by decide +kernel
theorem dX6_loudWithout_1 : decode cX6_loudWithout 1 = .ok (.iload_n 1, 1) := by decide +kernel
theorem dX6_loudWithout_2 : decode cX6_loudWithout 2 = .ok (.invokevirtual 166, 3) := by decide +kernel
theorem dX6_loudWithout_5 : decode cX6_loudWithout 5 = .ok (.pop, 1) := by decide +kernel
theorem dX6_loudWithout_6 : decode cX6_loudWithout 6 = .ok (.aload_n 0, 1) := by decide +kernel
theorem dX6_loudWithout_7 : decode cX6_loudWithout 7 = .ok (.iload_n 1, 1) := by decide +kernel
theorem dX6_loudWithout_8 : decode cX6_loudWithout 8 = .ok (.invokevirtual 197, 3) := by decide +kernel
theorem dX6_loudWithout_11 : decode cX6_loudWithout 11 = .ok (.ireturn, 1) := by decide +kernel
theorem dX6_digest_0 : decode cX6_digest 0 = .ok (.ldc2_w 294, 3) := by decide +kernel
theorem dX6_digest_3 : decode cX6_digest 3 = .ok (.aload_n 0, 1) := by decide +kernel
theorem dX6_digest_4 : decode cX6_digest 4 = .ok (.invokevirtual 296, 3) := by decide +kernel
theorem dX6_digest_7 : decode cX6_digest 7 = .ok (.invokestatic 299, 3) := by decide +kernel
theorem dX6_digest_10 : decode cX6_digest 10 = .ok (.lstore_n 1, 1) := by decide +kernel
theorem dX6_digest_11 : decode cX6_digest 11 = .ok (.iconst 0, 1) := by decide +kernel
theorem dX6_digest_12 : decode cX6_digest 12 = .ok (.istore_n 3, 1) := by decide +kernel
theorem dX6_digest_13 : decode cX6_digest 13 = .ok (.iload_n 3, 1) := by decide +kernel
theorem dX6_digest_14 : decode cX6_digest 14 = .ok (.bipush 6, 2) := by decide +kernel
theorem dX6_digest_16 : decode cX6_digest 16 = .ok (.if_icmp .gt 19, 3) := by decide +kernel
theorem dX6_digest_19 : decode cX6_digest 19 = .ok (.lload_n 1, 1) := by decide +kernel
theorem dX6_digest_20 : decode cX6_digest 20 = .ok (.aload_n 0, 1) := by decide +kernel
theorem dX6_digest_21 : decode cX6_digest 21 = .ok (.iload_n 3, 1) := by decide +kernel
theorem dX6_digest_22 : decode cX6_digest 22 = .ok (.invokevirtual 303, 3) := by decide +kernel
theorem dX6_digest_25 : decode cX6_digest 25 = .ok (.invokestatic 299, 3) := by decide +kernel
theorem dX6_digest_28 : decode cX6_digest 28 = .ok (.lstore_n 1, 1) := by decide +kernel
theorem dX6_digest_29 : decode cX6_digest 29 = .ok (.iinc 3 1, 3) := by decide +kernel
theorem dX6_digest_32 : decode cX6_digest 32 = .ok (.goto (-19), 3) := by decide +kernel
theorem dX6_digest_35 : decode cX6_digest 35 = .ok (.iconst 0, 1) := by decide +kernel
theorem dX6_digest_36 : decode cX6_digest 36 = .ok (.istore_n 3, 1) := by decide +kernel
theorem dX6_digest_37 : decode cX6_digest 37 = .ok (.iload_n 3, 1) := by decide +kernel
theorem dX6_digest_38 : decode cX6_digest 38 = .ok (.aload_n 0, 1) := by decide +kernel
theorem dX6_digest_39 : decode cX6_digest 39 = .ok (.getfield 10, 3) := by decide +kernel
theorem dX6_digest_42 : decode cX6_digest 42 = .ok (.invokevirtual 70, 3) := by decide +kernel
theorem dX6_digest_45 : decode cX6_digest 45 = .ok (.if_icmp .ge 16, 3) := by decide +kernel
theorem dX6_digest_48 : decode cX6_digest 48 = .ok (.aload_n 0, 1) := by decide +kernel
theorem dX6_digest_49 : decode cX6_digest 49 = .ok (.lload_n 1, 1) := by decide +kernel
theorem dX6_digest_50 : decode cX6_digest 50 = .ok (.iload_n 3, 1) := by decide +kernel
theorem dX6_digest_51 : decode cX6_digest 51 = .ok (.invokevirtual 306, 3) := by decide +kernel
theorem dX6_digest_54 : decode cX6_digest 54 = .ok (.lstore_n 1, 1) := by decide +kernel
theorem dX6_digest_55 : decode cX6_digest 55 = .ok (.iinc 3 1, 3) := by decide +kernel
theorem dX6_digest_58 : decode cX6_digest 58 = .ok (.goto (-21), 3) := by decide +kernel
theorem dX6_digest_61 : decode cX6_digest 61 = .ok (.iconst 0, 1) := by decide +kernel
theorem dX6_digest_62 : decode cX6_digest 62 = .ok (.istore_n 3, 1) := by decide +kernel
theorem dX6_digest_63 : decode cX6_digest 63 = .ok (.iload_n 3, 1) := by decide +kernel
theorem dX6_digest_64 : decode cX6_digest 64 = .ok (.aload_n 0, 1) := by decide +kernel
theorem dX6_digest_65 : decode cX6_digest 65 = .ok (.getfield 16, 3) := by decide +kernel
theorem dX6_digest_68 : decode cX6_digest 68 = .ok (.invokevirtual 70, 3) := by decide +kernel
theorem dX6_digest_71 : decode cX6_digest 71 = .ok (.if_icmp .ge 43, 3) := by decide +kernel
theorem dX6_digest_74 : decode cX6_digest 74 = .ok (.lload_n 1, 1) := by decide +kernel
theorem dX6_digest_75 : decode cX6_digest 75 = .ok (.aload_n 0, 1) := by decide +kernel
theorem dX6_digest_76 : decode cX6_digest 76 = .ok (.iload_n 3, 1) := by decide +kernel
theorem dX6_digest_77 : decode cX6_digest 77 = .ok (.invokevirtual 309, 3) := by decide +kernel
theorem dX6_digest_80 : decode cX6_digest 80 = .ok (.invokestatic 299, 3) := by decide +kernel
theorem dX6_digest_83 : decode cX6_digest 83 = .ok (.lstore_n 1, 1) := by decide +kernel
theorem dX6_digest_84 : decode cX6_digest 84 = .ok (.lload_n 1, 1) := by decide +kernel
theorem dX6_digest_85 : decode cX6_digest 85 = .ok (.aload_n 0, 1) := by decide +kernel
theorem dX6_digest_86 : decode cX6_digest 86 = .ok (.iload_n 3, 1) := by decide +kernel
theorem dX6_digest_87 : decode cX6_digest 87 = .ok (.aload_n 0, 1) := by decide +kernel
theorem dX6_digest_88 : decode cX6_digest 88 = .ok (.getfield 16, 3) := by decide +kernel
theorem dX6_digest_91 : decode cX6_digest 91 = .ok (.iload_n 3, 1) := by decide +kernel
theorem dX6_digest_92 : decode cX6_digest 92 = .ok (.invokevirtual 180, 3) := by decide +kernel
theorem dX6_digest_95 : decode cX6_digest 95 = .ok (.checkcast 120, 3) := by decide +kernel
theorem dX6_digest_98 : decode cX6_digest 98 = .ok (.getfield 125, 3) := by decide +kernel
theorem dX6_digest_101 : decode cX6_digest 101 = .ok (.invokevirtual 312, 3) := by decide +kernel
theorem dX6_digest_104 : decode cX6_digest 104 = .ok (.invokestatic 299, 3) := by decide +kernel
theorem dX6_digest_107 : decode cX6_digest 107 = .ok (.lstore_n 1, 1) := by decide +kernel
theorem dX6_digest_108 : decode cX6_digest 108 = .ok (.iinc 3 1, 3) := by decide +kernel
theorem dX6_digest_111 : decode cX6_digest 111 = .ok (.goto (-48), 3) := by decide +kernel
theorem dX6_digest_114 : decode cX6_digest 114 = .ok (.aload_n 0, 1) := by decide +kernel
theorem dX6_digest_115 : decode cX6_digest 115 = .ok (.iconst 3, 1) := by decide +kernel
theorem dX6_digest_116 : decode cX6_digest 116 = .ok (.invokevirtual 303, 3) := by decide +kernel
theorem dX6_digest_119 : decode cX6_digest 119 = .ok (.istore_n 3, 1) := by decide +kernel
theorem dX6_digest_120 : decode cX6_digest 120 = .ok (.iconst 0, 1) := by decide +kernel
theorem dX6_digest_121 : decode cX6_digest 121 = .ok (.istore 4, 2) := by decide +kernel
theorem dX6_digest_123 : decode cX6_digest 123 = .ok (.iload 4, 2) := by decide +kernel
theorem dX6_digest_125 : decode cX6_digest 125 = .ok (.iload_n 3, 1) := by decide +kernel
theorem dX6_digest_126 : decode cX6_digest 126 = .ok (.if_icmp .ge 17, 3) := by decide +kernel
theorem dX6_digest_129 : decode cX6_digest 129 = .ok (.aload_n 0, 1) := by decide +kernel
theorem dX6_digest_130 : decode cX6_digest 130 = .ok (.lload_n 1, 1) := by decide +kernel
theorem dX6_digest_131 : decode cX6_digest 131 = .ok (.iload 4, 2) := by decide +kernel
theorem dX6_digest_133 : decode cX6_digest 133 = .ok (.invokevirtual 315, 3) := by decide +kernel
theorem dX6_digest_136 : decode cX6_digest 136 = .ok (.lstore_n 1, 1) := by decide +kernel
theorem dX6_digest_137 : decode cX6_digest 137 = .ok (.iinc 4 1, 3) := by decide +kernel
theorem dX6_digest_140 : decode cX6_digest 140 = .ok (.goto (-17), 3) := by decide +kernel
theorem dX6_digest_143 : decode cX6_digest 143 = .ok (.iconst 0, 1) := by decide +kernel
theorem dX6_digest_144 : decode cX6_digest 144 = .ok (.istore 4, 2) := by decide +kernel
theorem dX6_digest_146 : decode cX6_digest 146 = .ok (.iload 4, 2) := by decide +kernel
theorem dX6_digest_148 : decode cX6_digest 148 = .ok (.aload_n 0, 1) := by decide +kernel
theorem dX6_digest_149 : decode cX6_digest 149 = .ok (.getfield 19, 3) := by decide +kernel
theorem dX6_digest_152 : decode cX6_digest 152 = .ok (.invokevirtual 70, 3) := by decide +kernel
theorem dX6_digest_155 : decode cX6_digest 155 = .ok (.if_icmp .ge 17, 3) := by decide +kernel
theorem dX6_digest_158 : decode cX6_digest 158 = .ok (.aload_n 0, 1) := by decide +kernel
theorem dX6_digest_159 : decode cX6_digest 159 = .ok (.lload_n 1, 1) := by decide +kernel
theorem dX6_digest_160 : decode cX6_digest 160 = .ok (.iload 4, 2) := by decide +kernel
theorem dX6_digest_162 : decode cX6_digest 162 = .ok (.invokevirtual 318, 3) := by decide +kernel
theorem dX6_digest_165 : decode cX6_digest 165 = .ok (.lstore_n 1, 1) := by decide +kernel
theorem dX6_digest_166 : decode cX6_digest 166 = .ok (.iinc 4 1, 3) := by decide +kernel
theorem dX6_digest_169 : decode cX6_digest 169 = .ok (.goto (-23), 3) := by decide +kernel
theorem dX6_digest_172 : decode cX6_digest 172 = .ok (.aload_n 0, 1) := by decide +kernel
theorem dX6_digest_173 : decode cX6_digest 173 = .ok (.lload_n 1, 1) := by decide +kernel
theorem dX6_digest_174 : decode cX6_digest 174 = .ok (.invokevirtual 321, 3) := by decide +kernel
theorem dX6_digest_177 : decode cX6_digest 177 = .ok (.lreturn, 1) := by decide +kernel
theorem dX6_mix_0 : decode cX6_mix 0 = .ok (.lload_n 0, 1) := by decide +kernel
theorem dX6_mix_1 : decode cX6_mix 1 = .ok (.ldc2_w 325, 3) := by decide +kernel
theorem dX6_mix_4 : decode cX6_mix 4 = .ok (.lmul, 1) := by decide +kernel
theorem dX6_mix_5 : decode cX6_mix 5 = .ok (.iload_n 2, 1) := by decide +kernel
theorem dX6_mix_6 : decode cX6_mix 6 = .ok (.i2l, 1) := by decide +kernel
theorem dX6_mix_7 : decode cX6_mix 7 = .ok (.ladd, 1) := by decide +kernel
theorem dX6_mix_8 : decode cX6_mix 8 = .ok (.lreturn, 1) := by decide +kernel
theorem dX6_mixSeries_0 : decode cX6_mixSeries 0 = .ok (.lload_n 1, 1) := by decide +kernel
theorem dX6_mixSeries_1 : decode cX6_mixSeries 1 = .ok (.lstore 4, 2) := by decide +kernel
theorem dX6_mixSeries_3 : decode cX6_mixSeries 3 = .ok (.iconst 0, 1) := by decide +kernel
theorem dX6_mixSeries_4 : decode cX6_mixSeries 4 = .ok (.istore 6, 2) := by decide +kernel
theorem dX6_mixSeries_6 : decode cX6_mixSeries 6 = .ok (.iload 6, 2) := by decide +kernel
theorem dX6_mixSeries_8 : decode cX6_mixSeries 8 = .ok (.bipush 6, 2) := by decide +kernel
theorem dX6_mixSeries_10 : decode cX6_mixSeries 10 = .ok (.if_icmp .gt 23, 3) := by decide +kernel
theorem dX6_mixSeries_13 : decode cX6_mixSeries 13 = .ok (.lload 4, 2) := by decide +kernel
theorem dX6_mixSeries_15 : decode cX6_mixSeries 15 = .ok (.aload_n 0, 1) := by decide +kernel
theorem dX6_mixSeries_16 : decode cX6_mixSeries 16 = .ok (.iload_n 3, 1) := by decide +kernel
theorem dX6_mixSeries_17 : decode cX6_mixSeries 17 = .ok (.iload 6, 2) := by decide +kernel
theorem dX6_mixSeries_19 : decode cX6_mixSeries 19 = .ok (.invokevirtual 327, 3) := by decide +kernel
theorem dX6_mixSeries_22 : decode cX6_mixSeries 22 = .ok (.invokestatic 299, 3) := by decide +kernel
theorem dX6_mixSeries_25 : decode cX6_mixSeries 25 = .ok (.lstore 4, 2) := by decide +kernel
theorem dX6_mixSeries_27 : decode cX6_mixSeries 27 = .ok (.iinc 6 1, 3) := by decide +kernel
theorem dX6_mixSeries_30 : decode cX6_mixSeries 30 = .ok (.goto (-24), 3) := by decide +kernel
theorem dX6_mixSeries_33 : decode cX6_mixSeries 33 = .ok (.lload 4, 2) := by decide +kernel
theorem dX6_mixSeries_35 : decode cX6_mixSeries 35 = .ok (.aload_n 0, 1) := by decide +kernel
theorem dX6_mixSeries_36 : decode cX6_mixSeries 36 = .ok (.iload_n 3, 1) := by decide +kernel
theorem dX6_mixSeries_37 : decode cX6_mixSeries 37 = .ok (.iconst 0, 1) := by decide +kernel
theorem dX6_mixSeries_38 : decode cX6_mixSeries 38 = .ok (.invokevirtual 330, 3) := by decide +kernel
theorem dX6_mixSeries_41 : decode cX6_mixSeries 41 = .ok (.invokestatic 299, 3) := by decide +kernel
theorem dX6_mixSeries_44 : decode cX6_mixSeries 44 = .ok (.lstore 4, 2) := by decide +kernel
theorem dX6_mixSeries_46 : decode cX6_mixSeries 46 = .ok (.lload 4, 2) := by decide +kernel
theorem dX6_mixSeries_48 : decode cX6_mixSeries 48 = .ok (.aload_n 0, 1) := by decide +kernel
theorem dX6_mixSeries_49 : decode cX6_mixSeries 49 = .ok (.iload_n 3, 1) := by decide +kernel
theorem dX6_mixSeries_50 : decode cX6_mixSeries 50 = .ok (.iconst 1, 1) := by decide +kernel
theorem dX6_mixSeries_51 : decode cX6_mixSeries 51 = .ok (.invokevirtual 330, 3) := by decide +kernel
theorem dX6_mixSeries_54 : decode cX6_mixSeries 54 = .ok (.invokestatic 299, 3) := by decide +kernel
theorem dX6_mixSeries_57 : decode cX6_mixSeries 57 = .ok (.lstore 4, 2) := by decide +kernel
theorem dX6_mixSeries_59 : decode cX6_mixSeries 59 = .ok (.iconst 0, 1) := by decide +kernel
theorem dX6_mixSeries_60 : decode cX6_mixSeries 60 = .ok (.istore 6, 2) := by decide +kernel
theorem dX6_mixSeries_62 : decode cX6_mixSeries 62 = .ok (.iload 6, 2) := by decide +kernel
theorem dX6_mixSeries_64 : decode cX6_mixSeries 64 = .ok (.bipush 8, 2) := by decide +kernel
theorem dX6_mixSeries_66 : decode cX6_mixSeries 66 = .ok (.if_icmp .gt 24, 3) := by decide +kernel
theorem dX6_mixSeries_69 : decode cX6_mixSeries 69 = .ok (.lload 4, 2) := by decide +kernel
theorem dX6_mixSeries_71 : decode cX6_mixSeries 71 = .ok (.aload_n 0, 1) := by decide +kernel
theorem dX6_mixSeries_72 : decode cX6_mixSeries 72 = .ok (.iload_n 3, 1) := by decide +kernel
theorem dX6_mixSeries_73 : decode cX6_mixSeries 73 = .ok (.iload 6, 2) := by decide +kernel
theorem dX6_mixSeries_75 : decode cX6_mixSeries 75 = .ok (.iconst 5, 1) := by decide +kernel
theorem dX6_mixSeries_76 : decode cX6_mixSeries 76 = .ok (.invokevirtual 333, 3) := by decide +kernel
theorem dX6_mixSeries_79 : decode cX6_mixSeries 79 = .ok (.invokestatic 299, 3) := by decide +kernel
theorem dX6_mixSeries_82 : decode cX6_mixSeries 82 = .ok (.lstore 4, 2) := by decide +kernel
theorem dX6_mixSeries_84 : decode cX6_mixSeries 84 = .ok (.iinc 6 1, 3) := by decide +kernel
theorem dX6_mixSeries_87 : decode cX6_mixSeries 87 = .ok (.goto (-25), 3) := by decide +kernel
theorem dX6_mixSeries_90 : decode cX6_mixSeries 90 = .ok (.lload 4, 2) := by decide +kernel
theorem dX6_mixSeries_92 : decode cX6_mixSeries 92 = .ok (.lreturn, 1) := by decide +kernel
theorem dX6_mixAlert_0 : decode cX6_mixAlert 0 = .ok (.lload_n 1, 1) := by decide +kernel
theorem dX6_mixAlert_1 : decode cX6_mixAlert 1 = .ok (.lstore 4, 2) := by decide +kernel
theorem dX6_mixAlert_3 : decode cX6_mixAlert 3 = .ok (.iconst 0, 1) := by decide +kernel
theorem dX6_mixAlert_4 : decode cX6_mixAlert 4 = .ok (.istore 6, 2) := by decide +kernel
theorem dX6_mixAlert_6 : decode cX6_mixAlert 6 = .ok (.iload 6, 2) := by decide +kernel
theorem dX6_mixAlert_8 : decode cX6_mixAlert 8 = .ok (.iconst 2, 1) := by decide +kernel
theorem dX6_mixAlert_9 : decode cX6_mixAlert 9 = .ok (.if_icmp .gt 23, 3) := by decide +kernel
theorem dX6_mixAlert_12 : decode cX6_mixAlert 12 = .ok (.lload 4, 2) := by decide +kernel
theorem dX6_mixAlert_14 : decode cX6_mixAlert 14 = .ok (.aload_n 0, 1) := by decide +kernel
theorem dX6_mixAlert_15 : decode cX6_mixAlert 15 = .ok (.iload_n 3, 1) := by decide +kernel
theorem dX6_mixAlert_16 : decode cX6_mixAlert 16 = .ok (.iload 6, 2) := by decide +kernel
theorem dX6_mixAlert_18 : decode cX6_mixAlert 18 = .ok (.invokevirtual 336, 3) := by decide +kernel
theorem dX6_mixAlert_21 : decode cX6_mixAlert 21 = .ok (.invokestatic 299, 3) := by decide +kernel
theorem dX6_mixAlert_24 : decode cX6_mixAlert 24 = .ok (.lstore 4, 2) := by decide +kernel
theorem dX6_mixAlert_26 : decode cX6_mixAlert 26 = .ok (.iinc 6 1, 3) := by decide +kernel
theorem dX6_mixAlert_29 : decode cX6_mixAlert 29 = .ok (.goto (-23), 3) := by decide +kernel
theorem dX6_mixAlert_32 : decode cX6_mixAlert 32 = .ok (.aload_n 0, 1) := by decide +kernel
theorem dX6_mixAlert_33 : decode cX6_mixAlert 33 = .ok (.iload_n 3, 1) := by decide +kernel
theorem dX6_mixAlert_34 : decode cX6_mixAlert 34 = .ok (.iconst 0, 1) := by decide +kernel
theorem dX6_mixAlert_35 : decode cX6_mixAlert 35 = .ok (.invokevirtual 336, 3) := by decide +kernel
theorem dX6_mixAlert_38 : decode cX6_mixAlert 38 = .ok (.istore 6, 2) := by decide +kernel
theorem dX6_mixAlert_40 : decode cX6_mixAlert 40 = .ok (.aload_n 0, 1) := by decide +kernel
theorem dX6_mixAlert_41 : decode cX6_mixAlert 41 = .ok (.iload_n 3, 1) := by decide +kernel
theorem dX6_mixAlert_42 : decode cX6_mixAlert 42 = .ok (.iconst 1, 1) := by decide +kernel
theorem dX6_mixAlert_43 : decode cX6_mixAlert 43 = .ok (.invokevirtual 336, 3) := by decide +kernel
theorem dX6_mixAlert_46 : decode cX6_mixAlert 46 = .ok (.istore 7, 2) := by decide +kernel
theorem dX6_mixAlert_48 : decode cX6_mixAlert 48 = .ok (.iconst 0, 1) := by decide +kernel
theorem dX6_mixAlert_49 : decode cX6_mixAlert 49 = .ok (.istore 8, 2) := by decide +kernel
theorem dX6_mixAlert_51 : decode cX6_mixAlert 51 = .ok (.iload 8, 2) := by decide +kernel
theorem dX6_mixAlert_53 : decode cX6_mixAlert 53 = .ok (.iconst 2, 1) := by decide +kernel
theorem dX6_mixAlert_54 : decode cX6_mixAlert 54 = .ok (.if_icmp .gt 26, 3) := by decide +kernel
theorem dX6_mixAlert_57 : decode cX6_mixAlert 57 = .ok (.lload 4, 2) := by decide +kernel
theorem dX6_mixAlert_59 : decode cX6_mixAlert 59 = .ok (.aload_n 0, 1) := by decide +kernel
theorem dX6_mixAlert_60 : decode cX6_mixAlert 60 = .ok (.iload 6, 2) := by decide +kernel
theorem dX6_mixAlert_62 : decode cX6_mixAlert 62 = .ok (.iload 7, 2) := by decide +kernel
theorem dX6_mixAlert_64 : decode cX6_mixAlert 64 = .ok (.iload 8, 2) := by decide +kernel
theorem dX6_mixAlert_66 : decode cX6_mixAlert 66 = .ok (.invokevirtual 339, 3) := by decide +kernel
theorem dX6_mixAlert_69 : decode cX6_mixAlert 69 = .ok (.invokestatic 299, 3) := by decide +kernel
theorem dX6_mixAlert_72 : decode cX6_mixAlert 72 = .ok (.lstore 4, 2) := by decide +kernel
theorem dX6_mixAlert_74 : decode cX6_mixAlert 74 = .ok (.iinc 8 1, 3) := by decide +kernel
theorem dX6_mixAlert_77 : decode cX6_mixAlert 77 = .ok (.goto (-26), 3) := by decide +kernel
end
section
theorem dX6_mixAlert_80 : decode cX6_mixAlert 80 = .ok (.lload 4, 2) := by decide +kernel
theorem dX6_mixAlert_82 : decode cX6_mixAlert 82 = .ok (.lreturn, 1) := by decide +kernel
theorem dX6_mixHush_0 : decode cX6_mixHush 0 = .ok (.lload_n 1, 1) := by decide +kernel
theorem dX6_mixHush_1 : decode cX6_mixHush 1 = .ok (.lstore 4, 2) := by decide +kernel
theorem dX6_mixHush_3 : decode cX6_mixHush 3 = .ok (.iconst 0, 1) := by decide +kernel
theorem dX6_mixHush_4 : decode cX6_mixHush 4 = .ok (.istore 6, 2) := by decide +kernel
theorem dX6_mixHush_6 : decode cX6_mixHush 6 = .ok (.iload 6, 2) := by decide +kernel
theorem dX6_mixHush_8 : decode cX6_mixHush 8 = .ok (.iconst 3, 1) := by decide +kernel
theorem dX6_mixHush_9 : decode cX6_mixHush 9 = .ok (.if_icmp .gt 23, 3) := by decide +kernel
theorem dX6_mixHush_12 : decode cX6_mixHush 12 = .ok (.lload 4, 2) := by decide +kernel
theorem dX6_mixHush_14 : decode cX6_mixHush 14 = .ok (.aload_n 0, 1) := by decide +kernel
theorem dX6_mixHush_15 : decode cX6_mixHush 15 = .ok (.iload_n 3, 1) := by decide +kernel
theorem dX6_mixHush_16 : decode cX6_mixHush 16 = .ok (.iload 6, 2) := by decide +kernel
theorem dX6_mixHush_18 : decode cX6_mixHush 18 = .ok (.invokevirtual 342, 3) := by decide +kernel
theorem dX6_mixHush_21 : decode cX6_mixHush 21 = .ok (.invokestatic 299, 3) := by decide +kernel
theorem dX6_mixHush_24 : decode cX6_mixHush 24 = .ok (.lstore 4, 2) := by decide +kernel
theorem dX6_mixHush_26 : decode cX6_mixHush 26 = .ok (.iinc 6 1, 3) := by decide +kernel
theorem dX6_mixHush_29 : decode cX6_mixHush 29 = .ok (.goto (-23), 3) := by decide +kernel
theorem dX6_mixHush_32 : decode cX6_mixHush 32 = .ok (.lload 4, 2) := by decide +kernel
theorem dX6_mixHush_34 : decode cX6_mixHush 34 = .ok (.aload_n 0, 1) := by decide +kernel
theorem dX6_mixHush_35 : decode cX6_mixHush 35 = .ok (.iload_n 3, 1) := by decide +kernel
theorem dX6_mixHush_36 : decode cX6_mixHush 36 = .ok (.invokevirtual 197, 3) := by decide +kernel
theorem dX6_mixHush_39 : decode cX6_mixHush 39 = .ok (.invokestatic 299, 3) := by decide +kernel
theorem dX6_mixHush_42 : decode cX6_mixHush 42 = .ok (.lreturn, 1) := by decide +kernel
theorem dX6_mixNotices_0 : decode cX6_mixNotices 0 = .ok (.lload_n 1, 1) := by decide +kernel
theorem dX6_mixNotices_1 : decode cX6_mixNotices 1 = .ok (.lstore_n 3, 1) := by decide +kernel
theorem dX6_mixNotices_2 : decode cX6_mixNotices 2 = .ok (.iconst 0, 1) := by decide +kernel
theorem dX6_mixNotices_3 : decode cX6_mixNotices 3 = .ok (.istore 5, 2) := by decide +kernel
theorem dX6_mixNotices_5 : decode cX6_mixNotices 5 = .ok (.iload 5, 2) := by decide +kernel
theorem dX6_mixNotices_7 : decode cX6_mixNotices 7 = .ok (.aload_n 0, 1) := by decide +kernel
theorem dX6_mixNotices_8 : decode cX6_mixNotices 8 = .ok (.getfield 32, 3) := by decide +kernel
theorem dX6_mixNotices_11 : decode cX6_mixNotices 11 = .ok (.getfield 275, 3) := by decide +kernel
theorem dX6_mixNotices_14 : decode cX6_mixNotices 14 = .ok (.if_icmp .ge 37, 3) := by decide +kernel
theorem dX6_mixNotices_17 : decode cX6_mixNotices 17 = .ok (.iconst 0, 1) := by decide +kernel
theorem dX6_mixNotices_18 : decode cX6_mixNotices 18 = .ok (.istore 6, 2) := by decide +kernel
theorem dX6_mixNotices_20 : decode cX6_mixNotices 20 = .ok (.iload 6, 2) := by decide +kernel
theorem dX6_mixNotices_22 : decode cX6_mixNotices 22 = .ok (.iconst 4, 1) := by decide +kernel
theorem dX6_mixNotices_23 : decode cX6_mixNotices 23 = .ok (.if_icmp .ge 22, 3) := by decide +kernel
theorem dX6_mixNotices_26 : decode cX6_mixNotices 26 = .ok (.lload_n 3, 1) := by decide +kernel
theorem dX6_mixNotices_27 : decode cX6_mixNotices 27 = .ok (.aload_n 0, 1) := by decide +kernel
theorem dX6_mixNotices_28 : decode cX6_mixNotices 28 = .ok (.iload 5, 2) := by decide +kernel
theorem dX6_mixNotices_30 : decode cX6_mixNotices 30 = .ok (.iload 6, 2) := by decide +kernel
theorem dX6_mixNotices_32 : decode cX6_mixNotices 32 = .ok (.invokevirtual 345, 3) := by decide +kernel
theorem dX6_mixNotices_35 : decode cX6_mixNotices 35 = .ok (.invokestatic 299, 3) := by decide +kernel
theorem dX6_mixNotices_38 : decode cX6_mixNotices 38 = .ok (.lstore_n 3, 1) := by decide +kernel
theorem dX6_mixNotices_39 : decode cX6_mixNotices 39 = .ok (.iinc 6 1, 3) := by decide +kernel
theorem dX6_mixNotices_42 : decode cX6_mixNotices 42 = .ok (.goto (-22), 3) := by decide +kernel
theorem dX6_mixNotices_45 : decode cX6_mixNotices 45 = .ok (.iinc 5 1, 3) := by decide +kernel
theorem dX6_mixNotices_48 : decode cX6_mixNotices 48 = .ok (.goto (-43), 3) := by decide +kernel
theorem dX6_mixNotices_51 : decode cX6_mixNotices 51 = .ok (.lload_n 3, 1) := by decide +kernel
theorem dX6_mixNotices_52 : decode cX6_mixNotices 52 = .ok (.lreturn, 1) := by decide +kernel
theorem dX6_isOutside_0 : decode cX6_isOutside 0 = .ok (.iload_n 0, 1) := by decide +kernel
theorem dX6_isOutside_1 : decode cX6_isOutside 1 = .ok (.iload_n 1, 1) := by decide +kernel
theorem dX6_isOutside_2 : decode cX6_isOutside 2 = .ok (.if_icmp .lt 8, 3) := by decide +kernel
theorem dX6_isOutside_5 : decode cX6_isOutside 5 = .ok (.iload_n 0, 1) := by decide +kernel
theorem dX6_isOutside_6 : decode cX6_isOutside 6 = .ok (.iload_n 2, 1) := by decide +kernel
theorem dX6_isOutside_7 : decode cX6_isOutside 7 = .ok (.if_icmp .le 7, 3) := by decide +kernel
theorem dX6_isOutside_10 : decode cX6_isOutside 10 = .ok (.iconst 1, 1) := by decide +kernel
theorem dX6_isOutside_11 : decode cX6_isOutside 11 = .ok (.goto 4, 3) := by decide +kernel
theorem dX6_isOutside_14 : decode cX6_isOutside 14 = .ok (.iconst 0, 1) := by decide +kernel
theorem dX6_isOutside_15 : decode cX6_isOutside 15 = .ok (.ireturn, 1) := by decide +kernel
theorem dX6_requireMetric_0 : decode cX6_requireMetric 0 = .ok (.iload_n 0, 1) := by decide +kernel
theorem dX6_requireMetric_1 : decode cX6_requireMetric 1 = .ok (.iconst 0, 1) := by decide +kernel
theorem dX6_requireMetric_2 : decode cX6_requireMetric 2 = .ok (.iconst 5, 1) := by decide +kernel
theorem dX6_requireMetric_3 : decode cX6_requireMetric 3 = .ok (.invokestatic 53, 3) := by decide +kernel
theorem dX6_requireMetric_6 : decode cX6_requireMetric 6 = .ok (.ifCond .eq 14, 3) := by decide +kernel
theorem dX6_requireMetric_9 : decode cX6_requireMetric 9 = .ok (.new 57, 3) := by decide +kernel
theorem dX6_requireMetric_12 : decode cX6_requireMetric 12 = .ok (.dup, 1) := by decide +kernel
theorem dX6_requireMetric_13 : decode cX6_requireMetric 13 = .ok (.ldc_w 348, 3) := by decide +kernel
theorem dX6_requireMetric_16 : decode cX6_requireMetric 16 = .ok (.invokespecial 61, 3) := by decide +kernel
theorem dX6_requireMetric_19 : decode cX6_requireMetric 19 = .ok (.athrow, 1) := by decide +kernel
theorem dX6_requireMetric_20 : decode cX6_requireMetric 20 = .ok (.return_, 1) := by decide +kernel
theorem dX6_requireLook_0 : decode cX6_requireLook 0 = .ok (.iload_n 0, 1) := by decide +kernel
theorem dX6_requireLook_1 : decode cX6_requireLook 1 = .ok (.iconst 0, 1) := by decide +kernel
theorem dX6_requireLook_2 : decode cX6_requireLook 2 = .ok (.bipush 8, 2) := by decide +kernel
theorem dX6_requireLook_4 : decode cX6_requireLook 4 = .ok (.invokestatic 53, 3) := by decide +kernel
theorem dX6_requireLook_7 : decode cX6_requireLook 7 = .ok (.ifCond .eq 14, 3) := by decide +kernel
theorem dX6_requireLook_10 : decode cX6_requireLook 10 = .ok (.new 57, 3) := by decide +kernel
theorem dX6_requireLook_13 : decode cX6_requireLook 13 = .ok (.dup, 1) := by decide +kernel
theorem dX6_requireLook_14 : decode cX6_requireLook 14 = .ok (.ldc_w 350, 3) := by decide +kernel
theorem dX6_requireLook_17 : decode cX6_requireLook 17 = .ok (.invokespecial 61, 3) := by decide +kernel
theorem dX6_requireLook_20 : decode cX6_requireLook 20 = .ok (.athrow, 1) := by decide +kernel
theorem dX6_requireLook_21 : decode cX6_requireLook 21 = .ok (.return_, 1) := by decide +kernel
theorem dX6_requireW_0 : decode cX6_requireW 0 = .ok (.iload_n 0, 1) := by decide +kernel
theorem dX6_requireW_1 : decode cX6_requireW 1 = .ok (.iconst 1, 1) := by decide +kernel
theorem dX6_requireW_2 : decode cX6_requireW 2 = .ok (.bipush 12, 2) := by decide +kernel
theorem dX6_requireW_4 : decode cX6_requireW 4 = .ok (.invokestatic 53, 3) := by decide +kernel
theorem dX6_requireW_7 : decode cX6_requireW 7 = .ok (.ifCond .eq 14, 3) := by decide +kernel
theorem dX6_requireW_10 : decode cX6_requireW 10 = .ok (.new 57, 3) := by decide +kernel
theorem dX6_requireW_13 : decode cX6_requireW 13 = .ok (.dup, 1) := by decide +kernel
theorem dX6_requireW_14 : decode cX6_requireW 14 = .ok (.ldc_w 352, 3) := by decide +kernel
theorem dX6_requireW_17 : decode cX6_requireW 17 = .ok (.invokespecial 61, 3) := by decide +kernel
theorem dX6_requireW_20 : decode cX6_requireW 20 = .ok (.athrow, 1) := by decide +kernel
theorem dX6_requireW_21 : decode cX6_requireW 21 = .ok (.return_, 1) := by decide +kernel
theorem dX6_requireLimit_0 : decode cX6_requireLimit 0 = .ok (.iload_n 0, 1) := by decide +kernel
theorem dX6_requireLimit_1 : decode cX6_requireLimit 1 = .ok (.sipush (-10000), 3) := by decide +kernel
theorem dX6_requireLimit_4 : decode cX6_requireLimit 4 = .ok (.sipush 10000, 3) := by decide +kernel
theorem dX6_requireLimit_7 : decode cX6_requireLimit 7 = .ok (.invokestatic 53, 3) := by decide +kernel
theorem dX6_requireLimit_10 : decode cX6_requireLimit 10 = .ok (.ifCond .eq 14, 3) := by decide +kernel
theorem dX6_requireLimit_13 : decode cX6_requireLimit 13 = .ok (.new 57, 3) := by decide +kernel
theorem dX6_requireLimit_16 : decode cX6_requireLimit 16 = .ok (.dup, 1) := by decide +kernel
theorem dX6_requireLimit_17 : decode cX6_requireLimit 17 = .ok (.ldc_w 354, 3) := by decide +kernel
theorem dX6_requireLimit_20 : decode cX6_requireLimit 20 = .ok (.invokespecial 61, 3) := by decide +kernel
theorem dX6_requireLimit_23 : decode cX6_requireLimit 23 = .ok (.athrow, 1) := by decide +kernel
theorem dX6_requireLimit_24 : decode cX6_requireLimit 24 = .ok (.return_, 1) := by decide +kernel
theorem dX6_requireTicks_0 : decode cX6_requireTicks 0 = .ok (.iload_n 0, 1) := by decide +kernel
theorem dX6_requireTicks_1 : decode cX6_requireTicks 1 = .ok (.iconst 1, 1) := by decide +kernel
theorem dX6_requireTicks_2 : decode cX6_requireTicks 2 = .ok (.bipush 10, 2) := by decide +kernel
theorem dX6_requireTicks_4 : decode cX6_requireTicks 4 = .ok (.invokestatic 53, 3) := by decide +kernel
theorem dX6_requireTicks_7 : decode cX6_requireTicks 7 = .ok (.ifCond .eq 14, 3) := by decide +kernel
theorem dX6_requireTicks_10 : decode cX6_requireTicks 10 = .ok (.new 57, 3) := by decide +kernel
theorem dX6_requireTicks_13 : decode cX6_requireTicks 13 = .ok (.dup, 1) := by decide +kernel
theorem dX6_requireTicks_14 : decode cX6_requireTicks 14 = .ok (.ldc_w 356, 3) := by decide +kernel
theorem dX6_requireTicks_17 : decode cX6_requireTicks 17 = .ok (.invokespecial 61, 3) := by decide +kernel
theorem dX6_requireTicks_20 : decode cX6_requireTicks 20 = .ok (.athrow, 1) := by decide +kernel
theorem dX6_requireTicks_21 : decode cX6_requireTicks 21 = .ok (.return_, 1) := by decide +kernel
theorem dX6_requireSeries_0 : decode cX6_requireSeries 0 = .ok (.iload_n 1, 1) := by decide +kernel
theorem dX6_requireSeries_1 : decode cX6_requireSeries 1 = .ok (.iconst 0, 1) := by decide +kernel
theorem dX6_requireSeries_2 : decode cX6_requireSeries 2 = .ok (.aload_n 0, 1) := by decide +kernel
theorem dX6_requireSeries_3 : decode cX6_requireSeries 3 = .ok (.getfield 10, 3) := by decide +kernel
theorem dX6_requireSeries_6 : decode cX6_requireSeries 6 = .ok (.invokevirtual 70, 3) := by decide +kernel
theorem dX6_requireSeries_9 : decode cX6_requireSeries 9 = .ok (.iconst 1, 1) := by decide +kernel
theorem dX6_requireSeries_10 : decode cX6_requireSeries 10 = .ok (.isub, 1) := by decide +kernel
theorem dX6_requireSeries_11 : decode cX6_requireSeries 11 = .ok (.invokestatic 53, 3) := by decide +kernel
theorem dX6_requireSeries_14 : decode cX6_requireSeries 14 = .ok (.ifCond .eq 14, 3) := by decide +kernel
theorem dX6_requireSeries_17 : decode cX6_requireSeries 17 = .ok (.new 248, 3) := by decide +kernel
theorem dX6_requireSeries_20 : decode cX6_requireSeries 20 = .ok (.dup, 1) := by decide +kernel
theorem dX6_requireSeries_21 : decode cX6_requireSeries 21 = .ok (.ldc_w 358, 3) := by decide +kernel
theorem dX6_requireSeries_24 : decode cX6_requireSeries 24 = .ok (.invokespecial 252, 3) := by decide +kernel
theorem dX6_requireSeries_27 : decode cX6_requireSeries 27 = .ok (.athrow, 1) := by decide +kernel
theorem dX6_requireSeries_28 : decode cX6_requireSeries 28 = .ok (.aload_n 0, 1) := by decide +kernel
theorem dX6_requireSeries_29 : decode cX6_requireSeries 29 = .ok (.getfield 10, 3) := by decide +kernel
theorem dX6_requireSeries_32 : decode cX6_requireSeries 32 = .ok (.iload_n 1, 1) := by decide +kernel
theorem dX6_requireSeries_33 : decode cX6_requireSeries 33 = .ok (.invokevirtual 180, 3) := by decide +kernel
theorem dX6_requireSeries_36 : decode cX6_requireSeries 36 = .ok (.checkcast 79, 3) := by decide +kernel
theorem dX6_requireSeries_39 : decode cX6_requireSeries 39 = .ok (.areturn, 1) := by decide +kernel
theorem dX6_requireRule_0 : decode cX6_requireRule 0 = .ok (.iload_n 1, 1) := by decide +kernel
theorem dX6_requireRule_1 : decode cX6_requireRule 1 = .ok (.iconst 0, 1) := by decide +kernel
theorem dX6_requireRule_2 : decode cX6_requireRule 2 = .ok (.aload_n 0, 1) := by decide +kernel
theorem dX6_requireRule_3 : decode cX6_requireRule 3 = .ok (.getfield 16, 3) := by decide +kernel
theorem dX6_requireRule_6 : decode cX6_requireRule 6 = .ok (.invokevirtual 70, 3) := by decide +kernel
theorem dX6_requireRule_9 : decode cX6_requireRule 9 = .ok (.iconst 1, 1) := by decide +kernel
theorem dX6_requireRule_10 : decode cX6_requireRule 10 = .ok (.isub, 1) := by decide +kernel
theorem dX6_requireRule_11 : decode cX6_requireRule 11 = .ok (.invokestatic 53, 3) := by decide +kernel
theorem dX6_requireRule_14 : decode cX6_requireRule 14 = .ok (.ifCond .eq 14, 3) := by decide +kernel
theorem dX6_requireRule_17 : decode cX6_requireRule 17 = .ok (.new 248, 3) := by decide +kernel
theorem dX6_requireRule_20 : decode cX6_requireRule 20 = .ok (.dup, 1) := by decide +kernel
theorem dX6_requireRule_21 : decode cX6_requireRule 21 = .ok (.ldc_w 360, 3) := by decide +kernel
theorem dX6_requireRule_24 : decode cX6_requireRule 24 = .ok (.invokespecial 252, 3) := by decide +kernel
theorem dX6_requireRule_27 : decode cX6_requireRule 27 = .ok (.athrow, 1) := by decide +kernel
theorem dX6_requireRule_28 : decode cX6_requireRule 28 = .ok (.aload_n 0, 1) := by decide +kernel
theorem dX6_requireRule_29 : decode cX6_requireRule 29 = .ok (.getfield 16, 3) := by decide +kernel
theorem dX6_requireRule_32 : decode cX6_requireRule 32 = .ok (.iload_n 1, 1) := by decide +kernel
theorem dX6_requireRule_33 : decode cX6_requireRule 33 = .ok (.invokevirtual 180, 3) := by decide +kernel
theorem dX6_requireRule_36 : decode cX6_requireRule 36 = .ok (.checkcast 120, 3) := by decide +kernel
theorem dX6_requireRule_39 : decode cX6_requireRule 39 = .ok (.areturn, 1) := by decide +kernel
theorem dX6_requireHush_0 : decode cX6_requireHush 0 = .ok (.iload_n 1, 1) := by decide +kernel
theorem dX6_requireHush_1 : decode cX6_requireHush 1 = .ok (.iconst 0, 1) := by decide +kernel
theorem dX6_requireHush_2 : decode cX6_requireHush 2 = .ok (.aload_n 0, 1) := by decide +kernel
theorem dX6_requireHush_3 : decode cX6_requireHush 3 = .ok (.getfield 19, 3) := by decide +kernel
theorem dX6_requireHush_6 : decode cX6_requireHush 6 = .ok (.invokevirtual 70, 3) := by decide +kernel
theorem dX6_requireHush_9 : decode cX6_requireHush 9 = .ok (.iconst 1, 1) := by decide +kernel
theorem dX6_requireHush_10 : decode cX6_requireHush 10 = .ok (.isub, 1) := by decide +kernel
theorem dX6_requireHush_11 : decode cX6_requireHush 11 = .ok (.invokestatic 53, 3) := by decide +kernel
theorem dX6_requireHush_14 : decode cX6_requireHush 14 = .ok (.ifCond .eq 14, 3) := by decide +kernel
theorem dX6_requireHush_17 : decode cX6_requireHush 17 = .ok (.new 248, 3) := by decide +kernel
theorem dX6_requireHush_20 : decode cX6_requireHush 20 = .ok (.dup, 1) := by decide +kernel
theorem dX6_requireHush_21 : decode cX6_requireHush 21 = .ok (.ldc_w 362, 3) := by decide +kernel
theorem dX6_requireHush_24 : decode cX6_requireHush 24 = .ok (.invokespecial 252, 3) := by decide +kernel
theorem dX6_requireHush_27 : decode cX6_requireHush 27 = .ok (.athrow, 1) := by decide +kernel
theorem dX6_requireHush_28 : decode cX6_requireHush 28 = .ok (.aload_n 0, 1) := by decide +kernel
theorem dX6_requireHush_29 : decode cX6_requireHush 29 = .ok (.getfield 19, 3) := by decide +kernel
theorem dX6_requireHush_32 : decode cX6_requireHush 32 = .ok (.iload_n 1, 1) := by decide +kernel
theorem dX6_requireHush_33 : decode cX6_requireHush 33 = .ok (.invokevirtual 180, 3) := by decide +kernel
theorem dX6_requireHush_36 : decode cX6_requireHush 36 = .ok (.checkcast 161, 3) := by decide +kernel
theorem dX6_requireHush_39 : decode cX6_requireHush 39 = .ok (.areturn, 1) := by decide +kernel
theorem dX6_hasKey_0 : decode cX6_hasKey 0 = .ok (.iconst 0, 1) := by decide +kernel
theorem dX6_hasKey_1 : decode cX6_hasKey 1 = .ok (.istore_n 3, 1) := by decide +kernel
theorem dX6_hasKey_2 : decode cX6_hasKey 2 = .ok (.iload_n 3, 1) := by decide +kernel
theorem dX6_hasKey_3 : decode cX6_hasKey 3 = .ok (.aload_n 0, 1) := by decide +kernel
theorem dX6_hasKey_4 : decode cX6_hasKey 4 = .ok (.getfield 10, 3) := by decide +kernel
theorem dX6_hasKey_7 : decode cX6_hasKey 7 = .ok (.invokevirtual 70, 3) := by decide +kernel
theorem dX6_hasKey_10 : decode cX6_hasKey 10 = .ok (.if_icmp .ge 30, 3) := by decide +kernel
theorem dX6_hasKey_13 : decode cX6_hasKey 13 = .ok (.aload_n 1, 1) := by decide +kernel
theorem dX6_hasKey_14 : decode cX6_hasKey 14 = .ok (.aload_n 0, 1) := by decide +kernel
theorem dX6_hasKey_15 : decode cX6_hasKey 15 = .ok (.getfield 10, 3) := by decide +kernel
theorem dX6_hasKey_18 : decode cX6_hasKey 18 = .ok (.iload_n 3, 1) := by decide +kernel
theorem dX6_hasKey_19 : decode cX6_hasKey 19 = .ok (.invokevirtual 180, 3) := by decide +kernel
theorem dX6_hasKey_22 : decode cX6_hasKey 22 = .ok (.checkcast 79, 3) := by decide +kernel
theorem dX6_hasKey_25 : decode cX6_hasKey 25 = .ok (.iload_n 2, 1) := by decide +kernel
theorem dX6_hasKey_26 : decode cX6_hasKey 26 = .ok (.invokevirtual 364, 3) := by decide +kernel
theorem dX6_hasKey_29 : decode cX6_hasKey 29 = .ok (.ifCond .eq 5, 3) := by decide +kernel
theorem dX6_hasKey_32 : decode cX6_hasKey 32 = .ok (.iconst 1, 1) := by decide +kernel
theorem dX6_hasKey_33 : decode cX6_hasKey 33 = .ok (.ireturn, 1) := by decide +kernel
theorem dX6_hasKey_34 : decode cX6_hasKey 34 = .ok (.iinc 3 1, 3) := by decide +kernel
theorem dX6_hasKey_37 : decode cX6_hasKey 37 = .ok (.goto (-35), 3) := by decide +kernel
theorem dX6_hasKey_40 : decode cX6_hasKey 40 = .ok (.iconst 0, 1) := by decide +kernel
theorem dX6_hasKey_41 : decode cX6_hasKey 41 = .ok (.ireturn, 1) := by decide +kernel
theorem dX6_lookedAt_0 : decode cX6_lookedAt 0 = .ok (.iconst 0, 1) := by decide +kernel
theorem dX6_lookedAt_1 : decode cX6_lookedAt 1 = .ok (.istore 4, 2) := by decide +kernel
theorem dX6_lookedAt_3 : decode cX6_lookedAt 3 = .ok (.iconst 0, 1) := by decide +kernel
theorem dX6_lookedAt_4 : decode cX6_lookedAt 4 = .ok (.istore 5, 2) := by decide +kernel
theorem dX6_lookedAt_6 : decode cX6_lookedAt 6 = .ok (.iload 5, 2) := by decide +kernel
theorem dX6_lookedAt_8 : decode cX6_lookedAt 8 = .ok (.aload_n 0, 1) := by decide +kernel
theorem dX6_lookedAt_9 : decode cX6_lookedAt 9 = .ok (.getfield 10, 3) := by decide +kernel
theorem dX6_lookedAt_12 : decode cX6_lookedAt 12 = .ok (.invokevirtual 70, 3) := by decide +kernel
theorem dX6_lookedAt_15 : decode cX6_lookedAt 15 = .ok (.if_icmp .ge 52, 3) := by decide +kernel
theorem dX6_lookedAt_18 : decode cX6_lookedAt 18 = .ok (.aload_n 0, 1) := by decide +kernel
theorem dX6_lookedAt_19 : decode cX6_lookedAt 19 = .ok (.getfield 10, 3) := by decide +kernel
theorem dX6_lookedAt_22 : decode cX6_lookedAt 22 = .ok (.iload 5, 2) := by decide +kernel
theorem dX6_lookedAt_24 : decode cX6_lookedAt 24 = .ok (.invokevirtual 180, 3) := by decide +kernel
theorem dX6_lookedAt_27 : decode cX6_lookedAt 27 = .ok (.checkcast 79, 3) := by decide +kernel
theorem dX6_lookedAt_30 : decode cX6_lookedAt 30 = .ok (.astore 6, 2) := by decide +kernel
theorem dX6_lookedAt_32 : decode cX6_lookedAt 32 = .ok (.aload_n 1, 1) := by decide +kernel
theorem dX6_lookedAt_33 : decode cX6_lookedAt 33 = .ok (.aload 6, 2) := by decide +kernel
theorem dX6_lookedAt_35 : decode cX6_lookedAt 35 = .ok (.iload_n 2, 1) := by decide +kernel
theorem dX6_lookedAt_36 : decode cX6_lookedAt 36 = .ok (.invokevirtual 364, 3) := by decide +kernel
theorem dX6_lookedAt_39 : decode cX6_lookedAt 39 = .ok (.ifCond .eq 22, 3) := by decide +kernel
theorem dX6_lookedAt_42 : decode cX6_lookedAt 42 = .ok (.iload 4, 2) := by decide +kernel
theorem dX6_lookedAt_44 : decode cX6_lookedAt 44 = .ok (.aload 6, 2) := by decide +kernel
theorem dX6_lookedAt_46 : decode cX6_lookedAt 46 = .ok (.aload_n 1, 1) := by decide +kernel
theorem dX6_lookedAt_47 : decode cX6_lookedAt 47 = .ok (.getfield 368, 3) := by decide +kernel
theorem dX6_lookedAt_50 : decode cX6_lookedAt 50 = .ok (.aload_n 1, 1) := by decide +kernel
theorem dX6_lookedAt_51 : decode cX6_lookedAt 51 = .ok (.getfield 370, 3) := by decide +kernel
theorem dX6_lookedAt_54 : decode cX6_lookedAt 54 = .ok (.iload_n 3, 1) := by decide +kernel
theorem dX6_lookedAt_55 : decode cX6_lookedAt 55 = .ok (.invokevirtual 214, 3) := by decide +kernel
theorem dX6_lookedAt_58 : decode cX6_lookedAt 58 = .ok (.iadd, 1) := by decide +kernel
theorem dX6_lookedAt_59 : decode cX6_lookedAt 59 = .ok (.istore 4, 2) := by decide +kernel
theorem dX6_lookedAt_61 : decode cX6_lookedAt 61 = .ok (.iinc 5 1, 3) := by decide +kernel
theorem dX6_lookedAt_64 : decode cX6_lookedAt 64 = .ok (.goto (-58), 3) := by decide +kernel
theorem dX6_lookedAt_67 : decode cX6_lookedAt 67 = .ok (.iload 4, 2) := by decide +kernel
theorem dX6_lookedAt_69 : decode cX6_lookedAt 69 = .ok (.ireturn, 1) := by decide +kernel
theorem dX6_placeOf_0 : decode cX6_placeOf 0 = .ok (.aload_n 1, 1) := by decide +kernel
theorem dX6_placeOf_1 : decode cX6_placeOf 1 = .ok (.getfield 373, 3) := by decide +kernel
theorem dX6_placeOf_4 : decode cX6_placeOf 4 = .ok (.lookupswitch 66 #[(0, 28), (1, 64)], 28) := by decide +kernel
theorem dX6_placeOf_32 : decode cX6_placeOf 32 = .ok (.iload_n 2, 1) := by decide +kernel
theorem dX6_placeOf_33 : decode cX6_placeOf 33 = .ok (.iconst 0, 1) := by decide +kernel
theorem dX6_placeOf_34 : decode cX6_placeOf 34 = .ok (.aload_n 0, 1) := by decide +kernel
theorem dX6_placeOf_35 : decode cX6_placeOf 35 = .ok (.getfield 10, 3) := by decide +kernel
theorem dX6_placeOf_38 : decode cX6_placeOf 38 = .ok (.invokevirtual 70, 3) := by decide +kernel
theorem dX6_placeOf_41 : decode cX6_placeOf 41 = .ok (.iconst 1, 1) := by decide +kernel
theorem dX6_placeOf_42 : decode cX6_placeOf 42 = .ok (.isub, 1) := by decide +kernel
theorem dX6_placeOf_43 : decode cX6_placeOf 43 = .ok (.invokestatic 53, 3) := by decide +kernel
theorem dX6_placeOf_46 : decode cX6_placeOf 46 = .ok (.ifCond .eq 7, 3) := by decide +kernel
theorem dX6_placeOf_49 : decode cX6_placeOf 49 = .ok (.iconst (-1), 1) := by decide +kernel
theorem dX6_placeOf_50 : decode cX6_placeOf 50 = .ok (.goto 17, 3) := by decide +kernel
theorem dX6_placeOf_53 : decode cX6_placeOf 53 = .ok (.aload_n 0, 1) := by decide +kernel
theorem dX6_placeOf_54 : decode cX6_placeOf 54 = .ok (.getfield 10, 3) := by decide +kernel
theorem dX6_placeOf_57 : decode cX6_placeOf 57 = .ok (.iload_n 2, 1) := by decide +kernel
theorem dX6_placeOf_58 : decode cX6_placeOf 58 = .ok (.invokevirtual 180, 3) := by decide +kernel
theorem dX6_placeOf_61 : decode cX6_placeOf 61 = .ok (.checkcast 79, 3) := by decide +kernel
theorem dX6_placeOf_64 : decode cX6_placeOf 64 = .ok (.getfield 376, 3) := by decide +kernel
theorem dX6_placeOf_67 : decode cX6_placeOf 67 = .ok (.ireturn, 1) := by decide +kernel
theorem dX6_placeOf_68 : decode cX6_placeOf 68 = .ok (.iload_n 2, 1) := by decide +kernel
theorem dX6_placeOf_69 : decode cX6_placeOf 69 = .ok (.ireturn, 1) := by decide +kernel
theorem dX6_placeOf_70 : decode cX6_placeOf 70 = .ok (.iconst (-1), 1) := by decide +kernel
theorem dX6_placeOf_71 : decode cX6_placeOf 71 = .ok (.ireturn, 1) := by decide +kernel
theorem dX6_stepAlerts_0 : decode cX6_stepAlerts 0 = .ok (.iconst 0, 1) := by decide +kernel
theorem dX6_stepAlerts_1 : decode cX6_stepAlerts 1 = .ok (.istore_n 2, 1) := by decide +kernel
theorem dX6_stepAlerts_2 : decode cX6_stepAlerts 2 = .ok (.iload_n 2, 1) := by decide +kernel
theorem dX6_stepAlerts_3 : decode cX6_stepAlerts 3 = .ok (.bipush 12, 2) := by decide +kernel
theorem dX6_stepAlerts_5 : decode cX6_stepAlerts 5 = .ok (.if_icmp .ge 55, 3) := by decide +kernel
theorem dX6_stepAlerts_8 : decode cX6_stepAlerts 8 = .ok (.aload_n 1, 1) := by decide +kernel
theorem dX6_stepAlerts_9 : decode cX6_stepAlerts 9 = .ok (.iload_n 2, 1) := by decide +kernel
theorem dX6_stepAlerts_10 : decode cX6_stepAlerts 10 = .ok (.invokevirtual 229, 3) := by decide +kernel
theorem dX6_stepAlerts_13 : decode cX6_stepAlerts 13 = .ok (.astore_n 3, 1) := by decide +kernel
theorem dX6_stepAlerts_14 : decode cX6_stepAlerts 14 = .ok (.aload_n 3, 1) := by decide +kernel
theorem dX6_stepAlerts_15 : decode cX6_stepAlerts 15 = .ok (.ifnull 39, 3) := by decide +kernel
theorem dX6_stepAlerts_18 : decode cX6_stepAlerts 18 = .ok (.aload_n 0, 1) := by decide +kernel
theorem dX6_stepAlerts_19 : decode cX6_stepAlerts 19 = .ok (.aload_n 1, 1) := by decide +kernel
theorem dX6_stepAlerts_20 : decode cX6_stepAlerts 20 = .ok (.iload_n 2, 1) := by decide +kernel
theorem dX6_stepAlerts_21 : decode cX6_stepAlerts 21 = .ok (.invokevirtual 286, 3) := by decide +kernel
theorem dX6_stepAlerts_24 : decode cX6_stepAlerts 24 = .ok (.ifCond .eq 30, 3) := by decide +kernel
theorem dX6_stepAlerts_27 : decode cX6_stepAlerts 27 = .ok (.aload_n 3, 1) := by decide +kernel
theorem dX6_stepAlerts_28 : decode cX6_stepAlerts 28 = .ok (.aload_n 1, 1) := by decide +kernel
theorem dX6_stepAlerts_29 : decode cX6_stepAlerts 29 = .ok (.aload_n 0, 1) := by decide +kernel
theorem dX6_stepAlerts_30 : decode cX6_stepAlerts 30 = .ok (.aload_n 1, 1) := by decide +kernel
theorem dX6_stepAlerts_31 : decode cX6_stepAlerts 31 = .ok (.iload_n 2, 1) := by decide +kernel
theorem dX6_stepAlerts_32 : decode cX6_stepAlerts 32 = .ok (.iconst 0, 1) := by decide +kernel
theorem dX6_stepAlerts_33 : decode cX6_stepAlerts 33 = .ok (.invokevirtual 223, 3) := by decide +kernel
theorem dX6_stepAlerts_36 : decode cX6_stepAlerts 36 = .ok (.aload_n 1, 1) := by decide +kernel
theorem dX6_stepAlerts_37 : decode cX6_stepAlerts 37 = .ok (.getfield 125, 3) := by decide +kernel
theorem dX6_stepAlerts_40 : decode cX6_stepAlerts 40 = .ok (.invokevirtual 290, 3) := by decide +kernel
theorem dX6_stepAlerts_43 : decode cX6_stepAlerts 43 = .ok (.aload_n 1, 1) := by decide +kernel
theorem dX6_stepAlerts_44 : decode cX6_stepAlerts 44 = .ok (.getfield 140, 3) := by decide +kernel
theorem dX6_stepAlerts_47 : decode cX6_stepAlerts 47 = .ok (.aload_n 0, 1) := by decide +kernel
theorem dX6_stepAlerts_48 : decode cX6_stepAlerts 48 = .ok (.getfield 43, 3) := by decide +kernel
theorem dX6_stepAlerts_51 : decode cX6_stepAlerts 51 = .ok (.invokevirtual 377, 3) := by decide +kernel
theorem dX6_stepAlerts_54 : decode cX6_stepAlerts 54 = .ok (.iinc 2 1, 3) := by decide +kernel
theorem dX6_stepAlerts_57 : decode cX6_stepAlerts 57 = .ok (.goto (-55), 3) := by decide +kernel
theorem dX6_stepAlerts_60 : decode cX6_stepAlerts 60 = .ok (.return_, 1) := by decide +kernel
theorem dX6_wouldBurn_0 : decode cX6_wouldBurn 0 = .ok (.aload_n 1, 1) := by decide +kernel
theorem dX6_wouldBurn_1 : decode cX6_wouldBurn 1 = .ok (.iload_n 2, 1) := by decide +kernel
theorem dX6_wouldBurn_2 : decode cX6_wouldBurn 2 = .ok (.invokevirtual 229, 3) := by decide +kernel
theorem dX6_wouldBurn_5 : decode cX6_wouldBurn 5 = .ok (.astore 4, 2) := by decide +kernel
theorem dX6_wouldBurn_7 : decode cX6_wouldBurn 7 = .ok (.aload 4, 2) := by decide +kernel
theorem dX6_wouldBurn_9 : decode cX6_wouldBurn 9 = .ok (.ifnull 12, 3) := by decide +kernel
theorem dX6_wouldBurn_12 : decode cX6_wouldBurn 12 = .ok (.aload_n 0, 1) := by decide +kernel
theorem dX6_wouldBurn_13 : decode cX6_wouldBurn 13 = .ok (.aload_n 1, 1) := by decide +kernel
theorem dX6_wouldBurn_14 : decode cX6_wouldBurn 14 = .ok (.iload_n 2, 1) := by decide +kernel
theorem dX6_wouldBurn_15 : decode cX6_wouldBurn 15 = .ok (.invokevirtual 286, 3) := by decide +kernel
theorem dX6_wouldBurn_18 : decode cX6_wouldBurn 18 = .ok (.ifCond .ne 5, 3) := by decide +kernel
theorem dX6_wouldBurn_21 : decode cX6_wouldBurn 21 = .ok (.iconst 0, 1) := by decide +kernel
theorem dX6_wouldBurn_22 : decode cX6_wouldBurn 22 = .ok (.ireturn, 1) := by decide +kernel
theorem dX6_wouldBurn_23 : decode cX6_wouldBurn 23 = .ok (.aload_n 0, 1) := by decide +kernel
theorem dX6_wouldBurn_24 : decode cX6_wouldBurn 24 = .ok (.getfield 39, 3) := by decide +kernel
theorem dX6_wouldBurn_27 : decode cX6_wouldBurn 27 = .ok (.aload 4, 2) := by decide +kernel
theorem dX6_wouldBurn_29 : decode cX6_wouldBurn 29 = .ok (.invokevirtual 381, 3) := by decide +kernel
theorem dX6_wouldBurn_32 : decode cX6_wouldBurn 32 = .ok (.iconst 1, 1) := by decide +kernel
theorem dX6_wouldBurn_33 : decode cX6_wouldBurn 33 = .ok (.istore 5, 2) := by decide +kernel
theorem dX6_wouldBurn_35 : decode cX6_wouldBurn 35 = .ok (.iload 5, 2) := by decide +kernel
theorem dX6_wouldBurn_37 : decode cX6_wouldBurn 37 = .ok (.iload_n 3, 1) := by decide +kernel
theorem dX6_wouldBurn_38 : decode cX6_wouldBurn 38 = .ok (.if_icmp .gt 43, 3) := by decide +kernel
theorem dX6_wouldBurn_41 : decode cX6_wouldBurn 41 = .ok (.aload_n 0, 1) := by decide +kernel
theorem dX6_wouldBurn_42 : decode cX6_wouldBurn 42 = .ok (.getfield 39, 3) := by decide +kernel
theorem dX6_wouldBurn_45 : decode cX6_wouldBurn 45 = .ok (.aload_n 1, 1) := by decide +kernel
theorem dX6_wouldBurn_46 : decode cX6_wouldBurn 46 = .ok (.aload_n 0, 1) := by decide +kernel
theorem dX6_wouldBurn_47 : decode cX6_wouldBurn 47 = .ok (.aload_n 1, 1) := by decide +kernel
theorem dX6_wouldBurn_48 : decode cX6_wouldBurn 48 = .ok (.iload_n 2, 1) := by decide +kernel
theorem dX6_wouldBurn_49 : decode cX6_wouldBurn 49 = .ok (.iload 5, 2) := by decide +kernel
theorem dX6_wouldBurn_51 : decode cX6_wouldBurn 51 = .ok (.invokevirtual 223, 3) := by decide +kernel
theorem dX6_wouldBurn_54 : decode cX6_wouldBurn 54 = .ok (.aload_n 1, 1) := by decide +kernel
theorem dX6_wouldBurn_55 : decode cX6_wouldBurn 55 = .ok (.getfield 125, 3) := by decide +kernel
theorem dX6_wouldBurn_58 : decode cX6_wouldBurn 58 = .ok (.invokevirtual 290, 3) := by decide +kernel
theorem dX6_wouldBurn_61 : decode cX6_wouldBurn 61 = .ok (.aload_n 1, 1) := by decide +kernel
theorem dX6_wouldBurn_62 : decode cX6_wouldBurn 62 = .ok (.getfield 140, 3) := by decide +kernel
theorem dX6_wouldBurn_65 : decode cX6_wouldBurn 65 = .ok (.aload_n 0, 1) := by decide +kernel
theorem dX6_wouldBurn_66 : decode cX6_wouldBurn 66 = .ok (.getfield 43, 3) := by decide +kernel
theorem dX6_wouldBurn_69 : decode cX6_wouldBurn 69 = .ok (.iload 5, 2) := by decide +kernel
theorem dX6_wouldBurn_71 : decode cX6_wouldBurn 71 = .ok (.iadd, 1) := by decide +kernel
theorem dX6_wouldBurn_72 : decode cX6_wouldBurn 72 = .ok (.invokevirtual 377, 3) := by decide +kernel
theorem dX6_wouldBurn_75 : decode cX6_wouldBurn 75 = .ok (.iinc 5 1, 3) := by decide +kernel
theorem dX6_wouldBurn_78 : decode cX6_wouldBurn 78 = .ok (.goto (-43), 3) := by decide +kernel
theorem dX6_wouldBurn_81 : decode cX6_wouldBurn 81 = .ok (.aload_n 0, 1) := by decide +kernel
theorem dX6_wouldBurn_82 : decode cX6_wouldBurn 82 = .ok (.getfield 39, 3) := by decide +kernel
theorem dX6_wouldBurn_85 : decode cX6_wouldBurn 85 = .ok (.getfield 233, 3) := by decide +kernel
theorem dX6_wouldBurn_88 : decode cX6_wouldBurn 88 = .ok (.iconst 2, 1) := by decide +kernel
theorem dX6_wouldBurn_89 : decode cX6_wouldBurn 89 = .ok (.if_icmp .ne 7, 3) := by decide +kernel
theorem dX6_wouldBurn_92 : decode cX6_wouldBurn 92 = .ok (.iconst 1, 1) := by decide +kernel
theorem dX6_wouldBurn_93 : decode cX6_wouldBurn 93 = .ok (.goto 4, 3) := by decide +kernel
theorem dX6_wouldBurn_96 : decode cX6_wouldBurn 96 = .ok (.iconst 0, 1) := by decide +kernel
theorem dX6_wouldBurn_97 : decode cX6_wouldBurn 97 = .ok (.ireturn, 1) := by decide +kernel
theorem dX6_countAlerts_0 : decode cX6_countAlerts 0 = .ok (.iconst 0, 1) := by decide +kernel
theorem dX6_countAlerts_1 : decode cX6_countAlerts 1 = .ok (.istore_n 2, 1) := by decide +kernel
theorem dX6_countAlerts_2 : decode cX6_countAlerts 2 = .ok (.iconst 0, 1) := by decide +kernel
theorem dX6_countAlerts_3 : decode cX6_countAlerts 3 = .ok (.istore_n 3, 1) := by decide +kernel
theorem dX6_countAlerts_4 : decode cX6_countAlerts 4 = .ok (.iload_n 3, 1) := by decide +kernel
theorem dX6_countAlerts_5 : decode cX6_countAlerts 5 = .ok (.aload_n 0, 1) := by decide +kernel
theorem dX6_countAlerts_6 : decode cX6_countAlerts 6 = .ok (.getfield 16, 3) := by decide +kernel
theorem dX6_countAlerts_9 : decode cX6_countAlerts 9 = .ok (.invokevirtual 70, 3) := by decide +kernel
theorem dX6_countAlerts_12 : decode cX6_countAlerts 12 = .ok (.if_icmp .ge 27, 3) := by decide +kernel
theorem dX6_countAlerts_15 : decode cX6_countAlerts 15 = .ok (.iload_n 2, 1) := by decide +kernel
theorem dX6_countAlerts_16 : decode cX6_countAlerts 16 = .ok (.aload_n 0, 1) := by decide +kernel
theorem dX6_countAlerts_17 : decode cX6_countAlerts 17 = .ok (.getfield 16, 3) := by decide +kernel
theorem dX6_countAlerts_20 : decode cX6_countAlerts 20 = .ok (.iload_n 3, 1) := by decide +kernel
theorem dX6_countAlerts_21 : decode cX6_countAlerts 21 = .ok (.invokevirtual 180, 3) := by decide +kernel
theorem dX6_countAlerts_24 : decode cX6_countAlerts 24 = .ok (.checkcast 120, 3) := by decide +kernel
theorem dX6_countAlerts_27 : decode cX6_countAlerts 27 = .ok (.iload_n 1, 1) := by decide +kernel
theorem dX6_countAlerts_28 : decode cX6_countAlerts 28 = .ok (.invokevirtual 245, 3) := by decide +kernel
theorem dX6_countAlerts_31 : decode cX6_countAlerts 31 = .ok (.iadd, 1) := by decide +kernel
theorem dX6_countAlerts_32 : decode cX6_countAlerts 32 = .ok (.istore_n 2, 1) := by decide +kernel
theorem dX6_countAlerts_33 : decode cX6_countAlerts 33 = .ok (.iinc 3 1, 3) := by decide +kernel
theorem dX6_countAlerts_36 : decode cX6_countAlerts 36 = .ok (.goto (-32), 3) := by decide +kernel
theorem dX6_countAlerts_39 : decode cX6_countAlerts 39 = .ok (.iload_n 2, 1) := by decide +kernel
theorem dX6_countAlerts_40 : decode cX6_countAlerts 40 = .ok (.ireturn, 1) := by decide +kernel
theorem dX6_hearing_0 : decode cX6_hearing 0 = .ok (.aload_n 1, 1) := by decide +kernel
theorem dX6_hearing_1 : decode cX6_hearing 1 = .ok (.iload_n 2, 1) := by decide +kernel
theorem dX6_hearing_2 : decode cX6_hearing 2 = .ok (.invokevirtual 385, 3) := by decide +kernel
theorem dX6_hearing_5 : decode cX6_hearing 5 = .ok (.ifCond .ne 5, 3) := by decide +kernel
theorem dX6_hearing_8 : decode cX6_hearing 8 = .ok (.iconst 1, 1) := by decide +kernel
theorem dX6_hearing_9 : decode cX6_hearing 9 = .ok (.ireturn, 1) := by decide +kernel
theorem dX6_hearing_10 : decode cX6_hearing 10 = .ok (.aload_n 0, 1) := by decide +kernel
theorem dX6_hearing_11 : decode cX6_hearing 11 = .ok (.aload_n 1, 1) := by decide +kernel
theorem dX6_hearing_12 : decode cX6_hearing 12 = .ok (.iload_n 2, 1) := by decide +kernel
theorem dX6_hearing_13 : decode cX6_hearing 13 = .ok (.invokevirtual 256, 3) := by decide +kernel
theorem dX6_hearing_16 : decode cX6_hearing 16 = .ok (.istore 4, 2) := by decide +kernel
theorem dX6_hearing_18 : decode cX6_hearing 18 = .ok (.aload_n 0, 1) := by decide +kernel
theorem dX6_hearing_19 : decode cX6_hearing 19 = .ok (.aload_n 1, 1) := by decide +kernel
theorem dX6_hearing_20 : decode cX6_hearing 20 = .ok (.getfield 253, 3) := by decide +kernel
theorem dX6_hearing_23 : decode cX6_hearing 23 = .ok (.iload 4, 2) := by decide +kernel
theorem dX6_hearing_25 : decode cX6_hearing 25 = .ok (.iload_n 3, 1) := by decide +kernel
theorem dX6_hearing_26 : decode cX6_hearing 26 = .ok (.invokevirtual 389, 3) := by decide +kernel
theorem dX6_hearing_29 : decode cX6_hearing 29 = .ok (.ifCond .eq 5, 3) := by decide +kernel
theorem dX6_hearing_32 : decode cX6_hearing 32 = .ok (.iconst 2, 1) := by decide +kernel
theorem dX6_hearing_33 : decode cX6_hearing 33 = .ok (.ireturn, 1) := by decide +kernel
theorem dX6_hearing_34 : decode cX6_hearing 34 = .ok (.aload_n 0, 1) := by decide +kernel
theorem dX6_hearing_35 : decode cX6_hearing 35 = .ok (.aload_n 1, 1) := by decide +kernel
theorem dX6_hearing_36 : decode cX6_hearing 36 = .ok (.getfield 143, 3) := by decide +kernel
theorem dX6_hearing_39 : decode cX6_hearing 39 = .ok (.iload 4, 2) := by decide +kernel
theorem dX6_hearing_41 : decode cX6_hearing 41 = .ok (.iload_n 3, 1) := by decide +kernel
theorem dX6_hearing_42 : decode cX6_hearing 42 = .ok (.invokevirtual 392, 3) := by decide +kernel
theorem dX6_hearing_45 : decode cX6_hearing 45 = .ok (.ifCond .eq 7, 3) := by decide +kernel
theorem dX6_hearing_48 : decode cX6_hearing 48 = .ok (.iconst 3, 1) := by decide +kernel
theorem dX6_hearing_49 : decode cX6_hearing 49 = .ok (.goto 4, 3) := by decide +kernel
theorem dX6_hearing_52 : decode cX6_hearing 52 = .ok (.iconst 0, 1) := by decide +kernel
theorem dX6_hearing_53 : decode cX6_hearing 53 = .ok (.ireturn, 1) := by decide +kernel
theorem dX6_isHushed_0 : decode cX6_isHushed 0 = .ok (.iconst 0, 1) := by decide +kernel
theorem dX6_isHushed_1 : decode cX6_isHushed 1 = .ok (.istore 4, 2) := by decide +kernel
theorem dX6_isHushed_3 : decode cX6_isHushed 3 = .ok (.iload 4, 2) := by decide +kernel
theorem dX6_isHushed_5 : decode cX6_isHushed 5 = .ok (.aload_n 0, 1) := by decide +kernel
theorem dX6_isHushed_6 : decode cX6_isHushed 6 = .ok (.getfield 19, 3) := by decide +kernel
theorem dX6_isHushed_9 : decode cX6_isHushed 9 = .ok (.invokevirtual 70, 3) := by decide +kernel
theorem dX6_isHushed_12 : decode cX6_isHushed 12 = .ok (.if_icmp .ge 41, 3) := by decide +kernel
theorem dX6_isHushed_15 : decode cX6_isHushed 15 = .ok (.iload 4, 2) := by decide +kernel
theorem dX6_isHushed_17 : decode cX6_isHushed 17 = .ok (.iload_n 3, 1) := by decide +kernel
theorem dX6_isHushed_18 : decode cX6_isHushed 18 = .ok (.if_icmp .eq 29, 3) := by decide +kernel
theorem dX6_isHushed_21 : decode cX6_isHushed 21 = .ok (.aload_n 0, 1) := by decide +kernel
theorem dX6_isHushed_22 : decode cX6_isHushed 22 = .ok (.getfield 19, 3) := by decide +kernel
theorem dX6_isHushed_25 : decode cX6_isHushed 25 = .ok (.iload 4, 2) := by decide +kernel
theorem dX6_isHushed_27 : decode cX6_isHushed 27 = .ok (.invokevirtual 180, 3) := by decide +kernel
theorem dX6_isHushed_30 : decode cX6_isHushed 30 = .ok (.checkcast 161, 3) := by decide +kernel
theorem dX6_isHushed_33 : decode cX6_isHushed 33 = .ok (.iload_n 1, 1) := by decide +kernel
theorem dX6_isHushed_34 : decode cX6_isHushed 34 = .ok (.iload_n 2, 1) := by decide +kernel
theorem dX6_isHushed_35 : decode cX6_isHushed 35 = .ok (.aload_n 0, 1) := by decide +kernel
theorem dX6_isHushed_36 : decode cX6_isHushed 36 = .ok (.getfield 43, 3) := by decide +kernel
theorem dX6_isHushed_39 : decode cX6_isHushed 39 = .ok (.invokevirtual 395, 3) := by decide +kernel
theorem dX6_isHushed_42 : decode cX6_isHushed 42 = .ok (.ifCond .eq 5, 3) := by decide +kernel
theorem dX6_isHushed_45 : decode cX6_isHushed 45 = .ok (.iconst 1, 1) := by decide +kernel
theorem dX6_isHushed_46 : decode cX6_isHushed 46 = .ok (.ireturn, 1) := by decide +kernel
theorem dX6_isHushed_47 : decode cX6_isHushed 47 = .ok (.iinc 4 1, 3) := by decide +kernel
theorem dX6_isHushed_50 : decode cX6_isHushed 50 = .ok (.goto (-47), 3) := by decide +kernel
theorem dX6_isHushed_53 : decode cX6_isHushed 53 = .ok (.iconst 0, 1) := by decide +kernel
theorem dX6_isHushed_54 : decode cX6_isHushed 54 = .ok (.ireturn, 1) := by decide +kernel
theorem dX6_isQuiet_0 : decode cX6_isQuiet 0 = .ok (.iconst 0, 1) := by decide +kernel
theorem dX6_isQuiet_1 : decode cX6_isQuiet 1 = .ok (.istore 4, 2) := by decide +kernel
theorem dX6_isQuiet_3 : decode cX6_isQuiet 3 = .ok (.iload 4, 2) := by decide +kernel
theorem dX6_isQuiet_5 : decode cX6_isQuiet 5 = .ok (.aload_n 0, 1) := by decide +kernel
theorem dX6_isQuiet_6 : decode cX6_isQuiet 6 = .ok (.getfield 16, 3) := by decide +kernel
theorem dX6_isQuiet_9 : decode cX6_isQuiet 9 = .ok (.invokevirtual 70, 3) := by decide +kernel
theorem dX6_isQuiet_12 : decode cX6_isQuiet 12 = .ok (.if_icmp .ge 106, 3) := by decide +kernel
theorem dX6_isQuiet_15 : decode cX6_isQuiet 15 = .ok (.aload_n 0, 1) := by decide +kernel
theorem dX6_isQuiet_16 : decode cX6_isQuiet 16 = .ok (.getfield 16, 3) := by decide +kernel
theorem dX6_isQuiet_19 : decode cX6_isQuiet 19 = .ok (.iload 4, 2) := by decide +kernel
theorem dX6_isQuiet_21 : decode cX6_isQuiet 21 = .ok (.invokevirtual 180, 3) := by decide +kernel
theorem dX6_isQuiet_24 : decode cX6_isQuiet 24 = .ok (.checkcast 120, 3) := by decide +kernel
theorem dX6_isQuiet_27 : decode cX6_isQuiet 27 = .ok (.astore 5, 2) := by decide +kernel
theorem dX6_isQuiet_29 : decode cX6_isQuiet 29 = .ok (.iconst 0, 1) := by decide +kernel
theorem dX6_isQuiet_30 : decode cX6_isQuiet 30 = .ok (.istore 6, 2) := by decide +kernel
theorem dX6_isQuiet_32 : decode cX6_isQuiet 32 = .ok (.iload 6, 2) := by decide +kernel
theorem dX6_isQuiet_34 : decode cX6_isQuiet 34 = .ok (.bipush 12, 2) := by decide +kernel
theorem dX6_isQuiet_36 : decode cX6_isQuiet 36 = .ok (.if_icmp .ge 76, 3) := by decide +kernel
theorem dX6_isQuiet_39 : decode cX6_isQuiet 39 = .ok (.aload 5, 2) := by decide +kernel
theorem dX6_isQuiet_41 : decode cX6_isQuiet 41 = .ok (.getfield 143, 3) := by decide +kernel
theorem dX6_isQuiet_44 : decode cX6_isQuiet 44 = .ok (.iload_n 1, 1) := by decide +kernel
theorem dX6_isQuiet_45 : decode cX6_isQuiet 45 = .ok (.if_icmp .le 67, 3) := by decide +kernel
theorem dX6_isQuiet_48 : decode cX6_isQuiet 48 = .ok (.aload_n 0, 1) := by decide +kernel
theorem dX6_isQuiet_49 : decode cX6_isQuiet 49 = .ok (.aload 5, 2) := by decide +kernel
theorem dX6_isQuiet_51 : decode cX6_isQuiet 51 = .ok (.iload 6, 2) := by decide +kernel
theorem dX6_isQuiet_53 : decode cX6_isQuiet 53 = .ok (.invokevirtual 256, 3) := by decide +kernel
theorem dX6_isQuiet_56 : decode cX6_isQuiet 56 = .ok (.istore 7, 2) := by decide +kernel
theorem dX6_isQuiet_58 : decode cX6_isQuiet 58 = .ok (.iload 7, 2) := by decide +kernel
theorem dX6_isQuiet_60 : decode cX6_isQuiet 60 = .ok (.iload_n 2, 1) := by decide +kernel
theorem dX6_isQuiet_61 : decode cX6_isQuiet 61 = .ok (.if_icmp .eq 9, 3) := by decide +kernel
theorem dX6_isQuiet_64 : decode cX6_isQuiet 64 = .ok (.iload 7, 2) := by decide +kernel
theorem dX6_isQuiet_66 : decode cX6_isQuiet 66 = .ok (.iconst (-1), 1) := by decide +kernel
theorem dX6_isQuiet_67 : decode cX6_isQuiet 67 = .ok (.if_icmp .ne 7, 3) := by decide +kernel
theorem dX6_isQuiet_70 : decode cX6_isQuiet 70 = .ok (.iconst 1, 1) := by decide +kernel
theorem dX6_isQuiet_71 : decode cX6_isQuiet 71 = .ok (.goto 4, 3) := by decide +kernel
theorem dX6_isQuiet_74 : decode cX6_isQuiet 74 = .ok (.iconst 0, 1) := by decide +kernel
theorem dX6_isQuiet_75 : decode cX6_isQuiet 75 = .ok (.istore 8, 2) := by decide +kernel
theorem dX6_isQuiet_77 : decode cX6_isQuiet 77 = .ok (.iload 8, 2) := by decide +kernel
theorem dX6_isQuiet_79 : decode cX6_isQuiet 79 = .ok (.ifCond .eq 27, 3) := by decide +kernel
theorem dX6_isQuiet_82 : decode cX6_isQuiet 82 = .ok (.aload 5, 2) := by decide +kernel
theorem dX6_isQuiet_84 : decode cX6_isQuiet 84 = .ok (.iload 6, 2) := by decide +kernel
theorem dX6_isQuiet_86 : decode cX6_isQuiet 86 = .ok (.invokevirtual 385, 3) := by decide +kernel
theorem dX6_isQuiet_89 : decode cX6_isQuiet 89 = .ok (.ifCond .eq 17, 3) := by decide +kernel
theorem dX6_isQuiet_92 : decode cX6_isQuiet 92 = .ok (.aload_n 0, 1) := by decide +kernel
theorem dX6_isQuiet_93 : decode cX6_isQuiet 93 = .ok (.iload 4, 2) := by decide +kernel
theorem dX6_isQuiet_95 : decode cX6_isQuiet 95 = .ok (.iload 7, 2) := by decide +kernel
theorem dX6_isQuiet_97 : decode cX6_isQuiet 97 = .ok (.iload_n 3, 1) := by decide +kernel
theorem dX6_isQuiet_98 : decode cX6_isQuiet 98 = .ok (.invokevirtual 389, 3) := by decide +kernel
theorem dX6_isQuiet_101 : decode cX6_isQuiet 101 = .ok (.ifCond .ne 5, 3) := by decide +kernel
theorem dX6_isQuiet_104 : decode cX6_isQuiet 104 = .ok (.iconst 1, 1) := by decide +kernel
theorem dX6_isQuiet_105 : decode cX6_isQuiet 105 = .ok (.ireturn, 1) := by decide +kernel
theorem dX6_isQuiet_106 : decode cX6_isQuiet 106 = .ok (.iinc 6 1, 3) := by decide +kernel
theorem dX6_isQuiet_109 : decode cX6_isQuiet 109 = .ok (.goto (-77), 3) := by decide +kernel
theorem dX6_isQuiet_112 : decode cX6_isQuiet 112 = .ok (.iinc 4 1, 3) := by decide +kernel
theorem dX6_isQuiet_115 : decode cX6_isQuiet 115 = .ok (.goto (-112), 3) := by decide +kernel
theorem dX6_isQuiet_118 : decode cX6_isQuiet 118 = .ok (.iconst 0, 1) := by decide +kernel
theorem dX6_isQuiet_119 : decode cX6_isQuiet 119 = .ok (.ireturn, 1) := by decide +kernel
end
section
theorem dX6_countLoud_0 : decode cX6_countLoud 0 = .ok (.iconst 0, 1) := by decide +kernel
theorem dX6_countLoud_1 : decode cX6_countLoud 1 = .ok (.istore_n 2, 1) := by decide +kernel
theorem dX6_countLoud_2 : decode cX6_countLoud 2 = .ok (.iconst 0, 1) := by decide +kernel
theorem dX6_countLoud_3 : decode cX6_countLoud 3 = .ok (.istore_n 3, 1) := by decide +kernel
theorem dX6_countLoud_4 : decode cX6_countLoud 4 = .ok (.iload_n 3, 1) := by decide +kernel
theorem dX6_countLoud_5 : decode cX6_countLoud 5 = .ok (.aload_n 0, 1) := by decide +kernel
theorem dX6_countLoud_6 : decode cX6_countLoud 6 = .ok (.getfield 16, 3) := by decide +kernel
theorem dX6_countLoud_9 : decode cX6_countLoud 9 = .ok (.invokevirtual 70, 3) := by decide +kernel
theorem dX6_countLoud_12 : decode cX6_countLoud 12 = .ok (.if_icmp .ge 53, 3) := by decide +kernel
theorem dX6_countLoud_15 : decode cX6_countLoud 15 = .ok (.aload_n 0, 1) := by decide +kernel
theorem dX6_countLoud_16 : decode cX6_countLoud 16 = .ok (.getfield 16, 3) := by decide +kernel
theorem dX6_countLoud_19 : decode cX6_countLoud 19 = .ok (.iload_n 3, 1) := by decide +kernel
theorem dX6_countLoud_20 : decode cX6_countLoud 20 = .ok (.invokevirtual 180, 3) := by decide +kernel
theorem dX6_countLoud_23 : decode cX6_countLoud 23 = .ok (.checkcast 120, 3) := by decide +kernel
theorem dX6_countLoud_26 : decode cX6_countLoud 26 = .ok (.astore 4, 2) := by decide +kernel
theorem dX6_countLoud_28 : decode cX6_countLoud 28 = .ok (.iconst 0, 1) := by decide +kernel
theorem dX6_countLoud_29 : decode cX6_countLoud 29 = .ok (.istore 5, 2) := by decide +kernel
theorem dX6_countLoud_31 : decode cX6_countLoud 31 = .ok (.iload 5, 2) := by decide +kernel
theorem dX6_countLoud_33 : decode cX6_countLoud 33 = .ok (.bipush 12, 2) := by decide +kernel
theorem dX6_countLoud_35 : decode cX6_countLoud 35 = .ok (.if_icmp .ge 24, 3) := by decide +kernel
theorem dX6_countLoud_38 : decode cX6_countLoud 38 = .ok (.aload_n 0, 1) := by decide +kernel
theorem dX6_countLoud_39 : decode cX6_countLoud 39 = .ok (.aload 4, 2) := by decide +kernel
theorem dX6_countLoud_41 : decode cX6_countLoud 41 = .ok (.iload 5, 2) := by decide +kernel
theorem dX6_countLoud_43 : decode cX6_countLoud 43 = .ok (.iload_n 1, 1) := by decide +kernel
theorem dX6_countLoud_44 : decode cX6_countLoud 44 = .ok (.invokevirtual 239, 3) := by decide +kernel
theorem dX6_countLoud_47 : decode cX6_countLoud 47 = .ok (.ifCond .ne 6, 3) := by decide +kernel
theorem dX6_countLoud_50 : decode cX6_countLoud 50 = .ok (.iinc 2 1, 3) := by decide +kernel
theorem dX6_countLoud_53 : decode cX6_countLoud 53 = .ok (.iinc 5 1, 3) := by decide +kernel
theorem dX6_countLoud_56 : decode cX6_countLoud 56 = .ok (.goto (-25), 3) := by decide +kernel
theorem dX6_countLoud_59 : decode cX6_countLoud 59 = .ok (.iinc 3 1, 3) := by decide +kernel
theorem dX6_countLoud_62 : decode cX6_countLoud 62 = .ok (.goto (-58), 3) := by decide +kernel
theorem dX6_countLoud_65 : decode cX6_countLoud 65 = .ok (.iload_n 2, 1) := by decide +kernel
theorem dX6_countLoud_66 : decode cX6_countLoud 66 = .ok (.ireturn, 1) := by decide +kernel
theorem dX6_countCovered_0 : decode cX6_countCovered 0 = .ok (.iconst 0, 1) := by decide +kernel
theorem dX6_countCovered_1 : decode cX6_countCovered 1 = .ok (.istore_n 2, 1) := by decide +kernel
theorem dX6_countCovered_2 : decode cX6_countCovered 2 = .ok (.iconst 0, 1) := by decide +kernel
theorem dX6_countCovered_3 : decode cX6_countCovered 3 = .ok (.istore_n 3, 1) := by decide +kernel
theorem dX6_countCovered_4 : decode cX6_countCovered 4 = .ok (.iload_n 3, 1) := by decide +kernel
theorem dX6_countCovered_5 : decode cX6_countCovered 5 = .ok (.aload_n 0, 1) := by decide +kernel
theorem dX6_countCovered_6 : decode cX6_countCovered 6 = .ok (.getfield 16, 3) := by decide +kernel
theorem dX6_countCovered_9 : decode cX6_countCovered 9 = .ok (.invokevirtual 70, 3) := by decide +kernel
theorem dX6_countCovered_12 : decode cX6_countCovered 12 = .ok (.if_icmp .ge 71, 3) := by decide +kernel
theorem dX6_countCovered_15 : decode cX6_countCovered 15 = .ok (.aload_n 0, 1) := by decide +kernel
theorem dX6_countCovered_16 : decode cX6_countCovered 16 = .ok (.getfield 16, 3) := by decide +kernel
theorem dX6_countCovered_19 : decode cX6_countCovered 19 = .ok (.iload_n 3, 1) := by decide +kernel
theorem dX6_countCovered_20 : decode cX6_countCovered 20 = .ok (.invokevirtual 180, 3) := by decide +kernel
theorem dX6_countCovered_23 : decode cX6_countCovered 23 = .ok (.checkcast 120, 3) := by decide +kernel
theorem dX6_countCovered_26 : decode cX6_countCovered 26 = .ok (.astore 4, 2) := by decide +kernel
theorem dX6_countCovered_28 : decode cX6_countCovered 28 = .ok (.iconst 0, 1) := by decide +kernel
theorem dX6_countCovered_29 : decode cX6_countCovered 29 = .ok (.istore 5, 2) := by decide +kernel
theorem dX6_countCovered_31 : decode cX6_countCovered 31 = .ok (.iload 5, 2) := by decide +kernel
theorem dX6_countCovered_33 : decode cX6_countCovered 33 = .ok (.bipush 12, 2) := by decide +kernel
theorem dX6_countCovered_35 : decode cX6_countCovered 35 = .ok (.if_icmp .ge 42, 3) := by decide +kernel
theorem dX6_countCovered_38 : decode cX6_countCovered 38 = .ok (.aload 4, 2) := by decide +kernel
theorem dX6_countCovered_40 : decode cX6_countCovered 40 = .ok (.iload 5, 2) := by decide +kernel
theorem dX6_countCovered_42 : decode cX6_countCovered 42 = .ok (.invokevirtual 398, 3) := by decide +kernel
theorem dX6_countCovered_45 : decode cX6_countCovered 45 = .ok (.ifCond .eq 26, 3) := by decide +kernel
theorem dX6_countCovered_48 : decode cX6_countCovered 48 = .ok (.aload_n 1, 1) := by decide +kernel
theorem dX6_countCovered_49 : decode cX6_countCovered 49 = .ok (.iload_n 3, 1) := by decide +kernel
theorem dX6_countCovered_50 : decode cX6_countCovered 50 = .ok (.aload_n 0, 1) := by decide +kernel
theorem dX6_countCovered_51 : decode cX6_countCovered 51 = .ok (.aload 4, 2) := by decide +kernel
theorem dX6_countCovered_53 : decode cX6_countCovered 53 = .ok (.iload 5, 2) := by decide +kernel
theorem dX6_countCovered_55 : decode cX6_countCovered 55 = .ok (.invokevirtual 256, 3) := by decide +kernel
theorem dX6_countCovered_58 : decode cX6_countCovered 58 = .ok (.aload_n 0, 1) := by decide +kernel
theorem dX6_countCovered_59 : decode cX6_countCovered 59 = .ok (.getfield 43, 3) := by decide +kernel
theorem dX6_countCovered_62 : decode cX6_countCovered 62 = .ok (.invokevirtual 395, 3) := by decide +kernel
theorem dX6_countCovered_65 : decode cX6_countCovered 65 = .ok (.ifCond .eq 6, 3) := by decide +kernel
theorem dX6_countCovered_68 : decode cX6_countCovered 68 = .ok (.iinc 2 1, 3) := by decide +kernel
theorem dX6_countCovered_71 : decode cX6_countCovered 71 = .ok (.iinc 5 1, 3) := by decide +kernel
theorem dX6_countCovered_74 : decode cX6_countCovered 74 = .ok (.goto (-43), 3) := by decide +kernel
theorem dX6_countCovered_77 : decode cX6_countCovered 77 = .ok (.iinc 3 1, 3) := by decide +kernel
theorem dX6_countCovered_80 : decode cX6_countCovered 80 = .ok (.goto (-76), 3) := by decide +kernel
theorem dX6_countCovered_83 : decode cX6_countCovered 83 = .ok (.iload_n 2, 1) := by decide +kernel
theorem dX6_countCovered_84 : decode cX6_countCovered 84 = .ok (.ireturn, 1) := by decide +kernel
theorem dX6_dropHushesOf_0 : decode cX6_dropHushesOf 0 = .ok (.aload_n 0, 1) := by decide +kernel
theorem dX6_dropHushesOf_1 : decode cX6_dropHushesOf 1 = .ok (.getfield 19, 3) := by decide +kernel
theorem dX6_dropHushesOf_4 : decode cX6_dropHushesOf 4 = .ok (.invokevirtual 70, 3) := by decide +kernel
theorem dX6_dropHushesOf_7 : decode cX6_dropHushesOf 7 = .ok (.iconst 1, 1) := by decide +kernel
theorem dX6_dropHushesOf_8 : decode cX6_dropHushesOf 8 = .ok (.isub, 1) := by decide +kernel
theorem dX6_dropHushesOf_9 : decode cX6_dropHushesOf 9 = .ok (.istore_n 2, 1) := by decide +kernel
theorem dX6_dropHushesOf_10 : decode cX6_dropHushesOf 10 = .ok (.iload_n 2, 1) := by decide +kernel
theorem dX6_dropHushesOf_11 : decode cX6_dropHushesOf 11 = .ok (.ifCond .lt 36, 3) := by decide +kernel
theorem dX6_dropHushesOf_14 : decode cX6_dropHushesOf 14 = .ok (.aload_n 0, 1) := by decide +kernel
theorem dX6_dropHushesOf_15 : decode cX6_dropHushesOf 15 = .ok (.getfield 19, 3) := by decide +kernel
theorem dX6_dropHushesOf_18 : decode cX6_dropHushesOf 18 = .ok (.iload_n 2, 1) := by decide +kernel
theorem dX6_dropHushesOf_19 : decode cX6_dropHushesOf 19 = .ok (.invokevirtual 180, 3) := by decide +kernel
theorem dX6_dropHushesOf_22 : decode cX6_dropHushesOf 22 = .ok (.checkcast 161, 3) := by decide +kernel
theorem dX6_dropHushesOf_25 : decode cX6_dropHushesOf 25 = .ok (.getfield 260, 3) := by decide +kernel
theorem dX6_dropHushesOf_28 : decode cX6_dropHushesOf 28 = .ok (.iload_n 1, 1) := by decide +kernel
theorem dX6_dropHushesOf_29 : decode cX6_dropHushesOf 29 = .ok (.if_icmp .ne 12, 3) := by decide +kernel
theorem dX6_dropHushesOf_32 : decode cX6_dropHushesOf 32 = .ok (.aload_n 0, 1) := by decide +kernel
theorem dX6_dropHushesOf_33 : decode cX6_dropHushesOf 33 = .ok (.getfield 19, 3) := by decide +kernel
theorem dX6_dropHushesOf_36 : decode cX6_dropHushesOf 36 = .ok (.iload_n 2, 1) := by decide +kernel
theorem dX6_dropHushesOf_37 : decode cX6_dropHushesOf 37 = .ok (.invokevirtual 148, 3) := by decide +kernel
theorem dX6_dropHushesOf_40 : decode cX6_dropHushesOf 40 = .ok (.pop, 1) := by decide +kernel
theorem dX6_dropHushesOf_41 : decode cX6_dropHushesOf 41 = .ok (.iinc 2 (-1), 3) := by decide +kernel
theorem dX6_dropHushesOf_44 : decode cX6_dropHushesOf 44 = .ok (.goto (-34), 3) := by decide +kernel
theorem dX6_dropHushesOf_47 : decode cX6_dropHushesOf 47 = .ok (.return_, 1) := by decide +kernel
theorem dX6_forgetGroups_0 : decode cX6_forgetGroups 0 = .ok (.iconst 0, 1) := by decide +kernel
theorem dX6_forgetGroups_1 : decode cX6_forgetGroups 1 = .ok (.istore_n 1, 1) := by decide +kernel
theorem dX6_forgetGroups_2 : decode cX6_forgetGroups 2 = .ok (.iload_n 1, 1) := by decide +kernel
theorem dX6_forgetGroups_3 : decode cX6_forgetGroups 3 = .ok (.bipush 7, 2) := by decide +kernel
theorem dX6_forgetGroups_5 : decode cX6_forgetGroups 5 = .ok (.if_icmp .ge 18, 3) := by decide +kernel
theorem dX6_forgetGroups_8 : decode cX6_forgetGroups 8 = .ok (.aload_n 0, 1) := by decide +kernel
theorem dX6_forgetGroups_9 : decode cX6_forgetGroups 9 = .ok (.getfield 24, 3) := by decide +kernel
theorem dX6_forgetGroups_12 : decode cX6_forgetGroups 12 = .ok (.iload_n 1, 1) := by decide +kernel
theorem dX6_forgetGroups_13 : decode cX6_forgetGroups 13 = .ok (.aaload, 1) := by decide +kernel
theorem dX6_forgetGroups_14 : decode cX6_forgetGroups 14 = .ok (.invokevirtual 401, 3) := by decide +kernel
theorem dX6_forgetGroups_17 : decode cX6_forgetGroups 17 = .ok (.iinc 1 1, 3) := by decide +kernel
theorem dX6_forgetGroups_20 : decode cX6_forgetGroups 20 = .ok (.goto (-18), 3) := by decide +kernel
theorem dX6_forgetGroups_23 : decode cX6_forgetGroups 23 = .ok (.return_, 1) := by decide +kernel
theorem dX6_sendNotices_0 : decode cX6_sendNotices 0 = .ok (.aload_n 0, 1) := by decide +kernel
theorem dX6_sendNotices_1 : decode cX6_sendNotices 1 = .ok (.invokevirtual 404, 3) := by decide +kernel
theorem dX6_sendNotices_4 : decode cX6_sendNotices 4 = .ok (.iconst 0, 1) := by decide +kernel
theorem dX6_sendNotices_5 : decode cX6_sendNotices 5 = .ok (.istore_n 1, 1) := by decide +kernel
theorem dX6_sendNotices_6 : decode cX6_sendNotices 6 = .ok (.iconst 0, 1) := by decide +kernel
theorem dX6_sendNotices_7 : decode cX6_sendNotices 7 = .ok (.istore_n 2, 1) := by decide +kernel
theorem dX6_sendNotices_8 : decode cX6_sendNotices 8 = .ok (.iload_n 2, 1) := by decide +kernel
theorem dX6_sendNotices_9 : decode cX6_sendNotices 9 = .ok (.bipush 7, 2) := by decide +kernel
theorem dX6_sendNotices_11 : decode cX6_sendNotices 11 = .ok (.if_icmp .ge 71, 3) := by decide +kernel
theorem dX6_sendNotices_14 : decode cX6_sendNotices 14 = .ok (.aload_n 0, 1) := by decide +kernel
theorem dX6_sendNotices_15 : decode cX6_sendNotices 15 = .ok (.getfield 24, 3) := by decide +kernel
theorem dX6_sendNotices_18 : decode cX6_sendNotices 18 = .ok (.iload_n 2, 1) := by decide +kernel
theorem dX6_sendNotices_19 : decode cX6_sendNotices 19 = .ok (.aaload, 1) := by decide +kernel
theorem dX6_sendNotices_20 : decode cX6_sendNotices 20 = .ok (.astore_n 3, 1) := by decide +kernel
theorem dX6_sendNotices_21 : decode cX6_sendNotices 21 = .ok (.aload_n 3, 1) := by decide +kernel
theorem dX6_sendNotices_22 : decode cX6_sendNotices 22 = .ok (.aload_n 0, 1) := by decide +kernel
theorem dX6_sendNotices_23 : decode cX6_sendNotices 23 = .ok (.getfield 43, 3) := by decide +kernel
theorem dX6_sendNotices_26 : decode cX6_sendNotices 26 = .ok (.aload_n 0, 1) := by decide +kernel
theorem dX6_sendNotices_27 : decode cX6_sendNotices 27 = .ok (.getfield 50, 3) := by decide +kernel
theorem dX6_sendNotices_30 : decode cX6_sendNotices 30 = .ok (.invokevirtual 407, 3) := by decide +kernel
theorem dX6_sendNotices_33 : decode cX6_sendNotices 33 = .ok (.ifCond .eq 35, 3) := by decide +kernel
theorem dX6_sendNotices_36 : decode cX6_sendNotices 36 = .ok (.aload_n 0, 1) := by decide +kernel
theorem dX6_sendNotices_37 : decode cX6_sendNotices 37 = .ok (.getfield 32, 3) := by decide +kernel
theorem dX6_sendNotices_40 : decode cX6_sendNotices 40 = .ok (.aload_n 0, 1) := by decide +kernel
theorem dX6_sendNotices_41 : decode cX6_sendNotices 41 = .ok (.getfield 43, 3) := by decide +kernel
theorem dX6_sendNotices_44 : decode cX6_sendNotices 44 = .ok (.iload_n 2, 1) := by decide +kernel
theorem dX6_sendNotices_45 : decode cX6_sendNotices 45 = .ok (.aload_n 3, 1) := by decide +kernel
theorem dX6_sendNotices_46 : decode cX6_sendNotices 46 = .ok (.invokevirtual 410, 3) := by decide +kernel
theorem dX6_sendNotices_49 : decode cX6_sendNotices 49 = .ok (.aload_n 0, 1) := by decide +kernel
theorem dX6_sendNotices_50 : decode cX6_sendNotices 50 = .ok (.aload_n 3, 1) := by decide +kernel
theorem dX6_sendNotices_51 : decode cX6_sendNotices 51 = .ok (.invokevirtual 413, 3) := by decide +kernel
theorem dX6_sendNotices_54 : decode cX6_sendNotices 54 = .ok (.invokevirtual 417, 3) := by decide +kernel
theorem dX6_sendNotices_57 : decode cX6_sendNotices 57 = .ok (.aload_n 3, 1) := by decide +kernel
theorem dX6_sendNotices_58 : decode cX6_sendNotices 58 = .ok (.aload_n 0, 1) := by decide +kernel
theorem dX6_sendNotices_59 : decode cX6_sendNotices 59 = .ok (.getfield 43, 3) := by decide +kernel
theorem dX6_sendNotices_62 : decode cX6_sendNotices 62 = .ok (.invokevirtual 420, 3) := by decide +kernel
theorem dX6_sendNotices_65 : decode cX6_sendNotices 65 = .ok (.iinc 1 1, 3) := by decide +kernel
theorem dX6_sendNotices_68 : decode cX6_sendNotices 68 = .ok (.aload_n 3, 1) := by decide +kernel
theorem dX6_sendNotices_69 : decode cX6_sendNotices 69 = .ok (.aload_n 3, 1) := by decide +kernel
theorem dX6_sendNotices_70 : decode cX6_sendNotices 70 = .ok (.invokevirtual 423, 3) := by decide +kernel
theorem dX6_sendNotices_73 : decode cX6_sendNotices 73 = .ok (.putfield 427, 3) := by decide +kernel
theorem dX6_sendNotices_76 : decode cX6_sendNotices 76 = .ok (.iinc 2 1, 3) := by decide +kernel
theorem dX6_sendNotices_79 : decode cX6_sendNotices 79 = .ok (.goto (-71), 3) := by decide +kernel
theorem dX6_sendNotices_82 : decode cX6_sendNotices 82 = .ok (.iload_n 1, 1) := by decide +kernel
theorem dX6_sendNotices_83 : decode cX6_sendNotices 83 = .ok (.ireturn, 1) := by decide +kernel
theorem dX6_gatherLoud_0 : decode cX6_gatherLoud 0 = .ok (.iconst 0, 1) := by decide +kernel
theorem dX6_gatherLoud_1 : decode cX6_gatherLoud 1 = .ok (.istore_n 1, 1) := by decide +kernel
theorem dX6_gatherLoud_2 : decode cX6_gatherLoud 2 = .ok (.iload_n 1, 1) := by decide +kernel
theorem dX6_gatherLoud_3 : decode cX6_gatherLoud 3 = .ok (.bipush 7, 2) := by decide +kernel
theorem dX6_gatherLoud_5 : decode cX6_gatherLoud 5 = .ok (.if_icmp .ge 18, 3) := by decide +kernel
theorem dX6_gatherLoud_8 : decode cX6_gatherLoud 8 = .ok (.aload_n 0, 1) := by decide +kernel
theorem dX6_gatherLoud_9 : decode cX6_gatherLoud 9 = .ok (.getfield 24, 3) := by decide +kernel
theorem dX6_gatherLoud_12 : decode cX6_gatherLoud 12 = .ok (.iload_n 1, 1) := by decide +kernel
theorem dX6_gatherLoud_13 : decode cX6_gatherLoud 13 = .ok (.aaload, 1) := by decide +kernel
theorem dX6_gatherLoud_14 : decode cX6_gatherLoud 14 = .ok (.invokevirtual 430, 3) := by decide +kernel
theorem dX6_gatherLoud_17 : decode cX6_gatherLoud 17 = .ok (.iinc 1 1, 3) := by decide +kernel
theorem dX6_gatherLoud_20 : decode cX6_gatherLoud 20 = .ok (.goto (-18), 3) := by decide +kernel
theorem dX6_gatherLoud_23 : decode cX6_gatherLoud 23 = .ok (.iconst 0, 1) := by decide +kernel
theorem dX6_gatherLoud_24 : decode cX6_gatherLoud 24 = .ok (.istore_n 1, 1) := by decide +kernel
theorem dX6_gatherLoud_25 : decode cX6_gatherLoud 25 = .ok (.iload_n 1, 1) := by decide +kernel
theorem dX6_gatherLoud_26 : decode cX6_gatherLoud 26 = .ok (.aload_n 0, 1) := by decide +kernel
theorem dX6_gatherLoud_27 : decode cX6_gatherLoud 27 = .ok (.getfield 16, 3) := by decide +kernel
theorem dX6_gatherLoud_30 : decode cX6_gatherLoud 30 = .ok (.invokevirtual 70, 3) := by decide +kernel
theorem dX6_gatherLoud_33 : decode cX6_gatherLoud 33 = .ok (.if_icmp .ge 76, 3) := by decide +kernel
theorem dX6_gatherLoud_36 : decode cX6_gatherLoud 36 = .ok (.aload_n 0, 1) := by decide +kernel
theorem dX6_gatherLoud_37 : decode cX6_gatherLoud 37 = .ok (.getfield 16, 3) := by decide +kernel
theorem dX6_gatherLoud_40 : decode cX6_gatherLoud 40 = .ok (.iload_n 1, 1) := by decide +kernel
theorem dX6_gatherLoud_41 : decode cX6_gatherLoud 41 = .ok (.invokevirtual 180, 3) := by decide +kernel
theorem dX6_gatherLoud_44 : decode cX6_gatherLoud 44 = .ok (.checkcast 120, 3) := by decide +kernel
theorem dX6_gatherLoud_47 : decode cX6_gatherLoud 47 = .ok (.astore_n 2, 1) := by decide +kernel
theorem dX6_gatherLoud_48 : decode cX6_gatherLoud 48 = .ok (.iconst 0, 1) := by decide +kernel
theorem dX6_gatherLoud_49 : decode cX6_gatherLoud 49 = .ok (.istore_n 3, 1) := by decide +kernel
theorem dX6_gatherLoud_50 : decode cX6_gatherLoud 50 = .ok (.iload_n 3, 1) := by decide +kernel
theorem dX6_gatherLoud_51 : decode cX6_gatherLoud 51 = .ok (.bipush 12, 2) := by decide +kernel
theorem dX6_gatherLoud_53 : decode cX6_gatherLoud 53 = .ok (.if_icmp .ge 50, 3) := by decide +kernel
theorem dX6_gatherLoud_56 : decode cX6_gatherLoud 56 = .ok (.aload_n 0, 1) := by decide +kernel
theorem dX6_gatherLoud_57 : decode cX6_gatherLoud 57 = .ok (.aload_n 2, 1) := by decide +kernel
theorem dX6_gatherLoud_58 : decode cX6_gatherLoud 58 = .ok (.iload_n 3, 1) := by decide +kernel
theorem dX6_gatherLoud_59 : decode cX6_gatherLoud 59 = .ok (.invokevirtual 433, 3) := by decide +kernel
theorem dX6_gatherLoud_62 : decode cX6_gatherLoud 62 = .ok (.istore 4, 2) := by decide +kernel
theorem dX6_gatherLoud_64 : decode cX6_gatherLoud 64 = .ok (.iload 4, 2) := by decide +kernel
theorem dX6_gatherLoud_66 : decode cX6_gatherLoud 66 = .ok (.iconst 0, 1) := by decide +kernel
theorem dX6_gatherLoud_67 : decode cX6_gatherLoud 67 = .ok (.bipush 6, 2) := by decide +kernel
theorem dX6_gatherLoud_69 : decode cX6_gatherLoud 69 = .ok (.invokestatic 53, 3) := by decide +kernel
theorem dX6_gatherLoud_72 : decode cX6_gatherLoud 72 = .ok (.ifCond .ne 25, 3) := by decide +kernel
theorem dX6_gatherLoud_75 : decode cX6_gatherLoud 75 = .ok (.aload_n 0, 1) := by decide +kernel
theorem dX6_gatherLoud_76 : decode cX6_gatherLoud 76 = .ok (.aload_n 2, 1) := by decide +kernel
theorem dX6_gatherLoud_77 : decode cX6_gatherLoud 77 = .ok (.iload_n 3, 1) := by decide +kernel
theorem dX6_gatherLoud_78 : decode cX6_gatherLoud 78 = .ok (.iconst (-1), 1) := by decide +kernel
theorem dX6_gatherLoud_79 : decode cX6_gatherLoud 79 = .ok (.invokevirtual 239, 3) := by decide +kernel
theorem dX6_gatherLoud_82 : decode cX6_gatherLoud 82 = .ok (.ifCond .ne 15, 3) := by decide +kernel
theorem dX6_gatherLoud_85 : decode cX6_gatherLoud 85 = .ok (.aload_n 0, 1) := by decide +kernel
theorem dX6_gatherLoud_86 : decode cX6_gatherLoud 86 = .ok (.getfield 24, 3) := by decide +kernel
theorem dX6_gatherLoud_89 : decode cX6_gatherLoud 89 = .ok (.iload 4, 2) := by decide +kernel
theorem dX6_gatherLoud_91 : decode cX6_gatherLoud 91 = .ok (.aaload, 1) := by decide +kernel
theorem dX6_gatherLoud_92 : decode cX6_gatherLoud 92 = .ok (.iload_n 1, 1) := by decide +kernel
theorem dX6_gatherLoud_93 : decode cX6_gatherLoud 93 = .ok (.iload_n 3, 1) := by decide +kernel
theorem dX6_gatherLoud_94 : decode cX6_gatherLoud 94 = .ok (.invokevirtual 436, 3) := by decide +kernel
theorem dX6_gatherLoud_97 : decode cX6_gatherLoud 97 = .ok (.iinc 3 1, 3) := by decide +kernel
theorem dX6_gatherLoud_100 : decode cX6_gatherLoud 100 = .ok (.goto (-50), 3) := by decide +kernel
theorem dX6_gatherLoud_103 : decode cX6_gatherLoud 103 = .ok (.iinc 1 1, 3) := by decide +kernel
theorem dX6_gatherLoud_106 : decode cX6_gatherLoud 106 = .ok (.goto (-81), 3) := by decide +kernel
theorem dX6_gatherLoud_109 : decode cX6_gatherLoud 109 = .ok (.return_, 1) := by decide +kernel
theorem dX6_groupOf_0 : decode cX6_groupOf 0 = .ok (.aload_n 0, 1) := by decide +kernel
theorem dX6_groupOf_1 : decode cX6_groupOf 1 = .ok (.getfield 47, 3) := by decide +kernel
theorem dX6_groupOf_4 : decode cX6_groupOf 4 = .ok (.iconst 1, 1) := by decide +kernel
theorem dX6_groupOf_5 : decode cX6_groupOf 5 = .ok (.if_icmp .ne 8, 3) := by decide +kernel
theorem dX6_groupOf_8 : decode cX6_groupOf 8 = .ok (.aload_n 1, 1) := by decide +kernel
theorem dX6_groupOf_9 : decode cX6_groupOf 9 = .ok (.getfield 253, 3) := by decide +kernel
theorem dX6_groupOf_12 : decode cX6_groupOf 12 = .ok (.ireturn, 1) := by decide +kernel
theorem dX6_groupOf_13 : decode cX6_groupOf 13 = .ok (.aload_n 0, 1) := by decide +kernel
theorem dX6_groupOf_14 : decode cX6_groupOf 14 = .ok (.getfield 47, 3) := by decide +kernel
theorem dX6_groupOf_17 : decode cX6_groupOf 17 = .ok (.iconst 2, 1) := by decide +kernel
theorem dX6_groupOf_18 : decode cX6_groupOf 18 = .ok (.if_icmp .ne 22, 3) := by decide +kernel
theorem dX6_groupOf_21 : decode cX6_groupOf 21 = .ok (.aload_n 0, 1) := by decide +kernel
theorem dX6_groupOf_22 : decode cX6_groupOf 22 = .ok (.aload_n 1, 1) := by decide +kernel
theorem dX6_groupOf_23 : decode cX6_groupOf 23 = .ok (.iload_n 2, 1) := by decide +kernel
theorem dX6_groupOf_24 : decode cX6_groupOf 24 = .ok (.invokevirtual 256, 3) := by decide +kernel
theorem dX6_groupOf_27 : decode cX6_groupOf 27 = .ok (.istore_n 3, 1) := by decide +kernel
theorem dX6_groupOf_28 : decode cX6_groupOf 28 = .ok (.iload_n 3, 1) := by decide +kernel
theorem dX6_groupOf_29 : decode cX6_groupOf 29 = .ok (.iconst (-1), 1) := by decide +kernel
theorem dX6_groupOf_30 : decode cX6_groupOf 30 = .ok (.if_icmp .ne 8, 3) := by decide +kernel
theorem dX6_groupOf_33 : decode cX6_groupOf 33 = .ok (.bipush 6, 2) := by decide +kernel
theorem dX6_groupOf_35 : decode cX6_groupOf 35 = .ok (.goto 4, 3) := by decide +kernel
theorem dX6_groupOf_38 : decode cX6_groupOf 38 = .ok (.iload_n 3, 1) := by decide +kernel
theorem dX6_groupOf_39 : decode cX6_groupOf 39 = .ok (.ireturn, 1) := by decide +kernel
theorem dX6_groupOf_40 : decode cX6_groupOf 40 = .ok (.iconst 0, 1) := by decide +kernel
theorem dX6_groupOf_41 : decode cX6_groupOf 41 = .ok (.ireturn, 1) := by decide +kernel
theorem dX6_greatestRank_0 : decode cX6_greatestRank 0 = .ok (.iconst (-1), 1) := by decide +kernel
theorem dX6_greatestRank_1 : decode cX6_greatestRank 1 = .ok (.istore_n 2, 1) := by decide +kernel
theorem dX6_greatestRank_2 : decode cX6_greatestRank 2 = .ok (.iconst 0, 1) := by decide +kernel
theorem dX6_greatestRank_3 : decode cX6_greatestRank 3 = .ok (.istore_n 3, 1) := by decide +kernel
theorem dX6_greatestRank_4 : decode cX6_greatestRank 4 = .ok (.iload_n 3, 1) := by decide +kernel
theorem dX6_greatestRank_5 : decode cX6_greatestRank 5 = .ok (.aload_n 0, 1) := by decide +kernel
theorem dX6_greatestRank_6 : decode cX6_greatestRank 6 = .ok (.getfield 16, 3) := by decide +kernel
theorem dX6_greatestRank_9 : decode cX6_greatestRank 9 = .ok (.invokevirtual 70, 3) := by decide +kernel
theorem dX6_greatestRank_12 : decode cX6_greatestRank 12 = .ok (.if_icmp .ge 36, 3) := by decide +kernel
theorem dX6_greatestRank_15 : decode cX6_greatestRank 15 = .ok (.aload_n 1, 1) := by decide +kernel
theorem dX6_greatestRank_16 : decode cX6_greatestRank 16 = .ok (.iload_n 3, 1) := by decide +kernel
theorem dX6_greatestRank_17 : decode cX6_greatestRank 17 = .ok (.invokevirtual 440, 3) := by decide +kernel
theorem dX6_greatestRank_20 : decode cX6_greatestRank 20 = .ok (.ifCond .eq 22, 3) := by decide +kernel
theorem dX6_greatestRank_23 : decode cX6_greatestRank 23 = .ok (.iload_n 2, 1) := by decide +kernel
theorem dX6_greatestRank_24 : decode cX6_greatestRank 24 = .ok (.aload_n 0, 1) := by decide +kernel
theorem dX6_greatestRank_25 : decode cX6_greatestRank 25 = .ok (.getfield 16, 3) := by decide +kernel
theorem dX6_greatestRank_28 : decode cX6_greatestRank 28 = .ok (.iload_n 3, 1) := by decide +kernel
theorem dX6_greatestRank_29 : decode cX6_greatestRank 29 = .ok (.invokevirtual 180, 3) := by decide +kernel
theorem dX6_greatestRank_32 : decode cX6_greatestRank 32 = .ok (.checkcast 120, 3) := by decide +kernel
theorem dX6_greatestRank_35 : decode cX6_greatestRank 35 = .ok (.getfield 143, 3) := by decide +kernel
theorem dX6_greatestRank_38 : decode cX6_greatestRank 38 = .ok (.invokestatic 443, 3) := by decide +kernel
theorem dX6_greatestRank_41 : decode cX6_greatestRank 41 = .ok (.istore_n 2, 1) := by decide +kernel
theorem dX6_greatestRank_42 : decode cX6_greatestRank 42 = .ok (.iinc 3 1, 3) := by decide +kernel
theorem dX6_greatestRank_45 : decode cX6_greatestRank 45 = .ok (.goto (-41), 3) := by decide +kernel
theorem dX6_greatestRank_48 : decode cX6_greatestRank 48 = .ok (.iload_n 2, 1) := by decide +kernel
theorem dX6_greatestRank_49 : decode cX6_greatestRank 49 = .ok (.ireturn, 1) := by decide +kernel
theorem dJ6_bitCount_0f7a4_0 : decode cJ6_bitCount_0f7a4 0 = .ok (.iload_n 0, 1) := by decide +kernel
theorem dJ6_bitCount_0f7a4_1 : decode cJ6_bitCount_0f7a4 1 = .ok (.iload_n 0, 1) := by decide +kernel
theorem dJ6_bitCount_0f7a4_2 : decode cJ6_bitCount_0f7a4 2 = .ok (.iconst 1, 1) := by decide +kernel
theorem dJ6_bitCount_0f7a4_3 : decode cJ6_bitCount_0f7a4 3 = .ok (.iushr, 1) := by decide +kernel
theorem dJ6_bitCount_0f7a4_4 : decode cJ6_bitCount_0f7a4 4 = .ok (.ldc_w 265, 3) := by decide +kernel
theorem dJ6_bitCount_0f7a4_7 : decode cJ6_bitCount_0f7a4 7 = .ok (.iand, 1) := by decide +kernel
theorem dJ6_bitCount_0f7a4_8 : decode cJ6_bitCount_0f7a4 8 = .ok (.isub, 1) := by decide +kernel
theorem dJ6_bitCount_0f7a4_9 : decode cJ6_bitCount_0f7a4 9 = .ok (.istore_n 0, 1) := by decide +kernel
theorem dJ6_bitCount_0f7a4_10 : decode cJ6_bitCount_0f7a4 10 = .ok (.iload_n 0, 1) := by decide +kernel
theorem dJ6_bitCount_0f7a4_11 : decode cJ6_bitCount_0f7a4 11 = .ok (.ldc_w 266, 3) := by decide +kernel
theorem dJ6_bitCount_0f7a4_14 : decode cJ6_bitCount_0f7a4 14 = .ok (.iand, 1) := by decide +kernel
theorem dJ6_bitCount_0f7a4_15 : decode cJ6_bitCount_0f7a4 15 = .ok (.iload_n 0, 1) := by decide +kernel
theorem dJ6_bitCount_0f7a4_16 : decode cJ6_bitCount_0f7a4 16 = .ok (.iconst 2, 1) := by decide +kernel
theorem dJ6_bitCount_0f7a4_17 : decode cJ6_bitCount_0f7a4 17 = .ok (.iushr, 1) := by decide +kernel
theorem dJ6_bitCount_0f7a4_18 : decode cJ6_bitCount_0f7a4 18 = .ok (.ldc_w 266, 3) := by decide +kernel
theorem dJ6_bitCount_0f7a4_21 : decode cJ6_bitCount_0f7a4 21 = .ok (.iand, 1) := by decide +kernel
theorem dJ6_bitCount_0f7a4_22 : decode cJ6_bitCount_0f7a4 22 = .ok (.iadd, 1) := by decide +kernel
theorem dJ6_bitCount_0f7a4_23 : decode cJ6_bitCount_0f7a4 23 = .ok (.istore_n 0, 1) := by decide +kernel
theorem dJ6_bitCount_0f7a4_24 : decode cJ6_bitCount_0f7a4 24 = .ok (.iload_n 0, 1) := by decide +kernel
theorem dJ6_bitCount_0f7a4_25 : decode cJ6_bitCount_0f7a4 25 = .ok (.iload_n 0, 1) := by decide +kernel
theorem dJ6_bitCount_0f7a4_26 : decode cJ6_bitCount_0f7a4 26 = .ok (.iconst 4, 1) := by decide +kernel
theorem dJ6_bitCount_0f7a4_27 : decode cJ6_bitCount_0f7a4 27 = .ok (.iushr, 1) := by decide +kernel
theorem dJ6_bitCount_0f7a4_28 : decode cJ6_bitCount_0f7a4 28 = .ok (.iadd, 1) := by decide +kernel
theorem dJ6_bitCount_0f7a4_29 : decode cJ6_bitCount_0f7a4 29 = .ok (.ldc_w 267, 3) := by decide +kernel
theorem dJ6_bitCount_0f7a4_32 : decode cJ6_bitCount_0f7a4 32 = .ok (.iand, 1) := by decide +kernel
theorem dJ6_bitCount_0f7a4_33 : decode cJ6_bitCount_0f7a4 33 = .ok (.istore_n 0, 1) := by decide +kernel
theorem dJ6_bitCount_0f7a4_34 : decode cJ6_bitCount_0f7a4 34 = .ok (.iload_n 0, 1) := by decide +kernel
theorem dJ6_bitCount_0f7a4_35 : decode cJ6_bitCount_0f7a4 35 = .ok (.iload_n 0, 1) := by decide +kernel
theorem dJ6_bitCount_0f7a4_36 : decode cJ6_bitCount_0f7a4 36 = .ok (.bipush 8, 2) := by decide +kernel
theorem dJ6_bitCount_0f7a4_38 : decode cJ6_bitCount_0f7a4 38 = .ok (.iushr, 1) := by decide +kernel
theorem dJ6_bitCount_0f7a4_39 : decode cJ6_bitCount_0f7a4 39 = .ok (.iadd, 1) := by decide +kernel
theorem dJ6_bitCount_0f7a4_40 : decode cJ6_bitCount_0f7a4 40 = .ok (.istore_n 0, 1) := by decide +kernel
theorem dJ6_bitCount_0f7a4_41 : decode cJ6_bitCount_0f7a4 41 = .ok (.iload_n 0, 1) := by decide +kernel
theorem dJ6_bitCount_0f7a4_42 : decode cJ6_bitCount_0f7a4 42 = .ok (.iload_n 0, 1) := by decide +kernel
theorem dJ6_bitCount_0f7a4_43 : decode cJ6_bitCount_0f7a4 43 = .ok (.bipush 16, 2) := by decide +kernel
theorem dJ6_bitCount_0f7a4_45 : decode cJ6_bitCount_0f7a4 45 = .ok (.iushr, 1) := by decide +kernel
theorem dJ6_bitCount_0f7a4_46 : decode cJ6_bitCount_0f7a4 46 = .ok (.iadd, 1) := by decide +kernel
theorem dJ6_bitCount_0f7a4_47 : decode cJ6_bitCount_0f7a4 47 = .ok (.istore_n 0, 1) := by decide +kernel
theorem dJ6_bitCount_0f7a4_48 : decode cJ6_bitCount_0f7a4 48 = .ok (.iload_n 0, 1) := by decide +kernel
theorem dJ6_bitCount_0f7a4_49 : decode cJ6_bitCount_0f7a4 49 = .ok (.bipush 63, 2) := by decide +kernel
theorem dJ6_bitCount_0f7a4_51 : decode cJ6_bitCount_0f7a4 51 = .ok (.iand, 1) := by decide +kernel
theorem dJ6_bitCount_0f7a4_52 : decode cJ6_bitCount_0f7a4 52 = .ok (.ireturn, 1) := by decide +kernel
theorem dJ9_max_7cf53_0 : decode cJ9_max_7cf53 0 = .ok (.iload_n 0, 1) := by decide +kernel
theorem dJ9_max_7cf53_1 : decode cJ9_max_7cf53 1 = .ok (.iload_n 1, 1) := by decide +kernel
theorem dJ9_max_7cf53_2 : decode cJ9_max_7cf53 2 = .ok (.if_icmp .lt 7, 3) := by decide +kernel
theorem dJ9_max_7cf53_5 : decode cJ9_max_7cf53 5 = .ok (.iload_n 0, 1) := by decide +kernel
theorem dJ9_max_7cf53_6 : decode cJ9_max_7cf53 6 = .ok (.goto 4, 3) := by decide +kernel
theorem dJ9_max_7cf53_9 : decode cJ9_max_7cf53 9 = .ok (.iload_n 1, 1) := by decide +kernel
theorem dJ9_max_7cf53_10 : decode cJ9_max_7cf53 10 = .ok (.ireturn, 1) := by decide +kernel
theorem dJ9_min_7cf53_0 : decode cJ9_min_7cf53 0 = .ok (.iload_n 0, 1) := by decide +kernel
theorem dJ9_min_7cf53_1 : decode cJ9_min_7cf53 1 = .ok (.iload_n 1, 1) := by decide +kernel
theorem dJ9_min_7cf53_2 : decode cJ9_min_7cf53 2 = .ok (.if_icmp .gt 7, 3) := by decide +kernel
theorem dJ9_min_7cf53_5 : decode cJ9_min_7cf53 5 = .ok (.iload_n 0, 1) := by decide +kernel
theorem dJ9_min_7cf53_6 : decode cJ9_min_7cf53 6 = .ok (.goto 4, 3) := by decide +kernel
theorem dJ9_min_7cf53_9 : decode cJ9_min_7cf53 9 = .ok (.iload_n 1, 1) := by decide +kernel
theorem dJ9_min_7cf53_10 : decode cJ9_min_7cf53 10 = .ok (.ireturn, 1) := by decide +kernel
theorem dJxa1e45_init_da8c8_0 : decode cJxa1e45_init_da8c8 0 = .ok (.aload_n 0, 1) := by decide +kernel
theorem dJxa1e45_init_da8c8_1 : decode cJxa1e45_init_da8c8 1 = .ok (.invokespecial 1, 3) := by decide +kernel
theorem dJxa1e45_init_da8c8_4 : decode cJxa1e45_init_da8c8 4 = .ok (.return_, 1) := by decide +kernel
theorem dJxc12de_init_da8c8_0 : decode cJxc12de_init_da8c8 0 = .ok (.aload_n 0, 1) := by decide +kernel
theorem dJxc12de_init_da8c8_1 : decode cJxc12de_init_da8c8 1 = .ok (.invokespecial 1, 3) := by decide +kernel
theorem dJxc12de_init_da8c8_4 : decode cJxc12de_init_da8c8 4 = .ok (.aload_n 0, 1) := by decide +kernel
theorem dJxc12de_init_da8c8_5 : decode cJxc12de_init_da8c8 5 = .ok (.iconst 0, 1) := by decide +kernel
theorem dJxc12de_init_da8c8_6 : decode cJxc12de_init_da8c8 6 = .ok (.putfield 7, 3) := by decide +kernel
theorem dJxc12de_init_da8c8_9 : decode cJxc12de_init_da8c8 9 = .ok (.return_, 1) := by decide +kernel
theorem dJx4a65c_init_da8c8_0 : decode cJx4a65c_init_da8c8 0 = .ok (.aload_n 0, 1) := by decide +kernel
theorem dJx4a65c_init_da8c8_1 : decode cJx4a65c_init_da8c8 1 = .ok (.invokespecial 1, 3) := by decide +kernel
theorem dJx4a65c_init_da8c8_4 : decode cJx4a65c_init_da8c8 4 = .ok (.aload_n 0, 1) := by decide +kernel
theorem dJx4a65c_init_da8c8_5 : decode cJx4a65c_init_da8c8 5 = .ok (.getstatic 39, 3) := by decide +kernel
theorem dJx4a65c_init_da8c8_8 : decode cJx4a65c_init_da8c8 8 = .ok (.putfield 9, 3) := by decide +kernel
theorem dJx4a65c_init_da8c8_11 : decode cJx4a65c_init_da8c8 11 = .ok (.return_, 1) := by decide +kernel
theorem dJx4a65c_grow_92f84_0 : decode cJx4a65c_grow_92f84 0 = .ok (.aload_n 0, 1) := by decide +kernel
theorem dJx4a65c_grow_92f84_1 : decode cJx4a65c_grow_92f84 1 = .ok (.getfield 9, 3) := by decide +kernel
theorem dJx4a65c_grow_92f84_4 : decode cJx4a65c_grow_92f84 4 = .ok (.arraylength, 1) := by decide +kernel
theorem dJx4a65c_grow_92f84_5 : decode cJx4a65c_grow_92f84 5 = .ok (.istore_n 2, 1) := by decide +kernel
theorem dJx4a65c_grow_92f84_6 : decode cJx4a65c_grow_92f84 6 = .ok (.iload_n 2, 1) := by decide +kernel
theorem dJx4a65c_grow_92f84_7 : decode cJx4a65c_grow_92f84 7 = .ok (.ifCond .gt 13, 3) := by decide +kernel
theorem dJx4a65c_grow_92f84_10 : decode cJx4a65c_grow_92f84 10 = .ok (.aload_n 0, 1) := by decide +kernel
theorem dJx4a65c_grow_92f84_11 : decode cJx4a65c_grow_92f84 11 = .ok (.getfield 9, 3) := by decide +kernel
theorem dJx4a65c_grow_92f84_14 : decode cJx4a65c_grow_92f84 14 = .ok (.getstatic 39, 3) := by decide +kernel
theorem dJx4a65c_grow_92f84_17 : decode cJx4a65c_grow_92f84 17 = .ok (.if_acmp .eq 28, 3) := by decide +kernel
theorem dJx4a65c_grow_92f84_20 : decode cJx4a65c_grow_92f84 20 = .ok (.iload_n 2, 1) := by decide +kernel
theorem dJx4a65c_grow_92f84_21 : decode cJx4a65c_grow_92f84 21 = .ok (.iload_n 1, 1) := by decide +kernel
theorem dJx4a65c_grow_92f84_22 : decode cJx4a65c_grow_92f84 22 = .ok (.iload_n 2, 1) := by decide +kernel
theorem dJx4a65c_grow_92f84_23 : decode cJx4a65c_grow_92f84 23 = .ok (.isub, 1) := by decide +kernel
theorem dJx4a65c_grow_92f84_24 : decode cJx4a65c_grow_92f84 24 = .ok (.iload_n 2, 1) := by decide +kernel
theorem dJx4a65c_grow_92f84_25 : decode cJx4a65c_grow_92f84 25 = .ok (.iconst 1, 1) := by decide +kernel
theorem dJx4a65c_grow_92f84_26 : decode cJx4a65c_grow_92f84 26 = .ok (.ishr, 1) := by decide +kernel
theorem dJx4a65c_grow_92f84_27 : decode cJx4a65c_grow_92f84 27 = .ok (.invokestatic 73, 3) := by decide +kernel
theorem dJx4a65c_grow_92f84_30 : decode cJx4a65c_grow_92f84 30 = .ok (.istore_n 3, 1) := by decide +kernel
theorem dJx4a65c_grow_92f84_31 : decode cJx4a65c_grow_92f84 31 = .ok (.aload_n 0, 1) := by decide +kernel
theorem dJx4a65c_grow_92f84_32 : decode cJx4a65c_grow_92f84 32 = .ok (.aload_n 0, 1) := by decide +kernel
theorem dJx4a65c_grow_92f84_33 : decode cJx4a65c_grow_92f84 33 = .ok (.getfield 9, 3) := by decide +kernel
theorem dJx4a65c_grow_92f84_36 : decode cJx4a65c_grow_92f84 36 = .ok (.iload_n 3, 1) := by decide +kernel
theorem dJx4a65c_grow_92f84_37 : decode cJx4a65c_grow_92f84 37 = .ok (.invokestatic 66, 3) := by decide +kernel
theorem dJx4a65c_grow_92f84_40 : decode cJx4a65c_grow_92f84 40 = .ok (.dup_x1, 1) := by decide +kernel
theorem dJx4a65c_grow_92f84_41 : decode cJx4a65c_grow_92f84 41 = .ok (.putfield 9, 3) := by decide +kernel
theorem dJx4a65c_grow_92f84_44 : decode cJx4a65c_grow_92f84 44 = .ok (.areturn, 1) := by decide +kernel
theorem dJx4a65c_grow_92f84_45 : decode cJx4a65c_grow_92f84 45 = .ok (.aload_n 0, 1) := by decide +kernel
theorem dJx4a65c_grow_92f84_46 : decode cJx4a65c_grow_92f84 46 = .ok (.bipush 10, 2) := by decide +kernel
theorem dJx4a65c_grow_92f84_48 : decode cJx4a65c_grow_92f84 48 = .ok (.iload_n 1, 1) := by decide +kernel
theorem dJx4a65c_grow_92f84_49 : decode cJx4a65c_grow_92f84 49 = .ok (.invokestatic 79, 3) := by decide +kernel
theorem dJx4a65c_grow_92f84_52 : decode cJx4a65c_grow_92f84 52 = .ok (.anewarray 7, 3) := by decide +kernel
theorem dJx4a65c_grow_92f84_55 : decode cJx4a65c_grow_92f84 55 = .ok (.dup_x1, 1) := by decide +kernel
theorem dJx4a65c_grow_92f84_56 : decode cJx4a65c_grow_92f84 56 = .ok (.putfield 9, 3) := by decide +kernel
theorem dJx4a65c_grow_92f84_59 : decode cJx4a65c_grow_92f84 59 = .ok (.areturn, 1) := by decide +kernel
theorem dJx4a65c_grow_d5877_0 : decode cJx4a65c_grow_d5877 0 = .ok (.aload_n 0, 1) := by decide +kernel
theorem dJx4a65c_grow_d5877_1 : decode cJx4a65c_grow_d5877 1 = .ok (.aload_n 0, 1) := by decide +kernel
theorem dJx4a65c_grow_d5877_2 : decode cJx4a65c_grow_d5877 2 = .ok (.getfield 48, 3) := by decide +kernel
theorem dJx4a65c_grow_d5877_5 : decode cJx4a65c_grow_d5877 5 = .ok (.iconst 1, 1) := by decide +kernel
theorem dJx4a65c_grow_d5877_6 : decode cJx4a65c_grow_d5877 6 = .ok (.iadd, 1) := by decide +kernel
theorem dJx4a65c_grow_d5877_7 : decode cJx4a65c_grow_d5877 7 = .ok (.invokevirtual 69, 3) := by decide +kernel
theorem dJx4a65c_grow_d5877_10 : decode cJx4a65c_grow_d5877 10 = .ok (.areturn, 1) := by decide +kernel
theorem dJx4a65c_size_8abf5_0 : decode cJx4a65c_size_8abf5 0 = .ok (.aload_n 0, 1) := by decide +kernel
theorem dJx4a65c_size_8abf5_1 : decode cJx4a65c_size_8abf5 1 = .ok (.getfield 48, 3) := by decide +kernel
theorem dJx4a65c_size_8abf5_4 : decode cJx4a65c_size_8abf5 4 = .ok (.ireturn, 1) := by decide +kernel
theorem dJx4a65c_elementData_915e3_0 : decode cJx4a65c_elementData_915e3 0 = .ok (.aload_n 0, 1) := by decide +kernel
theorem dJx4a65c_elementData_915e3_1 : decode cJx4a65c_elementData_915e3 1 = .ok (.getfield 9, 3) := by decide +kernel
theorem dJx4a65c_elementData_915e3_4 : decode cJx4a65c_elementData_915e3 4 = .ok (.iload_n 1, 1) := by decide +kernel
theorem dJx4a65c_elementData_915e3_5 : decode cJx4a65c_elementData_915e3 5 = .ok (.aaload, 1) := by decide +kernel
theorem dJx4a65c_elementData_915e3_6 : decode cJx4a65c_elementData_915e3 6 = .ok (.areturn, 1) := by decide +kernel
theorem dJx4a65c_get_915e3_0 : decode cJx4a65c_get_915e3 0 = .ok (.iload_n 1, 1) := by decide +kernel
theorem dJx4a65c_get_915e3_1 : decode cJx4a65c_get_915e3 1 = .ok (.aload_n 0, 1) := by decide +kernel
theorem dJx4a65c_get_915e3_2 : decode cJx4a65c_get_915e3 2 = .ok (.getfield 48, 3) := by decide +kernel
theorem dJx4a65c_get_915e3_5 : decode cJx4a65c_get_915e3 5 = .ok (.invokestatic 118, 3) := by decide +kernel
theorem dJx4a65c_get_915e3_8 : decode cJx4a65c_get_915e3 8 = .ok (.pop, 1) := by decide +kernel
theorem dJx4a65c_get_915e3_9 : decode cJx4a65c_get_915e3 9 = .ok (.aload_n 0, 1) := by decide +kernel
theorem dJx4a65c_get_915e3_10 : decode cJx4a65c_get_915e3 10 = .ok (.iload_n 1, 1) := by decide +kernel
theorem dJx4a65c_get_915e3_11 : decode cJx4a65c_get_915e3 11 = .ok (.invokevirtual 123, 3) := by decide +kernel
theorem dJx4a65c_get_915e3_14 : decode cJx4a65c_get_915e3 14 = .ok (.areturn, 1) := by decide +kernel
theorem dJx4a65c_add_72be8_0 : decode cJx4a65c_add_72be8 0 = .ok (.iload_n 3, 1) := by decide +kernel
theorem dJx4a65c_add_72be8_1 : decode cJx4a65c_add_72be8 1 = .ok (.aload_n 2, 1) := by decide +kernel
theorem dJx4a65c_add_72be8_2 : decode cJx4a65c_add_72be8 2 = .ok (.arraylength, 1) := by decide +kernel
theorem dJx4a65c_add_72be8_3 : decode cJx4a65c_add_72be8 3 = .ok (.if_icmp .ne 8, 3) := by decide +kernel
theorem dJx4a65c_add_72be8_6 : decode cJx4a65c_add_72be8 6 = .ok (.aload_n 0, 1) := by decide +kernel
theorem dJx4a65c_add_72be8_7 : decode cJx4a65c_add_72be8 7 = .ok (.invokevirtual 129, 3) := by decide +kernel
theorem dJx4a65c_add_72be8_10 : decode cJx4a65c_add_72be8 10 = .ok (.astore_n 2, 1) := by decide +kernel
theorem dJx4a65c_add_72be8_11 : decode cJx4a65c_add_72be8 11 = .ok (.aload_n 2, 1) := by decide +kernel
theorem dJx4a65c_add_72be8_12 : decode cJx4a65c_add_72be8 12 = .ok (.iload_n 3, 1) := by decide +kernel
theorem dJx4a65c_add_72be8_13 : decode cJx4a65c_add_72be8 13 = .ok (.aload_n 1, 1) := by decide +kernel
theorem dJx4a65c_add_72be8_14 : decode cJx4a65c_add_72be8 14 = .ok (.aastore, 1) := by decide +kernel
theorem dJx4a65c_add_72be8_15 : decode cJx4a65c_add_72be8 15 = .ok (.aload_n 0, 1) := by decide +kernel
theorem dJx4a65c_add_72be8_16 : decode cJx4a65c_add_72be8 16 = .ok (.iload_n 3, 1) := by decide +kernel
theorem dJx4a65c_add_72be8_17 : decode cJx4a65c_add_72be8 17 = .ok (.iconst 1, 1) := by decide +kernel
theorem dJx4a65c_add_72be8_18 : decode cJx4a65c_add_72be8 18 = .ok (.iadd, 1) := by decide +kernel
theorem dJx4a65c_add_72be8_19 : decode cJx4a65c_add_72be8 19 = .ok (.putfield 48, 3) := by decide +kernel
theorem dJx4a65c_add_72be8_22 : decode cJx4a65c_add_72be8 22 = .ok (.return_, 1) := by decide +kernel
theorem dJx4a65c_add_9ea2d_0 : decode cJx4a65c_add_9ea2d 0 = .ok (.aload_n 0, 1) := by decide +kernel
theorem dJx4a65c_add_9ea2d_1 : decode cJx4a65c_add_9ea2d 1 = .ok (.dup, 1) := by decide +kernel
theorem dJx4a65c_add_9ea2d_2 : decode cJx4a65c_add_9ea2d 2 = .ok (.getfield 63, 3) := by decide +kernel
theorem dJx4a65c_add_9ea2d_5 : decode cJx4a65c_add_9ea2d 5 = .ok (.iconst 1, 1) := by decide +kernel
theorem dJx4a65c_add_9ea2d_6 : decode cJx4a65c_add_9ea2d 6 = .ok (.iadd, 1) := by decide +kernel
theorem dJx4a65c_add_9ea2d_7 : decode cJx4a65c_add_9ea2d 7 = .ok (.putfield 63, 3) := by decide +kernel
theorem dJx4a65c_add_9ea2d_10 : decode cJx4a65c_add_9ea2d 10 = .ok (.aload_n 0, 1) := by decide +kernel
theorem dJx4a65c_add_9ea2d_11 : decode cJx4a65c_add_9ea2d 11 = .ok (.aload_n 1, 1) := by decide +kernel
theorem dJx4a65c_add_9ea2d_12 : decode cJx4a65c_add_9ea2d 12 = .ok (.aload_n 0, 1) := by decide +kernel
theorem dJx4a65c_add_9ea2d_13 : decode cJx4a65c_add_9ea2d 13 = .ok (.getfield 9, 3) := by decide +kernel
theorem dJx4a65c_add_9ea2d_16 : decode cJx4a65c_add_9ea2d 16 = .ok (.aload_n 0, 1) := by decide +kernel
theorem dJx4a65c_add_9ea2d_17 : decode cJx4a65c_add_9ea2d 17 = .ok (.getfield 48, 3) := by decide +kernel
theorem dJx4a65c_add_9ea2d_20 : decode cJx4a65c_add_9ea2d 20 = .ok (.invokevirtual 131, 3) := by decide +kernel
theorem dJx4a65c_add_9ea2d_23 : decode cJx4a65c_add_9ea2d 23 = .ok (.iconst 1, 1) := by decide +kernel
theorem dJx4a65c_add_9ea2d_24 : decode cJx4a65c_add_9ea2d 24 = .ok (.ireturn, 1) := by decide +kernel
theorem dJx4a65c_remove_915e3_0 : decode cJx4a65c_remove_915e3 0 = .ok (.iload_n 1, 1) := by decide +kernel
theorem dJx4a65c_remove_915e3_1 : decode cJx4a65c_remove_915e3 1 = .ok (.aload_n 0, 1) := by decide +kernel
theorem dJx4a65c_remove_915e3_2 : decode cJx4a65c_remove_915e3 2 = .ok (.getfield 48, 3) := by decide +kernel
theorem dJx4a65c_remove_915e3_5 : decode cJx4a65c_remove_915e3 5 = .ok (.invokestatic 118, 3) := by decide +kernel
theorem dJx4a65c_remove_915e3_8 : decode cJx4a65c_remove_915e3 8 = .ok (.pop, 1) := by decide +kernel
theorem dJx4a65c_remove_915e3_9 : decode cJx4a65c_remove_915e3 9 = .ok (.aload_n 0, 1) := by decide +kernel
theorem dJx4a65c_remove_915e3_10 : decode cJx4a65c_remove_915e3 10 = .ok (.getfield 9, 3) := by decide +kernel
theorem dJx4a65c_remove_915e3_13 : decode cJx4a65c_remove_915e3 13 = .ok (.astore_n 2, 1) := by decide +kernel
theorem dJx4a65c_remove_915e3_14 : decode cJx4a65c_remove_915e3 14 = .ok (.aload_n 2, 1) := by decide +kernel
theorem dJx4a65c_remove_915e3_15 : decode cJx4a65c_remove_915e3 15 = .ok (.iload_n 1, 1) := by decide +kernel
theorem dJx4a65c_remove_915e3_16 : decode cJx4a65c_remove_915e3 16 = .ok (.aaload, 1) := by decide +kernel
theorem dJx4a65c_remove_915e3_17 : decode cJx4a65c_remove_915e3 17 = .ok (.astore_n 3, 1) := by decide +kernel
theorem dJx4a65c_remove_915e3_18 : decode cJx4a65c_remove_915e3 18 = .ok (.aload_n 0, 1) := by decide +kernel
theorem dJx4a65c_remove_915e3_19 : decode cJx4a65c_remove_915e3 19 = .ok (.aload_n 2, 1) := by decide +kernel
theorem dJx4a65c_remove_915e3_20 : decode cJx4a65c_remove_915e3 20 = .ok (.iload_n 1, 1) := by decide +kernel
theorem dJx4a65c_remove_915e3_21 : decode cJx4a65c_remove_915e3 21 = .ok (.invokevirtual 144, 3) := by decide +kernel
theorem dJx4a65c_remove_915e3_24 : decode cJx4a65c_remove_915e3 24 = .ok (.aload_n 3, 1) := by decide +kernel
theorem dJx4a65c_remove_915e3_25 : decode cJx4a65c_remove_915e3 25 = .ok (.areturn, 1) := by decide +kernel
theorem dJx4a65c_fastRemove_b59b0_0 : decode cJx4a65c_fastRemove_b59b0 0 = .ok (.aload_n 0, 1) := by decide +kernel
theorem dJx4a65c_fastRemove_b59b0_1 : decode cJx4a65c_fastRemove_b59b0 1 = .ok (.dup, 1) := by decide +kernel
theorem dJx4a65c_fastRemove_b59b0_2 : decode cJx4a65c_fastRemove_b59b0 2 = .ok (.getfield 63, 3) := by decide +kernel
theorem dJx4a65c_fastRemove_b59b0_5 : decode cJx4a65c_fastRemove_b59b0 5 = .ok (.iconst 1, 1) := by decide +kernel
theorem dJx4a65c_fastRemove_b59b0_6 : decode cJx4a65c_fastRemove_b59b0 6 = .ok (.iadd, 1) := by decide +kernel
theorem dJx4a65c_fastRemove_b59b0_7 : decode cJx4a65c_fastRemove_b59b0 7 = .ok (.putfield 63, 3) := by decide +kernel
theorem dJx4a65c_fastRemove_b59b0_10 : decode cJx4a65c_fastRemove_b59b0 10 = .ok (.aload_n 0, 1) := by decide +kernel
theorem dJx4a65c_fastRemove_b59b0_11 : decode cJx4a65c_fastRemove_b59b0 11 = .ok (.getfield 48, 3) := by decide +kernel
theorem dJx4a65c_fastRemove_b59b0_14 : decode cJx4a65c_fastRemove_b59b0 14 = .ok (.iconst 1, 1) := by decide +kernel
theorem dJx4a65c_fastRemove_b59b0_15 : decode cJx4a65c_fastRemove_b59b0 15 = .ok (.isub, 1) := by decide +kernel
theorem dJx4a65c_fastRemove_b59b0_16 : decode cJx4a65c_fastRemove_b59b0 16 = .ok (.dup, 1) := by decide +kernel
theorem dJx4a65c_fastRemove_b59b0_17 : decode cJx4a65c_fastRemove_b59b0 17 = .ok (.istore_n 3, 1) := by decide +kernel
theorem dJx4a65c_fastRemove_b59b0_18 : decode cJx4a65c_fastRemove_b59b0 18 = .ok (.iload_n 2, 1) := by decide +kernel
theorem dJx4a65c_fastRemove_b59b0_19 : decode cJx4a65c_fastRemove_b59b0 19 = .ok (.if_icmp .le 15, 3) := by decide +kernel
theorem dJx4a65c_fastRemove_b59b0_22 : decode cJx4a65c_fastRemove_b59b0 22 = .ok (.aload_n 1, 1) := by decide +kernel
theorem dJx4a65c_fastRemove_b59b0_23 : decode cJx4a65c_fastRemove_b59b0 23 = .ok (.iload_n 2, 1) := by decide +kernel
theorem dJx4a65c_fastRemove_b59b0_24 : decode cJx4a65c_fastRemove_b59b0 24 = .ok (.iconst 1, 1) := by decide +kernel
theorem dJx4a65c_fastRemove_b59b0_25 : decode cJx4a65c_fastRemove_b59b0 25 = .ok (.iadd, 1) := by decide +kernel
theorem dJx4a65c_fastRemove_b59b0_26 : decode cJx4a65c_fastRemove_b59b0 26 = .ok (.aload_n 1, 1) := by decide +kernel
theorem dJx4a65c_fastRemove_b59b0_27 : decode cJx4a65c_fastRemove_b59b0 27 = .ok (.iload_n 2, 1) := by decide +kernel
theorem dJx4a65c_fastRemove_b59b0_28 : decode cJx4a65c_fastRemove_b59b0 28 = .ok (.iload_n 3, 1) := by decide +kernel
theorem dJx4a65c_fastRemove_b59b0_29 : decode cJx4a65c_fastRemove_b59b0 29 = .ok (.iload_n 2, 1) := by decide +kernel
theorem dJx4a65c_fastRemove_b59b0_30 : decode cJx4a65c_fastRemove_b59b0 30 = .ok (.isub, 1) := by decide +kernel
theorem dJx4a65c_fastRemove_b59b0_31 : decode cJx4a65c_fastRemove_b59b0 31 = .ok (.invokestatic 112, 3) := by decide +kernel
theorem dJx4a65c_fastRemove_b59b0_34 : decode cJx4a65c_fastRemove_b59b0 34 = .ok (.aload_n 1, 1) := by decide +kernel
theorem dJx4a65c_fastRemove_b59b0_35 : decode cJx4a65c_fastRemove_b59b0 35 = .ok (.aload_n 0, 1) := by decide +kernel
theorem dJx4a65c_fastRemove_b59b0_36 : decode cJx4a65c_fastRemove_b59b0 36 = .ok (.iload_n 3, 1) := by decide +kernel
theorem dJx4a65c_fastRemove_b59b0_37 : decode cJx4a65c_fastRemove_b59b0 37 = .ok (.dup_x1, 1) := by decide +kernel
theorem dJx4a65c_fastRemove_b59b0_38 : decode cJx4a65c_fastRemove_b59b0 38 = .ok (.putfield 48, 3) := by decide +kernel
theorem dJx4a65c_fastRemove_b59b0_41 : decode cJx4a65c_fastRemove_b59b0 41 = .ok (.aconst_null, 1) := by decide +kernel
theorem dJx4a65c_fastRemove_b59b0_42 : decode cJx4a65c_fastRemove_b59b0 42 = .ok (.aastore, 1) := by decide +kernel
theorem dJx4a65c_fastRemove_b59b0_43 : decode cJx4a65c_fastRemove_b59b0 43 = .ok (.return_, 1) := by decide +kernel
theorem dJ7_copyOf_1904c_0 : decode cJ7_copyOf_1904c 0 = .ok (.aload_n 0, 1) := by decide +kernel
theorem dJ7_copyOf_1904c_1 : decode cJ7_copyOf_1904c 1 = .ok (.iload_n 1, 1) := by decide +kernel
theorem dJ7_copyOf_1904c_2 : decode cJ7_copyOf_1904c 2 = .ok (.aload_n 0, 1) := by decide +kernel
end
section
theorem dJ7_copyOf_1904c_3 : decode cJ7_copyOf_1904c 3 = .ok (.invokevirtual 86, 3) := by decide +kernel
theorem dJ7_copyOf_1904c_6 : decode cJ7_copyOf_1904c 6 = .ok (.invokestatic 300, 3) := by decide +kernel
theorem dJ7_copyOf_1904c_9 : decode cJ7_copyOf_1904c 9 = .ok (.areturn, 1) := by decide +kernel
theorem dJ7_copyOf_6403c_0 : decode cJ7_copyOf_6403c 0 = .ok (.aload_n 2, 1) := by decide +kernel
theorem dJ7_copyOf_6403c_1 : decode cJ7_copyOf_6403c 1 = .ok (.ldc 110, 2) := by decide +kernel
theorem dJ7_copyOf_6403c_3 : decode cJ7_copyOf_6403c 3 = .ok (.if_acmp .ne 10, 3) := by decide +kernel
theorem dJ7_copyOf_6403c_6 : decode cJ7_copyOf_6403c 6 = .ok (.iload_n 1, 1) := by decide +kernel
theorem dJ7_copyOf_6403c_7 : decode cJ7_copyOf_6403c 7 = .ok (.anewarray 2, 3) := by decide +kernel
theorem dJ7_copyOf_6403c_10 : decode cJ7_copyOf_6403c 10 = .ok (.goto 14, 3) := by decide +kernel
theorem dJ7_copyOf_6403c_13 : decode cJ7_copyOf_6403c 13 = .ok (.aload_n 2, 1) := by decide +kernel
theorem dJ7_copyOf_6403c_14 : decode cJ7_copyOf_6403c 14 = .ok (.invokevirtual 90, 3) := by decide +kernel
theorem dJ7_copyOf_6403c_17 : decode cJ7_copyOf_6403c 17 = .ok (.iload_n 1, 1) := by decide +kernel
theorem dJ7_copyOf_6403c_18 : decode cJ7_copyOf_6403c 18 = .ok (.invokestatic 95, 3) := by decide +kernel
theorem dJ7_copyOf_6403c_21 : decode cJ7_copyOf_6403c 21 = .ok (.checkcast 110, 3) := by decide +kernel
theorem dJ7_copyOf_6403c_24 : decode cJ7_copyOf_6403c 24 = .ok (.astore_n 3, 1) := by decide +kernel
theorem dJ7_copyOf_6403c_25 : decode cJ7_copyOf_6403c 25 = .ok (.aload_n 0, 1) := by decide +kernel
theorem dJ7_copyOf_6403c_26 : decode cJ7_copyOf_6403c 26 = .ok (.iconst 0, 1) := by decide +kernel
theorem dJ7_copyOf_6403c_27 : decode cJ7_copyOf_6403c 27 = .ok (.aload_n 3, 1) := by decide +kernel
theorem dJ7_copyOf_6403c_28 : decode cJ7_copyOf_6403c 28 = .ok (.iconst 0, 1) := by decide +kernel
theorem dJ7_copyOf_6403c_29 : decode cJ7_copyOf_6403c 29 = .ok (.aload_n 0, 1) := by decide +kernel
theorem dJ7_copyOf_6403c_30 : decode cJ7_copyOf_6403c 30 = .ok (.arraylength, 1) := by decide +kernel
theorem dJ7_copyOf_6403c_31 : decode cJ7_copyOf_6403c 31 = .ok (.iload_n 1, 1) := by decide +kernel
theorem dJ7_copyOf_6403c_32 : decode cJ7_copyOf_6403c 32 = .ok (.invokestatic 304, 3) := by decide +kernel
theorem dJ7_copyOf_6403c_35 : decode cJ7_copyOf_6403c 35 = .ok (.invokestatic 150, 3) := by decide +kernel
theorem dJ7_copyOf_6403c_38 : decode cJ7_copyOf_6403c 38 = .ok (.aload_n 3, 1) := by decide +kernel
theorem dJ7_copyOf_6403c_39 : decode cJ7_copyOf_6403c 39 = .ok (.areturn, 1) := by decide +kernel
theorem dJ15_checkIndex_7cf53_0 : decode cJ15_checkIndex_7cf53 0 = .ok (.iload_n 0, 1) := by decide +kernel
theorem dJ15_checkIndex_7cf53_1 : decode cJ15_checkIndex_7cf53 1 = .ok (.iload_n 1, 1) := by decide +kernel
theorem dJ15_checkIndex_7cf53_2 : decode cJ15_checkIndex_7cf53 2 = .ok (.aconst_null, 1) := by decide +kernel
theorem dJ15_checkIndex_7cf53_3 : decode cJ15_checkIndex_7cf53 3 = .ok (.invokestatic 105, 3) := by decide +kernel
theorem dJ15_checkIndex_7cf53_6 : decode cJ15_checkIndex_7cf53 6 = .ok (.ireturn, 1) := by decide +kernel
theorem dJ8_newLength_cabcc_0 : decode cJ8_newLength_cabcc 0 = .ok (.iload_n 0, 1) := by decide +kernel
theorem dJ8_newLength_cabcc_1 : decode cJ8_newLength_cabcc 1 = .ok (.iload_n 1, 1) := by decide +kernel
theorem dJ8_newLength_cabcc_2 : decode cJ8_newLength_cabcc 2 = .ok (.iload_n 2, 1) := by decide +kernel
theorem dJ8_newLength_cabcc_3 : decode cJ8_newLength_cabcc 3 = .ok (.invokestatic 194, 3) := by decide +kernel
theorem dJ8_newLength_cabcc_6 : decode cJ8_newLength_cabcc 6 = .ok (.iadd, 1) := by decide +kernel
theorem dJ8_newLength_cabcc_7 : decode cJ8_newLength_cabcc 7 = .ok (.istore_n 3, 1) := by decide +kernel
theorem dJ8_newLength_cabcc_8 : decode cJ8_newLength_cabcc 8 = .ok (.iconst 0, 1) := by decide +kernel
theorem dJ8_newLength_cabcc_9 : decode cJ8_newLength_cabcc 9 = .ok (.iload_n 3, 1) := by decide +kernel
theorem dJ8_newLength_cabcc_10 : decode cJ8_newLength_cabcc 10 = .ok (.if_icmp .ge 11, 3) := by decide +kernel
theorem dJ8_newLength_cabcc_13 : decode cJ8_newLength_cabcc 13 = .ok (.iload_n 3, 1) := by decide +kernel
theorem dJ8_newLength_cabcc_14 : decode cJ8_newLength_cabcc 14 = .ok (.ldc 200, 2) := by decide +kernel
theorem dJ8_newLength_cabcc_16 : decode cJ8_newLength_cabcc 16 = .ok (.if_icmp .gt 5, 3) := by decide +kernel
theorem dJ8_newLength_cabcc_19 : decode cJ8_newLength_cabcc 19 = .ok (.iload_n 3, 1) := by decide +kernel
theorem dJ8_newLength_cabcc_20 : decode cJ8_newLength_cabcc 20 = .ok (.ireturn, 1) := by decide +kernel
theorem dJ8_newLength_cabcc_21 : decode cJ8_newLength_cabcc 21 = .ok (.iload_n 0, 1) := by decide +kernel
theorem dJ8_newLength_cabcc_22 : decode cJ8_newLength_cabcc 22 = .ok (.iload_n 1, 1) := by decide +kernel
theorem dJ8_newLength_cabcc_23 : decode cJ8_newLength_cabcc 23 = .ok (.invokestatic 201, 3) := by decide +kernel
theorem dJ8_newLength_cabcc_26 : decode cJ8_newLength_cabcc 26 = .ok (.ireturn, 1) := by decide +kernel
theorem dJ8_hugeLength_7cf53_0 : decode cJ8_hugeLength_7cf53 0 = .ok (.iload_n 0, 1) := by decide +kernel
theorem dJ8_hugeLength_7cf53_1 : decode cJ8_hugeLength_7cf53 1 = .ok (.iload_n 1, 1) := by decide +kernel
theorem dJ8_hugeLength_7cf53_2 : decode cJ8_hugeLength_7cf53 2 = .ok (.iadd, 1) := by decide +kernel
theorem dJ8_hugeLength_7cf53_3 : decode cJ8_hugeLength_7cf53 3 = .ok (.istore_n 2, 1) := by decide +kernel
theorem dJ8_hugeLength_7cf53_4 : decode cJ8_hugeLength_7cf53 4 = .ok (.iload_n 2, 1) := by decide +kernel
theorem dJ8_hugeLength_7cf53_5 : decode cJ8_hugeLength_7cf53 5 = .ok (.ifCond .ge 44, 3) := by decide +kernel
theorem dJ8_hugeLength_7cf53_8 : decode cJ8_hugeLength_7cf53 8 = .ok (.new 204, 3) := by decide +kernel
theorem dJ8_hugeLength_7cf53_11 : decode cJ8_hugeLength_7cf53 11 = .ok (.dup, 1) := by decide +kernel
theorem dJ8_hugeLength_7cf53_12 : decode cJ8_hugeLength_7cf53 12 = .ok (.new 89, 3) := by decide +kernel
theorem dJ8_hugeLength_7cf53_15 : decode cJ8_hugeLength_7cf53 15 = .ok (.dup, 1) := by decide +kernel
theorem dJ8_hugeLength_7cf53_16 : decode cJ8_hugeLength_7cf53 16 = .ok (.invokespecial 91, 3) := by decide +kernel
theorem dJ8_hugeLength_7cf53_19 : decode cJ8_hugeLength_7cf53 19 = .ok (.ldc 206, 2) := by decide +kernel
theorem dJ8_hugeLength_7cf53_21 : decode cJ8_hugeLength_7cf53 21 = .ok (.invokevirtual 94, 3) := by decide +kernel
theorem dJ8_hugeLength_7cf53_24 : decode cJ8_hugeLength_7cf53 24 = .ok (.iload_n 0, 1) := by decide +kernel
theorem dJ8_hugeLength_7cf53_25 : decode cJ8_hugeLength_7cf53 25 = .ok (.invokevirtual 98, 3) := by decide +kernel
theorem dJ8_hugeLength_7cf53_28 : decode cJ8_hugeLength_7cf53 28 = .ok (.ldc 208, 2) := by decide +kernel
theorem dJ8_hugeLength_7cf53_30 : decode cJ8_hugeLength_7cf53 30 = .ok (.invokevirtual 94, 3) := by decide +kernel
theorem dJ8_hugeLength_7cf53_33 : decode cJ8_hugeLength_7cf53 33 = .ok (.iload_n 1, 1) := by decide +kernel
theorem dJ8_hugeLength_7cf53_34 : decode cJ8_hugeLength_7cf53 34 = .ok (.invokevirtual 98, 3) := by decide +kernel
theorem dJ8_hugeLength_7cf53_37 : decode cJ8_hugeLength_7cf53 37 = .ok (.ldc 210, 2) := by decide +kernel
theorem dJ8_hugeLength_7cf53_39 : decode cJ8_hugeLength_7cf53 39 = .ok (.invokevirtual 94, 3) := by decide +kernel
theorem dJ8_hugeLength_7cf53_42 : decode cJ8_hugeLength_7cf53 42 = .ok (.invokevirtual 101, 3) := by decide +kernel
theorem dJ8_hugeLength_7cf53_45 : decode cJ8_hugeLength_7cf53 45 = .ok (.invokespecial 212, 3) := by decide +kernel
theorem dJ8_hugeLength_7cf53_48 : decode cJ8_hugeLength_7cf53 48 = .ok (.athrow, 1) := by decide +kernel
theorem dJ8_hugeLength_7cf53_49 : decode cJ8_hugeLength_7cf53 49 = .ok (.iload_n 2, 1) := by decide +kernel
theorem dJ8_hugeLength_7cf53_50 : decode cJ8_hugeLength_7cf53 50 = .ok (.ldc 200, 2) := by decide +kernel
theorem dJ8_hugeLength_7cf53_52 : decode cJ8_hugeLength_7cf53 52 = .ok (.if_icmp .gt 6, 3) := by decide +kernel
theorem dJ8_hugeLength_7cf53_55 : decode cJ8_hugeLength_7cf53 55 = .ok (.ldc 200, 2) := by decide +kernel
theorem dJ8_hugeLength_7cf53_57 : decode cJ8_hugeLength_7cf53 57 = .ok (.ireturn, 1) := by decide +kernel
theorem dJ8_hugeLength_7cf53_58 : decode cJ8_hugeLength_7cf53 58 = .ok (.iload_n 2, 1) := by decide +kernel
theorem dJ8_hugeLength_7cf53_59 : decode cJ8_hugeLength_7cf53 59 = .ok (.ireturn, 1) := by decide +kernel
theorem dJ3_checkIndex_8e157_0 : decode cJ3_checkIndex_8e157 0 = .ok (.iload_n 0, 1) := by decide +kernel
theorem dJ3_checkIndex_8e157_1 : decode cJ3_checkIndex_8e157 1 = .ok (.ifCond .lt 8, 3) := by decide +kernel
theorem dJ3_checkIndex_8e157_4 : decode cJ3_checkIndex_8e157 4 = .ok (.iload_n 0, 1) := by decide +kernel
theorem dJ3_checkIndex_8e157_5 : decode cJ3_checkIndex_8e157 5 = .ok (.iload_n 1, 1) := by decide +kernel
theorem dJ3_checkIndex_8e157_6 : decode cJ3_checkIndex_8e157 6 = .ok (.if_icmp .lt 10, 3) := by decide +kernel
theorem dJ3_checkIndex_8e157_9 : decode cJ3_checkIndex_8e157 9 = .ok (.aload_n 2, 1) := by decide +kernel
theorem dJ3_checkIndex_8e157_10 : decode cJ3_checkIndex_8e157 10 = .ok (.iload_n 0, 1) := by decide +kernel
theorem dJ3_checkIndex_8e157_11 : decode cJ3_checkIndex_8e157 11 = .ok (.iload_n 1, 1) := by decide +kernel
theorem dJ3_checkIndex_8e157_12 : decode cJ3_checkIndex_8e157 12 = .ok (.invokestatic 95, 3) := by decide +kernel
theorem dJ3_checkIndex_8e157_15 : decode cJ3_checkIndex_8e157 15 = .ok (.athrow, 1) := by decide +kernel
theorem dJ3_checkIndex_8e157_16 : decode cJ3_checkIndex_8e157 16 = .ok (.iload_n 0, 1) := by decide +kernel
theorem dJ3_checkIndex_8e157_17 : decode cJ3_checkIndex_8e157 17 = .ok (.ireturn, 1) := by decide +kernel
theorem dL_below_0 : decode cL_below 0 = .ok (.iload_n 0, 1) := by decide +kernel
theorem dL_below_1 : decode cL_below 1 = .ok (.ldc 7, 2) := by decide +kernel
theorem dL_below_3 : decode cL_below 3 = .ok (.iand, 1) := by decide +kernel
theorem dL_below_4 : decode cL_below 4 = .ok (.iload_n 1, 1) := by decide +kernel
theorem dL_below_5 : decode cL_below 5 = .ok (.irem, 1) := by decide +kernel
theorem dL_below_6 : decode cL_below 6 = .ok (.ireturn, 1) := by decide +kernel
theorem dL_cell_0 : decode cL_cell 0 = .ok (.iload_n 1, 1) := by decide +kernel
theorem dL_cell_1 : decode cL_cell 1 = .ok (.aload_n 0, 1) := by decide +kernel
theorem dL_cell_2 : decode cL_cell 2 = .ok (.arraylength, 1) := by decide +kernel
theorem dL_cell_3 : decode cL_cell 3 = .ok (.if_icmp .ge 9, 3) := by decide +kernel
theorem dL_cell_6 : decode cL_cell 6 = .ok (.aload_n 0, 1) := by decide +kernel
theorem dL_cell_7 : decode cL_cell 7 = .ok (.iload_n 1, 1) := by decide +kernel
theorem dL_cell_8 : decode cL_cell 8 = .ok (.iaload, 1) := by decide +kernel
theorem dL_cell_9 : decode cL_cell 9 = .ok (.goto 9, 3) := by decide +kernel
theorem dL_cell_12 : decode cL_cell 12 = .ok (.ldc 8, 2) := by decide +kernel
theorem dL_cell_14 : decode cL_cell 14 = .ok (.iload_n 1, 1) := by decide +kernel
theorem dL_cell_15 : decode cL_cell 15 = .ok (.iconst 3, 1) := by decide +kernel
theorem dL_cell_16 : decode cL_cell 16 = .ok (.iadd, 1) := by decide +kernel
theorem dL_cell_17 : decode cL_cell 17 = .ok (.imul, 1) := by decide +kernel
theorem dL_cell_18 : decode cL_cell 18 = .ok (.ireturn, 1) := by decide +kernel
theorem dL_law_0 : decode cL_law 0 = .ok (.new 9, 3) := by decide +kernel
theorem dL_law_3 : decode cL_law 3 = .ok (.dup, 1) := by decide +kernel
theorem dL_law_4 : decode cL_law 4 = .ok (.invokespecial 11, 3) := by decide +kernel
theorem dL_law_7 : decode cL_law 7 = .ok (.astore_n 1, 1) := by decide +kernel
theorem dL_law_8 : decode cL_law 8 = .ok (.iconst 1, 1) := by decide +kernel
theorem dL_law_9 : decode cL_law 9 = .ok (.aload_n 0, 1) := by decide +kernel
theorem dL_law_10 : decode cL_law 10 = .ok (.iconst 0, 1) := by decide +kernel
theorem dL_law_11 : decode cL_law 11 = .ok (.invokestatic 12, 3) := by decide +kernel
theorem dL_law_14 : decode cL_law 14 = .ok (.bipush 6, 2) := by decide +kernel
theorem dL_law_16 : decode cL_law 16 = .ok (.invokestatic 18, 3) := by decide +kernel
theorem dL_law_19 : decode cL_law 19 = .ok (.iadd, 1) := by decide +kernel
theorem dL_law_20 : decode cL_law 20 = .ok (.istore_n 2, 1) := by decide +kernel
theorem dL_law_21 : decode cL_law 21 = .ok (.iconst 0, 1) := by decide +kernel
theorem dL_law_22 : decode cL_law 22 = .ok (.istore_n 3, 1) := by decide +kernel
theorem dL_law_23 : decode cL_law 23 = .ok (.iload_n 3, 1) := by decide +kernel
theorem dL_law_24 : decode cL_law 24 = .ok (.iload_n 2, 1) := by decide +kernel
theorem dL_law_25 : decode cL_law 25 = .ok (.if_icmp .ge 56, 3) := by decide +kernel
theorem dL_law_28 : decode cL_law 28 = .ok (.aload_n 1, 1) := by decide +kernel
theorem dL_law_29 : decode cL_law 29 = .ok (.aload_n 0, 1) := by decide +kernel
theorem dL_law_30 : decode cL_law 30 = .ok (.iconst 1, 1) := by decide +kernel
theorem dL_law_31 : decode cL_law 31 = .ok (.iload_n 3, 1) := by decide +kernel
theorem dL_law_32 : decode cL_law 32 = .ok (.iadd, 1) := by decide +kernel
theorem dL_law_33 : decode cL_law 33 = .ok (.invokestatic 12, 3) := by decide +kernel
theorem dL_law_36 : decode cL_law 36 = .ok (.iconst 3, 1) := by decide +kernel
theorem dL_law_37 : decode cL_law 37 = .ok (.invokestatic 18, 3) := by decide +kernel
theorem dL_law_40 : decode cL_law 40 = .ok (.aload_n 0, 1) := by decide +kernel
theorem dL_law_41 : decode cL_law 41 = .ok (.iconst 1, 1) := by decide +kernel
theorem dL_law_42 : decode cL_law 42 = .ok (.iload_n 3, 1) := by decide +kernel
theorem dL_law_43 : decode cL_law 43 = .ok (.iadd, 1) := by decide +kernel
theorem dL_law_44 : decode cL_law 44 = .ok (.invokestatic 12, 3) := by decide +kernel
theorem dL_law_47 : decode cL_law 47 = .ok (.iconst 2, 1) := by decide +kernel
theorem dL_law_48 : decode cL_law 48 = .ok (.ishr, 1) := by decide +kernel
theorem dL_law_49 : decode cL_law 49 = .ok (.iconst 2, 1) := by decide +kernel
theorem dL_law_50 : decode cL_law 50 = .ok (.invokestatic 18, 3) := by decide +kernel
theorem dL_law_53 : decode cL_law 53 = .ok (.aload_n 0, 1) := by decide +kernel
theorem dL_law_54 : decode cL_law 54 = .ok (.iconst 1, 1) := by decide +kernel
theorem dL_law_55 : decode cL_law 55 = .ok (.iload_n 3, 1) := by decide +kernel
theorem dL_law_56 : decode cL_law 56 = .ok (.iadd, 1) := by decide +kernel
theorem dL_law_57 : decode cL_law 57 = .ok (.invokestatic 12, 3) := by decide +kernel
theorem dL_law_60 : decode cL_law 60 = .ok (.iconst 3, 1) := by decide +kernel
theorem dL_law_61 : decode cL_law 61 = .ok (.ishr, 1) := by decide +kernel
theorem dL_law_62 : decode cL_law 62 = .ok (.iconst 3, 1) := by decide +kernel
theorem dL_law_63 : decode cL_law 63 = .ok (.invokestatic 18, 3) := by decide +kernel
theorem dL_law_66 : decode cL_law 66 = .ok (.invokevirtual 22, 3) := by decide +kernel
theorem dL_law_69 : decode cL_law 69 = .ok (.iload_n 3, 1) := by decide +kernel
theorem dL_law_70 : decode cL_law 70 = .ok (.if_icmp .eq 5, 3) := by decide +kernel
theorem dL_law_73 : decode cL_law 73 = .ok (.iconst 0, 1) := by decide +kernel
theorem dL_law_74 : decode cL_law 74 = .ok (.ireturn, 1) := by decide +kernel
theorem dL_law_75 : decode cL_law 75 = .ok (.iinc 3 1, 3) := by decide +kernel
theorem dL_law_78 : decode cL_law 78 = .ok (.goto (-55), 3) := by decide +kernel
theorem dL_law_81 : decode cL_law 81 = .ok (.iconst 1, 1) := by decide +kernel
theorem dL_law_82 : decode cL_law 82 = .ok (.aload_n 0, 1) := by decide +kernel
theorem dL_law_83 : decode cL_law 83 = .ok (.bipush 7, 2) := by decide +kernel
theorem dL_law_85 : decode cL_law 85 = .ok (.invokestatic 12, 3) := by decide +kernel
theorem dL_law_88 : decode cL_law 88 = .ok (.iconst 4, 1) := by decide +kernel
theorem dL_law_89 : decode cL_law 89 = .ok (.invokestatic 18, 3) := by decide +kernel
theorem dL_law_92 : decode cL_law 92 = .ok (.iadd, 1) := by decide +kernel
theorem dL_law_93 : decode cL_law 93 = .ok (.istore_n 3, 1) := by decide +kernel
theorem dL_law_94 : decode cL_law 94 = .ok (.iconst 0, 1) := by decide +kernel
theorem dL_law_95 : decode cL_law 95 = .ok (.istore 4, 2) := by decide +kernel
theorem dL_law_97 : decode cL_law 97 = .ok (.iload 4, 2) := by decide +kernel
theorem dL_law_99 : decode cL_law 99 = .ok (.iload_n 3, 1) := by decide +kernel
theorem dL_law_100 : decode cL_law 100 = .ok (.if_icmp .ge 132, 3) := by decide +kernel
theorem dL_law_103 : decode cL_law 103 = .ok (.aload_n 0, 1) := by decide +kernel
theorem dL_law_104 : decode cL_law 104 = .ok (.bipush 8, 2) := by decide +kernel
theorem dL_law_106 : decode cL_law 106 = .ok (.iload 4, 2) := by decide +kernel
theorem dL_law_108 : decode cL_law 108 = .ok (.iadd, 1) := by decide +kernel
theorem dL_law_109 : decode cL_law 109 = .ok (.invokestatic 12, 3) := by decide +kernel
theorem dL_law_112 : decode cL_law 112 = .ok (.istore 5, 2) := by decide +kernel
theorem dL_law_114 : decode cL_law 114 = .ok (.aload_n 1, 1) := by decide +kernel
theorem dL_law_115 : decode cL_law 115 = .ok (.iload 5, 2) := by decide +kernel
theorem dL_law_117 : decode cL_law 117 = .ok (.iconst 2, 1) := by decide +kernel
theorem dL_law_118 : decode cL_law 118 = .ok (.invokestatic 18, 3) := by decide +kernel
theorem dL_law_121 : decode cL_law 121 = .ok (.iload 5, 2) := by decide +kernel
theorem dL_law_123 : decode cL_law 123 = .ok (.iconst 1, 1) := by decide +kernel
theorem dL_law_124 : decode cL_law 124 = .ok (.ishr, 1) := by decide +kernel
theorem dL_law_125 : decode cL_law 125 = .ok (.bipush 9, 2) := by decide +kernel
theorem dL_law_127 : decode cL_law 127 = .ok (.invokestatic 18, 3) := by decide +kernel
theorem dL_law_130 : decode cL_law 130 = .ok (.iconst 1, 1) := by decide +kernel
theorem dL_law_131 : decode cL_law 131 = .ok (.iload 5, 2) := by decide +kernel
theorem dL_law_133 : decode cL_law 133 = .ok (.iconst 2, 1) := by decide +kernel
theorem dL_law_134 : decode cL_law 134 = .ok (.ishr, 1) := by decide +kernel
theorem dL_law_135 : decode cL_law 135 = .ok (.bipush 12, 2) := by decide +kernel
theorem dL_law_137 : decode cL_law 137 = .ok (.invokestatic 18, 3) := by decide +kernel
theorem dL_law_140 : decode cL_law 140 = .ok (.iadd, 1) := by decide +kernel
theorem dL_law_141 : decode cL_law 141 = .ok (.iload 5, 2) := by decide +kernel
theorem dL_law_143 : decode cL_law 143 = .ok (.iconst 4, 1) := by decide +kernel
theorem dL_law_144 : decode cL_law 144 = .ok (.ishr, 1) := by decide +kernel
theorem dL_law_145 : decode cL_law 145 = .ok (.iconst 3, 1) := by decide +kernel
theorem dL_law_146 : decode cL_law 146 = .ok (.invokestatic 18, 3) := by decide +kernel
theorem dL_law_149 : decode cL_law 149 = .ok (.iload 5, 2) := by decide +kernel
theorem dL_law_151 : decode cL_law 151 = .ok (.iconst 5, 1) := by decide +kernel
theorem dL_law_152 : decode cL_law 152 = .ok (.ishr, 1) := by decide +kernel
theorem dL_law_153 : decode cL_law 153 = .ok (.sipush 500, 3) := by decide +kernel
theorem dL_law_156 : decode cL_law 156 = .ok (.invokestatic 18, 3) := by decide +kernel
theorem dL_law_159 : decode cL_law 159 = .ok (.bipush 50, 2) := by decide +kernel
theorem dL_law_161 : decode cL_law 161 = .ok (.isub, 1) := by decide +kernel
theorem dL_law_162 : decode cL_law 162 = .ok (.iload 5, 2) := by decide +kernel
theorem dL_law_164 : decode cL_law 164 = .ok (.iconst 3, 1) := by decide +kernel
theorem dL_law_165 : decode cL_law 165 = .ok (.ishr, 1) := by decide +kernel
theorem dL_law_166 : decode cL_law 166 = .ok (.iconst 4, 1) := by decide +kernel
theorem dL_law_167 : decode cL_law 167 = .ok (.invokestatic 18, 3) := by decide +kernel
theorem dL_law_170 : decode cL_law 170 = .ok (.ifCond .le 7, 3) := by decide +kernel
theorem dL_law_173 : decode cL_law 173 = .ok (.iconst 1, 1) := by decide +kernel
theorem dL_law_174 : decode cL_law 174 = .ok (.goto 4, 3) := by decide +kernel
theorem dL_law_177 : decode cL_law 177 = .ok (.iconst 0, 1) := by decide +kernel
theorem dL_law_178 : decode cL_law 178 = .ok (.invokevirtual 26, 3) := by decide +kernel
theorem dL_law_181 : decode cL_law 181 = .ok (.iload 4, 2) := by decide +kernel
theorem dL_law_183 : decode cL_law 183 = .ok (.if_icmp .eq 5, 3) := by decide +kernel
theorem dL_law_186 : decode cL_law 186 = .ok (.iconst 0, 1) := by decide +kernel
theorem dL_law_187 : decode cL_law 187 = .ok (.ireturn, 1) := by decide +kernel
theorem dL_law_188 : decode cL_law 188 = .ok (.aload_n 1, 1) := by decide +kernel
theorem dL_law_189 : decode cL_law 189 = .ok (.iload 4, 2) := by decide +kernel
theorem dL_law_191 : decode cL_law 191 = .ok (.iload 5, 2) := by decide +kernel
theorem dL_law_193 : decode cL_law 193 = .ok (.iconst 5, 1) := by decide +kernel
theorem dL_law_194 : decode cL_law 194 = .ok (.ishr, 1) := by decide +kernel
theorem dL_law_195 : decode cL_law 195 = .ok (.sipush 500, 3) := by decide +kernel
theorem dL_law_198 : decode cL_law 198 = .ok (.invokestatic 18, 3) := by decide +kernel
theorem dL_law_201 : decode cL_law 201 = .ok (.bipush 50, 2) := by decide +kernel
theorem dL_law_203 : decode cL_law 203 = .ok (.isub, 1) := by decide +kernel
theorem dL_law_204 : decode cL_law 204 = .ok (.iload 5, 2) := by decide +kernel
theorem dL_law_206 : decode cL_law 206 = .ok (.bipush 6, 2) := by decide +kernel
theorem dL_law_208 : decode cL_law 208 = .ok (.ishr, 1) := by decide +kernel
theorem dL_law_209 : decode cL_law 209 = .ok (.iconst 4, 1) := by decide +kernel
theorem dL_law_210 : decode cL_law 210 = .ok (.invokestatic 18, 3) := by decide +kernel
theorem dL_law_213 : decode cL_law 213 = .ok (.iload 5, 2) := by decide +kernel
theorem dL_law_215 : decode cL_law 215 = .ok (.bipush 7, 2) := by decide +kernel
theorem dL_law_217 : decode cL_law 217 = .ok (.ishr, 1) := by decide +kernel
theorem dL_law_218 : decode cL_law 218 = .ok (.iconst 4, 1) := by decide +kernel
theorem dL_law_219 : decode cL_law 219 = .ok (.invokestatic 18, 3) := by decide +kernel
theorem dL_law_222 : decode cL_law 222 = .ok (.invokevirtual 30, 3) := by decide +kernel
theorem dL_law_225 : decode cL_law 225 = .ok (.pop, 1) := by decide +kernel
theorem dL_law_226 : decode cL_law 226 = .ok (.iinc 4 1, 3) := by decide +kernel
theorem dL_law_229 : decode cL_law 229 = .ok (.goto (-132), 3) := by decide +kernel
theorem dL_law_232 : decode cL_law 232 = .ok (.aload_n 1, 1) := by decide +kernel
theorem dL_law_233 : decode cL_law 233 = .ok (.aload_n 0, 1) := by decide +kernel
theorem dL_law_234 : decode cL_law 234 = .ok (.bipush 12, 2) := by decide +kernel
theorem dL_law_236 : decode cL_law 236 = .ok (.invokestatic 12, 3) := by decide +kernel
theorem dL_law_239 : decode cL_law 239 = .ok (.iconst 3, 1) := by decide +kernel
theorem dL_law_240 : decode cL_law 240 = .ok (.invokestatic 18, 3) := by decide +kernel
theorem dL_law_243 : decode cL_law 243 = .ok (.iconst 5, 1) := by decide +kernel
theorem dL_law_244 : decode cL_law 244 = .ok (.aload_n 0, 1) := by decide +kernel
theorem dL_law_245 : decode cL_law 245 = .ok (.bipush 12, 2) := by decide +kernel
theorem dL_law_247 : decode cL_law 247 = .ok (.invokestatic 12, 3) := by decide +kernel
theorem dL_law_250 : decode cL_law 250 = .ok (.iconst 2, 1) := by decide +kernel
theorem dL_law_251 : decode cL_law 251 = .ok (.ishr, 1) := by decide +kernel
theorem dL_law_252 : decode cL_law 252 = .ok (.bipush 10, 2) := by decide +kernel
theorem dL_law_254 : decode cL_law 254 = .ok (.invokestatic 18, 3) := by decide +kernel
theorem dL_law_257 : decode cL_law 257 = .ok (.iadd, 1) := by decide +kernel
theorem dL_law_258 : decode cL_law 258 = .ok (.invokevirtual 34, 3) := by decide +kernel
theorem dL_law_261 : decode cL_law 261 = .ok (.pop, 1) := by decide +kernel
theorem dL_law_262 : decode cL_law 262 = .ok (.iconst 0, 1) := by decide +kernel
theorem dL_law_263 : decode cL_law 263 = .ok (.istore 4, 2) := by decide +kernel
theorem dL_law_265 : decode cL_law 265 = .ok (.iconst 0, 1) := by decide +kernel
theorem dL_law_266 : decode cL_law 266 = .ok (.istore 5, 2) := by decide +kernel
theorem dL_law_268 : decode cL_law 268 = .ok (.iload 5, 2) := by decide +kernel
theorem dL_law_270 : decode cL_law 270 = .ok (.bipush 14, 2) := by decide +kernel
theorem dL_law_272 : decode cL_law 272 = .ok (.if_icmp .ge 941, 3) := by decide +kernel
theorem dL_law_275 : decode cL_law 275 = .ok (.aload_n 0, 1) := by decide +kernel
theorem dL_law_276 : decode cL_law 276 = .ok (.iload 5, 2) := by decide +kernel
theorem dL_law_278 : decode cL_law 278 = .ok (.invokestatic 12, 3) := by decide +kernel
theorem dL_law_281 : decode cL_law 281 = .ok (.iconst 3, 1) := by decide +kernel
theorem dL_law_282 : decode cL_law 282 = .ok (.iload 5, 2) := by decide +kernel
theorem dL_law_284 : decode cL_law 284 = .ok (.imul, 1) := by decide +kernel
theorem dL_law_285 : decode cL_law 285 = .ok (.iadd, 1) := by decide +kernel
theorem dL_law_286 : decode cL_law 286 = .ok (.istore 6, 2) := by decide +kernel
theorem dL_law_288 : decode cL_law 288 = .ok (.iload 6, 2) := by decide +kernel
theorem dL_law_290 : decode cL_law 290 = .ok (.iconst 1, 1) := by decide +kernel
theorem dL_law_291 : decode cL_law 291 = .ok (.ishr, 1) := by decide +kernel
theorem dL_law_292 : decode cL_law 292 = .ok (.iload_n 2, 1) := by decide +kernel
theorem dL_law_293 : decode cL_law 293 = .ok (.invokestatic 18, 3) := by decide +kernel
theorem dL_law_296 : decode cL_law 296 = .ok (.istore 7, 2) := by decide +kernel
theorem dL_law_298 : decode cL_law 298 = .ok (.aload_n 1, 1) := by decide +kernel
theorem dL_law_299 : decode cL_law 299 = .ok (.iload 7, 2) := by decide +kernel
theorem dL_law_301 : decode cL_law 301 = .ok (.iload 6, 2) := by decide +kernel
theorem dL_law_303 : decode cL_law 303 = .ok (.iconst 3, 1) := by decide +kernel
theorem dL_law_304 : decode cL_law 304 = .ok (.ishr, 1) := by decide +kernel
theorem dL_law_305 : decode cL_law 305 = .ok (.sipush 300, 3) := by decide +kernel
theorem dL_law_308 : decode cL_law 308 = .ok (.invokestatic 18, 3) := by decide +kernel
theorem dL_law_311 : decode cL_law 311 = .ok (.invokevirtual 37, 3) := by decide +kernel
theorem dL_law_314 : decode cL_law 314 = .ok (.pop, 1) := by decide +kernel
theorem dL_law_315 : decode cL_law 315 = .ok (.iload 6, 2) := by decide +kernel
theorem dL_law_317 : decode cL_law 317 = .ok (.bipush 7, 2) := by decide +kernel
theorem dL_law_319 : decode cL_law 319 = .ok (.invokestatic 18, 3) := by decide +kernel
theorem dL_law_322 : decode cL_law 322 = .ok (.ifCond .ne 10, 3) := by decide +kernel
theorem dL_law_325 : decode cL_law 325 = .ok (.aload_n 1, 1) := by decide +kernel
theorem dL_law_326 : decode cL_law 326 = .ok (.iload 7, 2) := by decide +kernel
theorem dL_law_328 : decode cL_law 328 = .ok (.invokevirtual 40, 3) := by decide +kernel
theorem dL_law_331 : decode cL_law 331 = .ok (.pop, 1) := by decide +kernel
theorem dL_law_332 : decode cL_law 332 = .ok (.iload 6, 2) := by decide +kernel
theorem dL_law_334 : decode cL_law 334 = .ok (.iconst 4, 1) := by decide +kernel
theorem dL_law_335 : decode cL_law 335 = .ok (.ishr, 1) := by decide +kernel
theorem dL_law_336 : decode cL_law 336 = .ok (.iconst 5, 1) := by decide +kernel
theorem dL_law_337 : decode cL_law 337 = .ok (.invokestatic 18, 3) := by decide +kernel
theorem dL_law_340 : decode cL_law 340 = .ok (.ifCond .ne 51, 3) := by decide +kernel
theorem dL_law_343 : decode cL_law 343 = .ok (.aload_n 1, 1) := by decide +kernel
theorem dL_law_344 : decode cL_law 344 = .ok (.iconst 2, 1) := by decide +kernel
theorem dL_law_345 : decode cL_law 345 = .ok (.invokevirtual 44, 3) := by decide +kernel
theorem dL_law_348 : decode cL_law 348 = .ok (.iconst 5, 1) := by decide +kernel
theorem dL_law_349 : decode cL_law 349 = .ok (.if_icmp .ge 42, 3) := by decide +kernel
theorem dL_law_352 : decode cL_law 352 = .ok (.aload_n 1, 1) := by decide +kernel
theorem dL_law_353 : decode cL_law 353 = .ok (.iload 6, 2) := by decide +kernel
theorem dL_law_355 : decode cL_law 355 = .ok (.iconst 5, 1) := by decide +kernel
theorem dL_law_356 : decode cL_law 356 = .ok (.ishr, 1) := by decide +kernel
theorem dL_law_357 : decode cL_law 357 = .ok (.iload_n 3, 1) := by decide +kernel
theorem dL_law_358 : decode cL_law 358 = .ok (.iconst 1, 1) := by decide +kernel
theorem dL_law_359 : decode cL_law 359 = .ok (.iadd, 1) := by decide +kernel
theorem dL_law_360 : decode cL_law 360 = .ok (.invokestatic 18, 3) := by decide +kernel
theorem dL_law_363 : decode cL_law 363 = .ok (.iconst 1, 1) := by decide +kernel
theorem dL_law_364 : decode cL_law 364 = .ok (.isub, 1) := by decide +kernel
theorem dL_law_365 : decode cL_law 365 = .ok (.iload 6, 2) := by decide +kernel
theorem dL_law_367 : decode cL_law 367 = .ok (.bipush 6, 2) := by decide +kernel
theorem dL_law_369 : decode cL_law 369 = .ok (.ishr, 1) := by decide +kernel
theorem dL_law_370 : decode cL_law 370 = .ok (.iconst 4, 1) := by decide +kernel
theorem dL_law_371 : decode cL_law 371 = .ok (.invokestatic 18, 3) := by decide +kernel
theorem dL_law_374 : decode cL_law 374 = .ok (.iconst 1, 1) := by decide +kernel
theorem dL_law_375 : decode cL_law 375 = .ok (.isub, 1) := by decide +kernel
theorem dL_law_376 : decode cL_law 376 = .ok (.iconst 1, 1) := by decide +kernel
theorem dL_law_377 : decode cL_law 377 = .ok (.iload 6, 2) := by decide +kernel
theorem dL_law_379 : decode cL_law 379 = .ok (.iconst 2, 1) := by decide +kernel
theorem dL_law_380 : decode cL_law 380 = .ok (.ishr, 1) := by decide +kernel
theorem dL_law_381 : decode cL_law 381 = .ok (.bipush 6, 2) := by decide +kernel
theorem dL_law_383 : decode cL_law 383 = .ok (.invokestatic 18, 3) := by decide +kernel
theorem dL_law_386 : decode cL_law 386 = .ok (.iadd, 1) := by decide +kernel
theorem dL_law_387 : decode cL_law 387 = .ok (.invokevirtual 47, 3) := by decide +kernel
theorem dL_law_390 : decode cL_law 390 = .ok (.pop, 1) := by decide +kernel
theorem dL_law_391 : decode cL_law 391 = .ok (.iconst 1, 1) := by decide +kernel
theorem dL_law_392 : decode cL_law 392 = .ok (.iload 6, 2) := by decide +kernel
theorem dL_law_394 : decode cL_law 394 = .ok (.iconst 5, 1) := by decide +kernel
theorem dL_law_395 : decode cL_law 395 = .ok (.ishr, 1) := by decide +kernel
theorem dL_law_396 : decode cL_law 396 = .ok (.iconst 4, 1) := by decide +kernel
theorem dL_law_397 : decode cL_law 397 = .ok (.invokestatic 18, 3) := by decide +kernel
theorem dL_law_400 : decode cL_law 400 = .ok (.iadd, 1) := by decide +kernel
theorem dL_law_401 : decode cL_law 401 = .ok (.istore 8, 2) := by decide +kernel
theorem dL_law_403 : decode cL_law 403 = .ok (.aload_n 1, 1) := by decide +kernel
theorem dL_law_404 : decode cL_law 404 = .ok (.iload 8, 2) := by decide +kernel
theorem dL_law_406 : decode cL_law 406 = .ok (.invokevirtual 50, 3) := by decide +kernel
theorem dL_law_409 : decode cL_law 409 = .ok (.istore 9, 2) := by decide +kernel
theorem dL_law_411 : decode cL_law 411 = .ok (.aload_n 1, 1) := by decide +kernel
theorem dL_law_412 : decode cL_law 412 = .ok (.iload 8, 2) := by decide +kernel
theorem dL_law_414 : decode cL_law 414 = .ok (.invokevirtual 53, 3) := by decide +kernel
theorem dL_law_417 : decode cL_law 417 = .ok (.istore 10, 2) := by decide +kernel
theorem dL_law_419 : decode cL_law 419 = .ok (.iload 4, 2) := by decide +kernel
theorem dL_law_421 : decode cL_law 421 = .ok (.iload 10, 2) := by decide +kernel
theorem dL_law_423 : decode cL_law 423 = .ok (.iadd, 1) := by decide +kernel
theorem dL_law_424 : decode cL_law 424 = .ok (.istore 4, 2) := by decide +kernel
theorem dL_law_426 : decode cL_law 426 = .ok (.aload_n 1, 1) := by decide +kernel
theorem dL_law_427 : decode cL_law 427 = .ok (.iconst 4, 1) := by decide +kernel
theorem dL_law_428 : decode cL_law 428 = .ok (.invokevirtual 44, 3) := by decide +kernel
theorem dL_law_431 : decode cL_law 431 = .ok (.iload 9, 2) := by decide +kernel
theorem dL_law_433 : decode cL_law 433 = .ok (.if_icmp .ne 55, 3) := by decide +kernel
theorem dL_law_436 : decode cL_law 436 = .ok (.iload 10, 2) := by decide +kernel
theorem dL_law_438 : decode cL_law 438 = .ok (.ifCond .lt 50, 3) := by decide +kernel
theorem dL_law_441 : decode cL_law 441 = .ok (.iload 10, 2) := by decide +kernel
theorem dL_law_443 : decode cL_law 443 = .ok (.bipush 7, 2) := by decide +kernel
theorem dL_law_445 : decode cL_law 445 = .ok (.iload 8, 2) := by decide +kernel
theorem dL_law_447 : decode cL_law 447 = .ok (.imul, 1) := by decide +kernel
theorem dL_law_448 : decode cL_law 448 = .ok (.if_icmp .gt 40, 3) := by decide +kernel
theorem dL_law_451 : decode cL_law 451 = .ok (.aload_n 1, 1) := by decide +kernel
theorem dL_law_452 : decode cL_law 452 = .ok (.bipush 6, 2) := by decide +kernel
theorem dL_law_454 : decode cL_law 454 = .ok (.invokevirtual 44, 3) := by decide +kernel
theorem dL_law_457 : decode cL_law 457 = .ok (.iload 4, 2) := by decide +kernel
theorem dL_law_459 : decode cL_law 459 = .ok (.if_icmp .ne 29, 3) := by decide +kernel
theorem dL_law_462 : decode cL_law 462 = .ok (.aload_n 1, 1) := by decide +kernel
theorem dL_law_463 : decode cL_law 463 = .ok (.iconst 5, 1) := by decide +kernel
theorem dL_law_464 : decode cL_law 464 = .ok (.invokevirtual 44, 3) := by decide +kernel
theorem dL_law_467 : decode cL_law 467 = .ok (.aload_n 1, 1) := by decide +kernel
theorem dL_law_468 : decode cL_law 468 = .ok (.iconst 4, 1) := by decide +kernel
theorem dL_law_469 : decode cL_law 469 = .ok (.invokevirtual 44, 3) := by decide +kernel
theorem dL_law_472 : decode cL_law 472 = .ok (.if_icmp .gt 16, 3) := by decide +kernel
theorem dL_law_475 : decode cL_law 475 = .ok (.aload_n 1, 1) := by decide +kernel
theorem dL_law_476 : decode cL_law 476 = .ok (.iconst 4, 1) := by decide +kernel
theorem dL_law_477 : decode cL_law 477 = .ok (.invokevirtual 44, 3) := by decide +kernel
theorem dL_law_480 : decode cL_law 480 = .ok (.aload_n 1, 1) := by decide +kernel
theorem dL_law_481 : decode cL_law 481 = .ok (.iconst 3, 1) := by decide +kernel
theorem dL_law_482 : decode cL_law 482 = .ok (.invokevirtual 44, 3) := by decide +kernel
theorem dL_law_485 : decode cL_law 485 = .ok (.if_icmp .le 5, 3) := by decide +kernel
theorem dL_law_488 : decode cL_law 488 = .ok (.iconst 0, 1) := by decide +kernel
theorem dL_law_489 : decode cL_law 489 = .ok (.ireturn, 1) := by decide +kernel
theorem dL_law_490 : decode cL_law 490 = .ok (.aload_n 1, 1) := by decide +kernel
theorem dL_law_491 : decode cL_law 491 = .ok (.invokevirtual 56, 3) := by decide +kernel
theorem dL_law_494 : decode cL_law 494 = .ok (.lstore 11, 2) := by decide +kernel
theorem dL_law_496 : decode cL_law 496 = .ok (.iconst 0, 1) := by decide +kernel
theorem dL_law_497 : decode cL_law 497 = .ok (.istore 13, 2) := by decide +kernel
theorem dL_law_499 : decode cL_law 499 = .ok (.iconst 0, 1) := by decide +kernel
theorem dL_law_500 : decode cL_law 500 = .ok (.istore 14, 2) := by decide +kernel
theorem dL_law_502 : decode cL_law 502 = .ok (.iconst 0, 1) := by decide +kernel
theorem dL_law_503 : decode cL_law 503 = .ok (.istore 15, 2) := by decide +kernel
theorem dL_law_505 : decode cL_law 505 = .ok (.iload 15, 2) := by decide +kernel
theorem dL_law_507 : decode cL_law 507 = .ok (.aload_n 1, 1) := by decide +kernel
theorem dL_law_508 : decode cL_law 508 = .ok (.iconst 3, 1) := by decide +kernel
theorem dL_law_509 : decode cL_law 509 = .ok (.invokevirtual 44, 3) := by decide +kernel
theorem dL_law_512 : decode cL_law 512 = .ok (.if_icmp .ge 184, 3) := by decide +kernel
theorem dL_law_515 : decode cL_law 515 = .ok (.aload_n 1, 1) := by decide +kernel
theorem dL_law_516 : decode cL_law 516 = .ok (.iload 15, 2) := by decide +kernel
theorem dL_law_518 : decode cL_law 518 = .ok (.iconst 0, 1) := by decide +kernel
theorem dL_law_519 : decode cL_law 519 = .ok (.invokevirtual 60, 3) := by decide +kernel
theorem dL_law_522 : decode cL_law 522 = .ok (.istore 16, 2) := by decide +kernel
theorem dL_law_524 : decode cL_law 524 = .ok (.aload_n 1, 1) := by decide +kernel
theorem dL_law_525 : decode cL_law 525 = .ok (.iload 15, 2) := by decide +kernel
theorem dL_law_527 : decode cL_law 527 = .ok (.iconst 1, 1) := by decide +kernel
theorem dL_law_528 : decode cL_law 528 = .ok (.invokevirtual 60, 3) := by decide +kernel
theorem dL_law_531 : decode cL_law 531 = .ok (.istore 17, 2) := by decide +kernel
theorem dL_law_533 : decode cL_law 533 = .ok (.aload_n 1, 1) := by decide +kernel
theorem dL_law_534 : decode cL_law 534 = .ok (.iload 16, 2) := by decide +kernel
theorem dL_law_536 : decode cL_law 536 = .ok (.iload 17, 2) := by decide +kernel
theorem dL_law_538 : decode cL_law 538 = .ok (.iconst 0, 1) := by decide +kernel
theorem dL_law_539 : decode cL_law 539 = .ok (.invokevirtual 63, 3) := by decide +kernel
theorem dL_law_542 : decode cL_law 542 = .ok (.istore 18, 2) := by decide +kernel
theorem dL_law_544 : decode cL_law 544 = .ok (.aload_n 1, 1) := by decide +kernel
theorem dL_law_545 : decode cL_law 545 = .ok (.iload 16, 2) := by decide +kernel
theorem dL_law_547 : decode cL_law 547 = .ok (.iload 17, 2) := by decide +kernel
theorem dL_law_549 : decode cL_law 549 = .ok (.iconst 1, 1) := by decide +kernel
theorem dL_law_550 : decode cL_law 550 = .ok (.invokevirtual 63, 3) := by decide +kernel
theorem dL_law_553 : decode cL_law 553 = .ok (.istore 19, 2) := by decide +kernel
theorem dL_law_555 : decode cL_law 555 = .ok (.iload 18, 2) := by decide +kernel
theorem dL_law_557 : decode cL_law 557 = .ok (.iconst 1, 1) := by decide +kernel
theorem dL_law_558 : decode cL_law 558 = .ok (.if_icmp .lt 71, 3) := by decide +kernel
theorem dL_law_561 : decode cL_law 561 = .ok (.iload 18, 2) := by decide +kernel
theorem dL_law_563 : decode cL_law 563 = .ok (.iconst 2, 1) := by decide +kernel
theorem dL_law_564 : decode cL_law 564 = .ok (.if_icmp .gt 65, 3) := by decide +kernel
theorem dL_law_567 : decode cL_law 567 = .ok (.iload 19, 2) := by decide +kernel
theorem dL_law_569 : decode cL_law 569 = .ok (.iconst 1, 1) := by decide +kernel
theorem dL_law_570 : decode cL_law 570 = .ok (.if_icmp .lt 59, 3) := by decide +kernel
theorem dL_law_573 : decode cL_law 573 = .ok (.iload 19, 2) := by decide +kernel
theorem dL_law_575 : decode cL_law 575 = .ok (.aload_n 1, 1) := by decide +kernel
theorem dL_law_576 : decode cL_law 576 = .ok (.invokevirtual 66, 3) := by decide +kernel
theorem dL_law_579 : decode cL_law 579 = .ok (.if_icmp .gt 50, 3) := by decide +kernel
theorem dL_law_582 : decode cL_law 582 = .ok (.iload 15, 2) := by decide +kernel
theorem dL_law_584 : decode cL_law 584 = .ok (.ifCond .le 47, 3) := by decide +kernel
theorem dL_law_587 : decode cL_law 587 = .ok (.aload_n 1, 1) := by decide +kernel
theorem dL_law_588 : decode cL_law 588 = .ok (.iload 15, 2) := by decide +kernel
theorem dL_law_590 : decode cL_law 590 = .ok (.iconst 1, 1) := by decide +kernel
theorem dL_law_591 : decode cL_law 591 = .ok (.isub, 1) := by decide +kernel
theorem dL_law_592 : decode cL_law 592 = .ok (.iconst 0, 1) := by decide +kernel
theorem dL_law_593 : decode cL_law 593 = .ok (.invokevirtual 60, 3) := by decide +kernel
theorem dL_law_596 : decode cL_law 596 = .ok (.iload 16, 2) := by decide +kernel
theorem dL_law_598 : decode cL_law 598 = .ok (.if_icmp .gt 31, 3) := by decide +kernel
theorem dL_law_601 : decode cL_law 601 = .ok (.aload_n 1, 1) := by decide +kernel
theorem dL_law_602 : decode cL_law 602 = .ok (.iload 15, 2) := by decide +kernel
theorem dL_law_604 : decode cL_law 604 = .ok (.iconst 1, 1) := by decide +kernel
theorem dL_law_605 : decode cL_law 605 = .ok (.isub, 1) := by decide +kernel
theorem dL_law_606 : decode cL_law 606 = .ok (.iconst 0, 1) := by decide +kernel
theorem dL_law_607 : decode cL_law 607 = .ok (.invokevirtual 60, 3) := by decide +kernel
theorem dL_law_610 : decode cL_law 610 = .ok (.iload 16, 2) := by decide +kernel
theorem dL_law_612 : decode cL_law 612 = .ok (.if_icmp .ne 19, 3) := by decide +kernel
theorem dL_law_615 : decode cL_law 615 = .ok (.aload_n 1, 1) := by decide +kernel
theorem dL_law_616 : decode cL_law 616 = .ok (.iload 15, 2) := by decide +kernel
theorem dL_law_618 : decode cL_law 618 = .ok (.iconst 1, 1) := by decide +kernel
theorem dL_law_619 : decode cL_law 619 = .ok (.isub, 1) := by decide +kernel
theorem dL_law_620 : decode cL_law 620 = .ok (.iconst 1, 1) := by decide +kernel
theorem dL_law_621 : decode cL_law 621 = .ok (.invokevirtual 60, 3) := by decide +kernel
theorem dL_law_624 : decode cL_law 624 = .ok (.iload 17, 2) := by decide +kernel
theorem dL_law_626 : decode cL_law 626 = .ok (.if_icmp .lt 5, 3) := by decide +kernel
theorem dL_law_629 : decode cL_law 629 = .ok (.iconst 0, 1) := by decide +kernel
theorem dL_law_630 : decode cL_law 630 = .ok (.ireturn, 1) := by decide +kernel
theorem dL_law_631 : decode cL_law 631 = .ok (.iload 14, 2) := by decide +kernel
theorem dL_law_633 : decode cL_law 633 = .ok (.iload 18, 2) := by decide +kernel
theorem dL_law_635 : decode cL_law 635 = .ok (.iconst 2, 1) := by decide +kernel
theorem dL_law_636 : decode cL_law 636 = .ok (.if_icmp .ne 7, 3) := by decide +kernel
theorem dL_law_639 : decode cL_law 639 = .ok (.iconst 1, 1) := by decide +kernel
theorem dL_law_640 : decode cL_law 640 = .ok (.goto 4, 3) := by decide +kernel
theorem dL_law_643 : decode cL_law 643 = .ok (.iconst 0, 1) := by decide +kernel
theorem dL_law_644 : decode cL_law 644 = .ok (.iadd, 1) := by decide +kernel
theorem dL_law_645 : decode cL_law 645 = .ok (.istore 14, 2) := by decide +kernel
theorem dL_law_647 : decode cL_law 647 = .ok (.iload 13, 2) := by decide +kernel
theorem dL_law_649 : decode cL_law 649 = .ok (.aload_n 1, 1) := by decide +kernel
theorem dL_law_650 : decode cL_law 650 = .ok (.iload 16, 2) := by decide +kernel
end
section
theorem dL_law_652 : decode cL_law 652 = .ok (.iload 17, 2) := by decide +kernel
theorem dL_law_654 : decode cL_law 654 = .ok (.iconst 2, 1) := by decide +kernel
theorem dL_law_655 : decode cL_law 655 = .ok (.invokevirtual 63, 3) := by decide +kernel
theorem dL_law_658 : decode cL_law 658 = .ok (.ifCond .ne 7, 3) := by decide +kernel
theorem dL_law_661 : decode cL_law 661 = .ok (.iconst 1, 1) := by decide +kernel
theorem dL_law_662 : decode cL_law 662 = .ok (.goto 4, 3) := by decide +kernel
theorem dL_law_665 : decode cL_law 665 = .ok (.iconst 0, 1) := by decide +kernel
theorem dL_law_666 : decode cL_law 666 = .ok (.iadd, 1) := by decide +kernel
theorem dL_law_667 : decode cL_law 667 = .ok (.istore 13, 2) := by decide +kernel
theorem dL_law_669 : decode cL_law 669 = .ok (.iload 18, 2) := by decide +kernel
theorem dL_law_671 : decode cL_law 671 = .ok (.iconst 1, 1) := by decide +kernel
theorem dL_law_672 : decode cL_law 672 = .ok (.if_icmp .ne 18, 3) := by decide +kernel
theorem dL_law_675 : decode cL_law 675 = .ok (.aload_n 1, 1) := by decide +kernel
theorem dL_law_676 : decode cL_law 676 = .ok (.iload 16, 2) := by decide +kernel
theorem dL_law_678 : decode cL_law 678 = .ok (.iload 17, 2) := by decide +kernel
theorem dL_law_680 : decode cL_law 680 = .ok (.iconst 2, 1) := by decide +kernel
theorem dL_law_681 : decode cL_law 681 = .ok (.invokevirtual 63, 3) := by decide +kernel
theorem dL_law_684 : decode cL_law 684 = .ok (.iconst 1, 1) := by decide +kernel
theorem dL_law_685 : decode cL_law 685 = .ok (.if_icmp .eq 5, 3) := by decide +kernel
theorem dL_law_688 : decode cL_law 688 = .ok (.iconst 0, 1) := by decide +kernel
theorem dL_law_689 : decode cL_law 689 = .ok (.ireturn, 1) := by decide +kernel
theorem dL_law_690 : decode cL_law 690 = .ok (.iinc 15 1, 3) := by decide +kernel
theorem dL_law_693 : decode cL_law 693 = .ok (.goto (-188), 3) := by decide +kernel
theorem dL_law_696 : decode cL_law 696 = .ok (.iload 13, 2) := by decide +kernel
theorem dL_law_698 : decode cL_law 698 = .ok (.aload_n 1, 1) := by decide +kernel
theorem dL_law_699 : decode cL_law 699 = .ok (.iconst 5, 1) := by decide +kernel
theorem dL_law_700 : decode cL_law 700 = .ok (.invokevirtual 44, 3) := by decide +kernel
theorem dL_law_703 : decode cL_law 703 = .ok (.if_icmp .ne 13, 3) := by decide +kernel
theorem dL_law_706 : decode cL_law 706 = .ok (.iload 14, 2) := by decide +kernel
theorem dL_law_708 : decode cL_law 708 = .ok (.aload_n 1, 1) := by decide +kernel
theorem dL_law_709 : decode cL_law 709 = .ok (.iconst 4, 1) := by decide +kernel
theorem dL_law_710 : decode cL_law 710 = .ok (.invokevirtual 44, 3) := by decide +kernel
theorem dL_law_713 : decode cL_law 713 = .ok (.if_icmp .eq 5, 3) := by decide +kernel
theorem dL_law_716 : decode cL_law 716 = .ok (.iconst 0, 1) := by decide +kernel
theorem dL_law_717 : decode cL_law 717 = .ok (.ireturn, 1) := by decide +kernel
theorem dL_law_718 : decode cL_law 718 = .ok (.iconst 0, 1) := by decide +kernel
theorem dL_law_719 : decode cL_law 719 = .ok (.istore 15, 2) := by decide +kernel
theorem dL_law_721 : decode cL_law 721 = .ok (.iload 15, 2) := by decide +kernel
theorem dL_law_723 : decode cL_law 723 = .ok (.iload_n 2, 1) := by decide +kernel
theorem dL_law_724 : decode cL_law 724 = .ok (.if_icmp .ge 236, 3) := by decide +kernel
theorem dL_law_727 : decode cL_law 727 = .ok (.iconst 1, 1) := by decide +kernel
theorem dL_law_728 : decode cL_law 728 = .ok (.istore 16, 2) := by decide +kernel
theorem dL_law_730 : decode cL_law 730 = .ok (.iload 16, 2) := by decide +kernel
theorem dL_law_732 : decode cL_law 732 = .ok (.bipush 13, 2) := by decide +kernel
theorem dL_law_734 : decode cL_law 734 = .ok (.if_icmp .ge 158, 3) := by decide +kernel
theorem dL_law_737 : decode cL_law 737 = .ok (.aload_n 1, 1) := by decide +kernel
theorem dL_law_738 : decode cL_law 738 = .ok (.iload 15, 2) := by decide +kernel
theorem dL_law_740 : decode cL_law 740 = .ok (.iconst 4, 1) := by decide +kernel
theorem dL_law_741 : decode cL_law 741 = .ok (.iload 16, 2) := by decide +kernel
theorem dL_law_743 : decode cL_law 743 = .ok (.invokevirtual 70, 3) := by decide +kernel
theorem dL_law_746 : decode cL_law 746 = .ok (.aload_n 1, 1) := by decide +kernel
theorem dL_law_747 : decode cL_law 747 = .ok (.iload 15, 2) := by decide +kernel
theorem dL_law_749 : decode cL_law 749 = .ok (.iconst 3, 1) := by decide +kernel
theorem dL_law_750 : decode cL_law 750 = .ok (.iload 16, 2) := by decide +kernel
theorem dL_law_752 : decode cL_law 752 = .ok (.invokevirtual 70, 3) := by decide +kernel
theorem dL_law_755 : decode cL_law 755 = .ok (.if_icmp .gt 129, 3) := by decide +kernel
theorem dL_law_758 : decode cL_law 758 = .ok (.aload_n 1, 1) := by decide +kernel
theorem dL_law_759 : decode cL_law 759 = .ok (.iload 15, 2) := by decide +kernel
theorem dL_law_761 : decode cL_law 761 = .ok (.iconst 2, 1) := by decide +kernel
theorem dL_law_762 : decode cL_law 762 = .ok (.iload 16, 2) := by decide +kernel
theorem dL_law_764 : decode cL_law 764 = .ok (.invokevirtual 70, 3) := by decide +kernel
theorem dL_law_767 : decode cL_law 767 = .ok (.aload_n 1, 1) := by decide +kernel
theorem dL_law_768 : decode cL_law 768 = .ok (.iload 15, 2) := by decide +kernel
theorem dL_law_770 : decode cL_law 770 = .ok (.iconst 4, 1) := by decide +kernel
theorem dL_law_771 : decode cL_law 771 = .ok (.iload 16, 2) := by decide +kernel
theorem dL_law_773 : decode cL_law 773 = .ok (.invokevirtual 70, 3) := by decide +kernel
theorem dL_law_776 : decode cL_law 776 = .ok (.if_icmp .lt 108, 3) := by decide +kernel
theorem dL_law_779 : decode cL_law 779 = .ok (.aload_n 1, 1) := by decide +kernel
theorem dL_law_780 : decode cL_law 780 = .ok (.iload 15, 2) := by decide +kernel
theorem dL_law_782 : decode cL_law 782 = .ok (.iconst 2, 1) := by decide +kernel
theorem dL_law_783 : decode cL_law 783 = .ok (.iload 16, 2) := by decide +kernel
theorem dL_law_785 : decode cL_law 785 = .ok (.invokevirtual 70, 3) := by decide +kernel
theorem dL_law_788 : decode cL_law 788 = .ok (.aload_n 1, 1) := by decide +kernel
theorem dL_law_789 : decode cL_law 789 = .ok (.iload 15, 2) := by decide +kernel
theorem dL_law_791 : decode cL_law 791 = .ok (.iconst 3, 1) := by decide +kernel
theorem dL_law_792 : decode cL_law 792 = .ok (.iload 16, 2) := by decide +kernel
theorem dL_law_794 : decode cL_law 794 = .ok (.invokevirtual 70, 3) := by decide +kernel
theorem dL_law_797 : decode cL_law 797 = .ok (.if_icmp .gt 87, 3) := by decide +kernel
theorem dL_law_800 : decode cL_law 800 = .ok (.aload_n 1, 1) := by decide +kernel
theorem dL_law_801 : decode cL_law 801 = .ok (.iload 15, 2) := by decide +kernel
theorem dL_law_803 : decode cL_law 803 = .ok (.iconst 5, 1) := by decide +kernel
theorem dL_law_804 : decode cL_law 804 = .ok (.iload 16, 2) := by decide +kernel
theorem dL_law_806 : decode cL_law 806 = .ok (.invokevirtual 70, 3) := by decide +kernel
theorem dL_law_809 : decode cL_law 809 = .ok (.aload_n 1, 1) := by decide +kernel
theorem dL_law_810 : decode cL_law 810 = .ok (.iload 15, 2) := by decide +kernel
theorem dL_law_812 : decode cL_law 812 = .ok (.bipush 6, 2) := by decide +kernel
theorem dL_law_814 : decode cL_law 814 = .ok (.iload 16, 2) := by decide +kernel
theorem dL_law_816 : decode cL_law 816 = .ok (.invokevirtual 70, 3) := by decide +kernel
theorem dL_law_819 : decode cL_law 819 = .ok (.if_icmp .gt 65, 3) := by decide +kernel
theorem dL_law_822 : decode cL_law 822 = .ok (.aload_n 1, 1) := by decide +kernel
theorem dL_law_823 : decode cL_law 823 = .ok (.iload 15, 2) := by decide +kernel
theorem dL_law_825 : decode cL_law 825 = .ok (.bipush 6, 2) := by decide +kernel
theorem dL_law_827 : decode cL_law 827 = .ok (.iload 16, 2) := by decide +kernel
theorem dL_law_829 : decode cL_law 829 = .ok (.invokevirtual 70, 3) := by decide +kernel
theorem dL_law_832 : decode cL_law 832 = .ok (.aload_n 1, 1) := by decide +kernel
theorem dL_law_833 : decode cL_law 833 = .ok (.iload 15, 2) := by decide +kernel
theorem dL_law_835 : decode cL_law 835 = .ok (.bipush 7, 2) := by decide +kernel
theorem dL_law_837 : decode cL_law 837 = .ok (.iload 16, 2) := by decide +kernel
theorem dL_law_839 : decode cL_law 839 = .ok (.invokevirtual 70, 3) := by decide +kernel
theorem dL_law_842 : decode cL_law 842 = .ok (.if_icmp .gt 42, 3) := by decide +kernel
theorem dL_law_845 : decode cL_law 845 = .ok (.aload_n 1, 1) := by decide +kernel
theorem dL_law_846 : decode cL_law 846 = .ok (.iload 15, 2) := by decide +kernel
theorem dL_law_848 : decode cL_law 848 = .ok (.bipush 7, 2) := by decide +kernel
theorem dL_law_850 : decode cL_law 850 = .ok (.iload 16, 2) := by decide +kernel
theorem dL_law_852 : decode cL_law 852 = .ok (.invokevirtual 70, 3) := by decide +kernel
theorem dL_law_855 : decode cL_law 855 = .ok (.aload_n 1, 1) := by decide +kernel
theorem dL_law_856 : decode cL_law 856 = .ok (.iload 15, 2) := by decide +kernel
theorem dL_law_858 : decode cL_law 858 = .ok (.bipush 8, 2) := by decide +kernel
theorem dL_law_860 : decode cL_law 860 = .ok (.iload 16, 2) := by decide +kernel
theorem dL_law_862 : decode cL_law 862 = .ok (.invokevirtual 70, 3) := by decide +kernel
theorem dL_law_865 : decode cL_law 865 = .ok (.if_icmp .gt 19, 3) := by decide +kernel
theorem dL_law_868 : decode cL_law 868 = .ok (.aload_n 1, 1) := by decide +kernel
theorem dL_law_869 : decode cL_law 869 = .ok (.iload 15, 2) := by decide +kernel
theorem dL_law_871 : decode cL_law 871 = .ok (.bipush 8, 2) := by decide +kernel
theorem dL_law_873 : decode cL_law 873 = .ok (.iload 16, 2) := by decide +kernel
theorem dL_law_875 : decode cL_law 875 = .ok (.invokevirtual 70, 3) := by decide +kernel
theorem dL_law_878 : decode cL_law 878 = .ok (.sipush 500, 3) := by decide +kernel
theorem dL_law_881 : decode cL_law 881 = .ok (.if_icmp .le 5, 3) := by decide +kernel
theorem dL_law_884 : decode cL_law 884 = .ok (.iconst 0, 1) := by decide +kernel
theorem dL_law_885 : decode cL_law 885 = .ok (.ireturn, 1) := by decide +kernel
theorem dL_law_886 : decode cL_law 886 = .ok (.iinc 16 4, 3) := by decide +kernel
theorem dL_law_889 : decode cL_law 889 = .ok (.goto (-159), 3) := by decide +kernel
theorem dL_law_892 : decode cL_law 892 = .ok (.aload_n 1, 1) := by decide +kernel
theorem dL_law_893 : decode cL_law 893 = .ok (.iload 15, 2) := by decide +kernel
theorem dL_law_895 : decode cL_law 895 = .ok (.iconst 0, 1) := by decide +kernel
theorem dL_law_896 : decode cL_law 896 = .ok (.iconst 1, 1) := by decide +kernel
theorem dL_law_897 : decode cL_law 897 = .ok (.invokevirtual 70, 3) := by decide +kernel
theorem dL_law_900 : decode cL_law 900 = .ok (.aload_n 1, 1) := by decide +kernel
theorem dL_law_901 : decode cL_law 901 = .ok (.iload 15, 2) := by decide +kernel
theorem dL_law_903 : decode cL_law 903 = .ok (.iconst 0, 1) := by decide +kernel
theorem dL_law_904 : decode cL_law 904 = .ok (.invokevirtual 73, 3) := by decide +kernel
theorem dL_law_907 : decode cL_law 907 = .ok (.if_icmp .ne 45, 3) := by decide +kernel
theorem dL_law_910 : decode cL_law 910 = .ok (.aload_n 1, 1) := by decide +kernel
theorem dL_law_911 : decode cL_law 911 = .ok (.iload 15, 2) := by decide +kernel
theorem dL_law_913 : decode cL_law 913 = .ok (.iconst 1, 1) := by decide +kernel
theorem dL_law_914 : decode cL_law 914 = .ok (.invokevirtual 76, 3) := by decide +kernel
theorem dL_law_917 : decode cL_law 917 = .ok (.bipush 13, 2) := by decide +kernel
theorem dL_law_919 : decode cL_law 919 = .ok (.if_icmp .gt 33, 3) := by decide +kernel
theorem dL_law_922 : decode cL_law 922 = .ok (.aload_n 1, 1) := by decide +kernel
theorem dL_law_923 : decode cL_law 923 = .ok (.iload 15, 2) := by decide +kernel
theorem dL_law_925 : decode cL_law 925 = .ok (.iconst 1, 1) := by decide +kernel
theorem dL_law_926 : decode cL_law 926 = .ok (.invokevirtual 76, 3) := by decide +kernel
theorem dL_law_929 : decode cL_law 929 = .ok (.bipush 13, 2) := by decide +kernel
theorem dL_law_931 : decode cL_law 931 = .ok (.aload_n 1, 1) := by decide +kernel
theorem dL_law_932 : decode cL_law 932 = .ok (.invokevirtual 66, 3) := by decide +kernel
theorem dL_law_935 : decode cL_law 935 = .ok (.invokestatic 79, 3) := by decide +kernel
theorem dL_law_938 : decode cL_law 938 = .ok (.if_icmp .ne 14, 3) := by decide +kernel
theorem dL_law_941 : decode cL_law 941 = .ok (.aload_n 1, 1) := by decide +kernel
theorem dL_law_942 : decode cL_law 942 = .ok (.iload 15, 2) := by decide +kernel
theorem dL_law_944 : decode cL_law 944 = .ok (.bipush 13, 2) := by decide +kernel
theorem dL_law_946 : decode cL_law 946 = .ok (.invokevirtual 73, 3) := by decide +kernel
theorem dL_law_949 : decode cL_law 949 = .ok (.ifCond .eq 5, 3) := by decide +kernel
theorem dL_law_952 : decode cL_law 952 = .ok (.iconst 0, 1) := by decide +kernel
theorem dL_law_953 : decode cL_law 953 = .ok (.ireturn, 1) := by decide +kernel
theorem dL_law_954 : decode cL_law 954 = .ok (.iinc 15 1, 3) := by decide +kernel
theorem dL_law_957 : decode cL_law 957 = .ok (.goto (-236), 3) := by decide +kernel
theorem dL_law_960 : decode cL_law 960 = .ok (.iconst 0, 1) := by decide +kernel
theorem dL_law_961 : decode cL_law 961 = .ok (.istore 15, 2) := by decide +kernel
theorem dL_law_963 : decode cL_law 963 = .ok (.iload 15, 2) := by decide +kernel
theorem dL_law_965 : decode cL_law 965 = .ok (.aload_n 1, 1) := by decide +kernel
theorem dL_law_966 : decode cL_law 966 = .ok (.iconst 2, 1) := by decide +kernel
theorem dL_law_967 : decode cL_law 967 = .ok (.invokevirtual 44, 3) := by decide +kernel
theorem dL_law_970 : decode cL_law 970 = .ok (.if_icmp .ge 92, 3) := by decide +kernel
theorem dL_law_973 : decode cL_law 973 = .ok (.aload_n 1, 1) := by decide +kernel
theorem dL_law_974 : decode cL_law 974 = .ok (.iload 15, 2) := by decide +kernel
theorem dL_law_976 : decode cL_law 976 = .ok (.iconst 3, 1) := by decide +kernel
theorem dL_law_977 : decode cL_law 977 = .ok (.invokevirtual 84, 3) := by decide +kernel
theorem dL_law_980 : decode cL_law 980 = .ok (.aload_n 1, 1) := by decide +kernel
theorem dL_law_981 : decode cL_law 981 = .ok (.iconst 3, 1) := by decide +kernel
theorem dL_law_982 : decode cL_law 982 = .ok (.invokevirtual 44, 3) := by decide +kernel
theorem dL_law_985 : decode cL_law 985 = .ok (.if_icmp .gt 69, 3) := by decide +kernel
theorem dL_law_988 : decode cL_law 988 = .ok (.aload_n 1, 1) := by decide +kernel
theorem dL_law_989 : decode cL_law 989 = .ok (.iload 15, 2) := by decide +kernel
theorem dL_law_991 : decode cL_law 991 = .ok (.iconst 2, 1) := by decide +kernel
theorem dL_law_992 : decode cL_law 992 = .ok (.invokevirtual 84, 3) := by decide +kernel
theorem dL_law_995 : decode cL_law 995 = .ok (.aload_n 1, 1) := by decide +kernel
theorem dL_law_996 : decode cL_law 996 = .ok (.invokevirtual 66, 3) := by decide +kernel
theorem dL_law_999 : decode cL_law 999 = .ok (.if_icmp .gt 13, 3) := by decide +kernel
theorem dL_law_1002 : decode cL_law 1002 = .ok (.aload_n 1, 1) := by decide +kernel
theorem dL_law_1003 : decode cL_law 1003 = .ok (.iload 15, 2) := by decide +kernel
theorem dL_law_1005 : decode cL_law 1005 = .ok (.iconst 3, 1) := by decide +kernel
theorem dL_law_1006 : decode cL_law 1006 = .ok (.invokevirtual 84, 3) := by decide +kernel
theorem dL_law_1009 : decode cL_law 1009 = .ok (.ifCond .gt 45, 3) := by decide +kernel
theorem dL_law_1012 : decode cL_law 1012 = .ok (.aload_n 1, 1) := by decide +kernel
theorem dL_law_1013 : decode cL_law 1013 = .ok (.iload 15, 2) := by decide +kernel
theorem dL_law_1015 : decode cL_law 1015 = .ok (.invokevirtual 87, 3) := by decide +kernel
theorem dL_law_1018 : decode cL_law 1018 = .ok (.aload_n 1, 1) := by decide +kernel
theorem dL_law_1019 : decode cL_law 1019 = .ok (.iconst 4, 1) := by decide +kernel
theorem dL_law_1020 : decode cL_law 1020 = .ok (.invokevirtual 44, 3) := by decide +kernel
theorem dL_law_1023 : decode cL_law 1023 = .ok (.if_icmp .gt 31, 3) := by decide +kernel
theorem dL_law_1026 : decode cL_law 1026 = .ok (.aload_n 1, 1) := by decide +kernel
theorem dL_law_1027 : decode cL_law 1027 = .ok (.iload 15, 2) := by decide +kernel
theorem dL_law_1029 : decode cL_law 1029 = .ok (.iconst 2, 1) := by decide +kernel
theorem dL_law_1030 : decode cL_law 1030 = .ok (.invokevirtual 84, 3) := by decide +kernel
theorem dL_law_1033 : decode cL_law 1033 = .ok (.aload_n 1, 1) := by decide +kernel
theorem dL_law_1034 : decode cL_law 1034 = .ok (.invokevirtual 66, 3) := by decide +kernel
theorem dL_law_1037 : decode cL_law 1037 = .ok (.if_icmp .gt 19, 3) := by decide +kernel
theorem dL_law_1040 : decode cL_law 1040 = .ok (.aload_n 1, 1) := by decide +kernel
theorem dL_law_1041 : decode cL_law 1041 = .ok (.iload 15, 2) := by decide +kernel
theorem dL_law_1043 : decode cL_law 1043 = .ok (.invokevirtual 87, 3) := by decide +kernel
theorem dL_law_1046 : decode cL_law 1046 = .ok (.aload_n 1, 1) := by decide +kernel
theorem dL_law_1047 : decode cL_law 1047 = .ok (.iconst 5, 1) := by decide +kernel
theorem dL_law_1048 : decode cL_law 1048 = .ok (.invokevirtual 44, 3) := by decide +kernel
theorem dL_law_1051 : decode cL_law 1051 = .ok (.if_icmp .eq 5, 3) := by decide +kernel
theorem dL_law_1054 : decode cL_law 1054 = .ok (.iconst 0, 1) := by decide +kernel
theorem dL_law_1055 : decode cL_law 1055 = .ok (.ireturn, 1) := by decide +kernel
theorem dL_law_1056 : decode cL_law 1056 = .ok (.iinc 15 1, 3) := by decide +kernel
theorem dL_law_1059 : decode cL_law 1059 = .ok (.goto (-96), 3) := by decide +kernel
theorem dL_law_1062 : decode cL_law 1062 = .ok (.iconst 0, 1) := by decide +kernel
theorem dL_law_1063 : decode cL_law 1063 = .ok (.istore 15, 2) := by decide +kernel
theorem dL_law_1065 : decode cL_law 1065 = .ok (.iload 15, 2) := by decide +kernel
theorem dL_law_1067 : decode cL_law 1067 = .ok (.iload_n 3, 1) := by decide +kernel
theorem dL_law_1068 : decode cL_law 1068 = .ok (.if_icmp .ge 50, 3) := by decide +kernel
theorem dL_law_1071 : decode cL_law 1071 = .ok (.aload_n 1, 1) := by decide +kernel
theorem dL_law_1072 : decode cL_law 1072 = .ok (.iload 15, 2) := by decide +kernel
theorem dL_law_1074 : decode cL_law 1074 = .ok (.invokevirtual 90, 3) := by decide +kernel
theorem dL_law_1077 : decode cL_law 1077 = .ok (.sipush 10000, 3) := by decide +kernel
theorem dL_law_1080 : decode cL_law 1080 = .ok (.if_icmp .gt 32, 3) := by decide +kernel
theorem dL_law_1083 : decode cL_law 1083 = .ok (.aload_n 1, 1) := by decide +kernel
theorem dL_law_1084 : decode cL_law 1084 = .ok (.iload 15, 2) := by decide +kernel
theorem dL_law_1086 : decode cL_law 1086 = .ok (.invokevirtual 90, 3) := by decide +kernel
theorem dL_law_1089 : decode cL_law 1089 = .ok (.sipush (-10000), 3) := by decide +kernel
theorem dL_law_1092 : decode cL_law 1092 = .ok (.if_icmp .lt 20, 3) := by decide +kernel
theorem dL_law_1095 : decode cL_law 1095 = .ok (.aload_n 1, 1) := by decide +kernel
theorem dL_law_1096 : decode cL_law 1096 = .ok (.iload 15, 2) := by decide +kernel
theorem dL_law_1098 : decode cL_law 1098 = .ok (.aload_n 1, 1) := by decide +kernel
theorem dL_law_1099 : decode cL_law 1099 = .ok (.iload 15, 2) := by decide +kernel
theorem dL_law_1101 : decode cL_law 1101 = .ok (.invokevirtual 90, 3) := by decide +kernel
theorem dL_law_1104 : decode cL_law 1104 = .ok (.invokevirtual 93, 3) := by decide +kernel
theorem dL_law_1107 : decode cL_law 1107 = .ok (.ifCond .eq 5, 3) := by decide +kernel
theorem dL_law_1110 : decode cL_law 1110 = .ok (.iconst 0, 1) := by decide +kernel
theorem dL_law_1111 : decode cL_law 1111 = .ok (.ireturn, 1) := by decide +kernel
theorem dL_law_1112 : decode cL_law 1112 = .ok (.iinc 15 1, 3) := by decide +kernel
theorem dL_law_1115 : decode cL_law 1115 = .ok (.goto (-50), 3) := by decide +kernel
theorem dL_law_1118 : decode cL_law 1118 = .ok (.iconst 0, 1) := by decide +kernel
theorem dL_law_1119 : decode cL_law 1119 = .ok (.istore 15, 2) := by decide +kernel
theorem dL_law_1121 : decode cL_law 1121 = .ok (.iload 15, 2) := by decide +kernel
theorem dL_law_1123 : decode cL_law 1123 = .ok (.iconst 1, 1) := by decide +kernel
theorem dL_law_1124 : decode cL_law 1124 = .ok (.iadd, 1) := by decide +kernel
theorem dL_law_1125 : decode cL_law 1125 = .ok (.bipush 30, 2) := by decide +kernel
theorem dL_law_1127 : decode cL_law 1127 = .ok (.iload 4, 2) := by decide +kernel
theorem dL_law_1129 : decode cL_law 1129 = .ok (.invokestatic 79, 3) := by decide +kernel
theorem dL_law_1132 : decode cL_law 1132 = .ok (.if_icmp .ge 63, 3) := by decide +kernel
theorem dL_law_1135 : decode cL_law 1135 = .ok (.aload_n 1, 1) := by decide +kernel
theorem dL_law_1136 : decode cL_law 1136 = .ok (.iload 15, 2) := by decide +kernel
theorem dL_law_1138 : decode cL_law 1138 = .ok (.iconst 0, 1) := by decide +kernel
theorem dL_law_1139 : decode cL_law 1139 = .ok (.invokevirtual 96, 3) := by decide +kernel
theorem dL_law_1142 : decode cL_law 1142 = .ok (.aload_n 1, 1) := by decide +kernel
theorem dL_law_1143 : decode cL_law 1143 = .ok (.iload 15, 2) := by decide +kernel
theorem dL_law_1145 : decode cL_law 1145 = .ok (.iconst 1, 1) := by decide +kernel
theorem dL_law_1146 : decode cL_law 1146 = .ok (.iadd, 1) := by decide +kernel
theorem dL_law_1147 : decode cL_law 1147 = .ok (.iconst 0, 1) := by decide +kernel
theorem dL_law_1148 : decode cL_law 1148 = .ok (.invokevirtual 96, 3) := by decide +kernel
theorem dL_law_1151 : decode cL_law 1151 = .ok (.if_icmp .lt 36, 3) := by decide +kernel
theorem dL_law_1154 : decode cL_law 1154 = .ok (.aload_n 1, 1) := by decide +kernel
theorem dL_law_1155 : decode cL_law 1155 = .ok (.iload 15, 2) := by decide +kernel
theorem dL_law_1157 : decode cL_law 1157 = .ok (.iconst 2, 1) := by decide +kernel
theorem dL_law_1158 : decode cL_law 1158 = .ok (.invokevirtual 96, 3) := by decide +kernel
theorem dL_law_1161 : decode cL_law 1161 = .ok (.ifCond .le 7, 3) := by decide +kernel
theorem dL_law_1164 : decode cL_law 1164 = .ok (.iconst 1, 1) := by decide +kernel
theorem dL_law_1165 : decode cL_law 1165 = .ok (.goto 4, 3) := by decide +kernel
theorem dL_law_1168 : decode cL_law 1168 = .ok (.iconst 0, 1) := by decide +kernel
theorem dL_law_1169 : decode cL_law 1169 = .ok (.aload_n 1, 1) := by decide +kernel
theorem dL_law_1170 : decode cL_law 1170 = .ok (.iload 15, 2) := by decide +kernel
theorem dL_law_1172 : decode cL_law 1172 = .ok (.iconst 3, 1) := by decide +kernel
theorem dL_law_1173 : decode cL_law 1173 = .ok (.invokevirtual 96, 3) := by decide +kernel
theorem dL_law_1176 : decode cL_law 1176 = .ok (.ifCond .lt 7, 3) := by decide +kernel
theorem dL_law_1179 : decode cL_law 1179 = .ok (.iconst 1, 1) := by decide +kernel
theorem dL_law_1180 : decode cL_law 1180 = .ok (.goto 4, 3) := by decide +kernel
theorem dL_law_1183 : decode cL_law 1183 = .ok (.iconst 0, 1) := by decide +kernel
theorem dL_law_1184 : decode cL_law 1184 = .ok (.if_icmp .eq 5, 3) := by decide +kernel
theorem dL_law_1187 : decode cL_law 1187 = .ok (.iconst 0, 1) := by decide +kernel
theorem dL_law_1188 : decode cL_law 1188 = .ok (.ireturn, 1) := by decide +kernel
theorem dL_law_1189 : decode cL_law 1189 = .ok (.iinc 15 1, 3) := by decide +kernel
theorem dL_law_1192 : decode cL_law 1192 = .ok (.goto (-71), 3) := by decide +kernel
theorem dL_law_1195 : decode cL_law 1195 = .ok (.aload_n 1, 1) := by decide +kernel
theorem dL_law_1196 : decode cL_law 1196 = .ok (.invokevirtual 56, 3) := by decide +kernel
theorem dL_law_1199 : decode cL_law 1199 = .ok (.lload 11, 2) := by decide +kernel
theorem dL_law_1201 : decode cL_law 1201 = .ok (.lcmp, 1) := by decide +kernel
theorem dL_law_1202 : decode cL_law 1202 = .ok (.ifCond .eq 5, 3) := by decide +kernel
theorem dL_law_1205 : decode cL_law 1205 = .ok (.iconst 0, 1) := by decide +kernel
theorem dL_law_1206 : decode cL_law 1206 = .ok (.ireturn, 1) := by decide +kernel
theorem dL_law_1207 : decode cL_law 1207 = .ok (.iinc 5 1, 3) := by decide +kernel
theorem dL_law_1210 : decode cL_law 1210 = .ok (.goto (-942), 3) := by decide +kernel
theorem dL_law_1213 : decode cL_law 1213 = .ok (.aload_n 1, 1) := by decide +kernel
theorem dL_law_1214 : decode cL_law 1214 = .ok (.invokevirtual 99, 3) := by decide +kernel
theorem dL_law_1217 : decode cL_law 1217 = .ok (.iload_n 3, 1) := by decide +kernel
theorem dL_law_1218 : decode cL_law 1218 = .ok (.iconst 1, 1) := by decide +kernel
theorem dL_law_1219 : decode cL_law 1219 = .ok (.isub, 1) := by decide +kernel
theorem dL_law_1220 : decode cL_law 1220 = .ok (.if_icmp .ne 7, 3) := by decide +kernel
theorem dL_law_1223 : decode cL_law 1223 = .ok (.iconst 1, 1) := by decide +kernel
theorem dL_law_1224 : decode cL_law 1224 = .ok (.goto 4, 3) := by decide +kernel
theorem dL_law_1227 : decode cL_law 1227 = .ok (.iconst 0, 1) := by decide +kernel
theorem dL_law_1228 : decode cL_law 1228 = .ok (.ireturn, 1) := by decide +kernel
end
section
/-! The layer: roles of cells instead of places in a list. A role t of the world has an address ad t and a content M t. -/
abbrev TG : Type := Nat × Nat × Nat
abbrev CT : Type := TG → Option va_E
abbrev AD : Type := TG → Nat
abbrev GV : Type := va_G × (Nat → ClassId) × (Nat → Nat)
def hm_D (g : GV) : va_G := g.1
def hm_c (g : GV) (k : Nat) : ClassId := g.2.1 k
def hm_b (g : GV) (k : Nat) : Nat := g.2.2 k
def hm_ty (g : GV) : List (ClassId × FieldType) := [(hm_c g 0, .int), (hm_c g 1, .object "HarbourlightMonitor$Group"), (hm_c g 2, .object "HarbourlightMonitor$Alert"), (hm_c g 3, .object "java/lang/Object"), (hm_c g 4, .array .int)]
def hm_A (g : GV) : Nat → Prop := fun q => hm_b g 0 ≤ q
abbrev hm_ia (g : GV) (n : Nat) (f : Nat → Int32) : va_E := .inl (hm_c g 0, n, .inl f)
abbrev hm_ra (g : GV) (k n : Nat) (f : Nat → Option Nat) : va_E := .inl (hm_c g k, n, .inr (.inr (.inr (.inr f))))
def hm_eN (k : Nat) : Int32 := if k = 0 then 0 else if k = 1 then 10 else if k = 2 then 50 else if k = 3 then 100 else 500
def hm_pN (k : Nat) : Int32 := if k = 0 then 50 else if k = 1 then 75 else if k = 2 then 90 else 99
def hm_nst : List Cond := [.methodLinkNest RX6 28 yX1_init "HarbourlightMonitor", .methodLinkNest RX6 31 yX3_init "HarbourlightMonitor", .methodLinkNest RX6 38 yX0_init "HarbourlightMonitor", .methodLinkNest RX1 26 yX6_isOutside "HarbourlightMonitor", .methodLinkNest RX4 39 yX0_init "HarbourlightMonitor", .methodLinkNest RX4 51 yX6_isOutside "HarbourlightMonitor", .fieldLinkNest RX5 43 "HarbourlightMonitor" "EDGES" "[I" "HarbourlightMonitor", .fieldLinkNest RX5 72 "HarbourlightMonitor" "PARTS" "[I" "HarbourlightMonitor", .castable RX5 "java/lang/Object", .castable RX4 "java/lang/Object", .castable RX2 "java/lang/Object"]
def hm_Z (g : GV) (U : State) (H : Heap) : Prop :=
  (va_Z "java/util/ArrayList" "DEFAULTCAPACITY_EMPTY_ELEMENTDATA" "[Ljava/lang/Object;" (.ref (hm_b g 1)) (hm_A g) U H ∧ va_T (.object "java/lang/Object") (hm_b g 1) 0 (fun _ => .null) (hm_A g) U H) ∧
  (va_Z "HarbourlightMonitor" "EDGES" "[I" (.ref (hm_b g 2)) (hm_A g) U H ∧ va_T .int (hm_b g 2) 5 (fun k => .int (hm_eN k)) (hm_A g) U H) ∧
  (va_Z "HarbourlightMonitor" "PARTS" "[I" (.ref (hm_b g 3)) (hm_A g) U H ∧ va_T .int (hm_b g 3) 4 (fun k => .int (hm_pN k)) (hm_A g) U H)
theorem hm_Z.moved {g : GV} {u U : State} {H : Heap} (hvm : u.vm.Alike U.vm) (h : hm_Z g u H) : hm_Z g U H := ⟨⟨va_Z.moved hvm h.1.1, va_T.moved hvm h.1.2⟩, ⟨va_Z.moved hvm h.2.1.1, va_T.moved hvm h.2.1.2⟩, ⟨va_Z.moved hvm h.2.2.1, va_T.moved hvm h.2.2.2⟩⟩
theorem hm_Z.kept {g : GV} {U : State} {H H1 : Heap} (h : hm_Z g U H) (hq : ∀ a : Nat, a < H.size → ¬ hm_A g a → H1[a]? = H[a]?) : hm_Z g U H1 := ⟨⟨h.1.1.kept hq, h.1.2.kept hq⟩, ⟨h.2.1.1.kept hq, h.2.1.2.kept hq⟩, ⟨h.2.2.1.kept hq, h.2.2.2.kept hq⟩⟩
def hm_ov (U : State) : Prop := va_AO "HarbourlightMonitor$Group" U ∧ va_AO "HarbourlightMonitor$Alert" U ∧ va_AO "java/lang/Object" U ∧ va_AOA .int U
theorem hm_ov1 {ty : FieldType} {s U : State} (hvm : s.vm.Alike U.vm) (h : (Cond.arrayOver ty).before #[] s = true) : (Cond.arrayOver ty).before #[] U = true := (show (Cond.arrayOver ty).before #[] (s.setVm U.vm) = true by rw [Cond.arrayOver_setVmC hvm]; exact h)
theorem hm_ov.moved {s U : State} (hvm : s.vm.Alike U.vm) (h : hm_ov s) : hm_ov U := ⟨hm_ov1 hvm h.1, hm_ov1 hvm h.2.1, hm_ov1 hvm h.2.2.1, hm_ov1 hvm h.2.2.2⟩
def hm_E (g : GV) (U : State) (H : Heap) : Prop := va_K (hm_D g) vwCl (hm_ty g) U ∧ hm_b g 0 ≤ H.size ∧ hm_Z g U H ∧ (∀ w ∈ hm_nst, va_Nw w U) ∧ hm_ov U
theorem hm_nst_tab : ∀ w ∈ hm_nst, w.onTables = true := by decide +kernel
theorem hm_nst_warm {s U : State} (hW : s.WarmedH U.vm) (h : ∀ w ∈ hm_nst, va_Nw w s) : ∀ w ∈ hm_nst, va_Nw w U := by
  intro w hw
  have h0 := h w hw
  simp only [hm_nst, List.mem_cons, List.not_mem_nil, or_false] at hw
  rcases hw with rfl | rfl | rfl | rfl | rfl | rfl | rfl | rfl | rfl | rfl | rfl
  · exact va_Nw.warmM hW h0
  · exact va_Nw.warmM hW h0
  · exact va_Nw.warmM hW h0
  · exact va_Nw.warmM hW h0
  · exact va_Nw.warmM hW h0
  · exact va_Nw.warmM hW h0
  · exact va_Nw.warmF hW h0
  · exact va_Nw.warmF hW h0
  · exact va_Nw.warmC hW h0
  · exact va_Nw.warmC hW h0
  · exact va_Nw.warmC hW h0
theorem hm_E.blind {g : GV} {U : State} (j : JFrame) (mk : MethodId) (a : Array Value) (h : hm_E g U U.heap) : hm_E g (U.calling j mk a) (U.calling j mk a).heap :=
  ⟨va_K.moved (u := U) (U := U.calling j mk a) (Vm.Alike.refl U.vm) h.1, h.2.1, hm_Z.moved (u := U) (U := U.calling j mk a) (Vm.Alike.refl U.vm) h.2.2.1, fun w hw => va_Nw.same (u := U) (U := U.calling j mk a) (hm_nst_tab w hw) rfl (h.2.2.2.1 w hw), hm_ov.moved (s := U) (U := U.calling j mk a) (Vm.Alike.refl U.vm) h.2.2.2.2⟩
theorem hm_E.call {g : GV} {s U : State} {H : Heap} {locs : List Loc} (h : hm_E g s s.heap) (hS : va_S (hm_A g) s.heap H locs) (hU : U.heap = H) (hW : s.WarmedH U.vm) : hm_E g U U.heap := by
  refine ⟨va_K.moved hW.alike h.1, ?_, ?_, hm_nst_warm hW h.2.2.2.1, hm_ov.moved hW.alike h.2.2.2.2⟩
  · rw [hU]; exact Nat.le_trans h.2.1 hS.1
  · rw [hU]; exact hm_Z.moved hW.alike (h.2.2.1.kept hS.2.1)
def hm_up (M : CT) (t : TG) (e : va_E) : CT := fun x => if x = t then some e else M x
theorem hm_up_s {M : CT} {t : TG} {e : va_E} : hm_up M t e t = some e := if_pos rfl
theorem hm_up_n {M : CT} {t x : TG} {e : va_E} (h : x ≠ t) : hm_up M t e x = M x := if_neg h
def hm_P (g : GV) (ad : AD) (M : CT) (H : Heap) : Prop :=
  ∃ (L : List Nat) (f : Nat → va_E), va_P (hm_D g) vwCl (va_pl L f) H ∧ va_D (hm_A g) (va_pl L f) ∧ (∀ t e, M t = some e → ad t ∈ L ∧ f (ad t) = e) ∧ ∀ t t' e e', M t = some e → M t' = some e' → ad t = ad t' → t = t'
theorem hm_pl_get {L : List Nat} {f : Nat → va_E} {a : Nat} (h : a ∈ L) : ∃ k : Nat, (va_pl L f)[k]? = some (a, f a) := List.getElem?_of_mem (List.mem_map.mpr ⟨a, h, rfl⟩)
theorem hm_P.one {g : GV} {ad : AD} {M : CT} {H : Heap} {t : TG} {e : va_E} (h : hm_P g ad M H) (ht : M t = some e) : va_P (hm_D g) vwCl [(ad t, e)] H := by
  obtain ⟨L, f, hP, -, hm, -⟩ := h
  obtain ⟨h1, h2⟩ := hm t e ht
  obtain ⟨k, hk⟩ := hm_pl_get (f := f) h1
  rw [h2] at hk
  intro j q hj
  have h0 : j < 1 := (List.getElem?_eq_some_iff.mp hj).1
  rw [show j = 0 by omega] at hj
  cases hj
  exact hP k _ hk
theorem hm_P.sub {g : GV} {ad : AD} {M M2 : CT} {H : Heap} (h : hm_P g ad M H) (hs : ∀ t e, M2 t = some e → M t = some e) : hm_P g ad M2 H := by
  obtain ⟨L, f, hP, hD, hm, hi⟩ := h
  exact ⟨L, f, hP, hD, fun t e ht => hm t e (hs t e ht), fun t t' e e' h1 h2 => hi t t' e e' (hs t e h1) (hs t' e' h2)⟩
/-- the same world, addresses named anew where the roles are there -/
theorem hm_P.name {g : GV} {ad ad2 : AD} {M : CT} {H : Heap} (h : hm_P g ad M H) (hs : ∀ t e, M t = some e → ad2 t = ad t) : hm_P g ad2 M H := by
  obtain ⟨L, f, hP, hD, hm, hi⟩ := h
  refine ⟨L, f, hP, hD, fun t e ht => by rw [hs t e ht]; exact hm t e ht, fun t t' e e' h1 h2 h3 => hi t t' e e' h1 h2 ?_⟩
  rw [← hs t e h1, ← hs t' e' h2]
  exact h3
theorem hm_P.put {g : GV} {ad : AD} {M : CT} {H1 : Heap} {L : List Nat} {f : Nat → va_E} {k : Nat} {t : TG} {e0 e : va_E} (hD : va_D (hm_A g) (va_pl L f)) (hm : ∀ t e, M t = some e → ad t ∈ L ∧ f (ad t) = e) (hi : ∀ t t' e e', M t = some e → M t' = some e' → ad t = ad t' → t = t') (ht : M t = some e0) (hk : (va_pl L f)[k]? = some (ad t, f (ad t))) (hP1 : va_P (hm_D g) vwCl ((va_pl L f).set k (ad t, e)) H1) (hD1 : va_D (hm_A g) ((va_pl L f).set k (ad t, e))) : hm_P g ad (hm_up M t e) H1 := by
  have hs : (va_pl L f).set k (ad t, e) = va_pl L (va_up f (ad t) e) := va_pl_set (X := []) hD (hm t _ ht).1 hk
  rw [hs] at hP1 hD1
  refine ⟨L, va_up f (ad t) e, hP1, hD1, fun x ex hx => ?_, fun x y ex ey hx hy h => ?_⟩
  · by_cases h : x = t
    · subst h
      rw [hm_up_s] at hx
      cases hx
      exact ⟨(hm _ _ ht).1, va_up_self _ _ _⟩
    · rw [hm_up_n h] at hx
      obtain ⟨h1, h2⟩ := hm _ _ hx
      exact ⟨h1, by rw [va_up_ne _ _ (fun q => h (hi x t _ _ hx ht q))]; exact h2⟩
  · have key : ∀ z ez, hm_up M t e z = some ez → ∃ e9, M z = some e9 := fun z ez hz => by
      by_cases h : z = t
      · exact ⟨e0, by rw [h]; exact ht⟩
      · exact ⟨ez, by rw [hm_up_n h] at hz; exact hz⟩
    obtain ⟨e1, h1⟩ := key x ex hx
    obtain ⟨e2, h2⟩ := key y ey hy
    exact hi x y e1 e2 h1 h2 h
theorem hm_nin {A : Nat → Prop} {L : List Nat} {f : Nat → va_E} {q : Nat} {e : va_E} (h : va_D A (va_pl L f ++ [(q, e)])) : q ∉ L := fun hq => by
  obtain ⟨k, hk⟩ := hm_pl_get (f := f) hq
  have hl := (List.getElem?_eq_some_iff.mp hk).1
  have h1 : (va_pl L f ++ [(q, e)])[k]? = some (q, f q) := by rw [List.getElem?_append_left hl]; exact hk
  have h2 : (va_pl L f ++ [(q, e)])[(va_pl L f).length]? = some (q, e) := by simp
  have := h.1 _ _ _ _ h1 h2 rfl
  omega
def hm_au (ad : AD) (t : TG) (q : Nat) : AD := fun x => if x = t then q else ad x
theorem hm_P.push {g : GV} {ad : AD} {M : CT} {H1 : Heap} {L : List Nat} {f : Nat → va_E} {t : TG} {q : Nat} {e : va_E} (hm : ∀ t e, M t = some e → ad t ∈ L ∧ f (ad t) = e) (hi : ∀ t t' e e', M t = some e → M t' = some e' → ad t = ad t' → t = t') (hP1 : va_P (hm_D g) vwCl (va_pl L f ++ [(q, e)]) H1) (hD1 : va_D (hm_A g) (va_pl L f ++ [(q, e)])) : hm_P g (hm_au ad t q) (hm_up M t e) H1 := by
  have hq := hm_nin hD1
  rw [va_pl_push hq] at hP1 hD1
  have hne : ∀ x ex, M x = some ex → ad x ≠ q := fun x ex hx h => hq (h ▸ (hm x ex hx).1)
  refine ⟨L ++ [q], va_up f q e, hP1, hD1, fun x ex hx => ?_, fun x y ex ey hx hy h => ?_⟩
  · by_cases h : x = t
    · subst h
      rw [hm_up_s] at hx
      cases hx
      rw [show hm_au ad x q x = q from if_pos rfl]
      exact ⟨List.mem_append_right _ List.mem_cons_self, va_up_self _ _ _⟩
    · rw [hm_up_n h] at hx
      obtain ⟨h1, h2⟩ := hm _ _ hx
      rw [show hm_au ad t q x = ad x from if_neg h]
      exact ⟨List.mem_append_left _ h1, by rw [va_up_ne _ _ (hne x ex hx)]; exact h2⟩
  · by_cases h1 : x = t <;> by_cases h2 : y = t
    · rw [h1, h2]
    · rw [hm_up_n h2] at hy
      rw [show hm_au ad t q x = q from if_pos h1, show hm_au ad t q y = ad y from if_neg h2] at h
      exact absurd h.symm (hne y ey hy)
    · rw [hm_up_n h1] at hx
      rw [show hm_au ad t q y = q from if_pos h2, show hm_au ad t q x = ad x from if_neg h1] at h
      exact absurd h (hne x ex hx)
    · rw [hm_up_n h1] at hx
      rw [hm_up_n h2] at hy
      rw [show hm_au ad t q y = ad y from if_neg h2, show hm_au ad t q x = ad x from if_neg h1] at h
      exact hi x y ex ey hx hy h
def hm_G (g : GV) (ad : AD) (M : CT) (H0 H : Heap) (locs : List Loc) : Prop := hm_P g ad M H ∧ va_S (hm_A g) H0 H locs
theorem hm_G.sub {g : GV} {ad : AD} {M M2 : CT} {H0 H : Heap} {locs : List Loc} (h : hm_G g ad M H0 H locs) (hs : ∀ t e, M2 t = some e → M t = some e) : hm_G g ad M2 H0 H locs := ⟨h.1.sub hs, h.2⟩
theorem hm_G.name {g : GV} {ad ad2 : AD} {M : CT} {H0 H : Heap} {locs : List Loc} (h : hm_G g ad M H0 H locs) (hs : ∀ t e, M t = some e → ad2 t = ad t) : hm_G g ad2 M H0 H locs := ⟨h.1.name hs, h.2⟩
def hm_Q (g : GV) (post : Option Value → AD → CT → Prop) : Array Value → State → Outcome → State → Prop := fun _ st o t => (∃ v ad M, o = .returned v ∧ post v ad M ∧ hm_P g ad M t.heap) ∧ va_F (hm_A g) st t
abbrev hm_ws (y : MethodName) (cc : ByteArray) (n : Nat) (ret : Option FieldType) : List Cond := Cond.code y cc n ret :: hm_B
/-- a contract: at the world M the method y with the arguments av comes back, and 'post' holds of its answer and of the world then -/
def hm_Met (l : Launch) (y : MethodName) (cc : ByteArray) (n : Nat) (ret : Option FieldType) (rm : Room) (g : GV) (ad : AD) (M : CT) (av : List Value) (post : Option Value → AD → CT → Prop) : Prop :=
  Met l y (hm_ws y cc n ret) rm (va_Pc av (fun U => hm_E g U U.heap ∧ hm_P g ad M U.heap)) (hm_Q g post) rm.cells rm.slots (hm_A g)
theorem hm_blind {g : GV} {ad : AD} {M : CT} {av : List Value} : FrameBlind (va_Pc av (fun U => hm_E g U U.heap ∧ hm_P g ad M U.heap)) := fun a _ j mk q => ⟨q.1, q.2.1.blind j mk a, q.2.2⟩
theorem hm_good : ∀ w ∈ hm_B, w ∈ hm_B ∧ ((w.onTables && w.keeps) = true ∨ ∃ ty, w = .arrayClass ty) := fun w hw => ⟨hw, good_of_word (List.all_eq_true.mp hm_Bgood w hw)⟩
theorem hm_gW {y : MethodName} {cc : ByteArray} {n : Nat} {ret : Option FieldType} (h5 : Cond.code y cc n ret ∈ hm_B) : GoodIn hm_B (hm_ws y cc n ret) := fun w hw => (List.mem_cons.mp hw).elim (fun e => e ▸ hm_good _ h5) (fun h => hm_good _ h)
theorem hm_gV {own C : String} {idx : Nat} {y : MethodName} {cc : ByteArray} {n : Nat} {ret : Option FieldType} (h1 : Cond.methodLink own idx y ∈ hm_B) (h2 : Cond.instanceMethod y ∈ hm_B) (h3 : Cond.selects C y y ∈ hm_B) (h4 : Cond.initialized C ∈ hm_B) (h5 : Cond.code y cc n ret ∈ hm_B) : GoodIn hm_B (wsV own idx C y (hm_ws y cc n ret)) := fun w hw => by
  simp only [wsV, List.cons_append, List.nil_append, List.mem_cons] at hw
  rcases hw with rfl | rfl | rfl | rfl | hw
  · exact hm_good _ h1
  · exact hm_good _ h2
  · exact hm_good _ h3
  · exact hm_good _ h4
  · exact hm_gW h5 w (List.mem_cons.mpr hw)
theorem hm_gS {own : String} {idx : Nat} {y : MethodName} {cc : ByteArray} {n : Nat} {ret : Option FieldType} (h1 : Cond.methodLink own idx y ∈ hm_B) (h2 : Cond.static y ∈ hm_B) (h4 : Cond.initialized y.cls ∈ hm_B) (h5 : Cond.code y cc n ret ∈ hm_B) : GoodIn hm_B (va_wsS own idx y (hm_ws y cc n ret)) := fun w hw => by
  simp only [va_wsS, List.cons_append, List.nil_append, List.mem_cons] at hw
  rcases hw with rfl | rfl | rfl | hw
  · exact hm_good _ h1
  · exact hm_good _ h2
  · exact hm_good _ h4
  · exact hm_gW h5 w (List.mem_cons.mpr hw)
end
section
/-! The layer's rows: one an instruction that touches the heap, one a call, one an end. -/
section HMR
variable {p : Program} {l : Launch} {e : Env} {R : Room} {s : State} {m : MethodId} {args : Array Value} {below : List Frame} {meth : Method} {c : Code} {H : Heap} {locs : List Loc} {cells slots : Nat} {Q : State → Prop}
variable {cc : ByteArray} {pc nL : Nat} {ls : Array Slot} {rest : List Value} {g : GV} {ad : AD} {M : CT} {own : String} {a : Nat} {t : TG}
theorem hm_fd (fs : List Value) (N : Nat) : True := trivial
theorem hm_get (S : CallFix p m c cc nL s args hm_B own) (hE : hm_E g s s.heap) (hG : hm_G g ad M s.heap H locs) {ref C : String} {T : u_T} {N ci index k : Nat} {fs : List Value} {v : Value} (ht : M t = some (.inr (ci, fs))) (ha : ad t = a) (hc : vwCl[ci]? = some (C, T, N)) (hin : ∀ w ∈ u_ws C T N, w ∈ hm_B) (hk : k < N) (hlink : Cond.fieldLink own index ref (T k).2.1 (T k).2.2.1 ∈ hm_B) (href : (T k).1 = ref) (hv : fs[k]? = some v) (hdg : decode cc pc = .ok (.getfield index, 3))
    (kk : W p l e R s m args below meth c H locs cells slots Q (F0 m (pc + 3) ls (v :: rest))) : W p l e R s m args below meth c H locs cells slots Q (F0 m pc ls (.ref a :: rest)) := by
  subst ha; subst href
  exact va_get S.1 S.2.1 S.2.2.2.2 hin S.2.2.2.1 hE.1 (hG.1.one ht) 0 rfl hc k hk (S.2.2.2.2 _ hlink) (fun _ h => h) hv hdg kk
theorem hm_getI (S : CallFix p m c cc nL s args hm_B own) (hE : hm_E g s s.heap) (hG : hm_G g ad M s.heap H locs) {ref C : String} {T : u_T} {N ci index k : Nat} {fs : List Value} {v : Value} (ht : M t = some (.inr (ci, fs))) (ha : ad t = a) (hc : vwCl[ci]? = some (C, T, N)) (hin : ∀ w ∈ u_ws C T N, w ∈ hm_B) (hk : k < N) (hlink : Cond.fieldLink own index ref (T k).2.1 (T k).2.2.1 ∈ hm_B) (hsame : Cond.sameField ref (T k).1 (T k).2.1 (T k).2.2.1 ∈ hm_B) (hv : fs[k]? = some v) (hdg : decode cc pc = .ok (.getfield index, 3))
    (kk : W p l e R s m args below meth c H locs cells slots Q (F0 m (pc + 3) ls (v :: rest))) : W p l e R s m args below meth c H locs cells slots Q (F0 m pc ls (.ref a :: rest)) := by
  subst ha
  exact va_get S.1 S.2.1 S.2.2.2.2 hin S.2.2.2.1 hE.1 (hG.1.one ht) 0 rfl hc k hk (S.2.2.2.2 _ hlink) (u_same (S.2.2.2.2 _ hsame)) hv hdg kk
theorem hm_put (S : CallFix p m c cc nL s args hm_B own) (hE : hm_E g s s.heap) (hG : hm_G g ad M s.heap H locs) {ref C : String} {T : u_T} {N ci index k : Nat} {fs fs' : List Value} {v : Value} {ty0 : Nat → FieldType} (ht : M t = some (.inr (ci, fs))) (ha : ad t = a) (hc : vwCl[ci]? = some (C, T, N)) (hin : ∀ w ∈ u_ws C T N, w ∈ hm_B) (hty : ∀ k, k < N → parseFieldDescriptor (T k).2.2.1 = some (ty0 k)) (hnm : ∀ a, a < N → ∀ b, b < N → a ≠ b → (T a).2.1 ≠ (T b).2.1) (hk : k < N) (hlink : Cond.fieldLink own index ref (T k).2.1 (T k).2.2.1 ∈ hm_B) (href : (T k).1 = ref) (hfin : (T k).2.2.2 = false) (hn : narrow (ty0 k) v = v) (hfit : fits (ty0 k) v = true) (hl : k < fs.length) (hfs : fs.set k v = fs') (hdg : decode cc pc = .ok (.putfield index, 3))
    (kk : ∀ (H1 : Heap) (locs1 : List Loc), hm_G g ad (hm_up M t (.inr (ci, fs'))) s.heap H1 locs1 → W p l e R s m args below meth c H1 locs1 cells slots Q (F0 m (pc + 3) ls rest)) : W p l e R s m args below meth c H locs cells slots Q (F0 m pc ls (v :: .ref a :: rest)) := by
  subst ha; subst href; subst hfs
  obtain ⟨⟨L, f, hP, hD, hm, hi⟩, hS⟩ := hG
  obtain ⟨h1, h2⟩ := hm t _ ht
  obtain ⟨k0, hk0⟩ := hm_pl_get (f := f) h1
  exact va_put S.1 S.2.1 S.2.2.2.2 hin ty0 hty hnm S.2.2.2.1 hE.1 hP hD hS k0 (by rw [hk0, h2]) hc k hk (S.2.2.2.2 _ hlink) (fun _ h => h) hfin (hty k hk) hn hfit hl hdg (fun H1 locs1 hP1 hD1 hS1 => kk H1 locs1 ⟨hm_P.put hD hm hi ht hk0 hP1 hD1, hS1⟩)
theorem hm_putI (S : CallFix p m c cc nL s args hm_B own) (hE : hm_E g s s.heap) (hG : hm_G g ad M s.heap H locs) {ref C : String} {T : u_T} {N ci index k : Nat} {fs fs' : List Value} {v : Value} {ty0 : Nat → FieldType} (ht : M t = some (.inr (ci, fs))) (ha : ad t = a) (hc : vwCl[ci]? = some (C, T, N)) (hin : ∀ w ∈ u_ws C T N, w ∈ hm_B) (hty : ∀ k, k < N → parseFieldDescriptor (T k).2.2.1 = some (ty0 k)) (hnm : ∀ a, a < N → ∀ b, b < N → a ≠ b → (T a).2.1 ≠ (T b).2.1) (hk : k < N) (hlink : Cond.fieldLink own index ref (T k).2.1 (T k).2.2.1 ∈ hm_B) (hsame : Cond.sameField ref (T k).1 (T k).2.1 (T k).2.2.1 ∈ hm_B) (hfin : (T k).2.2.2 = false) (hn : narrow (ty0 k) v = v) (hfit : fits (ty0 k) v = true) (hl : k < fs.length) (hfs : fs.set k v = fs') (hdg : decode cc pc = .ok (.putfield index, 3))
    (kk : ∀ (H1 : Heap) (locs1 : List Loc), hm_G g ad (hm_up M t (.inr (ci, fs'))) s.heap H1 locs1 → W p l e R s m args below meth c H1 locs1 cells slots Q (F0 m (pc + 3) ls rest)) : W p l e R s m args below meth c H locs cells slots Q (F0 m pc ls (v :: .ref a :: rest)) := by
  subst ha; subst hfs
  obtain ⟨⟨L, f, hP, hD, hm, hi⟩, hS⟩ := hG
  obtain ⟨h1, h2⟩ := hm t _ ht
  obtain ⟨k0, hk0⟩ := hm_pl_get (f := f) h1
  exact va_put S.1 S.2.1 S.2.2.2.2 hin ty0 hty hnm S.2.2.2.1 hE.1 hP hD hS k0 (by rw [hk0, h2]) hc k hk (S.2.2.2.2 _ hlink) (u_same (S.2.2.2.2 _ hsame)) hfin (hty k hk) hn hfit hl hdg (fun H1 locs1 hP1 hD1 hS1 => kk H1 locs1 ⟨hm_P.put hD hm hi ht hk0 hP1 hD1, hS1⟩)
theorem hm_putF (S : CallFix p m c cc nL s args hm_B own) (hE : hm_E g s s.heap) (hG : hm_G g ad M s.heap H locs) (hinit : meth.name = "<init>") {ref C : String} {T : u_T} {N ci index k : Nat} {fs fs' : List Value} {v : Value} {ty0 : Nat → FieldType} (ht : M t = some (.inr (ci, fs))) (ha : ad t = a) (hc : vwCl[ci]? = some (C, T, N)) (hin : ∀ w ∈ u_ws C T N, w ∈ hm_B) (hty : ∀ k, k < N → parseFieldDescriptor (T k).2.2.1 = some (ty0 k)) (hnm : ∀ a, a < N → ∀ b, b < N → a ≠ b → (T a).2.1 ≠ (T b).2.1) (hk : k < N) (hlink : Cond.fieldLink own index ref (T k).2.1 (T k).2.2.1 ∈ hm_B) (href : (T k).1 = ref) (hown2 : (T k).1 = own) (hfin : (T k).2.2.2 = true) (hn : narrow (ty0 k) v = v) (hfit : fits (ty0 k) v = true) (hl : k < fs.length) (hfs : fs.set k v = fs') (hdg : decode cc pc = .ok (.putfield index, 3))
    (kk : ∀ (H1 : Heap) (locs1 : List Loc), hm_G g ad (hm_up M t (.inr (ci, fs'))) s.heap H1 locs1 → W p l e R s m args below meth c H1 locs1 cells slots Q (F0 m (pc + 3) ls rest)) : W p l e R s m args below meth c H locs cells slots Q (F0 m pc ls (v :: .ref a :: rest)) := by
  subst ha; subst href; subst hfs
  obtain ⟨⟨L, f, hP, hD, hm, hi⟩, hS⟩ := hG
  obtain ⟨h1, h2⟩ := hm t _ ht
  obtain ⟨k0, hk0⟩ := hm_pl_get (f := f) h1
  exact va_putF S.1 S.2.1 S.2.2.2.2 hin ty0 hty hnm S.2.2.2.1 hE.1 hP hD hS k0 (by rw [hk0, h2]) hc k hk (S.2.2.2.2 _ hlink) (fun _ h => h) hfin hinit hown2 (hty k hk) hn hfit hl hdg (fun H1 locs1 hP1 hD1 hS1 => kk H1 locs1 ⟨hm_P.put hD hm hi ht hk0 hP1 hD1, hS1⟩)
/-! arrays of ints -/
theorem hm_iald (S : CallFix p m c cc nL s args hm_B own) (hE : hm_E g s s.heap) (hG : hm_G g ad M s.heap H locs) {n : Nat} {f : Nat → Int32} {i x : Int32} (ht : M t = some (hm_ia g n f)) (ha : ad t = a) (hin : vp_in i n) (hx : f i.toNatClampNeg = x) (hdg : decode cc pc = .ok (.iaload, 1))
    (kk : W p l e R s m args below meth c H locs cells slots Q (F0 m (pc + 1) ls (.int x :: rest))) : W p l e R s m args below meth c H locs cells slots Q (F0 m pc ls (.int i :: .ref a :: rest)) := by
  subst ha; subst hx
  exact va_iald S.1 S.2.1 hE.1 (hG.1.one ht) 0 0 rfl rfl hin hdg kk
theorem hm_iast (S : CallFix p m c cc nL s args hm_B own) (hE : hm_E g s s.heap) (hG : hm_G g ad M s.heap H locs) {n : Nat} {f : Nat → Int32} {i x : Int32} (ht : M t = some (hm_ia g n f)) (ha : ad t = a) (hin : vp_in i n) (hdg : decode cc pc = .ok (.iastore, 1))
    (kk : ∀ (H1 : Heap) (locs1 : List Loc), hm_G g ad (hm_up M t (hm_ia g n (upd f i.toNatClampNeg x))) s.heap H1 locs1 → W p l e R s m args below meth c H1 locs1 cells slots Q (F0 m (pc + 1) ls rest)) : W p l e R s m args below meth c H locs cells slots Q (F0 m pc ls (.int x :: .int i :: .ref a :: rest)) := by
  subst ha
  obtain ⟨⟨L, fl, hP, hD, hm, hi⟩, hS⟩ := hG
  obtain ⟨h1, h2⟩ := hm t _ ht
  obtain ⟨k0, hk0⟩ := hm_pl_get (f := fl) h1
  exact va_iast S.1 S.2.1 hE.1 hP hD hS k0 0 (by rw [hk0, h2]) rfl hin hdg (fun H1 locs1 hP1 hD1 hS1 => kk H1 locs1 ⟨hm_P.put hD hm hi ht hk0 hP1 hD1, hS1⟩)
theorem hm_alen (S : CallFix p m c cc nL s args hm_B own) (hE : hm_E g s s.heap) (hG : hm_G g ad M s.heap H locs) {x : vp_A} {k : Nat} {ty : FieldType} {v : Int32} (ht : M t = some (.inl (hm_c g k, x))) (ha : ad t = a) (hty : (hm_ty g)[k]? = some (hm_c g k, ty)) (hv : Int32.ofNat x.1 = v) (hdg : decode cc pc = .ok (.arraylength, 1))
    (kk : W p l e R s m args below meth c H locs cells slots Q (F0 m (pc + 1) ls (.int v :: rest))) : W p l e R s m args below meth c H locs cells slots Q (F0 m pc ls (.ref a :: rest)) := by
  subst ha
  exact va_alen S.1 S.2.1 hE.1 (hG.1.one ht) 0 k rfl hty hv hdg kk
/-! arrays of references -/
theorem hm_aldq (S : CallFix p m c cc nL s args hm_B own) (hE : hm_E g s s.heap) (hG : hm_G g ad M s.heap H locs) {k n q : Nat} {C : String} {f : Nat → Option Nat} {i : Int32} (ht : M t = some (hm_ra g k n f)) (ha : ad t = a) (hty : (hm_ty g)[k]? = some (hm_c g k, .object C)) (hin : vp_in i n) (hq : f i.toNatClampNeg = some q) (hdg : decode cc pc = .ok (.aaload, 1))
    (kk : W p l e R s m args below meth c H locs cells slots Q (F0 m (pc + 1) ls (.ref q :: rest))) : W p l e R s m args below meth c H locs cells slots Q (F0 m pc ls (.int i :: .ref a :: rest)) := by
  subst ha
  refine va_aldq S.1 S.2.1 hE.1 (hG.1.one ht) 0 k rfl hty hin hdg ?_
  rw [hq]
  exact kk
theorem hm_aldA (S : CallFix p m c cc nL s args hm_B own) (hE : hm_E g s s.heap) (hG : hm_G g ad M s.heap H locs) {n q : Nat} {f : Nat → Option Nat} {i : Int32} (ht : M t = some (hm_ra g 4 n f)) (ha : ad t = a) (hin : vp_in i n) (hq : f i.toNatClampNeg = some q) (hdg : decode cc pc = .ok (.aaload, 1))
    (kk : W p l e R s m args below meth c H locs cells slots Q (F0 m (pc + 1) ls (.ref q :: rest))) : W p l e R s m args below meth c H locs cells slots Q (F0 m pc ls (.int i :: .ref a :: rest)) := by
  subst ha
  have hlt : i.toNatClampNeg < n := Nat.not_le.mp fun q => hin (Or.inr q)
  have hc0 : H[ad t]? = some (vp_cell (hm_c g 4) (n, .inr (.inr (.inr (.inr f))))) := (hG.1.one ht) 0 _ rfl
  refine W.aald (v := .ref q) (ty := .array .int) S.1 S.2.1 hc0 ((hE.1.2 4 _ rfl).1 n (fun j => va_rf (f j))) rfl (fun q => by cases q) (by show ¬ (i < 0 ∨ (arrV _ _ _).slots.size ≤ _); rw [arrV_size]; exact hin) ?_ rfl rfl hdg kk
  show (arrV _ _ _).slots[_]? = _
  rw [arrV_read _ _ hlt, hq]
  rfl
theorem hm_astq (S : CallFix p m c cc nL s args hm_B own) (hE : hm_E g s s.heap) (hG : hm_G g ad M s.heap H locs) {k n v ci : Nat} {C : String} {T : u_T} {N : Nat} {tv : TG} {vs : List Value} {f : Nat → Option Nat} {i : Int32} (ht : M t = some (hm_ra g k n f)) (ha : ad t = a) (hty : (hm_ty g)[k]? = some (hm_c g k, .object C)) (hv : M tv = some (.inr (ci, vs))) (hav : ad tv = v) (hc : vwCl[ci]? = some (C, T, N)) (hin : vp_in i n) (hdg : decode cc pc = .ok (.aastore, 1))
    (kk : ∀ (H1 : Heap) (locs1 : List Loc), hm_G g ad (hm_up M t (hm_ra g k n (va_up f i.toNatClampNeg (some v)))) s.heap H1 locs1 → W p l e R s m args below meth c H1 locs1 cells slots Q (F0 m (pc + 1) ls rest)) : W p l e R s m args below meth c H locs cells slots Q (F0 m pc ls (.ref v :: .int i :: .ref a :: rest)) := by
  subst ha; subst hav
  obtain ⟨⟨L, fl, hP, hD, hm, hi⟩, hS⟩ := hG
  obtain ⟨h1, h2⟩ := hm t _ ht
  obtain ⟨k0, hk0⟩ := hm_pl_get (f := fl) h1
  obtain ⟨h3, h4⟩ := hm tv _ hv
  obtain ⟨k1, hk1⟩ := hm_pl_get (f := fl) h3
  exact va_astq S.1 S.2.1 hE.1 hP hD hS k0 k k1 ci (by rw [hk0, h2]) (r := (C, T, N)) hty (by rw [hk1, h4]) hc hin hdg (fun H1 locs1 hP1 hD1 hS1 => kk H1 locs1 ⟨hm_P.put hD hm hi ht hk0 hP1 hD1, hS1⟩)
theorem hm_astO (S : CallFix p m c cc nL s args hm_B own) (hE : hm_E g s s.heap) (hG : hm_G g ad M s.heap H locs) {n v ci : Nat} {C : String} {T : u_T} {N : Nat} {tv : TG} {vs : List Value} {f : Nat → Option Nat} {i : Int32} (ht : M t = some (hm_ra g 3 n f)) (ha : ad t = a) (hca : Cond.castable C "java/lang/Object" ∈ hm_nst) (hv : M tv = some (.inr (ci, vs))) (hav : ad tv = v) (hc : vwCl[ci]? = some (C, T, N)) (hin : vp_in i n) (hdg : decode cc pc = .ok (.aastore, 1))
    (kk : ∀ (H1 : Heap) (locs1 : List Loc), hm_G g ad (hm_up M t (hm_ra g 3 n (va_up f i.toNatClampNeg (some v)))) s.heap H1 locs1 → W p l e R s m args below meth c H1 locs1 cells slots Q (F0 m (pc + 1) ls rest)) : W p l e R s m args below meth c H locs cells slots Q (F0 m pc ls (.ref v :: .int i :: .ref a :: rest)) := by
  subst ha; subst hav
  obtain ⟨⟨L, fl, hP, hD, hm, hi⟩, hS⟩ := hG
  obtain ⟨h1, h2⟩ := hm t _ ht
  obtain ⟨k0, hk0⟩ := hm_pl_get (f := fl) h1
  obtain ⟨h3, h4⟩ := hm tv _ hv
  obtain ⟨k1, hk1⟩ := hm_pl_get (f := fl) h3
  exact va_astqO S.1 S.2.1 hE.1 hP hD hS k0 3 k1 ci (E := "java/lang/Object") (by rw [hk0, h2]) (r := (C, T, N)) rfl (hE.2.2.2.1 _ hca) (by rw [hk1, h4]) hc hin hdg (fun H1 locs1 hP1 hD1 hS1 => kk H1 locs1 ⟨hm_P.put hD hm hi ht hk0 hP1 hD1, hS1⟩)
theorem hm_astN (S : CallFix p m c cc nL s args hm_B own) (hE : hm_E g s s.heap) (hG : hm_G g ad M s.heap H locs) {k n : Nat} {C : String} {f : Nat → Option Nat} {i : Int32} (ht : M t = some (hm_ra g k n f)) (ha : ad t = a) (hty : (hm_ty g)[k]? = some (hm_c g k, .object C)) (hin : vp_in i n) (hdg : decode cc pc = .ok (.aastore, 1))
    (kk : ∀ (H1 : Heap) (locs1 : List Loc), hm_G g ad (hm_up M t (hm_ra g k n (va_up f i.toNatClampNeg none))) s.heap H1 locs1 → W p l e R s m args below meth c H1 locs1 cells slots Q (F0 m (pc + 1) ls rest)) : W p l e R s m args below meth c H locs cells slots Q (F0 m pc ls (.null :: .int i :: .ref a :: rest)) := by
  subst ha
  obtain ⟨⟨L, fl, hP, hD, hm, hi⟩, hS⟩ := hG
  obtain ⟨h1, h2⟩ := hm t _ ht
  obtain ⟨k0, hk0⟩ := hm_pl_get (f := fl) h1
  exact va_astqN S.1 S.2.1 hE.1 hP hD hS k0 k (by rw [hk0, h2]) hty hin hdg (fun H1 locs1 hP1 hD1 hS1 => kk H1 locs1 ⟨hm_P.put hD hm hi ht hk0 hP1 hD1, hS1⟩)
/-! what is made -/
theorem hm_base (hE : hm_E g s s.heap) : ∀ q, s.heap.size ≤ q → hm_A g q := fun _ h => Nat.le_trans hE.2.1 h
theorem hm_new (S : CallFix p m c cc nL s args hm_B own) (hE : hm_E g s s.heap) (hG : hm_G g ad M s.heap H locs) (t : TG) {C : String} {T : u_T} {N ci index : Nat} {fs : List Value} {ty0 : Nat → FieldType} (hc : vwCl[ci]? = some (C, T, N)) (hin : ∀ w ∈ u_ws C T N, w ∈ hm_B) (hty : ∀ k, k < N → parseFieldDescriptor (T k).2.2.1 = some (ty0 k)) (hcl : Cond.classLink own index C ∈ hm_B) (hinst : Cond.instantiable C N ∈ hm_B) (hini : Cond.initialized C ∈ hm_B) (hfs : ∀ j, j < N → defaultValue (ty0 j) = vp_V fs j) (hcells : cells + 1 ≤ R.cells) (hslots : slots + N ≤ R.slots) (hdg : decode cc pc = .ok (.new index, 3))
    (kk : ∀ (q : Nat) (H1 : Heap), hm_G g (hm_au ad t q) (hm_up M t (.inr (ci, fs))) s.heap H1 locs → W p l e R s m args below meth c H1 locs (cells + 1) (slots + N) Q (F0 m (pc + 3) ls (.ref q :: rest))) : W p l e R s m args below meth c H locs cells slots Q (F0 m pc ls rest) := by
  obtain ⟨⟨L, fl, hP, hD, hm, hi⟩, hS⟩ := hG
  exact va_new S.1 S.2.1 S.2.2.2.2 hin ty0 hty S.2.2.2.1 (S.2.2.2.2 _ hcl) (S.2.2.2.2 _ hinst) (S.2.2.2.2 _ hini) hE.1 hP hD hS (hm_base hE) hc hfs hcells hslots hdg (fun q H1 hP1 hD1 hS1 => kk q H1 ⟨hm_P.push hm hi hP1 hD1, hS1⟩)
theorem hm_newI (S : CallFix p m c cc nL s args hm_B own) (hE : hm_E g s s.heap) (hG : hm_G g ad M s.heap H locs) (t : TG) (harr : Cond.arrayClass .int ∈ hm_B) {n : Int32} {N : Nat} (hn : ¬ n < 0) (hN : n.toNatClampNeg = N) (hbytes : N * 4 ≤ 536870912) (hcells : cells + 1 ≤ R.cells) (hslots : slots + N ≤ R.slots) (hdg : decode cc pc = .ok (.newarray .int, 2))
    (kk : ∀ (q : Nat) (H1 : Heap), hm_G g (hm_au ad t q) (hm_up M t (hm_ia g N (fun _ => 0))) s.heap H1 locs → W p l e R s m args below meth c H1 locs (cells + 1) (slots + N) Q (F0 m (pc + 2) ls (.ref q :: rest))) : W p l e R s m args below meth c H locs cells slots Q (F0 m pc ls (.int n :: rest)) := by
  obtain ⟨⟨L, fl, hP, hD, hm, hi⟩, hS⟩ := hG
  refine va_newa (atype := .int) S.1 S.2.1 (S.2.2.2.2 _ harr) rfl hE.1 hP hD hS (hm_base hE) (a0 := (N, .inl (fun _ => 0))) (fun cA => by rw [vp_cell_i]; rfl) hn hN hbytes hcells hslots hdg (fun q cA H1 hK1 hP1 hD1 hS1 => ?_)
  have e1 : (hm_ty g ++ [(cA, FieldType.int)])[5]? = some (cA, FieldType.int) := rfl
  have e2 : cA = hm_c g 0 := Option.some.inj ((hK1.2 5 _ e1).2.symm.trans (hE.1.2 0 _ rfl).2)
  subst e2
  exact kk q H1 ⟨hm_P.push hm hi hP1 hD1, hS1⟩
theorem hm_newQ (S : CallFix p m c cc nL s args hm_B own) (hE : hm_E g s s.heap) (hG : hm_G g ad M s.heap H locs) (t : TG) {C : String} {k index : Nat} (hty : (hm_ty g)[k]? = some (hm_c g k, .object C)) (hcl : Cond.classLink own index C ∈ hm_B) (hover : va_AO C s) {n : Int32} {N : Nat} (hn : ¬ n < 0) (hN : n.toNatClampNeg = N) (hbytes : N * 4 ≤ 536870912) (hcells : cells + 1 ≤ R.cells) (hslots : slots + N ≤ R.slots) (hdg : decode cc pc = .ok (.anewarray index, 3))
    (kk : ∀ (q : Nat) (H1 : Heap), hm_G g (hm_au ad t q) (hm_up M t (hm_ra g k N (fun _ => none))) s.heap H1 locs → W p l e R s m args below meth c H1 locs (cells + 1) (slots + N) Q (F0 m (pc + 3) ls (.ref q :: rest))) : W p l e R s m args below meth c H locs cells slots Q (F0 m pc ls (.int n :: rest)) := by
  obtain ⟨⟨L, fl, hP, hD, hm, hi⟩, hS⟩ := hG
  refine va_newq S.1 S.2.1 S.2.2.2.1 (S.2.2.2.2 _ hcl) hover hE.1 hP hD hS (hm_base hE) hn hN hbytes hcells hslots hdg (fun q cA H1 hK1 hP1 hD1 hS1 => ?_)
  have e1 : (hm_ty g ++ [(cA, FieldType.object C)])[5]? = some (cA, FieldType.object C) := rfl
  obtain ⟨_, _, _, _, _, f1⟩ := (hK1.2 5 _ e1).2
  obtain ⟨_, _, _, _, _, f2⟩ := (hE.1.2 k _ hty).2
  have e2 : cA = hm_c g k := Option.some.inj (f1.symm.trans f2)
  subst e2
  exact kk q H1 ⟨hm_P.push hm hi hP1 hD1, hS1⟩
/-! statics -/
theorem hm_gets {C n d : String} {v : Value} {index : Nat} (S : CallFix p m c cc nL s args hm_B own) (hG : hm_G g ad M s.heap H locs) (hZ : va_Z C n d v (hm_A g) s s.heap) (hlink : Cond.fieldLink own index C n d ∈ hm_B) (hdg : decode cc pc = .ok (.getstatic index, 3))
    (kk : W p l e R s m args below meth c H locs cells slots Q (F0 m (pc + 3) ls (v :: rest))) : W p l e R s m args below meth c H locs cells slots Q (F0 m pc ls rest) :=
  va_gets S.1 S.2.1 hZ hG.2 S.2.2.2.1 (S.2.2.2.2 _ hlink) (fun _ h => h) hdg kk
theorem hm_getsN {C n d host : String} {v : Value} {index : Nat} (S : CallFix p m c cc nL s args hm_B own) (hE : hm_E g s s.heap) (hG : hm_G g ad M s.heap H locs) (hZ : va_Z C n d v (hm_A g) s s.heap) (hlink : Cond.fieldLinkNest own index C n d host ∈ hm_nst) (hdg : decode cc pc = .ok (.getstatic index, 3))
    (kk : W p l e R s m args below meth c H locs cells slots Q (F0 m (pc + 3) ls (v :: rest))) : W p l e R s m args below meth c H locs cells slots Q (F0 m pc ls rest) :=
  va_getsN S.1 S.2.1 hZ hG.2 S.2.2.2.1 (va_Nw.use rfl (hE.2.2.2.1 _ hlink)) (fun _ h => h) hdg kk
theorem hm_tabI {N : Nat} {f : Nat → Int32} {i x : Int32} (S : CallFix p m c cc nL s args hm_B own) (hG : hm_G g ad M s.heap H locs) (hT : va_T .int a N (fun k => .int (f k)) (hm_A g) s s.heap) (hin : vp_in i N) (hx : f i.toNatClampNeg = x) (hdg : decode cc pc = .ok (.iaload, 1))
    (kk : W p l e R s m args below meth c H locs cells slots Q (F0 m (pc + 1) ls (.int x :: rest))) : W p l e R s m args below meth c H locs cells slots Q (F0 m pc ls (.int i :: .ref a :: rest)) :=
  va_ti S.1 S.2.1 hT hG.2 hin (by rw [hx]) hdg kk
/-! casts among own classes -/
theorem hm_cast (S : CallFix p m c cc nL s args hm_B own) (hE : hm_E g s s.heap) (hG : hm_G g ad M s.heap H locs) {C : String} {T : u_T} {N ci index : Nat} {fs : List Value} (ht : M t = some (.inr (ci, fs))) (ha : ad t = a) (hc : vwCl[ci]? = some (C, T, N)) (hlink : Cond.classLink own index C ∈ hm_B) (hdg : decode cc pc = .ok (.checkcast index, 3))
    (kk : W p l e R s m args below meth c H locs cells slots Q (F0 m (pc + 3) ls (.ref a :: rest))) : W p l e R s m args below meth c H locs cells slots Q (F0 m pc ls (.ref a :: rest)) := by
  subst ha
  exact va_castS S.1 S.2.1 S.2.2.2.1 (S.2.2.2.2 _ hlink) (hE.1.1 ci _ hc).2 (va_recv (q0 := 0) hE.1 (hG.1.one ht) hc rfl) hdg kk
end HMR
end
section
section HMC
variable {p : Program} {l : Launch} {e : Env} {R : Room} {s : State} {m : MethodId} {args : Array Value} {below : List Frame} {meth : Method} {c : Code} {H : Heap} {locs : List Loc} {cells slots : Nat} {Q : State → Prop}
variable {cc : ByteArray} {pc nL : Nat} {ls : Array Slot} {rest : List Value} {g : GV} {ad : AD} {M : CT} {own : String} {a : Nat} {t : TG}
theorem hm_call {post : Option Value → AD → CT → Prop} {mc ms : Nat} {st0 : List Value} {av : Array Value} (hG : hm_G g ad M s.heap H locs) (hr : va_Run p l e R s m args below meth c H locs cells slots mc ms (F0 m pc ls st0) rest (hm_Q g post av) (hm_A g))
    (kk : ∀ v ad1 M1 H1 locs1, post v ad1 M1 → hm_G g ad1 M1 s.heap H1 locs1 → W p l e R s m args below meth c H1 locs1 (cells + mc) (slots + ms) Q (F0 m (pc + 3) ls (v.toList ++ rest))) : W p l e R s m args below meth c H locs cells slots Q (F0 m pc ls st0) := by
  intro T hT X
  obtain ⟨v, st₀, t, T', L, h0, X', hL, e1, e2, ⟨⟨v1, ad1, M1, hv, hp, hw⟩, hz, hk⟩, st⟩ := hr T hT X
  cases hv
  rw [h0] at hz hk
  have hS := hG.2
  obtain ⟨t2, a1, b1⟩ := kk v ad1 M1 T'.heap (locs ++ L) hp ⟨by rw [e1]; exact hw, Nat.le_trans hS.1 (by rw [e1]; exact hz), fun q h1 h2 => by rw [e1, hk q (Nat.lt_of_lt_of_le h1 hS.1) h2]; exact hS.2.1 q h1 h2, fun q hq => (List.mem_append.mp hq).elim (hS.2.2 q) (fun h => hL q h)⟩ T' rfl X'
  exact ⟨t2, st t2 a1, b1⟩
theorem hm_pre {av : List Value} (hE : hm_E g s s.heap) (hG : hm_G g ad M s.heap H locs) : ∀ U : State, U.heap = H → s.WarmedH U.vm → va_Pc av (fun U => hm_E g U U.heap ∧ hm_P g ad M U.heap) av.toArray U := fun U hU hW => ⟨rfl, hE.call hG.2 hU hW, by rw [hU]; exact hG.1⟩
theorem hm_callV {st0 As : List Value} {y : MethodName} {cc1 : ByteArray} {n1 n ci N index : Nat} {ret : Option FieldType} {rm : Room} {C : String} {T : u_T} {fs : List Value} {post : Option Value → AD → CT → Prop} (S : CallFix p m c cc nL s args hm_B own) (hE : hm_E g s s.heap) (hG : hm_G g ad M s.heap H locs)
    (hM : hm_Met l y cc1 n1 ret rm g ad M (.ref a :: As) post) (hgd : GoodIn hm_B (wsV own index C y (hm_ws y cc1 n1 ret))) (hd : y.cls = C ∧ y.cls ≠ "java/lang/invoke/MethodHandle" ∧ y.cls ≠ "java/lang/invoke/VarHandle" ∧ (parseMethodDescriptor y.desc).map (fun d => d.parameters.length) = some n)
    (ht : M t = some (.inr (ci, fs))) (ha : ad t = a) (hc : vwCl[ci]? = some (C, T, N)) (hR : rm.frames + 1 ≤ R.frames ∧ 8 + (n1 + 11) + rm.locals ≤ R.locals) (hn : As.length = n) (hsize : ls.size = nL) (hst : st0 = As.reverse ++ .ref a :: rest) (hW : (rest.map fun v => v.category).sum ≤ 8) (hdg : decode cc pc = .ok (.invokevirtual index, 3)) (hf : cells + rm.cells ≤ R.cells ∧ slots + rm.slots ≤ R.slots)
    (kk : ∀ v ad1 M1 H1 locs1, post v ad1 M1 → hm_G g ad1 M1 s.heap H1 locs1 → W p l e R s m args below meth c H1 locs1 (cells + rm.cells) (slots + rm.slots) Q (F0 m (pc + 3) ls (v.toList ++ rest))) : W p l e R s m args below meth c H locs cells slots Q (F0 m pc ls st0) :=
  hm_call hG (va_runV S hM (cwV n S.2.2.2.2 hgd rfl rfl rfl hd hR) ⟨hm_blind, by subst ha; exact va_recv (q0 := 0) hE.1 (hG.1.one ht) hc rfl, hm_pre hE hG⟩ rfl hn hsize hst (lv_room hW) hdg hf) kk
theorem hm_callS {st0 As : List Value} {y : MethodName} {cc1 : ByteArray} {n1 n index : Nat} {ret : Option FieldType} {rm : Room} {post : Option Value → AD → CT → Prop} (S : CallFix p m c cc nL s args hm_B own) (hE : hm_E g s s.heap) (hG : hm_G g ad M s.heap H locs)
    (hM : hm_Met l y cc1 n1 ret rm g ad M As post) (hgd : GoodIn hm_B (va_wsS own index y (hm_ws y cc1 n1 ret))) (hd : y.cls ≠ "java/lang/invoke/MethodHandle" ∧ y.cls ≠ "java/lang/invoke/VarHandle" ∧ (parseMethodDescriptor y.desc).map (fun d => d.parameters.length) = some n)
    (hR : rm.frames + 1 ≤ R.frames ∧ 8 + (n1 + 11) + rm.locals ≤ R.locals) (hn : As.length = n) (hsize : ls.size = nL) (hst : st0 = As.reverse ++ rest) (hW : (rest.map fun v => v.category).sum ≤ 8) (hdg : decode cc pc = .ok (.invokestatic index, 3)) (hf : cells + rm.cells ≤ R.cells ∧ slots + rm.slots ≤ R.slots)
    (kk : ∀ v ad1 M1 H1 locs1, post v ad1 M1 → hm_G g ad1 M1 s.heap H1 locs1 → W p l e R s m args below meth c H1 locs1 (cells + rm.cells) (slots + rm.slots) Q (F0 m (pc + 3) ls (v.toList ++ rest))) : W p l e R s m args below meth c H locs cells slots Q (F0 m pc ls st0) :=
  hm_call hG (va_runS S hM (va_cwS n S.2.2.2.2 hgd rfl rfl rfl hd hR) ⟨hm_blind, hm_pre hE hG⟩ rfl hn hsize hst (lv_room hW) hdg hf) kk
theorem hm_callI {st0 As : List Value} {y : MethodName} {cc1 : ByteArray} {n1 n index : Nat} {rm : Room} {post : Option Value → AD → CT → Prop} (S : CallFix p m c cc nL s args hm_B own) (hE : hm_E g s s.heap) (hG : hm_G g ad M s.heap H locs)
    (hM : hm_Met l y cc1 n1 none rm g ad M (.ref a :: As) post) (hcd : Cond.code y cc1 n1 none ∈ hm_B) (hini : Cond.initialized y.cls ∈ hm_B) (hlk : Cond.methodLink own index y ∈ hm_B) (him : Cond.instanceMethod y ∈ hm_B) (hy1 : y.name = "<init>") (hd : y.cls ≠ "java/lang/invoke/MethodHandle" ∧ y.cls ≠ "java/lang/invoke/VarHandle" ∧ (parseMethodDescriptor y.desc).map (fun d => d.parameters.length) = some n)
    (hR : rm.frames + 1 ≤ R.frames ∧ 8 + (n1 + 11) + rm.locals ≤ R.locals) (hn : As.length = n) (hsize : ls.size = nL) (hst : st0 = As.reverse ++ .ref a :: rest) (hW : (rest.map fun v => v.category).sum ≤ 8) (hdg : decode cc pc = .ok (.invokespecial index, 3)) (hf : cells + rm.cells ≤ R.cells ∧ slots + rm.slots ≤ R.slots)
    (kk : ∀ v ad1 M1 H1 locs1, post v ad1 M1 → hm_G g ad1 M1 s.heap H1 locs1 → W p l e R s m args below meth c H1 locs1 (cells + rm.cells) (slots + rm.slots) Q (F0 m (pc + 3) ls (v.toList ++ rest))) : W p l e R s m args below meth c H locs cells slots Q (F0 m pc ls st0) :=
  hm_call hG (va_runI S hM (cwI n S.2.2.2.2 (hm_gW hcd) rfl rfl rfl (S.2.2.2.2 _ hini) (S.2.2.2.2 _ hlk) (S.2.2.2.2 _ him) hy1 hd hR) ⟨hm_blind, hm_pre hE hG⟩ rfl hn hsize hst (lv_room hW) hdg hf) kk
theorem hm_callSN {st0 As : List Value} {y : MethodName} {cc1 : ByteArray} {n1 n index : Nat} {ret : Option FieldType} {rm : Room} {host : String} {post : Option Value → AD → CT → Prop} (S : CallFix p m c cc nL s args hm_B own) (hE : hm_E g s s.heap) (hG : hm_G g ad M s.heap H locs)
    (hM : hm_Met l y cc1 n1 ret rm g ad M As post) (hcd : Cond.code y cc1 n1 ret ∈ hm_B) (hini : Cond.initialized y.cls ∈ hm_B) (hsm : Cond.static y ∈ hm_B) (hlk : Cond.methodLinkNest own index y host ∈ hm_nst) (hd : y.cls ≠ "java/lang/invoke/MethodHandle" ∧ y.cls ≠ "java/lang/invoke/VarHandle" ∧ (parseMethodDescriptor y.desc).map (fun d => d.parameters.length) = some n)
    (hR : rm.frames + 1 ≤ R.frames ∧ 8 + (n1 + 11) + rm.locals ≤ R.locals) (hn : As.length = n) (hsize : ls.size = nL) (hst : st0 = As.reverse ++ rest) (hW : (rest.map fun v => v.category).sum ≤ 8) (hdg : decode cc pc = .ok (.invokestatic index, 3)) (hf : cells + rm.cells ≤ R.cells ∧ slots + rm.slots ≤ R.slots)
    (kk : ∀ v ad1 M1 H1 locs1, post v ad1 M1 → hm_G g ad1 M1 s.heap H1 locs1 → W p l e R s m args below meth c H1 locs1 (cells + rm.cells) (slots + rm.slots) Q (F0 m (pc + 3) ls (v.toList ++ rest))) : W p l e R s m args below meth c H locs cells slots Q (F0 m pc ls st0) :=
  hm_call hG (va_runSN S hM ⟨va_cnB n S.2.2.2.2 (hm_gW hcd) rfl rfl rfl (hE.2.2.2.1 _ hlk) (S.2.2.2.2 _ hini) hd hR, S.2.2.2.2 _ hsm, trivial⟩ ⟨hm_blind, hm_pre hE hG⟩ rfl hn hsize hst (lv_room hW) hdg hf) kk
theorem hm_callIN {st0 As : List Value} {y : MethodName} {cc1 : ByteArray} {n1 n index : Nat} {rm : Room} {host : String} {post : Option Value → AD → CT → Prop} (S : CallFix p m c cc nL s args hm_B own) (hE : hm_E g s s.heap) (hG : hm_G g ad M s.heap H locs)
    (hM : hm_Met l y cc1 n1 none rm g ad M (.ref a :: As) post) (hcd : Cond.code y cc1 n1 none ∈ hm_B) (hini : Cond.initialized y.cls ∈ hm_B) (hlk : Cond.methodLinkNest own index y host ∈ hm_nst) (him : Cond.instanceMethod y ∈ hm_B) (hy1 : y.name = "<init>") (hd : y.cls ≠ "java/lang/invoke/MethodHandle" ∧ y.cls ≠ "java/lang/invoke/VarHandle" ∧ (parseMethodDescriptor y.desc).map (fun d => d.parameters.length) = some n)
    (hR : rm.frames + 1 ≤ R.frames ∧ 8 + (n1 + 11) + rm.locals ≤ R.locals) (hn : As.length = n) (hsize : ls.size = nL) (hst : st0 = As.reverse ++ .ref a :: rest) (hW : (rest.map fun v => v.category).sum ≤ 8) (hdg : decode cc pc = .ok (.invokespecial index, 3)) (hf : cells + rm.cells ≤ R.cells ∧ slots + rm.slots ≤ R.slots)
    (kk : ∀ v ad1 M1 H1 locs1, post v ad1 M1 → hm_G g ad1 M1 s.heap H1 locs1 → W p l e R s m args below meth c H1 locs1 (cells + rm.cells) (slots + rm.slots) Q (F0 m (pc + 3) ls (v.toList ++ rest))) : W p l e R s m args below meth c H locs cells slots Q (F0 m pc ls st0) :=
  hm_call hG (va_runIN S hM ⟨va_cnB n S.2.2.2.2 (hm_gW hcd) rfl rfl rfl (hE.2.2.2.1 _ hlk) (S.2.2.2.2 _ hini) hd hR, hy1, S.2.2.2.2 _ him⟩ ⟨hm_blind, hm_pre hE hG⟩ rfl hn hsize hst (lv_room hW) hdg hf) kk
/-! the ends -/
theorem hm_iret {post : Option Value → AD → CT → Prop} {v : Int32} {mc ms : Nat} (S : CallFix p m c cc nL s args hm_B own) (hG : hm_G g ad M s.heap H locs) (hr : meth.sig.returnType = some .int) (hlk : meth.locks = false) (hp : post (some (.int v)) ad M) (h1 : cells ≤ mc) (h2 : slots ≤ ms) (hdg : decode cc pc = .ok (.ireturn, 1)) : W p l e R s m args below meth c H locs cells slots (MQ below (hm_Q g post) args s mc ms (hm_A g)) (F0 m pc ls [.int v]) :=
  W.widen h1 h2 (W.iret S.1 S.2.1 hr (fun t ht _ => ⟨⟨_, ad, M, rfl, hp, by rw [ht]; exact hG.1⟩, hG.2.F ht⟩) hG.2.2.2 hdg hlk)
theorem hm_zret {post : Option Value → AD → CT → Prop} {v : Int32} {mc ms : Nat} (S : CallFix p m c cc nL s args hm_B own) (hG : hm_G g ad M s.heap H locs) (hr : meth.sig.returnType = some .boolean) (hlk : meth.locks = false) (hv : v = 0 ∨ v = 1) (hp : post (some (.int v)) ad M) (h1 : cells ≤ mc) (h2 : slots ≤ ms) (hdg : decode cc pc = .ok (.ireturn, 1)) : W p l e R s m args below meth c H locs cells slots (MQ below (hm_Q g post) args s mc ms (hm_A g)) (F0 m pc ls [.int v]) :=
  W.widen h1 h2 (W.zret S.1 S.2.1 hr (by rcases hv with rfl | rfl <;> rfl) (fun t ht _ => ⟨⟨_, ad, M, rfl, hp, by rw [ht]; exact hG.1⟩, hG.2.F ht⟩) hG.2.2.2 hdg hlk)
theorem hm_vret {post : Option Value → AD → CT → Prop} {mc ms : Nat} (S : CallFix p m c cc nL s args hm_B own) (hG : hm_G g ad M s.heap H locs) (hr : meth.sig.returnType = none) (hlk : meth.locks = false) (hp : post none ad M) (h1 : cells ≤ mc) (h2 : slots ≤ ms) (hdg : decode cc pc = .ok (.return_, 1)) : W p l e R s m args below meth c H locs cells slots (MQ below (hm_Q g post) args s mc ms (hm_A g)) (F0 m pc ls []) :=
  W.widen h1 h2 (W.vret S.1 S.2.1 hr (fun t ht _ => ⟨⟨_, ad, M, rfl, hp, by rw [ht]; exact hG.1⟩, hG.2.F ht⟩) hG.2.2.2 hdg hlk)
theorem hm_lret {post : Option Value → AD → CT → Prop} {v : Int64} {mc ms : Nat} (S : CallFix p m c cc nL s args hm_B own) (hG : hm_G g ad M s.heap H locs) (hr : meth.sig.returnType = some .long) (hlk : meth.locks = false) (hp : post (some (.long v)) ad M) (h1 : cells ≤ mc) (h2 : slots ≤ ms) (hdg : decode cc pc = .ok (.lreturn, 1)) : W p l e R s m args below meth c H locs cells slots (MQ below (hm_Q g post) args s mc ms (hm_A g)) (F0 m pc ls [.long v]) :=
  W.widen h1 h2 (W.lret S.1 S.2.1 hr (fun t ht _ => ⟨⟨_, ad, M, rfl, hp, by rw [ht]; exact hG.1⟩, hG.2.F ht⟩) hG.2.2.2 hdg hlk)
theorem hm_aret {post : Option Value → AD → CT → Prop} {q : Nat} {rt : FieldType} {mc ms : Nat} (S : CallFix p m c cc nL s args hm_B own) (hG : hm_G g ad M s.heap H locs) (hr : meth.sig.returnType = some rt) (hrt : (∃ n, rt = .object n) ∨ ∃ t, rt = .array t) (hlk : meth.locks = false) (hp : post (some (.ref q)) ad M) (h1 : cells ≤ mc) (h2 : slots ≤ ms) (hdg : decode cc pc = .ok (.areturn, 1)) : W p l e R s m args below meth c H locs cells slots (MQ below (hm_Q g post) args s mc ms (hm_A g)) (F0 m pc ls [.ref q]) :=
  W.widen h1 h2 (W.aret S.1 S.2.1 hr hrt (Or.inr ⟨_, rfl⟩) (fun t ht _ => ⟨⟨_, ad, M, rfl, hp, by rw [ht]; exact hG.1⟩, hG.2.F ht⟩) hG.2.2.2 hdg hlk)
/-! the start -/
theorem hm_start {y : MethodName} {cc1 : ByteArray} {n1 : Nat} {ret : Option FieldType} {rm : Room} {av : List Value} {post : Option Value → AD → CT → Prop} (hy : plainName y.cls = true) (ho : y.cls = own) (hlen : (lg_sl av).length ≤ n1)
    (body : ∀ p e s m args below meth c, CallFix p m c cc1 n1 s args hm_B own → meth.sig.returnType = ret → meth.locks = false → meth.name = y.name → hm_E g s s.heap → hm_G g ad M s.heap s.heap [] → ∀ ls, lv_has ls n1 (lv_args 0 av) → W p l e rm s m args below meth c s.heap [] 0 0 (MQ below (hm_Q g post) args s rm.cells rm.slots (hm_A g)) (F0 m 0 ls [])) : hm_Met l y cc1 n1 ret rm g ad M av post := by
  refine Met.ofW (cc := cc1) (maxL := n1) (ret := ret) hy rfl ?_
  intro p e s m args below meth c s₁ B hml hv
  obtain ⟨rfl, hE, hP⟩ := hv
  have hts := atoms_spec (ws := hm_ws y cc1 n1 ret) B.pre
  have hown : s.vm.findClass own = some m.cls := ho ▸ findClass_of_methodNamed B.named
  have hl := lv_entry av (n := n1) hlen
  rw [lg_entry_eq]
  generalize (lg_sl av ++ List.replicate (n1 - (lg_sl av).length) Slot.unset).toArray = ls at hl ⊢
  exact body p e s m _ below meth c ⟨B.exec, B.bytes, hml, hown, fun w hw => hts w (List.mem_cons_of_mem _ hw)⟩ B.returns B.notSynchronized (name_of_methodNamed B.named B.method).1 hE ⟨hP, va_S.rf⟩ ls hl
/-! members of the library -/
theorem hm_obj (S : CallFix p m c cc nL s args hm_B own) {idx : Nat} (hlink : Cond.methodLink own idx objectInit ∈ hm_B) (hinst : Cond.instanceMethod objectInit ∈ hm_B) (hcode : Cond.code objectInit ⟨#[0xb1]⟩ 1 none ∈ hm_B) (hsize : ls.size = nL) (hd : decode cc pc = .ok (.invokespecial idx, 3)) (hframes : 1 ≤ R.frames) (hlocals : (rest.map fun v => v.category).sum + 12 ≤ R.locals)
    (kk : W p l e R s m args below meth c H locs cells slots Q (F0 m (pc + 3) ls rest)) : W p l e R s m args below meth c H locs cells slots Q (F0 m pc ls (.ref a :: rest)) :=
  W.objInit S.1 S.2.1 S.2.2.2.1 (S.2.2.2.2 _ hlink) (S.2.2.2.2 _ hinst) (S.2.2.2.2 _ hcode) rfl (by rw [S.2.2.1]; exact hsize) rfl hd hframes (by show 2 * 0 + _ + 12 ≤ _; omega) kk
theorem hm_min (S : CallFix p m c cc nL s args hm_B own) {index : Nat} (hlink : Cond.methodLink own index Lib.Math.min.name ∈ hm_B) (hstat : Cond.static Lib.Math.min.name ∈ hm_B) (hini : Cond.initialized "java/lang/Math" ∈ hm_B) (hcode : Cond.code Lib.Math.min.name Lib.Math.min.code 2 (some .int) ∈ hm_B) (hsize : ls.size = nL) (hframes : 1 ≤ R.frames) (hlocals : (rest.map fun v => v.category).sum + 13 ≤ R.locals) (hc : cells ≤ R.cells) (hs : slots ≤ R.slots) {x y z : Int32} (hz : (if y < x then y else x) = z) (hdg : decode cc pc = .ok (.invokestatic index, 3))
    (kk : W p l e R s m args below meth c H locs cells slots Q (F0 m (pc + 3) ls (.int z :: rest))) : W p l e R s m args below meth c H locs cells slots Q (F0 m pc ls (.int y :: .int x :: rest)) := by
  subst hz
  exact va_mmin S.1 S.2.1 (by rw [S.2.2.1, hsize]) S.2.2.2.1 (S.2.2.2.2 _ hlink) (S.2.2.2.2 _ hstat) (S.2.2.2.2 _ hini) (S.2.2.2.2 _ hcode) hframes hlocals hc hs hdg kk
theorem hm_max (S : CallFix p m c cc nL s args hm_B own) {index : Nat} (hlink : Cond.methodLink own index Lib.Math.max.name ∈ hm_B) (hstat : Cond.static Lib.Math.max.name ∈ hm_B) (hini : Cond.initialized "java/lang/Math" ∈ hm_B) (hcode : Cond.code Lib.Math.max.name Lib.Math.max.code 2 (some .int) ∈ hm_B) (hsize : ls.size = nL) (hframes : 1 ≤ R.frames) (hlocals : (rest.map fun v => v.category).sum + 13 ≤ R.locals) (hc : cells ≤ R.cells) (hs : slots ≤ R.slots) {x y z : Int32} (hz : (if x < y then y else x) = z) (hdg : decode cc pc = .ok (.invokestatic index, 3))
    (kk : W p l e R s m args below meth c H locs cells slots Q (F0 m (pc + 3) ls (.int z :: rest))) : W p l e R s m args below meth c H locs cells slots Q (F0 m pc ls (.int y :: .int x :: rest)) := by
  subst hz
  exact va_mmax S.1 S.2.1 (by rw [S.2.2.1, hsize]) S.2.2.2.1 (S.2.2.2.2 _ hlink) (S.2.2.2.2 _ hstat) (S.2.2.2.2 _ hini) (S.2.2.2.2 _ hcode) hframes hlocals hc hs hdg kk
theorem hm_copy (S : CallFix p m c cc nL s args hm_B own) (hE : hm_E g s s.heap) (hG : hm_G g ad M s.heap H locs) {index : Nat} (hlink : Cond.methodLink own index arraycopyName ∈ hm_B) (hnat : Cond.native arraycopyName ∈ hm_B) (hstat : Cond.static arraycopyName ∈ hm_B) (hini : Cond.initialized "java/lang/System" ∈ hm_B) (hsize : ls.size = nL) {t0 : TG} {a0 n0 n1 : Nat} {f0 f1 : Nat → Int32} (h0 : M t0 = some (hm_ia g n0 f0)) (ha0 : ad t0 = a0) (h1 : M t = some (hm_ia g n1 f1)) (ha1 : ad t = a) {sp dp n : Int32} (q1 : ¬ sp < 0) (q2 : ¬ dp < 0) (q3 : ¬ n < 0) (q4 : sp.toNatClampNeg + n.toNatClampNeg ≤ n0) (q5 : dp.toNatClampNeg + n.toNatClampNeg ≤ n1)
    (hframes : 1 ≤ R.frames) (hlocals : (rest.map fun v => v.category).sum + (nativeFrameWords "java/lang/System" "arraycopy" 5 + 11) ≤ R.locals) (hdg : decode cc pc = .ok (.invokestatic index, 3))
    (kk : ∀ (H1 : Heap) (locs1 : List Loc), hm_G g ad (hm_up M t (hm_ia g n1 (va_cpy f0 f1 sp.toNatClampNeg dp.toNatClampNeg n.toNatClampNeg))) s.heap H1 locs1 → W p l e R s m args below meth c H1 locs1 cells slots Q (F0 m (pc + 3) ls rest)) : W p l e R s m args below meth c H locs cells slots Q (F0 m pc ls (.int n :: .int dp :: .ref a :: .int sp :: .ref a0 :: rest)) := by
  subst ha0; subst ha1
  obtain ⟨⟨L, fl, hP, hD, hm, hi⟩, hS⟩ := hG
  obtain ⟨g1, g2⟩ := hm t _ h1
  obtain ⟨k1, hk1⟩ := hm_pl_get (f := fl) g1
  obtain ⟨g3, g4⟩ := hm t0 _ h0
  obtain ⟨k0, hk0⟩ := hm_pl_get (f := fl) g3
  exact va_copyi S.1 S.2.1 (by rw [S.2.2.1, hsize]) S.2.2.2.1 (S.2.2.2.2 _ hlink) (S.2.2.2.2 _ hnat) (S.2.2.2.2 _ hstat) (S.2.2.2.2 _ hini) hE.1 hP hD hS k0 k1 0 0 (by rw [hk0, g4]) (by rw [hk1, g2]) (ty := .int) rfl rfl rfl q1 q2 q3 q4 q5 (fun i _ => rfl) hframes hlocals hdg (fun H1 locs1 hP1 hD1 hS1 => kk H1 locs1 ⟨hm_P.put hD hm hi h1 hk1 hP1 hD1, hS1⟩)
end HMC
end
section
theorem hm_top {p : Program} {l : Launch} {e : Env} {R : Room} {s : State} {m : MethodId} {args : Array Value} {below : List Frame} {meth : Method} {c : Code} {H : Heap} {locs : List Loc} {cells slots : Nat} {Q : State → Prop} {pc : Nat} {ls : Array Slot} {rest : List Value} {x z : Int32} (h : x = z) (k : W p l e R s m args below meth c H locs cells slots Q (F0 m pc ls (.int z :: rest))) : W p l e R s m args below meth c H locs cells slots Q (F0 m pc ls (.int x :: rest)) := by
  subst h
  exact k
theorem hm_up_up {M : CT} {t : TG} {a b : va_E} : hm_up (hm_up M t a) t b = hm_up M t b := by
  funext x
  by_cases h : x = t
  · simp [hm_up, h]
  · simp [hm_up, h]
theorem hm_up_com {M : CT} {t u : TG} {a b : va_E} (h : t ≠ u) : hm_up (hm_up M t a) u b = hm_up (hm_up M u b) t a := by
  funext x
  by_cases h1 : x = t
  · subst h1
    simp [hm_up, h]
  · simp [hm_up, h1]
theorem hm_up_id {M : CT} {t : TG} {a : va_E} (h : M t = some a) : hm_up M t a = M := by
  funext x
  by_cases h1 : x = t
  · subst h1
    simp [hm_up, h]
  · simp [hm_up, h1]
/-- the answer v0, the world M' -/
def hm_pU (ad : AD) (M' : CT) (v0 : Option Value) : Option Value → AD → CT → Prop := fun v ad1 M1 => v = v0 ∧ ad1 = ad ∧ M1 = M'
section HMU
variable {p : Program} {l : Launch} {e : Env} {R : Room} {s : State} {m : MethodId} {args : Array Value} {below : List Frame} {meth : Method} {c : Code} {H : Heap} {locs : List Loc} {cells slots : Nat} {Q : State → Prop}
variable {cc : ByteArray} {pc nL : Nat} {ls : Array Slot} {rest : List Value} {g : GV} {ad : AD} {M M' : CT} {own : String} {a : Nat} {t : TG} {v0 : Option Value} {st0 st1 As : List Value} {y : MethodName} {cc1 : ByteArray} {n1 n ci N index : Nat} {ret : Option FieldType} {rm : Room} {C host : String} {T : u_T} {fs : List Value}
theorem hm_uV (S : CallFix p m c cc nL s args hm_B own) (hE : hm_E g s s.heap) (hG : hm_G g ad M s.heap H locs) (hM : hm_Met l y cc1 n1 ret rm g ad M (.ref a :: As) (hm_pU ad M' v0)) (hgd : GoodIn hm_B (wsV own index C y (hm_ws y cc1 n1 ret))) (hd : y.cls ≠ "java/lang/invoke/MethodHandle" ∧ y.cls ≠ "java/lang/invoke/VarHandle" ∧ (parseMethodDescriptor y.desc).map (fun d => d.parameters.length) = some n) (hC : y.cls = C) (ht : M t = some (.inr (ci, fs))) (ha : ad t = a) (hc : vwCl[ci]? = some (C, T, N)) (hR : rm.frames + 1 ≤ R.frames ∧ 8 + (n1 + 11) + rm.locals ≤ R.locals) (hn : As.length = n) (hsize : ls.size = nL) (hst : st0 = As.reverse ++ .ref a :: rest) (hW : (rest.map fun v => v.category).sum ≤ 8) (hdg : decode cc pc = .ok (.invokevirtual index, 3)) (hf : cells + rm.cells ≤ R.cells ∧ slots + rm.slots ≤ R.slots) (hst1 : v0.toList ++ rest = st1) (kk : ∀ H1 locs1, hm_G g ad M' s.heap H1 locs1 → W p l e R s m args below meth c H1 locs1 (cells + rm.cells) (slots + rm.slots) Q (F0 m (pc + 3) ls st1)) : W p l e R s m args below meth c H locs cells slots Q (F0 m pc ls st0) :=
  hm_callV S hE hG hM hgd ⟨hC, hd⟩ ht ha hc hR hn hsize hst hW hdg hf (fun v ad1 M1 H1 locs1 h hG1 => by obtain ⟨rfl, rfl, rfl⟩ := h; rw [hst1] ; exact kk H1 locs1 hG1)
theorem hm_uS (S : CallFix p m c cc nL s args hm_B own) (hE : hm_E g s s.heap) (hG : hm_G g ad M s.heap H locs) (hM : hm_Met l y cc1 n1 ret rm g ad M As (hm_pU ad M' v0)) (hgd : GoodIn hm_B (va_wsS own index y (hm_ws y cc1 n1 ret))) (hd : y.cls ≠ "java/lang/invoke/MethodHandle" ∧ y.cls ≠ "java/lang/invoke/VarHandle" ∧ (parseMethodDescriptor y.desc).map (fun d => d.parameters.length) = some n) (hR : rm.frames + 1 ≤ R.frames ∧ 8 + (n1 + 11) + rm.locals ≤ R.locals) (hn : As.length = n) (hsize : ls.size = nL) (hst : st0 = As.reverse ++ rest) (hW : (rest.map fun v => v.category).sum ≤ 8) (hdg : decode cc pc = .ok (.invokestatic index, 3)) (hf : cells + rm.cells ≤ R.cells ∧ slots + rm.slots ≤ R.slots) (hst1 : v0.toList ++ rest = st1) (kk : ∀ H1 locs1, hm_G g ad M' s.heap H1 locs1 → W p l e R s m args below meth c H1 locs1 (cells + rm.cells) (slots + rm.slots) Q (F0 m (pc + 3) ls st1)) : W p l e R s m args below meth c H locs cells slots Q (F0 m pc ls st0) :=
  hm_callS S hE hG hM hgd hd hR hn hsize hst hW hdg hf (fun v ad1 M1 H1 locs1 h hG1 => by obtain ⟨rfl, rfl, rfl⟩ := h; rw [hst1] ; exact kk H1 locs1 hG1)
theorem hm_uSN (S : CallFix p m c cc nL s args hm_B own) (hE : hm_E g s s.heap) (hG : hm_G g ad M s.heap H locs) (hM : hm_Met l y cc1 n1 ret rm g ad M As (hm_pU ad M' v0)) (hcd : Cond.code y cc1 n1 ret ∈ hm_B) (hini : Cond.initialized y.cls ∈ hm_B) (hsm : Cond.static y ∈ hm_B) (hlk : Cond.methodLinkNest own index y host ∈ hm_nst) (hd : y.cls ≠ "java/lang/invoke/MethodHandle" ∧ y.cls ≠ "java/lang/invoke/VarHandle" ∧ (parseMethodDescriptor y.desc).map (fun d => d.parameters.length) = some n) (hR : rm.frames + 1 ≤ R.frames ∧ 8 + (n1 + 11) + rm.locals ≤ R.locals) (hn : As.length = n) (hsize : ls.size = nL) (hst : st0 = As.reverse ++ rest) (hW : (rest.map fun v => v.category).sum ≤ 8) (hdg : decode cc pc = .ok (.invokestatic index, 3)) (hf : cells + rm.cells ≤ R.cells ∧ slots + rm.slots ≤ R.slots) (hst1 : v0.toList ++ rest = st1) (kk : ∀ H1 locs1, hm_G g ad M' s.heap H1 locs1 → W p l e R s m args below meth c H1 locs1 (cells + rm.cells) (slots + rm.slots) Q (F0 m (pc + 3) ls st1)) : W p l e R s m args below meth c H locs cells slots Q (F0 m pc ls st0) :=
  hm_callSN S hE hG hM hcd hini hsm hlk hd hR hn hsize hst hW hdg hf (fun v ad1 M1 H1 locs1 h hG1 => by obtain ⟨rfl, rfl, rfl⟩ := h; rw [hst1] ; exact kk H1 locs1 hG1)
theorem hm_uI (S : CallFix p m c cc nL s args hm_B own) (hE : hm_E g s s.heap) (hG : hm_G g ad M s.heap H locs) (hM : hm_Met l y cc1 n1 none rm g ad M (.ref a :: As) (hm_pU ad M' v0)) (hcd : Cond.code y cc1 n1 none ∈ hm_B) (hini : Cond.initialized y.cls ∈ hm_B) (hlk : Cond.methodLink own index y ∈ hm_B) (him : Cond.instanceMethod y ∈ hm_B) (hy1 : y.name = "<init>") (hd : y.cls ≠ "java/lang/invoke/MethodHandle" ∧ y.cls ≠ "java/lang/invoke/VarHandle" ∧ (parseMethodDescriptor y.desc).map (fun d => d.parameters.length) = some n) (hR : rm.frames + 1 ≤ R.frames ∧ 8 + (n1 + 11) + rm.locals ≤ R.locals) (hn : As.length = n) (hsize : ls.size = nL) (hst : st0 = As.reverse ++ .ref a :: rest) (hW : (rest.map fun v => v.category).sum ≤ 8) (hdg : decode cc pc = .ok (.invokespecial index, 3)) (hf : cells + rm.cells ≤ R.cells ∧ slots + rm.slots ≤ R.slots) (hst1 : v0.toList ++ rest = st1) (kk : ∀ H1 locs1, hm_G g ad M' s.heap H1 locs1 → W p l e R s m args below meth c H1 locs1 (cells + rm.cells) (slots + rm.slots) Q (F0 m (pc + 3) ls st1)) : W p l e R s m args below meth c H locs cells slots Q (F0 m pc ls st0) :=
  hm_callI S hE hG hM hcd hini hlk him hy1 hd hR hn hsize hst hW hdg hf (fun v ad1 M1 H1 locs1 h hG1 => by obtain ⟨rfl, rfl, rfl⟩ := h; rw [hst1] ; exact kk H1 locs1 hG1)
theorem hm_uIN (S : CallFix p m c cc nL s args hm_B own) (hE : hm_E g s s.heap) (hG : hm_G g ad M s.heap H locs) (hM : hm_Met l y cc1 n1 none rm g ad M (.ref a :: As) (hm_pU ad M' v0)) (hcd : Cond.code y cc1 n1 none ∈ hm_B) (hini : Cond.initialized y.cls ∈ hm_B) (hlk : Cond.methodLinkNest own index y host ∈ hm_nst) (him : Cond.instanceMethod y ∈ hm_B) (hy1 : y.name = "<init>") (hd : y.cls ≠ "java/lang/invoke/MethodHandle" ∧ y.cls ≠ "java/lang/invoke/VarHandle" ∧ (parseMethodDescriptor y.desc).map (fun d => d.parameters.length) = some n) (hR : rm.frames + 1 ≤ R.frames ∧ 8 + (n1 + 11) + rm.locals ≤ R.locals) (hn : As.length = n) (hsize : ls.size = nL) (hst : st0 = As.reverse ++ .ref a :: rest) (hW : (rest.map fun v => v.category).sum ≤ 8) (hdg : decode cc pc = .ok (.invokespecial index, 3)) (hf : cells + rm.cells ≤ R.cells ∧ slots + rm.slots ≤ R.slots) (hst1 : v0.toList ++ rest = st1) (kk : ∀ H1 locs1, hm_G g ad M' s.heap H1 locs1 → W p l e R s m args below meth c H1 locs1 (cells + rm.cells) (slots + rm.slots) Q (F0 m (pc + 3) ls st1)) : W p l e R s m args below meth c H locs cells slots Q (F0 m pc ls st0) :=
  hm_callIN S hE hG hM hcd hini hlk him hy1 hd hR hn hsize hst hW hdg hf (fun v ad1 M1 H1 locs1 h hG1 => by obtain ⟨rfl, rfl, rfl⟩ := h; rw [hst1] ; exact kk H1 locs1 hG1)
end HMU
theorem hd_J15_checkIndex_7cf53 : yJ15_checkIndex_7cf53.cls ≠ "java/lang/invoke/MethodHandle" ∧ yJ15_checkIndex_7cf53.cls ≠ "java/lang/invoke/VarHandle" ∧ (parseMethodDescriptor yJ15_checkIndex_7cf53.desc).map (fun d => d.parameters.length) = some 2 := by decide +kernel
theorem hd_J3_checkIndex_8e157 : yJ3_checkIndex_8e157.cls ≠ "java/lang/invoke/MethodHandle" ∧ yJ3_checkIndex_8e157.cls ≠ "java/lang/invoke/VarHandle" ∧ (parseMethodDescriptor yJ3_checkIndex_8e157.desc).map (fun d => d.parameters.length) = some 3 := by decide +kernel
theorem hd_J6_bitCount_0f7a4 : yJ6_bitCount_0f7a4.cls ≠ "java/lang/invoke/MethodHandle" ∧ yJ6_bitCount_0f7a4.cls ≠ "java/lang/invoke/VarHandle" ∧ (parseMethodDescriptor yJ6_bitCount_0f7a4.desc).map (fun d => d.parameters.length) = some 1 := by decide +kernel
theorem hd_J7_copyOf_1904c : yJ7_copyOf_1904c.cls ≠ "java/lang/invoke/MethodHandle" ∧ yJ7_copyOf_1904c.cls ≠ "java/lang/invoke/VarHandle" ∧ (parseMethodDescriptor yJ7_copyOf_1904c.desc).map (fun d => d.parameters.length) = some 2 := by decide +kernel
theorem hd_J7_copyOf_6403c : yJ7_copyOf_6403c.cls ≠ "java/lang/invoke/MethodHandle" ∧ yJ7_copyOf_6403c.cls ≠ "java/lang/invoke/VarHandle" ∧ (parseMethodDescriptor yJ7_copyOf_6403c.desc).map (fun d => d.parameters.length) = some 3 := by decide +kernel
theorem hd_J8_hugeLength_7cf53 : yJ8_hugeLength_7cf53.cls ≠ "java/lang/invoke/MethodHandle" ∧ yJ8_hugeLength_7cf53.cls ≠ "java/lang/invoke/VarHandle" ∧ (parseMethodDescriptor yJ8_hugeLength_7cf53.desc).map (fun d => d.parameters.length) = some 2 := by decide +kernel
theorem hd_J8_newLength_cabcc : yJ8_newLength_cabcc.cls ≠ "java/lang/invoke/MethodHandle" ∧ yJ8_newLength_cabcc.cls ≠ "java/lang/invoke/VarHandle" ∧ (parseMethodDescriptor yJ8_newLength_cabcc.desc).map (fun d => d.parameters.length) = some 3 := by decide +kernel
theorem hd_Jx4a65c_add_72be8 : yJx4a65c_add_72be8.cls ≠ "java/lang/invoke/MethodHandle" ∧ yJx4a65c_add_72be8.cls ≠ "java/lang/invoke/VarHandle" ∧ (parseMethodDescriptor yJx4a65c_add_72be8.desc).map (fun d => d.parameters.length) = some 3 := by decide +kernel
theorem hd_Jx4a65c_add_9ea2d : yJx4a65c_add_9ea2d.cls ≠ "java/lang/invoke/MethodHandle" ∧ yJx4a65c_add_9ea2d.cls ≠ "java/lang/invoke/VarHandle" ∧ (parseMethodDescriptor yJx4a65c_add_9ea2d.desc).map (fun d => d.parameters.length) = some 1 := by decide +kernel
theorem hd_Jx4a65c_elementData_915e3 : yJx4a65c_elementData_915e3.cls ≠ "java/lang/invoke/MethodHandle" ∧ yJx4a65c_elementData_915e3.cls ≠ "java/lang/invoke/VarHandle" ∧ (parseMethodDescriptor yJx4a65c_elementData_915e3.desc).map (fun d => d.parameters.length) = some 1 := by decide +kernel
theorem hd_Jx4a65c_fastRemove_b59b0 : yJx4a65c_fastRemove_b59b0.cls ≠ "java/lang/invoke/MethodHandle" ∧ yJx4a65c_fastRemove_b59b0.cls ≠ "java/lang/invoke/VarHandle" ∧ (parseMethodDescriptor yJx4a65c_fastRemove_b59b0.desc).map (fun d => d.parameters.length) = some 2 := by decide +kernel
theorem hd_Jx4a65c_get_915e3 : yJx4a65c_get_915e3.cls ≠ "java/lang/invoke/MethodHandle" ∧ yJx4a65c_get_915e3.cls ≠ "java/lang/invoke/VarHandle" ∧ (parseMethodDescriptor yJx4a65c_get_915e3.desc).map (fun d => d.parameters.length) = some 1 := by decide +kernel
theorem hd_Jx4a65c_grow_92f84 : yJx4a65c_grow_92f84.cls ≠ "java/lang/invoke/MethodHandle" ∧ yJx4a65c_grow_92f84.cls ≠ "java/lang/invoke/VarHandle" ∧ (parseMethodDescriptor yJx4a65c_grow_92f84.desc).map (fun d => d.parameters.length) = some 1 := by decide +kernel
theorem hd_Jx4a65c_grow_d5877 : yJx4a65c_grow_d5877.cls ≠ "java/lang/invoke/MethodHandle" ∧ yJx4a65c_grow_d5877.cls ≠ "java/lang/invoke/VarHandle" ∧ (parseMethodDescriptor yJx4a65c_grow_d5877.desc).map (fun d => d.parameters.length) = some 0 := by decide +kernel
theorem hd_Jx4a65c_init_da8c8 : yJx4a65c_init_da8c8.cls ≠ "java/lang/invoke/MethodHandle" ∧ yJx4a65c_init_da8c8.cls ≠ "java/lang/invoke/VarHandle" ∧ (parseMethodDescriptor yJx4a65c_init_da8c8.desc).map (fun d => d.parameters.length) = some 0 := by decide +kernel
theorem hd_Jx4a65c_remove_915e3 : yJx4a65c_remove_915e3.cls ≠ "java/lang/invoke/MethodHandle" ∧ yJx4a65c_remove_915e3.cls ≠ "java/lang/invoke/VarHandle" ∧ (parseMethodDescriptor yJx4a65c_remove_915e3.desc).map (fun d => d.parameters.length) = some 1 := by decide +kernel
theorem hd_Jx4a65c_size_8abf5 : yJx4a65c_size_8abf5.cls ≠ "java/lang/invoke/MethodHandle" ∧ yJx4a65c_size_8abf5.cls ≠ "java/lang/invoke/VarHandle" ∧ (parseMethodDescriptor yJx4a65c_size_8abf5.desc).map (fun d => d.parameters.length) = some 0 := by decide +kernel
theorem hd_Jxa1e45_init_da8c8 : yJxa1e45_init_da8c8.cls ≠ "java/lang/invoke/MethodHandle" ∧ yJxa1e45_init_da8c8.cls ≠ "java/lang/invoke/VarHandle" ∧ (parseMethodDescriptor yJxa1e45_init_da8c8.desc).map (fun d => d.parameters.length) = some 0 := by decide +kernel
theorem hd_Jxc12de_init_da8c8 : yJxc12de_init_da8c8.cls ≠ "java/lang/invoke/MethodHandle" ∧ yJxc12de_init_da8c8.cls ≠ "java/lang/invoke/VarHandle" ∧ (parseMethodDescriptor yJxc12de_init_da8c8.desc).map (fun d => d.parameters.length) = some 0 := by decide +kernel
theorem hd_L_below : yL_below.cls ≠ "java/lang/invoke/MethodHandle" ∧ yL_below.cls ≠ "java/lang/invoke/VarHandle" ∧ (parseMethodDescriptor yL_below.desc).map (fun d => d.parameters.length) = some 2 := by decide +kernel
theorem hd_L_cell : yL_cell.cls ≠ "java/lang/invoke/MethodHandle" ∧ yL_cell.cls ≠ "java/lang/invoke/VarHandle" ∧ (parseMethodDescriptor yL_cell.desc).map (fun d => d.parameters.length) = some 2 := by decide +kernel
theorem hd_X0_become : yX0_become.cls ≠ "java/lang/invoke/MethodHandle" ∧ yX0_become.cls ≠ "java/lang/invoke/VarHandle" ∧ (parseMethodDescriptor yX0_become.desc).map (fun d => d.parameters.length) = some 1 := by decide +kernel
theorem hd_X0_fall : yX0_fall.cls ≠ "java/lang/invoke/MethodHandle" ∧ yX0_fall.cls ≠ "java/lang/invoke/VarHandle" ∧ (parseMethodDescriptor yX0_fall.desc).map (fun d => d.parameters.length) = some 0 := by decide +kernel
theorem hd_X0_init : yX0_init.cls ≠ "java/lang/invoke/MethodHandle" ∧ yX0_init.cls ≠ "java/lang/invoke/VarHandle" ∧ (parseMethodDescriptor yX0_init.desc).map (fun d => d.parameters.length) = some 0 := by decide +kernel
theorem hd_X0_rise : yX0_rise.cls ≠ "java/lang/invoke/MethodHandle" ∧ yX0_rise.cls ≠ "java/lang/invoke/VarHandle" ∧ (parseMethodDescriptor yX0_rise.desc).map (fun d => d.parameters.length) = some 2 := by decide +kernel
theorem hd_X0_step : yX0_step.cls ≠ "java/lang/invoke/MethodHandle" ∧ yX0_step.cls ≠ "java/lang/invoke/VarHandle" ∧ (parseMethodDescriptor yX0_step.desc).map (fun d => d.parameters.length) = some 3 := by decide +kernel
theorem hd_X1_addLoud : yX1_addLoud.cls ≠ "java/lang/invoke/MethodHandle" ∧ yX1_addLoud.cls ≠ "java/lang/invoke/VarHandle" ∧ (parseMethodDescriptor yX1_addLoud.desc).map (fun d => d.parameters.length) = some 2 := by decide +kernel
theorem hd_X1_clearLoud : yX1_clearLoud.cls ≠ "java/lang/invoke/MethodHandle" ∧ yX1_clearLoud.cls ≠ "java/lang/invoke/VarHandle" ∧ (parseMethodDescriptor yX1_clearLoud.desc).map (fun d => d.parameters.length) = some 0 := by decide +kernel
theorem hd_X1_countLoudNow : yX1_countLoudNow.cls ≠ "java/lang/invoke/MethodHandle" ∧ yX1_countLoudNow.cls ≠ "java/lang/invoke/VarHandle" ∧ (parseMethodDescriptor yX1_countLoudNow.desc).map (fun d => d.parameters.length) = some 0 := by decide +kernel
theorem hd_X1_forget : yX1_forget.cls ≠ "java/lang/invoke/MethodHandle" ∧ yX1_forget.cls ≠ "java/lang/invoke/VarHandle" ∧ (parseMethodDescriptor yX1_forget.desc).map (fun d => d.parameters.length) = some 0 := by decide +kernel
theorem hd_X1_hasChanged : yX1_hasChanged.cls ≠ "java/lang/invoke/MethodHandle" ∧ yX1_hasChanged.cls ≠ "java/lang/invoke/VarHandle" ∧ (parseMethodDescriptor yX1_hasChanged.desc).map (fun d => d.parameters.length) = some 0 := by decide +kernel
theorem hd_X1_hasLoudOf : yX1_hasLoudOf.cls ≠ "java/lang/invoke/MethodHandle" ∧ yX1_hasLoudOf.cls ≠ "java/lang/invoke/VarHandle" ∧ (parseMethodDescriptor yX1_hasLoudOf.desc).map (fun d => d.parameters.length) = some 1 := by decide +kernel
theorem hd_X1_hasTold : yX1_hasTold.cls ≠ "java/lang/invoke/MethodHandle" ∧ yX1_hasTold.cls ≠ "java/lang/invoke/VarHandle" ∧ (parseMethodDescriptor yX1_hasTold.desc).map (fun d => d.parameters.length) = some 0 := by decide +kernel
theorem hd_X1_init : yX1_init.cls ≠ "java/lang/invoke/MethodHandle" ∧ yX1_init.cls ≠ "java/lang/invoke/VarHandle" ∧ (parseMethodDescriptor yX1_init.desc).map (fun d => d.parameters.length) = some 0 := by decide +kernel
theorem hd_X1_isDue : yX1_isDue.cls ≠ "java/lang/invoke/MethodHandle" ∧ yX1_isDue.cls ≠ "java/lang/invoke/VarHandle" ∧ (parseMethodDescriptor yX1_isDue.desc).map (fun d => d.parameters.length) = some 2 := by decide +kernel
theorem hd_X1_isLoud : yX1_isLoud.cls ≠ "java/lang/invoke/MethodHandle" ∧ yX1_isLoud.cls ≠ "java/lang/invoke/VarHandle" ∧ (parseMethodDescriptor yX1_isLoud.desc).map (fun d => d.parameters.length) = some 0 := by decide +kernel
theorem hd_X1_markTold : yX1_markTold.cls ≠ "java/lang/invoke/MethodHandle" ∧ yX1_markTold.cls ≠ "java/lang/invoke/VarHandle" ∧ (parseMethodDescriptor yX1_markTold.desc).map (fun d => d.parameters.length) = some 1 := by decide +kernel
theorem hd_X2_covers : yX2_covers.cls ≠ "java/lang/invoke/MethodHandle" ∧ yX2_covers.cls ≠ "java/lang/invoke/VarHandle" ∧ (parseMethodDescriptor yX2_covers.desc).map (fun d => d.parameters.length) = some 3 := by decide +kernel
theorem hd_X2_init : yX2_init.cls ≠ "java/lang/invoke/MethodHandle" ∧ yX2_init.cls ≠ "java/lang/invoke/VarHandle" ∧ (parseMethodDescriptor yX2_init.desc).map (fun d => d.parameters.length) = some 3 := by decide +kernel
theorem hd_X3_factOf : yX3_factOf.cls ≠ "java/lang/invoke/MethodHandle" ∧ yX3_factOf.cls ≠ "java/lang/invoke/VarHandle" ∧ (parseMethodDescriptor yX3_factOf.desc).map (fun d => d.parameters.length) = some 2 := by decide +kernel
theorem hd_X3_init : yX3_init.cls ≠ "java/lang/invoke/MethodHandle" ∧ yX3_init.cls ≠ "java/lang/invoke/VarHandle" ∧ (parseMethodDescriptor yX3_init.desc).map (fun d => d.parameters.length) = some 0 := by decide +kernel
theorem hd_X3_keep : yX3_keep.cls ≠ "java/lang/invoke/MethodHandle" ∧ yX3_keep.cls ≠ "java/lang/invoke/VarHandle" ∧ (parseMethodDescriptor yX3_keep.desc).map (fun d => d.parameters.length) = some 4 := by decide +kernel
theorem hd_X4_alertOf : yX4_alertOf.cls ≠ "java/lang/invoke/MethodHandle" ∧ yX4_alertOf.cls ≠ "java/lang/invoke/VarHandle" ∧ (parseMethodDescriptor yX4_alertOf.desc).map (fun d => d.parameters.length) = some 1 := by decide +kernel
theorem hd_X4_burns : yX4_burns.cls ≠ "java/lang/invoke/MethodHandle" ∧ yX4_burns.cls ≠ "java/lang/invoke/VarHandle" ∧ (parseMethodDescriptor yX4_burns.desc).map (fun d => d.parameters.length) = some 1 := by decide +kernel
theorem hd_X4_countAlertsFrom : yX4_countAlertsFrom.cls ≠ "java/lang/invoke/MethodHandle" ∧ yX4_countAlertsFrom.cls ≠ "java/lang/invoke/VarHandle" ∧ (parseMethodDescriptor yX4_countAlertsFrom.desc).map (fun d => d.parameters.length) = some 1 := by decide +kernel
theorem hd_X4_hasAlert : yX4_hasAlert.cls ≠ "java/lang/invoke/MethodHandle" ∧ yX4_hasAlert.cls ≠ "java/lang/invoke/VarHandle" ∧ (parseMethodDescriptor yX4_hasAlert.desc).map (fun d => d.parameters.length) = some 1 := by decide +kernel
theorem hd_X4_init : yX4_init.cls ≠ "java/lang/invoke/MethodHandle" ∧ yX4_init.cls ≠ "java/lang/invoke/VarHandle" ∧ (parseMethodDescriptor yX4_init.desc).map (fun d => d.parameters.length) = some 5 := by decide +kernel
theorem hd_X4_isBeyond : yX4_isBeyond.cls ≠ "java/lang/invoke/MethodHandle" ∧ yX4_isBeyond.cls ≠ "java/lang/invoke/VarHandle" ∧ (parseMethodDescriptor yX4_isBeyond.desc).map (fun d => d.parameters.length) = some 2 := by decide +kernel
theorem hd_X4_keyOfAlert : yX4_keyOfAlert.cls ≠ "java/lang/invoke/MethodHandle" ∧ yX4_keyOfAlert.cls ≠ "java/lang/invoke/VarHandle" ∧ (parseMethodDescriptor yX4_keyOfAlert.desc).map (fun d => d.parameters.length) = some 1 := by decide +kernel
theorem hd_X4_takes : yX4_takes.cls ≠ "java/lang/invoke/MethodHandle" ∧ yX4_takes.cls ≠ "java/lang/invoke/VarHandle" ∧ (parseMethodDescriptor yX4_takes.desc).map (fun d => d.parameters.length) = some 2 := by decide +kernel
theorem hd_X5_beginAnew : yX5_beginAnew.cls ≠ "java/lang/invoke/MethodHandle" ∧ yX5_beginAnew.cls ≠ "java/lang/invoke/VarHandle" ∧ (parseMethodDescriptor yX5_beginAnew.desc).map (fun d => d.parameters.length) = some 0 := by decide +kernel
theorem hd_X5_columnFor : yX5_columnFor.cls ≠ "java/lang/invoke/MethodHandle" ∧ yX5_columnFor.cls ≠ "java/lang/invoke/VarHandle" ∧ (parseMethodDescriptor yX5_columnFor.desc).map (fun d => d.parameters.length) = some 1 := by decide +kernel
theorem hd_X5_growthOf : yX5_growthOf.cls ≠ "java/lang/invoke/MethodHandle" ∧ yX5_growthOf.cls ≠ "java/lang/invoke/VarHandle" ∧ (parseMethodDescriptor yX5_growthOf.desc).map (fun d => d.parameters.length) = some 3 := by decide +kernel
theorem hd_X5_init : yX5_init.cls ≠ "java/lang/invoke/MethodHandle" ∧ yX5_init.cls ≠ "java/lang/invoke/VarHandle" ∧ (parseMethodDescriptor yX5_init.desc).map (fun d => d.parameters.length) = some 4 := by decide +kernel
theorem hd_X5_keepSample : yX5_keepSample.cls ≠ "java/lang/invoke/MethodHandle" ∧ yX5_keepSample.cls ≠ "java/lang/invoke/VarHandle" ∧ (parseMethodDescriptor yX5_keepSample.desc).map (fun d => d.parameters.length) = some 0 := by decide +kernel
theorem hd_X5_lookOver : yX5_lookOver.cls ≠ "java/lang/invoke/MethodHandle" ∧ yX5_lookOver.cls ≠ "java/lang/invoke/VarHandle" ∧ (parseMethodDescriptor yX5_lookOver.desc).map (fun d => d.parameters.length) = some 3 := by decide +kernel
theorem hd_X5_meanOver : yX5_meanOver.cls ≠ "java/lang/invoke/MethodHandle" ∧ yX5_meanOver.cls ≠ "java/lang/invoke/VarHandle" ∧ (parseMethodDescriptor yX5_meanOver.desc).map (fun d => d.parameters.length) = some 2 := by decide +kernel
theorem hd_X5_partOver : yX5_partOver.cls ≠ "java/lang/invoke/MethodHandle" ∧ yX5_partOver.cls ≠ "java/lang/invoke/VarHandle" ∧ (parseMethodDescriptor yX5_partOver.desc).map (fun d => d.parameters.length) = some 3 := by decide +kernel
theorem hd_X5_past : yX5_past.cls ≠ "java/lang/invoke/MethodHandle" ∧ yX5_past.cls ≠ "java/lang/invoke/VarHandle" ∧ (parseMethodDescriptor yX5_past.desc).map (fun d => d.parameters.length) = some 3 := by decide +kernel
theorem hd_X5_take : yX5_take.cls ≠ "java/lang/invoke/MethodHandle" ∧ yX5_take.cls ≠ "java/lang/invoke/VarHandle" ∧ (parseMethodDescriptor yX5_take.desc).map (fun d => d.parameters.length) = some 1 := by decide +kernel
theorem hd_X5_utmostOver : yX5_utmostOver.cls ≠ "java/lang/invoke/MethodHandle" ∧ yX5_utmostOver.cls ≠ "java/lang/invoke/VarHandle" ∧ (parseMethodDescriptor yX5_utmostOver.desc).map (fun d => d.parameters.length) = some 3 := by decide +kernel
theorem hd_X6_alert : yX6_alert.cls ≠ "java/lang/invoke/MethodHandle" ∧ yX6_alert.cls ≠ "java/lang/invoke/VarHandle" ∧ (parseMethodDescriptor yX6_alert.desc).map (fun d => d.parameters.length) = some 3 := by decide +kernel
theorem hd_X6_alertAt : yX6_alertAt.cls ≠ "java/lang/invoke/MethodHandle" ∧ yX6_alertAt.cls ≠ "java/lang/invoke/VarHandle" ∧ (parseMethodDescriptor yX6_alertAt.desc).map (fun d => d.parameters.length) = some 2 := by decide +kernel
theorem hd_X6_beyond : yX6_beyond.cls ≠ "java/lang/invoke/MethodHandle" ∧ yX6_beyond.cls ≠ "java/lang/invoke/VarHandle" ∧ (parseMethodDescriptor yX6_beyond.desc).map (fun d => d.parameters.length) = some 2 := by decide +kernel
theorem hd_X6_burningIn : yX6_burningIn.cls ≠ "java/lang/invoke/MethodHandle" ∧ yX6_burningIn.cls ≠ "java/lang/invoke/VarHandle" ∧ (parseMethodDescriptor yX6_burningIn.desc).map (fun d => d.parameters.length) = some 1 := by decide +kernel
theorem hd_X6_calm : yX6_calm.cls ≠ "java/lang/invoke/MethodHandle" ∧ yX6_calm.cls ≠ "java/lang/invoke/VarHandle" ∧ (parseMethodDescriptor yX6_calm.desc).map (fun d => d.parameters.length) = some 1 := by decide +kernel
theorem hd_X6_clock : yX6_clock.cls ≠ "java/lang/invoke/MethodHandle" ∧ yX6_clock.cls ≠ "java/lang/invoke/VarHandle" ∧ (parseMethodDescriptor yX6_clock.desc).map (fun d => d.parameters.length) = some 0 := by decide +kernel
theorem hd_X6_countAlerts : yX6_countAlerts.cls ≠ "java/lang/invoke/MethodHandle" ∧ yX6_countAlerts.cls ≠ "java/lang/invoke/VarHandle" ∧ (parseMethodDescriptor yX6_countAlerts.desc).map (fun d => d.parameters.length) = some 1 := by decide +kernel
theorem hd_X6_countCovered : yX6_countCovered.cls ≠ "java/lang/invoke/MethodHandle" ∧ yX6_countCovered.cls ≠ "java/lang/invoke/VarHandle" ∧ (parseMethodDescriptor yX6_countCovered.desc).map (fun d => d.parameters.length) = some 1 := by decide +kernel
theorem hd_X6_countLoud : yX6_countLoud.cls ≠ "java/lang/invoke/MethodHandle" ∧ yX6_countLoud.cls ≠ "java/lang/invoke/VarHandle" ∧ (parseMethodDescriptor yX6_countLoud.desc).map (fun d => d.parameters.length) = some 1 := by decide +kernel
theorem hd_X6_digest : yX6_digest.cls ≠ "java/lang/invoke/MethodHandle" ∧ yX6_digest.cls ≠ "java/lang/invoke/VarHandle" ∧ (parseMethodDescriptor yX6_digest.desc).map (fun d => d.parameters.length) = some 0 := by decide +kernel
theorem hd_X6_dropHushesOf : yX6_dropHushesOf.cls ≠ "java/lang/invoke/MethodHandle" ∧ yX6_dropHushesOf.cls ≠ "java/lang/invoke/VarHandle" ∧ (parseMethodDescriptor yX6_dropHushesOf.desc).map (fun d => d.parameters.length) = some 1 := by decide +kernel
theorem hd_X6_dropRule : yX6_dropRule.cls ≠ "java/lang/invoke/MethodHandle" ∧ yX6_dropRule.cls ≠ "java/lang/invoke/VarHandle" ∧ (parseMethodDescriptor yX6_dropRule.desc).map (fun d => d.parameters.length) = some 0 := by decide +kernel
theorem hd_X6_forgetGroups : yX6_forgetGroups.cls ≠ "java/lang/invoke/MethodHandle" ∧ yX6_forgetGroups.cls ≠ "java/lang/invoke/VarHandle" ∧ (parseMethodDescriptor yX6_forgetGroups.desc).map (fun d => d.parameters.length) = some 0 := by decide +kernel
theorem hd_X6_gatherLoud : yX6_gatherLoud.cls ≠ "java/lang/invoke/MethodHandle" ∧ yX6_gatherLoud.cls ≠ "java/lang/invoke/VarHandle" ∧ (parseMethodDescriptor yX6_gatherLoud.desc).map (fun d => d.parameters.length) = some 0 := by decide +kernel
theorem hd_X6_greatestRank : yX6_greatestRank.cls ≠ "java/lang/invoke/MethodHandle" ∧ yX6_greatestRank.cls ≠ "java/lang/invoke/VarHandle" ∧ (parseMethodDescriptor yX6_greatestRank.desc).map (fun d => d.parameters.length) = some 1 := by decide +kernel
theorem hd_X6_group : yX6_group.cls ≠ "java/lang/invoke/MethodHandle" ∧ yX6_group.cls ≠ "java/lang/invoke/VarHandle" ∧ (parseMethodDescriptor yX6_group.desc).map (fun d => d.parameters.length) = some 2 := by decide +kernel
theorem hd_X6_groupOf : yX6_groupOf.cls ≠ "java/lang/invoke/MethodHandle" ∧ yX6_groupOf.cls ≠ "java/lang/invoke/VarHandle" ∧ (parseMethodDescriptor yX6_groupOf.desc).map (fun d => d.parameters.length) = some 2 := by decide +kernel
theorem hd_X6_hasKey : yX6_hasKey.cls ≠ "java/lang/invoke/MethodHandle" ∧ yX6_hasKey.cls ≠ "java/lang/invoke/VarHandle" ∧ (parseMethodDescriptor yX6_hasKey.desc).map (fun d => d.parameters.length) = some 2 := by decide +kernel
theorem hd_X6_hearing : yX6_hearing.cls ≠ "java/lang/invoke/MethodHandle" ∧ yX6_hearing.cls ≠ "java/lang/invoke/VarHandle" ∧ (parseMethodDescriptor yX6_hearing.desc).map (fun d => d.parameters.length) = some 3 := by decide +kernel
theorem hd_X6_hush : yX6_hush.cls ≠ "java/lang/invoke/MethodHandle" ∧ yX6_hush.cls ≠ "java/lang/invoke/VarHandle" ∧ (parseMethodDescriptor yX6_hush.desc).map (fun d => d.parameters.length) = some 3 := by decide +kernel
theorem hd_X6_init : yX6_init.cls ≠ "java/lang/invoke/MethodHandle" ∧ yX6_init.cls ≠ "java/lang/invoke/VarHandle" ∧ (parseMethodDescriptor yX6_init.desc).map (fun d => d.parameters.length) = some 0 := by decide +kernel
theorem hd_X6_isHushed : yX6_isHushed.cls ≠ "java/lang/invoke/MethodHandle" ∧ yX6_isHushed.cls ≠ "java/lang/invoke/VarHandle" ∧ (parseMethodDescriptor yX6_isHushed.desc).map (fun d => d.parameters.length) = some 3 := by decide +kernel
theorem hd_X6_isOutside : yX6_isOutside.cls ≠ "java/lang/invoke/MethodHandle" ∧ yX6_isOutside.cls ≠ "java/lang/invoke/VarHandle" ∧ (parseMethodDescriptor yX6_isOutside.desc).map (fun d => d.parameters.length) = some 3 := by decide +kernel
theorem hd_X6_isQuiet : yX6_isQuiet.cls ≠ "java/lang/invoke/MethodHandle" ∧ yX6_isQuiet.cls ≠ "java/lang/invoke/VarHandle" ∧ (parseMethodDescriptor yX6_isQuiet.desc).map (fun d => d.parameters.length) = some 3 := by decide +kernel
theorem hd_X6_look : yX6_look.cls ≠ "java/lang/invoke/MethodHandle" ∧ yX6_look.cls ≠ "java/lang/invoke/VarHandle" ∧ (parseMethodDescriptor yX6_look.desc).map (fun d => d.parameters.length) = some 3 := by decide +kernel
theorem hd_X6_lookedAt : yX6_lookedAt.cls ≠ "java/lang/invoke/MethodHandle" ∧ yX6_lookedAt.cls ≠ "java/lang/invoke/VarHandle" ∧ (parseMethodDescriptor yX6_lookedAt.desc).map (fun d => d.parameters.length) = some 3 := by decide +kernel
theorem hd_X6_loudWithout : yX6_loudWithout.cls ≠ "java/lang/invoke/MethodHandle" ∧ yX6_loudWithout.cls ≠ "java/lang/invoke/VarHandle" ∧ (parseMethodDescriptor yX6_loudWithout.desc).map (fun d => d.parameters.length) = some 1 := by decide +kernel
theorem hd_X6_many : yX6_many.cls ≠ "java/lang/invoke/MethodHandle" ∧ yX6_many.cls ≠ "java/lang/invoke/VarHandle" ∧ (parseMethodDescriptor yX6_many.desc).map (fun d => d.parameters.length) = some 1 := by decide +kernel
theorem hd_X6_mix : yX6_mix.cls ≠ "java/lang/invoke/MethodHandle" ∧ yX6_mix.cls ≠ "java/lang/invoke/VarHandle" ∧ (parseMethodDescriptor yX6_mix.desc).map (fun d => d.parameters.length) = some 2 := by decide +kernel
theorem hd_X6_mixAlert : yX6_mixAlert.cls ≠ "java/lang/invoke/MethodHandle" ∧ yX6_mixAlert.cls ≠ "java/lang/invoke/VarHandle" ∧ (parseMethodDescriptor yX6_mixAlert.desc).map (fun d => d.parameters.length) = some 2 := by decide +kernel
theorem hd_X6_mixHush : yX6_mixHush.cls ≠ "java/lang/invoke/MethodHandle" ∧ yX6_mixHush.cls ≠ "java/lang/invoke/VarHandle" ∧ (parseMethodDescriptor yX6_mixHush.desc).map (fun d => d.parameters.length) = some 2 := by decide +kernel
theorem hd_X6_mixNotices : yX6_mixNotices.cls ≠ "java/lang/invoke/MethodHandle" ∧ yX6_mixNotices.cls ≠ "java/lang/invoke/VarHandle" ∧ (parseMethodDescriptor yX6_mixNotices.desc).map (fun d => d.parameters.length) = some 1 := by decide +kernel
theorem hd_X6_mixSeries : yX6_mixSeries.cls ≠ "java/lang/invoke/MethodHandle" ∧ yX6_mixSeries.cls ≠ "java/lang/invoke/VarHandle" ∧ (parseMethodDescriptor yX6_mixSeries.desc).map (fun d => d.parameters.length) = some 2 := by decide +kernel
theorem hd_X6_notice : yX6_notice.cls ≠ "java/lang/invoke/MethodHandle" ∧ yX6_notice.cls ≠ "java/lang/invoke/VarHandle" ∧ (parseMethodDescriptor yX6_notice.desc).map (fun d => d.parameters.length) = some 2 := by decide +kernel
theorem hd_X6_now : yX6_now.cls ≠ "java/lang/invoke/MethodHandle" ∧ yX6_now.cls ≠ "java/lang/invoke/VarHandle" ∧ (parseMethodDescriptor yX6_now.desc).map (fun d => d.parameters.length) = some 2 := by decide +kernel
theorem hd_X6_ofHush : yX6_ofHush.cls ≠ "java/lang/invoke/MethodHandle" ∧ yX6_ofHush.cls ≠ "java/lang/invoke/VarHandle" ∧ (parseMethodDescriptor yX6_ofHush.desc).map (fun d => d.parameters.length) = some 2 := by decide +kernel
theorem hd_X6_placeOf : yX6_placeOf.cls ≠ "java/lang/invoke/MethodHandle" ∧ yX6_placeOf.cls ≠ "java/lang/invoke/VarHandle" ∧ (parseMethodDescriptor yX6_placeOf.desc).map (fun d => d.parameters.length) = some 2 := by decide +kernel
theorem hd_X6_requireHush : yX6_requireHush.cls ≠ "java/lang/invoke/MethodHandle" ∧ yX6_requireHush.cls ≠ "java/lang/invoke/VarHandle" ∧ (parseMethodDescriptor yX6_requireHush.desc).map (fun d => d.parameters.length) = some 1 := by decide +kernel
theorem hd_X6_requireLimit : yX6_requireLimit.cls ≠ "java/lang/invoke/MethodHandle" ∧ yX6_requireLimit.cls ≠ "java/lang/invoke/VarHandle" ∧ (parseMethodDescriptor yX6_requireLimit.desc).map (fun d => d.parameters.length) = some 1 := by decide +kernel
theorem hd_X6_requireLook : yX6_requireLook.cls ≠ "java/lang/invoke/MethodHandle" ∧ yX6_requireLook.cls ≠ "java/lang/invoke/VarHandle" ∧ (parseMethodDescriptor yX6_requireLook.desc).map (fun d => d.parameters.length) = some 1 := by decide +kernel
theorem hd_X6_requireMetric : yX6_requireMetric.cls ≠ "java/lang/invoke/MethodHandle" ∧ yX6_requireMetric.cls ≠ "java/lang/invoke/VarHandle" ∧ (parseMethodDescriptor yX6_requireMetric.desc).map (fun d => d.parameters.length) = some 1 := by decide +kernel
theorem hd_X6_requireRule : yX6_requireRule.cls ≠ "java/lang/invoke/MethodHandle" ∧ yX6_requireRule.cls ≠ "java/lang/invoke/VarHandle" ∧ (parseMethodDescriptor yX6_requireRule.desc).map (fun d => d.parameters.length) = some 1 := by decide +kernel
theorem hd_X6_requireSeries : yX6_requireSeries.cls ≠ "java/lang/invoke/MethodHandle" ∧ yX6_requireSeries.cls ≠ "java/lang/invoke/VarHandle" ∧ (parseMethodDescriptor yX6_requireSeries.desc).map (fun d => d.parameters.length) = some 1 := by decide +kernel
theorem hd_X6_requireTicks : yX6_requireTicks.cls ≠ "java/lang/invoke/MethodHandle" ∧ yX6_requireTicks.cls ≠ "java/lang/invoke/VarHandle" ∧ (parseMethodDescriptor yX6_requireTicks.desc).map (fun d => d.parameters.length) = some 1 := by decide +kernel
theorem hd_X6_requireW : yX6_requireW.cls ≠ "java/lang/invoke/MethodHandle" ∧ yX6_requireW.cls ≠ "java/lang/invoke/VarHandle" ∧ (parseMethodDescriptor yX6_requireW.desc).map (fun d => d.parameters.length) = some 1 := by decide +kernel
theorem hd_X6_reset : yX6_reset.cls ≠ "java/lang/invoke/MethodHandle" ∧ yX6_reset.cls ≠ "java/lang/invoke/VarHandle" ∧ (parseMethodDescriptor yX6_reset.desc).map (fun d => d.parameters.length) = some 1 := by decide +kernel
theorem hd_X6_rule : yX6_rule.cls ≠ "java/lang/invoke/MethodHandle" ∧ yX6_rule.cls ≠ "java/lang/invoke/VarHandle" ∧ (parseMethodDescriptor yX6_rule.desc).map (fun d => d.parameters.length) = some 6 := by decide +kernel
theorem hd_X6_sample : yX6_sample.cls ≠ "java/lang/invoke/MethodHandle" ∧ yX6_sample.cls ≠ "java/lang/invoke/VarHandle" ∧ (parseMethodDescriptor yX6_sample.desc).map (fun d => d.parameters.length) = some 2 := by decide +kernel
theorem hd_X6_sendNotices : yX6_sendNotices.cls ≠ "java/lang/invoke/MethodHandle" ∧ yX6_sendNotices.cls ≠ "java/lang/invoke/VarHandle" ∧ (parseMethodDescriptor yX6_sendNotices.desc).map (fun d => d.parameters.length) = some 0 := by decide +kernel
theorem hd_X6_series : yX6_series.cls ≠ "java/lang/invoke/MethodHandle" ∧ yX6_series.cls ≠ "java/lang/invoke/VarHandle" ∧ (parseMethodDescriptor yX6_series.desc).map (fun d => d.parameters.length) = some 3 := by decide +kernel
theorem hd_X6_setRule : yX6_setRule.cls ≠ "java/lang/invoke/MethodHandle" ∧ yX6_setRule.cls ≠ "java/lang/invoke/VarHandle" ∧ (parseMethodDescriptor yX6_setRule.desc).map (fun d => d.parameters.length) = some 4 := by decide +kernel
theorem hd_X6_stepAlerts : yX6_stepAlerts.cls ≠ "java/lang/invoke/MethodHandle" ∧ yX6_stepAlerts.cls ≠ "java/lang/invoke/VarHandle" ∧ (parseMethodDescriptor yX6_stepAlerts.desc).map (fun d => d.parameters.length) = some 1 := by decide +kernel
theorem hd_X6_tell : yX6_tell.cls ≠ "java/lang/invoke/MethodHandle" ∧ yX6_tell.cls ≠ "java/lang/invoke/VarHandle" ∧ (parseMethodDescriptor yX6_tell.desc).map (fun d => d.parameters.length) = some 2 := by decide +kernel
theorem hd_X6_tick : yX6_tick.cls ≠ "java/lang/invoke/MethodHandle" ∧ yX6_tick.cls ≠ "java/lang/invoke/VarHandle" ∧ (parseMethodDescriptor yX6_tick.desc).map (fun d => d.parameters.length) = some 1 := by decide +kernel
theorem hd_X6_wouldBurn : yX6_wouldBurn.cls ≠ "java/lang/invoke/MethodHandle" ∧ yX6_wouldBurn.cls ≠ "java/lang/invoke/VarHandle" ∧ (parseMethodDescriptor yX6_wouldBurn.desc).map (fun d => d.parameters.length) = some 3 := by decide +kernel
end
section
section HMA
variable {p : Program} {l : Launch} {e : Env} {R : Room} {s : State} {m : MethodId} {args : Array Value} {below : List Frame} {meth : Method} {c : Code} {H : Heap} {locs : List Loc} {cells slots : Nat} {Q : State → Prop}
variable {cc : ByteArray} {pc nL : Nat} {ls : Array Slot} {rest : List Value} {g : GV} {ad : AD} {M : CT} {own : String} {a : Nat} {t : TG}
theorem hm_iast2 (S : CallFix p m c cc nL s args hm_B own) (hE : hm_E g s s.heap) (hG : hm_G g ad M s.heap H locs) {n j : Nat} {f : Nat → Int32} {i x : Int32} (ht : M t = some (hm_ia g n f)) (ha : ad t = a) (hin : vp_in i n) (hj : i.toNatClampNeg = j) (hdg : decode cc pc = .ok (.iastore, 1))
    (kk : ∀ (H1 : Heap) (locs1 : List Loc), hm_G g ad (hm_up M t (hm_ia g n (upd f j x))) s.heap H1 locs1 → W p l e R s m args below meth c H1 locs1 cells slots Q (F0 m (pc + 1) ls rest)) : W p l e R s m args below meth c H locs cells slots Q (F0 m pc ls (.int x :: .int i :: .ref a :: rest)) := by
  subst hj
  exact hm_iast S hE hG ht ha hin hdg kk
theorem hm_astq2 (S : CallFix p m c cc nL s args hm_B own) (hE : hm_E g s s.heap) (hG : hm_G g ad M s.heap H locs) {k n v ci j : Nat} {C : String} {T : u_T} {N : Nat} {tv : TG} {vs : List Value} {f : Nat → Option Nat} {i : Int32} (ht : M t = some (hm_ra g k n f)) (ha : ad t = a) (hty : (hm_ty g)[k]? = some (hm_c g k, .object C)) (hv : M tv = some (.inr (ci, vs))) (hav : ad tv = v) (hc : vwCl[ci]? = some (C, T, N)) (hin : vp_in i n) (hj : i.toNatClampNeg = j) (hdg : decode cc pc = .ok (.aastore, 1))
    (kk : ∀ (H1 : Heap) (locs1 : List Loc), hm_G g ad (hm_up M t (hm_ra g k n (va_up f j (some v)))) s.heap H1 locs1 → W p l e R s m args below meth c H1 locs1 cells slots Q (F0 m (pc + 1) ls rest)) : W p l e R s m args below meth c H locs cells slots Q (F0 m pc ls (.ref v :: .int i :: .ref a :: rest)) := by
  subst hj
  exact hm_astq S hE hG ht ha hty hv hav hc hin hdg kk
theorem hm_astO2 (S : CallFix p m c cc nL s args hm_B own) (hE : hm_E g s s.heap) (hG : hm_G g ad M s.heap H locs) {n v ci j : Nat} {C : String} {T : u_T} {N : Nat} {tv : TG} {vs : List Value} {f : Nat → Option Nat} {i : Int32} (ht : M t = some (hm_ra g 3 n f)) (ha : ad t = a) (hca : Cond.castable C "java/lang/Object" ∈ hm_nst) (hv : M tv = some (.inr (ci, vs))) (hav : ad tv = v) (hc : vwCl[ci]? = some (C, T, N)) (hin : vp_in i n) (hj : i.toNatClampNeg = j) (hdg : decode cc pc = .ok (.aastore, 1))
    (kk : ∀ (H1 : Heap) (locs1 : List Loc), hm_G g ad (hm_up M t (hm_ra g 3 n (va_up f j (some v)))) s.heap H1 locs1 → W p l e R s m args below meth c H1 locs1 cells slots Q (F0 m (pc + 1) ls rest)) : W p l e R s m args below meth c H locs cells slots Q (F0 m pc ls (.ref v :: .int i :: .ref a :: rest)) := by
  subst hj
  exact hm_astO S hE hG ht ha hca hv hav hc hin hdg kk
end HMA
theorem hm_v0 {n : Nat} (h : 0 < n) (hn : n < 2 ^ 31) : vp_in 0 n := vp_in_nI (n := 0) h hn
theorem hm_sub13 {x y : Nat} (h : y ≤ x + 13) : nI x - nI y + 13 = nI (x + 13 - y) := by
  have h1 : nI x + 13 = nI (x + 13) := nI_add x 13
  rw [← pk_sub h, ← h1]
  simp only [Int32.sub_eq_add_neg]
  rw [Int32.add_assoc, Int32.add_comm (-nI y) 13, ← Int32.add_assoc]
theorem hm_rem13 {x : Nat} (h : x < 2 ^ 31) : nI x - nI x / 13 * 13 = nI (x % 13) := pk_rem (d := 13) h (by decide) (by decide)
theorem hm_rem30 {x : Nat} (h : x < 2 ^ 31) : nI x - nI x / 30 * 30 = nI (x % 30) := pk_rem (d := 30) h (by decide) (by decide)
theorem hm_leI {a b : Nat} (ha : a < 2 ^ 31) (hb : b < 2 ^ 31) (h : nI a ≤ nI b) : a ≤ b := (nI_leI ha hb).mp h
theorem hm_nleI {a b : Nat} (ha : a < 2 ^ 31) (hb : b < 2 ^ 31) (h : ¬ nI a ≤ nI b) : b < a := Nat.not_le.mp (fun q => h ((nI_leI ha hb).mpr q))
theorem hm_ltI {a b : Nat} (ha : a < 2 ^ 31) (hb : b < 2 ^ 31) (h : nI a < nI b) : a < b := (nI_ltI ha hb).mp h
theorem hm_nltI {a b : Nat} (ha : a < 2 ^ 31) (hb : b < 2 ^ 31) (h : ¬ nI a < nI b) : b ≤ a := Nat.not_lt.mp (fun q => h ((nI_ltI ha hb).mpr q))
theorem hm_eqI {a b : Nat} (ha : a < 2 ^ 31) (hb : b < 2 ^ 31) (h : nI a = nI b) : a = b := (nI_eq ha hb).mp h
theorem hm_minN (a b : Nat) (ha : a < 2 ^ 31) (hb : b < 2 ^ 31) : (if nI b < nI a then nI b else nI a) = nI (min a b) := by
  by_cases h : b < a
  · rw [if_pos (nI_lt h ha), Nat.min_eq_right (Nat.le_of_lt h)]
  · rw [if_neg (nI_nlt (by omega) hb), Nat.min_eq_left (by omega)]
end
section
/-! What the cells hold, as values; what each method answers, as a function of them. -/
def bI (b : Bool) : Int32 := if b then 1 else 0
theorem bI_01 (b : Bool) : bI b = 0 ∨ bI b = 1 := by cases b <;> simp [bI]
theorem bI_0 {b : Bool} : bI b = 0 ↔ b = false := by cases b <;> decide
theorem bI_ne {b : Bool} : ¬ bI b = 0 ↔ b = true := by cases b <;> decide
/-- an alert: state, since, ticksNotBeyond -/
abbrev AlD : Type := Int32 × Int32 × Int32
abbrev alE (a : AlD) : va_E := .inr (1, [.int a.1, .int a.2.1, .int a.2.2])
def riseA (a : AlD) (clk : Int32) : Int32 × Int32 := if a.1 = 0 then (1, clk) else (a.1, a.2.1)
def riseF (a : AlD) (wait clk : Int32) : AlD := if (riseA a clk).1 = 1 ∧ ¬ clk - (riseA a clk).2 < wait then (2, clk, 0) else ((riseA a clk).1, (riseA a clk).2, 0)
def fallF (a : AlD) : AlD := if ¬ a.1 = 2 ∨ ¬ a.2.2 + 1 < 3 then (0, -1, a.2.2 + 1) else (a.1, a.2.1, a.2.2 + 1)
def stepF (a : AlD) (b : Bool) (wait clk : Int32) : AlD := if b then riseF a wait clk else fallF a
/-- a hush: rule, place, till -/
abbrev HuD : Type := Int32 × Int32 × Int32
abbrev huE (h : HuD) : va_E := .inr (3, [.int h.1, .int h.2.1, .int h.2.2])
def covF (h : HuD) (ru pl clk : Int32) : Bool := decide (clk < h.2.2) && (decide (h.1 = -1) || decide (h.1 = ru)) && (decide (h.2.1 = -1) || decide (h.2.1 = pl))
def mxI (x y : Int32) : Int32 := if x < y then y else x
def mnI (x y : Int32) : Int32 := if y < x then y else x
/-- a list: modCount, the array's address, size -/
abbrev liE (mc : Int32) (q : Nat) (n : Nat) : va_E := .inr (0, [.int mc, .ref q, .int (nI n)])
/-- a series: kind, metric, place, present, rows, latest, held -/
abbrev SeD : Type := Int32 × Int32 × Int32 × (Nat → Int32) × (Nat → Nat → Int32) × Nat × Nat
def sKi (s : SeD) : Int32 := s.1
def sMe (s : SeD) : Int32 := s.2.1
def sPl (s : SeD) : Int32 := s.2.2.1
def sPr (s : SeD) : Nat → Int32 := s.2.2.2.1
def sRo (s : SeD) : Nat → Nat → Int32 := s.2.2.2.2.1
def sLa (s : SeD) : Nat := s.2.2.2.2.2.1
def sHe (s : SeD) : Nat := s.2.2.2.2.2.2
abbrev seE (ad : AD) (i : Nat) (s : SeD) : va_E := .inr (6, [.int (nI i), .int (sKi s), .int (sMe s), .int (sPl s), .ref (ad (11, i, 0)), .ref (ad (12, i, 0)), .int (nI (sLa s)), .int (nI (sHe s))])
def rowsA (ad : AD) (i : Nat) : Nat → Option Nat := fun j => if j < 13 then some (ad (13, i, j)) else none
def hasSe (g : GV) (ad : AD) (M : CT) (i : Nat) (s : SeD) : Prop := M (10, i, 0) = some (seE ad i s) ∧ M (11, i, 0) = some (hm_ia g 6 (sPr s)) ∧ M (12, i, 0) = some (hm_ra g 4 13 (rowsA ad i)) ∧ (∀ j, j < 13 → M (13, i, j) = some (hm_ia g 6 (sRo s j))) ∧ sLa s < 13 ∧ sHe s ≤ 13 ∧ i < 12
/-- the value of column k, b samples back, if a more had been taken -/
def pastF (s : SeD) (k b a : Nat) : Int32 := if b < a then sPr s k else if sHe s ≤ b - a then 0 else sRo s ((sLa s + 13 - (b - a)) % 13) k
def grStep (s : SeD) (k a b : Nat) : Int32 := if pastF s k b a - pastF s k (b + 1) a < 0 then pastF s k b a else pastF s k b a - pastF s k (b + 1) a
def grL (s : SeD) (k a : Nat) : Nat → Int32 → Int32
  | 0, acc => acc
  | b + 1, acc => grL s k a b (acc + grStep s k a b)
def grF (s : SeD) (k w a : Nat) : Int32 := grL s k a (min (w + 1) (sHe s + a) - 1) 0
def sumF (s : SeD) (a : Nat) : Nat → Int32
  | 0 => 0
  | b + 1 => sumF s a b + pastF s 0 b a
def meanF (s : SeD) (w a : Nat) : Int32 := if min w (sHe s + a) = 0 then 0 else sumF s a (min w (sHe s + a)) / nI (min w (sHe s + a))
def utL (s : SeD) (a : Nat) (mo : Bool) : Nat → Int32
  | 0 => pastF s 0 0 a
  | b + 1 => if mo then mxI (utL s a mo b) (pastF s 0 (b + 1) a) else mnI (utL s a mo b) (pastF s 0 (b + 1) a)
def utF (s : SeD) (w a : Nat) (mo : Bool) : Int32 := utL s a mo (min w (sHe s + a) - 1)
def cntF (s : SeD) (w a : Nat) : Nat → Int32
  | 0 => 0
  | k + 1 => cntF s w a k + grF s (k + 1) w a
def partL (s : SeD) (w a : Nat) (r : Int32) : Nat → Nat → Int32 → Int32
  | 0, _, _ => 500
  | n + 1, k, re => if 0 < grF s k w a ∧ r ≤ re + grF s k w a then hm_eN (k - 1) + (hm_eN k - hm_eN (k - 1)) * (r - re) / grF s k w a else partL s w a r n (k + 1) (re + grF s k w a)
def partF (s : SeD) (q : Int32) (w a : Nat) : Int32 := if cntF s w a 5 = 0 then 0 else partL s w a ((q * cntF s w a 5 + 99) / 100) 4 1 0
def lookF (s : SeD) (lk w a : Nat) : Int32 := if lk = 0 then pastF s 0 0 a else if lk = 1 then grF s 0 w a else if lk = 2 then meanF s w a else if lk = 3 then utF s w a true else if lk = 4 then utF s w a false else if sKi s = 2 then partF s (hm_pN (lk - 5)) w a else 0
/-- a rule: metric, look, w, way, above, limit, wait, rank -/
abbrev RuD : Type := Int32 × Nat × Nat × Nat × Bool × Int32 × Int32 × Int32
def rMe (r : RuD) : Int32 := r.1
def rLo (r : RuD) : Nat := r.2.1
def rW (r : RuD) : Nat := r.2.2.1
def rWa (r : RuD) : Nat := r.2.2.2.1
def rAb (r : RuD) : Bool := r.2.2.2.2.1
def rLi (r : RuD) : Int32 := r.2.2.2.2.2.1
def rWt (r : RuD) : Int32 := r.2.2.2.2.2.2.1
def rRk (r : RuD) : Int32 := r.2.2.2.2.2.2.2
abbrev ruE (ad : AD) (r : Nat) (u : RuD) : va_E := .inr (5, [.int (nI r), .int (rMe u), .int (nI (rLo u)), .int (nI (rW u)), .int (nI (rWa u)), .int (bI (rAb u)), .int (rLi u), .int (rWt u), .int (rRk u), .ref (ad (21, r, 0))])
def alsA (ad : AD) (r : Nat) : Nat → Option Nat := fun k => if k < 12 then some (ad (22, r, k)) else none
def tkF (u : RuD) (i : Nat) (s : SeD) (key : Nat) : Bool := decide (sMe s = rMe u) && (if rWa u = 0 then decide (i = key) else if rWa u = 1 then decide (sPl s = nI key) else decide (key = 0))
def byF (u : RuD) (v b : Int32) : Bool := if rAb u then decide (b < v) else decide (v < b)
end
section
abbrev rm_X6_isOutside : Room := { frames := 0, cells := 0, slots := 0, locals := 0 }
set_option maxHeartbeats 4000000 in
set_option maxRecDepth 100000 in
theorem c_X6_isOutside (l : Launch) (g : GV) (ad : AD) (M : CT) (x lo hi : Int32) : hm_Met l yX6_isOutside cX6_isOutside 3 (some .boolean) rm_X6_isOutside g ad M [.int x, .int lo, .int hi] (hm_pU ad M (some (.int (bI (decide (x < lo) || decide (hi < x)))))) := by
  refine hm_start (own := RX6) (by decide) rfl (Nat.le_of_ble_eq_true rfl) ?_
  intro p e s m args below meth c S hr hlk hnm hE hG ls hl
  have hl : lv_has ls 3 [(0, .int x), (1, .int lo), (2, .int hi)] := hl
  refine lv_iload_n S.1 S.2.1 dX6_isOutside_0 rfl (lv_at hl 0 rfl) ?_
  refine lv_iload_n S.1 S.2.1 dX6_isOutside_1 rfl (lv_at hl 1 rfl) ?_
  refine lv_icmp_lt (tgt := 10) S.1 S.2.1 dX6_isOutside_2 (by decide) (fun c2 => ?_) (fun c2 => ?_)
  · skip
    refine lv_iconst (v := 1) S.1 S.2.1 dX6_isOutside_10 (by decide) ?_
    refine lv_goto (tgt := 15) S.1 S.2.1 dX6_isOutside_11 (by decide) ?_
    exact hm_zret S hG hr hlk (by decide) (⟨by simp [bI, *], rfl, rfl⟩) (Nat.le_of_ble_eq_true rfl) (Nat.le_of_ble_eq_true rfl) dX6_isOutside_15
  · skip
    refine lv_iload_n S.1 S.2.1 dX6_isOutside_5 rfl (lv_at hl 0 rfl) ?_
    refine lv_iload_n S.1 S.2.1 dX6_isOutside_6 rfl (lv_at hl 2 rfl) ?_
    refine lv_icmp_le (tgt := 14) S.1 S.2.1 dX6_isOutside_7 (by decide) (fun c7 => ?_) (fun c7 => ?_)
    · skip
      refine lv_iconst (v := 0) S.1 S.2.1 dX6_isOutside_14 (by decide) ?_
      exact hm_zret S hG hr hlk (by decide) (⟨by simp [bI, *], rfl, rfl⟩) (Nat.le_of_ble_eq_true rfl) (Nat.le_of_ble_eq_true rfl) dX6_isOutside_15
    · skip
      refine lv_iconst (v := 1) S.1 S.2.1 dX6_isOutside_10 (by decide) ?_
      refine lv_goto (tgt := 15) S.1 S.2.1 dX6_isOutside_11 (by decide) ?_
      exact hm_zret S hG hr hlk (by decide) (⟨by simp [bI, *], rfl, rfl⟩) (Nat.le_of_ble_eq_true rfl) (Nat.le_of_ble_eq_true rfl) dX6_isOutside_15

abbrev rm_X6_requireMetric : Room := { frames := 1, cells := 0, slots := 0, locals := 22 }
set_option maxHeartbeats 4000000 in
set_option maxRecDepth 100000 in
theorem c_X6_requireMetric (l : Launch) (g : GV) (ad : AD) (M : CT) (x : Int32) (h1 : ¬ x < 0) (h2 : ¬ 5 < x) : hm_Met l yX6_requireMetric cX6_requireMetric 1 none rm_X6_requireMetric g ad M [.int x] (hm_pU ad M none) := by
  refine hm_start (own := RX6) (by decide) rfl (Nat.le_of_ble_eq_true rfl) ?_
  intro p e s m args below meth c S hr hlk hnm hE hG ls hl
  have hl : lv_has ls 1 [(0, .int x)] := hl
  refine lv_iload_n S.1 S.2.1 dX6_requireMetric_0 rfl (lv_at hl 0 rfl) ?_
  refine lv_iconst (v := 0) S.1 S.2.1 dX6_requireMetric_1 (by decide) ?_
  refine lv_iconst (v := 5) S.1 S.2.1 dX6_requireMetric_2 (by decide) ?_
  refine hm_uS (As := [.int x, .int 0, .int 5]) (rest := []) (st1 := [.int (bI (decide (x < 0) || decide (5 < x)))]) S hE hG (c_X6_isOutside l g ad M x 0 5) (hm_gS hb_91 hb_92 hb_2 hb_93) hd_X6_isOutside ⟨Nat.le_of_ble_eq_true rfl, Nat.le_of_ble_eq_true rfl⟩ rfl hl.1 rfl (Nat.le_of_ble_eq_true rfl) dX6_requireMetric_3 ⟨Nat.le_of_ble_eq_true rfl, Nat.le_of_ble_eq_true rfl⟩ rfl (fun H locs hG => ?_)
  refine lv_if_eq (tgt := 20) S.1 S.2.1 dX6_requireMetric_6 (by decide) (fun _ => ?_) (fun h9 => absurd (by simp [bI, h1, h2]) h9)
  exact hm_vret S hG hr hlk (⟨rfl, rfl, rfl⟩) (Nat.le_of_ble_eq_true rfl) (Nat.le_of_ble_eq_true rfl) dX6_requireMetric_20

abbrev rm_X6_requireLook : Room := { frames := 1, cells := 0, slots := 0, locals := 22 }
set_option maxHeartbeats 4000000 in
set_option maxRecDepth 100000 in
theorem c_X6_requireLook (l : Launch) (g : GV) (ad : AD) (M : CT) (x : Int32) (h1 : ¬ x < 0) (h2 : ¬ 8 < x) : hm_Met l yX6_requireLook cX6_requireLook 1 none rm_X6_requireLook g ad M [.int x] (hm_pU ad M none) := by
  refine hm_start (own := RX6) (by decide) rfl (Nat.le_of_ble_eq_true rfl) ?_
  intro p e s m args below meth c S hr hlk hnm hE hG ls hl
  have hl : lv_has ls 1 [(0, .int x)] := hl
  refine lv_iload_n S.1 S.2.1 dX6_requireLook_0 rfl (lv_at hl 0 rfl) ?_
  refine lv_iconst (v := 0) S.1 S.2.1 dX6_requireLook_1 (by decide) ?_
  refine lv_bipush (v := 8) S.1 S.2.1 dX6_requireLook_2 (by decide) ?_
  refine hm_uS (As := [.int x, .int 0, .int 8]) (rest := []) (st1 := [.int (bI (decide (x < 0) || decide (8 < x)))]) S hE hG (c_X6_isOutside l g ad M x 0 8) (hm_gS hb_91 hb_92 hb_2 hb_93) hd_X6_isOutside ⟨Nat.le_of_ble_eq_true rfl, Nat.le_of_ble_eq_true rfl⟩ rfl hl.1 rfl (Nat.le_of_ble_eq_true rfl) dX6_requireLook_4 ⟨Nat.le_of_ble_eq_true rfl, Nat.le_of_ble_eq_true rfl⟩ rfl (fun H locs hG => ?_)
  refine lv_if_eq (tgt := 21) S.1 S.2.1 dX6_requireLook_7 (by decide) (fun _ => ?_) (fun h9 => absurd (by simp [bI, h1, h2]) h9)
  exact hm_vret S hG hr hlk (⟨rfl, rfl, rfl⟩) (Nat.le_of_ble_eq_true rfl) (Nat.le_of_ble_eq_true rfl) dX6_requireLook_21

abbrev rm_X6_requireW : Room := { frames := 1, cells := 0, slots := 0, locals := 22 }
set_option maxHeartbeats 4000000 in
set_option maxRecDepth 100000 in
theorem c_X6_requireW (l : Launch) (g : GV) (ad : AD) (M : CT) (x : Int32) (h1 : ¬ x < 1) (h2 : ¬ 12 < x) : hm_Met l yX6_requireW cX6_requireW 1 none rm_X6_requireW g ad M [.int x] (hm_pU ad M none) := by
  refine hm_start (own := RX6) (by decide) rfl (Nat.le_of_ble_eq_true rfl) ?_
  intro p e s m args below meth c S hr hlk hnm hE hG ls hl
  have hl : lv_has ls 1 [(0, .int x)] := hl
  refine lv_iload_n S.1 S.2.1 dX6_requireW_0 rfl (lv_at hl 0 rfl) ?_
  refine lv_iconst (v := 1) S.1 S.2.1 dX6_requireW_1 (by decide) ?_
  refine lv_bipush (v := 12) S.1 S.2.1 dX6_requireW_2 (by decide) ?_
  refine hm_uS (As := [.int x, .int 1, .int 12]) (rest := []) (st1 := [.int (bI (decide (x < 1) || decide (12 < x)))]) S hE hG (c_X6_isOutside l g ad M x 1 12) (hm_gS hb_91 hb_92 hb_2 hb_93) hd_X6_isOutside ⟨Nat.le_of_ble_eq_true rfl, Nat.le_of_ble_eq_true rfl⟩ rfl hl.1 rfl (Nat.le_of_ble_eq_true rfl) dX6_requireW_4 ⟨Nat.le_of_ble_eq_true rfl, Nat.le_of_ble_eq_true rfl⟩ rfl (fun H locs hG => ?_)
  refine lv_if_eq (tgt := 21) S.1 S.2.1 dX6_requireW_7 (by decide) (fun _ => ?_) (fun h9 => absurd (by simp [bI, h1, h2]) h9)
  exact hm_vret S hG hr hlk (⟨rfl, rfl, rfl⟩) (Nat.le_of_ble_eq_true rfl) (Nat.le_of_ble_eq_true rfl) dX6_requireW_21

abbrev rm_X6_requireLimit : Room := { frames := 1, cells := 0, slots := 0, locals := 22 }
set_option maxHeartbeats 4000000 in
set_option maxRecDepth 100000 in
theorem c_X6_requireLimit (l : Launch) (g : GV) (ad : AD) (M : CT) (x : Int32) (h1 : ¬ x < (-10000)) (h2 : ¬ 10000 < x) : hm_Met l yX6_requireLimit cX6_requireLimit 1 none rm_X6_requireLimit g ad M [.int x] (hm_pU ad M none) := by
  refine hm_start (own := RX6) (by decide) rfl (Nat.le_of_ble_eq_true rfl) ?_
  intro p e s m args below meth c S hr hlk hnm hE hG ls hl
  have hl : lv_has ls 1 [(0, .int x)] := hl
  refine lv_iload_n S.1 S.2.1 dX6_requireLimit_0 rfl (lv_at hl 0 rfl) ?_
  refine lv_sipush (v := (-10000)) S.1 S.2.1 dX6_requireLimit_1 (by decide) ?_
  refine lv_sipush (v := 10000) S.1 S.2.1 dX6_requireLimit_4 (by decide) ?_
  refine hm_uS (As := [.int x, .int (-10000), .int 10000]) (rest := []) (st1 := [.int (bI (decide (x < (-10000)) || decide (10000 < x)))]) S hE hG (c_X6_isOutside l g ad M x (-10000) 10000) (hm_gS hb_91 hb_92 hb_2 hb_93) hd_X6_isOutside ⟨Nat.le_of_ble_eq_true rfl, Nat.le_of_ble_eq_true rfl⟩ rfl hl.1 rfl (Nat.le_of_ble_eq_true rfl) dX6_requireLimit_7 ⟨Nat.le_of_ble_eq_true rfl, Nat.le_of_ble_eq_true rfl⟩ rfl (fun H locs hG => ?_)
  refine lv_if_eq (tgt := 24) S.1 S.2.1 dX6_requireLimit_10 (by decide) (fun _ => ?_) (fun h9 => absurd (by simp [bI, h1, h2]) h9)
  exact hm_vret S hG hr hlk (⟨rfl, rfl, rfl⟩) (Nat.le_of_ble_eq_true rfl) (Nat.le_of_ble_eq_true rfl) dX6_requireLimit_24

abbrev rm_X6_requireTicks : Room := { frames := 1, cells := 0, slots := 0, locals := 22 }
set_option maxHeartbeats 4000000 in
set_option maxRecDepth 100000 in
theorem c_X6_requireTicks (l : Launch) (g : GV) (ad : AD) (M : CT) (x : Int32) (h1 : ¬ x < 1) (h2 : ¬ 10 < x) : hm_Met l yX6_requireTicks cX6_requireTicks 1 none rm_X6_requireTicks g ad M [.int x] (hm_pU ad M none) := by
  refine hm_start (own := RX6) (by decide) rfl (Nat.le_of_ble_eq_true rfl) ?_
  intro p e s m args below meth c S hr hlk hnm hE hG ls hl
  have hl : lv_has ls 1 [(0, .int x)] := hl
  refine lv_iload_n S.1 S.2.1 dX6_requireTicks_0 rfl (lv_at hl 0 rfl) ?_
  refine lv_iconst (v := 1) S.1 S.2.1 dX6_requireTicks_1 (by decide) ?_
  refine lv_bipush (v := 10) S.1 S.2.1 dX6_requireTicks_2 (by decide) ?_
  refine hm_uS (As := [.int x, .int 1, .int 10]) (rest := []) (st1 := [.int (bI (decide (x < 1) || decide (10 < x)))]) S hE hG (c_X6_isOutside l g ad M x 1 10) (hm_gS hb_91 hb_92 hb_2 hb_93) hd_X6_isOutside ⟨Nat.le_of_ble_eq_true rfl, Nat.le_of_ble_eq_true rfl⟩ rfl hl.1 rfl (Nat.le_of_ble_eq_true rfl) dX6_requireTicks_4 ⟨Nat.le_of_ble_eq_true rfl, Nat.le_of_ble_eq_true rfl⟩ rfl (fun H locs hG => ?_)
  refine lv_if_eq (tgt := 21) S.1 S.2.1 dX6_requireTicks_7 (by decide) (fun _ => ?_) (fun h9 => absurd (by simp [bI, h1, h2]) h9)
  exact hm_vret S hG hr hlk (⟨rfl, rfl, rfl⟩) (Nat.le_of_ble_eq_true rfl) (Nat.le_of_ble_eq_true rfl) dX6_requireTicks_21

abbrev rm_X0_rise : Room := { frames := 0, cells := 0, slots := 0, locals := 0 }
set_option maxHeartbeats 4000000 in
set_option maxRecDepth 100000 in
theorem c_X0_rise (l : Launch) (g : GV) (ad : AD) (M : CT) (t : TG) (a : AlD) (wait clk : Int32) (h1 : M t = some (alE a)) : hm_Met l yX0_rise cX0_rise 3 none rm_X0_rise g ad M [.ref (ad t), .int wait, .int clk] (hm_pU ad (hm_up M t (alE (riseF a wait clk))) none) := by
  refine hm_start (own := RX0) (by decide) rfl (Nat.le_of_ble_eq_true rfl) ?_
  intro p e s m args below meth c S hr hlk hnm hE hG ls hl
  have hl : lv_has ls 3 [(0, .ref (ad t)), (1, .int wait), (2, .int clk)] := hl
  refine lv_aload_n S.1 S.2.1 dX0_rise_0 rfl (lv_at hl 0 rfl) ?_
  refine lv_iconst (v := 0) S.1 S.2.1 dX0_rise_1 (by decide) ?_
  refine hm_put (k := 2) (fs' := [.int a.1, .int a.2.1, .int 0]) S hE hG h1 rfl rfl hi_X00 tyX0_ok nmX0 (by decide) hb_70 rfl rfl (by rfl) (by rfl) (Nat.le_of_ble_eq_true rfl) rfl dX0_rise_2 (fun H locs hG => ?_)
  obtain ⟨M_1, eM_1⟩ : ∃ z, z = hm_up M t (.inr (1, [.int a.1, .int a.2.1, .int 0])) := ⟨_, rfl⟩
  rw [← eM_1] at hG
  have h_2 : M_1 t = some (.inr (1, [.int a.1, .int a.2.1, .int 0])) := by rw [eM_1]; exact hm_up_s
  refine lv_aload_n S.1 S.2.1 dX0_rise_5 rfl (lv_at hl 0 rfl) ?_
  refine hm_get (k := 0) S hE hG h_2 rfl rfl hi_X00 (by decide) hb_68 rfl rfl dX0_rise_6 ?_
  refine lv_if_ne (tgt := 22) S.1 S.2.1 dX0_rise_9 (by decide) (fun c9 => ?_) (fun c9 => ?_)
  · skip
    refine lv_aload_n S.1 S.2.1 dX0_rise_22 rfl (lv_at hl 0 rfl) ?_
    refine hm_get (k := 0) S hE hG h_2 rfl rfl hi_X00 (by decide) hb_68 rfl rfl dX0_rise_23 ?_
    refine lv_iconst (v := 1) S.1 S.2.1 dX0_rise_26 (by decide) ?_
    refine lv_icmp_ne (tgt := 50) S.1 S.2.1 dX0_rise_27 (by decide) (fun c27 => ?_) (fun c27 => ?_)
    · skip
      exact hm_vret S hG hr hlk (⟨rfl, rfl, by simp_all [hm_up_up, riseF, riseA]⟩) (Nat.le_of_ble_eq_true rfl) (Nat.le_of_ble_eq_true rfl) dX0_rise_50
    · skip
      refine lv_iload_n S.1 S.2.1 dX0_rise_30 rfl (lv_at hl 2 rfl) ?_
      refine lv_aload_n S.1 S.2.1 dX0_rise_31 rfl (lv_at hl 0 rfl) ?_
      refine hm_get (k := 1) S hE hG h_2 rfl rfl hi_X00 (by decide) hb_69 rfl rfl dX0_rise_32 ?_
      refine lv_isub S.1 S.2.1 dX0_rise_35 ?_
      refine lv_iload_n S.1 S.2.1 dX0_rise_36 rfl (lv_at hl 1 rfl) ?_
      refine lv_icmp_lt (tgt := 50) S.1 S.2.1 dX0_rise_37 (by decide) (fun c37 => ?_) (fun c37 => ?_)
      · skip
        exact hm_vret S hG hr hlk (⟨rfl, rfl, by simp_all [hm_up_up, riseF, riseA]⟩) (Nat.le_of_ble_eq_true rfl) (Nat.le_of_ble_eq_true rfl) dX0_rise_50
      · skip
        refine lv_aload_n S.1 S.2.1 dX0_rise_40 rfl (lv_at hl 0 rfl) ?_
        refine lv_iconst (v := 2) S.1 S.2.1 dX0_rise_41 (by decide) ?_
        refine hm_put (k := 0) (fs' := [.int 2, .int a.2.1, .int 0]) S hE hG h_2 rfl rfl hi_X00 tyX0_ok nmX0 (by decide) hb_68 rfl rfl (by rfl) (by rfl) (Nat.le_of_ble_eq_true rfl) rfl dX0_rise_42 (fun H locs hG => ?_)
        obtain ⟨M_3, eM_3⟩ : ∃ z, z = hm_up M_1 t (.inr (1, [.int 2, .int a.2.1, .int 0])) := ⟨_, rfl⟩
        rw [← eM_3] at hG
        have h_4 : M_3 t = some (.inr (1, [.int 2, .int a.2.1, .int 0])) := by rw [eM_3]; exact hm_up_s
        refine lv_aload_n S.1 S.2.1 dX0_rise_45 rfl (lv_at hl 0 rfl) ?_
        refine lv_iload_n S.1 S.2.1 dX0_rise_46 rfl (lv_at hl 2 rfl) ?_
        refine hm_put (k := 1) (fs' := [.int 2, .int clk, .int 0]) S hE hG h_4 rfl rfl hi_X00 tyX0_ok nmX0 (by decide) hb_69 rfl rfl (by rfl) (by rfl) (Nat.le_of_ble_eq_true rfl) rfl dX0_rise_47 (fun H locs hG => ?_)
        obtain ⟨M_5, eM_5⟩ : ∃ z, z = hm_up M_3 t (.inr (1, [.int 2, .int clk, .int 0])) := ⟨_, rfl⟩
        rw [← eM_5] at hG
        have h_6 : M_5 t = some (.inr (1, [.int 2, .int clk, .int 0])) := by rw [eM_5]; exact hm_up_s
        exact hm_vret S hG hr hlk (⟨rfl, rfl, by simp_all [hm_up_up, riseF, riseA]⟩) (Nat.le_of_ble_eq_true rfl) (Nat.le_of_ble_eq_true rfl) dX0_rise_50
  · skip
    refine lv_aload_n S.1 S.2.1 dX0_rise_12 rfl (lv_at hl 0 rfl) ?_
    refine lv_iconst (v := 1) S.1 S.2.1 dX0_rise_13 (by decide) ?_
    refine hm_put (k := 0) (fs' := [.int 1, .int a.2.1, .int 0]) S hE hG h_2 rfl rfl hi_X00 tyX0_ok nmX0 (by decide) hb_68 rfl rfl (by rfl) (by rfl) (Nat.le_of_ble_eq_true rfl) rfl dX0_rise_14 (fun H locs hG => ?_)
    obtain ⟨M_7, eM_7⟩ : ∃ z, z = hm_up M_1 t (.inr (1, [.int 1, .int a.2.1, .int 0])) := ⟨_, rfl⟩
    rw [← eM_7] at hG
    have h_8 : M_7 t = some (.inr (1, [.int 1, .int a.2.1, .int 0])) := by rw [eM_7]; exact hm_up_s
    refine lv_aload_n S.1 S.2.1 dX0_rise_17 rfl (lv_at hl 0 rfl) ?_
    refine lv_iload_n S.1 S.2.1 dX0_rise_18 rfl (lv_at hl 2 rfl) ?_
    refine hm_put (k := 1) (fs' := [.int 1, .int clk, .int 0]) S hE hG h_8 rfl rfl hi_X00 tyX0_ok nmX0 (by decide) hb_69 rfl rfl (by rfl) (by rfl) (Nat.le_of_ble_eq_true rfl) rfl dX0_rise_19 (fun H locs hG => ?_)
    obtain ⟨M_9, eM_9⟩ : ∃ z, z = hm_up M_7 t (.inr (1, [.int 1, .int clk, .int 0])) := ⟨_, rfl⟩
    rw [← eM_9] at hG
    have h_10 : M_9 t = some (.inr (1, [.int 1, .int clk, .int 0])) := by rw [eM_9]; exact hm_up_s
    refine lv_aload_n S.1 S.2.1 dX0_rise_22 rfl (lv_at hl 0 rfl) ?_
    refine hm_get (k := 0) S hE hG h_10 rfl rfl hi_X00 (by decide) hb_68 rfl rfl dX0_rise_23 ?_
    refine lv_iconst (v := 1) S.1 S.2.1 dX0_rise_26 (by decide) ?_
    refine lv_icmp_ne (tgt := 50) S.1 S.2.1 dX0_rise_27 (by decide) (fun h9 => absurd (by decide) h9) (fun _ => ?_)
    refine lv_iload_n S.1 S.2.1 dX0_rise_30 rfl (lv_at hl 2 rfl) ?_
    refine lv_aload_n S.1 S.2.1 dX0_rise_31 rfl (lv_at hl 0 rfl) ?_
    refine hm_get (k := 1) S hE hG h_10 rfl rfl hi_X00 (by decide) hb_69 rfl rfl dX0_rise_32 ?_
    refine lv_isub S.1 S.2.1 dX0_rise_35 ?_
    refine lv_iload_n S.1 S.2.1 dX0_rise_36 rfl (lv_at hl 1 rfl) ?_
    refine lv_icmp_lt (tgt := 50) S.1 S.2.1 dX0_rise_37 (by decide) (fun c37 => ?_) (fun c37 => ?_)
    · skip
      exact hm_vret S hG hr hlk (⟨rfl, rfl, by simp_all [hm_up_up, riseF, riseA]⟩) (Nat.le_of_ble_eq_true rfl) (Nat.le_of_ble_eq_true rfl) dX0_rise_50
    · skip
      refine lv_aload_n S.1 S.2.1 dX0_rise_40 rfl (lv_at hl 0 rfl) ?_
      refine lv_iconst (v := 2) S.1 S.2.1 dX0_rise_41 (by decide) ?_
      refine hm_put (k := 0) (fs' := [.int 2, .int clk, .int 0]) S hE hG h_10 rfl rfl hi_X00 tyX0_ok nmX0 (by decide) hb_68 rfl rfl (by rfl) (by rfl) (Nat.le_of_ble_eq_true rfl) rfl dX0_rise_42 (fun H locs hG => ?_)
      obtain ⟨M_11, eM_11⟩ : ∃ z, z = hm_up M_9 t (.inr (1, [.int 2, .int clk, .int 0])) := ⟨_, rfl⟩
      rw [← eM_11] at hG
      have h_12 : M_11 t = some (.inr (1, [.int 2, .int clk, .int 0])) := by rw [eM_11]; exact hm_up_s
      refine lv_aload_n S.1 S.2.1 dX0_rise_45 rfl (lv_at hl 0 rfl) ?_
      refine lv_iload_n S.1 S.2.1 dX0_rise_46 rfl (lv_at hl 2 rfl) ?_
      refine hm_put (k := 1) (fs' := [.int 2, .int clk, .int 0]) S hE hG h_12 rfl rfl hi_X00 tyX0_ok nmX0 (by decide) hb_69 rfl rfl (by rfl) (by rfl) (Nat.le_of_ble_eq_true rfl) rfl dX0_rise_47 (fun H locs hG => ?_)
      obtain ⟨M_13, eM_13⟩ : ∃ z, z = hm_up M_11 t (.inr (1, [.int 2, .int clk, .int 0])) := ⟨_, rfl⟩
      rw [← eM_13] at hG
      have h_14 : M_13 t = some (.inr (1, [.int 2, .int clk, .int 0])) := by rw [eM_13]; exact hm_up_s
      exact hm_vret S hG hr hlk (⟨rfl, rfl, by simp_all [hm_up_up, riseF, riseA]⟩) (Nat.le_of_ble_eq_true rfl) (Nat.le_of_ble_eq_true rfl) dX0_rise_50

abbrev rm_X0_fall : Room := { frames := 0, cells := 0, slots := 0, locals := 0 }
set_option maxHeartbeats 4000000 in
set_option maxRecDepth 100000 in
theorem c_X0_fall (l : Launch) (g : GV) (ad : AD) (M : CT) (t : TG) (a : AlD) (h1 : M t = some (alE a)) : hm_Met l yX0_fall cX0_fall 1 none rm_X0_fall g ad M [.ref (ad t)] (hm_pU ad (hm_up M t (alE (fallF a))) none) := by
  refine hm_start (own := RX0) (by decide) rfl (Nat.le_of_ble_eq_true rfl) ?_
  intro p e s m args below meth c S hr hlk hnm hE hG ls hl
  have hl : lv_has ls 1 [(0, .ref (ad t))] := hl
  refine lv_aload_n S.1 S.2.1 dX0_fall_0 rfl (lv_at hl 0 rfl) ?_
  refine lv_dup S.1 S.2.1 dX0_fall_1 rfl ?_
  refine hm_get (k := 2) S hE hG h1 rfl rfl hi_X00 (by decide) hb_70 rfl rfl dX0_fall_2 ?_
  refine lv_iconst (v := 1) S.1 S.2.1 dX0_fall_5 (by decide) ?_
  refine lv_iadd S.1 S.2.1 dX0_fall_6 ?_
  refine hm_put (k := 2) (fs' := [.int a.1, .int a.2.1, .int (a.2.2 + 1)]) S hE hG h1 rfl rfl hi_X00 tyX0_ok nmX0 (by decide) hb_70 rfl rfl (by rfl) (by rfl) (Nat.le_of_ble_eq_true rfl) rfl dX0_fall_7 (fun H locs hG => ?_)
  obtain ⟨M_1, eM_1⟩ : ∃ z, z = hm_up M t (.inr (1, [.int a.1, .int a.2.1, .int (a.2.2 + 1)])) := ⟨_, rfl⟩
  rw [← eM_1] at hG
  have h_2 : M_1 t = some (.inr (1, [.int a.1, .int a.2.1, .int (a.2.2 + 1)])) := by rw [eM_1]; exact hm_up_s
  refine lv_aload_n S.1 S.2.1 dX0_fall_10 rfl (lv_at hl 0 rfl) ?_
  refine hm_get (k := 0) S hE hG h_2 rfl rfl hi_X00 (by decide) hb_68 rfl rfl dX0_fall_11 ?_
  refine lv_iconst (v := 2) S.1 S.2.1 dX0_fall_14 (by decide) ?_
  refine lv_icmp_ne (tgt := 26) S.1 S.2.1 dX0_fall_15 (by decide) (fun c15 => ?_) (fun c15 => ?_)
  · skip
    refine lv_aload_n S.1 S.2.1 dX0_fall_26 rfl (lv_at hl 0 rfl) ?_
    refine lv_iconst (v := 0) S.1 S.2.1 dX0_fall_27 (by decide) ?_
    refine hm_put (k := 0) (fs' := [.int 0, .int a.2.1, .int (a.2.2 + 1)]) S hE hG h_2 rfl rfl hi_X00 tyX0_ok nmX0 (by decide) hb_68 rfl rfl (by rfl) (by rfl) (Nat.le_of_ble_eq_true rfl) rfl dX0_fall_28 (fun H locs hG => ?_)
    obtain ⟨M_3, eM_3⟩ : ∃ z, z = hm_up M_1 t (.inr (1, [.int 0, .int a.2.1, .int (a.2.2 + 1)])) := ⟨_, rfl⟩
    rw [← eM_3] at hG
    have h_4 : M_3 t = some (.inr (1, [.int 0, .int a.2.1, .int (a.2.2 + 1)])) := by rw [eM_3]; exact hm_up_s
    refine lv_aload_n S.1 S.2.1 dX0_fall_31 rfl (lv_at hl 0 rfl) ?_
    refine lv_iconst (v := (-1)) S.1 S.2.1 dX0_fall_32 (by decide) ?_
    refine hm_put (k := 1) (fs' := [.int 0, .int (-1), .int (a.2.2 + 1)]) S hE hG h_4 rfl rfl hi_X00 tyX0_ok nmX0 (by decide) hb_69 rfl rfl (by rfl) (by rfl) (Nat.le_of_ble_eq_true rfl) rfl dX0_fall_33 (fun H locs hG => ?_)
    obtain ⟨M_5, eM_5⟩ : ∃ z, z = hm_up M_3 t (.inr (1, [.int 0, .int (-1), .int (a.2.2 + 1)])) := ⟨_, rfl⟩
    rw [← eM_5] at hG
    have h_6 : M_5 t = some (.inr (1, [.int 0, .int (-1), .int (a.2.2 + 1)])) := by rw [eM_5]; exact hm_up_s
    exact hm_vret S hG hr hlk (⟨rfl, rfl, by simp_all [hm_up_up, fallF]⟩) (Nat.le_of_ble_eq_true rfl) (Nat.le_of_ble_eq_true rfl) dX0_fall_36
  · skip
    refine lv_aload_n S.1 S.2.1 dX0_fall_18 rfl (lv_at hl 0 rfl) ?_
    refine hm_get (k := 2) S hE hG h_2 rfl rfl hi_X00 (by decide) hb_70 rfl rfl dX0_fall_19 ?_
    refine lv_iconst (v := 3) S.1 S.2.1 dX0_fall_22 (by decide) ?_
    refine lv_icmp_lt (tgt := 36) S.1 S.2.1 dX0_fall_23 (by decide) (fun c23 => ?_) (fun c23 => ?_)
    · skip
      exact hm_vret S hG hr hlk (⟨rfl, rfl, by simp_all [hm_up_up, fallF]⟩) (Nat.le_of_ble_eq_true rfl) (Nat.le_of_ble_eq_true rfl) dX0_fall_36
    · skip
      refine lv_aload_n S.1 S.2.1 dX0_fall_26 rfl (lv_at hl 0 rfl) ?_
      refine lv_iconst (v := 0) S.1 S.2.1 dX0_fall_27 (by decide) ?_
      refine hm_put (k := 0) (fs' := [.int 0, .int a.2.1, .int (a.2.2 + 1)]) S hE hG h_2 rfl rfl hi_X00 tyX0_ok nmX0 (by decide) hb_68 rfl rfl (by rfl) (by rfl) (Nat.le_of_ble_eq_true rfl) rfl dX0_fall_28 (fun H locs hG => ?_)
      obtain ⟨M_7, eM_7⟩ : ∃ z, z = hm_up M_1 t (.inr (1, [.int 0, .int a.2.1, .int (a.2.2 + 1)])) := ⟨_, rfl⟩
      rw [← eM_7] at hG
      have h_8 : M_7 t = some (.inr (1, [.int 0, .int a.2.1, .int (a.2.2 + 1)])) := by rw [eM_7]; exact hm_up_s
      refine lv_aload_n S.1 S.2.1 dX0_fall_31 rfl (lv_at hl 0 rfl) ?_
      refine lv_iconst (v := (-1)) S.1 S.2.1 dX0_fall_32 (by decide) ?_
      refine hm_put (k := 1) (fs' := [.int 0, .int (-1), .int (a.2.2 + 1)]) S hE hG h_8 rfl rfl hi_X00 tyX0_ok nmX0 (by decide) hb_69 rfl rfl (by rfl) (by rfl) (Nat.le_of_ble_eq_true rfl) rfl dX0_fall_33 (fun H locs hG => ?_)
      obtain ⟨M_9, eM_9⟩ : ∃ z, z = hm_up M_7 t (.inr (1, [.int 0, .int (-1), .int (a.2.2 + 1)])) := ⟨_, rfl⟩
      rw [← eM_9] at hG
      have h_10 : M_9 t = some (.inr (1, [.int 0, .int (-1), .int (a.2.2 + 1)])) := by rw [eM_9]; exact hm_up_s
      exact hm_vret S hG hr hlk (⟨rfl, rfl, by simp_all [hm_up_up, fallF]⟩) (Nat.le_of_ble_eq_true rfl) (Nat.le_of_ble_eq_true rfl) dX0_fall_36

abbrev rm_X0_step : Room := { frames := 1, cells := 0, slots := 0, locals := 22 }
set_option maxHeartbeats 4000000 in
set_option maxRecDepth 100000 in
theorem c_X0_step (l : Launch) (g : GV) (ad : AD) (M : CT) (t : TG) (a : AlD) (b : Bool) (wait clk : Int32) (h1 : M t = some (alE a)) : hm_Met l yX0_step cX0_step 4 none rm_X0_step g ad M [.ref (ad t), .int (bI b), .int wait, .int clk] (hm_pU ad (hm_up M t (alE (stepF a b wait clk))) none) := by
  refine hm_start (own := RX0) (by decide) rfl (Nat.le_of_ble_eq_true rfl) ?_
  intro p e s m args below meth c S hr hlk hnm hE hG ls hl
  have hl : lv_has ls 4 [(0, .ref (ad t)), (1, .int (bI b)), (2, .int wait), (3, .int clk)] := hl
  refine lv_iload_n S.1 S.2.1 dX0_step_0 rfl (lv_at hl 1 rfl) ?_
  refine lv_if_eq (tgt := 13) S.1 S.2.1 dX0_step_1 (by decide) (fun c1 => ?_) (fun c1 => ?_)
  · skip
    refine lv_aload_n S.1 S.2.1 dX0_step_13 rfl (lv_at hl 0 rfl) ?_
    refine hm_uV (As := []) (rest := []) (st1 := []) S hE hG (c_X0_fall l g ad M t a h1) (hm_gV hb_399 hb_400 hb_401 hb_29 hb_402) hd_X0_fall rfl h1 rfl rfl ⟨Nat.le_of_ble_eq_true rfl, Nat.le_of_ble_eq_true rfl⟩ rfl hl.1 rfl (Nat.le_of_ble_eq_true rfl) dX0_step_14 ⟨Nat.le_of_ble_eq_true rfl, Nat.le_of_ble_eq_true rfl⟩ rfl (fun H locs hG => ?_)
    exact hm_vret S hG hr hlk (⟨rfl, rfl, by simp [stepF, bI_0.mp c1]⟩) (Nat.le_of_ble_eq_true rfl) (Nat.le_of_ble_eq_true rfl) dX0_step_17
  · skip
    refine lv_aload_n S.1 S.2.1 dX0_step_4 rfl (lv_at hl 0 rfl) ?_
    refine lv_iload_n S.1 S.2.1 dX0_step_5 rfl (lv_at hl 2 rfl) ?_
    refine lv_iload_n S.1 S.2.1 dX0_step_6 rfl (lv_at hl 3 rfl) ?_
    refine hm_uV (As := [.int wait, .int clk]) (rest := []) (st1 := []) S hE hG (c_X0_rise l g ad M t a wait clk h1) (hm_gV hb_395 hb_396 hb_397 hb_29 hb_398) hd_X0_rise rfl h1 rfl rfl ⟨Nat.le_of_ble_eq_true rfl, Nat.le_of_ble_eq_true rfl⟩ rfl hl.1 rfl (Nat.le_of_ble_eq_true rfl) dX0_step_7 ⟨Nat.le_of_ble_eq_true rfl, Nat.le_of_ble_eq_true rfl⟩ rfl (fun H locs hG => ?_)
    refine lv_goto (tgt := 17) S.1 S.2.1 dX0_step_10 (by decide) ?_
    exact hm_vret S hG hr hlk (⟨rfl, rfl, by simp [stepF, bI_ne.mp c1]⟩) (Nat.le_of_ble_eq_true rfl) (Nat.le_of_ble_eq_true rfl) dX0_step_17

abbrev rm_X0_become : Room := { frames := 0, cells := 0, slots := 0, locals := 0 }
set_option maxHeartbeats 4000000 in
set_option maxRecDepth 100000 in
theorem c_X0_become (l : Launch) (g : GV) (ad : AD) (M : CT) (t u : TG) (a b : AlD) (hn : u ≠ t) (h1 : M t = some (alE a)) (h2 : M u = some (alE b)) : hm_Met l yX0_become cX0_become 2 none rm_X0_become g ad M [.ref (ad t), .ref (ad u)] (hm_pU ad (hm_up M t (alE b)) none) := by
  refine hm_start (own := RX0) (by decide) rfl (Nat.le_of_ble_eq_true rfl) ?_
  intro p e s m args below meth c S hr hlk hnm hE hG ls hl
  have hl : lv_has ls 2 [(0, .ref (ad t)), (1, .ref (ad u))] := hl
  refine lv_aload_n S.1 S.2.1 dX0_become_0 rfl (lv_at hl 0 rfl) ?_
  refine lv_aload_n S.1 S.2.1 dX0_become_1 rfl (lv_at hl 1 rfl) ?_
  refine hm_get (k := 0) S hE hG h2 rfl rfl hi_X00 (by decide) hb_68 rfl rfl dX0_become_2 ?_
  refine hm_put (k := 0) (fs' := [.int b.1, .int a.2.1, .int a.2.2]) S hE hG h1 rfl rfl hi_X00 tyX0_ok nmX0 (by decide) hb_68 rfl rfl (by rfl) (by rfl) (Nat.le_of_ble_eq_true rfl) rfl dX0_become_5 (fun H locs hG => ?_)
  obtain ⟨M_1, eM_1⟩ : ∃ z, z = hm_up M t (.inr (1, [.int b.1, .int a.2.1, .int a.2.2])) := ⟨_, rfl⟩
  rw [← eM_1] at hG
  have h_2 : M_1 t = some (.inr (1, [.int b.1, .int a.2.1, .int a.2.2])) := by rw [eM_1]; exact hm_up_s
  have h_3 : M_1 u = some (.inr (1, [.int b.1, .int b.2.1, .int b.2.2])) := by rw [eM_1]; exact (hm_up_n (hn)).trans h2
  refine lv_aload_n S.1 S.2.1 dX0_become_8 rfl (lv_at hl 0 rfl) ?_
  refine lv_aload_n S.1 S.2.1 dX0_become_9 rfl (lv_at hl 1 rfl) ?_
  refine hm_get (k := 1) S hE hG h_3 rfl rfl hi_X00 (by decide) hb_69 rfl rfl dX0_become_10 ?_
  refine hm_put (k := 1) (fs' := [.int b.1, .int b.2.1, .int a.2.2]) S hE hG h_2 rfl rfl hi_X00 tyX0_ok nmX0 (by decide) hb_69 rfl rfl (by rfl) (by rfl) (Nat.le_of_ble_eq_true rfl) rfl dX0_become_13 (fun H locs hG => ?_)
  obtain ⟨M_4, eM_4⟩ : ∃ z, z = hm_up M_1 t (.inr (1, [.int b.1, .int b.2.1, .int a.2.2])) := ⟨_, rfl⟩
  rw [← eM_4] at hG
  have h_5 : M_4 t = some (.inr (1, [.int b.1, .int b.2.1, .int a.2.2])) := by rw [eM_4]; exact hm_up_s
  have h_6 : M_4 u = some (.inr (1, [.int b.1, .int b.2.1, .int b.2.2])) := by rw [eM_4]; exact (hm_up_n (hn)).trans h_3
  refine lv_aload_n S.1 S.2.1 dX0_become_16 rfl (lv_at hl 0 rfl) ?_
  refine lv_aload_n S.1 S.2.1 dX0_become_17 rfl (lv_at hl 1 rfl) ?_
  refine hm_get (k := 2) S hE hG h_6 rfl rfl hi_X00 (by decide) hb_70 rfl rfl dX0_become_18 ?_
  refine hm_put (k := 2) (fs' := [.int b.1, .int b.2.1, .int b.2.2]) S hE hG h_5 rfl rfl hi_X00 tyX0_ok nmX0 (by decide) hb_70 rfl rfl (by rfl) (by rfl) (Nat.le_of_ble_eq_true rfl) rfl dX0_become_21 (fun H locs hG => ?_)
  obtain ⟨M_7, eM_7⟩ : ∃ z, z = hm_up M_4 t (.inr (1, [.int b.1, .int b.2.1, .int b.2.2])) := ⟨_, rfl⟩
  rw [← eM_7] at hG
  have h_8 : M_7 t = some (.inr (1, [.int b.1, .int b.2.1, .int b.2.2])) := by rw [eM_7]; exact hm_up_s
  have h_9 : M_7 u = some (.inr (1, [.int b.1, .int b.2.1, .int b.2.2])) := by rw [eM_7]; exact (hm_up_n (hn)).trans h_6
  exact hm_vret S hG hr hlk (⟨rfl, rfl, by simp_all [hm_up_up]⟩) (Nat.le_of_ble_eq_true rfl) (Nat.le_of_ble_eq_true rfl) dX0_become_24

abbrev rm_X2_covers : Room := { frames := 0, cells := 0, slots := 0, locals := 0 }
set_option maxHeartbeats 4000000 in
set_option maxRecDepth 100000 in
theorem c_X2_covers (l : Launch) (g : GV) (ad : AD) (M : CT) (t : TG) (h : HuD) (ru pl clk : Int32) (h1 : M t = some (huE h)) : hm_Met l yX2_covers cX2_covers 4 (some .boolean) rm_X2_covers g ad M [.ref (ad t), .int ru, .int pl, .int clk] (hm_pU ad M (some (.int (bI (covF h ru pl clk))))) := by
  refine hm_start (own := RX2) (by decide) rfl (Nat.le_of_ble_eq_true rfl) ?_
  intro p e s m args below meth c S hr hlk hnm hE hG ls hl
  have hl : lv_has ls 4 [(0, .ref (ad t)), (1, .int ru), (2, .int pl), (3, .int clk)] := hl
  refine lv_iload_n S.1 S.2.1 dX2_covers_0 rfl (lv_at hl 3 rfl) ?_
  refine lv_aload_n S.1 S.2.1 dX2_covers_1 rfl (lv_at hl 0 rfl) ?_
  refine hm_get (k := 2) S hE hG h1 rfl rfl hi_X20 (by decide) hb_309 rfl rfl dX2_covers_2 ?_
  refine lv_icmp_ge (tgt := 44) S.1 S.2.1 dX2_covers_5 (by decide) (fun c5 => ?_) (fun c5 => ?_)
  · skip
    refine lv_iconst (v := 0) S.1 S.2.1 dX2_covers_44 (by decide) ?_
    exact hm_zret S hG hr hlk (by decide) (⟨by rw [covF, decide_eq_false (Int32.not_lt.mpr c5)]; rfl, rfl, rfl⟩) (Nat.le_of_ble_eq_true rfl) (Nat.le_of_ble_eq_true rfl) dX2_covers_45
  · skip
    have e5 := Int32.not_le.mp c5
    refine lv_aload_n S.1 S.2.1 dX2_covers_8 rfl (lv_at hl 0 rfl) ?_
    refine hm_get (k := 0) S hE hG h1 rfl rfl hi_X20 (by decide) hb_310 rfl rfl dX2_covers_9 ?_
    refine lv_iconst (v := (-1)) S.1 S.2.1 dX2_covers_12 (by decide) ?_
    refine lv_icmp_eq (tgt := 24) S.1 S.2.1 dX2_covers_13 (by decide) (fun c13 => ?_) (fun c13 => ?_)
    · skip
      refine lv_aload_n S.1 S.2.1 dX2_covers_24 rfl (lv_at hl 0 rfl) ?_
      refine hm_get (k := 1) S hE hG h1 rfl rfl hi_X20 (by decide) hb_311 rfl rfl dX2_covers_25 ?_
      refine lv_iconst (v := (-1)) S.1 S.2.1 dX2_covers_28 (by decide) ?_
      refine lv_icmp_eq (tgt := 40) S.1 S.2.1 dX2_covers_29 (by decide) (fun c29 => ?_) (fun c29 => ?_)
      · skip
        refine lv_iconst (v := 1) S.1 S.2.1 dX2_covers_40 (by decide) ?_
        refine lv_goto (tgt := 45) S.1 S.2.1 dX2_covers_41 (by decide) ?_
        exact hm_zret S hG hr hlk (by decide) (⟨by simp_all [covF, bI], rfl, rfl⟩) (Nat.le_of_ble_eq_true rfl) (Nat.le_of_ble_eq_true rfl) dX2_covers_45
      · skip
        refine lv_aload_n S.1 S.2.1 dX2_covers_32 rfl (lv_at hl 0 rfl) ?_
        refine hm_get (k := 1) S hE hG h1 rfl rfl hi_X20 (by decide) hb_311 rfl rfl dX2_covers_33 ?_
        refine lv_iload_n S.1 S.2.1 dX2_covers_36 rfl (lv_at hl 2 rfl) ?_
        refine lv_icmp_ne (tgt := 44) S.1 S.2.1 dX2_covers_37 (by decide) (fun c37 => ?_) (fun c37 => ?_)
        · skip
          refine lv_iconst (v := 0) S.1 S.2.1 dX2_covers_44 (by decide) ?_
          exact hm_zret S hG hr hlk (by decide) (⟨by simp_all [covF, bI], rfl, rfl⟩) (Nat.le_of_ble_eq_true rfl) (Nat.le_of_ble_eq_true rfl) dX2_covers_45
        · skip
          refine lv_iconst (v := 1) S.1 S.2.1 dX2_covers_40 (by decide) ?_
          refine lv_goto (tgt := 45) S.1 S.2.1 dX2_covers_41 (by decide) ?_
          exact hm_zret S hG hr hlk (by decide) (⟨by simp_all [covF, bI], rfl, rfl⟩) (Nat.le_of_ble_eq_true rfl) (Nat.le_of_ble_eq_true rfl) dX2_covers_45
    · skip
      refine lv_aload_n S.1 S.2.1 dX2_covers_16 rfl (lv_at hl 0 rfl) ?_
      refine hm_get (k := 0) S hE hG h1 rfl rfl hi_X20 (by decide) hb_310 rfl rfl dX2_covers_17 ?_
      refine lv_iload_n S.1 S.2.1 dX2_covers_20 rfl (lv_at hl 1 rfl) ?_
      refine lv_icmp_ne (tgt := 44) S.1 S.2.1 dX2_covers_21 (by decide) (fun c21 => ?_) (fun c21 => ?_)
      · skip
        refine lv_iconst (v := 0) S.1 S.2.1 dX2_covers_44 (by decide) ?_
        exact hm_zret S hG hr hlk (by decide) (⟨by simp_all [covF, bI], rfl, rfl⟩) (Nat.le_of_ble_eq_true rfl) (Nat.le_of_ble_eq_true rfl) dX2_covers_45
      · skip
        refine lv_aload_n S.1 S.2.1 dX2_covers_24 rfl (lv_at hl 0 rfl) ?_
        refine hm_get (k := 1) S hE hG h1 rfl rfl hi_X20 (by decide) hb_311 rfl rfl dX2_covers_25 ?_
        refine lv_iconst (v := (-1)) S.1 S.2.1 dX2_covers_28 (by decide) ?_
        refine lv_icmp_eq (tgt := 40) S.1 S.2.1 dX2_covers_29 (by decide) (fun c29 => ?_) (fun c29 => ?_)
        · skip
          refine lv_iconst (v := 1) S.1 S.2.1 dX2_covers_40 (by decide) ?_
          refine lv_goto (tgt := 45) S.1 S.2.1 dX2_covers_41 (by decide) ?_
          exact hm_zret S hG hr hlk (by decide) (⟨by simp_all [covF, bI], rfl, rfl⟩) (Nat.le_of_ble_eq_true rfl) (Nat.le_of_ble_eq_true rfl) dX2_covers_45
        · skip
          refine lv_aload_n S.1 S.2.1 dX2_covers_32 rfl (lv_at hl 0 rfl) ?_
          refine hm_get (k := 1) S hE hG h1 rfl rfl hi_X20 (by decide) hb_311 rfl rfl dX2_covers_33 ?_
          refine lv_iload_n S.1 S.2.1 dX2_covers_36 rfl (lv_at hl 2 rfl) ?_
          refine lv_icmp_ne (tgt := 44) S.1 S.2.1 dX2_covers_37 (by decide) (fun c37 => ?_) (fun c37 => ?_)
          · skip
            refine lv_iconst (v := 0) S.1 S.2.1 dX2_covers_44 (by decide) ?_
            exact hm_zret S hG hr hlk (by decide) (⟨by simp_all [covF, bI], rfl, rfl⟩) (Nat.le_of_ble_eq_true rfl) (Nat.le_of_ble_eq_true rfl) dX2_covers_45
          · skip
            refine lv_iconst (v := 1) S.1 S.2.1 dX2_covers_40 (by decide) ?_
            refine lv_goto (tgt := 45) S.1 S.2.1 dX2_covers_41 (by decide) ?_
            exact hm_zret S hG hr hlk (by decide) (⟨by simp_all [covF, bI], rfl, rfl⟩) (Nat.le_of_ble_eq_true rfl) (Nat.le_of_ble_eq_true rfl) dX2_covers_45

abbrev rm_Jx4a65c_size_8abf5 : Room := { frames := 0, cells := 0, slots := 0, locals := 0 }
set_option maxHeartbeats 4000000 in
set_option maxRecDepth 100000 in
theorem c_Jx4a65c_size_8abf5 (l : Launch) (g : GV) (ad : AD) (M : CT) (t : TG) (mc : Int32) (q n : Nat) (h1 : M t = some (liE mc q n)) : hm_Met l yJx4a65c_size_8abf5 cJx4a65c_size_8abf5 1 (some .int) rm_Jx4a65c_size_8abf5 g ad M [.ref (ad t)] (hm_pU ad M (some (.int (nI n)))) := by
  refine hm_start (own := RJx4a65c) (by decide) rfl (Nat.le_of_ble_eq_true rfl) ?_
  intro p e s m args below meth c S hr hlk hnm hE hG ls hl
  have hl : lv_has ls 1 [(0, .ref (ad t))] := hl
  refine lv_aload_n S.1 S.2.1 dJx4a65c_size_8abf5_0 rfl (lv_at hl 0 rfl) ?_
  refine hm_get (k := 2) S hE hG h1 rfl rfl hi_Jx4a65c0 (by decide) hb_101 rfl rfl dJx4a65c_size_8abf5_1 ?_
  exact hm_iret S hG hr hlk (⟨rfl, rfl, rfl⟩) (Nat.le_of_ble_eq_true rfl) (Nat.le_of_ble_eq_true rfl) dJx4a65c_size_8abf5_4

abbrev rm_J3_checkIndex_8e157 : Room := { frames := 0, cells := 0, slots := 0, locals := 0 }
set_option maxHeartbeats 4000000 in
set_option maxRecDepth 100000 in
theorem c_J3_checkIndex_8e157 (l : Launch) (g : GV) (ad : AD) (M : CT) (i n : Nat) (h1 : i < n) (h2 : n < 2 ^ 31) : hm_Met l yJ3_checkIndex_8e157 cJ3_checkIndex_8e157 3 (some .int) rm_J3_checkIndex_8e157 g ad M [.int (nI i), .int (nI n), .null] (hm_pU ad M (some (.int (nI i)))) := by
  refine hm_start (own := RJ3) (by decide) rfl (Nat.le_of_ble_eq_true rfl) ?_
  intro p e s m args below meth c S hr hlk hnm hE hG ls hl
  have hl : lv_has ls 3 [(0, .int (nI i)), (1, .int (nI n)), (2, .null)] := hl
  refine lv_iload_n S.1 S.2.1 dJ3_checkIndex_8e157_0 rfl (lv_at hl 0 rfl) ?_
  refine lv_if_lt (tgt := 9) S.1 S.2.1 dJ3_checkIndex_8e157_1 (by decide) (fun h9 => absurd h9 (nI_pos (by omega))) (fun _ => ?_)
  refine lv_iload_n S.1 S.2.1 dJ3_checkIndex_8e157_4 rfl (lv_at hl 0 rfl) ?_
  refine lv_iload_n S.1 S.2.1 dJ3_checkIndex_8e157_5 rfl (lv_at hl 1 rfl) ?_
  refine lv_icmp_lt (tgt := 16) S.1 S.2.1 dJ3_checkIndex_8e157_6 (by decide) (fun _ => ?_) (fun h9 => absurd (nI_lt h1 h2) h9)
  refine lv_iload_n S.1 S.2.1 dJ3_checkIndex_8e157_16 rfl (lv_at hl 0 rfl) ?_
  exact hm_iret S hG hr hlk (⟨rfl, rfl, rfl⟩) (Nat.le_of_ble_eq_true rfl) (Nat.le_of_ble_eq_true rfl) dJ3_checkIndex_8e157_17

abbrev rm_J15_checkIndex_7cf53 : Room := { frames := 1, cells := 0, slots := 0, locals := 22 }
set_option maxHeartbeats 4000000 in
set_option maxRecDepth 100000 in
theorem c_J15_checkIndex_7cf53 (l : Launch) (g : GV) (ad : AD) (M : CT) (i n : Nat) (h1 : i < n) (h2 : n < 2 ^ 31) : hm_Met l yJ15_checkIndex_7cf53 cJ15_checkIndex_7cf53 2 (some .int) rm_J15_checkIndex_7cf53 g ad M [.int (nI i), .int (nI n)] (hm_pU ad M (some (.int (nI i)))) := by
  refine hm_start (own := RJ15) (by decide) rfl (Nat.le_of_ble_eq_true rfl) ?_
  intro p e s m args below meth c S hr hlk hnm hE hG ls hl
  have hl : lv_has ls 2 [(0, .int (nI i)), (1, .int (nI n))] := hl
  refine lv_iload_n S.1 S.2.1 dJ15_checkIndex_7cf53_0 rfl (lv_at hl 0 rfl) ?_
  refine lv_iload_n S.1 S.2.1 dJ15_checkIndex_7cf53_1 rfl (lv_at hl 1 rfl) ?_
  refine lv_null S.1 S.2.1 dJ15_checkIndex_7cf53_2 ?_
  refine hm_uS (As := [.int (nI i), .int (nI n), .null]) (rest := []) (st1 := [.int (nI i)]) S hE hG (c_J3_checkIndex_8e157 l g ad M i n h1 h2) (hm_gS hb_216 hb_217 hb_218 hb_219) hd_J3_checkIndex_8e157 ⟨Nat.le_of_ble_eq_true rfl, Nat.le_of_ble_eq_true rfl⟩ rfl hl.1 rfl (Nat.le_of_ble_eq_true rfl) dJ15_checkIndex_7cf53_3 ⟨Nat.le_of_ble_eq_true rfl, Nat.le_of_ble_eq_true rfl⟩ rfl (fun H locs hG => ?_)
  exact hm_iret S hG hr hlk (⟨rfl, rfl, rfl⟩) (Nat.le_of_ble_eq_true rfl) (Nat.le_of_ble_eq_true rfl) dJ15_checkIndex_7cf53_6

abbrev rm_Jx4a65c_elementData_915e3 : Room := { frames := 0, cells := 0, slots := 0, locals := 0 }
set_option maxHeartbeats 4000000 in
set_option maxRecDepth 100000 in
theorem c_Jx4a65c_elementData_915e3 (l : Launch) (g : GV) (ad : AD) (M : CT) (t : TG) (mc : Int32) (q n : Nat) (h1 : M t = some (liE mc q n)) (tq : TG) (f : Nat → Option Nat) (i r : Nat) (ha : ad tq = q) (h2 : M tq = some (hm_ra g 3 10 f)) (hi : i < n) (hn : n ≤ 10) (hrr : f i = some r) : hm_Met l yJx4a65c_elementData_915e3 cJx4a65c_elementData_915e3 2 (some (.object "java/lang/Object")) rm_Jx4a65c_elementData_915e3 g ad M [.ref (ad t), .int (nI i)] (hm_pU ad M (some (.ref r))) := by
  refine hm_start (own := RJx4a65c) (by decide) rfl (Nat.le_of_ble_eq_true rfl) ?_
  intro p e s m args below meth c S hr hlk hnm hE hG ls hl
  have hl : lv_has ls 2 [(0, .ref (ad t)), (1, .int (nI i))] := hl
  refine lv_aload_n S.1 S.2.1 dJx4a65c_elementData_915e3_0 rfl (lv_at hl 0 rfl) ?_
  refine hm_get (k := 1) S hE hG h1 rfl rfl hi_Jx4a65c0 (by decide) hb_38 rfl rfl dJx4a65c_elementData_915e3_1 ?_
  refine lv_iload_n S.1 S.2.1 dJx4a65c_elementData_915e3_4 rfl (lv_at hl 1 rfl) ?_
  refine hm_aldq (q := r) S hE hG h2 ha rfl (vp_in_nI (n := i) (by omega) (by decide)) (by rw [nI_clamp (by omega)]; exact hrr) dJx4a65c_elementData_915e3_5 ?_
  exact hm_aret S hG hr (Or.inl ⟨_, rfl⟩) hlk (⟨rfl, rfl, rfl⟩) (Nat.le_of_ble_eq_true rfl) (Nat.le_of_ble_eq_true rfl) dJx4a65c_elementData_915e3_6

abbrev rm_Jx4a65c_get_915e3 : Room := { frames := 2, cells := 0, slots := 0, locals := 43 }
set_option maxHeartbeats 4000000 in
set_option maxRecDepth 100000 in
theorem c_Jx4a65c_get_915e3 (l : Launch) (g : GV) (ad : AD) (M : CT) (t : TG) (mc : Int32) (q n : Nat) (h1 : M t = some (liE mc q n)) (tq : TG) (f : Nat → Option Nat) (i r : Nat) (ha : ad tq = q) (h2 : M tq = some (hm_ra g 3 10 f)) (hi : i < n) (hn : n ≤ 10) (hrr : f i = some r) : hm_Met l yJx4a65c_get_915e3 cJx4a65c_get_915e3 2 (some (.object "java/lang/Object")) rm_Jx4a65c_get_915e3 g ad M [.ref (ad t), .int (nI i)] (hm_pU ad M (some (.ref r))) := by
  refine hm_start (own := RJx4a65c) (by decide) rfl (Nat.le_of_ble_eq_true rfl) ?_
  intro p e s m args below meth c S hr hlk hnm hE hG ls hl
  have hl : lv_has ls 2 [(0, .ref (ad t)), (1, .int (nI i))] := hl
  refine lv_iload_n S.1 S.2.1 dJx4a65c_get_915e3_0 rfl (lv_at hl 1 rfl) ?_
  refine lv_aload_n S.1 S.2.1 dJx4a65c_get_915e3_1 rfl (lv_at hl 0 rfl) ?_
  refine hm_get (k := 2) S hE hG h1 rfl rfl hi_Jx4a65c0 (by decide) hb_101 rfl rfl dJx4a65c_get_915e3_2 ?_
  refine hm_uS (As := [.int (nI i), .int (nI n)]) (rest := []) (st1 := [.int (nI i)]) S hE hG (c_J15_checkIndex_7cf53 l g ad M i n hi (by omega)) (hm_gS hb_212 hb_213 hb_214 hb_215) hd_J15_checkIndex_7cf53 ⟨Nat.le_of_ble_eq_true rfl, Nat.le_of_ble_eq_true rfl⟩ rfl hl.1 rfl (Nat.le_of_ble_eq_true rfl) dJx4a65c_get_915e3_5 ⟨Nat.le_of_ble_eq_true rfl, Nat.le_of_ble_eq_true rfl⟩ rfl (fun H locs hG => ?_)
  refine lv_pop S.1 S.2.1 dJx4a65c_get_915e3_8 rfl ?_
  refine lv_aload_n S.1 S.2.1 dJx4a65c_get_915e3_9 rfl (lv_at hl 0 rfl) ?_
  refine lv_iload_n S.1 S.2.1 dJx4a65c_get_915e3_10 rfl (lv_at hl 1 rfl) ?_
  refine hm_uV (As := [.int (nI i)]) (rest := []) (st1 := [.ref r]) S hE hG (c_Jx4a65c_elementData_915e3 l g ad M t mc q n h1 tq f i r ha h2 hi hn hrr) (hm_gV hb_220 hb_221 hb_222 hb_15 hb_223) hd_Jx4a65c_elementData_915e3 rfl h1 rfl rfl ⟨Nat.le_of_ble_eq_true rfl, Nat.le_of_ble_eq_true rfl⟩ rfl hl.1 rfl (Nat.le_of_ble_eq_true rfl) dJx4a65c_get_915e3_11 ⟨Nat.le_of_ble_eq_true rfl, Nat.le_of_ble_eq_true rfl⟩ rfl (fun H locs hG => ?_)
  exact hm_aret S hG hr (Or.inl ⟨_, rfl⟩) hlk (⟨rfl, rfl, rfl⟩) (Nat.le_of_ble_eq_true rfl) (Nat.le_of_ble_eq_true rfl) dJx4a65c_get_915e3_14
end
section
abbrev rm_X5_past : Room := { frames := 0, cells := 0, slots := 0, locals := 0 }
set_option maxHeartbeats 4000000 in
set_option maxRecDepth 100000 in
theorem c_X5_past (l : Launch) (g : GV) (ad : AD) (M : CT) (i : Nat) (s0 : SeD) (hs : hasSe g ad M i s0) (k b a : Nat) (hk : k < 6) (hb : b < 1000) (ha : a < 1000) : hm_Met l yX5_past cX5_past 5 (some .int) rm_X5_past g ad M [.ref (ad (10, i, 0)), .int (nI k), .int (nI b), .int (nI a)] (hm_pU ad M (some (.int (pastF s0 k b a)))) := by
  refine hm_start (own := RX5) (by decide) rfl (Nat.le_of_ble_eq_true rfl) ?_
  intro p e s m args below meth c S hr hlk hnm hE hG ls hl
  have hl : lv_has ls 5 [(0, .ref (ad (10, i, 0))), (1, .int (nI k)), (2, .int (nI b)), (3, .int (nI a))] := hl
  obtain ⟨h10, h11, h12, h13, hla, hhe, hi⟩ := hs
  refine lv_iload_n S.1 S.2.1 dX5_past_0 rfl (lv_at hl 2 rfl) ?_
  refine lv_iload_n S.1 S.2.1 dX5_past_1 rfl (lv_at hl 3 rfl) ?_
  refine lv_icmp_ge (tgt := 12) S.1 S.2.1 dX5_past_2 (by decide) (fun c2 => ?_) (fun c2 => ?_)
  · skip
    have e2 : a ≤ b := hm_leI (by omega) (by omega) c2
    refine lv_iload_n S.1 S.2.1 dX5_past_12 rfl (lv_at hl 2 rfl) ?_
    refine lv_iload_n S.1 S.2.1 dX5_past_13 rfl (lv_at hl 3 rfl) ?_
    refine lv_isub S.1 S.2.1 dX5_past_14 ?_
    refine hm_top (z := nI (b - a)) (pk_sub e2) ?_
    refine lv_istore (lv' := [(4, .int (nI (b - a))), (0, .ref (ad (10, i, 0))), (1, .int (nI k)), (2, .int (nI b)), (3, .int (nI a))]) S.1 S.2.1 dX5_past_15 hl (by decide) rfl (fun ls hl => ?_)
    refine lv_iload S.1 S.2.1 dX5_past_17 (lv_at hl 0 rfl) ?_
    refine lv_aload_n S.1 S.2.1 dX5_past_19 rfl (lv_at hl 1 rfl) ?_
    refine hm_get (k := 7) S hE hG h10 rfl rfl hi_X50 (by decide) hb_110 rfl rfl dX5_past_20 ?_
    refine lv_icmp_lt (tgt := 28) S.1 S.2.1 dX5_past_23 (by decide) (fun c23 => ?_) (fun c23 => ?_)
    · skip
      have e23 : b - a < sHe s0 := hm_ltI (by omega) (by omega) c23
      refine lv_aload_n S.1 S.2.1 dX5_past_28 rfl (lv_at hl 1 rfl) ?_
      refine hm_get (k := 5) S hE hG h10 rfl rfl hi_X50 (by decide) hb_108 rfl rfl dX5_past_29 ?_
      refine lv_aload_n S.1 S.2.1 dX5_past_32 rfl (lv_at hl 1 rfl) ?_
      refine hm_get (k := 6) S hE hG h10 rfl rfl hi_X50 (by decide) hb_109 rfl rfl dX5_past_33 ?_
      refine lv_iload S.1 S.2.1 dX5_past_36 (lv_at hl 0 rfl) ?_
      refine lv_isub S.1 S.2.1 dX5_past_38 ?_
      refine lv_bipush (v := 13) S.1 S.2.1 dX5_past_39 (by decide) ?_
      refine lv_iadd S.1 S.2.1 dX5_past_41 ?_
      refine hm_top (z := nI (sLa s0 + 13 - (b - a))) (hm_sub13 (by omega)) ?_
      refine lv_bipush (v := 13) S.1 S.2.1 dX5_past_42 (by decide) ?_
      refine lv_irem S.1 S.2.1 dX5_past_44 (by decide) ?_
      refine hm_top (z := nI ((sLa s0 + 13 - (b - a)) % 13)) (hm_rem13 (by omega)) ?_
      refine hm_aldA (q := (ad (13, i, ((sLa s0 + 13 - (b - a)) % 13)))) S hE hG h12 rfl (vp_in_nI (Nat.mod_lt _ (by decide)) (by decide)) (by rw [nI_clamp (Nat.lt_trans (Nat.mod_lt _ (by decide)) (by decide))]; exact if_pos (Nat.mod_lt _ (by decide))) dX5_past_45 ?_
      refine lv_iload_n S.1 S.2.1 dX5_past_46 rfl (lv_at hl 2 rfl) ?_
      refine hm_iald (x := (sRo s0 ((sLa s0 + 13 - (b - a)) % 13)) k) S hE hG (h13 ((sLa s0 + 13 - (b - a)) % 13) (Nat.mod_lt _ (by decide))) rfl (vp_in_nI (hk) (by decide)) (congrArg (sRo s0 ((sLa s0 + 13 - (b - a)) % 13)) (nI_clamp (Nat.lt_trans (hk) (by decide)))) dX5_past_47 ?_
      exact hm_iret S hG hr hlk (⟨by rw [pastF, if_neg (by omega), if_neg (by omega)], rfl, rfl⟩) (Nat.le_of_ble_eq_true rfl) (Nat.le_of_ble_eq_true rfl) dX5_past_48
    · skip
      have e23 : sHe s0 ≤ b - a := hm_nltI (by omega) (by omega) c23
      refine lv_iconst (v := 0) S.1 S.2.1 dX5_past_26 (by decide) ?_
      exact hm_iret S hG hr hlk (⟨by rw [pastF, if_neg (by omega), if_pos e23], rfl, rfl⟩) (Nat.le_of_ble_eq_true rfl) (Nat.le_of_ble_eq_true rfl) dX5_past_27
  · skip
    have e2 : b < a := hm_nleI (by omega) (by omega) c2
    refine lv_aload_n S.1 S.2.1 dX5_past_5 rfl (lv_at hl 0 rfl) ?_
    refine hm_get (k := 4) S hE hG h10 rfl rfl hi_X50 (by decide) hb_106 rfl rfl dX5_past_6 ?_
    refine lv_iload_n S.1 S.2.1 dX5_past_9 rfl (lv_at hl 1 rfl) ?_
    refine hm_iald (x := (sPr s0) k) S hE hG h11 rfl (vp_in_nI (hk) (by decide)) (congrArg (sPr s0) (nI_clamp (Nat.lt_trans (hk) (by decide)))) dX5_past_10 ?_
    exact hm_iret S hG hr hlk (⟨by rw [pastF, if_pos e2], rfl, rfl⟩) (Nat.le_of_ble_eq_true rfl) (Nat.le_of_ble_eq_true rfl) dX5_past_11
end
section
abbrev rm_X5_growthOf : Room := { frames := 1, cells := 0, slots := 0, locals := 24 }
set_option maxHeartbeats 4000000 in
set_option maxRecDepth 100000 in
theorem c_X5_growthOf (l : Launch) (g : GV) (ad : AD) (M : CT) (i : Nat) (s0 : SeD) (hs : hasSe g ad M i s0) (k w a : Nat) (hk : k < 6) (hw : w < 100) (ha : a < 100) : hm_Met l yX5_growthOf cX5_growthOf 8 (some .int) rm_X5_growthOf g ad M [.ref (ad (10, i, 0)), .int (nI k), .int (nI w), .int (nI a)] (hm_pU ad M (some (.int (grF s0 k w a)))) := by
  refine hm_start (own := RX5) (by decide) rfl (Nat.le_of_ble_eq_true rfl) ?_
  intro p e s m args below meth c S hr hlk hnm hE hG ls hl
  have hl : lv_has ls 8 [(0, .ref (ad (10, i, 0))), (1, .int (nI k)), (2, .int (nI w)), (3, .int (nI a))] := hl
  obtain ⟨h10, h11, h12, h13, hla, hhe, hi⟩ := id hs
  refine lv_iconst (v := 0) S.1 S.2.1 dX5_growthOf_0 (by decide) ?_
  refine lv_istore (lv' := [(4, .int 0), (0, .ref (ad (10, i, 0))), (1, .int (nI k)), (2, .int (nI w)), (3, .int (nI a))]) S.1 S.2.1 dX5_growthOf_1 hl (by decide) rfl (fun ls hl => ?_)
  refine lv_iload_n S.1 S.2.1 dX5_growthOf_3 rfl (lv_at hl 3 rfl) ?_
  refine lv_iconst (v := 1) S.1 S.2.1 dX5_growthOf_4 (by decide) ?_
  refine lv_iadd S.1 S.2.1 dX5_growthOf_5 ?_
  refine hm_top (z := nI (w + 1)) (nI_1 w) ?_
  refine lv_aload_n S.1 S.2.1 dX5_growthOf_6 rfl (lv_at hl 1 rfl) ?_
  refine hm_get (k := 7) S hE hG h10 rfl rfl hi_X50 (by decide) hb_110 rfl rfl dX5_growthOf_7 ?_
  refine lv_iload_n S.1 S.2.1 dX5_growthOf_10 rfl (lv_at hl 4 rfl) ?_
  refine lv_iadd S.1 S.2.1 dX5_growthOf_11 ?_
  refine hm_top (z := nI (sHe s0 + a)) (nI_add _ _) ?_
  refine hm_min (z := nI (min (w + 1) (sHe s0 + a))) S hb_372 hb_4 hb_5 hb_6 hl.1 (Nat.le_of_ble_eq_true rfl) (Nat.le_of_ble_eq_true rfl) (Nat.le_of_ble_eq_true rfl) (Nat.le_of_ble_eq_true rfl) (hm_minN _ _ (by omega) (by omega)) dX5_growthOf_12 ?_
  rcases Nat.eq_zero_or_pos (min (w + 1) (sHe s0 + a)) with hm0 | hm0
  · skip
    refine lv_iconst (v := 1) S.1 S.2.1 dX5_growthOf_15 (by decide) ?_
    refine lv_isub S.1 S.2.1 dX5_growthOf_16 ?_
    refine hm_top (z := -1) (by rw [hm0]; decide) ?_
    refine lv_istore (lv' := [(5, .int (-1)), (4, .int 0), (0, .ref (ad (10, i, 0))), (1, .int (nI k)), (2, .int (nI w)), (3, .int (nI a))]) S.1 S.2.1 dX5_growthOf_17 hl (by decide) rfl (fun ls hl => ?_)
    refine lv_iload S.1 S.2.1 dX5_growthOf_19 (lv_at hl 0 rfl) ?_
    refine lv_if_le (tgt := 72) S.1 S.2.1 dX5_growthOf_21 (by decide) (fun _ => ?_) (fun h9 => absurd (by decide) h9)
    refine lv_iload S.1 S.2.1 dX5_growthOf_72 (lv_at hl 1 rfl) ?_
    exact hm_iret S hG hr hlk (⟨by rw [grF, hm0]; rfl, rfl, rfl⟩) (Nat.le_of_ble_eq_true rfl) (Nat.le_of_ble_eq_true rfl) dX5_growthOf_74
  · skip
    refine lv_iconst (v := 1) S.1 S.2.1 dX5_growthOf_15 (by decide) ?_
    refine lv_isub S.1 S.2.1 dX5_growthOf_16 ?_
    refine hm_top (z := nI ((min (w + 1) (sHe s0 + a)) - 1)) (pk_sub (b := 1) hm0) ?_
    refine lv_istore (lv' := [(5, .int (nI ((min (w + 1) (sHe s0 + a)) - 1))), (4, .int 0), (0, .ref (ad (10, i, 0))), (1, .int (nI k)), (2, .int (nI w)), (3, .int (nI a))]) S.1 S.2.1 dX5_growthOf_17 hl (by decide) rfl (fun ls hl => ?_)
    have L19_0 : ∀ (n : Nat) (acc : Int32), grL s0 k a n acc = grF s0 k w a → n < 100 → ∀ (H : Heap) (locs : List Loc) (ls : Array Slot), hm_G g ad M s.heap H locs → lv_has ls 8 [(0, .ref (ad (10, i, 0))), (1, .int (nI k)), (2, .int (nI w)), (3, .int (nI a)), (4, .int acc), (5, .int (nI n))] → W p l e rm_X5_growthOf s m args below meth c H locs 0 0 (MQ below (hm_Q g (hm_pU ad M (some (.int (grF s0 k w a))))) args s rm_X5_growthOf.cells rm_X5_growthOf.slots (hm_A g)) (F0 m 19 ls []) := by
      intro n
      induction n with
      | zero =>
        intro acc hF hn H locs ls hG hl
        refine lv_iload S.1 S.2.1 dX5_growthOf_19 (lv_at hl 5 rfl) ?_
        refine lv_if_le (tgt := 72) S.1 S.2.1 dX5_growthOf_21 (by decide) (fun _ => ?_) (fun h9 => absurd (by decide) h9)
        refine lv_iload S.1 S.2.1 dX5_growthOf_72 (lv_at hl 4 rfl) ?_
        exact hm_iret S hG hr hlk (⟨by rw [← hF]; rfl, rfl, rfl⟩) (Nat.le_of_ble_eq_true rfl) (Nat.le_of_ble_eq_true rfl) dX5_growthOf_74
      | succ n ih =>
        intro acc hF hn H locs ls hG hl
        refine lv_iload S.1 S.2.1 dX5_growthOf_19 (lv_at hl 5 rfl) ?_
        refine lv_if_le (tgt := 72) S.1 S.2.1 dX5_growthOf_21 (by decide) (fun h9 => absurd h9 (nI_nle (Nat.succ_pos _) (by omega))) (fun _ => ?_)
        refine lv_aload_n S.1 S.2.1 dX5_growthOf_24 rfl (lv_at hl 0 rfl) ?_
        refine lv_iload_n S.1 S.2.1 dX5_growthOf_25 rfl (lv_at hl 1 rfl) ?_
        refine lv_iload S.1 S.2.1 dX5_growthOf_26 (lv_at hl 5 rfl) ?_
        refine lv_iconst (v := 1) S.1 S.2.1 dX5_growthOf_28 (by decide) ?_
        refine lv_isub S.1 S.2.1 dX5_growthOf_29 ?_
        refine hm_top (z := nI n) (nI_pred n) ?_
        refine lv_iload_n S.1 S.2.1 dX5_growthOf_30 rfl (lv_at hl 3 rfl) ?_
        refine hm_uV (As := [.int (nI k), .int (nI n), .int (nI a)]) (rest := []) (st1 := [.int (pastF s0 k n a)]) S hE hG (c_X5_past l g ad M i s0 hs k n a (by omega) (by omega) (by omega)) (hm_gV hb_364 hb_365 hb_366 hb_90 hb_367) hd_X5_past rfl h10 rfl rfl ⟨Nat.le_of_ble_eq_true rfl, Nat.le_of_ble_eq_true rfl⟩ rfl hl.1 rfl (Nat.le_of_ble_eq_true rfl) dX5_growthOf_31 ⟨Nat.le_of_ble_eq_true rfl, Nat.le_of_ble_eq_true rfl⟩ rfl (fun H locs hG => ?_)
        refine lv_istore (lv' := [(6, .int (pastF s0 k n a)), (0, .ref (ad (10, i, 0))), (1, .int (nI k)), (2, .int (nI w)), (3, .int (nI a)), (4, .int acc), (5, .int (nI (n + 1)))]) S.1 S.2.1 dX5_growthOf_34 hl (by decide) rfl (fun ls hl => ?_)
        refine lv_iload S.1 S.2.1 dX5_growthOf_36 (lv_at hl 0 rfl) ?_
        refine lv_aload_n S.1 S.2.1 dX5_growthOf_38 rfl (lv_at hl 1 rfl) ?_
        refine lv_iload_n S.1 S.2.1 dX5_growthOf_39 rfl (lv_at hl 2 rfl) ?_
        refine lv_iload S.1 S.2.1 dX5_growthOf_40 (lv_at hl 6 rfl) ?_
        refine lv_iload_n S.1 S.2.1 dX5_growthOf_42 rfl (lv_at hl 4 rfl) ?_
        refine hm_uV (As := [.int (nI k), .int (nI (n + 1)), .int (nI a)]) (rest := [.int (pastF s0 k n a)]) (st1 := [.int (pastF s0 k (n + 1) a), .int (pastF s0 k n a)]) S hE hG (c_X5_past l g ad M i s0 hs k (n + 1) a (by omega) (by omega) (by omega)) (hm_gV hb_364 hb_365 hb_366 hb_90 hb_367) hd_X5_past rfl h10 rfl rfl ⟨Nat.le_of_ble_eq_true rfl, Nat.le_of_ble_eq_true rfl⟩ rfl hl.1 rfl (Nat.le_of_ble_eq_true rfl) dX5_growthOf_43 ⟨Nat.le_of_ble_eq_true rfl, Nat.le_of_ble_eq_true rfl⟩ rfl (fun H locs hG => ?_)
        refine lv_isub S.1 S.2.1 dX5_growthOf_46 ?_
        refine lv_istore (lv' := [(7, .int ((pastF s0 k n a) - (pastF s0 k (n + 1) a))), (6, .int (pastF s0 k n a)), (0, .ref (ad (10, i, 0))), (1, .int (nI k)), (2, .int (nI w)), (3, .int (nI a)), (4, .int acc), (5, .int (nI (n + 1)))]) S.1 S.2.1 dX5_growthOf_47 hl (by decide) rfl (fun ls hl => ?_)
        refine lv_iload S.1 S.2.1 dX5_growthOf_49 (lv_at hl 6 rfl) ?_
        refine lv_iload S.1 S.2.1 dX5_growthOf_51 (lv_at hl 0 rfl) ?_
        refine lv_if_ge (tgt := 61) S.1 S.2.1 dX5_growthOf_53 (by decide) (fun c53 => ?_) (fun c53 => ?_)
        · skip
          refine lv_iload S.1 S.2.1 dX5_growthOf_61 (lv_at hl 0 rfl) ?_
          refine lv_iadd S.1 S.2.1 dX5_growthOf_63 ?_
          refine lv_istore (lv' := [(4, .int (acc + ((pastF s0 k n a) - (pastF s0 k (n + 1) a)))), (7, .int ((pastF s0 k n a) - (pastF s0 k (n + 1) a))), (6, .int (pastF s0 k n a)), (0, .ref (ad (10, i, 0))), (1, .int (nI k)), (2, .int (nI w)), (3, .int (nI a)), (5, .int (nI (n + 1)))]) S.1 S.2.1 dX5_growthOf_64 hl (by decide) rfl (fun ls hl => ?_)
          refine lv_iinc (v := nI n) (lv' := [(5, .int (nI n)), (4, .int (acc + ((pastF s0 k n a) - (pastF s0 k (n + 1) a)))), (7, .int ((pastF s0 k n a) - (pastF s0 k (n + 1) a))), (6, .int (pastF s0 k n a)), (0, .ref (ad (10, i, 0))), (1, .int (nI k)), (2, .int (nI w)), (3, .int (nI a))]) S.1 S.2.1 dX5_growthOf_66 hl (k := 7) rfl (by rw [show Int32.ofInt (-1) = -1 by decide]; exact pk_m1 n) (by decide) rfl (fun ls hl => ?_)
          refine lv_goto (tgt := 19) S.1 S.2.1 dX5_growthOf_69 (by decide) ?_
          exact ih (acc + ((pastF s0 k n a) - (pastF s0 k (n + 1) a))) (by rw [← hF, grL, grStep, if_neg (Int32.not_lt.mpr c53)]) (by omega) _ _ _ hG (lv_sub hl [4, 5, 6, 7, 1, 0] rfl)
        · skip
          refine lv_iload S.1 S.2.1 dX5_growthOf_56 (lv_at hl 1 rfl) ?_
          refine lv_goto (tgt := 63) S.1 S.2.1 dX5_growthOf_58 (by decide) ?_
          refine lv_iadd S.1 S.2.1 dX5_growthOf_63 ?_
          refine lv_istore (lv' := [(4, .int (acc + (pastF s0 k n a))), (7, .int ((pastF s0 k n a) - (pastF s0 k (n + 1) a))), (6, .int (pastF s0 k n a)), (0, .ref (ad (10, i, 0))), (1, .int (nI k)), (2, .int (nI w)), (3, .int (nI a)), (5, .int (nI (n + 1)))]) S.1 S.2.1 dX5_growthOf_64 hl (by decide) rfl (fun ls hl => ?_)
          refine lv_iinc (v := nI n) (lv' := [(5, .int (nI n)), (4, .int (acc + (pastF s0 k n a))), (7, .int ((pastF s0 k n a) - (pastF s0 k (n + 1) a))), (6, .int (pastF s0 k n a)), (0, .ref (ad (10, i, 0))), (1, .int (nI k)), (2, .int (nI w)), (3, .int (nI a))]) S.1 S.2.1 dX5_growthOf_66 hl (k := 7) rfl (by rw [show Int32.ofInt (-1) = -1 by decide]; exact pk_m1 n) (by decide) rfl (fun ls hl => ?_)
          refine lv_goto (tgt := 19) S.1 S.2.1 dX5_growthOf_69 (by decide) ?_
          exact ih (acc + (pastF s0 k n a)) (by rw [← hF, grL, grStep, if_pos (Int32.not_le.mp c53)]) (by omega) _ _ _ hG (lv_sub hl [4, 5, 6, 7, 1, 0] rfl)
    exact L19_0 ((min (w + 1) (sHe s0 + a)) - 1) 0 rfl (by omega) _ _ _ hG (lv_sub hl [2, 3, 4, 5, 1, 0] rfl)

abbrev rm_X5_meanOver : Room := { frames := 1, cells := 0, slots := 0, locals := 24 }
set_option maxHeartbeats 4000000 in
set_option maxRecDepth 100000 in
theorem c_X5_meanOver (l : Launch) (g : GV) (ad : AD) (M : CT) (i : Nat) (s0 : SeD) (hs : hasSe g ad M i s0) (w a : Nat) (hw : w < 100) (ha : a < 100) : hm_Met l yX5_meanOver cX5_meanOver 6 (some .int) rm_X5_meanOver g ad M [.ref (ad (10, i, 0)), .int (nI w), .int (nI a)] (hm_pU ad M (some (.int (meanF s0 w a)))) := by
  refine hm_start (own := RX5) (by decide) rfl (Nat.le_of_ble_eq_true rfl) ?_
  intro p e s m args below meth c S hr hlk hnm hE hG ls hl
  have hl : lv_has ls 6 [(0, .ref (ad (10, i, 0))), (1, .int (nI w)), (2, .int (nI a))] := hl
  obtain ⟨h10, h11, h12, h13, hla, hhe, hi⟩ := id hs
  refine lv_iload_n S.1 S.2.1 dX5_meanOver_0 rfl (lv_at hl 1 rfl) ?_
  refine lv_aload_n S.1 S.2.1 dX5_meanOver_1 rfl (lv_at hl 0 rfl) ?_
  refine hm_get (k := 7) S hE hG h10 rfl rfl hi_X50 (by decide) hb_110 rfl rfl dX5_meanOver_2 ?_
  refine lv_iload_n S.1 S.2.1 dX5_meanOver_5 rfl (lv_at hl 2 rfl) ?_
  refine lv_iadd S.1 S.2.1 dX5_meanOver_6 ?_
  refine hm_top (z := nI (sHe s0 + a)) (nI_add _ _) ?_
  refine hm_min (z := nI (min w (sHe s0 + a))) S hb_372 hb_4 hb_5 hb_6 hl.1 (Nat.le_of_ble_eq_true rfl) (Nat.le_of_ble_eq_true rfl) (Nat.le_of_ble_eq_true rfl) (Nat.le_of_ble_eq_true rfl) (hm_minN _ _ (by omega) (by omega)) dX5_meanOver_7 ?_
  refine lv_istore_n (lv' := [(3, .int (nI (min w (sHe s0 + a)))), (0, .ref (ad (10, i, 0))), (1, .int (nI w)), (2, .int (nI a))]) S.1 S.2.1 dX5_meanOver_10 rfl hl (by decide) rfl (fun ls hl => ?_)
  refine lv_iconst (v := 0) S.1 S.2.1 dX5_meanOver_11 (by decide) ?_
  refine lv_istore (lv' := [(4, .int 0), (3, .int (nI (min w (sHe s0 + a)))), (0, .ref (ad (10, i, 0))), (1, .int (nI w)), (2, .int (nI a))]) S.1 S.2.1 dX5_meanOver_12 hl (by decide) rfl (fun ls hl => ?_)
  refine lv_iconst (v := 0) S.1 S.2.1 dX5_meanOver_14 (by decide) ?_
  refine lv_istore (lv' := [(5, .int 0), (4, .int 0), (3, .int (nI (min w (sHe s0 + a)))), (0, .ref (ad (10, i, 0))), (1, .int (nI w)), (2, .int (nI a))]) S.1 S.2.1 dX5_meanOver_15 hl (by decide) rfl (fun ls hl => ?_)
  have L17_0 : ∀ (n : Nat) (b : Nat), b + n = (min w (sHe s0 + a)) → ∀ (H : Heap) (locs : List Loc) (ls : Array Slot), hm_G g ad M s.heap H locs → lv_has ls 6 [(0, .ref (ad (10, i, 0))), (1, .int (nI w)), (2, .int (nI a)), (3, .int (nI (min w (sHe s0 + a)))), (4, .int (sumF s0 a b)), (5, .int (nI b))] → W p l e rm_X5_meanOver s m args below meth c H locs 0 0 (MQ below (hm_Q g (hm_pU ad M (some (.int (meanF s0 w a))))) args s rm_X5_meanOver.cells rm_X5_meanOver.slots (hm_A g)) (F0 m 17 ls []) := by
    intro n
    induction n with
    | zero =>
      intro b hb H locs ls hG hl
      obtain rfl : b = (min w (sHe s0 + a)) := by omega
      refine lv_iload S.1 S.2.1 dX5_meanOver_17 (lv_at hl 5 rfl) ?_
      refine lv_iload_n S.1 S.2.1 dX5_meanOver_19 rfl (lv_at hl 3 rfl) ?_
      refine lv_icmp_ge (tgt := 42) S.1 S.2.1 dX5_meanOver_20 (by decide) (fun _ => ?_) (fun h9 => absurd (nI_le (Nat.le_refl _) (by omega)) h9)
      rcases Nat.eq_zero_or_pos (min w (sHe s0 + a)) with hm0 | hm0
      · skip
        refine lv_iload_n S.1 S.2.1 dX5_meanOver_42 rfl (lv_at hl 3 rfl) ?_
        refine lv_if_le (tgt := 53) S.1 S.2.1 dX5_meanOver_43 (by decide) (fun _ => ?_) (fun h9 => absurd (by rw [hm0]; decide) h9)
        refine lv_iconst (v := 0) S.1 S.2.1 dX5_meanOver_53 (by decide) ?_
        exact hm_iret S hG hr hlk (⟨by rw [meanF, if_pos hm0], rfl, rfl⟩) (Nat.le_of_ble_eq_true rfl) (Nat.le_of_ble_eq_true rfl) dX5_meanOver_54
      · skip
        refine lv_iload_n S.1 S.2.1 dX5_meanOver_42 rfl (lv_at hl 3 rfl) ?_
        refine lv_if_le (tgt := 53) S.1 S.2.1 dX5_meanOver_43 (by decide) (fun h9 => absurd h9 (nI_nle hm0 (by omega))) (fun _ => ?_)
        refine lv_iload S.1 S.2.1 dX5_meanOver_46 (lv_at hl 4 rfl) ?_
        refine lv_iload_n S.1 S.2.1 dX5_meanOver_48 rfl (lv_at hl 3 rfl) ?_
        refine lv_idiv S.1 S.2.1 dX5_meanOver_49 (nI_ne0 hm0 (by omega)) ?_
        refine lv_goto (tgt := 54) S.1 S.2.1 dX5_meanOver_50 (by decide) ?_
        exact hm_iret S hG hr hlk (⟨by rw [meanF, if_neg (by omega)], rfl, rfl⟩) (Nat.le_of_ble_eq_true rfl) (Nat.le_of_ble_eq_true rfl) dX5_meanOver_54
    | succ n ih =>
      intro b hb H locs ls hG hl
      refine lv_iload S.1 S.2.1 dX5_meanOver_17 (lv_at hl 5 rfl) ?_
      refine lv_iload_n S.1 S.2.1 dX5_meanOver_19 rfl (lv_at hl 3 rfl) ?_
      refine lv_icmp_ge (tgt := 42) S.1 S.2.1 dX5_meanOver_20 (by decide) (fun h9 => absurd h9 (nI_ge (by omega) (by omega))) (fun _ => ?_)
      refine lv_iload S.1 S.2.1 dX5_meanOver_23 (lv_at hl 4 rfl) ?_
      refine lv_aload_n S.1 S.2.1 dX5_meanOver_25 rfl (lv_at hl 0 rfl) ?_
      refine lv_iconst (v := 0) S.1 S.2.1 dX5_meanOver_26 (by decide) ?_
      refine lv_iload S.1 S.2.1 dX5_meanOver_27 (lv_at hl 5 rfl) ?_
      refine lv_iload_n S.1 S.2.1 dX5_meanOver_29 rfl (lv_at hl 2 rfl) ?_
      refine hm_uV (As := [.int 0, .int (nI b), .int (nI a)]) (rest := [.int (sumF s0 a b)]) (st1 := [.int (pastF s0 0 b a), .int (sumF s0 a b)]) S hE hG (c_X5_past l g ad M i s0 hs 0 b a (by omega) (by omega) (by omega)) (hm_gV hb_364 hb_365 hb_366 hb_90 hb_367) hd_X5_past rfl h10 rfl rfl ⟨Nat.le_of_ble_eq_true rfl, Nat.le_of_ble_eq_true rfl⟩ rfl hl.1 rfl (Nat.le_of_ble_eq_true rfl) dX5_meanOver_30 ⟨Nat.le_of_ble_eq_true rfl, Nat.le_of_ble_eq_true rfl⟩ rfl (fun H locs hG => ?_)
      refine lv_iadd S.1 S.2.1 dX5_meanOver_33 ?_
      refine hm_top (z := sumF s0 a (b + 1)) (rfl) ?_
      refine lv_istore (lv' := [(4, .int (sumF s0 a (b + 1))), (0, .ref (ad (10, i, 0))), (1, .int (nI w)), (2, .int (nI a)), (3, .int (nI (min w (sHe s0 + a)))), (5, .int (nI b))]) S.1 S.2.1 dX5_meanOver_34 hl (by decide) rfl (fun ls hl => ?_)
      refine lv_iinc (v := nI (b + 1)) (lv' := [(5, .int (nI (b + 1))), (4, .int (sumF s0 a (b + 1))), (0, .ref (ad (10, i, 0))), (1, .int (nI w)), (2, .int (nI a)), (3, .int (nI (min w (sHe s0 + a))))]) S.1 S.2.1 dX5_meanOver_36 hl (k := 5) rfl (nI_1 b) (by decide) rfl (fun ls hl => ?_)
      refine lv_goto (tgt := 17) S.1 S.2.1 dX5_meanOver_39 (by decide) ?_
      exact ih (b + 1) (by omega) _ _ _ hG (lv_sub hl [2, 3, 4, 5, 1, 0] rfl)
  exact L17_0 (min w (sHe s0 + a)) 0 (by omega) _ _ _ hG (lv_sub hl [3, 4, 5, 2, 1, 0] rfl)

abbrev rm_X5_utmostOver : Room := { frames := 1, cells := 0, slots := 0, locals := 24 }
set_option maxHeartbeats 4000000 in
set_option maxRecDepth 100000 in
theorem c_X5_utmostOver (l : Launch) (g : GV) (ad : AD) (M : CT) (i : Nat) (s0 : SeD) (hs : hasSe g ad M i s0) (w a : Nat) (mo : Bool) (hw : w < 100) (ha : a < 100) : hm_Met l yX5_utmostOver cX5_utmostOver 8 (some .int) rm_X5_utmostOver g ad M [.ref (ad (10, i, 0)), .int (nI w), .int (nI a), .int (bI mo)] (hm_pU ad M (some (.int (utF s0 w a mo)))) := by
  refine hm_start (own := RX5) (by decide) rfl (Nat.le_of_ble_eq_true rfl) ?_
  intro p e s m args below meth c S hr hlk hnm hE hG ls hl
  have hl : lv_has ls 8 [(0, .ref (ad (10, i, 0))), (1, .int (nI w)), (2, .int (nI a)), (3, .int (bI mo))] := hl
  obtain ⟨h10, h11, h12, h13, hla, hhe, hi⟩ := id hs
  refine lv_iload_n S.1 S.2.1 dX5_utmostOver_0 rfl (lv_at hl 1 rfl) ?_
  refine lv_aload_n S.1 S.2.1 dX5_utmostOver_1 rfl (lv_at hl 0 rfl) ?_
  refine hm_get (k := 7) S hE hG h10 rfl rfl hi_X50 (by decide) hb_110 rfl rfl dX5_utmostOver_2 ?_
  refine lv_iload_n S.1 S.2.1 dX5_utmostOver_5 rfl (lv_at hl 2 rfl) ?_
  refine lv_iadd S.1 S.2.1 dX5_utmostOver_6 ?_
  refine hm_top (z := nI (sHe s0 + a)) (nI_add _ _) ?_
  refine hm_min (z := nI (min w (sHe s0 + a))) S hb_372 hb_4 hb_5 hb_6 hl.1 (Nat.le_of_ble_eq_true rfl) (Nat.le_of_ble_eq_true rfl) (Nat.le_of_ble_eq_true rfl) (Nat.le_of_ble_eq_true rfl) (hm_minN _ _ (by omega) (by omega)) dX5_utmostOver_7 ?_
  refine lv_istore (lv' := [(4, .int (nI (min w (sHe s0 + a)))), (0, .ref (ad (10, i, 0))), (1, .int (nI w)), (2, .int (nI a)), (3, .int (bI mo))]) S.1 S.2.1 dX5_utmostOver_10 hl (by decide) rfl (fun ls hl => ?_)
  refine lv_aload_n S.1 S.2.1 dX5_utmostOver_12 rfl (lv_at hl 1 rfl) ?_
  refine lv_iconst (v := 0) S.1 S.2.1 dX5_utmostOver_13 (by decide) ?_
  refine lv_iconst (v := 0) S.1 S.2.1 dX5_utmostOver_14 (by decide) ?_
  refine lv_iload_n S.1 S.2.1 dX5_utmostOver_15 rfl (lv_at hl 3 rfl) ?_
  refine hm_uV (As := [.int 0, .int 0, .int (nI a)]) (rest := []) (st1 := [.int (pastF s0 0 0 a)]) S hE hG (c_X5_past l g ad M i s0 hs 0 0 a (by omega) (by omega) (by omega)) (hm_gV hb_364 hb_365 hb_366 hb_90 hb_367) hd_X5_past rfl h10 rfl rfl ⟨Nat.le_of_ble_eq_true rfl, Nat.le_of_ble_eq_true rfl⟩ rfl hl.1 rfl (Nat.le_of_ble_eq_true rfl) dX5_utmostOver_16 ⟨Nat.le_of_ble_eq_true rfl, Nat.le_of_ble_eq_true rfl⟩ rfl (fun H locs hG => ?_)
  refine lv_istore (lv' := [(5, .int (pastF s0 0 0 a)), (4, .int (nI (min w (sHe s0 + a)))), (0, .ref (ad (10, i, 0))), (1, .int (nI w)), (2, .int (nI a)), (3, .int (bI mo))]) S.1 S.2.1 dX5_utmostOver_19 hl (by decide) rfl (fun ls hl => ?_)
  refine lv_iconst (v := 1) S.1 S.2.1 dX5_utmostOver_21 (by decide) ?_
  refine lv_istore (lv' := [(6, .int 1), (5, .int (pastF s0 0 0 a)), (4, .int (nI (min w (sHe s0 + a)))), (0, .ref (ad (10, i, 0))), (1, .int (nI w)), (2, .int (nI a)), (3, .int (bI mo))]) S.1 S.2.1 dX5_utmostOver_22 hl (by decide) rfl (fun ls hl => ?_)
  have L24_0 : ∀ (n : Nat) (b : Nat), b + 1 + n = max 1 (min w (sHe s0 + a)) → b < 100 → ∀ (H : Heap) (locs : List Loc) (ls : Array Slot), hm_G g ad M s.heap H locs → lv_has ls 8 [(0, .ref (ad (10, i, 0))), (1, .int (nI w)), (2, .int (nI a)), (3, .int (bI mo)), (4, .int (nI (min w (sHe s0 + a)))), (5, .int (utL s0 a mo b)), (6, .int (nI (b + 1)))] → W p l e rm_X5_utmostOver s m args below meth c H locs 0 0 (MQ below (hm_Q g (hm_pU ad M (some (.int (utF s0 w a mo))))) args s rm_X5_utmostOver.cells rm_X5_utmostOver.slots (hm_A g)) (F0 m 24 ls []) := by
    intro n
    induction n with
    | zero =>
      intro b hb hb2 H locs ls hG hl
      refine lv_iload S.1 S.2.1 dX5_utmostOver_24 (lv_at hl 6 rfl) ?_
      refine lv_iload S.1 S.2.1 dX5_utmostOver_26 (lv_at hl 4 rfl) ?_
      refine lv_icmp_ge (tgt := 70) S.1 S.2.1 dX5_utmostOver_28 (by decide) (fun _ => ?_) (fun h9 => absurd (nI_le (by omega) (by omega)) h9)
      refine lv_iload S.1 S.2.1 dX5_utmostOver_70 (lv_at hl 5 rfl) ?_
      exact hm_iret S hG hr hlk (⟨by rw [utF, show b = (min w (sHe s0 + a)) - 1 by omega], rfl, rfl⟩) (Nat.le_of_ble_eq_true rfl) (Nat.le_of_ble_eq_true rfl) dX5_utmostOver_72
    | succ n ih =>
      intro b hb hb2 H locs ls hG hl
      refine lv_iload S.1 S.2.1 dX5_utmostOver_24 (lv_at hl 6 rfl) ?_
      refine lv_iload S.1 S.2.1 dX5_utmostOver_26 (lv_at hl 4 rfl) ?_
      refine lv_icmp_ge (tgt := 70) S.1 S.2.1 dX5_utmostOver_28 (by decide) (fun h9 => absurd h9 (nI_ge (by omega) (by omega))) (fun _ => ?_)
      refine lv_aload_n S.1 S.2.1 dX5_utmostOver_31 rfl (lv_at hl 0 rfl) ?_
      refine lv_iconst (v := 0) S.1 S.2.1 dX5_utmostOver_32 (by decide) ?_
      refine lv_iload S.1 S.2.1 dX5_utmostOver_33 (lv_at hl 6 rfl) ?_
      refine lv_iload_n S.1 S.2.1 dX5_utmostOver_35 rfl (lv_at hl 2 rfl) ?_
      refine hm_uV (As := [.int 0, .int (nI (b + 1)), .int (nI a)]) (rest := []) (st1 := [.int (pastF s0 0 (b + 1) a)]) S hE hG (c_X5_past l g ad M i s0 hs 0 (b + 1) a (by omega) (by omega) (by omega)) (hm_gV hb_364 hb_365 hb_366 hb_90 hb_367) hd_X5_past rfl h10 rfl rfl ⟨Nat.le_of_ble_eq_true rfl, Nat.le_of_ble_eq_true rfl⟩ rfl hl.1 rfl (Nat.le_of_ble_eq_true rfl) dX5_utmostOver_36 ⟨Nat.le_of_ble_eq_true rfl, Nat.le_of_ble_eq_true rfl⟩ rfl (fun H locs hG => ?_)
      refine lv_istore (lv' := [(7, .int (pastF s0 0 (b + 1) a)), (0, .ref (ad (10, i, 0))), (1, .int (nI w)), (2, .int (nI a)), (3, .int (bI mo)), (4, .int (nI (min w (sHe s0 + a)))), (5, .int (utL s0 a mo b)), (6, .int (nI (b + 1)))]) S.1 S.2.1 dX5_utmostOver_39 hl (by decide) rfl (fun ls hl => ?_)
      refine lv_iload_n S.1 S.2.1 dX5_utmostOver_41 rfl (lv_at hl 4 rfl) ?_
      refine lv_if_eq (tgt := 55) S.1 S.2.1 dX5_utmostOver_42 (by decide) (fun c42 => ?_) (fun c42 => ?_)
      · skip
        have e42 : mo = false := bI_0.mp c42
        refine lv_iload S.1 S.2.1 dX5_utmostOver_55 (lv_at hl 6 rfl) ?_
        refine lv_iload S.1 S.2.1 dX5_utmostOver_57 (lv_at hl 0 rfl) ?_
        refine hm_min (z := utL s0 a mo (b + 1)) S hb_372 hb_4 hb_5 hb_6 hl.1 (Nat.le_of_ble_eq_true rfl) (Nat.le_of_ble_eq_true rfl) (Nat.le_of_ble_eq_true rfl) (Nat.le_of_ble_eq_true rfl) (by rw [utL, e42]; rfl) dX5_utmostOver_59 ?_
        refine lv_istore (lv' := [(5, .int (utL s0 a mo (b + 1))), (7, .int (pastF s0 0 (b + 1) a)), (0, .ref (ad (10, i, 0))), (1, .int (nI w)), (2, .int (nI a)), (3, .int (bI mo)), (4, .int (nI (min w (sHe s0 + a)))), (6, .int (nI (b + 1)))]) S.1 S.2.1 dX5_utmostOver_62 hl (by decide) rfl (fun ls hl => ?_)
        refine lv_iinc (v := nI (b + 1 + 1)) (lv' := [(6, .int (nI (b + 1 + 1))), (5, .int (utL s0 a mo (b + 1))), (7, .int (pastF s0 0 (b + 1) a)), (0, .ref (ad (10, i, 0))), (1, .int (nI w)), (2, .int (nI a)), (3, .int (bI mo)), (4, .int (nI (min w (sHe s0 + a))))]) S.1 S.2.1 dX5_utmostOver_64 hl (k := 7) rfl (nI_1 (b + 1)) (by decide) rfl (fun ls hl => ?_)
        refine lv_goto (tgt := 24) S.1 S.2.1 dX5_utmostOver_67 (by decide) ?_
        exact ih (b + 1) (by omega) (by omega) _ _ _ hG (lv_sub hl [3, 4, 5, 6, 7, 1, 0] rfl)
      · skip
        have e42 : mo = true := bI_ne.mp c42
        refine lv_iload S.1 S.2.1 dX5_utmostOver_45 (lv_at hl 6 rfl) ?_
        refine lv_iload S.1 S.2.1 dX5_utmostOver_47 (lv_at hl 0 rfl) ?_
        refine hm_max (z := utL s0 a mo (b + 1)) S hb_381 hb_134 hb_5 hb_135 hl.1 (Nat.le_of_ble_eq_true rfl) (Nat.le_of_ble_eq_true rfl) (Nat.le_of_ble_eq_true rfl) (Nat.le_of_ble_eq_true rfl) (by rw [utL, e42]; rfl) dX5_utmostOver_49 ?_
        refine lv_goto (tgt := 62) S.1 S.2.1 dX5_utmostOver_52 (by decide) ?_
        refine lv_istore (lv' := [(5, .int (utL s0 a mo (b + 1))), (7, .int (pastF s0 0 (b + 1) a)), (0, .ref (ad (10, i, 0))), (1, .int (nI w)), (2, .int (nI a)), (3, .int (bI mo)), (4, .int (nI (min w (sHe s0 + a)))), (6, .int (nI (b + 1)))]) S.1 S.2.1 dX5_utmostOver_62 hl (by decide) rfl (fun ls hl => ?_)
        refine lv_iinc (v := nI (b + 1 + 1)) (lv' := [(6, .int (nI (b + 1 + 1))), (5, .int (utL s0 a mo (b + 1))), (7, .int (pastF s0 0 (b + 1) a)), (0, .ref (ad (10, i, 0))), (1, .int (nI w)), (2, .int (nI a)), (3, .int (bI mo)), (4, .int (nI (min w (sHe s0 + a))))]) S.1 S.2.1 dX5_utmostOver_64 hl (k := 7) rfl (nI_1 (b + 1)) (by decide) rfl (fun ls hl => ?_)
        refine lv_goto (tgt := 24) S.1 S.2.1 dX5_utmostOver_67 (by decide) ?_
        exact ih (b + 1) (by omega) (by omega) _ _ _ hG (lv_sub hl [3, 4, 5, 6, 7, 1, 0] rfl)
  exact L24_0 (max 1 (min w (sHe s0 + a)) - 1) 0 (by omega) (by omega) _ _ _ hG (lv_sub hl [3, 4, 5, 6, 2, 1, 0] rfl)
end
section
def colL (x : Int32) : Nat → Nat → Nat
  | 0, k => k
  | n + 1, k => if hm_eN k < x then colL x n (k + 1) else k
def colF (x : Int32) : Nat := colL x 4 1
theorem colL_lt (x : Int32) : ∀ n k, colL x n k ≤ n + k := by
  intro n
  induction n with
  | zero => intro k; simp [colL]
  | succ n ih =>
    intro k
    rw [colL]
    split
    · have := ih (k + 1); omega
    · omega
theorem colL_ge (x : Int32) : ∀ n k, k ≤ colL x n k := by
  intro n
  induction n with
  | zero => intro k; simp [colL]
  | succ n ih =>
    intro k
    rw [colL]
    split
    · have := ih (k + 1); omega
    · omega
theorem colF_lt (x : Int32) : colF x < 6 := by have := colL_lt x 4 1; rw [colF]; omega
theorem colF_ge (x : Int32) : 1 ≤ colF x := colL_ge x 4 1
def histP (p : Nat → Int32) (x : Int32) : Nat → Int32 := upd (upd p (colF x) (p (colF x) + 1)) 0 (upd p (colF x) (p (colF x) + 1) 0 + 1)
def takeP (s : SeD) (x : Int32) : Nat → Int32 := if sKi s = 1 then upd (sPr s) 0 x else if sKi s = 0 then upd (sPr s) 0 (sPr s 0 + x) else histP (sPr s) x
def zeroP (p : Nat → Int32) : Nat → Int32 := upd (upd (upd (upd (upd (upd p 0 0) 1 0) 2 0) 3 0) 4 0) 5 0
def kpLa (s : SeD) : Nat := (sLa s + 1) % 13
def kpHe (s : SeD) : Nat := min (sHe s + 1) 13
def kpRow (s : SeD) : Nat → Int32 := va_cpy (sPr s) (sRo s (kpLa s)) 0 0 6
def keepF (s : SeD) : SeD := (sKi s, sMe s, sPl s, sPr s, fun j => if j = kpLa s then kpRow s else sRo s j, kpLa s, kpHe s)
def keepM (g : GV) (ad : AD) (M : CT) (i : Nat) (s : SeD) : CT := hm_up (hm_up M (10, i, 0) (seE ad i (keepF s))) (13, i, kpLa s) (hm_ia g 6 (kpRow s))
theorem hm_min13 (a : Nat) (h : a ≤ 13) : (if (13 : Int32) < nI (a + 1) then (13 : Int32) else nI (a + 1)) = nI (min (a + 1) 13) := by
  rcases Nat.lt_or_ge 13 (a + 1) with h1 | h1
  · show (if nI 13 < nI (a + 1) then nI 13 else nI (a + 1)) = _
    rw [if_pos (nI_lt (a := 13) h1 (by omega)), Nat.min_eq_right (by omega)]
  · show (if nI 13 < nI (a + 1) then nI 13 else nI (a + 1)) = _
    rw [if_neg (nI_nlt (a := 13) h1 (by omega)), Nat.min_eq_left h1]
theorem keep_has {g : GV} {ad : AD} {M : CT} {i : Nat} {s : SeD} (hs : hasSe g ad M i s) : hasSe g ad (keepM g ad M i s) i (keepF s) := by
  obtain ⟨h10, h11, h12, h13, hla, hhe, hi⟩ := hs
  refine ⟨?_, ?_, ?_, ?_, ?_, ?_, hi⟩
  · rw [keepM, hm_up_n (by simp), hm_up_s]
  · rw [keepM, hm_up_n (by simp), hm_up_n (by simp), h11]; rfl
  · rw [keepM, hm_up_n (by simp), hm_up_n (by simp), h12]
  · intro j hj
    by_cases h : j = kpLa s
    · subst h
      rw [keepM, hm_up_s]
      show some (hm_ia g 6 (kpRow s)) = some (hm_ia g 6 ((fun j => if j = kpLa s then kpRow s else sRo s j) (kpLa s)))
      simp
    · rw [keepM, hm_up_n (by simp [h]), hm_up_n (by simp), h13 j hj]
      show some (hm_ia g 6 (sRo s j)) = some (hm_ia g 6 ((fun j => if j = kpLa s then kpRow s else sRo s j) j))
      simp [h]
  · exact Nat.mod_lt _ (by decide)
  · show min _ _ ≤ 13; omega
theorem pres_has {g : GV} {ad : AD} {M : CT} {i : Nat} {s : SeD} (p : Nat → Int32) (hs : hasSe g ad M i s) : hasSe g ad (hm_up M (11, i, 0) (hm_ia g 6 p)) i (sKi s, sMe s, sPl s, p, sRo s, sLa s, sHe s) := by
  obtain ⟨h10, h11, h12, h13, hla, hhe, hi⟩ := hs
  refine ⟨?_, ?_, ?_, ?_, hla, hhe, hi⟩
  · rw [hm_up_n (by simp), h10]; rfl
  · rw [hm_up_s]; rfl
  · rw [hm_up_n (by simp), h12]
  · intro j hj
    rw [hm_up_n (by simp), h13 j hj]; rfl

abbrev rm_X5_partOver : Room := { frames := 2, cells := 0, slots := 0, locals := 51 }
set_option maxHeartbeats 4000000 in
set_option maxRecDepth 100000 in
theorem c_X5_partOver (l : Launch) (g : GV) (ad : AD) (M : CT) (i : Nat) (s0 : SeD) (hs : hasSe g ad M i s0) (q : Int32) (w a : Nat) (hw : w < 100) (ha : a < 100) : hm_Met l yX5_partOver cX5_partOver 10 (some .int) rm_X5_partOver g ad M [.ref (ad (10, i, 0)), .int q, .int (nI w), .int (nI a)] (hm_pU ad M (some (.int (partF s0 q w a)))) := by
  refine hm_start (own := RX5) (by decide) rfl (Nat.le_of_ble_eq_true rfl) ?_
  intro p e s m args below meth c S hr hlk hnm hE hG ls hl
  have hl : lv_has ls 10 [(0, .ref (ad (10, i, 0))), (1, .int q), (2, .int (nI w)), (3, .int (nI a))] := hl
  obtain ⟨h10, h11, h12, h13, hla, hhe, hi⟩ := id hs
  refine lv_iconst (v := 0) S.1 S.2.1 dX5_partOver_0 (by decide) ?_
  refine lv_istore (lv' := [(4, .int 0), (0, .ref (ad (10, i, 0))), (1, .int q), (2, .int (nI w)), (3, .int (nI a))]) S.1 S.2.1 dX5_partOver_1 hl (by decide) rfl (fun ls hl => ?_)
  refine lv_iconst (v := 1) S.1 S.2.1 dX5_partOver_3 (by decide) ?_
  refine lv_istore (lv' := [(5, .int 1), (4, .int 0), (0, .ref (ad (10, i, 0))), (1, .int q), (2, .int (nI w)), (3, .int (nI a))]) S.1 S.2.1 dX5_partOver_4 hl (by decide) rfl (fun ls hl => ?_)
  refine lv_iload S.1 S.2.1 dX5_partOver_6 (lv_at hl 0 rfl) ?_
  refine lv_iconst (v := 5) S.1 S.2.1 dX5_partOver_8 (by decide) ?_
  refine lv_icmp_gt (tgt := 31) S.1 S.2.1 dX5_partOver_9 (by decide) (fun h9 => absurd h9 (by decide)) (fun _ => ?_)
  refine lv_iload S.1 S.2.1 dX5_partOver_12 (lv_at hl 1 rfl) ?_
  refine lv_aload_n S.1 S.2.1 dX5_partOver_14 rfl (lv_at hl 2 rfl) ?_
  refine lv_iload S.1 S.2.1 dX5_partOver_15 (lv_at hl 0 rfl) ?_
  refine lv_iload_n S.1 S.2.1 dX5_partOver_17 rfl (lv_at hl 4 rfl) ?_
  refine lv_iload_n S.1 S.2.1 dX5_partOver_18 rfl (lv_at hl 5 rfl) ?_
  refine hm_uV (As := [.int 1, .int (nI w), .int (nI a)]) (rest := [.int 0]) (st1 := [.int (grF s0 1 w a), .int 0]) S hE hG (c_X5_growthOf l g ad M i s0 hs 1 w a (by omega) (by omega) (by omega)) (hm_gV hb_368 hb_369 hb_370 hb_90 hb_371) hd_X5_growthOf rfl h10 rfl rfl ⟨Nat.le_of_ble_eq_true rfl, Nat.le_of_ble_eq_true rfl⟩ rfl hl.1 rfl (Nat.le_of_ble_eq_true rfl) dX5_partOver_19 ⟨Nat.le_of_ble_eq_true rfl, Nat.le_of_ble_eq_true rfl⟩ rfl (fun H locs hG => ?_)
  refine lv_iadd S.1 S.2.1 dX5_partOver_22 ?_
  refine hm_top (z := cntF s0 w a 1) (rfl) ?_
  refine lv_istore (lv' := [(4, .int (cntF s0 w a 1)), (5, .int 1), (0, .ref (ad (10, i, 0))), (1, .int q), (2, .int (nI w)), (3, .int (nI a))]) S.1 S.2.1 dX5_partOver_23 hl (by decide) rfl (fun ls hl => ?_)
  refine lv_iinc (v := 2) (lv' := [(5, .int 2), (4, .int (cntF s0 w a 1)), (0, .ref (ad (10, i, 0))), (1, .int q), (2, .int (nI w)), (3, .int (nI a))]) S.1 S.2.1 dX5_partOver_25 hl (k := 1) rfl (by decide) (by decide) rfl (fun ls hl => ?_)
  refine lv_goto (tgt := 6) S.1 S.2.1 dX5_partOver_28 (by decide) ?_
  refine lv_iload S.1 S.2.1 dX5_partOver_6 (lv_at hl 0 rfl) ?_
  refine lv_iconst (v := 5) S.1 S.2.1 dX5_partOver_8 (by decide) ?_
  refine lv_icmp_gt (tgt := 31) S.1 S.2.1 dX5_partOver_9 (by decide) (fun h9 => absurd h9 (by decide)) (fun _ => ?_)
  refine lv_iload S.1 S.2.1 dX5_partOver_12 (lv_at hl 1 rfl) ?_
  refine lv_aload_n S.1 S.2.1 dX5_partOver_14 rfl (lv_at hl 2 rfl) ?_
  refine lv_iload S.1 S.2.1 dX5_partOver_15 (lv_at hl 0 rfl) ?_
  refine lv_iload_n S.1 S.2.1 dX5_partOver_17 rfl (lv_at hl 4 rfl) ?_
  refine lv_iload_n S.1 S.2.1 dX5_partOver_18 rfl (lv_at hl 5 rfl) ?_
  refine hm_uV (As := [.int 2, .int (nI w), .int (nI a)]) (rest := [.int (cntF s0 w a 1)]) (st1 := [.int (grF s0 2 w a), .int (cntF s0 w a 1)]) S hE hG (c_X5_growthOf l g ad M i s0 hs 2 w a (by omega) (by omega) (by omega)) (hm_gV hb_368 hb_369 hb_370 hb_90 hb_371) hd_X5_growthOf rfl h10 rfl rfl ⟨Nat.le_of_ble_eq_true rfl, Nat.le_of_ble_eq_true rfl⟩ rfl hl.1 rfl (Nat.le_of_ble_eq_true rfl) dX5_partOver_19 ⟨Nat.le_of_ble_eq_true rfl, Nat.le_of_ble_eq_true rfl⟩ rfl (fun H locs hG => ?_)
  refine lv_iadd S.1 S.2.1 dX5_partOver_22 ?_
  refine hm_top (z := cntF s0 w a 2) (rfl) ?_
  refine lv_istore (lv' := [(4, .int (cntF s0 w a 2)), (5, .int 2), (0, .ref (ad (10, i, 0))), (1, .int q), (2, .int (nI w)), (3, .int (nI a))]) S.1 S.2.1 dX5_partOver_23 hl (by decide) rfl (fun ls hl => ?_)
  refine lv_iinc (v := 3) (lv' := [(5, .int 3), (4, .int (cntF s0 w a 2)), (0, .ref (ad (10, i, 0))), (1, .int q), (2, .int (nI w)), (3, .int (nI a))]) S.1 S.2.1 dX5_partOver_25 hl (k := 1) rfl (by decide) (by decide) rfl (fun ls hl => ?_)
  refine lv_goto (tgt := 6) S.1 S.2.1 dX5_partOver_28 (by decide) ?_
  refine lv_iload S.1 S.2.1 dX5_partOver_6 (lv_at hl 0 rfl) ?_
  refine lv_iconst (v := 5) S.1 S.2.1 dX5_partOver_8 (by decide) ?_
  refine lv_icmp_gt (tgt := 31) S.1 S.2.1 dX5_partOver_9 (by decide) (fun h9 => absurd h9 (by decide)) (fun _ => ?_)
  refine lv_iload S.1 S.2.1 dX5_partOver_12 (lv_at hl 1 rfl) ?_
  refine lv_aload_n S.1 S.2.1 dX5_partOver_14 rfl (lv_at hl 2 rfl) ?_
  refine lv_iload S.1 S.2.1 dX5_partOver_15 (lv_at hl 0 rfl) ?_
  refine lv_iload_n S.1 S.2.1 dX5_partOver_17 rfl (lv_at hl 4 rfl) ?_
  refine lv_iload_n S.1 S.2.1 dX5_partOver_18 rfl (lv_at hl 5 rfl) ?_
  refine hm_uV (As := [.int 3, .int (nI w), .int (nI a)]) (rest := [.int (cntF s0 w a 2)]) (st1 := [.int (grF s0 3 w a), .int (cntF s0 w a 2)]) S hE hG (c_X5_growthOf l g ad M i s0 hs 3 w a (by omega) (by omega) (by omega)) (hm_gV hb_368 hb_369 hb_370 hb_90 hb_371) hd_X5_growthOf rfl h10 rfl rfl ⟨Nat.le_of_ble_eq_true rfl, Nat.le_of_ble_eq_true rfl⟩ rfl hl.1 rfl (Nat.le_of_ble_eq_true rfl) dX5_partOver_19 ⟨Nat.le_of_ble_eq_true rfl, Nat.le_of_ble_eq_true rfl⟩ rfl (fun H locs hG => ?_)
  refine lv_iadd S.1 S.2.1 dX5_partOver_22 ?_
  refine hm_top (z := cntF s0 w a 3) (rfl) ?_
  refine lv_istore (lv' := [(4, .int (cntF s0 w a 3)), (5, .int 3), (0, .ref (ad (10, i, 0))), (1, .int q), (2, .int (nI w)), (3, .int (nI a))]) S.1 S.2.1 dX5_partOver_23 hl (by decide) rfl (fun ls hl => ?_)
  refine lv_iinc (v := 4) (lv' := [(5, .int 4), (4, .int (cntF s0 w a 3)), (0, .ref (ad (10, i, 0))), (1, .int q), (2, .int (nI w)), (3, .int (nI a))]) S.1 S.2.1 dX5_partOver_25 hl (k := 1) rfl (by decide) (by decide) rfl (fun ls hl => ?_)
  refine lv_goto (tgt := 6) S.1 S.2.1 dX5_partOver_28 (by decide) ?_
  refine lv_iload S.1 S.2.1 dX5_partOver_6 (lv_at hl 0 rfl) ?_
  refine lv_iconst (v := 5) S.1 S.2.1 dX5_partOver_8 (by decide) ?_
  refine lv_icmp_gt (tgt := 31) S.1 S.2.1 dX5_partOver_9 (by decide) (fun h9 => absurd h9 (by decide)) (fun _ => ?_)
  refine lv_iload S.1 S.2.1 dX5_partOver_12 (lv_at hl 1 rfl) ?_
  refine lv_aload_n S.1 S.2.1 dX5_partOver_14 rfl (lv_at hl 2 rfl) ?_
  refine lv_iload S.1 S.2.1 dX5_partOver_15 (lv_at hl 0 rfl) ?_
  refine lv_iload_n S.1 S.2.1 dX5_partOver_17 rfl (lv_at hl 4 rfl) ?_
  refine lv_iload_n S.1 S.2.1 dX5_partOver_18 rfl (lv_at hl 5 rfl) ?_
  refine hm_uV (As := [.int 4, .int (nI w), .int (nI a)]) (rest := [.int (cntF s0 w a 3)]) (st1 := [.int (grF s0 4 w a), .int (cntF s0 w a 3)]) S hE hG (c_X5_growthOf l g ad M i s0 hs 4 w a (by omega) (by omega) (by omega)) (hm_gV hb_368 hb_369 hb_370 hb_90 hb_371) hd_X5_growthOf rfl h10 rfl rfl ⟨Nat.le_of_ble_eq_true rfl, Nat.le_of_ble_eq_true rfl⟩ rfl hl.1 rfl (Nat.le_of_ble_eq_true rfl) dX5_partOver_19 ⟨Nat.le_of_ble_eq_true rfl, Nat.le_of_ble_eq_true rfl⟩ rfl (fun H locs hG => ?_)
  refine lv_iadd S.1 S.2.1 dX5_partOver_22 ?_
  refine hm_top (z := cntF s0 w a 4) (rfl) ?_
  refine lv_istore (lv' := [(4, .int (cntF s0 w a 4)), (5, .int 4), (0, .ref (ad (10, i, 0))), (1, .int q), (2, .int (nI w)), (3, .int (nI a))]) S.1 S.2.1 dX5_partOver_23 hl (by decide) rfl (fun ls hl => ?_)
  refine lv_iinc (v := 5) (lv' := [(5, .int 5), (4, .int (cntF s0 w a 4)), (0, .ref (ad (10, i, 0))), (1, .int q), (2, .int (nI w)), (3, .int (nI a))]) S.1 S.2.1 dX5_partOver_25 hl (k := 1) rfl (by decide) (by decide) rfl (fun ls hl => ?_)
  refine lv_goto (tgt := 6) S.1 S.2.1 dX5_partOver_28 (by decide) ?_
  refine lv_iload S.1 S.2.1 dX5_partOver_6 (lv_at hl 0 rfl) ?_
  refine lv_iconst (v := 5) S.1 S.2.1 dX5_partOver_8 (by decide) ?_
  refine lv_icmp_gt (tgt := 31) S.1 S.2.1 dX5_partOver_9 (by decide) (fun h9 => absurd h9 (by decide)) (fun _ => ?_)
  refine lv_iload S.1 S.2.1 dX5_partOver_12 (lv_at hl 1 rfl) ?_
  refine lv_aload_n S.1 S.2.1 dX5_partOver_14 rfl (lv_at hl 2 rfl) ?_
  refine lv_iload S.1 S.2.1 dX5_partOver_15 (lv_at hl 0 rfl) ?_
  refine lv_iload_n S.1 S.2.1 dX5_partOver_17 rfl (lv_at hl 4 rfl) ?_
  refine lv_iload_n S.1 S.2.1 dX5_partOver_18 rfl (lv_at hl 5 rfl) ?_
  refine hm_uV (As := [.int 5, .int (nI w), .int (nI a)]) (rest := [.int (cntF s0 w a 4)]) (st1 := [.int (grF s0 5 w a), .int (cntF s0 w a 4)]) S hE hG (c_X5_growthOf l g ad M i s0 hs 5 w a (by omega) (by omega) (by omega)) (hm_gV hb_368 hb_369 hb_370 hb_90 hb_371) hd_X5_growthOf rfl h10 rfl rfl ⟨Nat.le_of_ble_eq_true rfl, Nat.le_of_ble_eq_true rfl⟩ rfl hl.1 rfl (Nat.le_of_ble_eq_true rfl) dX5_partOver_19 ⟨Nat.le_of_ble_eq_true rfl, Nat.le_of_ble_eq_true rfl⟩ rfl (fun H locs hG => ?_)
  refine lv_iadd S.1 S.2.1 dX5_partOver_22 ?_
  refine hm_top (z := cntF s0 w a 5) (rfl) ?_
  refine lv_istore (lv' := [(4, .int (cntF s0 w a 5)), (5, .int 5), (0, .ref (ad (10, i, 0))), (1, .int q), (2, .int (nI w)), (3, .int (nI a))]) S.1 S.2.1 dX5_partOver_23 hl (by decide) rfl (fun ls hl => ?_)
  refine lv_iinc (v := 6) (lv' := [(5, .int 6), (4, .int (cntF s0 w a 5)), (0, .ref (ad (10, i, 0))), (1, .int q), (2, .int (nI w)), (3, .int (nI a))]) S.1 S.2.1 dX5_partOver_25 hl (k := 1) rfl (by decide) (by decide) rfl (fun ls hl => ?_)
  refine lv_goto (tgt := 6) S.1 S.2.1 dX5_partOver_28 (by decide) ?_
  refine lv_iload S.1 S.2.1 dX5_partOver_6 (lv_at hl 0 rfl) ?_
  refine lv_iconst (v := 5) S.1 S.2.1 dX5_partOver_8 (by decide) ?_
  refine lv_icmp_gt (tgt := 31) S.1 S.2.1 dX5_partOver_9 (by decide) (fun _ => ?_) (fun h9 => absurd (by decide) h9)
  by_cases h0 : cntF s0 w a 5 = 0
  · skip
    refine lv_iload S.1 S.2.1 dX5_partOver_31 (lv_at hl 1 rfl) ?_
    refine lv_if_ne (tgt := 38) S.1 S.2.1 dX5_partOver_33 (by decide) (fun h9 => absurd (h0) h9) (fun _ => ?_)
    refine lv_iconst (v := 0) S.1 S.2.1 dX5_partOver_36 (by decide) ?_
    exact hm_iret S hG hr hlk (⟨by rw [partF, if_pos h0], rfl, rfl⟩) (Nat.le_of_ble_eq_true rfl) (Nat.le_of_ble_eq_true rfl) dX5_partOver_37
  · skip
    refine lv_iload S.1 S.2.1 dX5_partOver_31 (lv_at hl 1 rfl) ?_
    refine lv_if_ne (tgt := 38) S.1 S.2.1 dX5_partOver_33 (by decide) (fun _ => ?_) (fun h9 => absurd h9 (h0))
    refine lv_iload_n S.1 S.2.1 dX5_partOver_38 rfl (lv_at hl 3 rfl) ?_
    refine lv_iload S.1 S.2.1 dX5_partOver_39 (lv_at hl 1 rfl) ?_
    refine lv_imul S.1 S.2.1 dX5_partOver_41 ?_
    refine lv_bipush (v := 99) S.1 S.2.1 dX5_partOver_42 (by decide) ?_
    refine lv_iadd S.1 S.2.1 dX5_partOver_44 ?_
    refine lv_bipush (v := 100) S.1 S.2.1 dX5_partOver_45 (by decide) ?_
    refine lv_idiv S.1 S.2.1 dX5_partOver_47 (by decide) ?_
    refine hm_top (z := (q * cntF s0 w a 5 + 99) / 100) (rfl) ?_
    refine lv_istore (lv' := [(5, .int ((q * cntF s0 w a 5 + 99) / 100)), (4, .int (cntF s0 w a 5)), (0, .ref (ad (10, i, 0))), (1, .int q), (2, .int (nI w)), (3, .int (nI a))]) S.1 S.2.1 dX5_partOver_48 hl (by decide) rfl (fun ls hl => ?_)
    refine lv_iconst (v := 0) S.1 S.2.1 dX5_partOver_50 (by decide) ?_
    refine lv_istore (lv' := [(6, .int 0), (5, .int ((q * cntF s0 w a 5 + 99) / 100)), (4, .int (cntF s0 w a 5)), (0, .ref (ad (10, i, 0))), (1, .int q), (2, .int (nI w)), (3, .int (nI a))]) S.1 S.2.1 dX5_partOver_51 hl (by decide) rfl (fun ls hl => ?_)
    refine lv_iconst (v := 1) S.1 S.2.1 dX5_partOver_53 (by decide) ?_
    refine lv_istore (lv' := [(7, .int 1), (6, .int 0), (5, .int ((q * cntF s0 w a 5 + 99) / 100)), (4, .int (cntF s0 w a 5)), (0, .ref (ad (10, i, 0))), (1, .int q), (2, .int (nI w)), (3, .int (nI a))]) S.1 S.2.1 dX5_partOver_54 hl (by decide) rfl (fun ls hl => ?_)
    have L56_0 : ∀ (n : Nat) (k : Nat) (re : Int32), partL s0 w a ((q * cntF s0 w a 5 + 99) / 100) n k re = partF s0 q w a → n + k = 5 → 1 ≤ k → ∀ (H : Heap) (locs : List Loc) (ls : Array Slot), hm_G g ad M s.heap H locs → lv_has ls 10 [(0, .ref (ad (10, i, 0))), (2, .int (nI w)), (3, .int (nI a)), (5, .int ((q * cntF s0 w a 5 + 99) / 100)), (6, .int re), (7, .int (nI k))] → W p l e rm_X5_partOver s m args below meth c H locs 0 0 (MQ below (hm_Q g (hm_pU ad M (some (.int (partF s0 q w a))))) args s rm_X5_partOver.cells rm_X5_partOver.slots (hm_A g)) (F0 m 56 ls []) := by
      intro n
      induction n with
      | zero =>
        intro k re hF hk hk1 H locs ls hG hl
        obtain rfl : k = 5 := by omega
        refine lv_iload S.1 S.2.1 dX5_partOver_56 (lv_at hl 5 rfl) ?_
        refine lv_iconst (v := 5) S.1 S.2.1 dX5_partOver_58 (by decide) ?_
        refine lv_icmp_ge (tgt := 132) S.1 S.2.1 dX5_partOver_59 (by decide) (fun _ => ?_) (fun h9 => absurd (by decide) h9)
        refine lv_sipush (v := 500) S.1 S.2.1 dX5_partOver_132 (by decide) ?_
        exact hm_iret S hG hr hlk (⟨by rw [← hF]; rfl, rfl, rfl⟩) (Nat.le_of_ble_eq_true rfl) (Nat.le_of_ble_eq_true rfl) dX5_partOver_135
      | succ n ih =>
        intro k re hF hk hk1 H locs ls hG hl
        refine lv_iload S.1 S.2.1 dX5_partOver_56 (lv_at hl 5 rfl) ?_
        refine lv_iconst (v := 5) S.1 S.2.1 dX5_partOver_58 (by decide) ?_
        refine lv_icmp_ge (tgt := 132) S.1 S.2.1 dX5_partOver_59 (by decide) (fun h9 => absurd h9 (nI_ge (b := 5) (by omega) (by decide))) (fun _ => ?_)
        refine lv_aload_n S.1 S.2.1 dX5_partOver_62 rfl (lv_at hl 0 rfl) ?_
        refine lv_iload S.1 S.2.1 dX5_partOver_63 (lv_at hl 5 rfl) ?_
        refine lv_iload_n S.1 S.2.1 dX5_partOver_65 rfl (lv_at hl 1 rfl) ?_
        refine lv_iload_n S.1 S.2.1 dX5_partOver_66 rfl (lv_at hl 2 rfl) ?_
        refine hm_uV (As := [.int (nI k), .int (nI w), .int (nI a)]) (rest := []) (st1 := [.int (grF s0 k w a)]) S hE hG (c_X5_growthOf l g ad M i s0 hs k w a (by omega) (by omega) (by omega)) (hm_gV hb_368 hb_369 hb_370 hb_90 hb_371) hd_X5_growthOf rfl h10 rfl rfl ⟨Nat.le_of_ble_eq_true rfl, Nat.le_of_ble_eq_true rfl⟩ rfl hl.1 rfl (Nat.le_of_ble_eq_true rfl) dX5_partOver_67 ⟨Nat.le_of_ble_eq_true rfl, Nat.le_of_ble_eq_true rfl⟩ rfl (fun H locs hG => ?_)
        refine lv_istore (lv' := [(8, .int (grF s0 k w a)), (0, .ref (ad (10, i, 0))), (2, .int (nI w)), (3, .int (nI a)), (5, .int ((q * cntF s0 w a 5 + 99) / 100)), (6, .int re), (7, .int (nI k))]) S.1 S.2.1 dX5_partOver_70 hl (by decide) rfl (fun ls hl => ?_)
        refine lv_iload S.1 S.2.1 dX5_partOver_72 (lv_at hl 0 rfl) ?_
        refine lv_if_le (tgt := 119) S.1 S.2.1 dX5_partOver_74 (by decide) (fun c74 => ?_) (fun c74 => ?_)
        · skip
          refine lv_iload S.1 S.2.1 dX5_partOver_119 (lv_at hl 5 rfl) ?_
          refine lv_iload S.1 S.2.1 dX5_partOver_121 (lv_at hl 0 rfl) ?_
          refine lv_iadd S.1 S.2.1 dX5_partOver_123 ?_
          refine lv_istore (lv' := [(6, .int (re + (grF s0 k w a))), (8, .int (grF s0 k w a)), (0, .ref (ad (10, i, 0))), (2, .int (nI w)), (3, .int (nI a)), (5, .int ((q * cntF s0 w a 5 + 99) / 100)), (7, .int (nI k))]) S.1 S.2.1 dX5_partOver_124 hl (by decide) rfl (fun ls hl => ?_)
          refine lv_iinc (v := nI (k + 1)) (lv' := [(7, .int (nI (k + 1))), (6, .int (re + (grF s0 k w a))), (8, .int (grF s0 k w a)), (0, .ref (ad (10, i, 0))), (2, .int (nI w)), (3, .int (nI a)), (5, .int ((q * cntF s0 w a 5 + 99) / 100))]) S.1 S.2.1 dX5_partOver_126 hl (k := 6) rfl (nI_1 k) (by decide) rfl (fun ls hl => ?_)
          refine lv_goto (tgt := 56) S.1 S.2.1 dX5_partOver_129 (by decide) ?_
          exact ih (k + 1) _ (by rw [← hF, partL, if_neg (fun h => absurd h.1 (Int32.not_lt.mpr c74))]) (by omega) (by omega) _ _ _ hG (lv_sub hl [3, 4, 5, 6, 1, 0] rfl)
        · skip
          have e74 := Int32.not_le.mp c74
          refine lv_iload S.1 S.2.1 dX5_partOver_77 (lv_at hl 5 rfl) ?_
          refine lv_iload S.1 S.2.1 dX5_partOver_79 (lv_at hl 0 rfl) ?_
          refine lv_iadd S.1 S.2.1 dX5_partOver_81 ?_
          refine lv_iload S.1 S.2.1 dX5_partOver_82 (lv_at hl 4 rfl) ?_
          refine lv_icmp_lt (tgt := 119) S.1 S.2.1 dX5_partOver_84 (by decide) (fun c84 => ?_) (fun c84 => ?_)
          · skip
            refine lv_iload S.1 S.2.1 dX5_partOver_119 (lv_at hl 5 rfl) ?_
            refine lv_iload S.1 S.2.1 dX5_partOver_121 (lv_at hl 0 rfl) ?_
            refine lv_iadd S.1 S.2.1 dX5_partOver_123 ?_
            refine lv_istore (lv' := [(6, .int (re + (grF s0 k w a))), (8, .int (grF s0 k w a)), (0, .ref (ad (10, i, 0))), (2, .int (nI w)), (3, .int (nI a)), (5, .int ((q * cntF s0 w a 5 + 99) / 100)), (7, .int (nI k))]) S.1 S.2.1 dX5_partOver_124 hl (by decide) rfl (fun ls hl => ?_)
            refine lv_iinc (v := nI (k + 1)) (lv' := [(7, .int (nI (k + 1))), (6, .int (re + (grF s0 k w a))), (8, .int (grF s0 k w a)), (0, .ref (ad (10, i, 0))), (2, .int (nI w)), (3, .int (nI a)), (5, .int ((q * cntF s0 w a 5 + 99) / 100))]) S.1 S.2.1 dX5_partOver_126 hl (k := 6) rfl (nI_1 k) (by decide) rfl (fun ls hl => ?_)
            refine lv_goto (tgt := 56) S.1 S.2.1 dX5_partOver_129 (by decide) ?_
            exact ih (k + 1) _ (by rw [← hF, partL, if_neg (fun h => absurd h.2 (Int32.not_le.mpr c84))]) (by omega) (by omega) _ _ _ hG (lv_sub hl [3, 4, 5, 6, 1, 0] rfl)
          · skip
            have e84 := Int32.not_lt.mp c84
            refine hm_getsN S hE hG hE.2.2.1.2.1.1 (List.mem_of_getElem? (i := 6) rfl) dX5_partOver_87 ?_
            refine lv_iload S.1 S.2.1 dX5_partOver_90 (lv_at hl 6 rfl) ?_
            refine lv_iconst (v := 1) S.1 S.2.1 dX5_partOver_92 (by decide) ?_
            refine lv_isub S.1 S.2.1 dX5_partOver_93 ?_
            refine hm_top (z := nI (k - 1)) (pk_sub (b := 1) (by omega)) ?_
            refine hm_tabI (x := hm_eN (k - 1)) (f := hm_eN) S hG hE.2.2.1.2.1.2 (vp_in_nI (n := k - 1) (by omega) (by decide)) (congrArg hm_eN (nI_clamp (by omega))) dX5_partOver_94 ?_
            refine lv_istore (lv' := [(9, .int (hm_eN (k - 1))), (8, .int (grF s0 k w a)), (0, .ref (ad (10, i, 0))), (2, .int (nI w)), (3, .int (nI a)), (5, .int ((q * cntF s0 w a 5 + 99) / 100)), (6, .int re), (7, .int (nI k))]) S.1 S.2.1 dX5_partOver_95 hl (by decide) rfl (fun ls hl => ?_)
            refine lv_iload S.1 S.2.1 dX5_partOver_97 (lv_at hl 0 rfl) ?_
            refine hm_getsN S hE hG hE.2.2.1.2.1.1 (List.mem_of_getElem? (i := 6) rfl) dX5_partOver_99 ?_
            refine lv_iload S.1 S.2.1 dX5_partOver_102 (lv_at hl 7 rfl) ?_
            refine hm_tabI (x := hm_eN k) (f := hm_eN) S hG hE.2.2.1.2.1.2 (vp_in_nI (n := k) (by omega) (by decide)) (congrArg hm_eN (nI_clamp (by omega))) dX5_partOver_104 ?_
            refine lv_iload S.1 S.2.1 dX5_partOver_105 (lv_at hl 0 rfl) ?_
            refine lv_isub S.1 S.2.1 dX5_partOver_107 ?_
            refine lv_iload S.1 S.2.1 dX5_partOver_108 (lv_at hl 5 rfl) ?_
            refine lv_iload S.1 S.2.1 dX5_partOver_110 (lv_at hl 6 rfl) ?_
            refine lv_isub S.1 S.2.1 dX5_partOver_112 ?_
            refine lv_imul S.1 S.2.1 dX5_partOver_113 ?_
            refine lv_iload S.1 S.2.1 dX5_partOver_114 (lv_at hl 1 rfl) ?_
            refine lv_idiv S.1 S.2.1 dX5_partOver_116 (fun h => absurd (h ▸ e74) (by decide)) ?_
            refine lv_iadd S.1 S.2.1 dX5_partOver_117 ?_
            exact hm_iret S hG hr hlk (⟨by rw [← hF, partL, if_pos ⟨e74, e84⟩], rfl, rfl⟩) (Nat.le_of_ble_eq_true rfl) (Nat.le_of_ble_eq_true rfl) dX5_partOver_118
    exact L56_0 4 1 0 (by rw [partF, if_neg h0]) rfl (by decide) _ _ _ hG (lv_sub hl [4, 6, 7, 2, 1, 0] rfl)

abbrev rm_X5_lookOver : Room := { frames := 3, cells := 0, slots := 0, locals := 80 }
set_option maxHeartbeats 4000000 in
set_option maxRecDepth 100000 in
theorem c_X5_lookOver (l : Launch) (g : GV) (ad : AD) (M : CT) (i : Nat) (s0 : SeD) (hs : hasSe g ad M i s0) (lk w a : Nat) (hlo : lk < 9) (hw : w < 100) (ha : a < 100) : hm_Met l yX5_lookOver cX5_lookOver 4 (some .int) rm_X5_lookOver g ad M [.ref (ad (10, i, 0)), .int (nI lk), .int (nI w), .int (nI a)] (hm_pU ad M (some (.int (lookF s0 lk w a)))) := by
  refine hm_start (own := RX5) (by decide) rfl (Nat.le_of_ble_eq_true rfl) ?_
  intro p e s m args below meth c S hr hlk hnm hE hG ls hl
  have hl : lv_has ls 4 [(0, .ref (ad (10, i, 0))), (1, .int (nI lk)), (2, .int (nI w)), (3, .int (nI a))] := hl
  obtain ⟨h10, h11, h12, h13, hla, hhe, hi⟩ := id hs
  have h9 : lk = 0 ∨ lk = 1 ∨ lk = 2 ∨ lk = 3 ∨ lk = 4 ∨ lk = 5 ∨ lk = 6 ∨ lk = 7 ∨ lk = 8 := by omega
  rcases h9 with rfl | rfl | rfl | rfl | rfl | rfl | rfl | rfl | rfl
  · skip
    have hl : lv_has ls 4 [(0, .ref (ad (10, i, 0))), (1, .int 0), (2, .int (nI w)), (3, .int (nI a))] := hl
    refine lv_iload_n S.1 S.2.1 dX5_lookOver_0 rfl (lv_at hl 1 rfl) ?_
    refine lv_tableIn (tgt := 36) S.1 S.2.1 dX5_lookOver_1 (by decide) (by decide) (by rfl) (by decide) ?_
    refine lv_aload_n S.1 S.2.1 dX5_lookOver_36 rfl (lv_at hl 0 rfl) ?_
    refine lv_iconst (v := 0) S.1 S.2.1 dX5_lookOver_37 (by decide) ?_
    refine lv_iconst (v := 0) S.1 S.2.1 dX5_lookOver_38 (by decide) ?_
    refine lv_iload_n S.1 S.2.1 dX5_lookOver_39 rfl (lv_at hl 3 rfl) ?_
    refine hm_uV (As := [.int 0, .int 0, .int (nI a)]) (rest := []) (st1 := [.int (pastF s0 0 0 a)]) S hE hG (c_X5_past l g ad M i s0 hs 0 0 a (by omega) (by omega) (by omega)) (hm_gV hb_364 hb_365 hb_366 hb_90 hb_367) hd_X5_past rfl h10 rfl rfl ⟨Nat.le_of_ble_eq_true rfl, Nat.le_of_ble_eq_true rfl⟩ rfl hl.1 rfl (Nat.le_of_ble_eq_true rfl) dX5_lookOver_40 ⟨Nat.le_of_ble_eq_true rfl, Nat.le_of_ble_eq_true rfl⟩ rfl (fun H locs hG => ?_)
    exact hm_iret S hG hr hlk (⟨by simp [lookF], rfl, rfl⟩) (Nat.le_of_ble_eq_true rfl) (Nat.le_of_ble_eq_true rfl) dX5_lookOver_43
  · skip
    have hl : lv_has ls 4 [(0, .ref (ad (10, i, 0))), (1, .int 1), (2, .int (nI w)), (3, .int (nI a))] := hl
    refine lv_iload_n S.1 S.2.1 dX5_lookOver_0 rfl (lv_at hl 1 rfl) ?_
    refine lv_tableIn (tgt := 44) S.1 S.2.1 dX5_lookOver_1 (by decide) (by decide) (by rfl) (by decide) ?_
    refine lv_aload_n S.1 S.2.1 dX5_lookOver_44 rfl (lv_at hl 0 rfl) ?_
    refine lv_iconst (v := 0) S.1 S.2.1 dX5_lookOver_45 (by decide) ?_
    refine lv_iload_n S.1 S.2.1 dX5_lookOver_46 rfl (lv_at hl 2 rfl) ?_
    refine lv_iload_n S.1 S.2.1 dX5_lookOver_47 rfl (lv_at hl 3 rfl) ?_
    refine hm_uV (As := [.int 0, .int (nI w), .int (nI a)]) (rest := []) (st1 := [.int (grF s0 0 w a)]) S hE hG (c_X5_growthOf l g ad M i s0 hs 0 w a (by omega) (by omega) (by omega)) (hm_gV hb_368 hb_369 hb_370 hb_90 hb_371) hd_X5_growthOf rfl h10 rfl rfl ⟨Nat.le_of_ble_eq_true rfl, Nat.le_of_ble_eq_true rfl⟩ rfl hl.1 rfl (Nat.le_of_ble_eq_true rfl) dX5_lookOver_48 ⟨Nat.le_of_ble_eq_true rfl, Nat.le_of_ble_eq_true rfl⟩ rfl (fun H locs hG => ?_)
    exact hm_iret S hG hr hlk (⟨by simp [lookF], rfl, rfl⟩) (Nat.le_of_ble_eq_true rfl) (Nat.le_of_ble_eq_true rfl) dX5_lookOver_51
  · skip
    have hl : lv_has ls 4 [(0, .ref (ad (10, i, 0))), (1, .int 2), (2, .int (nI w)), (3, .int (nI a))] := hl
    refine lv_iload_n S.1 S.2.1 dX5_lookOver_0 rfl (lv_at hl 1 rfl) ?_
    refine lv_tableIn (tgt := 52) S.1 S.2.1 dX5_lookOver_1 (by decide) (by decide) (by rfl) (by decide) ?_
    refine lv_aload_n S.1 S.2.1 dX5_lookOver_52 rfl (lv_at hl 0 rfl) ?_
    refine lv_iload_n S.1 S.2.1 dX5_lookOver_53 rfl (lv_at hl 2 rfl) ?_
    refine lv_iload_n S.1 S.2.1 dX5_lookOver_54 rfl (lv_at hl 3 rfl) ?_
    refine hm_uV (As := [.int (nI w), .int (nI a)]) (rest := []) (st1 := [.int (meanF s0 w a)]) S hE hG (c_X5_meanOver l g ad M i s0 hs w a hw ha) (hm_gV hb_373 hb_374 hb_375 hb_90 hb_376) hd_X5_meanOver rfl h10 rfl rfl ⟨Nat.le_of_ble_eq_true rfl, Nat.le_of_ble_eq_true rfl⟩ rfl hl.1 rfl (Nat.le_of_ble_eq_true rfl) dX5_lookOver_55 ⟨Nat.le_of_ble_eq_true rfl, Nat.le_of_ble_eq_true rfl⟩ rfl (fun H locs hG => ?_)
    exact hm_iret S hG hr hlk (⟨by simp [lookF], rfl, rfl⟩) (Nat.le_of_ble_eq_true rfl) (Nat.le_of_ble_eq_true rfl) dX5_lookOver_58
  · skip
    have hl : lv_has ls 4 [(0, .ref (ad (10, i, 0))), (1, .int 3), (2, .int (nI w)), (3, .int (nI a))] := hl
    refine lv_iload_n S.1 S.2.1 dX5_lookOver_0 rfl (lv_at hl 1 rfl) ?_
    refine lv_tableIn (tgt := 59) S.1 S.2.1 dX5_lookOver_1 (by decide) (by decide) (by rfl) (by decide) ?_
    refine lv_aload_n S.1 S.2.1 dX5_lookOver_59 rfl (lv_at hl 0 rfl) ?_
    refine lv_iload_n S.1 S.2.1 dX5_lookOver_60 rfl (lv_at hl 2 rfl) ?_
    refine lv_iload_n S.1 S.2.1 dX5_lookOver_61 rfl (lv_at hl 3 rfl) ?_
    refine lv_iconst (v := 1) S.1 S.2.1 dX5_lookOver_62 (by decide) ?_
    refine hm_uV (As := [.int (nI w), .int (nI a), .int 1]) (rest := []) (st1 := [.int (utF s0 w a true)]) S hE hG (c_X5_utmostOver l g ad M i s0 hs w a true hw ha) (hm_gV hb_377 hb_378 hb_379 hb_90 hb_380) hd_X5_utmostOver rfl h10 rfl rfl ⟨Nat.le_of_ble_eq_true rfl, Nat.le_of_ble_eq_true rfl⟩ rfl hl.1 rfl (Nat.le_of_ble_eq_true rfl) dX5_lookOver_63 ⟨Nat.le_of_ble_eq_true rfl, Nat.le_of_ble_eq_true rfl⟩ rfl (fun H locs hG => ?_)
    exact hm_iret S hG hr hlk (⟨by simp [lookF], rfl, rfl⟩) (Nat.le_of_ble_eq_true rfl) (Nat.le_of_ble_eq_true rfl) dX5_lookOver_66
  · skip
    have hl : lv_has ls 4 [(0, .ref (ad (10, i, 0))), (1, .int 4), (2, .int (nI w)), (3, .int (nI a))] := hl
    refine lv_iload_n S.1 S.2.1 dX5_lookOver_0 rfl (lv_at hl 1 rfl) ?_
    refine lv_tableIn (tgt := 67) S.1 S.2.1 dX5_lookOver_1 (by decide) (by decide) (by rfl) (by decide) ?_
    refine lv_aload_n S.1 S.2.1 dX5_lookOver_67 rfl (lv_at hl 0 rfl) ?_
    refine lv_iload_n S.1 S.2.1 dX5_lookOver_68 rfl (lv_at hl 2 rfl) ?_
    refine lv_iload_n S.1 S.2.1 dX5_lookOver_69 rfl (lv_at hl 3 rfl) ?_
    refine lv_iconst (v := 0) S.1 S.2.1 dX5_lookOver_70 (by decide) ?_
    refine hm_uV (As := [.int (nI w), .int (nI a), .int 0]) (rest := []) (st1 := [.int (utF s0 w a false)]) S hE hG (c_X5_utmostOver l g ad M i s0 hs w a false hw ha) (hm_gV hb_377 hb_378 hb_379 hb_90 hb_380) hd_X5_utmostOver rfl h10 rfl rfl ⟨Nat.le_of_ble_eq_true rfl, Nat.le_of_ble_eq_true rfl⟩ rfl hl.1 rfl (Nat.le_of_ble_eq_true rfl) dX5_lookOver_71 ⟨Nat.le_of_ble_eq_true rfl, Nat.le_of_ble_eq_true rfl⟩ rfl (fun H locs hG => ?_)
    exact hm_iret S hG hr hlk (⟨by simp [lookF], rfl, rfl⟩) (Nat.le_of_ble_eq_true rfl) (Nat.le_of_ble_eq_true rfl) dX5_lookOver_74
  · skip
    have hl : lv_has ls 4 [(0, .ref (ad (10, i, 0))), (1, .int 5), (2, .int (nI w)), (3, .int (nI a))] := hl
    refine lv_iload_n S.1 S.2.1 dX5_lookOver_0 rfl (lv_at hl 1 rfl) ?_
    refine lv_tableOut (tgt := 75) S.1 S.2.1 dX5_lookOver_1 (by decide) (by decide) ?_
    refine lv_aload_n S.1 S.2.1 dX5_lookOver_75 rfl (lv_at hl 0 rfl) ?_
    refine hm_get (k := 1) S hE hG h10 rfl rfl hi_X50 (by decide) hb_112 rfl rfl dX5_lookOver_76 ?_
    refine lv_iconst (v := 2) S.1 S.2.1 dX5_lookOver_79 (by decide) ?_
    refine lv_icmp_ne (tgt := 99) S.1 S.2.1 dX5_lookOver_80 (by decide) (fun c80 => ?_) (fun c80 => ?_)
    · skip
      refine lv_iconst (v := 0) S.1 S.2.1 dX5_lookOver_99 (by decide) ?_
      exact hm_iret S hG hr hlk (⟨by simp_all [lookF, hm_pN], rfl, rfl⟩) (Nat.le_of_ble_eq_true rfl) (Nat.le_of_ble_eq_true rfl) dX5_lookOver_100
    · skip
      refine lv_aload_n S.1 S.2.1 dX5_lookOver_83 rfl (lv_at hl 0 rfl) ?_
      refine hm_getsN S hE hG hE.2.2.1.2.2.1 (List.mem_of_getElem? (i := 7) rfl) dX5_lookOver_84 ?_
      refine lv_iload_n S.1 S.2.1 dX5_lookOver_87 rfl (lv_at hl 1 rfl) ?_
      refine lv_iconst (v := 5) S.1 S.2.1 dX5_lookOver_88 (by decide) ?_
      refine lv_isub S.1 S.2.1 dX5_lookOver_89 ?_
      refine hm_top (z := 0) (by decide) ?_
      refine hm_tabI (x := 50) (f := hm_pN) S hG hE.2.2.1.2.2.2 (by unfold vp_in; decide) (by decide) dX5_lookOver_90 ?_
      refine lv_iload_n S.1 S.2.1 dX5_lookOver_91 rfl (lv_at hl 2 rfl) ?_
      refine lv_iload_n S.1 S.2.1 dX5_lookOver_92 rfl (lv_at hl 3 rfl) ?_
      refine hm_uV (As := [.int 50, .int (nI w), .int (nI a)]) (rest := []) (st1 := [.int (partF s0 50 w a)]) S hE hG (c_X5_partOver l g ad M i s0 hs 50 w a hw ha) (hm_gV hb_382 hb_383 hb_384 hb_90 hb_385) hd_X5_partOver rfl h10 rfl rfl ⟨Nat.le_of_ble_eq_true rfl, Nat.le_of_ble_eq_true rfl⟩ rfl hl.1 rfl (Nat.le_of_ble_eq_true rfl) dX5_lookOver_93 ⟨Nat.le_of_ble_eq_true rfl, Nat.le_of_ble_eq_true rfl⟩ rfl (fun H locs hG => ?_)
      refine lv_goto (tgt := 100) S.1 S.2.1 dX5_lookOver_96 (by decide) ?_
      exact hm_iret S hG hr hlk (⟨by simp_all [lookF, hm_pN], rfl, rfl⟩) (Nat.le_of_ble_eq_true rfl) (Nat.le_of_ble_eq_true rfl) dX5_lookOver_100
  · skip
    have hl : lv_has ls 4 [(0, .ref (ad (10, i, 0))), (1, .int 6), (2, .int (nI w)), (3, .int (nI a))] := hl
    refine lv_iload_n S.1 S.2.1 dX5_lookOver_0 rfl (lv_at hl 1 rfl) ?_
    refine lv_tableOut (tgt := 75) S.1 S.2.1 dX5_lookOver_1 (by decide) (by decide) ?_
    refine lv_aload_n S.1 S.2.1 dX5_lookOver_75 rfl (lv_at hl 0 rfl) ?_
    refine hm_get (k := 1) S hE hG h10 rfl rfl hi_X50 (by decide) hb_112 rfl rfl dX5_lookOver_76 ?_
    refine lv_iconst (v := 2) S.1 S.2.1 dX5_lookOver_79 (by decide) ?_
    refine lv_icmp_ne (tgt := 99) S.1 S.2.1 dX5_lookOver_80 (by decide) (fun c80 => ?_) (fun c80 => ?_)
    · skip
      refine lv_iconst (v := 0) S.1 S.2.1 dX5_lookOver_99 (by decide) ?_
      exact hm_iret S hG hr hlk (⟨by simp_all [lookF, hm_pN], rfl, rfl⟩) (Nat.le_of_ble_eq_true rfl) (Nat.le_of_ble_eq_true rfl) dX5_lookOver_100
    · skip
      refine lv_aload_n S.1 S.2.1 dX5_lookOver_83 rfl (lv_at hl 0 rfl) ?_
      refine hm_getsN S hE hG hE.2.2.1.2.2.1 (List.mem_of_getElem? (i := 7) rfl) dX5_lookOver_84 ?_
      refine lv_iload_n S.1 S.2.1 dX5_lookOver_87 rfl (lv_at hl 1 rfl) ?_
      refine lv_iconst (v := 5) S.1 S.2.1 dX5_lookOver_88 (by decide) ?_
      refine lv_isub S.1 S.2.1 dX5_lookOver_89 ?_
      refine hm_top (z := 1) (by decide) ?_
      refine hm_tabI (x := 75) (f := hm_pN) S hG hE.2.2.1.2.2.2 (by unfold vp_in; decide) (by decide) dX5_lookOver_90 ?_
      refine lv_iload_n S.1 S.2.1 dX5_lookOver_91 rfl (lv_at hl 2 rfl) ?_
      refine lv_iload_n S.1 S.2.1 dX5_lookOver_92 rfl (lv_at hl 3 rfl) ?_
      refine hm_uV (As := [.int 75, .int (nI w), .int (nI a)]) (rest := []) (st1 := [.int (partF s0 75 w a)]) S hE hG (c_X5_partOver l g ad M i s0 hs 75 w a hw ha) (hm_gV hb_382 hb_383 hb_384 hb_90 hb_385) hd_X5_partOver rfl h10 rfl rfl ⟨Nat.le_of_ble_eq_true rfl, Nat.le_of_ble_eq_true rfl⟩ rfl hl.1 rfl (Nat.le_of_ble_eq_true rfl) dX5_lookOver_93 ⟨Nat.le_of_ble_eq_true rfl, Nat.le_of_ble_eq_true rfl⟩ rfl (fun H locs hG => ?_)
      refine lv_goto (tgt := 100) S.1 S.2.1 dX5_lookOver_96 (by decide) ?_
      exact hm_iret S hG hr hlk (⟨by simp_all [lookF, hm_pN], rfl, rfl⟩) (Nat.le_of_ble_eq_true rfl) (Nat.le_of_ble_eq_true rfl) dX5_lookOver_100
  · skip
    have hl : lv_has ls 4 [(0, .ref (ad (10, i, 0))), (1, .int 7), (2, .int (nI w)), (3, .int (nI a))] := hl
    refine lv_iload_n S.1 S.2.1 dX5_lookOver_0 rfl (lv_at hl 1 rfl) ?_
    refine lv_tableOut (tgt := 75) S.1 S.2.1 dX5_lookOver_1 (by decide) (by decide) ?_
    refine lv_aload_n S.1 S.2.1 dX5_lookOver_75 rfl (lv_at hl 0 rfl) ?_
    refine hm_get (k := 1) S hE hG h10 rfl rfl hi_X50 (by decide) hb_112 rfl rfl dX5_lookOver_76 ?_
    refine lv_iconst (v := 2) S.1 S.2.1 dX5_lookOver_79 (by decide) ?_
    refine lv_icmp_ne (tgt := 99) S.1 S.2.1 dX5_lookOver_80 (by decide) (fun c80 => ?_) (fun c80 => ?_)
    · skip
      refine lv_iconst (v := 0) S.1 S.2.1 dX5_lookOver_99 (by decide) ?_
      exact hm_iret S hG hr hlk (⟨by simp_all [lookF, hm_pN], rfl, rfl⟩) (Nat.le_of_ble_eq_true rfl) (Nat.le_of_ble_eq_true rfl) dX5_lookOver_100
    · skip
      refine lv_aload_n S.1 S.2.1 dX5_lookOver_83 rfl (lv_at hl 0 rfl) ?_
      refine hm_getsN S hE hG hE.2.2.1.2.2.1 (List.mem_of_getElem? (i := 7) rfl) dX5_lookOver_84 ?_
      refine lv_iload_n S.1 S.2.1 dX5_lookOver_87 rfl (lv_at hl 1 rfl) ?_
      refine lv_iconst (v := 5) S.1 S.2.1 dX5_lookOver_88 (by decide) ?_
      refine lv_isub S.1 S.2.1 dX5_lookOver_89 ?_
      refine hm_top (z := 2) (by decide) ?_
      refine hm_tabI (x := 90) (f := hm_pN) S hG hE.2.2.1.2.2.2 (by unfold vp_in; decide) (by decide) dX5_lookOver_90 ?_
      refine lv_iload_n S.1 S.2.1 dX5_lookOver_91 rfl (lv_at hl 2 rfl) ?_
      refine lv_iload_n S.1 S.2.1 dX5_lookOver_92 rfl (lv_at hl 3 rfl) ?_
      refine hm_uV (As := [.int 90, .int (nI w), .int (nI a)]) (rest := []) (st1 := [.int (partF s0 90 w a)]) S hE hG (c_X5_partOver l g ad M i s0 hs 90 w a hw ha) (hm_gV hb_382 hb_383 hb_384 hb_90 hb_385) hd_X5_partOver rfl h10 rfl rfl ⟨Nat.le_of_ble_eq_true rfl, Nat.le_of_ble_eq_true rfl⟩ rfl hl.1 rfl (Nat.le_of_ble_eq_true rfl) dX5_lookOver_93 ⟨Nat.le_of_ble_eq_true rfl, Nat.le_of_ble_eq_true rfl⟩ rfl (fun H locs hG => ?_)
      refine lv_goto (tgt := 100) S.1 S.2.1 dX5_lookOver_96 (by decide) ?_
      exact hm_iret S hG hr hlk (⟨by simp_all [lookF, hm_pN], rfl, rfl⟩) (Nat.le_of_ble_eq_true rfl) (Nat.le_of_ble_eq_true rfl) dX5_lookOver_100
  · skip
    have hl : lv_has ls 4 [(0, .ref (ad (10, i, 0))), (1, .int 8), (2, .int (nI w)), (3, .int (nI a))] := hl
    refine lv_iload_n S.1 S.2.1 dX5_lookOver_0 rfl (lv_at hl 1 rfl) ?_
    refine lv_tableOut (tgt := 75) S.1 S.2.1 dX5_lookOver_1 (by decide) (by decide) ?_
    refine lv_aload_n S.1 S.2.1 dX5_lookOver_75 rfl (lv_at hl 0 rfl) ?_
    refine hm_get (k := 1) S hE hG h10 rfl rfl hi_X50 (by decide) hb_112 rfl rfl dX5_lookOver_76 ?_
    refine lv_iconst (v := 2) S.1 S.2.1 dX5_lookOver_79 (by decide) ?_
    refine lv_icmp_ne (tgt := 99) S.1 S.2.1 dX5_lookOver_80 (by decide) (fun c80 => ?_) (fun c80 => ?_)
    · skip
      refine lv_iconst (v := 0) S.1 S.2.1 dX5_lookOver_99 (by decide) ?_
      exact hm_iret S hG hr hlk (⟨by simp_all [lookF, hm_pN], rfl, rfl⟩) (Nat.le_of_ble_eq_true rfl) (Nat.le_of_ble_eq_true rfl) dX5_lookOver_100
    · skip
      refine lv_aload_n S.1 S.2.1 dX5_lookOver_83 rfl (lv_at hl 0 rfl) ?_
      refine hm_getsN S hE hG hE.2.2.1.2.2.1 (List.mem_of_getElem? (i := 7) rfl) dX5_lookOver_84 ?_
      refine lv_iload_n S.1 S.2.1 dX5_lookOver_87 rfl (lv_at hl 1 rfl) ?_
      refine lv_iconst (v := 5) S.1 S.2.1 dX5_lookOver_88 (by decide) ?_
      refine lv_isub S.1 S.2.1 dX5_lookOver_89 ?_
      refine hm_top (z := 3) (by decide) ?_
      refine hm_tabI (x := 99) (f := hm_pN) S hG hE.2.2.1.2.2.2 (by unfold vp_in; decide) (by decide) dX5_lookOver_90 ?_
      refine lv_iload_n S.1 S.2.1 dX5_lookOver_91 rfl (lv_at hl 2 rfl) ?_
      refine lv_iload_n S.1 S.2.1 dX5_lookOver_92 rfl (lv_at hl 3 rfl) ?_
      refine hm_uV (As := [.int 99, .int (nI w), .int (nI a)]) (rest := []) (st1 := [.int (partF s0 99 w a)]) S hE hG (c_X5_partOver l g ad M i s0 hs 99 w a hw ha) (hm_gV hb_382 hb_383 hb_384 hb_90 hb_385) hd_X5_partOver rfl h10 rfl rfl ⟨Nat.le_of_ble_eq_true rfl, Nat.le_of_ble_eq_true rfl⟩ rfl hl.1 rfl (Nat.le_of_ble_eq_true rfl) dX5_lookOver_93 ⟨Nat.le_of_ble_eq_true rfl, Nat.le_of_ble_eq_true rfl⟩ rfl (fun H locs hG => ?_)
      refine lv_goto (tgt := 100) S.1 S.2.1 dX5_lookOver_96 (by decide) ?_
      exact hm_iret S hG hr hlk (⟨by simp_all [lookF, hm_pN], rfl, rfl⟩) (Nat.le_of_ble_eq_true rfl) (Nat.le_of_ble_eq_true rfl) dX5_lookOver_100

abbrev rm_X5_columnFor : Room := { frames := 0, cells := 0, slots := 0, locals := 0 }
set_option maxHeartbeats 4000000 in
set_option maxRecDepth 100000 in
theorem c_X5_columnFor (l : Launch) (g : GV) (ad : AD) (M : CT) (x : Int32) : hm_Met l yX5_columnFor cX5_columnFor 2 (some .int) rm_X5_columnFor g ad M [.int x] (hm_pU ad M (some (.int (nI (colF x))))) := by
  refine hm_start (own := RX5) (by decide) rfl (Nat.le_of_ble_eq_true rfl) ?_
  intro p e s m args below meth c S hr hlk hnm hE hG ls hl
  have hl : lv_has ls 2 [(0, .int x)] := hl
  refine lv_iconst (v := 1) S.1 S.2.1 dX5_columnFor_0 (by decide) ?_
  refine lv_istore_n (lv' := [(1, .int 1), (0, .int x)]) S.1 S.2.1 dX5_columnFor_1 rfl hl (by decide) rfl (fun ls hl => ?_)
  have L2_0 : ∀ (n : Nat) (k : Nat), colL x n k = colF x → n + k = 5 → ∀ (H : Heap) (locs : List Loc) (ls : Array Slot), hm_G g ad M s.heap H locs → lv_has ls 2 [(0, .int x), (1, .int (nI k))] → W p l e rm_X5_columnFor s m args below meth c H locs 0 0 (MQ below (hm_Q g (hm_pU ad M (some (.int (nI (colF x)))))) args s rm_X5_columnFor.cells rm_X5_columnFor.slots (hm_A g)) (F0 m 2 ls []) := by
    intro n
    induction n with
    | zero =>
      intro k hF hk H locs ls hG hl
      obtain rfl : k = 5 := by omega
      refine lv_iload_n S.1 S.2.1 dX5_columnFor_2 rfl (lv_at hl 1 rfl) ?_
      refine lv_iconst (v := 5) S.1 S.2.1 dX5_columnFor_3 (by decide) ?_
      refine lv_icmp_ge (tgt := 22) S.1 S.2.1 dX5_columnFor_4 (by decide) (fun _ => ?_) (fun h9 => absurd (by decide) h9)
      refine lv_iload_n S.1 S.2.1 dX5_columnFor_22 rfl (lv_at hl 1 rfl) ?_
      exact hm_iret S hG hr hlk (⟨by rw [← hF]; rfl, rfl, rfl⟩) (Nat.le_of_ble_eq_true rfl) (Nat.le_of_ble_eq_true rfl) dX5_columnFor_23
    | succ n ih =>
      intro k hF hk H locs ls hG hl
      refine lv_iload_n S.1 S.2.1 dX5_columnFor_2 rfl (lv_at hl 1 rfl) ?_
      refine lv_iconst (v := 5) S.1 S.2.1 dX5_columnFor_3 (by decide) ?_
      refine lv_icmp_ge (tgt := 22) S.1 S.2.1 dX5_columnFor_4 (by decide) (fun h9 => absurd h9 (nI_ge (b := 5) (by omega) (by decide))) (fun _ => ?_)
      refine lv_iload_n S.1 S.2.1 dX5_columnFor_7 rfl (lv_at hl 0 rfl) ?_
      refine hm_getsN S hE hG hE.2.2.1.2.1.1 (List.mem_of_getElem? (i := 6) rfl) dX5_columnFor_8 ?_
      refine lv_iload_n S.1 S.2.1 dX5_columnFor_11 rfl (lv_at hl 1 rfl) ?_
      refine hm_tabI (x := hm_eN k) (f := hm_eN) S hG hE.2.2.1.2.1.2 (vp_in_nI (n := k) (by omega) (by decide)) (congrArg hm_eN (nI_clamp (by omega))) dX5_columnFor_12 ?_
      refine lv_icmp_le (tgt := 22) S.1 S.2.1 dX5_columnFor_13 (by decide) (fun c13 => ?_) (fun c13 => ?_)
      · skip
        refine lv_iload_n S.1 S.2.1 dX5_columnFor_22 rfl (lv_at hl 1 rfl) ?_
        exact hm_iret S hG hr hlk (⟨by rw [← hF, colL, if_neg (Int32.not_lt.mpr c13)], rfl, rfl⟩) (Nat.le_of_ble_eq_true rfl) (Nat.le_of_ble_eq_true rfl) dX5_columnFor_23
      · skip
        refine lv_iinc (v := nI (k + 1)) (lv' := [(1, .int (nI (k + 1))), (0, .int x)]) S.1 S.2.1 dX5_columnFor_16 hl (k := 1) rfl (nI_1 k) (by decide) rfl (fun ls hl => ?_)
        refine lv_goto (tgt := 2) S.1 S.2.1 dX5_columnFor_19 (by decide) ?_
        exact ih (k + 1) (by rw [← hF, colL, if_pos (Int32.not_le.mp c13)]) (by omega) _ _ _ hG (lv_sub hl [1, 0] rfl)
  exact L2_0 4 1 rfl rfl _ _ _ hG (lv_sub hl [1, 0] rfl)

abbrev rm_X5_take : Room := { frames := 1, cells := 0, slots := 0, locals := 21 }
set_option maxHeartbeats 4000000 in
set_option maxRecDepth 100000 in
theorem c_X5_take (l : Launch) (g : GV) (ad : AD) (M : CT) (i : Nat) (s0 : SeD) (hs : hasSe g ad M i s0) (x : Int32) : hm_Met l yX5_take cX5_take 2 none rm_X5_take g ad M [.ref (ad (10, i, 0)), .int x] (hm_pU ad (hm_up M (11, i, 0) (hm_ia g 6 (takeP s0 x))) none) := by
  refine hm_start (own := RX5) (by decide) rfl (Nat.le_of_ble_eq_true rfl) ?_
  intro p e s m args below meth c S hr hlk hnm hE hG ls hl
  have hl : lv_has ls 2 [(0, .ref (ad (10, i, 0))), (1, .int x)] := hl
  obtain ⟨h10, h11, h12, h13, hla, hhe, hi⟩ := id hs
  refine lv_aload_n S.1 S.2.1 dX5_take_0 rfl (lv_at hl 0 rfl) ?_
  refine hm_get (k := 1) S hE hG h10 rfl rfl hi_X50 (by decide) hb_112 rfl rfl dX5_take_1 ?_
  refine lv_iconst (v := 1) S.1 S.2.1 dX5_take_4 (by decide) ?_
  refine lv_icmp_ne (tgt := 18) S.1 S.2.1 dX5_take_5 (by decide) (fun c5 => ?_) (fun c5 => ?_)
  · skip
    have e5 : ¬ sKi s0 = 1 := c5
    refine lv_aload_n S.1 S.2.1 dX5_take_18 rfl (lv_at hl 0 rfl) ?_
    refine hm_get (k := 1) S hE hG h10 rfl rfl hi_X50 (by decide) hb_112 rfl rfl dX5_take_19 ?_
    refine lv_if_ne (tgt := 38) S.1 S.2.1 dX5_take_22 (by decide) (fun c22 => ?_) (fun c22 => ?_)
    · skip
      have e22 : ¬ sKi s0 = 0 := c22
      refine lv_aload_n S.1 S.2.1 dX5_take_38 rfl (lv_at hl 0 rfl) ?_
      refine hm_get (k := 4) S hE hG h10 rfl rfl hi_X50 (by decide) hb_106 rfl rfl dX5_take_39 ?_
      refine lv_iload_n S.1 S.2.1 dX5_take_42 rfl (lv_at hl 1 rfl) ?_
      refine hm_uS (As := [.int x]) (rest := [.ref (ad (11, i, 0))]) (st1 := [.int (nI (colF x)), .ref (ad (11, i, 0))]) S hE hG (c_X5_columnFor l g ad M x) (hm_gS hb_251 hb_252 hb_90 hb_253) hd_X5_columnFor ⟨Nat.le_of_ble_eq_true rfl, Nat.le_of_ble_eq_true rfl⟩ rfl hl.1 rfl (Nat.le_of_ble_eq_true rfl) dX5_take_43 ⟨Nat.le_of_ble_eq_true rfl, Nat.le_of_ble_eq_true rfl⟩ rfl (fun H locs hG => ?_)
      refine lv_dup2_11 S.1 S.2.1 dX5_take_46 rfl rfl ?_
      refine hm_iald (x := (sPr s0) (colF x)) S hE hG h11 rfl (vp_in_nI (colF_lt x) (by decide)) (congrArg (sPr s0) (nI_clamp (Nat.lt_trans (colF_lt x) (by decide)))) dX5_take_47 ?_
      refine lv_iconst (v := 1) S.1 S.2.1 dX5_take_48 (by decide) ?_
      refine lv_iadd S.1 S.2.1 dX5_take_49 ?_
      refine hm_iast2 (j := (colF x)) (x := (((sPr s0) (colF x)) + 1)) S hE hG h11 rfl (vp_in_nI (colF_lt x) (by decide)) (nI_clamp (Nat.lt_trans (colF_lt x) (by decide))) dX5_take_50 (fun H locs hG => ?_)
      obtain ⟨M_1, eM_1⟩ : ∃ z, z = hm_up M (11, i, 0) (hm_ia g 6 (upd (sPr s0) (colF x) (((sPr s0) (colF x)) + 1))) := ⟨_, rfl⟩
      rw [← eM_1] at hG
      have h_2 : M_1 (10, i, 0) = some (.inr (6, [.int (nI i), .int (sKi s0), .int (sMe s0), .int (sPl s0), .ref (ad (11, i, 0)), .ref (ad (12, i, 0)), .int (nI (sLa s0)), .int (nI (sHe s0))])) := by rw [eM_1]; exact (hm_up_n (by simp)).trans h10
      have h_3 : M_1 (11, i, 0) = some (hm_ia g 6 (upd (sPr s0) (colF x) (((sPr s0) (colF x)) + 1))) := by rw [eM_1]; exact hm_up_s
      have h_4 : M_1 (12, i, 0) = some (hm_ra g 4 13 (rowsA ad i)) := by rw [eM_1]; exact (hm_up_n (by simp)).trans h12
      refine lv_aload_n S.1 S.2.1 dX5_take_51 rfl (lv_at hl 0 rfl) ?_
      refine hm_get (k := 4) S hE hG h_2 rfl rfl hi_X50 (by decide) hb_106 rfl rfl dX5_take_52 ?_
      refine lv_iconst (v := 0) S.1 S.2.1 dX5_take_55 (by decide) ?_
      refine lv_dup2_11 S.1 S.2.1 dX5_take_56 rfl rfl ?_
      refine hm_iald (x := (upd (sPr s0) (colF x) (((sPr s0) (colF x)) + 1)) 0) S hE hG h_3 rfl (by unfold vp_in; decide) (congrArg (upd (sPr s0) (colF x) (((sPr s0) (colF x)) + 1)) (by decide)) dX5_take_57 ?_
      refine lv_iconst (v := 1) S.1 S.2.1 dX5_take_58 (by decide) ?_
      refine lv_iadd S.1 S.2.1 dX5_take_59 ?_
      refine hm_top (z := upd (sPr s0) (colF x) (sPr s0 (colF x) + 1) 0 + 1) (rfl) ?_
      refine hm_iast2 (j := 0) (x := (upd (sPr s0) (colF x) (sPr s0 (colF x) + 1) 0 + 1)) S hE hG h_3 rfl (by unfold vp_in; decide) (by decide) dX5_take_60 (fun H locs hG => ?_)
      obtain ⟨M_5, eM_5⟩ : ∃ z, z = hm_up M_1 (11, i, 0) (hm_ia g 6 (upd (upd (sPr s0) (colF x) (((sPr s0) (colF x)) + 1)) 0 (upd (sPr s0) (colF x) (sPr s0 (colF x) + 1) 0 + 1))) := ⟨_, rfl⟩
      rw [← eM_5] at hG
      have h_6 : M_5 (10, i, 0) = some (.inr (6, [.int (nI i), .int (sKi s0), .int (sMe s0), .int (sPl s0), .ref (ad (11, i, 0)), .ref (ad (12, i, 0)), .int (nI (sLa s0)), .int (nI (sHe s0))])) := by rw [eM_5]; exact (hm_up_n (by simp)).trans h_2
      have h_7 : M_5 (11, i, 0) = some (hm_ia g 6 (upd (upd (sPr s0) (colF x) (((sPr s0) (colF x)) + 1)) 0 (upd (sPr s0) (colF x) (sPr s0 (colF x) + 1) 0 + 1))) := by rw [eM_5]; exact hm_up_s
      have h_8 : M_5 (12, i, 0) = some (hm_ra g 4 13 (rowsA ad i)) := by rw [eM_5]; exact (hm_up_n (by simp)).trans h_4
      exact hm_vret S hG hr hlk (⟨rfl, rfl, by rw [show takeP s0 x = _ from by rw [takeP, if_neg e5, if_neg e22]]; simp [hm_up_up, histP, *]⟩) (Nat.le_of_ble_eq_true rfl) (Nat.le_of_ble_eq_true rfl) dX5_take_61
    · skip
      have e22 : sKi s0 = 0 := by simpa using c22
      refine lv_aload_n S.1 S.2.1 dX5_take_25 rfl (lv_at hl 0 rfl) ?_
      refine hm_get (k := 4) S hE hG h10 rfl rfl hi_X50 (by decide) hb_106 rfl rfl dX5_take_26 ?_
      refine lv_iconst (v := 0) S.1 S.2.1 dX5_take_29 (by decide) ?_
      refine lv_dup2_11 S.1 S.2.1 dX5_take_30 rfl rfl ?_
      refine hm_iald (x := (sPr s0) 0) S hE hG h11 rfl (by unfold vp_in; decide) (congrArg (sPr s0) (by decide)) dX5_take_31 ?_
      refine lv_iload_n S.1 S.2.1 dX5_take_32 rfl (lv_at hl 1 rfl) ?_
      refine lv_iadd S.1 S.2.1 dX5_take_33 ?_
      refine hm_iast2 (j := 0) (x := (((sPr s0) 0) + x)) S hE hG h11 rfl (by unfold vp_in; decide) (by decide) dX5_take_34 (fun H locs hG => ?_)
      obtain ⟨M_9, eM_9⟩ : ∃ z, z = hm_up M (11, i, 0) (hm_ia g 6 (upd (sPr s0) 0 (((sPr s0) 0) + x))) := ⟨_, rfl⟩
      rw [← eM_9] at hG
      have h_10 : M_9 (10, i, 0) = some (.inr (6, [.int (nI i), .int (sKi s0), .int (sMe s0), .int (sPl s0), .ref (ad (11, i, 0)), .ref (ad (12, i, 0)), .int (nI (sLa s0)), .int (nI (sHe s0))])) := by rw [eM_9]; exact (hm_up_n (by simp)).trans h10
      have h_11 : M_9 (11, i, 0) = some (hm_ia g 6 (upd (sPr s0) 0 (((sPr s0) 0) + x))) := by rw [eM_9]; exact hm_up_s
      have h_12 : M_9 (12, i, 0) = some (hm_ra g 4 13 (rowsA ad i)) := by rw [eM_9]; exact (hm_up_n (by simp)).trans h12
      refine lv_goto (tgt := 61) S.1 S.2.1 dX5_take_35 (by decide) ?_
      exact hm_vret S hG hr hlk (⟨rfl, rfl, by rw [show takeP s0 x = _ from by rw [takeP, if_neg e5, if_pos e22]]; simp [hm_up_up, histP, *]⟩) (Nat.le_of_ble_eq_true rfl) (Nat.le_of_ble_eq_true rfl) dX5_take_61
  · skip
    have e5 : sKi s0 = 1 := by simpa using c5
    refine lv_aload_n S.1 S.2.1 dX5_take_8 rfl (lv_at hl 0 rfl) ?_
    refine hm_get (k := 4) S hE hG h10 rfl rfl hi_X50 (by decide) hb_106 rfl rfl dX5_take_9 ?_
    refine lv_iconst (v := 0) S.1 S.2.1 dX5_take_12 (by decide) ?_
    refine lv_iload_n S.1 S.2.1 dX5_take_13 rfl (lv_at hl 1 rfl) ?_
    refine hm_iast2 (j := 0) (x := x) S hE hG h11 rfl (by unfold vp_in; decide) (by decide) dX5_take_14 (fun H locs hG => ?_)
    obtain ⟨M_13, eM_13⟩ : ∃ z, z = hm_up M (11, i, 0) (hm_ia g 6 (upd (sPr s0) 0 x)) := ⟨_, rfl⟩
    rw [← eM_13] at hG
    have h_14 : M_13 (10, i, 0) = some (.inr (6, [.int (nI i), .int (sKi s0), .int (sMe s0), .int (sPl s0), .ref (ad (11, i, 0)), .ref (ad (12, i, 0)), .int (nI (sLa s0)), .int (nI (sHe s0))])) := by rw [eM_13]; exact (hm_up_n (by simp)).trans h10
    have h_15 : M_13 (11, i, 0) = some (hm_ia g 6 (upd (sPr s0) 0 x)) := by rw [eM_13]; exact hm_up_s
    have h_16 : M_13 (12, i, 0) = some (hm_ra g 4 13 (rowsA ad i)) := by rw [eM_13]; exact (hm_up_n (by simp)).trans h12
    refine lv_goto (tgt := 61) S.1 S.2.1 dX5_take_15 (by decide) ?_
    exact hm_vret S hG hr hlk (⟨rfl, rfl, by rw [show takeP s0 x = _ from by rw [takeP, if_pos e5]]; simp [hm_up_up, histP, *]⟩) (Nat.le_of_ble_eq_true rfl) (Nat.le_of_ble_eq_true rfl) dX5_take_61

abbrev rm_X5_beginAnew : Room := { frames := 0, cells := 0, slots := 0, locals := 0 }
set_option maxHeartbeats 4000000 in
set_option maxRecDepth 100000 in
theorem c_X5_beginAnew (l : Launch) (g : GV) (ad : AD) (M : CT) (i : Nat) (s0 : SeD) (hs : hasSe g ad M i s0) : hm_Met l yX5_beginAnew cX5_beginAnew 2 none rm_X5_beginAnew g ad M [.ref (ad (10, i, 0))] (hm_pU ad (hm_up M (11, i, 0) (hm_ia g 6 (zeroP (sPr s0)))) none) := by
  refine hm_start (own := RX5) (by decide) rfl (Nat.le_of_ble_eq_true rfl) ?_
  intro p e s m args below meth c S hr hlk hnm hE hG ls hl
  have hl : lv_has ls 2 [(0, .ref (ad (10, i, 0)))] := hl
  obtain ⟨h10, h11, h12, h13, hla, hhe, hi⟩ := id hs
  refine lv_iconst (v := 0) S.1 S.2.1 dX5_beginAnew_0 (by decide) ?_
  refine lv_istore_n (lv' := [(1, .int 0), (0, .ref (ad (10, i, 0)))]) S.1 S.2.1 dX5_beginAnew_1 rfl hl (by decide) rfl (fun ls hl => ?_)
  refine lv_iload_n S.1 S.2.1 dX5_beginAnew_2 rfl (lv_at hl 0 rfl) ?_
  refine lv_bipush (v := 6) S.1 S.2.1 dX5_beginAnew_3 (by decide) ?_
  refine lv_icmp_ge (tgt := 21) S.1 S.2.1 dX5_beginAnew_5 (by decide) (fun h9 => absurd h9 (by decide)) (fun _ => ?_)
  refine lv_aload_n S.1 S.2.1 dX5_beginAnew_8 rfl (lv_at hl 1 rfl) ?_
  refine hm_get (k := 4) S hE hG h10 rfl rfl hi_X50 (by decide) hb_106 rfl rfl dX5_beginAnew_9 ?_
  refine lv_iload_n S.1 S.2.1 dX5_beginAnew_12 rfl (lv_at hl 0 rfl) ?_
  refine lv_iconst (v := 0) S.1 S.2.1 dX5_beginAnew_13 (by decide) ?_
  refine hm_iast2 (j := 0) (x := 0) S hE hG h11 rfl (by unfold vp_in; decide) (by decide) dX5_beginAnew_14 (fun H locs hG => ?_)
  obtain ⟨M_1, eM_1⟩ : ∃ z, z = hm_up M (11, i, 0) (hm_ia g 6 (upd (sPr s0) 0 0)) := ⟨_, rfl⟩
  rw [← eM_1] at hG
  have h_2 : M_1 (10, i, 0) = some (.inr (6, [.int (nI i), .int (sKi s0), .int (sMe s0), .int (sPl s0), .ref (ad (11, i, 0)), .ref (ad (12, i, 0)), .int (nI (sLa s0)), .int (nI (sHe s0))])) := by rw [eM_1]; exact (hm_up_n (by simp)).trans h10
  have h_3 : M_1 (11, i, 0) = some (hm_ia g 6 (upd (sPr s0) 0 0)) := by rw [eM_1]; exact hm_up_s
  have h_4 : M_1 (12, i, 0) = some (hm_ra g 4 13 (rowsA ad i)) := by rw [eM_1]; exact (hm_up_n (by simp)).trans h12
  refine lv_iinc (v := 1) (lv' := [(1, .int 1), (0, .ref (ad (10, i, 0)))]) S.1 S.2.1 dX5_beginAnew_15 hl (k := 0) rfl (by decide) (by decide) rfl (fun ls hl => ?_)
  refine lv_goto (tgt := 2) S.1 S.2.1 dX5_beginAnew_18 (by decide) ?_
  refine lv_iload_n S.1 S.2.1 dX5_beginAnew_2 rfl (lv_at hl 0 rfl) ?_
  refine lv_bipush (v := 6) S.1 S.2.1 dX5_beginAnew_3 (by decide) ?_
  refine lv_icmp_ge (tgt := 21) S.1 S.2.1 dX5_beginAnew_5 (by decide) (fun h9 => absurd h9 (by decide)) (fun _ => ?_)
  refine lv_aload_n S.1 S.2.1 dX5_beginAnew_8 rfl (lv_at hl 1 rfl) ?_
  refine hm_get (k := 4) S hE hG h_2 rfl rfl hi_X50 (by decide) hb_106 rfl rfl dX5_beginAnew_9 ?_
  refine lv_iload_n S.1 S.2.1 dX5_beginAnew_12 rfl (lv_at hl 0 rfl) ?_
  refine lv_iconst (v := 0) S.1 S.2.1 dX5_beginAnew_13 (by decide) ?_
  refine hm_iast2 (j := 1) (x := 0) S hE hG h_3 rfl (by unfold vp_in; decide) (by decide) dX5_beginAnew_14 (fun H locs hG => ?_)
  obtain ⟨M_5, eM_5⟩ : ∃ z, z = hm_up M_1 (11, i, 0) (hm_ia g 6 (upd (upd (sPr s0) 0 0) 1 0)) := ⟨_, rfl⟩
  rw [← eM_5] at hG
  have h_6 : M_5 (10, i, 0) = some (.inr (6, [.int (nI i), .int (sKi s0), .int (sMe s0), .int (sPl s0), .ref (ad (11, i, 0)), .ref (ad (12, i, 0)), .int (nI (sLa s0)), .int (nI (sHe s0))])) := by rw [eM_5]; exact (hm_up_n (by simp)).trans h_2
  have h_7 : M_5 (11, i, 0) = some (hm_ia g 6 (upd (upd (sPr s0) 0 0) 1 0)) := by rw [eM_5]; exact hm_up_s
  have h_8 : M_5 (12, i, 0) = some (hm_ra g 4 13 (rowsA ad i)) := by rw [eM_5]; exact (hm_up_n (by simp)).trans h_4
  refine lv_iinc (v := 2) (lv' := [(1, .int 2), (0, .ref (ad (10, i, 0)))]) S.1 S.2.1 dX5_beginAnew_15 hl (k := 0) rfl (by decide) (by decide) rfl (fun ls hl => ?_)
  refine lv_goto (tgt := 2) S.1 S.2.1 dX5_beginAnew_18 (by decide) ?_
  refine lv_iload_n S.1 S.2.1 dX5_beginAnew_2 rfl (lv_at hl 0 rfl) ?_
  refine lv_bipush (v := 6) S.1 S.2.1 dX5_beginAnew_3 (by decide) ?_
  refine lv_icmp_ge (tgt := 21) S.1 S.2.1 dX5_beginAnew_5 (by decide) (fun h9 => absurd h9 (by decide)) (fun _ => ?_)
  refine lv_aload_n S.1 S.2.1 dX5_beginAnew_8 rfl (lv_at hl 1 rfl) ?_
  refine hm_get (k := 4) S hE hG h_6 rfl rfl hi_X50 (by decide) hb_106 rfl rfl dX5_beginAnew_9 ?_
  refine lv_iload_n S.1 S.2.1 dX5_beginAnew_12 rfl (lv_at hl 0 rfl) ?_
  refine lv_iconst (v := 0) S.1 S.2.1 dX5_beginAnew_13 (by decide) ?_
  refine hm_iast2 (j := 2) (x := 0) S hE hG h_7 rfl (by unfold vp_in; decide) (by decide) dX5_beginAnew_14 (fun H locs hG => ?_)
  obtain ⟨M_9, eM_9⟩ : ∃ z, z = hm_up M_5 (11, i, 0) (hm_ia g 6 (upd (upd (upd (sPr s0) 0 0) 1 0) 2 0)) := ⟨_, rfl⟩
  rw [← eM_9] at hG
  have h_10 : M_9 (10, i, 0) = some (.inr (6, [.int (nI i), .int (sKi s0), .int (sMe s0), .int (sPl s0), .ref (ad (11, i, 0)), .ref (ad (12, i, 0)), .int (nI (sLa s0)), .int (nI (sHe s0))])) := by rw [eM_9]; exact (hm_up_n (by simp)).trans h_6
  have h_11 : M_9 (11, i, 0) = some (hm_ia g 6 (upd (upd (upd (sPr s0) 0 0) 1 0) 2 0)) := by rw [eM_9]; exact hm_up_s
  have h_12 : M_9 (12, i, 0) = some (hm_ra g 4 13 (rowsA ad i)) := by rw [eM_9]; exact (hm_up_n (by simp)).trans h_8
  refine lv_iinc (v := 3) (lv' := [(1, .int 3), (0, .ref (ad (10, i, 0)))]) S.1 S.2.1 dX5_beginAnew_15 hl (k := 0) rfl (by decide) (by decide) rfl (fun ls hl => ?_)
  refine lv_goto (tgt := 2) S.1 S.2.1 dX5_beginAnew_18 (by decide) ?_
  refine lv_iload_n S.1 S.2.1 dX5_beginAnew_2 rfl (lv_at hl 0 rfl) ?_
  refine lv_bipush (v := 6) S.1 S.2.1 dX5_beginAnew_3 (by decide) ?_
  refine lv_icmp_ge (tgt := 21) S.1 S.2.1 dX5_beginAnew_5 (by decide) (fun h9 => absurd h9 (by decide)) (fun _ => ?_)
  refine lv_aload_n S.1 S.2.1 dX5_beginAnew_8 rfl (lv_at hl 1 rfl) ?_
  refine hm_get (k := 4) S hE hG h_10 rfl rfl hi_X50 (by decide) hb_106 rfl rfl dX5_beginAnew_9 ?_
  refine lv_iload_n S.1 S.2.1 dX5_beginAnew_12 rfl (lv_at hl 0 rfl) ?_
  refine lv_iconst (v := 0) S.1 S.2.1 dX5_beginAnew_13 (by decide) ?_
  refine hm_iast2 (j := 3) (x := 0) S hE hG h_11 rfl (by unfold vp_in; decide) (by decide) dX5_beginAnew_14 (fun H locs hG => ?_)
  obtain ⟨M_13, eM_13⟩ : ∃ z, z = hm_up M_9 (11, i, 0) (hm_ia g 6 (upd (upd (upd (upd (sPr s0) 0 0) 1 0) 2 0) 3 0)) := ⟨_, rfl⟩
  rw [← eM_13] at hG
  have h_14 : M_13 (10, i, 0) = some (.inr (6, [.int (nI i), .int (sKi s0), .int (sMe s0), .int (sPl s0), .ref (ad (11, i, 0)), .ref (ad (12, i, 0)), .int (nI (sLa s0)), .int (nI (sHe s0))])) := by rw [eM_13]; exact (hm_up_n (by simp)).trans h_10
  have h_15 : M_13 (11, i, 0) = some (hm_ia g 6 (upd (upd (upd (upd (sPr s0) 0 0) 1 0) 2 0) 3 0)) := by rw [eM_13]; exact hm_up_s
  have h_16 : M_13 (12, i, 0) = some (hm_ra g 4 13 (rowsA ad i)) := by rw [eM_13]; exact (hm_up_n (by simp)).trans h_12
  refine lv_iinc (v := 4) (lv' := [(1, .int 4), (0, .ref (ad (10, i, 0)))]) S.1 S.2.1 dX5_beginAnew_15 hl (k := 0) rfl (by decide) (by decide) rfl (fun ls hl => ?_)
  refine lv_goto (tgt := 2) S.1 S.2.1 dX5_beginAnew_18 (by decide) ?_
  refine lv_iload_n S.1 S.2.1 dX5_beginAnew_2 rfl (lv_at hl 0 rfl) ?_
  refine lv_bipush (v := 6) S.1 S.2.1 dX5_beginAnew_3 (by decide) ?_
  refine lv_icmp_ge (tgt := 21) S.1 S.2.1 dX5_beginAnew_5 (by decide) (fun h9 => absurd h9 (by decide)) (fun _ => ?_)
  refine lv_aload_n S.1 S.2.1 dX5_beginAnew_8 rfl (lv_at hl 1 rfl) ?_
  refine hm_get (k := 4) S hE hG h_14 rfl rfl hi_X50 (by decide) hb_106 rfl rfl dX5_beginAnew_9 ?_
  refine lv_iload_n S.1 S.2.1 dX5_beginAnew_12 rfl (lv_at hl 0 rfl) ?_
  refine lv_iconst (v := 0) S.1 S.2.1 dX5_beginAnew_13 (by decide) ?_
  refine hm_iast2 (j := 4) (x := 0) S hE hG h_15 rfl (by unfold vp_in; decide) (by decide) dX5_beginAnew_14 (fun H locs hG => ?_)
  obtain ⟨M_17, eM_17⟩ : ∃ z, z = hm_up M_13 (11, i, 0) (hm_ia g 6 (upd (upd (upd (upd (upd (sPr s0) 0 0) 1 0) 2 0) 3 0) 4 0)) := ⟨_, rfl⟩
  rw [← eM_17] at hG
  have h_18 : M_17 (10, i, 0) = some (.inr (6, [.int (nI i), .int (sKi s0), .int (sMe s0), .int (sPl s0), .ref (ad (11, i, 0)), .ref (ad (12, i, 0)), .int (nI (sLa s0)), .int (nI (sHe s0))])) := by rw [eM_17]; exact (hm_up_n (by simp)).trans h_14
  have h_19 : M_17 (11, i, 0) = some (hm_ia g 6 (upd (upd (upd (upd (upd (sPr s0) 0 0) 1 0) 2 0) 3 0) 4 0)) := by rw [eM_17]; exact hm_up_s
  have h_20 : M_17 (12, i, 0) = some (hm_ra g 4 13 (rowsA ad i)) := by rw [eM_17]; exact (hm_up_n (by simp)).trans h_16
  refine lv_iinc (v := 5) (lv' := [(1, .int 5), (0, .ref (ad (10, i, 0)))]) S.1 S.2.1 dX5_beginAnew_15 hl (k := 0) rfl (by decide) (by decide) rfl (fun ls hl => ?_)
  refine lv_goto (tgt := 2) S.1 S.2.1 dX5_beginAnew_18 (by decide) ?_
  refine lv_iload_n S.1 S.2.1 dX5_beginAnew_2 rfl (lv_at hl 0 rfl) ?_
  refine lv_bipush (v := 6) S.1 S.2.1 dX5_beginAnew_3 (by decide) ?_
  refine lv_icmp_ge (tgt := 21) S.1 S.2.1 dX5_beginAnew_5 (by decide) (fun h9 => absurd h9 (by decide)) (fun _ => ?_)
  refine lv_aload_n S.1 S.2.1 dX5_beginAnew_8 rfl (lv_at hl 1 rfl) ?_
  refine hm_get (k := 4) S hE hG h_18 rfl rfl hi_X50 (by decide) hb_106 rfl rfl dX5_beginAnew_9 ?_
  refine lv_iload_n S.1 S.2.1 dX5_beginAnew_12 rfl (lv_at hl 0 rfl) ?_
  refine lv_iconst (v := 0) S.1 S.2.1 dX5_beginAnew_13 (by decide) ?_
  refine hm_iast2 (j := 5) (x := 0) S hE hG h_19 rfl (by unfold vp_in; decide) (by decide) dX5_beginAnew_14 (fun H locs hG => ?_)
  obtain ⟨M_21, eM_21⟩ : ∃ z, z = hm_up M_17 (11, i, 0) (hm_ia g 6 (upd (upd (upd (upd (upd (upd (sPr s0) 0 0) 1 0) 2 0) 3 0) 4 0) 5 0)) := ⟨_, rfl⟩
  rw [← eM_21] at hG
  have h_22 : M_21 (10, i, 0) = some (.inr (6, [.int (nI i), .int (sKi s0), .int (sMe s0), .int (sPl s0), .ref (ad (11, i, 0)), .ref (ad (12, i, 0)), .int (nI (sLa s0)), .int (nI (sHe s0))])) := by rw [eM_21]; exact (hm_up_n (by simp)).trans h_18
  have h_23 : M_21 (11, i, 0) = some (hm_ia g 6 (upd (upd (upd (upd (upd (upd (sPr s0) 0 0) 1 0) 2 0) 3 0) 4 0) 5 0)) := by rw [eM_21]; exact hm_up_s
  have h_24 : M_21 (12, i, 0) = some (hm_ra g 4 13 (rowsA ad i)) := by rw [eM_21]; exact (hm_up_n (by simp)).trans h_20
  refine lv_iinc (v := 6) (lv' := [(1, .int 6), (0, .ref (ad (10, i, 0)))]) S.1 S.2.1 dX5_beginAnew_15 hl (k := 0) rfl (by decide) (by decide) rfl (fun ls hl => ?_)
  refine lv_goto (tgt := 2) S.1 S.2.1 dX5_beginAnew_18 (by decide) ?_
  refine lv_iload_n S.1 S.2.1 dX5_beginAnew_2 rfl (lv_at hl 0 rfl) ?_
  refine lv_bipush (v := 6) S.1 S.2.1 dX5_beginAnew_3 (by decide) ?_
  refine lv_icmp_ge (tgt := 21) S.1 S.2.1 dX5_beginAnew_5 (by decide) (fun _ => ?_) (fun h9 => absurd (by decide) h9)
  exact hm_vret S hG hr hlk (⟨rfl, rfl, by simp [hm_up_up, zeroP, *]⟩) (Nat.le_of_ble_eq_true rfl) (Nat.le_of_ble_eq_true rfl) dX5_beginAnew_21

abbrev rm_X5_keepSample : Room := { frames := 1, cells := 0, slots := 0, locals := 60 }
set_option maxHeartbeats 4000000 in
set_option maxRecDepth 100000 in
theorem c_X5_keepSample (l : Launch) (g : GV) (ad : AD) (M : CT) (i : Nat) (s0 : SeD) (hs : hasSe g ad M i s0) : hm_Met l yX5_keepSample cX5_keepSample 1 none rm_X5_keepSample g ad M [.ref (ad (10, i, 0))] (hm_pU ad (keepM g ad M i s0) none) := by
  refine hm_start (own := RX5) (by decide) rfl (Nat.le_of_ble_eq_true rfl) ?_
  intro p e s m args below meth c S hr hlk hnm hE hG ls hl
  have hl : lv_has ls 1 [(0, .ref (ad (10, i, 0)))] := hl
  obtain ⟨h10, h11, h12, h13, hla, hhe, hi⟩ := id hs
  refine lv_aload_n S.1 S.2.1 dX5_keepSample_0 rfl (lv_at hl 0 rfl) ?_
  refine lv_aload_n S.1 S.2.1 dX5_keepSample_1 rfl (lv_at hl 0 rfl) ?_
  refine hm_get (k := 6) S hE hG h10 rfl rfl hi_X50 (by decide) hb_109 rfl rfl dX5_keepSample_2 ?_
  refine lv_iconst (v := 1) S.1 S.2.1 dX5_keepSample_5 (by decide) ?_
  refine lv_iadd S.1 S.2.1 dX5_keepSample_6 ?_
  refine hm_top (z := nI (sLa s0 + 1)) (nI_1 _) ?_
  refine lv_bipush (v := 13) S.1 S.2.1 dX5_keepSample_7 (by decide) ?_
  refine lv_irem S.1 S.2.1 dX5_keepSample_9 (by decide) ?_
  refine hm_top (z := nI (kpLa s0)) (hm_rem13 (by omega)) ?_
  refine hm_put (k := 6) (fs' := [.int (nI i), .int (sKi s0), .int (sMe s0), .int (sPl s0), .ref (ad (11, i, 0)), .ref (ad (12, i, 0)), .int (nI (kpLa s0)), .int (nI (sHe s0))]) S hE hG h10 rfl rfl hi_X50 tyX5_ok nmX5 (by decide) hb_109 rfl rfl (by rfl) (by rfl) (Nat.le_of_ble_eq_true rfl) rfl dX5_keepSample_10 (fun H locs hG => ?_)
  obtain ⟨M_1, eM_1⟩ : ∃ z, z = hm_up M (10, i, 0) (.inr (6, [.int (nI i), .int (sKi s0), .int (sMe s0), .int (sPl s0), .ref (ad (11, i, 0)), .ref (ad (12, i, 0)), .int (nI (kpLa s0)), .int (nI (sHe s0))])) := ⟨_, rfl⟩
  rw [← eM_1] at hG
  have h_2 : M_1 (10, i, 0) = some (.inr (6, [.int (nI i), .int (sKi s0), .int (sMe s0), .int (sPl s0), .ref (ad (11, i, 0)), .ref (ad (12, i, 0)), .int (nI (kpLa s0)), .int (nI (sHe s0))])) := by rw [eM_1]; exact hm_up_s
  have h_3 : M_1 (11, i, 0) = some (hm_ia g 6 (sPr s0)) := by rw [eM_1]; exact (hm_up_n (by simp)).trans h11
  have h_4 : M_1 (12, i, 0) = some (hm_ra g 4 13 (rowsA ad i)) := by rw [eM_1]; exact (hm_up_n (by simp)).trans h12
  refine lv_aload_n S.1 S.2.1 dX5_keepSample_13 rfl (lv_at hl 0 rfl) ?_
  refine lv_aload_n S.1 S.2.1 dX5_keepSample_14 rfl (lv_at hl 0 rfl) ?_
  refine hm_get (k := 7) S hE hG h_2 rfl rfl hi_X50 (by decide) hb_110 rfl rfl dX5_keepSample_15 ?_
  refine lv_iconst (v := 1) S.1 S.2.1 dX5_keepSample_18 (by decide) ?_
  refine lv_iadd S.1 S.2.1 dX5_keepSample_19 ?_
  refine hm_top (z := nI (sHe s0 + 1)) (nI_1 _) ?_
  refine lv_bipush (v := 13) S.1 S.2.1 dX5_keepSample_20 (by decide) ?_
  refine hm_min (z := nI (kpHe s0)) S hb_372 hb_4 hb_5 hb_6 hl.1 (Nat.le_of_ble_eq_true rfl) (Nat.le_of_ble_eq_true rfl) (Nat.le_of_ble_eq_true rfl) (Nat.le_of_ble_eq_true rfl) (hm_min13 _ hhe) dX5_keepSample_22 ?_
  refine hm_put (k := 7) (fs' := [.int (nI i), .int (sKi s0), .int (sMe s0), .int (sPl s0), .ref (ad (11, i, 0)), .ref (ad (12, i, 0)), .int (nI (kpLa s0)), .int (nI (kpHe s0))]) S hE hG h_2 rfl rfl hi_X50 tyX5_ok nmX5 (by decide) hb_110 rfl rfl (by rfl) (by rfl) (Nat.le_of_ble_eq_true rfl) rfl dX5_keepSample_25 (fun H locs hG => ?_)
  obtain ⟨M_5, eM_5⟩ : ∃ z, z = hm_up M_1 (10, i, 0) (.inr (6, [.int (nI i), .int (sKi s0), .int (sMe s0), .int (sPl s0), .ref (ad (11, i, 0)), .ref (ad (12, i, 0)), .int (nI (kpLa s0)), .int (nI (kpHe s0))])) := ⟨_, rfl⟩
  rw [← eM_5] at hG
  have h_6 : M_5 (10, i, 0) = some (.inr (6, [.int (nI i), .int (sKi s0), .int (sMe s0), .int (sPl s0), .ref (ad (11, i, 0)), .ref (ad (12, i, 0)), .int (nI (kpLa s0)), .int (nI (kpHe s0))])) := by rw [eM_5]; exact hm_up_s
  have h_7 : M_5 (11, i, 0) = some (hm_ia g 6 (sPr s0)) := by rw [eM_5]; exact (hm_up_n (by simp)).trans h_3
  have h_8 : M_5 (12, i, 0) = some (hm_ra g 4 13 (rowsA ad i)) := by rw [eM_5]; exact (hm_up_n (by simp)).trans h_4
  refine lv_aload_n S.1 S.2.1 dX5_keepSample_28 rfl (lv_at hl 0 rfl) ?_
  refine hm_get (k := 4) S hE hG h_6 rfl rfl hi_X50 (by decide) hb_106 rfl rfl dX5_keepSample_29 ?_
  refine lv_iconst (v := 0) S.1 S.2.1 dX5_keepSample_32 (by decide) ?_
  refine lv_aload_n S.1 S.2.1 dX5_keepSample_33 rfl (lv_at hl 0 rfl) ?_
  refine hm_get (k := 5) S hE hG h_6 rfl rfl hi_X50 (by decide) hb_108 rfl rfl dX5_keepSample_34 ?_
  refine lv_aload_n S.1 S.2.1 dX5_keepSample_37 rfl (lv_at hl 0 rfl) ?_
  refine hm_get (k := 6) S hE hG h_6 rfl rfl hi_X50 (by decide) hb_109 rfl rfl dX5_keepSample_38 ?_
  have hkl : kpLa s0 < 13 := Nat.mod_lt _ (by decide)
  have hrw := h13 (kpLa s0) hkl
  have hr2 : M_5 (13, i, kpLa s0) = some (hm_ia g 6 (sRo s0 (kpLa s0))) := by subst_vars; simp only [hm_up_up]; exact (hm_up_n (by simp)).trans hrw
  refine hm_aldA (q := (ad (13, i, kpLa s0))) S hE hG h_8 rfl (vp_in_nI hkl (by decide)) (by rw [nI_clamp (Nat.lt_trans hkl (by decide))]; exact if_pos hkl) dX5_keepSample_41 ?_
  refine lv_iconst (v := 0) S.1 S.2.1 dX5_keepSample_42 (by decide) ?_
  refine lv_bipush (v := 6) S.1 S.2.1 dX5_keepSample_43 (by decide) ?_
  refine hm_copy S hE hG hb_411 hb_161 hb_162 hb_163 hl.1 h_7 rfl hr2 rfl (by decide) (by decide) (by decide) (by decide) (by decide) (Nat.le_of_ble_eq_true rfl) (by decide +kernel) dX5_keepSample_45 (fun H locs hG => ?_)
  obtain ⟨M_9, eM_9⟩ : ∃ z, z = hm_up M_5 (13, i, kpLa s0) (hm_ia g 6 (va_cpy (sPr s0) (sRo s0 (kpLa s0)) (0 : Int32).toNatClampNeg (0 : Int32).toNatClampNeg (6 : Int32).toNatClampNeg)) := ⟨_, rfl⟩
  rw [← eM_9] at hG
  have h_10 : M_9 (10, i, 0) = some (.inr (6, [.int (nI i), .int (sKi s0), .int (sMe s0), .int (sPl s0), .ref (ad (11, i, 0)), .ref (ad (12, i, 0)), .int (nI (kpLa s0)), .int (nI (kpHe s0))])) := by rw [eM_9]; exact (hm_up_n (by simp)).trans h_6
  have h_11 : M_9 (11, i, 0) = some (hm_ia g 6 (sPr s0)) := by rw [eM_9]; exact (hm_up_n (by simp)).trans h_7
  have h_12 : M_9 (12, i, 0) = some (hm_ra g 4 13 (rowsA ad i)) := by rw [eM_9]; exact (hm_up_n (by simp)).trans h_8
  have h_13 : M_9 (13, i, kpLa s0) = some (hm_ia g 6 (va_cpy (sPr s0) (sRo s0 (kpLa s0)) (0 : Int32).toNatClampNeg (0 : Int32).toNatClampNeg (6 : Int32).toNatClampNeg)) := by rw [eM_9]; exact hm_up_s
  exact hm_vret S hG hr hlk (⟨rfl, rfl, by subst_vars; simp only [hm_up_up]; rfl⟩) (Nat.le_of_ble_eq_true rfl) (Nat.le_of_ble_eq_true rfl) dX5_keepSample_48
end
section
theorem hm_in0 {k b : Nat} (h : k ≤ b) (hb : b < 2 ^ 31) : bI (decide (nI k < 0) || decide (nI b < nI k)) = 0 := by
  show bI (decide (nI k < nI 0) || decide (nI b < nI k)) = 0
  rw [decide_eq_false (nI_nlt (a := k) (b := 0) (Nat.zero_le _) (by omega)), decide_eq_false (nI_nlt h hb)]; rfl
theorem hm_in0' {k : Int32} {lo hi : Int32} (h1 : ¬ k < lo) (h2 : ¬ hi < k) : bI (decide (k < lo) || decide (hi < k)) = 0 := by
  rw [decide_eq_false h1, decide_eq_false h2]; rfl
def hasRu (g : GV) (ad : AD) (M : CT) (r : Nat) (u : RuD) (al : Nat → AlD) : Prop := M (20, r, 0) = some (ruE ad r u) ∧ M (21, r, 0) = some (hm_ra g 2 12 (alsA ad r)) ∧ (∀ k, k < 12 → M (22, r, k) = some (alE (al k))) ∧ r < 6 ∧ rLo u < 9 ∧ rW u ≤ 12 ∧ rWa u < 3
def caL (al : Nat → AlD) (le : Int32) : Nat → Nat
  | 0 => 0
  | k + 1 => if (al k).1 < le then caL al le k else caL al le k + 1
def caF (al : Nat → AlD) (le : Int32) : Nat := caL al le 12
def koL (al : Nat → AlD) (pl : Nat) : Nat → Nat → Nat → Int32
  | 0, _, _ => -1
  | n + 1, k, ah => if (al k).1 = 0 then koL al pl n (k + 1) ah else if ah = pl then nI k else koL al pl n (k + 1) (ah + 1)
def koF (al : Nat → AlD) (pl : Nat) : Int32 := koL al pl 12 0 0
/-- a group: loud, told, toldAt, wasLoud -/
abbrev GrD : Type := (Nat → Int32) × (Nat → Int32) × Int32 × Bool
def gLo (d : GrD) : Nat → Int32 := d.1
def gTo (d : GrD) : Nat → Int32 := d.2.1
def gAt (d : GrD) : Int32 := d.2.2.1
def gWa (d : GrD) : Bool := d.2.2.2
abbrev grE (ad : AD) (j : Nat) (d : GrD) : va_E := .inr (2, [.ref (ad (61, j, 0)), .ref (ad (62, j, 0)), .int (gAt d), .int (bI (gWa d))])
def hasGr (g : GV) (ad : AD) (M : CT) (j : Nat) (d : GrD) : Prop := M (60, j, 0) = some (grE ad j d) ∧ M (61, j, 0) = some (hm_ia g 6 (gLo d)) ∧ M (62, j, 0) = some (hm_ia g 6 (gTo d))
def bc1 (x : Int32) : Int32 := x - ((x.toUInt32 >>> ((1 : Int32).toUInt32 &&& Int32.toUInt32 31)).toInt32 &&& 1431655765)
def bc2 (x : Int32) : Int32 := (x &&& 858993459) + ((x.toUInt32 >>> ((2 : Int32).toUInt32 &&& Int32.toUInt32 31)).toInt32 &&& 858993459)
def bc3 (x : Int32) : Int32 := (x + (x.toUInt32 >>> ((4 : Int32).toUInt32 &&& Int32.toUInt32 31)).toInt32) &&& 252645135
def bc4 (x : Int32) : Int32 := x + (x.toUInt32 >>> ((8 : Int32).toUInt32 &&& Int32.toUInt32 31)).toInt32
def bc5 (x : Int32) : Int32 := x + (x.toUInt32 >>> ((16 : Int32).toUInt32 &&& Int32.toUInt32 31)).toInt32
def bcF (x : Int32) : Int32 := bc5 (bc4 (bc3 (bc2 (bc1 x)))) &&& 63
def cgF (f : Nat → Int32) : Int32 := 0 + bcF (f 0) + bcF (f 1) + bcF (f 2) + bcF (f 3) + bcF (f 4) + bcF (f 5)
def nzF (f : Nat → Int32) : Bool := !(decide (f 0 = 0) && decide (f 1 = 0) && decide (f 2 = 0) && decide (f 3 = 0) && decide (f 4 = 0) && decide (f 5 = 0))
def chF (f h : Nat → Int32) : Bool := !(decide (f 0 = h 0) && decide (f 1 = h 1) && decide (f 2 = h 2) && decide (f 3 = h 3) && decide (f 4 = h 4) && decide (f 5 = h 5))
def ilF (d : GrD) : Bool := decide (0 < cgF (gLo d))
def dueF (d : GrD) (clk rep : Int32) : Bool := if ilF d then (if nzF (gTo d) then decide (rep ≤ clk - gAt d) || (decide (3 ≤ clk - gAt d) && chF (gTo d) (gLo d)) else gWa d) else nzF (gTo d)
def mkF (d : GrD) (clk : Int32) : GrD := (gLo d, va_cpy (gLo d) (gTo d) 0 0 6, clk, gWa d)
def fgF (d : GrD) : GrD := (gLo d, zeroP (gTo d), gAt d, false)
def clF (d : GrD) : GrD := (zeroP (gLo d), gTo d, gAt d, gWa d)
def alF (d : GrD) (r k : Nat) : GrD := (upd (gLo d) r (gLo d r ||| 1 <<< (nI k &&& 31)), gTo d, gAt d, gWa d)
/-- the log: rows, latest, held, ever -/
abbrev LgD : Type := (Nat → Nat → Int32) × Nat × Nat × Nat
def lRo (d : LgD) : Nat → Nat → Int32 := d.1
def lLa (d : LgD) : Nat := d.2.1
def lHe (d : LgD) : Nat := d.2.2.1
def lEv (d : LgD) : Nat := d.2.2.2
def rows30 (ad : AD) : Nat → Option Nat := fun j => if j < 30 then some (ad (51, j, 0)) else none
abbrev lgE (ad : AD) (d : LgD) : va_E := .inr (4, [.ref (ad (9, 0, 0)), .int (nI (lLa d)), .int (nI (lHe d)), .int (nI (lEv d))])
def hasLg (g : GV) (ad : AD) (M : CT) (d : LgD) : Prop := M (8, 0, 0) = some (lgE ad d) ∧ M (9, 0, 0) = some (hm_ra g 4 30 (rows30 ad)) ∧ (∀ j, j < 30 → M (51, j, 0) = some (hm_ia g 4 (lRo d j))) ∧ lLa d < 30 ∧ lHe d ≤ 30
def klLa (d : LgD) : Nat := (lLa d + 1) % 30
def klHe (d : LgD) : Nat := min (lHe d + 1) 30
def klRow (d : LgD) (a b c e : Int32) : Nat → Int32 := upd (upd (upd (upd (lRo d (klLa d)) 0 a) 1 b) 2 c) 3 e
def klF (d : LgD) (a b c e : Int32) : LgD := (fun j => if j = klLa d then klRow d a b c e else lRo d j, klLa d, klHe d, lEv d + 1)
def klM (g : GV) (ad : AD) (M : CT) (d : LgD) (a b c e : Int32) : CT := hm_up (hm_up M (8, 0, 0) (lgE ad (klF d a b c e))) (51, klLa d, 0) (hm_ia g 4 (klRow d a b c e))
def foF (d : LgD) (back what : Nat) : Int32 := lRo d ((lLa d + 30 - back) % 30) what
theorem kl_has {g : GV} {ad : AD} {M : CT} {d : LgD} {a b c e : Int32} (hs : hasLg g ad M d) : hasLg g ad (klM g ad M d a b c e) (klF d a b c e) := by
  obtain ⟨h1, h2, h3, hla, hhe⟩ := hs
  refine ⟨?_, ?_, ?_, ?_, ?_⟩
  · rw [klM, hm_up_n (by simp), hm_up_s]
  · rw [klM, hm_up_n (by simp), hm_up_n (by simp), h2]
  · intro j hj
    by_cases h : j = klLa d
    · subst h
      rw [klM, hm_up_s]
      show some (hm_ia g 4 _) = some (hm_ia g 4 ((fun j => if j = klLa d then klRow d a b c e else lRo d j) (klLa d)))
      simp
    · rw [klM, hm_up_n (by simp [h]), hm_up_n (by simp), h3 j hj]
      show some (hm_ia g 4 _) = some (hm_ia g 4 ((fun j => if j = klLa d then klRow d a b c e else lRo d j) j))
      simp [h]
  · exact Nat.mod_lt _ (by decide)
  · show min _ _ ≤ 30; omega
theorem hm_min30 (a : Nat) (h : a ≤ 30) : (if (30 : Int32) < nI (a + 1) then (30 : Int32) else nI (a + 1)) = nI (min (a + 1) 30) := by
  rcases Nat.lt_or_ge 30 (a + 1) with h1 | h1
  · show (if nI 30 < nI (a + 1) then nI 30 else nI (a + 1)) = _
    rw [if_pos (nI_lt (a := 30) h1 (by omega)), Nat.min_eq_right (by omega)]
  · show (if nI 30 < nI (a + 1) then nI 30 else nI (a + 1)) = _
    rw [if_neg (nI_nlt (a := 30) h1 (by omega)), Nat.min_eq_left h1]
theorem hm_sub30 {x y : Nat} (h : y ≤ x + 30) : nI x - nI y + 30 = nI (x + 30 - y) := by
  have h1 : nI x + 30 = nI (x + 30) := nI_add x 30
  rw [← pk_sub h, ← h1]
  simp only [Int32.sub_eq_add_neg]
  rw [Int32.add_assoc, Int32.add_comm (-nI y) 30, ← Int32.add_assoc]

abbrev rm_X4_takes : Room := { frames := 0, cells := 0, slots := 0, locals := 0 }
set_option maxHeartbeats 4000000 in
set_option maxRecDepth 100000 in
theorem c_X4_takes (l : Launch) (g : GV) (ad : AD) (M : CT) (i : Nat) (s0 : SeD) (hs : hasSe g ad M i s0) (r : Nat) (u : RuD) (al : Nat → AlD) (hu : hasRu g ad M r u al) (key : Nat) (hk : key < 12) : hm_Met l yX4_takes cX4_takes 3 (some .boolean) rm_X4_takes g ad M [.ref (ad (20, r, 0)), .ref (ad (10, i, 0)), .int (nI key)] (hm_pU ad M (some (.int (bI (tkF u i s0 key))))) := by
  refine hm_start (own := RX4) (by decide) rfl (Nat.le_of_ble_eq_true rfl) ?_
  intro p e s m args below meth c S hr hlk hnm hE hG ls hl
  have hl : lv_has ls 3 [(0, .ref (ad (20, r, 0))), (1, .ref (ad (10, i, 0))), (2, .int (nI key))] := hl
  obtain ⟨h10, h11, h12, h13, hla, hhe, hi⟩ := id hs
  obtain ⟨h20, h21, h22, hr6, hlo, hw, hwa⟩ := id hu
  refine lv_aload_n S.1 S.2.1 dX4_takes_0 rfl (lv_at hl 1 rfl) ?_
  refine hm_get (k := 2) S hE hG h10 rfl rfl hi_X50 (by decide) hb_347 rfl rfl dX4_takes_1 ?_
  refine lv_aload_n S.1 S.2.1 dX4_takes_4 rfl (lv_at hl 0 rfl) ?_
  refine hm_get (k := 1) S hE hG h20 rfl rfl hi_X40 (by decide) hb_191 rfl rfl dX4_takes_5 ?_
  refine lv_icmp_eq (tgt := 13) S.1 S.2.1 dX4_takes_8 (by decide) (fun c8 => ?_) (fun c8 => ?_)
  · skip
    refine lv_aload_n S.1 S.2.1 dX4_takes_13 rfl (lv_at hl 0 rfl) ?_
    refine hm_get (k := 4) S hE hG h20 rfl rfl hi_X40 (by decide) hb_194 rfl rfl dX4_takes_14 ?_
    have e8 : sMe s0 = rMe u := by simpa using c8
    rcases (show rWa u = 0 ∨ rWa u = 1 ∨ rWa u = 2 by omega) with ew | ew | ew
    · skip
      refine hm_top (z := 0) (by rw [ew]; rfl) ?_
      refine lv_lookup (off := 27) (tgt := 44) S.1 S.2.1 dX4_takes_17 (by decide) (by decide) (by decide) ?_
      refine lv_aload_n S.1 S.2.1 dX4_takes_44 rfl (lv_at hl 1 rfl) ?_
      refine hm_get (k := 0) S hE hG h10 rfl rfl hi_X50 (by decide) hb_348 rfl rfl dX4_takes_45 ?_
      refine lv_iload_n S.1 S.2.1 dX4_takes_48 rfl (lv_at hl 2 rfl) ?_
      refine lv_icmp_ne (tgt := 56) S.1 S.2.1 dX4_takes_49 (by decide) (fun c49 => ?_) (fun c49 => ?_)
      · skip
        have e49 : ¬ i = key := fun h => c49 (by rw [h])
        refine lv_iconst (v := 0) S.1 S.2.1 dX4_takes_56 (by decide) ?_
        exact hm_zret S hG hr hlk (by decide) (⟨by simp_all [tkF, bI], rfl, rfl⟩) (Nat.le_of_ble_eq_true rfl) (Nat.le_of_ble_eq_true rfl) dX4_takes_57
      · skip
        have e49 : i = key := hm_eqI (by omega) (by omega) (by simpa using c49)
        refine lv_iconst (v := 1) S.1 S.2.1 dX4_takes_52 (by decide) ?_
        refine lv_goto (tgt := 57) S.1 S.2.1 dX4_takes_53 (by decide) ?_
        exact hm_zret S hG hr hlk (by decide) (⟨by simp_all [tkF, bI], rfl, rfl⟩) (Nat.le_of_ble_eq_true rfl) (Nat.le_of_ble_eq_true rfl) dX4_takes_57
    · skip
      refine hm_top (z := 1) (by rw [ew]; rfl) ?_
      refine lv_lookup (off := 41) (tgt := 58) S.1 S.2.1 dX4_takes_17 (by decide) (by decide) (by decide) ?_
      refine lv_aload_n S.1 S.2.1 dX4_takes_58 rfl (lv_at hl 1 rfl) ?_
      refine hm_get (k := 3) S hE hG h10 rfl rfl hi_X50 (by decide) hb_349 rfl rfl dX4_takes_59 ?_
      refine lv_iload_n S.1 S.2.1 dX4_takes_62 rfl (lv_at hl 2 rfl) ?_
      refine lv_icmp_ne (tgt := 70) S.1 S.2.1 dX4_takes_63 (by decide) (fun c63 => ?_) (fun c63 => ?_)
      · skip
        refine lv_iconst (v := 0) S.1 S.2.1 dX4_takes_70 (by decide) ?_
        exact hm_zret S hG hr hlk (by decide) (⟨by simp_all [tkF, bI], rfl, rfl⟩) (Nat.le_of_ble_eq_true rfl) (Nat.le_of_ble_eq_true rfl) dX4_takes_71
      · skip
        refine lv_iconst (v := 1) S.1 S.2.1 dX4_takes_66 (by decide) ?_
        refine lv_goto (tgt := 71) S.1 S.2.1 dX4_takes_67 (by decide) ?_
        exact hm_zret S hG hr hlk (by decide) (⟨by simp_all [tkF, bI], rfl, rfl⟩) (Nat.le_of_ble_eq_true rfl) (Nat.le_of_ble_eq_true rfl) dX4_takes_71
    · skip
      refine hm_top (z := 2) (by rw [ew]; rfl) ?_
      refine lv_lookup (off := 55) (tgt := 72) S.1 S.2.1 dX4_takes_17 (by decide) (by decide) (by decide) ?_
      refine lv_iload_n S.1 S.2.1 dX4_takes_72 rfl (lv_at hl 2 rfl) ?_
      refine lv_if_ne (tgt := 80) S.1 S.2.1 dX4_takes_73 (by decide) (fun c73 => ?_) (fun c73 => ?_)
      · skip
        have e73 : ¬ key = 0 := fun h => c73 (by rw [h]; rfl)
        refine lv_iconst (v := 0) S.1 S.2.1 dX4_takes_80 (by decide) ?_
        exact hm_zret S hG hr hlk (by decide) (⟨by simp_all [tkF, bI], rfl, rfl⟩) (Nat.le_of_ble_eq_true rfl) (Nat.le_of_ble_eq_true rfl) dX4_takes_81
      · skip
        have e73 : key = 0 := hm_eqI (b := 0) (by omega) (by omega) c73
        refine lv_iconst (v := 1) S.1 S.2.1 dX4_takes_76 (by decide) ?_
        refine lv_goto (tgt := 81) S.1 S.2.1 dX4_takes_77 (by decide) ?_
        exact hm_zret S hG hr hlk (by decide) (⟨by simp_all [tkF, bI], rfl, rfl⟩) (Nat.le_of_ble_eq_true rfl) (Nat.le_of_ble_eq_true rfl) dX4_takes_81
  · skip
    refine lv_iconst (v := 0) S.1 S.2.1 dX4_takes_11 (by decide) ?_
    exact hm_zret S hG hr hlk (by decide) (⟨by simp_all [tkF, bI], rfl, rfl⟩) (Nat.le_of_ble_eq_true rfl) (Nat.le_of_ble_eq_true rfl) dX4_takes_12

abbrev rm_X4_isBeyond : Room := { frames := 0, cells := 0, slots := 0, locals := 0 }
set_option maxHeartbeats 4000000 in
set_option maxRecDepth 100000 in
theorem c_X4_isBeyond (l : Launch) (g : GV) (ad : AD) (M : CT) (r : Nat) (u : RuD) (al : Nat → AlD) (hu : hasRu g ad M r u al) (v b : Int32) : hm_Met l yX4_isBeyond cX4_isBeyond 3 (some .boolean) rm_X4_isBeyond g ad M [.ref (ad (20, r, 0)), .int v, .int b] (hm_pU ad M (some (.int (bI (byF u v b))))) := by
  refine hm_start (own := RX4) (by decide) rfl (Nat.le_of_ble_eq_true rfl) ?_
  intro p e s m args below meth c S hr hlk hnm hE hG ls hl
  have hl : lv_has ls 3 [(0, .ref (ad (20, r, 0))), (1, .int v), (2, .int b)] := hl
  obtain ⟨h20, h21, h22, hr6, hlo, hw, hwa⟩ := id hu
  refine lv_aload_n S.1 S.2.1 dX4_isBeyond_0 rfl (lv_at hl 0 rfl) ?_
  refine hm_get (k := 5) S hE hG h20 rfl rfl hi_X40 (by decide) hb_390 rfl rfl dX4_isBeyond_1 ?_
  refine lv_if_eq (tgt := 20) S.1 S.2.1 dX4_isBeyond_4 (by decide) (fun c4 => ?_) (fun c4 => ?_)
  · skip
    have g0 : rAb u = false := bI_0.mp c4
    refine lv_iload_n S.1 S.2.1 dX4_isBeyond_20 rfl (lv_at hl 1 rfl) ?_
    refine lv_iload_n S.1 S.2.1 dX4_isBeyond_21 rfl (lv_at hl 2 rfl) ?_
    refine lv_icmp_ge (tgt := 29) S.1 S.2.1 dX4_isBeyond_22 (by decide) (fun c22 => ?_) (fun c22 => ?_)
    · skip
      have g9 : ¬ v < b := Int32.not_lt.mpr c22
      refine lv_iconst (v := 0) S.1 S.2.1 dX4_isBeyond_29 (by decide) ?_
      exact hm_zret S hG hr hlk (by decide) (⟨by simp [byF, bI, g0, *], rfl, rfl⟩) (Nat.le_of_ble_eq_true rfl) (Nat.le_of_ble_eq_true rfl) dX4_isBeyond_30
    · skip
      have g9 : v < b := Int32.not_le.mp c22
      refine lv_iconst (v := 1) S.1 S.2.1 dX4_isBeyond_25 (by decide) ?_
      refine lv_goto (tgt := 30) S.1 S.2.1 dX4_isBeyond_26 (by decide) ?_
      exact hm_zret S hG hr hlk (by decide) (⟨by simp [byF, bI, g0, *], rfl, rfl⟩) (Nat.le_of_ble_eq_true rfl) (Nat.le_of_ble_eq_true rfl) dX4_isBeyond_30
  · skip
    have g0 : rAb u = true := bI_ne.mp c4
    refine lv_iload_n S.1 S.2.1 dX4_isBeyond_7 rfl (lv_at hl 1 rfl) ?_
    refine lv_iload_n S.1 S.2.1 dX4_isBeyond_8 rfl (lv_at hl 2 rfl) ?_
    refine lv_icmp_le (tgt := 16) S.1 S.2.1 dX4_isBeyond_9 (by decide) (fun c9 => ?_) (fun c9 => ?_)
    · skip
      have g9 : ¬ b < v := Int32.not_lt.mpr c9
      refine lv_iconst (v := 0) S.1 S.2.1 dX4_isBeyond_16 (by decide) ?_
      refine lv_goto (tgt := 30) S.1 S.2.1 dX4_isBeyond_17 (by decide) ?_
      exact hm_zret S hG hr hlk (by decide) (⟨by simp [byF, bI, g0, *], rfl, rfl⟩) (Nat.le_of_ble_eq_true rfl) (Nat.le_of_ble_eq_true rfl) dX4_isBeyond_30
    · skip
      have g9 : b < v := Int32.not_le.mp c9
      refine lv_iconst (v := 1) S.1 S.2.1 dX4_isBeyond_12 (by decide) ?_
      refine lv_goto (tgt := 30) S.1 S.2.1 dX4_isBeyond_13 (by decide) ?_
      exact hm_zret S hG hr hlk (by decide) (⟨by simp [byF, bI, g0, *], rfl, rfl⟩) (Nat.le_of_ble_eq_true rfl) (Nat.le_of_ble_eq_true rfl) dX4_isBeyond_30

abbrev rm_X4_alertOf : Room := { frames := 1, cells := 0, slots := 0, locals := 22 }
set_option maxHeartbeats 4000000 in
set_option maxRecDepth 100000 in
theorem c_X4_alertOf (l : Launch) (g : GV) (ad : AD) (M : CT) (r : Nat) (u : RuD) (al : Nat → AlD) (hu : hasRu g ad M r u al) (k : Nat) (hk : k < 12) : hm_Met l yX4_alertOf cX4_alertOf 2 (some (.object "HarbourlightMonitor$Alert")) rm_X4_alertOf g ad M [.ref (ad (20, r, 0)), .int (nI k)] (hm_pU ad M (some (.ref (ad (22, r, k))))) := by
  refine hm_start (own := RX4) (by decide) rfl (Nat.le_of_ble_eq_true rfl) ?_
  intro p e s m args below meth c S hr hlk hnm hE hG ls hl
  have hl : lv_has ls 2 [(0, .ref (ad (20, r, 0))), (1, .int (nI k))] := hl
  obtain ⟨h20, h21, h22, hr6, hlo, hw, hwa⟩ := id hu
  refine lv_iload_n S.1 S.2.1 dX4_alertOf_0 rfl (lv_at hl 1 rfl) ?_
  refine lv_iconst (v := 0) S.1 S.2.1 dX4_alertOf_1 (by decide) ?_
  refine lv_bipush (v := 11) S.1 S.2.1 dX4_alertOf_2 (by decide) ?_
  refine hm_uSN (As := [.int (nI k), .int 0, .int 11]) (rest := []) (st1 := [.int (bI (decide ((nI k) < 0) || decide (11 < (nI k))))]) S hE hG (c_X6_isOutside l g ad M (nI k) 0 11) hb_93 hb_2 hb_92 (List.mem_of_getElem? (i := 5) rfl) hd_X6_isOutside ⟨Nat.le_of_ble_eq_true rfl, Nat.le_of_ble_eq_true rfl⟩ rfl hl.1 rfl (Nat.le_of_ble_eq_true rfl) dX4_alertOf_4 ⟨Nat.le_of_ble_eq_true rfl, Nat.le_of_ble_eq_true rfl⟩ rfl (fun H locs hG => ?_)
  refine lv_if_eq (tgt := 14) S.1 S.2.1 dX4_alertOf_7 (by decide) (fun _ => ?_) (fun h9 => absurd (hm_in0 (b := 11) (by omega) (by decide)) h9)
  refine lv_aload_n S.1 S.2.1 dX4_alertOf_14 rfl (lv_at hl 0 rfl) ?_
  refine hm_get (k := 9) S hE hG h20 rfl rfl hi_X40 (by decide) hb_189 rfl rfl dX4_alertOf_15 ?_
  refine lv_iload_n S.1 S.2.1 dX4_alertOf_18 rfl (lv_at hl 1 rfl) ?_
  refine hm_aldq (q := (ad (22, r, k))) S hE hG h21 rfl rfl (vp_in_nI (n := k) hk (by decide)) (by rw [nI_clamp (Nat.lt_trans hk (by decide))]; exact if_pos hk) dX4_alertOf_19 ?_
  exact hm_aret S hG hr (Or.inl ⟨_, rfl⟩) hlk (⟨rfl, rfl, rfl⟩) (Nat.le_of_ble_eq_true rfl) (Nat.le_of_ble_eq_true rfl) dX4_alertOf_20

abbrev rm_X4_hasAlert : Room := { frames := 2, cells := 0, slots := 0, locals := 43 }
set_option maxHeartbeats 4000000 in
set_option maxRecDepth 100000 in
theorem c_X4_hasAlert (l : Launch) (g : GV) (ad : AD) (M : CT) (r : Nat) (u : RuD) (al : Nat → AlD) (hu : hasRu g ad M r u al) (k : Nat) (hk : k < 12) : hm_Met l yX4_hasAlert cX4_hasAlert 3 (some .boolean) rm_X4_hasAlert g ad M [.ref (ad (20, r, 0)), .int (nI k)] (hm_pU ad M (some (.int (bI (!decide ((al k).1 = 0)))))) := by
  refine hm_start (own := RX4) (by decide) rfl (Nat.le_of_ble_eq_true rfl) ?_
  intro p e s m args below meth c S hr hlk hnm hE hG ls hl
  have hl : lv_has ls 3 [(0, .ref (ad (20, r, 0))), (1, .int (nI k))] := hl
  obtain ⟨h20, h21, h22, hr6, hlo, hw, hwa⟩ := id hu
  refine lv_aload_n S.1 S.2.1 dX4_hasAlert_0 rfl (lv_at hl 0 rfl) ?_
  refine lv_iload_n S.1 S.2.1 dX4_hasAlert_1 rfl (lv_at hl 1 rfl) ?_
  refine hm_uV (As := [.int (nI k)]) (rest := []) (st1 := [.ref (ad (22, r, k))]) S hE hG (c_X4_alertOf l g ad M r u al hu k hk) (hm_gV hb_289 hb_290 hb_291 hb_170 hb_292) hd_X4_alertOf rfl h20 rfl rfl ⟨Nat.le_of_ble_eq_true rfl, Nat.le_of_ble_eq_true rfl⟩ rfl hl.1 rfl (Nat.le_of_ble_eq_true rfl) dX4_hasAlert_2 ⟨Nat.le_of_ble_eq_true rfl, Nat.le_of_ble_eq_true rfl⟩ rfl (fun H locs hG => ?_)
  refine lv_astore_n (lv' := [(2, .ref (ad (22, r, k))), (0, .ref (ad (20, r, 0))), (1, .int (nI k))]) S.1 S.2.1 dX4_hasAlert_5 rfl hl (by decide) rfl (fun ls hl => ?_)
  refine lv_aload_n S.1 S.2.1 dX4_hasAlert_6 rfl (lv_at hl 0 rfl) ?_
  refine lv_ifnull S.1 S.2.1 dX4_hasAlert_7 ?_
  refine lv_aload_n S.1 S.2.1 dX4_hasAlert_10 rfl (lv_at hl 0 rfl) ?_
  refine hm_get (k := 0) S hE hG (h22 k hk) rfl rfl hi_X00 (by decide) hb_275 rfl rfl dX4_hasAlert_11 ?_
  refine lv_if_eq (tgt := 21) S.1 S.2.1 dX4_hasAlert_14 (by decide) (fun c14 => ?_) (fun c14 => ?_)
  · skip
    refine lv_iconst (v := 0) S.1 S.2.1 dX4_hasAlert_21 (by decide) ?_
    exact hm_zret S hG hr hlk (by decide) (⟨by simp_all [bI], rfl, rfl⟩) (Nat.le_of_ble_eq_true rfl) (Nat.le_of_ble_eq_true rfl) dX4_hasAlert_22
  · skip
    refine lv_iconst (v := 1) S.1 S.2.1 dX4_hasAlert_17 (by decide) ?_
    refine lv_goto (tgt := 22) S.1 S.2.1 dX4_hasAlert_18 (by decide) ?_
    exact hm_zret S hG hr hlk (by decide) (⟨by simp_all [bI], rfl, rfl⟩) (Nat.le_of_ble_eq_true rfl) (Nat.le_of_ble_eq_true rfl) dX4_hasAlert_22

abbrev rm_X4_burns : Room := { frames := 2, cells := 0, slots := 0, locals := 43 }
set_option maxHeartbeats 4000000 in
set_option maxRecDepth 100000 in
theorem c_X4_burns (l : Launch) (g : GV) (ad : AD) (M : CT) (r : Nat) (u : RuD) (al : Nat → AlD) (hu : hasRu g ad M r u al) (k : Nat) (hk : k < 12) : hm_Met l yX4_burns cX4_burns 3 (some .boolean) rm_X4_burns g ad M [.ref (ad (20, r, 0)), .int (nI k)] (hm_pU ad M (some (.int (bI (decide ((al k).1 = 2)))))) := by
  refine hm_start (own := RX4) (by decide) rfl (Nat.le_of_ble_eq_true rfl) ?_
  intro p e s m args below meth c S hr hlk hnm hE hG ls hl
  have hl : lv_has ls 3 [(0, .ref (ad (20, r, 0))), (1, .int (nI k))] := hl
  obtain ⟨h20, h21, h22, hr6, hlo, hw, hwa⟩ := id hu
  refine lv_aload_n S.1 S.2.1 dX4_burns_0 rfl (lv_at hl 0 rfl) ?_
  refine lv_iload_n S.1 S.2.1 dX4_burns_1 rfl (lv_at hl 1 rfl) ?_
  refine hm_uV (As := [.int (nI k)]) (rest := []) (st1 := [.ref (ad (22, r, k))]) S hE hG (c_X4_alertOf l g ad M r u al hu k hk) (hm_gV hb_289 hb_290 hb_291 hb_170 hb_292) hd_X4_alertOf rfl h20 rfl rfl ⟨Nat.le_of_ble_eq_true rfl, Nat.le_of_ble_eq_true rfl⟩ rfl hl.1 rfl (Nat.le_of_ble_eq_true rfl) dX4_burns_2 ⟨Nat.le_of_ble_eq_true rfl, Nat.le_of_ble_eq_true rfl⟩ rfl (fun H locs hG => ?_)
  refine lv_astore_n (lv' := [(2, .ref (ad (22, r, k))), (0, .ref (ad (20, r, 0))), (1, .int (nI k))]) S.1 S.2.1 dX4_burns_5 rfl hl (by decide) rfl (fun ls hl => ?_)
  refine lv_aload_n S.1 S.2.1 dX4_burns_6 rfl (lv_at hl 0 rfl) ?_
  refine lv_ifnull S.1 S.2.1 dX4_burns_7 ?_
  refine lv_aload_n S.1 S.2.1 dX4_burns_10 rfl (lv_at hl 0 rfl) ?_
  refine hm_get (k := 0) S hE hG (h22 k hk) rfl rfl hi_X00 (by decide) hb_275 rfl rfl dX4_burns_11 ?_
  refine lv_iconst (v := 2) S.1 S.2.1 dX4_burns_14 (by decide) ?_
  refine lv_icmp_ne (tgt := 22) S.1 S.2.1 dX4_burns_15 (by decide) (fun c15 => ?_) (fun c15 => ?_)
  · skip
    refine lv_iconst (v := 0) S.1 S.2.1 dX4_burns_22 (by decide) ?_
    exact hm_zret S hG hr hlk (by decide) (⟨by simp_all [bI], rfl, rfl⟩) (Nat.le_of_ble_eq_true rfl) (Nat.le_of_ble_eq_true rfl) dX4_burns_23
  · skip
    refine lv_iconst (v := 1) S.1 S.2.1 dX4_burns_18 (by decide) ?_
    refine lv_goto (tgt := 23) S.1 S.2.1 dX4_burns_19 (by decide) ?_
    exact hm_zret S hG hr hlk (by decide) (⟨by simp_all [bI], rfl, rfl⟩) (Nat.le_of_ble_eq_true rfl) (Nat.le_of_ble_eq_true rfl) dX4_burns_23

abbrev rm_X4_countAlertsFrom : Room := { frames := 0, cells := 0, slots := 0, locals := 0 }
set_option maxHeartbeats 4000000 in
set_option maxRecDepth 100000 in
theorem c_X4_countAlertsFrom (l : Launch) (g : GV) (ad : AD) (M : CT) (r : Nat) (u : RuD) (al : Nat → AlD) (hu : hasRu g ad M r u al) (le : Int32) : hm_Met l yX4_countAlertsFrom cX4_countAlertsFrom 4 (some .int) rm_X4_countAlertsFrom g ad M [.ref (ad (20, r, 0)), .int le] (hm_pU ad M (some (.int (nI (caF al le))))) := by
  refine hm_start (own := RX4) (by decide) rfl (Nat.le_of_ble_eq_true rfl) ?_
  intro p e s m args below meth c S hr hlk hnm hE hG ls hl
  have hl : lv_has ls 4 [(0, .ref (ad (20, r, 0))), (1, .int le)] := hl
  obtain ⟨h20, h21, h22, hr6, hlo, hw, hwa⟩ := id hu
  refine lv_iconst (v := 0) S.1 S.2.1 dX4_countAlertsFrom_0 (by decide) ?_
  refine lv_istore_n (lv' := [(2, .int 0), (0, .ref (ad (20, r, 0))), (1, .int le)]) S.1 S.2.1 dX4_countAlertsFrom_1 rfl hl (by decide) rfl (fun ls hl => ?_)
  refine lv_iconst (v := 0) S.1 S.2.1 dX4_countAlertsFrom_2 (by decide) ?_
  refine lv_istore_n (lv' := [(3, .int 0), (2, .int 0), (0, .ref (ad (20, r, 0))), (1, .int le)]) S.1 S.2.1 dX4_countAlertsFrom_3 rfl hl (by decide) rfl (fun ls hl => ?_)
  have L4_0 : ∀ (n : Nat) (k : Nat), n + k = 12 → ∀ (H : Heap) (locs : List Loc) (ls : Array Slot), hm_G g ad M s.heap H locs → lv_has ls 4 [(0, .ref (ad (20, r, 0))), (1, .int le), (2, .int (nI (caL al le k))), (3, .int (nI k))] → W p l e rm_X4_countAlertsFrom s m args below meth c H locs 0 0 (MQ below (hm_Q g (hm_pU ad M (some (.int (nI (caF al le)))))) args s rm_X4_countAlertsFrom.cells rm_X4_countAlertsFrom.slots (hm_A g)) (F0 m 4 ls []) := by
    intro n
    induction n with
    | zero =>
      intro k hk0 H locs ls hG hl
      obtain rfl : k = 12 := by omega
      refine lv_iload_n S.1 S.2.1 dX4_countAlertsFrom_4 rfl (lv_at hl 3 rfl) ?_
      refine lv_bipush (v := 12) S.1 S.2.1 dX4_countAlertsFrom_5 (by decide) ?_
      refine lv_icmp_ge (tgt := 32) S.1 S.2.1 dX4_countAlertsFrom_7 (by decide) (fun _ => ?_) (fun h9 => absurd (by decide) h9)
      refine lv_iload_n S.1 S.2.1 dX4_countAlertsFrom_32 rfl (lv_at hl 2 rfl) ?_
      exact hm_iret S hG hr hlk (⟨rfl, rfl, rfl⟩) (Nat.le_of_ble_eq_true rfl) (Nat.le_of_ble_eq_true rfl) dX4_countAlertsFrom_33
    | succ n ih =>
      intro k hk0 H locs ls hG hl
      have hk : k < 12 := by omega
      refine lv_iload_n S.1 S.2.1 dX4_countAlertsFrom_4 rfl (lv_at hl 3 rfl) ?_
      refine lv_bipush (v := 12) S.1 S.2.1 dX4_countAlertsFrom_5 (by decide) ?_
      refine lv_icmp_ge (tgt := 32) S.1 S.2.1 dX4_countAlertsFrom_7 (by decide) (fun h9 => absurd h9 (nI_ge (b := 12) hk (by decide))) (fun _ => ?_)
      refine lv_aload_n S.1 S.2.1 dX4_countAlertsFrom_10 rfl (lv_at hl 0 rfl) ?_
      refine hm_get (k := 9) S hE hG h20 rfl rfl hi_X40 (by decide) hb_189 rfl rfl dX4_countAlertsFrom_11 ?_
      refine lv_iload_n S.1 S.2.1 dX4_countAlertsFrom_14 rfl (lv_at hl 3 rfl) ?_
      refine hm_aldq (q := (ad (22, r, k))) S hE hG h21 rfl rfl (vp_in_nI (n := k) hk (by decide)) (by rw [nI_clamp (Nat.lt_trans hk (by decide))]; exact if_pos hk) dX4_countAlertsFrom_15 ?_
      refine hm_get (k := 0) S hE hG (h22 k hk) rfl rfl hi_X00 (by decide) hb_275 rfl rfl dX4_countAlertsFrom_16 ?_
      refine lv_iload_n S.1 S.2.1 dX4_countAlertsFrom_19 rfl (lv_at hl 1 rfl) ?_
      refine lv_icmp_lt (tgt := 26) S.1 S.2.1 dX4_countAlertsFrom_20 (by decide) (fun c20 => ?_) (fun c20 => ?_)
      · skip
        have e20 : caL al le (k + 1) = caL al le k := by rw [caL, if_pos c20]
        rw [← e20] at hl
        refine lv_iinc (v := nI (k + 1)) (lv' := [(3, .int (nI (k + 1))), (0, .ref (ad (20, r, 0))), (1, .int le), (2, .int (nI (caL al le (k + 1))))]) S.1 S.2.1 dX4_countAlertsFrom_26 hl (k := 3) rfl (nI_1 k) (by decide) rfl (fun ls hl => ?_)
        refine lv_goto (tgt := 4) S.1 S.2.1 dX4_countAlertsFrom_29 (by decide) ?_
        exact ih (k + 1) (by omega) _ _ _ hG (lv_sub hl [1, 2, 3, 0] rfl)
      · skip
        refine lv_iinc (v := nI (caL al le (k + 1))) (lv' := [(2, .int (nI (caL al le (k + 1)))), (0, .ref (ad (20, r, 0))), (1, .int le), (3, .int (nI k))]) S.1 S.2.1 dX4_countAlertsFrom_23 hl (k := 2) rfl (by rw [caL, if_neg c20]; exact nI_1 _) (by decide) rfl (fun ls hl => ?_)
        refine lv_iinc (v := nI (k + 1)) (lv' := [(3, .int (nI (k + 1))), (2, .int (nI (caL al le (k + 1)))), (0, .ref (ad (20, r, 0))), (1, .int le)]) S.1 S.2.1 dX4_countAlertsFrom_26 hl (k := 3) rfl (nI_1 k) (by decide) rfl (fun ls hl => ?_)
        refine lv_goto (tgt := 4) S.1 S.2.1 dX4_countAlertsFrom_29 (by decide) ?_
        exact ih (k + 1) (by omega) _ _ _ hG (lv_sub hl [2, 3, 1, 0] rfl)
  exact L4_0 12 0 rfl _ _ _ hG (lv_sub hl [2, 3, 1, 0] rfl)

abbrev rm_X4_keyOfAlert : Room := { frames := 0, cells := 0, slots := 0, locals := 0 }
set_option maxHeartbeats 4000000 in
set_option maxRecDepth 100000 in
theorem c_X4_keyOfAlert (l : Launch) (g : GV) (ad : AD) (M : CT) (r : Nat) (u : RuD) (al : Nat → AlD) (hu : hasRu g ad M r u al) (pl : Nat) (hpl : pl < 1000) : hm_Met l yX4_keyOfAlert cX4_keyOfAlert 4 (some .int) rm_X4_keyOfAlert g ad M [.ref (ad (20, r, 0)), .int (nI pl)] (hm_pU ad M (some (.int (koF al pl)))) := by
  refine hm_start (own := RX4) (by decide) rfl (Nat.le_of_ble_eq_true rfl) ?_
  intro p e s m args below meth c S hr hlk hnm hE hG ls hl
  have hl : lv_has ls 4 [(0, .ref (ad (20, r, 0))), (1, .int (nI pl))] := hl
  obtain ⟨h20, h21, h22, hr6, hlo, hw, hwa⟩ := id hu
  refine lv_iconst (v := 0) S.1 S.2.1 dX4_keyOfAlert_0 (by decide) ?_
  refine lv_istore_n (lv' := [(2, .int 0), (0, .ref (ad (20, r, 0))), (1, .int (nI pl))]) S.1 S.2.1 dX4_keyOfAlert_1 rfl hl (by decide) rfl (fun ls hl => ?_)
  refine lv_iconst (v := 0) S.1 S.2.1 dX4_keyOfAlert_2 (by decide) ?_
  refine lv_istore_n (lv' := [(3, .int 0), (2, .int 0), (0, .ref (ad (20, r, 0))), (1, .int (nI pl))]) S.1 S.2.1 dX4_keyOfAlert_3 rfl hl (by decide) rfl (fun ls hl => ?_)
  have L4_0 : ∀ (n : Nat) (k : Nat) (ah : Nat), koL al pl n k ah = koF al pl → n + k = 12 → ah ≤ k → ∀ (H : Heap) (locs : List Loc) (ls : Array Slot), hm_G g ad M s.heap H locs → lv_has ls 4 [(0, .ref (ad (20, r, 0))), (1, .int (nI pl)), (2, .int (nI ah)), (3, .int (nI k))] → W p l e rm_X4_keyOfAlert s m args below meth c H locs 0 0 (MQ below (hm_Q g (hm_pU ad M (some (.int (koF al pl))))) args s rm_X4_keyOfAlert.cells rm_X4_keyOfAlert.slots (hm_A g)) (F0 m 4 ls []) := by
    intro n
    induction n with
    | zero =>
      intro k ah hF hk0 hah H locs ls hG hl
      obtain rfl : k = 12 := by omega
      refine lv_iload_n S.1 S.2.1 dX4_keyOfAlert_4 rfl (lv_at hl 3 rfl) ?_
      refine lv_bipush (v := 12) S.1 S.2.1 dX4_keyOfAlert_5 (by decide) ?_
      refine lv_icmp_ge (tgt := 38) S.1 S.2.1 dX4_keyOfAlert_7 (by decide) (fun _ => ?_) (fun h9 => absurd (by decide) h9)
      refine lv_iconst (v := (-1)) S.1 S.2.1 dX4_keyOfAlert_38 (by decide) ?_
      exact hm_iret S hG hr hlk (⟨by rw [← hF]; rfl, rfl, rfl⟩) (Nat.le_of_ble_eq_true rfl) (Nat.le_of_ble_eq_true rfl) dX4_keyOfAlert_39
    | succ n ih =>
      intro k ah hF hk0 hah H locs ls hG hl
      have hk : k < 12 := by omega
      refine lv_iload_n S.1 S.2.1 dX4_keyOfAlert_4 rfl (lv_at hl 3 rfl) ?_
      refine lv_bipush (v := 12) S.1 S.2.1 dX4_keyOfAlert_5 (by decide) ?_
      refine lv_icmp_ge (tgt := 38) S.1 S.2.1 dX4_keyOfAlert_7 (by decide) (fun h9 => absurd h9 (nI_ge (b := 12) hk (by decide))) (fun _ => ?_)
      refine lv_aload_n S.1 S.2.1 dX4_keyOfAlert_10 rfl (lv_at hl 0 rfl) ?_
      refine hm_get (k := 9) S hE hG h20 rfl rfl hi_X40 (by decide) hb_189 rfl rfl dX4_keyOfAlert_11 ?_
      refine lv_iload_n S.1 S.2.1 dX4_keyOfAlert_14 rfl (lv_at hl 3 rfl) ?_
      refine hm_aldq (q := (ad (22, r, k))) S hE hG h21 rfl rfl (vp_in_nI (n := k) hk (by decide)) (by rw [nI_clamp (Nat.lt_trans hk (by decide))]; exact if_pos hk) dX4_keyOfAlert_15 ?_
      refine hm_get (k := 0) S hE hG (h22 k hk) rfl rfl hi_X00 (by decide) hb_275 rfl rfl dX4_keyOfAlert_16 ?_
      refine lv_if_eq (tgt := 32) S.1 S.2.1 dX4_keyOfAlert_19 (by decide) (fun c19 => ?_) (fun c19 => ?_)
      · skip
        refine lv_iinc (v := nI (k + 1)) (lv' := [(3, .int (nI (k + 1))), (0, .ref (ad (20, r, 0))), (1, .int (nI pl)), (2, .int (nI ah))]) S.1 S.2.1 dX4_keyOfAlert_32 hl (k := 3) rfl (nI_1 k) (by decide) rfl (fun ls hl => ?_)
        refine lv_goto (tgt := 4) S.1 S.2.1 dX4_keyOfAlert_35 (by decide) ?_
        exact ih (k + 1) ah (by rw [← hF, koL, if_pos c19]) (by omega) (by omega) _ _ _ hG (lv_sub hl [1, 2, 3, 0] rfl)
      · skip
        refine lv_iload_n S.1 S.2.1 dX4_keyOfAlert_22 rfl (lv_at hl 2 rfl) ?_
        refine lv_iload_n S.1 S.2.1 dX4_keyOfAlert_23 rfl (lv_at hl 1 rfl) ?_
        refine lv_icmp_ne (tgt := 29) S.1 S.2.1 dX4_keyOfAlert_24 (by decide) (fun c24 => ?_) (fun c24 => ?_)
        · skip
          refine lv_iinc (v := nI (ah + 1)) (lv' := [(2, .int (nI (ah + 1))), (0, .ref (ad (20, r, 0))), (1, .int (nI pl)), (3, .int (nI k))]) S.1 S.2.1 dX4_keyOfAlert_29 hl (k := 2) rfl (nI_1 ah) (by decide) rfl (fun ls hl => ?_)
          refine lv_iinc (v := nI (k + 1)) (lv' := [(3, .int (nI (k + 1))), (2, .int (nI (ah + 1))), (0, .ref (ad (20, r, 0))), (1, .int (nI pl))]) S.1 S.2.1 dX4_keyOfAlert_32 hl (k := 3) rfl (nI_1 k) (by decide) rfl (fun ls hl => ?_)
          refine lv_goto (tgt := 4) S.1 S.2.1 dX4_keyOfAlert_35 (by decide) ?_
          exact ih (k + 1) (ah + 1) (by rw [← hF, koL, if_neg c19, if_neg (fun h => c24 (by rw [h]))]) (by omega) (by omega) _ _ _ hG (lv_sub hl [2, 3, 1, 0] rfl)
        · skip
          refine lv_iload_n S.1 S.2.1 dX4_keyOfAlert_27 rfl (lv_at hl 3 rfl) ?_
          exact hm_iret S hG hr hlk (⟨by rw [← hF, koL, if_neg c19, if_pos (hm_eqI (by omega) (by omega) (by simpa using c24))], rfl, rfl⟩) (Nat.le_of_ble_eq_true rfl) (Nat.le_of_ble_eq_true rfl) dX4_keyOfAlert_28
  exact L4_0 12 0 0 rfl rfl (by decide) _ _ _ hG (lv_sub hl [2, 3, 1, 0] rfl)

abbrev rm_J6_bitCount_0f7a4 : Room := { frames := 0, cells := 0, slots := 0, locals := 0 }
set_option maxHeartbeats 4000000 in
set_option maxRecDepth 100000 in
theorem c_J6_bitCount_0f7a4 (l : Launch) (g : GV) (ad : AD) (M : CT) (x : Int32) : hm_Met l yJ6_bitCount_0f7a4 cJ6_bitCount_0f7a4 1 (some .int) rm_J6_bitCount_0f7a4 g ad M [.int x] (hm_pU ad M (some (.int (bcF x)))) := by
  refine hm_start (own := RJ6) (by decide) rfl (Nat.le_of_ble_eq_true rfl) ?_
  intro p e s m args below meth c S hr hlk hnm hE hG ls hl
  have hl : lv_has ls 1 [(0, .int x)] := hl
  refine lv_iload_n S.1 S.2.1 dJ6_bitCount_0f7a4_0 rfl (lv_at hl 0 rfl) ?_
  refine lv_iload_n S.1 S.2.1 dJ6_bitCount_0f7a4_1 rfl (lv_at hl 0 rfl) ?_
  refine lv_iconst (v := 1) S.1 S.2.1 dJ6_bitCount_0f7a4_2 (by decide) ?_
  refine lv_iushr S.1 S.2.1 dJ6_bitCount_0f7a4_3 rfl ?_
  refine lv_ldcw S.1 S.2.1 S.2.2.2.1 (S.2.2.2.2 _ hb_453) dJ6_bitCount_0f7a4_4 ?_
  refine lv_iand S.1 S.2.1 dJ6_bitCount_0f7a4_7 ?_
  refine lv_isub S.1 S.2.1 dJ6_bitCount_0f7a4_8 ?_
  refine hm_top (z := bc1 x) (rfl) ?_
  refine lv_istore_n (lv' := [(0, .int (bc1 x))]) S.1 S.2.1 dJ6_bitCount_0f7a4_9 rfl hl (by decide) rfl (fun ls hl => ?_)
  refine lv_iload_n S.1 S.2.1 dJ6_bitCount_0f7a4_10 rfl (lv_at hl 0 rfl) ?_
  refine lv_ldcw S.1 S.2.1 S.2.2.2.1 (S.2.2.2.2 _ hb_454) dJ6_bitCount_0f7a4_11 ?_
  refine lv_iand S.1 S.2.1 dJ6_bitCount_0f7a4_14 ?_
  refine lv_iload_n S.1 S.2.1 dJ6_bitCount_0f7a4_15 rfl (lv_at hl 0 rfl) ?_
  refine lv_iconst (v := 2) S.1 S.2.1 dJ6_bitCount_0f7a4_16 (by decide) ?_
  refine lv_iushr S.1 S.2.1 dJ6_bitCount_0f7a4_17 rfl ?_
  refine lv_ldcw S.1 S.2.1 S.2.2.2.1 (S.2.2.2.2 _ hb_454) dJ6_bitCount_0f7a4_18 ?_
  refine lv_iand S.1 S.2.1 dJ6_bitCount_0f7a4_21 ?_
  refine lv_iadd S.1 S.2.1 dJ6_bitCount_0f7a4_22 ?_
  refine hm_top (z := bc2 (bc1 x)) (rfl) ?_
  refine lv_istore_n (lv' := [(0, .int (bc2 (bc1 x)))]) S.1 S.2.1 dJ6_bitCount_0f7a4_23 rfl hl (by decide) rfl (fun ls hl => ?_)
  refine lv_iload_n S.1 S.2.1 dJ6_bitCount_0f7a4_24 rfl (lv_at hl 0 rfl) ?_
  refine lv_iload_n S.1 S.2.1 dJ6_bitCount_0f7a4_25 rfl (lv_at hl 0 rfl) ?_
  refine lv_iconst (v := 4) S.1 S.2.1 dJ6_bitCount_0f7a4_26 (by decide) ?_
  refine lv_iushr S.1 S.2.1 dJ6_bitCount_0f7a4_27 rfl ?_
  refine lv_iadd S.1 S.2.1 dJ6_bitCount_0f7a4_28 ?_
  refine lv_ldcw S.1 S.2.1 S.2.2.2.1 (S.2.2.2.2 _ hb_455) dJ6_bitCount_0f7a4_29 ?_
  refine lv_iand S.1 S.2.1 dJ6_bitCount_0f7a4_32 ?_
  refine hm_top (z := bc3 (bc2 (bc1 x))) (rfl) ?_
  refine lv_istore_n (lv' := [(0, .int (bc3 (bc2 (bc1 x))))]) S.1 S.2.1 dJ6_bitCount_0f7a4_33 rfl hl (by decide) rfl (fun ls hl => ?_)
  refine lv_iload_n S.1 S.2.1 dJ6_bitCount_0f7a4_34 rfl (lv_at hl 0 rfl) ?_
  refine lv_iload_n S.1 S.2.1 dJ6_bitCount_0f7a4_35 rfl (lv_at hl 0 rfl) ?_
  refine lv_bipush (v := 8) S.1 S.2.1 dJ6_bitCount_0f7a4_36 (by decide) ?_
  refine lv_iushr S.1 S.2.1 dJ6_bitCount_0f7a4_38 rfl ?_
  refine lv_iadd S.1 S.2.1 dJ6_bitCount_0f7a4_39 ?_
  refine hm_top (z := bc4 (bc3 (bc2 (bc1 x)))) (rfl) ?_
  refine lv_istore_n (lv' := [(0, .int (bc4 (bc3 (bc2 (bc1 x)))))]) S.1 S.2.1 dJ6_bitCount_0f7a4_40 rfl hl (by decide) rfl (fun ls hl => ?_)
  refine lv_iload_n S.1 S.2.1 dJ6_bitCount_0f7a4_41 rfl (lv_at hl 0 rfl) ?_
  refine lv_iload_n S.1 S.2.1 dJ6_bitCount_0f7a4_42 rfl (lv_at hl 0 rfl) ?_
  refine lv_bipush (v := 16) S.1 S.2.1 dJ6_bitCount_0f7a4_43 (by decide) ?_
  refine lv_iushr S.1 S.2.1 dJ6_bitCount_0f7a4_45 rfl ?_
  refine lv_iadd S.1 S.2.1 dJ6_bitCount_0f7a4_46 ?_
  refine hm_top (z := bc5 (bc4 (bc3 (bc2 (bc1 x))))) (rfl) ?_
  refine lv_istore_n (lv' := [(0, .int (bc5 (bc4 (bc3 (bc2 (bc1 x))))))]) S.1 S.2.1 dJ6_bitCount_0f7a4_47 rfl hl (by decide) rfl (fun ls hl => ?_)
  refine lv_iload_n S.1 S.2.1 dJ6_bitCount_0f7a4_48 rfl (lv_at hl 0 rfl) ?_
  refine lv_bipush (v := 63) S.1 S.2.1 dJ6_bitCount_0f7a4_49 (by decide) ?_
  refine lv_iand S.1 S.2.1 dJ6_bitCount_0f7a4_51 ?_
  exact hm_iret S hG hr hlk (⟨rfl, rfl, rfl⟩) (Nat.le_of_ble_eq_true rfl) (Nat.le_of_ble_eq_true rfl) dJ6_bitCount_0f7a4_52

abbrev rm_X1_countLoudNow : Room := { frames := 1, cells := 0, slots := 0, locals := 20 }
set_option maxHeartbeats 4000000 in
set_option maxRecDepth 100000 in
theorem c_X1_countLoudNow (l : Launch) (g : GV) (ad : AD) (M : CT) (j : Nat) (d : GrD) (hd : hasGr g ad M j d) : hm_Met l yX1_countLoudNow cX1_countLoudNow 3 (some .int) rm_X1_countLoudNow g ad M [.ref (ad (60, j, 0))] (hm_pU ad M (some (.int (cgF (gLo d))))) := by
  refine hm_start (own := RX1) (by decide) rfl (Nat.le_of_ble_eq_true rfl) ?_
  intro p e s m args below meth c S hr hlk hnm hE hG ls hl
  have hl : lv_has ls 3 [(0, .ref (ad (60, j, 0)))] := hl
  obtain ⟨h60, h61, h62⟩ := id hd
  refine lv_iconst (v := 0) S.1 S.2.1 dX1_countLoudNow_0 (by decide) ?_
  refine lv_istore_n (lv' := [(1, .int 0), (0, .ref (ad (60, j, 0)))]) S.1 S.2.1 dX1_countLoudNow_1 rfl hl (by decide) rfl (fun ls hl => ?_)
  refine lv_iconst (v := 0) S.1 S.2.1 dX1_countLoudNow_2 (by decide) ?_
  refine lv_istore_n (lv' := [(2, .int 0), (1, .int 0), (0, .ref (ad (60, j, 0)))]) S.1 S.2.1 dX1_countLoudNow_3 rfl hl (by decide) rfl (fun ls hl => ?_)
  refine lv_iload_n S.1 S.2.1 dX1_countLoudNow_4 rfl (lv_at hl 0 rfl) ?_
  refine lv_bipush (v := 6) S.1 S.2.1 dX1_countLoudNow_5 (by decide) ?_
  refine lv_icmp_ge (tgt := 28) S.1 S.2.1 dX1_countLoudNow_7 (by decide) (fun h9 => absurd h9 (by decide)) (fun _ => ?_)
  refine lv_iload_n S.1 S.2.1 dX1_countLoudNow_10 rfl (lv_at hl 1 rfl) ?_
  refine lv_aload_n S.1 S.2.1 dX1_countLoudNow_11 rfl (lv_at hl 2 rfl) ?_
  refine hm_get (k := 0) S hE hG h60 rfl rfl hi_X10 (by decide) hb_53 rfl rfl dX1_countLoudNow_12 ?_
  refine lv_iload_n S.1 S.2.1 dX1_countLoudNow_15 rfl (lv_at hl 0 rfl) ?_
  refine hm_iald (x := (gLo d) 0) S hE hG h61 rfl (by unfold vp_in; decide) (congrArg (gLo d) (by decide)) dX1_countLoudNow_16 ?_
  refine hm_uS (As := [.int ((gLo d) 0)]) (rest := [.int 0]) (st1 := [.int (bcF ((gLo d) 0)), .int 0]) S hE hG (c_J6_bitCount_0f7a4 l g ad M ((gLo d) 0)) (hm_gS hb_449 hb_450 hb_451 hb_452) hd_J6_bitCount_0f7a4 ⟨Nat.le_of_ble_eq_true rfl, Nat.le_of_ble_eq_true rfl⟩ rfl hl.1 rfl (Nat.le_of_ble_eq_true rfl) dX1_countLoudNow_17 ⟨Nat.le_of_ble_eq_true rfl, Nat.le_of_ble_eq_true rfl⟩ rfl (fun H locs hG => ?_)
  refine lv_iadd S.1 S.2.1 dX1_countLoudNow_20 ?_
  refine lv_istore_n (lv' := [(1, .int (0 + (bcF ((gLo d) 0)))), (2, .int 0), (0, .ref (ad (60, j, 0)))]) S.1 S.2.1 dX1_countLoudNow_21 rfl hl (by decide) rfl (fun ls hl => ?_)
  refine lv_iinc (v := 1) (lv' := [(2, .int 1), (1, .int (0 + (bcF ((gLo d) 0)))), (0, .ref (ad (60, j, 0)))]) S.1 S.2.1 dX1_countLoudNow_22 hl (k := 1) rfl (by decide) (by decide) rfl (fun ls hl => ?_)
  refine lv_goto (tgt := 4) S.1 S.2.1 dX1_countLoudNow_25 (by decide) ?_
  refine lv_iload_n S.1 S.2.1 dX1_countLoudNow_4 rfl (lv_at hl 0 rfl) ?_
  refine lv_bipush (v := 6) S.1 S.2.1 dX1_countLoudNow_5 (by decide) ?_
  refine lv_icmp_ge (tgt := 28) S.1 S.2.1 dX1_countLoudNow_7 (by decide) (fun h9 => absurd h9 (by decide)) (fun _ => ?_)
  refine lv_iload_n S.1 S.2.1 dX1_countLoudNow_10 rfl (lv_at hl 1 rfl) ?_
  refine lv_aload_n S.1 S.2.1 dX1_countLoudNow_11 rfl (lv_at hl 2 rfl) ?_
  refine hm_get (k := 0) S hE hG h60 rfl rfl hi_X10 (by decide) hb_53 rfl rfl dX1_countLoudNow_12 ?_
  refine lv_iload_n S.1 S.2.1 dX1_countLoudNow_15 rfl (lv_at hl 0 rfl) ?_
  refine hm_iald (x := (gLo d) 1) S hE hG h61 rfl (by unfold vp_in; decide) (congrArg (gLo d) (by decide)) dX1_countLoudNow_16 ?_
  refine hm_uS (As := [.int ((gLo d) 1)]) (rest := [.int (0 + (bcF ((gLo d) 0)))]) (st1 := [.int (bcF ((gLo d) 1)), .int (0 + (bcF ((gLo d) 0)))]) S hE hG (c_J6_bitCount_0f7a4 l g ad M ((gLo d) 1)) (hm_gS hb_449 hb_450 hb_451 hb_452) hd_J6_bitCount_0f7a4 ⟨Nat.le_of_ble_eq_true rfl, Nat.le_of_ble_eq_true rfl⟩ rfl hl.1 rfl (Nat.le_of_ble_eq_true rfl) dX1_countLoudNow_17 ⟨Nat.le_of_ble_eq_true rfl, Nat.le_of_ble_eq_true rfl⟩ rfl (fun H locs hG => ?_)
  refine lv_iadd S.1 S.2.1 dX1_countLoudNow_20 ?_
  refine lv_istore_n (lv' := [(1, .int ((0 + (bcF ((gLo d) 0))) + (bcF ((gLo d) 1)))), (2, .int 1), (0, .ref (ad (60, j, 0)))]) S.1 S.2.1 dX1_countLoudNow_21 rfl hl (by decide) rfl (fun ls hl => ?_)
  refine lv_iinc (v := 2) (lv' := [(2, .int 2), (1, .int ((0 + (bcF ((gLo d) 0))) + (bcF ((gLo d) 1)))), (0, .ref (ad (60, j, 0)))]) S.1 S.2.1 dX1_countLoudNow_22 hl (k := 1) rfl (by decide) (by decide) rfl (fun ls hl => ?_)
  refine lv_goto (tgt := 4) S.1 S.2.1 dX1_countLoudNow_25 (by decide) ?_
  refine lv_iload_n S.1 S.2.1 dX1_countLoudNow_4 rfl (lv_at hl 0 rfl) ?_
  refine lv_bipush (v := 6) S.1 S.2.1 dX1_countLoudNow_5 (by decide) ?_
  refine lv_icmp_ge (tgt := 28) S.1 S.2.1 dX1_countLoudNow_7 (by decide) (fun h9 => absurd h9 (by decide)) (fun _ => ?_)
  refine lv_iload_n S.1 S.2.1 dX1_countLoudNow_10 rfl (lv_at hl 1 rfl) ?_
  refine lv_aload_n S.1 S.2.1 dX1_countLoudNow_11 rfl (lv_at hl 2 rfl) ?_
  refine hm_get (k := 0) S hE hG h60 rfl rfl hi_X10 (by decide) hb_53 rfl rfl dX1_countLoudNow_12 ?_
  refine lv_iload_n S.1 S.2.1 dX1_countLoudNow_15 rfl (lv_at hl 0 rfl) ?_
  refine hm_iald (x := (gLo d) 2) S hE hG h61 rfl (by unfold vp_in; decide) (congrArg (gLo d) (by decide)) dX1_countLoudNow_16 ?_
  refine hm_uS (As := [.int ((gLo d) 2)]) (rest := [.int ((0 + (bcF ((gLo d) 0))) + (bcF ((gLo d) 1)))]) (st1 := [.int (bcF ((gLo d) 2)), .int ((0 + (bcF ((gLo d) 0))) + (bcF ((gLo d) 1)))]) S hE hG (c_J6_bitCount_0f7a4 l g ad M ((gLo d) 2)) (hm_gS hb_449 hb_450 hb_451 hb_452) hd_J6_bitCount_0f7a4 ⟨Nat.le_of_ble_eq_true rfl, Nat.le_of_ble_eq_true rfl⟩ rfl hl.1 rfl (Nat.le_of_ble_eq_true rfl) dX1_countLoudNow_17 ⟨Nat.le_of_ble_eq_true rfl, Nat.le_of_ble_eq_true rfl⟩ rfl (fun H locs hG => ?_)
  refine lv_iadd S.1 S.2.1 dX1_countLoudNow_20 ?_
  refine lv_istore_n (lv' := [(1, .int (((0 + (bcF ((gLo d) 0))) + (bcF ((gLo d) 1))) + (bcF ((gLo d) 2)))), (2, .int 2), (0, .ref (ad (60, j, 0)))]) S.1 S.2.1 dX1_countLoudNow_21 rfl hl (by decide) rfl (fun ls hl => ?_)
  refine lv_iinc (v := 3) (lv' := [(2, .int 3), (1, .int (((0 + (bcF ((gLo d) 0))) + (bcF ((gLo d) 1))) + (bcF ((gLo d) 2)))), (0, .ref (ad (60, j, 0)))]) S.1 S.2.1 dX1_countLoudNow_22 hl (k := 1) rfl (by decide) (by decide) rfl (fun ls hl => ?_)
  refine lv_goto (tgt := 4) S.1 S.2.1 dX1_countLoudNow_25 (by decide) ?_
  refine lv_iload_n S.1 S.2.1 dX1_countLoudNow_4 rfl (lv_at hl 0 rfl) ?_
  refine lv_bipush (v := 6) S.1 S.2.1 dX1_countLoudNow_5 (by decide) ?_
  refine lv_icmp_ge (tgt := 28) S.1 S.2.1 dX1_countLoudNow_7 (by decide) (fun h9 => absurd h9 (by decide)) (fun _ => ?_)
  refine lv_iload_n S.1 S.2.1 dX1_countLoudNow_10 rfl (lv_at hl 1 rfl) ?_
  refine lv_aload_n S.1 S.2.1 dX1_countLoudNow_11 rfl (lv_at hl 2 rfl) ?_
  refine hm_get (k := 0) S hE hG h60 rfl rfl hi_X10 (by decide) hb_53 rfl rfl dX1_countLoudNow_12 ?_
  refine lv_iload_n S.1 S.2.1 dX1_countLoudNow_15 rfl (lv_at hl 0 rfl) ?_
  refine hm_iald (x := (gLo d) 3) S hE hG h61 rfl (by unfold vp_in; decide) (congrArg (gLo d) (by decide)) dX1_countLoudNow_16 ?_
  refine hm_uS (As := [.int ((gLo d) 3)]) (rest := [.int (((0 + (bcF ((gLo d) 0))) + (bcF ((gLo d) 1))) + (bcF ((gLo d) 2)))]) (st1 := [.int (bcF ((gLo d) 3)), .int (((0 + (bcF ((gLo d) 0))) + (bcF ((gLo d) 1))) + (bcF ((gLo d) 2)))]) S hE hG (c_J6_bitCount_0f7a4 l g ad M ((gLo d) 3)) (hm_gS hb_449 hb_450 hb_451 hb_452) hd_J6_bitCount_0f7a4 ⟨Nat.le_of_ble_eq_true rfl, Nat.le_of_ble_eq_true rfl⟩ rfl hl.1 rfl (Nat.le_of_ble_eq_true rfl) dX1_countLoudNow_17 ⟨Nat.le_of_ble_eq_true rfl, Nat.le_of_ble_eq_true rfl⟩ rfl (fun H locs hG => ?_)
  refine lv_iadd S.1 S.2.1 dX1_countLoudNow_20 ?_
  refine lv_istore_n (lv' := [(1, .int ((((0 + (bcF ((gLo d) 0))) + (bcF ((gLo d) 1))) + (bcF ((gLo d) 2))) + (bcF ((gLo d) 3)))), (2, .int 3), (0, .ref (ad (60, j, 0)))]) S.1 S.2.1 dX1_countLoudNow_21 rfl hl (by decide) rfl (fun ls hl => ?_)
  refine lv_iinc (v := 4) (lv' := [(2, .int 4), (1, .int ((((0 + (bcF ((gLo d) 0))) + (bcF ((gLo d) 1))) + (bcF ((gLo d) 2))) + (bcF ((gLo d) 3)))), (0, .ref (ad (60, j, 0)))]) S.1 S.2.1 dX1_countLoudNow_22 hl (k := 1) rfl (by decide) (by decide) rfl (fun ls hl => ?_)
  refine lv_goto (tgt := 4) S.1 S.2.1 dX1_countLoudNow_25 (by decide) ?_
  refine lv_iload_n S.1 S.2.1 dX1_countLoudNow_4 rfl (lv_at hl 0 rfl) ?_
  refine lv_bipush (v := 6) S.1 S.2.1 dX1_countLoudNow_5 (by decide) ?_
  refine lv_icmp_ge (tgt := 28) S.1 S.2.1 dX1_countLoudNow_7 (by decide) (fun h9 => absurd h9 (by decide)) (fun _ => ?_)
  refine lv_iload_n S.1 S.2.1 dX1_countLoudNow_10 rfl (lv_at hl 1 rfl) ?_
  refine lv_aload_n S.1 S.2.1 dX1_countLoudNow_11 rfl (lv_at hl 2 rfl) ?_
  refine hm_get (k := 0) S hE hG h60 rfl rfl hi_X10 (by decide) hb_53 rfl rfl dX1_countLoudNow_12 ?_
  refine lv_iload_n S.1 S.2.1 dX1_countLoudNow_15 rfl (lv_at hl 0 rfl) ?_
  refine hm_iald (x := (gLo d) 4) S hE hG h61 rfl (by unfold vp_in; decide) (congrArg (gLo d) (by decide)) dX1_countLoudNow_16 ?_
  refine hm_uS (As := [.int ((gLo d) 4)]) (rest := [.int ((((0 + (bcF ((gLo d) 0))) + (bcF ((gLo d) 1))) + (bcF ((gLo d) 2))) + (bcF ((gLo d) 3)))]) (st1 := [.int (bcF ((gLo d) 4)), .int ((((0 + (bcF ((gLo d) 0))) + (bcF ((gLo d) 1))) + (bcF ((gLo d) 2))) + (bcF ((gLo d) 3)))]) S hE hG (c_J6_bitCount_0f7a4 l g ad M ((gLo d) 4)) (hm_gS hb_449 hb_450 hb_451 hb_452) hd_J6_bitCount_0f7a4 ⟨Nat.le_of_ble_eq_true rfl, Nat.le_of_ble_eq_true rfl⟩ rfl hl.1 rfl (Nat.le_of_ble_eq_true rfl) dX1_countLoudNow_17 ⟨Nat.le_of_ble_eq_true rfl, Nat.le_of_ble_eq_true rfl⟩ rfl (fun H locs hG => ?_)
  refine lv_iadd S.1 S.2.1 dX1_countLoudNow_20 ?_
  refine lv_istore_n (lv' := [(1, .int (((((0 + (bcF ((gLo d) 0))) + (bcF ((gLo d) 1))) + (bcF ((gLo d) 2))) + (bcF ((gLo d) 3))) + (bcF ((gLo d) 4)))), (2, .int 4), (0, .ref (ad (60, j, 0)))]) S.1 S.2.1 dX1_countLoudNow_21 rfl hl (by decide) rfl (fun ls hl => ?_)
  refine lv_iinc (v := 5) (lv' := [(2, .int 5), (1, .int (((((0 + (bcF ((gLo d) 0))) + (bcF ((gLo d) 1))) + (bcF ((gLo d) 2))) + (bcF ((gLo d) 3))) + (bcF ((gLo d) 4)))), (0, .ref (ad (60, j, 0)))]) S.1 S.2.1 dX1_countLoudNow_22 hl (k := 1) rfl (by decide) (by decide) rfl (fun ls hl => ?_)
  refine lv_goto (tgt := 4) S.1 S.2.1 dX1_countLoudNow_25 (by decide) ?_
  refine lv_iload_n S.1 S.2.1 dX1_countLoudNow_4 rfl (lv_at hl 0 rfl) ?_
  refine lv_bipush (v := 6) S.1 S.2.1 dX1_countLoudNow_5 (by decide) ?_
  refine lv_icmp_ge (tgt := 28) S.1 S.2.1 dX1_countLoudNow_7 (by decide) (fun h9 => absurd h9 (by decide)) (fun _ => ?_)
  refine lv_iload_n S.1 S.2.1 dX1_countLoudNow_10 rfl (lv_at hl 1 rfl) ?_
  refine lv_aload_n S.1 S.2.1 dX1_countLoudNow_11 rfl (lv_at hl 2 rfl) ?_
  refine hm_get (k := 0) S hE hG h60 rfl rfl hi_X10 (by decide) hb_53 rfl rfl dX1_countLoudNow_12 ?_
  refine lv_iload_n S.1 S.2.1 dX1_countLoudNow_15 rfl (lv_at hl 0 rfl) ?_
  refine hm_iald (x := (gLo d) 5) S hE hG h61 rfl (by unfold vp_in; decide) (congrArg (gLo d) (by decide)) dX1_countLoudNow_16 ?_
  refine hm_uS (As := [.int ((gLo d) 5)]) (rest := [.int (((((0 + (bcF ((gLo d) 0))) + (bcF ((gLo d) 1))) + (bcF ((gLo d) 2))) + (bcF ((gLo d) 3))) + (bcF ((gLo d) 4)))]) (st1 := [.int (bcF ((gLo d) 5)), .int (((((0 + (bcF ((gLo d) 0))) + (bcF ((gLo d) 1))) + (bcF ((gLo d) 2))) + (bcF ((gLo d) 3))) + (bcF ((gLo d) 4)))]) S hE hG (c_J6_bitCount_0f7a4 l g ad M ((gLo d) 5)) (hm_gS hb_449 hb_450 hb_451 hb_452) hd_J6_bitCount_0f7a4 ⟨Nat.le_of_ble_eq_true rfl, Nat.le_of_ble_eq_true rfl⟩ rfl hl.1 rfl (Nat.le_of_ble_eq_true rfl) dX1_countLoudNow_17 ⟨Nat.le_of_ble_eq_true rfl, Nat.le_of_ble_eq_true rfl⟩ rfl (fun H locs hG => ?_)
  refine lv_iadd S.1 S.2.1 dX1_countLoudNow_20 ?_
  refine lv_istore_n (lv' := [(1, .int ((((((0 + (bcF ((gLo d) 0))) + (bcF ((gLo d) 1))) + (bcF ((gLo d) 2))) + (bcF ((gLo d) 3))) + (bcF ((gLo d) 4))) + (bcF ((gLo d) 5)))), (2, .int 5), (0, .ref (ad (60, j, 0)))]) S.1 S.2.1 dX1_countLoudNow_21 rfl hl (by decide) rfl (fun ls hl => ?_)
  refine lv_iinc (v := 6) (lv' := [(2, .int 6), (1, .int ((((((0 + (bcF ((gLo d) 0))) + (bcF ((gLo d) 1))) + (bcF ((gLo d) 2))) + (bcF ((gLo d) 3))) + (bcF ((gLo d) 4))) + (bcF ((gLo d) 5)))), (0, .ref (ad (60, j, 0)))]) S.1 S.2.1 dX1_countLoudNow_22 hl (k := 1) rfl (by decide) (by decide) rfl (fun ls hl => ?_)
  refine lv_goto (tgt := 4) S.1 S.2.1 dX1_countLoudNow_25 (by decide) ?_
  refine lv_iload_n S.1 S.2.1 dX1_countLoudNow_4 rfl (lv_at hl 0 rfl) ?_
  refine lv_bipush (v := 6) S.1 S.2.1 dX1_countLoudNow_5 (by decide) ?_
  refine lv_icmp_ge (tgt := 28) S.1 S.2.1 dX1_countLoudNow_7 (by decide) (fun _ => ?_) (fun h9 => absurd (by decide) h9)
  refine lv_iload_n S.1 S.2.1 dX1_countLoudNow_28 rfl (lv_at hl 1 rfl) ?_
  exact hm_iret S hG hr hlk (⟨rfl, rfl, rfl⟩) (Nat.le_of_ble_eq_true rfl) (Nat.le_of_ble_eq_true rfl) dX1_countLoudNow_29

abbrev rm_X1_isLoud : Room := { frames := 2, cells := 0, slots := 0, locals := 42 }
set_option maxHeartbeats 4000000 in
set_option maxRecDepth 100000 in
theorem c_X1_isLoud (l : Launch) (g : GV) (ad : AD) (M : CT) (j : Nat) (d : GrD) (hd : hasGr g ad M j d) : hm_Met l yX1_isLoud cX1_isLoud 1 (some .boolean) rm_X1_isLoud g ad M [.ref (ad (60, j, 0))] (hm_pU ad M (some (.int (bI (ilF d))))) := by
  refine hm_start (own := RX1) (by decide) rfl (Nat.le_of_ble_eq_true rfl) ?_
  intro p e s m args below meth c S hr hlk hnm hE hG ls hl
  have hl : lv_has ls 1 [(0, .ref (ad (60, j, 0)))] := hl
  obtain ⟨h60, h61, h62⟩ := id hd
  refine lv_aload_n S.1 S.2.1 dX1_isLoud_0 rfl (lv_at hl 0 rfl) ?_
  refine hm_uV (As := []) (rest := []) (st1 := [.int (cgF (gLo d))]) S hE hG (c_X1_countLoudNow l g ad M j d hd) (hm_gV hb_445 hb_446 hb_447 hb_22 hb_448) hd_X1_countLoudNow rfl h60 rfl rfl ⟨Nat.le_of_ble_eq_true rfl, Nat.le_of_ble_eq_true rfl⟩ rfl hl.1 rfl (Nat.le_of_ble_eq_true rfl) dX1_isLoud_1 ⟨Nat.le_of_ble_eq_true rfl, Nat.le_of_ble_eq_true rfl⟩ rfl (fun H locs hG => ?_)
  refine lv_if_le (tgt := 11) S.1 S.2.1 dX1_isLoud_4 (by decide) (fun c4 => ?_) (fun c4 => ?_)
  · skip
    refine lv_iconst (v := 0) S.1 S.2.1 dX1_isLoud_11 (by decide) ?_
    exact hm_zret S hG hr hlk (by decide) (⟨by rw [ilF, decide_eq_false (Int32.not_lt.mpr c4)]; rfl, rfl, rfl⟩) (Nat.le_of_ble_eq_true rfl) (Nat.le_of_ble_eq_true rfl) dX1_isLoud_12
  · skip
    refine lv_iconst (v := 1) S.1 S.2.1 dX1_isLoud_7 (by decide) ?_
    refine lv_goto (tgt := 12) S.1 S.2.1 dX1_isLoud_8 (by decide) ?_
    exact hm_zret S hG hr hlk (by decide) (⟨by rw [ilF, decide_eq_true (Int32.not_le.mp c4)]; rfl, rfl, rfl⟩) (Nat.le_of_ble_eq_true rfl) (Nat.le_of_ble_eq_true rfl) dX1_isLoud_12

abbrev rm_X1_hasTold : Room := { frames := 0, cells := 0, slots := 0, locals := 0 }
set_option maxHeartbeats 4000000 in
set_option maxRecDepth 100000 in
theorem c_X1_hasTold (l : Launch) (g : GV) (ad : AD) (M : CT) (j : Nat) (d : GrD) (hd : hasGr g ad M j d) : hm_Met l yX1_hasTold cX1_hasTold 2 (some .boolean) rm_X1_hasTold g ad M [.ref (ad (60, j, 0))] (hm_pU ad M (some (.int (bI (nzF (gTo d)))))) := by
  refine hm_start (own := RX1) (by decide) rfl (Nat.le_of_ble_eq_true rfl) ?_
  intro p e s m args below meth c S hr hlk hnm hE hG ls hl
  have hl : lv_has ls 2 [(0, .ref (ad (60, j, 0)))] := hl
  obtain ⟨h60, h61, h62⟩ := id hd
  refine lv_iconst (v := 0) S.1 S.2.1 dX1_hasTold_0 (by decide) ?_
  refine lv_istore_n (lv' := [(1, .int 0), (0, .ref (ad (60, j, 0)))]) S.1 S.2.1 dX1_hasTold_1 rfl hl (by decide) rfl (fun ls hl => ?_)
  refine lv_iload_n S.1 S.2.1 dX1_hasTold_2 rfl (lv_at hl 0 rfl) ?_
  refine lv_bipush (v := 6) S.1 S.2.1 dX1_hasTold_3 (by decide) ?_
  refine lv_icmp_ge (tgt := 25) S.1 S.2.1 dX1_hasTold_5 (by decide) (fun h9 => absurd h9 (by decide)) (fun _ => ?_)
  refine lv_aload_n S.1 S.2.1 dX1_hasTold_8 rfl (lv_at hl 1 rfl) ?_
  refine hm_get (k := 1) S hE hG h60 rfl rfl hi_X10 (by decide) hb_54 rfl rfl dX1_hasTold_9 ?_
  refine lv_iload_n S.1 S.2.1 dX1_hasTold_12 rfl (lv_at hl 0 rfl) ?_
  refine hm_iald (x := (gTo d) 0) S hE hG h62 rfl (by unfold vp_in; decide) (congrArg (gTo d) (by decide)) dX1_hasTold_13 ?_
  refine lv_if_eq (tgt := 19) S.1 S.2.1 dX1_hasTold_14 (by decide) (fun c14 => ?_) (fun c14 => ?_)
  · skip
    refine lv_iinc (v := 1) (lv' := [(1, .int 1), (0, .ref (ad (60, j, 0)))]) S.1 S.2.1 dX1_hasTold_19 hl (k := 0) rfl (by decide) (by decide) rfl (fun ls hl => ?_)
    refine lv_goto (tgt := 2) S.1 S.2.1 dX1_hasTold_22 (by decide) ?_
    refine lv_iload_n S.1 S.2.1 dX1_hasTold_2 rfl (lv_at hl 0 rfl) ?_
    refine lv_bipush (v := 6) S.1 S.2.1 dX1_hasTold_3 (by decide) ?_
    refine lv_icmp_ge (tgt := 25) S.1 S.2.1 dX1_hasTold_5 (by decide) (fun h9 => absurd h9 (by decide)) (fun _ => ?_)
    refine lv_aload_n S.1 S.2.1 dX1_hasTold_8 rfl (lv_at hl 1 rfl) ?_
    refine hm_get (k := 1) S hE hG h60 rfl rfl hi_X10 (by decide) hb_54 rfl rfl dX1_hasTold_9 ?_
    refine lv_iload_n S.1 S.2.1 dX1_hasTold_12 rfl (lv_at hl 0 rfl) ?_
    refine hm_iald (x := (gTo d) 1) S hE hG h62 rfl (by unfold vp_in; decide) (congrArg (gTo d) (by decide)) dX1_hasTold_13 ?_
    refine lv_if_eq (tgt := 19) S.1 S.2.1 dX1_hasTold_14 (by decide) (fun c14 => ?_) (fun c14 => ?_)
    · skip
      refine lv_iinc (v := 2) (lv' := [(1, .int 2), (0, .ref (ad (60, j, 0)))]) S.1 S.2.1 dX1_hasTold_19 hl (k := 0) rfl (by decide) (by decide) rfl (fun ls hl => ?_)
      refine lv_goto (tgt := 2) S.1 S.2.1 dX1_hasTold_22 (by decide) ?_
      refine lv_iload_n S.1 S.2.1 dX1_hasTold_2 rfl (lv_at hl 0 rfl) ?_
      refine lv_bipush (v := 6) S.1 S.2.1 dX1_hasTold_3 (by decide) ?_
      refine lv_icmp_ge (tgt := 25) S.1 S.2.1 dX1_hasTold_5 (by decide) (fun h9 => absurd h9 (by decide)) (fun _ => ?_)
      refine lv_aload_n S.1 S.2.1 dX1_hasTold_8 rfl (lv_at hl 1 rfl) ?_
      refine hm_get (k := 1) S hE hG h60 rfl rfl hi_X10 (by decide) hb_54 rfl rfl dX1_hasTold_9 ?_
      refine lv_iload_n S.1 S.2.1 dX1_hasTold_12 rfl (lv_at hl 0 rfl) ?_
      refine hm_iald (x := (gTo d) 2) S hE hG h62 rfl (by unfold vp_in; decide) (congrArg (gTo d) (by decide)) dX1_hasTold_13 ?_
      refine lv_if_eq (tgt := 19) S.1 S.2.1 dX1_hasTold_14 (by decide) (fun c14 => ?_) (fun c14 => ?_)
      · skip
        refine lv_iinc (v := 3) (lv' := [(1, .int 3), (0, .ref (ad (60, j, 0)))]) S.1 S.2.1 dX1_hasTold_19 hl (k := 0) rfl (by decide) (by decide) rfl (fun ls hl => ?_)
        refine lv_goto (tgt := 2) S.1 S.2.1 dX1_hasTold_22 (by decide) ?_
        refine lv_iload_n S.1 S.2.1 dX1_hasTold_2 rfl (lv_at hl 0 rfl) ?_
        refine lv_bipush (v := 6) S.1 S.2.1 dX1_hasTold_3 (by decide) ?_
        refine lv_icmp_ge (tgt := 25) S.1 S.2.1 dX1_hasTold_5 (by decide) (fun h9 => absurd h9 (by decide)) (fun _ => ?_)
        refine lv_aload_n S.1 S.2.1 dX1_hasTold_8 rfl (lv_at hl 1 rfl) ?_
        refine hm_get (k := 1) S hE hG h60 rfl rfl hi_X10 (by decide) hb_54 rfl rfl dX1_hasTold_9 ?_
        refine lv_iload_n S.1 S.2.1 dX1_hasTold_12 rfl (lv_at hl 0 rfl) ?_
        refine hm_iald (x := (gTo d) 3) S hE hG h62 rfl (by unfold vp_in; decide) (congrArg (gTo d) (by decide)) dX1_hasTold_13 ?_
        refine lv_if_eq (tgt := 19) S.1 S.2.1 dX1_hasTold_14 (by decide) (fun c14 => ?_) (fun c14 => ?_)
        · skip
          refine lv_iinc (v := 4) (lv' := [(1, .int 4), (0, .ref (ad (60, j, 0)))]) S.1 S.2.1 dX1_hasTold_19 hl (k := 0) rfl (by decide) (by decide) rfl (fun ls hl => ?_)
          refine lv_goto (tgt := 2) S.1 S.2.1 dX1_hasTold_22 (by decide) ?_
          refine lv_iload_n S.1 S.2.1 dX1_hasTold_2 rfl (lv_at hl 0 rfl) ?_
          refine lv_bipush (v := 6) S.1 S.2.1 dX1_hasTold_3 (by decide) ?_
          refine lv_icmp_ge (tgt := 25) S.1 S.2.1 dX1_hasTold_5 (by decide) (fun h9 => absurd h9 (by decide)) (fun _ => ?_)
          refine lv_aload_n S.1 S.2.1 dX1_hasTold_8 rfl (lv_at hl 1 rfl) ?_
          refine hm_get (k := 1) S hE hG h60 rfl rfl hi_X10 (by decide) hb_54 rfl rfl dX1_hasTold_9 ?_
          refine lv_iload_n S.1 S.2.1 dX1_hasTold_12 rfl (lv_at hl 0 rfl) ?_
          refine hm_iald (x := (gTo d) 4) S hE hG h62 rfl (by unfold vp_in; decide) (congrArg (gTo d) (by decide)) dX1_hasTold_13 ?_
          refine lv_if_eq (tgt := 19) S.1 S.2.1 dX1_hasTold_14 (by decide) (fun c14 => ?_) (fun c14 => ?_)
          · skip
            refine lv_iinc (v := 5) (lv' := [(1, .int 5), (0, .ref (ad (60, j, 0)))]) S.1 S.2.1 dX1_hasTold_19 hl (k := 0) rfl (by decide) (by decide) rfl (fun ls hl => ?_)
            refine lv_goto (tgt := 2) S.1 S.2.1 dX1_hasTold_22 (by decide) ?_
            refine lv_iload_n S.1 S.2.1 dX1_hasTold_2 rfl (lv_at hl 0 rfl) ?_
            refine lv_bipush (v := 6) S.1 S.2.1 dX1_hasTold_3 (by decide) ?_
            refine lv_icmp_ge (tgt := 25) S.1 S.2.1 dX1_hasTold_5 (by decide) (fun h9 => absurd h9 (by decide)) (fun _ => ?_)
            refine lv_aload_n S.1 S.2.1 dX1_hasTold_8 rfl (lv_at hl 1 rfl) ?_
            refine hm_get (k := 1) S hE hG h60 rfl rfl hi_X10 (by decide) hb_54 rfl rfl dX1_hasTold_9 ?_
            refine lv_iload_n S.1 S.2.1 dX1_hasTold_12 rfl (lv_at hl 0 rfl) ?_
            refine hm_iald (x := (gTo d) 5) S hE hG h62 rfl (by unfold vp_in; decide) (congrArg (gTo d) (by decide)) dX1_hasTold_13 ?_
            refine lv_if_eq (tgt := 19) S.1 S.2.1 dX1_hasTold_14 (by decide) (fun c14 => ?_) (fun c14 => ?_)
            · skip
              refine lv_iinc (v := 6) (lv' := [(1, .int 6), (0, .ref (ad (60, j, 0)))]) S.1 S.2.1 dX1_hasTold_19 hl (k := 0) rfl (by decide) (by decide) rfl (fun ls hl => ?_)
              refine lv_goto (tgt := 2) S.1 S.2.1 dX1_hasTold_22 (by decide) ?_
              refine lv_iload_n S.1 S.2.1 dX1_hasTold_2 rfl (lv_at hl 0 rfl) ?_
              refine lv_bipush (v := 6) S.1 S.2.1 dX1_hasTold_3 (by decide) ?_
              refine lv_icmp_ge (tgt := 25) S.1 S.2.1 dX1_hasTold_5 (by decide) (fun _ => ?_) (fun h9 => absurd (by decide) h9)
              refine lv_iconst (v := 0) S.1 S.2.1 dX1_hasTold_25 (by decide) ?_
              exact hm_zret S hG hr hlk (by decide) (⟨by simp [nzF, bI, *], rfl, rfl⟩) (Nat.le_of_ble_eq_true rfl) (Nat.le_of_ble_eq_true rfl) dX1_hasTold_26
            · skip
              refine lv_iconst (v := 1) S.1 S.2.1 dX1_hasTold_17 (by decide) ?_
              exact hm_zret S hG hr hlk (by decide) (⟨by simp [nzF, bI, *], rfl, rfl⟩) (Nat.le_of_ble_eq_true rfl) (Nat.le_of_ble_eq_true rfl) dX1_hasTold_18
          · skip
            refine lv_iconst (v := 1) S.1 S.2.1 dX1_hasTold_17 (by decide) ?_
            exact hm_zret S hG hr hlk (by decide) (⟨by simp [nzF, bI, *], rfl, rfl⟩) (Nat.le_of_ble_eq_true rfl) (Nat.le_of_ble_eq_true rfl) dX1_hasTold_18
        · skip
          refine lv_iconst (v := 1) S.1 S.2.1 dX1_hasTold_17 (by decide) ?_
          exact hm_zret S hG hr hlk (by decide) (⟨by simp [nzF, bI, *], rfl, rfl⟩) (Nat.le_of_ble_eq_true rfl) (Nat.le_of_ble_eq_true rfl) dX1_hasTold_18
      · skip
        refine lv_iconst (v := 1) S.1 S.2.1 dX1_hasTold_17 (by decide) ?_
        exact hm_zret S hG hr hlk (by decide) (⟨by simp [nzF, bI, *], rfl, rfl⟩) (Nat.le_of_ble_eq_true rfl) (Nat.le_of_ble_eq_true rfl) dX1_hasTold_18
    · skip
      refine lv_iconst (v := 1) S.1 S.2.1 dX1_hasTold_17 (by decide) ?_
      exact hm_zret S hG hr hlk (by decide) (⟨by simp [nzF, bI, *], rfl, rfl⟩) (Nat.le_of_ble_eq_true rfl) (Nat.le_of_ble_eq_true rfl) dX1_hasTold_18
  · skip
    refine lv_iconst (v := 1) S.1 S.2.1 dX1_hasTold_17 (by decide) ?_
    exact hm_zret S hG hr hlk (by decide) (⟨by simp [nzF, bI, *], rfl, rfl⟩) (Nat.le_of_ble_eq_true rfl) (Nat.le_of_ble_eq_true rfl) dX1_hasTold_18

abbrev rm_X1_hasChanged : Room := { frames := 0, cells := 0, slots := 0, locals := 0 }
set_option maxHeartbeats 4000000 in
set_option maxRecDepth 100000 in
theorem c_X1_hasChanged (l : Launch) (g : GV) (ad : AD) (M : CT) (j : Nat) (d : GrD) (hd : hasGr g ad M j d) : hm_Met l yX1_hasChanged cX1_hasChanged 2 (some .boolean) rm_X1_hasChanged g ad M [.ref (ad (60, j, 0))] (hm_pU ad M (some (.int (bI (chF (gTo d) (gLo d)))))) := by
  refine hm_start (own := RX1) (by decide) rfl (Nat.le_of_ble_eq_true rfl) ?_
  intro p e s m args below meth c S hr hlk hnm hE hG ls hl
  have hl : lv_has ls 2 [(0, .ref (ad (60, j, 0)))] := hl
  obtain ⟨h60, h61, h62⟩ := id hd
  refine lv_iconst (v := 0) S.1 S.2.1 dX1_hasChanged_0 (by decide) ?_
  refine lv_istore_n (lv' := [(1, .int 0), (0, .ref (ad (60, j, 0)))]) S.1 S.2.1 dX1_hasChanged_1 rfl hl (by decide) rfl (fun ls hl => ?_)
  refine lv_iload_n S.1 S.2.1 dX1_hasChanged_2 rfl (lv_at hl 0 rfl) ?_
  refine lv_bipush (v := 6) S.1 S.2.1 dX1_hasChanged_3 (by decide) ?_
  refine lv_icmp_ge (tgt := 31) S.1 S.2.1 dX1_hasChanged_5 (by decide) (fun h9 => absurd h9 (by decide)) (fun _ => ?_)
  refine lv_aload_n S.1 S.2.1 dX1_hasChanged_8 rfl (lv_at hl 1 rfl) ?_
  refine hm_get (k := 1) S hE hG h60 rfl rfl hi_X10 (by decide) hb_54 rfl rfl dX1_hasChanged_9 ?_
  refine lv_iload_n S.1 S.2.1 dX1_hasChanged_12 rfl (lv_at hl 0 rfl) ?_
  refine hm_iald (x := (gTo d) 0) S hE hG h62 rfl (by unfold vp_in; decide) (congrArg (gTo d) (by decide)) dX1_hasChanged_13 ?_
  refine lv_aload_n S.1 S.2.1 dX1_hasChanged_14 rfl (lv_at hl 1 rfl) ?_
  refine hm_get (k := 0) S hE hG h60 rfl rfl hi_X10 (by decide) hb_53 rfl rfl dX1_hasChanged_15 ?_
  refine lv_iload_n S.1 S.2.1 dX1_hasChanged_18 rfl (lv_at hl 0 rfl) ?_
  refine hm_iald (x := (gLo d) 0) S hE hG h61 rfl (by unfold vp_in; decide) (congrArg (gLo d) (by decide)) dX1_hasChanged_19 ?_
  refine lv_icmp_eq (tgt := 25) S.1 S.2.1 dX1_hasChanged_20 (by decide) (fun c20 => ?_) (fun c20 => ?_)
  · skip
    refine lv_iinc (v := 1) (lv' := [(1, .int 1), (0, .ref (ad (60, j, 0)))]) S.1 S.2.1 dX1_hasChanged_25 hl (k := 0) rfl (by decide) (by decide) rfl (fun ls hl => ?_)
    refine lv_goto (tgt := 2) S.1 S.2.1 dX1_hasChanged_28 (by decide) ?_
    refine lv_iload_n S.1 S.2.1 dX1_hasChanged_2 rfl (lv_at hl 0 rfl) ?_
    refine lv_bipush (v := 6) S.1 S.2.1 dX1_hasChanged_3 (by decide) ?_
    refine lv_icmp_ge (tgt := 31) S.1 S.2.1 dX1_hasChanged_5 (by decide) (fun h9 => absurd h9 (by decide)) (fun _ => ?_)
    refine lv_aload_n S.1 S.2.1 dX1_hasChanged_8 rfl (lv_at hl 1 rfl) ?_
    refine hm_get (k := 1) S hE hG h60 rfl rfl hi_X10 (by decide) hb_54 rfl rfl dX1_hasChanged_9 ?_
    refine lv_iload_n S.1 S.2.1 dX1_hasChanged_12 rfl (lv_at hl 0 rfl) ?_
    refine hm_iald (x := (gTo d) 1) S hE hG h62 rfl (by unfold vp_in; decide) (congrArg (gTo d) (by decide)) dX1_hasChanged_13 ?_
    refine lv_aload_n S.1 S.2.1 dX1_hasChanged_14 rfl (lv_at hl 1 rfl) ?_
    refine hm_get (k := 0) S hE hG h60 rfl rfl hi_X10 (by decide) hb_53 rfl rfl dX1_hasChanged_15 ?_
    refine lv_iload_n S.1 S.2.1 dX1_hasChanged_18 rfl (lv_at hl 0 rfl) ?_
    refine hm_iald (x := (gLo d) 1) S hE hG h61 rfl (by unfold vp_in; decide) (congrArg (gLo d) (by decide)) dX1_hasChanged_19 ?_
    refine lv_icmp_eq (tgt := 25) S.1 S.2.1 dX1_hasChanged_20 (by decide) (fun c20 => ?_) (fun c20 => ?_)
    · skip
      refine lv_iinc (v := 2) (lv' := [(1, .int 2), (0, .ref (ad (60, j, 0)))]) S.1 S.2.1 dX1_hasChanged_25 hl (k := 0) rfl (by decide) (by decide) rfl (fun ls hl => ?_)
      refine lv_goto (tgt := 2) S.1 S.2.1 dX1_hasChanged_28 (by decide) ?_
      refine lv_iload_n S.1 S.2.1 dX1_hasChanged_2 rfl (lv_at hl 0 rfl) ?_
      refine lv_bipush (v := 6) S.1 S.2.1 dX1_hasChanged_3 (by decide) ?_
      refine lv_icmp_ge (tgt := 31) S.1 S.2.1 dX1_hasChanged_5 (by decide) (fun h9 => absurd h9 (by decide)) (fun _ => ?_)
      refine lv_aload_n S.1 S.2.1 dX1_hasChanged_8 rfl (lv_at hl 1 rfl) ?_
      refine hm_get (k := 1) S hE hG h60 rfl rfl hi_X10 (by decide) hb_54 rfl rfl dX1_hasChanged_9 ?_
      refine lv_iload_n S.1 S.2.1 dX1_hasChanged_12 rfl (lv_at hl 0 rfl) ?_
      refine hm_iald (x := (gTo d) 2) S hE hG h62 rfl (by unfold vp_in; decide) (congrArg (gTo d) (by decide)) dX1_hasChanged_13 ?_
      refine lv_aload_n S.1 S.2.1 dX1_hasChanged_14 rfl (lv_at hl 1 rfl) ?_
      refine hm_get (k := 0) S hE hG h60 rfl rfl hi_X10 (by decide) hb_53 rfl rfl dX1_hasChanged_15 ?_
      refine lv_iload_n S.1 S.2.1 dX1_hasChanged_18 rfl (lv_at hl 0 rfl) ?_
      refine hm_iald (x := (gLo d) 2) S hE hG h61 rfl (by unfold vp_in; decide) (congrArg (gLo d) (by decide)) dX1_hasChanged_19 ?_
      refine lv_icmp_eq (tgt := 25) S.1 S.2.1 dX1_hasChanged_20 (by decide) (fun c20 => ?_) (fun c20 => ?_)
      · skip
        refine lv_iinc (v := 3) (lv' := [(1, .int 3), (0, .ref (ad (60, j, 0)))]) S.1 S.2.1 dX1_hasChanged_25 hl (k := 0) rfl (by decide) (by decide) rfl (fun ls hl => ?_)
        refine lv_goto (tgt := 2) S.1 S.2.1 dX1_hasChanged_28 (by decide) ?_
        refine lv_iload_n S.1 S.2.1 dX1_hasChanged_2 rfl (lv_at hl 0 rfl) ?_
        refine lv_bipush (v := 6) S.1 S.2.1 dX1_hasChanged_3 (by decide) ?_
        refine lv_icmp_ge (tgt := 31) S.1 S.2.1 dX1_hasChanged_5 (by decide) (fun h9 => absurd h9 (by decide)) (fun _ => ?_)
        refine lv_aload_n S.1 S.2.1 dX1_hasChanged_8 rfl (lv_at hl 1 rfl) ?_
        refine hm_get (k := 1) S hE hG h60 rfl rfl hi_X10 (by decide) hb_54 rfl rfl dX1_hasChanged_9 ?_
        refine lv_iload_n S.1 S.2.1 dX1_hasChanged_12 rfl (lv_at hl 0 rfl) ?_
        refine hm_iald (x := (gTo d) 3) S hE hG h62 rfl (by unfold vp_in; decide) (congrArg (gTo d) (by decide)) dX1_hasChanged_13 ?_
        refine lv_aload_n S.1 S.2.1 dX1_hasChanged_14 rfl (lv_at hl 1 rfl) ?_
        refine hm_get (k := 0) S hE hG h60 rfl rfl hi_X10 (by decide) hb_53 rfl rfl dX1_hasChanged_15 ?_
        refine lv_iload_n S.1 S.2.1 dX1_hasChanged_18 rfl (lv_at hl 0 rfl) ?_
        refine hm_iald (x := (gLo d) 3) S hE hG h61 rfl (by unfold vp_in; decide) (congrArg (gLo d) (by decide)) dX1_hasChanged_19 ?_
        refine lv_icmp_eq (tgt := 25) S.1 S.2.1 dX1_hasChanged_20 (by decide) (fun c20 => ?_) (fun c20 => ?_)
        · skip
          refine lv_iinc (v := 4) (lv' := [(1, .int 4), (0, .ref (ad (60, j, 0)))]) S.1 S.2.1 dX1_hasChanged_25 hl (k := 0) rfl (by decide) (by decide) rfl (fun ls hl => ?_)
          refine lv_goto (tgt := 2) S.1 S.2.1 dX1_hasChanged_28 (by decide) ?_
          refine lv_iload_n S.1 S.2.1 dX1_hasChanged_2 rfl (lv_at hl 0 rfl) ?_
          refine lv_bipush (v := 6) S.1 S.2.1 dX1_hasChanged_3 (by decide) ?_
          refine lv_icmp_ge (tgt := 31) S.1 S.2.1 dX1_hasChanged_5 (by decide) (fun h9 => absurd h9 (by decide)) (fun _ => ?_)
          refine lv_aload_n S.1 S.2.1 dX1_hasChanged_8 rfl (lv_at hl 1 rfl) ?_
          refine hm_get (k := 1) S hE hG h60 rfl rfl hi_X10 (by decide) hb_54 rfl rfl dX1_hasChanged_9 ?_
          refine lv_iload_n S.1 S.2.1 dX1_hasChanged_12 rfl (lv_at hl 0 rfl) ?_
          refine hm_iald (x := (gTo d) 4) S hE hG h62 rfl (by unfold vp_in; decide) (congrArg (gTo d) (by decide)) dX1_hasChanged_13 ?_
          refine lv_aload_n S.1 S.2.1 dX1_hasChanged_14 rfl (lv_at hl 1 rfl) ?_
          refine hm_get (k := 0) S hE hG h60 rfl rfl hi_X10 (by decide) hb_53 rfl rfl dX1_hasChanged_15 ?_
          refine lv_iload_n S.1 S.2.1 dX1_hasChanged_18 rfl (lv_at hl 0 rfl) ?_
          refine hm_iald (x := (gLo d) 4) S hE hG h61 rfl (by unfold vp_in; decide) (congrArg (gLo d) (by decide)) dX1_hasChanged_19 ?_
          refine lv_icmp_eq (tgt := 25) S.1 S.2.1 dX1_hasChanged_20 (by decide) (fun c20 => ?_) (fun c20 => ?_)
          · skip
            refine lv_iinc (v := 5) (lv' := [(1, .int 5), (0, .ref (ad (60, j, 0)))]) S.1 S.2.1 dX1_hasChanged_25 hl (k := 0) rfl (by decide) (by decide) rfl (fun ls hl => ?_)
            refine lv_goto (tgt := 2) S.1 S.2.1 dX1_hasChanged_28 (by decide) ?_
            refine lv_iload_n S.1 S.2.1 dX1_hasChanged_2 rfl (lv_at hl 0 rfl) ?_
            refine lv_bipush (v := 6) S.1 S.2.1 dX1_hasChanged_3 (by decide) ?_
            refine lv_icmp_ge (tgt := 31) S.1 S.2.1 dX1_hasChanged_5 (by decide) (fun h9 => absurd h9 (by decide)) (fun _ => ?_)
            refine lv_aload_n S.1 S.2.1 dX1_hasChanged_8 rfl (lv_at hl 1 rfl) ?_
            refine hm_get (k := 1) S hE hG h60 rfl rfl hi_X10 (by decide) hb_54 rfl rfl dX1_hasChanged_9 ?_
            refine lv_iload_n S.1 S.2.1 dX1_hasChanged_12 rfl (lv_at hl 0 rfl) ?_
            refine hm_iald (x := (gTo d) 5) S hE hG h62 rfl (by unfold vp_in; decide) (congrArg (gTo d) (by decide)) dX1_hasChanged_13 ?_
            refine lv_aload_n S.1 S.2.1 dX1_hasChanged_14 rfl (lv_at hl 1 rfl) ?_
            refine hm_get (k := 0) S hE hG h60 rfl rfl hi_X10 (by decide) hb_53 rfl rfl dX1_hasChanged_15 ?_
            refine lv_iload_n S.1 S.2.1 dX1_hasChanged_18 rfl (lv_at hl 0 rfl) ?_
            refine hm_iald (x := (gLo d) 5) S hE hG h61 rfl (by unfold vp_in; decide) (congrArg (gLo d) (by decide)) dX1_hasChanged_19 ?_
            refine lv_icmp_eq (tgt := 25) S.1 S.2.1 dX1_hasChanged_20 (by decide) (fun c20 => ?_) (fun c20 => ?_)
            · skip
              refine lv_iinc (v := 6) (lv' := [(1, .int 6), (0, .ref (ad (60, j, 0)))]) S.1 S.2.1 dX1_hasChanged_25 hl (k := 0) rfl (by decide) (by decide) rfl (fun ls hl => ?_)
              refine lv_goto (tgt := 2) S.1 S.2.1 dX1_hasChanged_28 (by decide) ?_
              refine lv_iload_n S.1 S.2.1 dX1_hasChanged_2 rfl (lv_at hl 0 rfl) ?_
              refine lv_bipush (v := 6) S.1 S.2.1 dX1_hasChanged_3 (by decide) ?_
              refine lv_icmp_ge (tgt := 31) S.1 S.2.1 dX1_hasChanged_5 (by decide) (fun _ => ?_) (fun h9 => absurd (by decide) h9)
              refine lv_iconst (v := 0) S.1 S.2.1 dX1_hasChanged_31 (by decide) ?_
              exact hm_zret S hG hr hlk (by decide) (⟨by simp [chF, bI, *], rfl, rfl⟩) (Nat.le_of_ble_eq_true rfl) (Nat.le_of_ble_eq_true rfl) dX1_hasChanged_32
            · skip
              refine lv_iconst (v := 1) S.1 S.2.1 dX1_hasChanged_23 (by decide) ?_
              exact hm_zret S hG hr hlk (by decide) (⟨by simp [chF, bI, *], rfl, rfl⟩) (Nat.le_of_ble_eq_true rfl) (Nat.le_of_ble_eq_true rfl) dX1_hasChanged_24
          · skip
            refine lv_iconst (v := 1) S.1 S.2.1 dX1_hasChanged_23 (by decide) ?_
            exact hm_zret S hG hr hlk (by decide) (⟨by simp [chF, bI, *], rfl, rfl⟩) (Nat.le_of_ble_eq_true rfl) (Nat.le_of_ble_eq_true rfl) dX1_hasChanged_24
        · skip
          refine lv_iconst (v := 1) S.1 S.2.1 dX1_hasChanged_23 (by decide) ?_
          exact hm_zret S hG hr hlk (by decide) (⟨by simp [chF, bI, *], rfl, rfl⟩) (Nat.le_of_ble_eq_true rfl) (Nat.le_of_ble_eq_true rfl) dX1_hasChanged_24
      · skip
        refine lv_iconst (v := 1) S.1 S.2.1 dX1_hasChanged_23 (by decide) ?_
        exact hm_zret S hG hr hlk (by decide) (⟨by simp [chF, bI, *], rfl, rfl⟩) (Nat.le_of_ble_eq_true rfl) (Nat.le_of_ble_eq_true rfl) dX1_hasChanged_24
    · skip
      refine lv_iconst (v := 1) S.1 S.2.1 dX1_hasChanged_23 (by decide) ?_
      exact hm_zret S hG hr hlk (by decide) (⟨by simp [chF, bI, *], rfl, rfl⟩) (Nat.le_of_ble_eq_true rfl) (Nat.le_of_ble_eq_true rfl) dX1_hasChanged_24
  · skip
    refine lv_iconst (v := 1) S.1 S.2.1 dX1_hasChanged_23 (by decide) ?_
    exact hm_zret S hG hr hlk (by decide) (⟨by simp [chF, bI, *], rfl, rfl⟩) (Nat.le_of_ble_eq_true rfl) (Nat.le_of_ble_eq_true rfl) dX1_hasChanged_24

abbrev rm_X1_isDue : Room := { frames := 3, cells := 0, slots := 0, locals := 62 }
set_option maxHeartbeats 4000000 in
set_option maxRecDepth 100000 in
theorem c_X1_isDue (l : Launch) (g : GV) (ad : AD) (M : CT) (j : Nat) (d : GrD) (hd : hasGr g ad M j d) (clk rep : Int32) : hm_Met l yX1_isDue cX1_isDue 4 (some .boolean) rm_X1_isDue g ad M [.ref (ad (60, j, 0)), .int clk, .int rep] (hm_pU ad M (some (.int (bI (dueF d clk rep))))) := by
  refine hm_start (own := RX1) (by decide) rfl (Nat.le_of_ble_eq_true rfl) ?_
  intro p e s m args below meth c S hr hlk hnm hE hG ls hl
  have hl : lv_has ls 4 [(0, .ref (ad (60, j, 0))), (1, .int clk), (2, .int rep)] := hl
  obtain ⟨h60, h61, h62⟩ := id hd
  refine lv_aload_n S.1 S.2.1 dX1_isDue_0 rfl (lv_at hl 0 rfl) ?_
  refine hm_uV (As := []) (rest := []) (st1 := [.int (bI (ilF d))]) S hE hG (c_X1_isLoud l g ad M j d hd) (hm_gV hb_441 hb_442 hb_443 hb_22 hb_444) hd_X1_isLoud rfl h60 rfl rfl ⟨Nat.le_of_ble_eq_true rfl, Nat.le_of_ble_eq_true rfl⟩ rfl hl.1 rfl (Nat.le_of_ble_eq_true rfl) dX1_isDue_1 ⟨Nat.le_of_ble_eq_true rfl, Nat.le_of_ble_eq_true rfl⟩ rfl (fun H locs hG => ?_)
  refine lv_if_ne (tgt := 12) S.1 S.2.1 dX1_isDue_4 (by decide) (fun c4 => ?_) (fun c4 => ?_)
  · skip
    have e4 : ilF d = true := bI_ne.mp c4
    refine lv_aload_n S.1 S.2.1 dX1_isDue_12 rfl (lv_at hl 0 rfl) ?_
    refine hm_uV (As := []) (rest := []) (st1 := [.int (bI (nzF (gTo d)))]) S hE hG (c_X1_hasTold l g ad M j d hd) (hm_gV hb_456 hb_457 hb_458 hb_22 hb_459) hd_X1_hasTold rfl h60 rfl rfl ⟨Nat.le_of_ble_eq_true rfl, Nat.le_of_ble_eq_true rfl⟩ rfl hl.1 rfl (Nat.le_of_ble_eq_true rfl) dX1_isDue_13 ⟨Nat.le_of_ble_eq_true rfl, Nat.le_of_ble_eq_true rfl⟩ rfl (fun H locs hG => ?_)
    refine lv_if_ne (tgt := 24) S.1 S.2.1 dX1_isDue_16 (by decide) (fun c16 => ?_) (fun c16 => ?_)
    · skip
      have e16 : nzF (gTo d) = true := bI_ne.mp c16
      refine lv_iload_n S.1 S.2.1 dX1_isDue_24 rfl (lv_at hl 1 rfl) ?_
      refine lv_aload_n S.1 S.2.1 dX1_isDue_25 rfl (lv_at hl 0 rfl) ?_
      refine hm_get (k := 2) S hE hG h60 rfl rfl hi_X10 (by decide) hb_55 rfl rfl dX1_isDue_26 ?_
      refine lv_isub S.1 S.2.1 dX1_isDue_29 ?_
      refine lv_istore_n (lv' := [(3, .int (clk - (gAt d))), (0, .ref (ad (60, j, 0))), (1, .int clk), (2, .int rep)]) S.1 S.2.1 dX1_isDue_30 rfl hl (by decide) rfl (fun ls hl => ?_)
      refine lv_iload_n S.1 S.2.1 dX1_isDue_31 rfl (lv_at hl 0 rfl) ?_
      refine lv_iload_n S.1 S.2.1 dX1_isDue_32 rfl (lv_at hl 3 rfl) ?_
      refine lv_icmp_ge (tgt := 48) S.1 S.2.1 dX1_isDue_33 (by decide) (fun c33 => ?_) (fun c33 => ?_)
      · skip
        refine lv_iconst (v := 1) S.1 S.2.1 dX1_isDue_48 (by decide) ?_
        refine lv_goto (tgt := 53) S.1 S.2.1 dX1_isDue_49 (by decide) ?_
        exact hm_zret S hG hr hlk (by decide) (⟨by rw [dueF]; simp [bI, *], rfl, rfl⟩) (Nat.le_of_ble_eq_true rfl) (Nat.le_of_ble_eq_true rfl) dX1_isDue_53
      · skip
        refine lv_iload_n S.1 S.2.1 dX1_isDue_36 rfl (lv_at hl 0 rfl) ?_
        refine lv_iconst (v := 3) S.1 S.2.1 dX1_isDue_37 (by decide) ?_
        refine lv_icmp_lt (tgt := 52) S.1 S.2.1 dX1_isDue_38 (by decide) (fun c38 => ?_) (fun c38 => ?_)
        · skip
          have e38 : ¬ 3 ≤ clk - gAt d := Int32.not_le.mpr c38
          refine lv_iconst (v := 0) S.1 S.2.1 dX1_isDue_52 (by decide) ?_
          exact hm_zret S hG hr hlk (by decide) (⟨by rw [dueF]; simp [bI, *], rfl, rfl⟩) (Nat.le_of_ble_eq_true rfl) (Nat.le_of_ble_eq_true rfl) dX1_isDue_53
        · skip
          have e38 : 3 ≤ clk - gAt d := Int32.not_lt.mp c38
          refine lv_aload_n S.1 S.2.1 dX1_isDue_41 rfl (lv_at hl 1 rfl) ?_
          refine hm_uV (As := []) (rest := []) (st1 := [.int (bI (chF (gTo d) (gLo d)))]) S hE hG (c_X1_hasChanged l g ad M j d hd) (hm_gV hb_460 hb_461 hb_462 hb_22 hb_463) hd_X1_hasChanged rfl h60 rfl rfl ⟨Nat.le_of_ble_eq_true rfl, Nat.le_of_ble_eq_true rfl⟩ rfl hl.1 rfl (Nat.le_of_ble_eq_true rfl) dX1_isDue_42 ⟨Nat.le_of_ble_eq_true rfl, Nat.le_of_ble_eq_true rfl⟩ rfl (fun H locs hG => ?_)
          refine lv_if_eq (tgt := 52) S.1 S.2.1 dX1_isDue_45 (by decide) (fun c45 => ?_) (fun c45 => ?_)
          · skip
            have e45 : chF (gTo d) (gLo d) = false := bI_0.mp c45
            refine lv_iconst (v := 0) S.1 S.2.1 dX1_isDue_52 (by decide) ?_
            exact hm_zret S hG hr hlk (by decide) (⟨by rw [dueF]; simp [bI, *], rfl, rfl⟩) (Nat.le_of_ble_eq_true rfl) (Nat.le_of_ble_eq_true rfl) dX1_isDue_53
          · skip
            have e45 : chF (gTo d) (gLo d) = true := bI_ne.mp c45
            refine lv_iconst (v := 1) S.1 S.2.1 dX1_isDue_48 (by decide) ?_
            refine lv_goto (tgt := 53) S.1 S.2.1 dX1_isDue_49 (by decide) ?_
            exact hm_zret S hG hr hlk (by decide) (⟨by rw [dueF]; simp [bI, *], rfl, rfl⟩) (Nat.le_of_ble_eq_true rfl) (Nat.le_of_ble_eq_true rfl) dX1_isDue_53
    · skip
      have e16 : nzF (gTo d) = false := bI_0.mp c16
      refine lv_aload_n S.1 S.2.1 dX1_isDue_19 rfl (lv_at hl 0 rfl) ?_
      refine hm_get (k := 3) S hE hG h60 rfl rfl hi_X10 (by decide) hb_56 rfl rfl dX1_isDue_20 ?_
      exact hm_zret S hG hr hlk (bI_01 _) (⟨by rw [dueF]; simp [bI, *], rfl, rfl⟩) (Nat.le_of_ble_eq_true rfl) (Nat.le_of_ble_eq_true rfl) dX1_isDue_23
  · skip
    have e4 : ilF d = false := bI_0.mp c4
    refine lv_aload_n S.1 S.2.1 dX1_isDue_7 rfl (lv_at hl 0 rfl) ?_
    refine hm_uV (As := []) (rest := []) (st1 := [.int (bI (nzF (gTo d)))]) S hE hG (c_X1_hasTold l g ad M j d hd) (hm_gV hb_456 hb_457 hb_458 hb_22 hb_459) hd_X1_hasTold rfl h60 rfl rfl ⟨Nat.le_of_ble_eq_true rfl, Nat.le_of_ble_eq_true rfl⟩ rfl hl.1 rfl (Nat.le_of_ble_eq_true rfl) dX1_isDue_8 ⟨Nat.le_of_ble_eq_true rfl, Nat.le_of_ble_eq_true rfl⟩ rfl (fun H locs hG => ?_)
    exact hm_zret S hG hr hlk (bI_01 _) (⟨by rw [dueF]; simp [bI, *], rfl, rfl⟩) (Nat.le_of_ble_eq_true rfl) (Nat.le_of_ble_eq_true rfl) dX1_isDue_11

abbrev rm_X1_hasLoudOf : Room := { frames := 1, cells := 0, slots := 0, locals := 22 }
set_option maxHeartbeats 4000000 in
set_option maxRecDepth 100000 in
theorem c_X1_hasLoudOf (l : Launch) (g : GV) (ad : AD) (M : CT) (j : Nat) (d : GrD) (hd : hasGr g ad M j d) (r : Nat) (hr6 : r < 6) : hm_Met l yX1_hasLoudOf cX1_hasLoudOf 2 (some .boolean) rm_X1_hasLoudOf g ad M [.ref (ad (60, j, 0)), .int (nI r)] (hm_pU ad M (some (.int (bI (!decide (gLo d r = 0)))))) := by
  refine hm_start (own := RX1) (by decide) rfl (Nat.le_of_ble_eq_true rfl) ?_
  intro p e s m args below meth c S hr hlk hnm hE hG ls hl
  have hl : lv_has ls 2 [(0, .ref (ad (60, j, 0))), (1, .int (nI r))] := hl
  obtain ⟨h60, h61, h62⟩ := id hd
  refine lv_iload_n S.1 S.2.1 dX1_hasLoudOf_0 rfl (lv_at hl 1 rfl) ?_
  refine lv_iconst (v := 0) S.1 S.2.1 dX1_hasLoudOf_1 (by decide) ?_
  refine lv_iconst (v := 5) S.1 S.2.1 dX1_hasLoudOf_2 (by decide) ?_
  refine hm_uSN (As := [.int (nI r), .int 0, .int 5]) (rest := []) (st1 := [.int (bI (decide ((nI r) < 0) || decide (5 < (nI r))))]) S hE hG (c_X6_isOutside l g ad M (nI r) 0 5) hb_93 hb_2 hb_92 (List.mem_of_getElem? (i := 3) rfl) hd_X6_isOutside ⟨Nat.le_of_ble_eq_true rfl, Nat.le_of_ble_eq_true rfl⟩ rfl hl.1 rfl (Nat.le_of_ble_eq_true rfl) dX1_hasLoudOf_3 ⟨Nat.le_of_ble_eq_true rfl, Nat.le_of_ble_eq_true rfl⟩ rfl (fun H locs hG => ?_)
  refine lv_if_ne (tgt := 22) S.1 S.2.1 dX1_hasLoudOf_6 (by decide) (fun h9 => absurd (hm_in0 (b := 5) (by omega) (by decide)) h9) (fun _ => ?_)
  refine lv_aload_n S.1 S.2.1 dX1_hasLoudOf_9 rfl (lv_at hl 0 rfl) ?_
  refine hm_get (k := 0) S hE hG h60 rfl rfl hi_X10 (by decide) hb_53 rfl rfl dX1_hasLoudOf_10 ?_
  refine lv_iload_n S.1 S.2.1 dX1_hasLoudOf_13 rfl (lv_at hl 1 rfl) ?_
  refine hm_iald (x := (gLo d) r) S hE hG h61 rfl (vp_in_nI (hr6) (by decide)) (congrArg (gLo d) (nI_clamp (Nat.lt_trans (hr6) (by decide)))) dX1_hasLoudOf_14 ?_
  refine lv_if_eq (tgt := 22) S.1 S.2.1 dX1_hasLoudOf_15 (by decide) (fun c15 => ?_) (fun c15 => ?_)
  · skip
    refine lv_iconst (v := 0) S.1 S.2.1 dX1_hasLoudOf_22 (by decide) ?_
    exact hm_zret S hG hr hlk (by decide) (⟨by simp [bI, *], rfl, rfl⟩) (Nat.le_of_ble_eq_true rfl) (Nat.le_of_ble_eq_true rfl) dX1_hasLoudOf_23
  · skip
    refine lv_iconst (v := 1) S.1 S.2.1 dX1_hasLoudOf_18 (by decide) ?_
    refine lv_goto (tgt := 23) S.1 S.2.1 dX1_hasLoudOf_19 (by decide) ?_
    exact hm_zret S hG hr hlk (by decide) (⟨by simp [bI, *], rfl, rfl⟩) (Nat.le_of_ble_eq_true rfl) (Nat.le_of_ble_eq_true rfl) dX1_hasLoudOf_23

abbrev rm_X1_addLoud : Room := { frames := 1, cells := 0, slots := 0, locals := 22 }
set_option maxHeartbeats 4000000 in
set_option maxRecDepth 100000 in
theorem c_X1_addLoud (l : Launch) (g : GV) (ad : AD) (M : CT) (j : Nat) (d : GrD) (hd : hasGr g ad M j d) (r k : Nat) (hr6 : r < 6) : hm_Met l yX1_addLoud cX1_addLoud 3 none rm_X1_addLoud g ad M [.ref (ad (60, j, 0)), .int (nI r), .int (nI k)] (hm_pU ad (hm_up M (61, j, 0) (hm_ia g 6 (gLo (alF d r k)))) none) := by
  refine hm_start (own := RX1) (by decide) rfl (Nat.le_of_ble_eq_true rfl) ?_
  intro p e s m args below meth c S hr hlk hnm hE hG ls hl
  have hl : lv_has ls 3 [(0, .ref (ad (60, j, 0))), (1, .int (nI r)), (2, .int (nI k))] := hl
  obtain ⟨h60, h61, h62⟩ := id hd
  refine lv_iload_n S.1 S.2.1 dX1_addLoud_0 rfl (lv_at hl 1 rfl) ?_
  refine lv_iconst (v := 0) S.1 S.2.1 dX1_addLoud_1 (by decide) ?_
  refine lv_iconst (v := 5) S.1 S.2.1 dX1_addLoud_2 (by decide) ?_
  refine hm_uSN (As := [.int (nI r), .int 0, .int 5]) (rest := []) (st1 := [.int (bI (decide ((nI r) < 0) || decide (5 < (nI r))))]) S hE hG (c_X6_isOutside l g ad M (nI r) 0 5) hb_93 hb_2 hb_92 (List.mem_of_getElem? (i := 3) rfl) hd_X6_isOutside ⟨Nat.le_of_ble_eq_true rfl, Nat.le_of_ble_eq_true rfl⟩ rfl hl.1 rfl (Nat.le_of_ble_eq_true rfl) dX1_addLoud_3 ⟨Nat.le_of_ble_eq_true rfl, Nat.le_of_ble_eq_true rfl⟩ rfl (fun H locs hG => ?_)
  refine lv_if_ne (tgt := 21) S.1 S.2.1 dX1_addLoud_6 (by decide) (fun h9 => absurd (hm_in0 (b := 5) (by omega) (by decide)) h9) (fun _ => ?_)
  refine lv_aload_n S.1 S.2.1 dX1_addLoud_9 rfl (lv_at hl 0 rfl) ?_
  refine hm_get (k := 0) S hE hG h60 rfl rfl hi_X10 (by decide) hb_53 rfl rfl dX1_addLoud_10 ?_
  refine lv_iload_n S.1 S.2.1 dX1_addLoud_13 rfl (lv_at hl 1 rfl) ?_
  refine lv_dup2_11 S.1 S.2.1 dX1_addLoud_14 rfl rfl ?_
  refine hm_iald (x := (gLo d) r) S hE hG h61 rfl (vp_in_nI (hr6) (by decide)) (congrArg (gLo d) (nI_clamp (Nat.lt_trans (hr6) (by decide)))) dX1_addLoud_15 ?_
  refine lv_iconst (v := 1) S.1 S.2.1 dX1_addLoud_16 (by decide) ?_
  refine lv_iload_n S.1 S.2.1 dX1_addLoud_17 rfl (lv_at hl 2 rfl) ?_
  refine lv_ishl S.1 S.2.1 dX1_addLoud_18 ?_
  refine lv_ior S.1 S.2.1 dX1_addLoud_19 ?_
  refine hm_iast2 (j := r) (x := (((gLo d) r) ||| (1 <<< ((nI k) &&& 31)))) S hE hG h61 rfl (vp_in_nI (hr6) (by decide)) (nI_clamp (Nat.lt_trans (hr6) (by decide))) dX1_addLoud_20 (fun H locs hG => ?_)
  obtain ⟨M_1, eM_1⟩ : ∃ z, z = hm_up M (61, j, 0) (hm_ia g 6 (upd (gLo d) r (((gLo d) r) ||| (1 <<< ((nI k) &&& 31))))) := ⟨_, rfl⟩
  rw [← eM_1] at hG
  have h_2 : M_1 (60, j, 0) = some (.inr (2, [.ref (ad (61, j, 0)), .ref (ad (62, j, 0)), .int (gAt d), .int (bI (gWa d))])) := by rw [eM_1]; exact (hm_up_n (by simp)).trans h60
  have h_3 : M_1 (61, j, 0) = some (hm_ia g 6 (upd (gLo d) r (((gLo d) r) ||| (1 <<< ((nI k) &&& 31))))) := by rw [eM_1]; exact hm_up_s
  have h_4 : M_1 (62, j, 0) = some (hm_ia g 6 (gTo d)) := by rw [eM_1]; exact (hm_up_n (by simp)).trans h62
  exact hm_vret S hG hr hlk (⟨rfl, rfl, by subst_vars; rfl⟩) (Nat.le_of_ble_eq_true rfl) (Nat.le_of_ble_eq_true rfl) dX1_addLoud_21

abbrev rm_X1_clearLoud : Room := { frames := 0, cells := 0, slots := 0, locals := 0 }
set_option maxHeartbeats 4000000 in
set_option maxRecDepth 100000 in
theorem c_X1_clearLoud (l : Launch) (g : GV) (ad : AD) (M : CT) (j : Nat) (d : GrD) (hd : hasGr g ad M j d) : hm_Met l yX1_clearLoud cX1_clearLoud 2 none rm_X1_clearLoud g ad M [.ref (ad (60, j, 0))] (hm_pU ad (hm_up M (61, j, 0) (hm_ia g 6 (gLo (clF d)))) none) := by
  refine hm_start (own := RX1) (by decide) rfl (Nat.le_of_ble_eq_true rfl) ?_
  intro p e s m args below meth c S hr hlk hnm hE hG ls hl
  have hl : lv_has ls 2 [(0, .ref (ad (60, j, 0)))] := hl
  obtain ⟨h60, h61, h62⟩ := id hd
  refine lv_iconst (v := 0) S.1 S.2.1 dX1_clearLoud_0 (by decide) ?_
  refine lv_istore_n (lv' := [(1, .int 0), (0, .ref (ad (60, j, 0)))]) S.1 S.2.1 dX1_clearLoud_1 rfl hl (by decide) rfl (fun ls hl => ?_)
  refine lv_iload_n S.1 S.2.1 dX1_clearLoud_2 rfl (lv_at hl 0 rfl) ?_
  refine lv_bipush (v := 6) S.1 S.2.1 dX1_clearLoud_3 (by decide) ?_
  refine lv_icmp_ge (tgt := 21) S.1 S.2.1 dX1_clearLoud_5 (by decide) (fun h9 => absurd h9 (by decide)) (fun _ => ?_)
  refine lv_aload_n S.1 S.2.1 dX1_clearLoud_8 rfl (lv_at hl 1 rfl) ?_
  refine hm_get (k := 0) S hE hG h60 rfl rfl hi_X10 (by decide) hb_53 rfl rfl dX1_clearLoud_9 ?_
  refine lv_iload_n S.1 S.2.1 dX1_clearLoud_12 rfl (lv_at hl 0 rfl) ?_
  refine lv_iconst (v := 0) S.1 S.2.1 dX1_clearLoud_13 (by decide) ?_
  refine hm_iast2 (j := 0) (x := 0) S hE hG h61 rfl (by unfold vp_in; decide) (by decide) dX1_clearLoud_14 (fun H locs hG => ?_)
  obtain ⟨M_1, eM_1⟩ : ∃ z, z = hm_up M (61, j, 0) (hm_ia g 6 (upd (gLo d) 0 0)) := ⟨_, rfl⟩
  rw [← eM_1] at hG
  have h_2 : M_1 (60, j, 0) = some (.inr (2, [.ref (ad (61, j, 0)), .ref (ad (62, j, 0)), .int (gAt d), .int (bI (gWa d))])) := by rw [eM_1]; exact (hm_up_n (by simp)).trans h60
  have h_3 : M_1 (61, j, 0) = some (hm_ia g 6 (upd (gLo d) 0 0)) := by rw [eM_1]; exact hm_up_s
  have h_4 : M_1 (62, j, 0) = some (hm_ia g 6 (gTo d)) := by rw [eM_1]; exact (hm_up_n (by simp)).trans h62
  refine lv_iinc (v := 1) (lv' := [(1, .int 1), (0, .ref (ad (60, j, 0)))]) S.1 S.2.1 dX1_clearLoud_15 hl (k := 0) rfl (by decide) (by decide) rfl (fun ls hl => ?_)
  refine lv_goto (tgt := 2) S.1 S.2.1 dX1_clearLoud_18 (by decide) ?_
  refine lv_iload_n S.1 S.2.1 dX1_clearLoud_2 rfl (lv_at hl 0 rfl) ?_
  refine lv_bipush (v := 6) S.1 S.2.1 dX1_clearLoud_3 (by decide) ?_
  refine lv_icmp_ge (tgt := 21) S.1 S.2.1 dX1_clearLoud_5 (by decide) (fun h9 => absurd h9 (by decide)) (fun _ => ?_)
  refine lv_aload_n S.1 S.2.1 dX1_clearLoud_8 rfl (lv_at hl 1 rfl) ?_
  refine hm_get (k := 0) S hE hG h_2 rfl rfl hi_X10 (by decide) hb_53 rfl rfl dX1_clearLoud_9 ?_
  refine lv_iload_n S.1 S.2.1 dX1_clearLoud_12 rfl (lv_at hl 0 rfl) ?_
  refine lv_iconst (v := 0) S.1 S.2.1 dX1_clearLoud_13 (by decide) ?_
  refine hm_iast2 (j := 1) (x := 0) S hE hG h_3 rfl (by unfold vp_in; decide) (by decide) dX1_clearLoud_14 (fun H locs hG => ?_)
  obtain ⟨M_5, eM_5⟩ : ∃ z, z = hm_up M_1 (61, j, 0) (hm_ia g 6 (upd (upd (gLo d) 0 0) 1 0)) := ⟨_, rfl⟩
  rw [← eM_5] at hG
  have h_6 : M_5 (60, j, 0) = some (.inr (2, [.ref (ad (61, j, 0)), .ref (ad (62, j, 0)), .int (gAt d), .int (bI (gWa d))])) := by rw [eM_5]; exact (hm_up_n (by simp)).trans h_2
  have h_7 : M_5 (61, j, 0) = some (hm_ia g 6 (upd (upd (gLo d) 0 0) 1 0)) := by rw [eM_5]; exact hm_up_s
  have h_8 : M_5 (62, j, 0) = some (hm_ia g 6 (gTo d)) := by rw [eM_5]; exact (hm_up_n (by simp)).trans h_4
  refine lv_iinc (v := 2) (lv' := [(1, .int 2), (0, .ref (ad (60, j, 0)))]) S.1 S.2.1 dX1_clearLoud_15 hl (k := 0) rfl (by decide) (by decide) rfl (fun ls hl => ?_)
  refine lv_goto (tgt := 2) S.1 S.2.1 dX1_clearLoud_18 (by decide) ?_
  refine lv_iload_n S.1 S.2.1 dX1_clearLoud_2 rfl (lv_at hl 0 rfl) ?_
  refine lv_bipush (v := 6) S.1 S.2.1 dX1_clearLoud_3 (by decide) ?_
  refine lv_icmp_ge (tgt := 21) S.1 S.2.1 dX1_clearLoud_5 (by decide) (fun h9 => absurd h9 (by decide)) (fun _ => ?_)
  refine lv_aload_n S.1 S.2.1 dX1_clearLoud_8 rfl (lv_at hl 1 rfl) ?_
  refine hm_get (k := 0) S hE hG h_6 rfl rfl hi_X10 (by decide) hb_53 rfl rfl dX1_clearLoud_9 ?_
  refine lv_iload_n S.1 S.2.1 dX1_clearLoud_12 rfl (lv_at hl 0 rfl) ?_
  refine lv_iconst (v := 0) S.1 S.2.1 dX1_clearLoud_13 (by decide) ?_
  refine hm_iast2 (j := 2) (x := 0) S hE hG h_7 rfl (by unfold vp_in; decide) (by decide) dX1_clearLoud_14 (fun H locs hG => ?_)
  obtain ⟨M_9, eM_9⟩ : ∃ z, z = hm_up M_5 (61, j, 0) (hm_ia g 6 (upd (upd (upd (gLo d) 0 0) 1 0) 2 0)) := ⟨_, rfl⟩
  rw [← eM_9] at hG
  have h_10 : M_9 (60, j, 0) = some (.inr (2, [.ref (ad (61, j, 0)), .ref (ad (62, j, 0)), .int (gAt d), .int (bI (gWa d))])) := by rw [eM_9]; exact (hm_up_n (by simp)).trans h_6
  have h_11 : M_9 (61, j, 0) = some (hm_ia g 6 (upd (upd (upd (gLo d) 0 0) 1 0) 2 0)) := by rw [eM_9]; exact hm_up_s
  have h_12 : M_9 (62, j, 0) = some (hm_ia g 6 (gTo d)) := by rw [eM_9]; exact (hm_up_n (by simp)).trans h_8
  refine lv_iinc (v := 3) (lv' := [(1, .int 3), (0, .ref (ad (60, j, 0)))]) S.1 S.2.1 dX1_clearLoud_15 hl (k := 0) rfl (by decide) (by decide) rfl (fun ls hl => ?_)
  refine lv_goto (tgt := 2) S.1 S.2.1 dX1_clearLoud_18 (by decide) ?_
  refine lv_iload_n S.1 S.2.1 dX1_clearLoud_2 rfl (lv_at hl 0 rfl) ?_
  refine lv_bipush (v := 6) S.1 S.2.1 dX1_clearLoud_3 (by decide) ?_
  refine lv_icmp_ge (tgt := 21) S.1 S.2.1 dX1_clearLoud_5 (by decide) (fun h9 => absurd h9 (by decide)) (fun _ => ?_)
  refine lv_aload_n S.1 S.2.1 dX1_clearLoud_8 rfl (lv_at hl 1 rfl) ?_
  refine hm_get (k := 0) S hE hG h_10 rfl rfl hi_X10 (by decide) hb_53 rfl rfl dX1_clearLoud_9 ?_
  refine lv_iload_n S.1 S.2.1 dX1_clearLoud_12 rfl (lv_at hl 0 rfl) ?_
  refine lv_iconst (v := 0) S.1 S.2.1 dX1_clearLoud_13 (by decide) ?_
  refine hm_iast2 (j := 3) (x := 0) S hE hG h_11 rfl (by unfold vp_in; decide) (by decide) dX1_clearLoud_14 (fun H locs hG => ?_)
  obtain ⟨M_13, eM_13⟩ : ∃ z, z = hm_up M_9 (61, j, 0) (hm_ia g 6 (upd (upd (upd (upd (gLo d) 0 0) 1 0) 2 0) 3 0)) := ⟨_, rfl⟩
  rw [← eM_13] at hG
  have h_14 : M_13 (60, j, 0) = some (.inr (2, [.ref (ad (61, j, 0)), .ref (ad (62, j, 0)), .int (gAt d), .int (bI (gWa d))])) := by rw [eM_13]; exact (hm_up_n (by simp)).trans h_10
  have h_15 : M_13 (61, j, 0) = some (hm_ia g 6 (upd (upd (upd (upd (gLo d) 0 0) 1 0) 2 0) 3 0)) := by rw [eM_13]; exact hm_up_s
  have h_16 : M_13 (62, j, 0) = some (hm_ia g 6 (gTo d)) := by rw [eM_13]; exact (hm_up_n (by simp)).trans h_12
  refine lv_iinc (v := 4) (lv' := [(1, .int 4), (0, .ref (ad (60, j, 0)))]) S.1 S.2.1 dX1_clearLoud_15 hl (k := 0) rfl (by decide) (by decide) rfl (fun ls hl => ?_)
  refine lv_goto (tgt := 2) S.1 S.2.1 dX1_clearLoud_18 (by decide) ?_
  refine lv_iload_n S.1 S.2.1 dX1_clearLoud_2 rfl (lv_at hl 0 rfl) ?_
  refine lv_bipush (v := 6) S.1 S.2.1 dX1_clearLoud_3 (by decide) ?_
  refine lv_icmp_ge (tgt := 21) S.1 S.2.1 dX1_clearLoud_5 (by decide) (fun h9 => absurd h9 (by decide)) (fun _ => ?_)
  refine lv_aload_n S.1 S.2.1 dX1_clearLoud_8 rfl (lv_at hl 1 rfl) ?_
  refine hm_get (k := 0) S hE hG h_14 rfl rfl hi_X10 (by decide) hb_53 rfl rfl dX1_clearLoud_9 ?_
  refine lv_iload_n S.1 S.2.1 dX1_clearLoud_12 rfl (lv_at hl 0 rfl) ?_
  refine lv_iconst (v := 0) S.1 S.2.1 dX1_clearLoud_13 (by decide) ?_
  refine hm_iast2 (j := 4) (x := 0) S hE hG h_15 rfl (by unfold vp_in; decide) (by decide) dX1_clearLoud_14 (fun H locs hG => ?_)
  obtain ⟨M_17, eM_17⟩ : ∃ z, z = hm_up M_13 (61, j, 0) (hm_ia g 6 (upd (upd (upd (upd (upd (gLo d) 0 0) 1 0) 2 0) 3 0) 4 0)) := ⟨_, rfl⟩
  rw [← eM_17] at hG
  have h_18 : M_17 (60, j, 0) = some (.inr (2, [.ref (ad (61, j, 0)), .ref (ad (62, j, 0)), .int (gAt d), .int (bI (gWa d))])) := by rw [eM_17]; exact (hm_up_n (by simp)).trans h_14
  have h_19 : M_17 (61, j, 0) = some (hm_ia g 6 (upd (upd (upd (upd (upd (gLo d) 0 0) 1 0) 2 0) 3 0) 4 0)) := by rw [eM_17]; exact hm_up_s
  have h_20 : M_17 (62, j, 0) = some (hm_ia g 6 (gTo d)) := by rw [eM_17]; exact (hm_up_n (by simp)).trans h_16
  refine lv_iinc (v := 5) (lv' := [(1, .int 5), (0, .ref (ad (60, j, 0)))]) S.1 S.2.1 dX1_clearLoud_15 hl (k := 0) rfl (by decide) (by decide) rfl (fun ls hl => ?_)
  refine lv_goto (tgt := 2) S.1 S.2.1 dX1_clearLoud_18 (by decide) ?_
  refine lv_iload_n S.1 S.2.1 dX1_clearLoud_2 rfl (lv_at hl 0 rfl) ?_
  refine lv_bipush (v := 6) S.1 S.2.1 dX1_clearLoud_3 (by decide) ?_
  refine lv_icmp_ge (tgt := 21) S.1 S.2.1 dX1_clearLoud_5 (by decide) (fun h9 => absurd h9 (by decide)) (fun _ => ?_)
  refine lv_aload_n S.1 S.2.1 dX1_clearLoud_8 rfl (lv_at hl 1 rfl) ?_
  refine hm_get (k := 0) S hE hG h_18 rfl rfl hi_X10 (by decide) hb_53 rfl rfl dX1_clearLoud_9 ?_
  refine lv_iload_n S.1 S.2.1 dX1_clearLoud_12 rfl (lv_at hl 0 rfl) ?_
  refine lv_iconst (v := 0) S.1 S.2.1 dX1_clearLoud_13 (by decide) ?_
  refine hm_iast2 (j := 5) (x := 0) S hE hG h_19 rfl (by unfold vp_in; decide) (by decide) dX1_clearLoud_14 (fun H locs hG => ?_)
  obtain ⟨M_21, eM_21⟩ : ∃ z, z = hm_up M_17 (61, j, 0) (hm_ia g 6 (upd (upd (upd (upd (upd (upd (gLo d) 0 0) 1 0) 2 0) 3 0) 4 0) 5 0)) := ⟨_, rfl⟩
  rw [← eM_21] at hG
  have h_22 : M_21 (60, j, 0) = some (.inr (2, [.ref (ad (61, j, 0)), .ref (ad (62, j, 0)), .int (gAt d), .int (bI (gWa d))])) := by rw [eM_21]; exact (hm_up_n (by simp)).trans h_18
  have h_23 : M_21 (61, j, 0) = some (hm_ia g 6 (upd (upd (upd (upd (upd (upd (gLo d) 0 0) 1 0) 2 0) 3 0) 4 0) 5 0)) := by rw [eM_21]; exact hm_up_s
  have h_24 : M_21 (62, j, 0) = some (hm_ia g 6 (gTo d)) := by rw [eM_21]; exact (hm_up_n (by simp)).trans h_20
  refine lv_iinc (v := 6) (lv' := [(1, .int 6), (0, .ref (ad (60, j, 0)))]) S.1 S.2.1 dX1_clearLoud_15 hl (k := 0) rfl (by decide) (by decide) rfl (fun ls hl => ?_)
  refine lv_goto (tgt := 2) S.1 S.2.1 dX1_clearLoud_18 (by decide) ?_
  refine lv_iload_n S.1 S.2.1 dX1_clearLoud_2 rfl (lv_at hl 0 rfl) ?_
  refine lv_bipush (v := 6) S.1 S.2.1 dX1_clearLoud_3 (by decide) ?_
  refine lv_icmp_ge (tgt := 21) S.1 S.2.1 dX1_clearLoud_5 (by decide) (fun _ => ?_) (fun h9 => absurd (by decide) h9)
  exact hm_vret S hG hr hlk (⟨rfl, rfl, by subst_vars; simp only [hm_up_up]; rfl⟩) (Nat.le_of_ble_eq_true rfl) (Nat.le_of_ble_eq_true rfl) dX1_clearLoud_21

abbrev rm_X1_forget : Room := { frames := 0, cells := 0, slots := 0, locals := 0 }
set_option maxHeartbeats 4000000 in
set_option maxRecDepth 100000 in
theorem c_X1_forget (l : Launch) (g : GV) (ad : AD) (M : CT) (j : Nat) (d : GrD) (hd : hasGr g ad M j d) : hm_Met l yX1_forget cX1_forget 2 none rm_X1_forget g ad M [.ref (ad (60, j, 0))] (hm_pU ad (hm_up (hm_up M (62, j, 0) (hm_ia g 6 (gTo (fgF d)))) (60, j, 0) (grE ad j (fgF d))) none) := by
  refine hm_start (own := RX1) (by decide) rfl (Nat.le_of_ble_eq_true rfl) ?_
  intro p e s m args below meth c S hr hlk hnm hE hG ls hl
  have hl : lv_has ls 2 [(0, .ref (ad (60, j, 0)))] := hl
  obtain ⟨h60, h61, h62⟩ := id hd
  refine lv_iconst (v := 0) S.1 S.2.1 dX1_forget_0 (by decide) ?_
  refine lv_istore_n (lv' := [(1, .int 0), (0, .ref (ad (60, j, 0)))]) S.1 S.2.1 dX1_forget_1 rfl hl (by decide) rfl (fun ls hl => ?_)
  refine lv_iload_n S.1 S.2.1 dX1_forget_2 rfl (lv_at hl 0 rfl) ?_
  refine lv_bipush (v := 6) S.1 S.2.1 dX1_forget_3 (by decide) ?_
  refine lv_icmp_ge (tgt := 21) S.1 S.2.1 dX1_forget_5 (by decide) (fun h9 => absurd h9 (by decide)) (fun _ => ?_)
  refine lv_aload_n S.1 S.2.1 dX1_forget_8 rfl (lv_at hl 1 rfl) ?_
  refine hm_get (k := 1) S hE hG h60 rfl rfl hi_X10 (by decide) hb_54 rfl rfl dX1_forget_9 ?_
  refine lv_iload_n S.1 S.2.1 dX1_forget_12 rfl (lv_at hl 0 rfl) ?_
  refine lv_iconst (v := 0) S.1 S.2.1 dX1_forget_13 (by decide) ?_
  refine hm_iast2 (j := 0) (x := 0) S hE hG h62 rfl (by unfold vp_in; decide) (by decide) dX1_forget_14 (fun H locs hG => ?_)
  obtain ⟨M_1, eM_1⟩ : ∃ z, z = hm_up M (62, j, 0) (hm_ia g 6 (upd (gTo d) 0 0)) := ⟨_, rfl⟩
  rw [← eM_1] at hG
  have h_2 : M_1 (60, j, 0) = some (.inr (2, [.ref (ad (61, j, 0)), .ref (ad (62, j, 0)), .int (gAt d), .int (bI (gWa d))])) := by rw [eM_1]; exact (hm_up_n (by simp)).trans h60
  have h_3 : M_1 (61, j, 0) = some (hm_ia g 6 (gLo d)) := by rw [eM_1]; exact (hm_up_n (by simp)).trans h61
  have h_4 : M_1 (62, j, 0) = some (hm_ia g 6 (upd (gTo d) 0 0)) := by rw [eM_1]; exact hm_up_s
  refine lv_iinc (v := 1) (lv' := [(1, .int 1), (0, .ref (ad (60, j, 0)))]) S.1 S.2.1 dX1_forget_15 hl (k := 0) rfl (by decide) (by decide) rfl (fun ls hl => ?_)
  refine lv_goto (tgt := 2) S.1 S.2.1 dX1_forget_18 (by decide) ?_
  refine lv_iload_n S.1 S.2.1 dX1_forget_2 rfl (lv_at hl 0 rfl) ?_
  refine lv_bipush (v := 6) S.1 S.2.1 dX1_forget_3 (by decide) ?_
  refine lv_icmp_ge (tgt := 21) S.1 S.2.1 dX1_forget_5 (by decide) (fun h9 => absurd h9 (by decide)) (fun _ => ?_)
  refine lv_aload_n S.1 S.2.1 dX1_forget_8 rfl (lv_at hl 1 rfl) ?_
  refine hm_get (k := 1) S hE hG h_2 rfl rfl hi_X10 (by decide) hb_54 rfl rfl dX1_forget_9 ?_
  refine lv_iload_n S.1 S.2.1 dX1_forget_12 rfl (lv_at hl 0 rfl) ?_
  refine lv_iconst (v := 0) S.1 S.2.1 dX1_forget_13 (by decide) ?_
  refine hm_iast2 (j := 1) (x := 0) S hE hG h_4 rfl (by unfold vp_in; decide) (by decide) dX1_forget_14 (fun H locs hG => ?_)
  obtain ⟨M_5, eM_5⟩ : ∃ z, z = hm_up M_1 (62, j, 0) (hm_ia g 6 (upd (upd (gTo d) 0 0) 1 0)) := ⟨_, rfl⟩
  rw [← eM_5] at hG
  have h_6 : M_5 (60, j, 0) = some (.inr (2, [.ref (ad (61, j, 0)), .ref (ad (62, j, 0)), .int (gAt d), .int (bI (gWa d))])) := by rw [eM_5]; exact (hm_up_n (by simp)).trans h_2
  have h_7 : M_5 (61, j, 0) = some (hm_ia g 6 (gLo d)) := by rw [eM_5]; exact (hm_up_n (by simp)).trans h_3
  have h_8 : M_5 (62, j, 0) = some (hm_ia g 6 (upd (upd (gTo d) 0 0) 1 0)) := by rw [eM_5]; exact hm_up_s
  refine lv_iinc (v := 2) (lv' := [(1, .int 2), (0, .ref (ad (60, j, 0)))]) S.1 S.2.1 dX1_forget_15 hl (k := 0) rfl (by decide) (by decide) rfl (fun ls hl => ?_)
  refine lv_goto (tgt := 2) S.1 S.2.1 dX1_forget_18 (by decide) ?_
  refine lv_iload_n S.1 S.2.1 dX1_forget_2 rfl (lv_at hl 0 rfl) ?_
  refine lv_bipush (v := 6) S.1 S.2.1 dX1_forget_3 (by decide) ?_
  refine lv_icmp_ge (tgt := 21) S.1 S.2.1 dX1_forget_5 (by decide) (fun h9 => absurd h9 (by decide)) (fun _ => ?_)
  refine lv_aload_n S.1 S.2.1 dX1_forget_8 rfl (lv_at hl 1 rfl) ?_
  refine hm_get (k := 1) S hE hG h_6 rfl rfl hi_X10 (by decide) hb_54 rfl rfl dX1_forget_9 ?_
  refine lv_iload_n S.1 S.2.1 dX1_forget_12 rfl (lv_at hl 0 rfl) ?_
  refine lv_iconst (v := 0) S.1 S.2.1 dX1_forget_13 (by decide) ?_
  refine hm_iast2 (j := 2) (x := 0) S hE hG h_8 rfl (by unfold vp_in; decide) (by decide) dX1_forget_14 (fun H locs hG => ?_)
  obtain ⟨M_9, eM_9⟩ : ∃ z, z = hm_up M_5 (62, j, 0) (hm_ia g 6 (upd (upd (upd (gTo d) 0 0) 1 0) 2 0)) := ⟨_, rfl⟩
  rw [← eM_9] at hG
  have h_10 : M_9 (60, j, 0) = some (.inr (2, [.ref (ad (61, j, 0)), .ref (ad (62, j, 0)), .int (gAt d), .int (bI (gWa d))])) := by rw [eM_9]; exact (hm_up_n (by simp)).trans h_6
  have h_11 : M_9 (61, j, 0) = some (hm_ia g 6 (gLo d)) := by rw [eM_9]; exact (hm_up_n (by simp)).trans h_7
  have h_12 : M_9 (62, j, 0) = some (hm_ia g 6 (upd (upd (upd (gTo d) 0 0) 1 0) 2 0)) := by rw [eM_9]; exact hm_up_s
  refine lv_iinc (v := 3) (lv' := [(1, .int 3), (0, .ref (ad (60, j, 0)))]) S.1 S.2.1 dX1_forget_15 hl (k := 0) rfl (by decide) (by decide) rfl (fun ls hl => ?_)
  refine lv_goto (tgt := 2) S.1 S.2.1 dX1_forget_18 (by decide) ?_
  refine lv_iload_n S.1 S.2.1 dX1_forget_2 rfl (lv_at hl 0 rfl) ?_
  refine lv_bipush (v := 6) S.1 S.2.1 dX1_forget_3 (by decide) ?_
  refine lv_icmp_ge (tgt := 21) S.1 S.2.1 dX1_forget_5 (by decide) (fun h9 => absurd h9 (by decide)) (fun _ => ?_)
  refine lv_aload_n S.1 S.2.1 dX1_forget_8 rfl (lv_at hl 1 rfl) ?_
  refine hm_get (k := 1) S hE hG h_10 rfl rfl hi_X10 (by decide) hb_54 rfl rfl dX1_forget_9 ?_
  refine lv_iload_n S.1 S.2.1 dX1_forget_12 rfl (lv_at hl 0 rfl) ?_
  refine lv_iconst (v := 0) S.1 S.2.1 dX1_forget_13 (by decide) ?_
  refine hm_iast2 (j := 3) (x := 0) S hE hG h_12 rfl (by unfold vp_in; decide) (by decide) dX1_forget_14 (fun H locs hG => ?_)
  obtain ⟨M_13, eM_13⟩ : ∃ z, z = hm_up M_9 (62, j, 0) (hm_ia g 6 (upd (upd (upd (upd (gTo d) 0 0) 1 0) 2 0) 3 0)) := ⟨_, rfl⟩
  rw [← eM_13] at hG
  have h_14 : M_13 (60, j, 0) = some (.inr (2, [.ref (ad (61, j, 0)), .ref (ad (62, j, 0)), .int (gAt d), .int (bI (gWa d))])) := by rw [eM_13]; exact (hm_up_n (by simp)).trans h_10
  have h_15 : M_13 (61, j, 0) = some (hm_ia g 6 (gLo d)) := by rw [eM_13]; exact (hm_up_n (by simp)).trans h_11
  have h_16 : M_13 (62, j, 0) = some (hm_ia g 6 (upd (upd (upd (upd (gTo d) 0 0) 1 0) 2 0) 3 0)) := by rw [eM_13]; exact hm_up_s
  refine lv_iinc (v := 4) (lv' := [(1, .int 4), (0, .ref (ad (60, j, 0)))]) S.1 S.2.1 dX1_forget_15 hl (k := 0) rfl (by decide) (by decide) rfl (fun ls hl => ?_)
  refine lv_goto (tgt := 2) S.1 S.2.1 dX1_forget_18 (by decide) ?_
  refine lv_iload_n S.1 S.2.1 dX1_forget_2 rfl (lv_at hl 0 rfl) ?_
  refine lv_bipush (v := 6) S.1 S.2.1 dX1_forget_3 (by decide) ?_
  refine lv_icmp_ge (tgt := 21) S.1 S.2.1 dX1_forget_5 (by decide) (fun h9 => absurd h9 (by decide)) (fun _ => ?_)
  refine lv_aload_n S.1 S.2.1 dX1_forget_8 rfl (lv_at hl 1 rfl) ?_
  refine hm_get (k := 1) S hE hG h_14 rfl rfl hi_X10 (by decide) hb_54 rfl rfl dX1_forget_9 ?_
  refine lv_iload_n S.1 S.2.1 dX1_forget_12 rfl (lv_at hl 0 rfl) ?_
  refine lv_iconst (v := 0) S.1 S.2.1 dX1_forget_13 (by decide) ?_
  refine hm_iast2 (j := 4) (x := 0) S hE hG h_16 rfl (by unfold vp_in; decide) (by decide) dX1_forget_14 (fun H locs hG => ?_)
  obtain ⟨M_17, eM_17⟩ : ∃ z, z = hm_up M_13 (62, j, 0) (hm_ia g 6 (upd (upd (upd (upd (upd (gTo d) 0 0) 1 0) 2 0) 3 0) 4 0)) := ⟨_, rfl⟩
  rw [← eM_17] at hG
  have h_18 : M_17 (60, j, 0) = some (.inr (2, [.ref (ad (61, j, 0)), .ref (ad (62, j, 0)), .int (gAt d), .int (bI (gWa d))])) := by rw [eM_17]; exact (hm_up_n (by simp)).trans h_14
  have h_19 : M_17 (61, j, 0) = some (hm_ia g 6 (gLo d)) := by rw [eM_17]; exact (hm_up_n (by simp)).trans h_15
  have h_20 : M_17 (62, j, 0) = some (hm_ia g 6 (upd (upd (upd (upd (upd (gTo d) 0 0) 1 0) 2 0) 3 0) 4 0)) := by rw [eM_17]; exact hm_up_s
  refine lv_iinc (v := 5) (lv' := [(1, .int 5), (0, .ref (ad (60, j, 0)))]) S.1 S.2.1 dX1_forget_15 hl (k := 0) rfl (by decide) (by decide) rfl (fun ls hl => ?_)
  refine lv_goto (tgt := 2) S.1 S.2.1 dX1_forget_18 (by decide) ?_
  refine lv_iload_n S.1 S.2.1 dX1_forget_2 rfl (lv_at hl 0 rfl) ?_
  refine lv_bipush (v := 6) S.1 S.2.1 dX1_forget_3 (by decide) ?_
  refine lv_icmp_ge (tgt := 21) S.1 S.2.1 dX1_forget_5 (by decide) (fun h9 => absurd h9 (by decide)) (fun _ => ?_)
  refine lv_aload_n S.1 S.2.1 dX1_forget_8 rfl (lv_at hl 1 rfl) ?_
  refine hm_get (k := 1) S hE hG h_18 rfl rfl hi_X10 (by decide) hb_54 rfl rfl dX1_forget_9 ?_
  refine lv_iload_n S.1 S.2.1 dX1_forget_12 rfl (lv_at hl 0 rfl) ?_
  refine lv_iconst (v := 0) S.1 S.2.1 dX1_forget_13 (by decide) ?_
  refine hm_iast2 (j := 5) (x := 0) S hE hG h_20 rfl (by unfold vp_in; decide) (by decide) dX1_forget_14 (fun H locs hG => ?_)
  obtain ⟨M_21, eM_21⟩ : ∃ z, z = hm_up M_17 (62, j, 0) (hm_ia g 6 (upd (upd (upd (upd (upd (upd (gTo d) 0 0) 1 0) 2 0) 3 0) 4 0) 5 0)) := ⟨_, rfl⟩
  rw [← eM_21] at hG
  have h_22 : M_21 (60, j, 0) = some (.inr (2, [.ref (ad (61, j, 0)), .ref (ad (62, j, 0)), .int (gAt d), .int (bI (gWa d))])) := by rw [eM_21]; exact (hm_up_n (by simp)).trans h_18
  have h_23 : M_21 (61, j, 0) = some (hm_ia g 6 (gLo d)) := by rw [eM_21]; exact (hm_up_n (by simp)).trans h_19
  have h_24 : M_21 (62, j, 0) = some (hm_ia g 6 (upd (upd (upd (upd (upd (upd (gTo d) 0 0) 1 0) 2 0) 3 0) 4 0) 5 0)) := by rw [eM_21]; exact hm_up_s
  refine lv_iinc (v := 6) (lv' := [(1, .int 6), (0, .ref (ad (60, j, 0)))]) S.1 S.2.1 dX1_forget_15 hl (k := 0) rfl (by decide) (by decide) rfl (fun ls hl => ?_)
  refine lv_goto (tgt := 2) S.1 S.2.1 dX1_forget_18 (by decide) ?_
  refine lv_iload_n S.1 S.2.1 dX1_forget_2 rfl (lv_at hl 0 rfl) ?_
  refine lv_bipush (v := 6) S.1 S.2.1 dX1_forget_3 (by decide) ?_
  refine lv_icmp_ge (tgt := 21) S.1 S.2.1 dX1_forget_5 (by decide) (fun _ => ?_) (fun h9 => absurd (by decide) h9)
  refine lv_aload_n S.1 S.2.1 dX1_forget_21 rfl (lv_at hl 1 rfl) ?_
  refine lv_iconst (v := 0) S.1 S.2.1 dX1_forget_22 (by decide) ?_
  refine hm_put (k := 3) (fs' := [.ref (ad (61, j, 0)), .ref (ad (62, j, 0)), .int (gAt d), .int 0]) S hE hG h_22 rfl rfl hi_X10 tyX1_ok nmX1 (by decide) hb_56 rfl rfl (by rfl) (by rfl) (Nat.le_of_ble_eq_true rfl) rfl dX1_forget_23 (fun H locs hG => ?_)
  obtain ⟨M_25, eM_25⟩ : ∃ z, z = hm_up M_21 (60, j, 0) (.inr (2, [.ref (ad (61, j, 0)), .ref (ad (62, j, 0)), .int (gAt d), .int 0])) := ⟨_, rfl⟩
  rw [← eM_25] at hG
  have h_26 : M_25 (60, j, 0) = some (.inr (2, [.ref (ad (61, j, 0)), .ref (ad (62, j, 0)), .int (gAt d), .int 0])) := by rw [eM_25]; exact hm_up_s
  have h_27 : M_25 (61, j, 0) = some (hm_ia g 6 (gLo d)) := by rw [eM_25]; exact (hm_up_n (by simp)).trans h_23
  have h_28 : M_25 (62, j, 0) = some (hm_ia g 6 (upd (upd (upd (upd (upd (upd (gTo d) 0 0) 1 0) 2 0) 3 0) 4 0) 5 0)) := by rw [eM_25]; exact (hm_up_n (by simp)).trans h_24
  exact hm_vret S hG hr hlk (⟨rfl, rfl, by subst_vars; simp only [hm_up_up]; rfl⟩) (Nat.le_of_ble_eq_true rfl) (Nat.le_of_ble_eq_true rfl) dX1_forget_26

abbrev rm_X1_markTold : Room := { frames := 1, cells := 0, slots := 0, locals := 60 }
set_option maxHeartbeats 4000000 in
set_option maxRecDepth 100000 in
theorem c_X1_markTold (l : Launch) (g : GV) (ad : AD) (M : CT) (j : Nat) (d : GrD) (hd : hasGr g ad M j d) (clk : Int32) : hm_Met l yX1_markTold cX1_markTold 2 none rm_X1_markTold g ad M [.ref (ad (60, j, 0)), .int clk] (hm_pU ad (hm_up (hm_up M (60, j, 0) (grE ad j (mkF d clk))) (62, j, 0) (hm_ia g 6 (gTo (mkF d clk)))) none) := by
  refine hm_start (own := RX1) (by decide) rfl (Nat.le_of_ble_eq_true rfl) ?_
  intro p e s m args below meth c S hr hlk hnm hE hG ls hl
  have hl : lv_has ls 2 [(0, .ref (ad (60, j, 0))), (1, .int clk)] := hl
  obtain ⟨h60, h61, h62⟩ := id hd
  refine lv_aload_n S.1 S.2.1 dX1_markTold_0 rfl (lv_at hl 0 rfl) ?_
  refine lv_iload_n S.1 S.2.1 dX1_markTold_1 rfl (lv_at hl 1 rfl) ?_
  refine hm_put (k := 2) (fs' := [.ref (ad (61, j, 0)), .ref (ad (62, j, 0)), .int clk, .int (bI (gWa d))]) S hE hG h60 rfl rfl hi_X10 tyX1_ok nmX1 (by decide) hb_55 rfl rfl (by rfl) (by rfl) (Nat.le_of_ble_eq_true rfl) rfl dX1_markTold_2 (fun H locs hG => ?_)
  obtain ⟨M_1, eM_1⟩ : ∃ z, z = hm_up M (60, j, 0) (.inr (2, [.ref (ad (61, j, 0)), .ref (ad (62, j, 0)), .int clk, .int (bI (gWa d))])) := ⟨_, rfl⟩
  rw [← eM_1] at hG
  have h_2 : M_1 (60, j, 0) = some (.inr (2, [.ref (ad (61, j, 0)), .ref (ad (62, j, 0)), .int clk, .int (bI (gWa d))])) := by rw [eM_1]; exact hm_up_s
  have h_3 : M_1 (61, j, 0) = some (hm_ia g 6 (gLo d)) := by rw [eM_1]; exact (hm_up_n (by simp)).trans h61
  have h_4 : M_1 (62, j, 0) = some (hm_ia g 6 (gTo d)) := by rw [eM_1]; exact (hm_up_n (by simp)).trans h62
  refine lv_aload_n S.1 S.2.1 dX1_markTold_5 rfl (lv_at hl 0 rfl) ?_
  refine hm_get (k := 0) S hE hG h_2 rfl rfl hi_X10 (by decide) hb_53 rfl rfl dX1_markTold_6 ?_
  refine lv_iconst (v := 0) S.1 S.2.1 dX1_markTold_9 (by decide) ?_
  refine lv_aload_n S.1 S.2.1 dX1_markTold_10 rfl (lv_at hl 0 rfl) ?_
  refine hm_get (k := 1) S hE hG h_2 rfl rfl hi_X10 (by decide) hb_54 rfl rfl dX1_markTold_11 ?_
  refine lv_iconst (v := 0) S.1 S.2.1 dX1_markTold_14 (by decide) ?_
  refine lv_bipush (v := 6) S.1 S.2.1 dX1_markTold_15 (by decide) ?_
  refine hm_copy S hE hG hb_483 hb_161 hb_162 hb_163 hl.1 h_3 rfl h_4 rfl (by decide) (by decide) (by decide) (by decide) (by decide) (Nat.le_of_ble_eq_true rfl) (by decide +kernel) dX1_markTold_17 (fun H locs hG => ?_)
  obtain ⟨M_5, eM_5⟩ : ∃ z, z = hm_up M_1 (62, j, 0) (hm_ia g 6 (va_cpy (gLo d) (gTo d) (0 : Int32).toNatClampNeg (0 : Int32).toNatClampNeg (6 : Int32).toNatClampNeg)) := ⟨_, rfl⟩
  rw [← eM_5] at hG
  have h_6 : M_5 (60, j, 0) = some (.inr (2, [.ref (ad (61, j, 0)), .ref (ad (62, j, 0)), .int clk, .int (bI (gWa d))])) := by rw [eM_5]; exact (hm_up_n (by simp)).trans h_2
  have h_7 : M_5 (61, j, 0) = some (hm_ia g 6 (gLo d)) := by rw [eM_5]; exact (hm_up_n (by simp)).trans h_3
  have h_8 : M_5 (62, j, 0) = some (hm_ia g 6 (va_cpy (gLo d) (gTo d) (0 : Int32).toNatClampNeg (0 : Int32).toNatClampNeg (6 : Int32).toNatClampNeg)) := by rw [eM_5]; exact hm_up_s
  exact hm_vret S hG hr hlk (⟨rfl, rfl, by subst_vars; rfl⟩) (Nat.le_of_ble_eq_true rfl) (Nat.le_of_ble_eq_true rfl) dX1_markTold_20

abbrev rm_X3_keep : Room := { frames := 1, cells := 0, slots := 0, locals := 14 }
set_option maxHeartbeats 4000000 in
set_option maxRecDepth 100000 in
theorem c_X3_keep (l : Launch) (g : GV) (ad : AD) (M : CT) (d : LgD) (hd : hasLg g ad M d) (x1 x2 x3 x4 : Int32) : hm_Met l yX3_keep cX3_keep 6 none rm_X3_keep g ad M [.ref (ad (8, 0, 0)), .int x1, .int x2, .int x3, .int x4] (hm_pU ad (klM g ad M d x1 x2 x3 x4) none) := by
  refine hm_start (own := RX3) (by decide) rfl (Nat.le_of_ble_eq_true rfl) ?_
  intro p e s m args below meth c S hr hlk hnm hE hG ls hl
  have hl : lv_has ls 6 [(0, .ref (ad (8, 0, 0))), (1, .int x1), (2, .int x2), (3, .int x3), (4, .int x4)] := hl
  obtain ⟨h8, h9, h51, hla, hhe⟩ := id hd
  refine lv_aload_n S.1 S.2.1 dX3_keep_0 rfl (lv_at hl 0 rfl) ?_
  refine lv_aload_n S.1 S.2.1 dX3_keep_1 rfl (lv_at hl 0 rfl) ?_
  refine hm_get (k := 1) S hE hG h8 rfl rfl hi_X30 (by decide) hb_62 rfl rfl dX3_keep_2 ?_
  refine lv_iconst (v := 1) S.1 S.2.1 dX3_keep_5 (by decide) ?_
  refine lv_iadd S.1 S.2.1 dX3_keep_6 ?_
  refine hm_top (z := nI (lLa d + 1)) (nI_1 _) ?_
  refine lv_bipush (v := 30) S.1 S.2.1 dX3_keep_7 (by decide) ?_
  refine lv_irem S.1 S.2.1 dX3_keep_9 (by decide) ?_
  refine hm_top (z := nI (klLa d)) (hm_rem30 (by omega)) ?_
  refine hm_put (k := 1) (fs' := [.ref (ad (9, 0, 0)), .int (nI (klLa d)), .int (nI (lHe d)), .int (nI (lEv d))]) S hE hG h8 rfl rfl hi_X30 tyX3_ok nmX3 (by decide) hb_62 rfl rfl (by rfl) (by rfl) (Nat.le_of_ble_eq_true rfl) rfl dX3_keep_10 (fun H locs hG => ?_)
  obtain ⟨M_1, eM_1⟩ : ∃ z, z = hm_up M (8, 0, 0) (.inr (4, [.ref (ad (9, 0, 0)), .int (nI (klLa d)), .int (nI (lHe d)), .int (nI (lEv d))])) := ⟨_, rfl⟩
  rw [← eM_1] at hG
  have h_2 : M_1 (8, 0, 0) = some (.inr (4, [.ref (ad (9, 0, 0)), .int (nI (klLa d)), .int (nI (lHe d)), .int (nI (lEv d))])) := by rw [eM_1]; exact hm_up_s
  have h_3 : M_1 (9, 0, 0) = some (hm_ra g 4 30 (rows30 ad)) := by rw [eM_1]; exact (hm_up_n (by simp)).trans h9
  refine lv_aload_n S.1 S.2.1 dX3_keep_13 rfl (lv_at hl 0 rfl) ?_
  refine lv_aload_n S.1 S.2.1 dX3_keep_14 rfl (lv_at hl 0 rfl) ?_
  refine hm_get (k := 2) S hE hG h_2 rfl rfl hi_X30 (by decide) hb_63 rfl rfl dX3_keep_15 ?_
  refine lv_iconst (v := 1) S.1 S.2.1 dX3_keep_18 (by decide) ?_
  refine lv_iadd S.1 S.2.1 dX3_keep_19 ?_
  refine hm_top (z := nI (lHe d + 1)) (nI_1 _) ?_
  refine lv_bipush (v := 30) S.1 S.2.1 dX3_keep_20 (by decide) ?_
  refine hm_min (z := nI (klHe d)) S hb_478 hb_4 hb_5 hb_6 hl.1 (Nat.le_of_ble_eq_true rfl) (Nat.le_of_ble_eq_true rfl) (Nat.le_of_ble_eq_true rfl) (Nat.le_of_ble_eq_true rfl) (hm_min30 _ hhe) dX3_keep_22 ?_
  refine hm_put (k := 2) (fs' := [.ref (ad (9, 0, 0)), .int (nI (klLa d)), .int (nI (klHe d)), .int (nI (lEv d))]) S hE hG h_2 rfl rfl hi_X30 tyX3_ok nmX3 (by decide) hb_63 rfl rfl (by rfl) (by rfl) (Nat.le_of_ble_eq_true rfl) rfl dX3_keep_25 (fun H locs hG => ?_)
  obtain ⟨M_4, eM_4⟩ : ∃ z, z = hm_up M_1 (8, 0, 0) (.inr (4, [.ref (ad (9, 0, 0)), .int (nI (klLa d)), .int (nI (klHe d)), .int (nI (lEv d))])) := ⟨_, rfl⟩
  rw [← eM_4] at hG
  have h_5 : M_4 (8, 0, 0) = some (.inr (4, [.ref (ad (9, 0, 0)), .int (nI (klLa d)), .int (nI (klHe d)), .int (nI (lEv d))])) := by rw [eM_4]; exact hm_up_s
  have h_6 : M_4 (9, 0, 0) = some (hm_ra g 4 30 (rows30 ad)) := by rw [eM_4]; exact (hm_up_n (by simp)).trans h_3
  refine lv_aload_n S.1 S.2.1 dX3_keep_28 rfl (lv_at hl 0 rfl) ?_
  refine lv_dup S.1 S.2.1 dX3_keep_29 rfl ?_
  refine hm_get (k := 3) S hE hG h_5 rfl rfl hi_X30 (by decide) hb_64 rfl rfl dX3_keep_30 ?_
  refine lv_iconst (v := 1) S.1 S.2.1 dX3_keep_33 (by decide) ?_
  refine lv_iadd S.1 S.2.1 dX3_keep_34 ?_
  refine hm_top (z := nI (lEv d + 1)) (nI_1 _) ?_
  refine hm_put (k := 3) (fs' := [.ref (ad (9, 0, 0)), .int (nI (klLa d)), .int (nI (klHe d)), .int (nI (lEv d + 1))]) S hE hG h_5 rfl rfl hi_X30 tyX3_ok nmX3 (by decide) hb_64 rfl rfl (by rfl) (by rfl) (Nat.le_of_ble_eq_true rfl) rfl dX3_keep_35 (fun H locs hG => ?_)
  obtain ⟨M_7, eM_7⟩ : ∃ z, z = hm_up M_4 (8, 0, 0) (.inr (4, [.ref (ad (9, 0, 0)), .int (nI (klLa d)), .int (nI (klHe d)), .int (nI (lEv d + 1))])) := ⟨_, rfl⟩
  rw [← eM_7] at hG
  have h_8 : M_7 (8, 0, 0) = some (.inr (4, [.ref (ad (9, 0, 0)), .int (nI (klLa d)), .int (nI (klHe d)), .int (nI (lEv d + 1))])) := by rw [eM_7]; exact hm_up_s
  have h_9 : M_7 (9, 0, 0) = some (hm_ra g 4 30 (rows30 ad)) := by rw [eM_7]; exact (hm_up_n (by simp)).trans h_6
  refine lv_aload_n S.1 S.2.1 dX3_keep_38 rfl (lv_at hl 0 rfl) ?_
  refine hm_get (k := 0) S hE hG h_8 rfl rfl hi_X30 (by decide) hb_61 rfl rfl dX3_keep_39 ?_
  refine lv_aload_n S.1 S.2.1 dX3_keep_42 rfl (lv_at hl 0 rfl) ?_
  refine hm_get (k := 1) S hE hG h_8 rfl rfl hi_X30 (by decide) hb_62 rfl rfl dX3_keep_43 ?_
  have hkl : klLa d < 30 := Nat.mod_lt _ (by decide)
  have hr2 : M_7 (51, klLa d, 0) = some (hm_ia g 4 (lRo d (klLa d))) := by subst_vars; simp only [hm_up_up]; exact (hm_up_n (by simp)).trans (h51 (klLa d) hkl)
  refine hm_aldA (q := (ad (51, klLa d, 0))) S hE hG h_9 rfl (vp_in_nI hkl (by decide)) (by rw [nI_clamp (Nat.lt_trans hkl (by decide))]; exact if_pos hkl) dX3_keep_46 ?_
  refine lv_astore (lv' := [(5, .ref (ad (51, klLa d, 0))), (0, .ref (ad (8, 0, 0))), (1, .int x1), (2, .int x2), (3, .int x3), (4, .int x4)]) S.1 S.2.1 dX3_keep_47 hl (by decide) rfl (fun ls hl => ?_)
  refine lv_aload S.1 S.2.1 dX3_keep_49 (lv_at hl 0 rfl) ?_
  refine lv_iconst (v := 0) S.1 S.2.1 dX3_keep_51 (by decide) ?_
  refine lv_iload_n S.1 S.2.1 dX3_keep_52 rfl (lv_at hl 2 rfl) ?_
  refine hm_iast2 (j := 0) (x := x1) S hE hG hr2 rfl (by unfold vp_in; decide) (by decide) dX3_keep_53 (fun H locs hG => ?_)
  obtain ⟨M_10, eM_10⟩ : ∃ z, z = hm_up M_7 (51, klLa d, 0) (hm_ia g 4 (upd (lRo d (klLa d)) 0 x1)) := ⟨_, rfl⟩
  rw [← eM_10] at hG
  have h_11 : M_10 (8, 0, 0) = some (.inr (4, [.ref (ad (9, 0, 0)), .int (nI (klLa d)), .int (nI (klHe d)), .int (nI (lEv d + 1))])) := by rw [eM_10]; exact (hm_up_n (by simp)).trans h_8
  have h_12 : M_10 (9, 0, 0) = some (hm_ra g 4 30 (rows30 ad)) := by rw [eM_10]; exact (hm_up_n (by simp)).trans h_9
  have h_13 : M_10 (51, klLa d, 0) = some (hm_ia g 4 (upd (lRo d (klLa d)) 0 x1)) := by rw [eM_10]; exact hm_up_s
  refine lv_aload S.1 S.2.1 dX3_keep_54 (lv_at hl 0 rfl) ?_
  refine lv_iconst (v := 1) S.1 S.2.1 dX3_keep_56 (by decide) ?_
  refine lv_iload_n S.1 S.2.1 dX3_keep_57 rfl (lv_at hl 3 rfl) ?_
  refine hm_iast2 (j := 1) (x := x2) S hE hG h_13 rfl (by unfold vp_in; decide) (by decide) dX3_keep_58 (fun H locs hG => ?_)
  obtain ⟨M_14, eM_14⟩ : ∃ z, z = hm_up M_10 (51, klLa d, 0) (hm_ia g 4 (upd (upd (lRo d (klLa d)) 0 x1) 1 x2)) := ⟨_, rfl⟩
  rw [← eM_14] at hG
  have h_15 : M_14 (8, 0, 0) = some (.inr (4, [.ref (ad (9, 0, 0)), .int (nI (klLa d)), .int (nI (klHe d)), .int (nI (lEv d + 1))])) := by rw [eM_14]; exact (hm_up_n (by simp)).trans h_11
  have h_16 : M_14 (9, 0, 0) = some (hm_ra g 4 30 (rows30 ad)) := by rw [eM_14]; exact (hm_up_n (by simp)).trans h_12
  have h_17 : M_14 (51, klLa d, 0) = some (hm_ia g 4 (upd (upd (lRo d (klLa d)) 0 x1) 1 x2)) := by rw [eM_14]; exact hm_up_s
  refine lv_aload S.1 S.2.1 dX3_keep_59 (lv_at hl 0 rfl) ?_
  refine lv_iconst (v := 2) S.1 S.2.1 dX3_keep_61 (by decide) ?_
  refine lv_iload_n S.1 S.2.1 dX3_keep_62 rfl (lv_at hl 4 rfl) ?_
  refine hm_iast2 (j := 2) (x := x3) S hE hG h_17 rfl (by unfold vp_in; decide) (by decide) dX3_keep_63 (fun H locs hG => ?_)
  obtain ⟨M_18, eM_18⟩ : ∃ z, z = hm_up M_14 (51, klLa d, 0) (hm_ia g 4 (upd (upd (upd (lRo d (klLa d)) 0 x1) 1 x2) 2 x3)) := ⟨_, rfl⟩
  rw [← eM_18] at hG
  have h_19 : M_18 (8, 0, 0) = some (.inr (4, [.ref (ad (9, 0, 0)), .int (nI (klLa d)), .int (nI (klHe d)), .int (nI (lEv d + 1))])) := by rw [eM_18]; exact (hm_up_n (by simp)).trans h_15
  have h_20 : M_18 (9, 0, 0) = some (hm_ra g 4 30 (rows30 ad)) := by rw [eM_18]; exact (hm_up_n (by simp)).trans h_16
  have h_21 : M_18 (51, klLa d, 0) = some (hm_ia g 4 (upd (upd (upd (lRo d (klLa d)) 0 x1) 1 x2) 2 x3)) := by rw [eM_18]; exact hm_up_s
  refine lv_aload S.1 S.2.1 dX3_keep_64 (lv_at hl 0 rfl) ?_
  refine lv_iconst (v := 3) S.1 S.2.1 dX3_keep_66 (by decide) ?_
  refine lv_iload S.1 S.2.1 dX3_keep_67 (lv_at hl 5 rfl) ?_
  refine hm_iast2 (j := 3) (x := x4) S hE hG h_21 rfl (by unfold vp_in; decide) (by decide) dX3_keep_69 (fun H locs hG => ?_)
  obtain ⟨M_22, eM_22⟩ : ∃ z, z = hm_up M_18 (51, klLa d, 0) (hm_ia g 4 (upd (upd (upd (upd (lRo d (klLa d)) 0 x1) 1 x2) 2 x3) 3 x4)) := ⟨_, rfl⟩
  rw [← eM_22] at hG
  have h_23 : M_22 (8, 0, 0) = some (.inr (4, [.ref (ad (9, 0, 0)), .int (nI (klLa d)), .int (nI (klHe d)), .int (nI (lEv d + 1))])) := by rw [eM_22]; exact (hm_up_n (by simp)).trans h_19
  have h_24 : M_22 (9, 0, 0) = some (hm_ra g 4 30 (rows30 ad)) := by rw [eM_22]; exact (hm_up_n (by simp)).trans h_20
  have h_25 : M_22 (51, klLa d, 0) = some (hm_ia g 4 (upd (upd (upd (upd (lRo d (klLa d)) 0 x1) 1 x2) 2 x3) 3 x4)) := by rw [eM_22]; exact hm_up_s
  exact hm_vret S hG hr hlk (⟨rfl, rfl, by subst_vars; simp only [hm_up_up]; rfl⟩) (Nat.le_of_ble_eq_true rfl) (Nat.le_of_ble_eq_true rfl) dX3_keep_70

abbrev rm_X3_factOf : Room := { frames := 0, cells := 0, slots := 0, locals := 0 }
set_option maxHeartbeats 4000000 in
set_option maxRecDepth 100000 in
theorem c_X3_factOf (l : Launch) (g : GV) (ad : AD) (M : CT) (d : LgD) (hd : hasLg g ad M d) (b k : Nat) (hb : b < 30) (hk : k < 4) : hm_Met l yX3_factOf cX3_factOf 3 (some .int) rm_X3_factOf g ad M [.ref (ad (8, 0, 0)), .int (nI b), .int (nI k)] (hm_pU ad M (some (.int (foF d b k)))) := by
  refine hm_start (own := RX3) (by decide) rfl (Nat.le_of_ble_eq_true rfl) ?_
  intro p e s m args below meth c S hr hlk hnm hE hG ls hl
  have hl : lv_has ls 3 [(0, .ref (ad (8, 0, 0))), (1, .int (nI b)), (2, .int (nI k))] := hl
  obtain ⟨h8, h9, h51, hla, hhe⟩ := id hd
  refine lv_aload_n S.1 S.2.1 dX3_factOf_0 rfl (lv_at hl 0 rfl) ?_
  refine hm_get (k := 0) S hE hG h8 rfl rfl hi_X30 (by decide) hb_61 rfl rfl dX3_factOf_1 ?_
  refine lv_aload_n S.1 S.2.1 dX3_factOf_4 rfl (lv_at hl 0 rfl) ?_
  refine hm_get (k := 1) S hE hG h8 rfl rfl hi_X30 (by decide) hb_62 rfl rfl dX3_factOf_5 ?_
  refine lv_iload_n S.1 S.2.1 dX3_factOf_8 rfl (lv_at hl 1 rfl) ?_
  refine lv_isub S.1 S.2.1 dX3_factOf_9 ?_
  refine lv_bipush (v := 30) S.1 S.2.1 dX3_factOf_10 (by decide) ?_
  refine lv_iadd S.1 S.2.1 dX3_factOf_12 ?_
  refine hm_top (z := nI (lLa d + 30 - b)) (hm_sub30 (by omega)) ?_
  refine lv_bipush (v := 30) S.1 S.2.1 dX3_factOf_13 (by decide) ?_
  refine lv_irem S.1 S.2.1 dX3_factOf_15 (by decide) ?_
  refine hm_top (z := nI ((lLa d + 30 - b) % 30)) (hm_rem30 (by omega)) ?_
  refine hm_aldA (q := (ad (51, ((lLa d + 30 - b) % 30), 0))) S hE hG h9 rfl (vp_in_nI (Nat.mod_lt _ (by decide)) (by decide)) (by rw [nI_clamp (Nat.lt_trans (Nat.mod_lt _ (by decide)) (by decide))]; exact if_pos (Nat.mod_lt _ (by decide))) dX3_factOf_16 ?_
  refine lv_iload_n S.1 S.2.1 dX3_factOf_17 rfl (lv_at hl 2 rfl) ?_
  refine hm_iald (x := (lRo d ((lLa d + 30 - b) % 30)) k) S hE hG (h51 ((lLa d + 30 - b) % 30) (Nat.mod_lt _ (by decide))) rfl (vp_in_nI (hk) (by decide)) (congrArg (lRo d ((lLa d + 30 - b) % 30)) (nI_clamp (Nat.lt_trans (hk) (by decide)))) dX3_factOf_18 ?_
  exact hm_iret S hG hr hlk (⟨rfl, rfl, rfl⟩) (Nat.le_of_ble_eq_true rfl) (Nat.le_of_ble_eq_true rfl) dX3_factOf_19
end
section
/-! The whole object: what it holds, and how a change of one piece leaves the rest. -/
def anyB (p : Nat → Bool) : Nat → Bool
  | 0 => false
  | k + 1 => anyB p k || p k
theorem anyB_iff {p : Nat → Bool} : ∀ {n : Nat}, anyB p n = true ↔ ∃ k, k < n ∧ p k = true := by
  intro n
  induction n with
  | zero => simp [anyB]
  | succ n ih =>
    rw [anyB, Bool.or_eq_true, ih]
    constructor
    · rintro (⟨k, h1, h2⟩ | h)
      · exact ⟨k, by omega, h2⟩
      · exact ⟨n, by omega, h⟩
    · rintro ⟨k, h1, h2⟩
      by_cases h : k = n
      · subst h; exact Or.inr h2
      · exact Or.inl ⟨k, by omega, h2⟩
theorem anyB_true {p : Nat → Bool} {k n : Nat} (h : k < n) (hp : p k = true) : anyB p n = true := anyB_iff.mpr ⟨k, h, hp⟩
theorem anyB_false {p : Nat → Bool} {n : Nat} (h : ∀ k, k < n → p k = false) : anyB p n = false := by
  cases e : anyB p n
  · rfl
  · obtain ⟨k, h1, h2⟩ := anyB_iff.mp e
    rw [h k h1] at h2
    cases h2
theorem anyB_step {p : Nat → Bool} {k : Nat} (h : anyB p k = false) (hp : p k = false) : anyB p (k + 1) = false := by rw [anyB, h, hp]; rfl
def cntB (p : Nat → Bool) : Nat → Nat
  | 0 => 0
  | k + 1 => if p k then cntB p k + 1 else cntB p k
theorem cntB_t {p : Nat → Bool} {k : Nat} (h : p k = true) : cntB p (k + 1) = cntB p k + 1 := by rw [cntB, if_pos h]
theorem cntB_f {p : Nat → Bool} {k : Nat} (h : p k = false) : cntB p (k + 1) = cntB p k := by rw [cntB, h]; rfl
def sumN (f : Nat → Nat) : Nat → Nat
  | 0 => 0
  | k + 1 => sumN f k + f k
/-- the object: how many series, the series, how many rules, the rules, alerts, how many hushes, the hushes, groups, log, rehearsed, clock, grouping, repeat -/
abbrev XD : Type := Nat × (Nat → SeD) × Nat × (Nat → RuD) × (Nat → Nat → AlD) × Nat × (Nat → HuD) × (Nat → GrD) × LgD × AlD × Nat × Nat × Nat
def xS (x : XD) : Nat := x.1
def xSe (x : XD) : Nat → SeD := x.2.1
def xR (x : XD) : Nat := x.2.2.1
def xRu (x : XD) : Nat → RuD := x.2.2.2.1
def xAl (x : XD) : Nat → Nat → AlD := x.2.2.2.2.1
def xH (x : XD) : Nat := x.2.2.2.2.2.1
def xHu (x : XD) : Nat → HuD := x.2.2.2.2.2.2.1
def xGr (x : XD) : Nat → GrD := x.2.2.2.2.2.2.2.1
def xL (x : XD) : LgD := x.2.2.2.2.2.2.2.2.1
def xQ (x : XD) : AlD := x.2.2.2.2.2.2.2.2.2.1
def xC (x : XD) : Nat := x.2.2.2.2.2.2.2.2.2.2.1
def xG (x : XD) : Nat := x.2.2.2.2.2.2.2.2.2.2.2.1
def xP (x : XD) : Nat := x.2.2.2.2.2.2.2.2.2.2.2.2
def hasLi (g : GV) (ad : AD) (M : CT) (t tq : TG) (n : Nat) (els : Nat → Nat) : Prop := ∃ (mc : Int32) (q : Nat) (f : Nat → Option Nat), M t = some (liE mc q n) ∧ ((n = 0 ∧ q = hm_b g 1 ∧ M tq = none) ∨ (ad tq = q ∧ M tq = some (hm_ra g 3 10 f) ∧ ∀ k, k < n → f k = some (els k))) ∧ n ≤ 10
theorem hasLi.ob {g : GV} {ad : AD} {M : CT} {t tq : TG} {n : Nat} {els : Nat → Nat} (h : hasLi g ad M t tq n els) : ∃ fs, M t = some (.inr (0, fs)) := by
  obtain ⟨mc, q, f, h1, -, -⟩ := h
  exact ⟨_, h1⟩
theorem hasLi.up {g : GV} {ad : AD} {M : CT} {t tq t0 : TG} {n : Nat} {els : Nat → Nat} {e : va_E} (h : hasLi g ad M t tq n els) (h1 : t ≠ t0) (h2 : tq ≠ t0) : hasLi g ad (hm_up M t0 e) t tq n els := by
  obtain ⟨mc, q, f, h3, h4, h5⟩ := h
  refine ⟨mc, q, f, (hm_up_n h1).trans h3, ?_, h5⟩
  rw [hm_up_n h2]
  exact h4
theorem hasSe.up {g : GV} {ad : AD} {M : CT} {i : Nat} {s : SeD} {t0 : TG} {e : va_E} (h : hasSe g ad M i s) (h1 : (10, i, 0) ≠ t0) (h2 : (11, i, 0) ≠ t0) (h3 : (12, i, 0) ≠ t0) (h4 : ∀ j, (13, i, j) ≠ t0) : hasSe g ad (hm_up M t0 e) i s := by
  obtain ⟨a1, a2, a3, a4, a5⟩ := h
  exact ⟨(hm_up_n h1).trans a1, (hm_up_n h2).trans a2, (hm_up_n h3).trans a3, fun j hj => (hm_up_n (h4 j)).trans (a4 j hj), a5⟩
theorem hasRu.up {g : GV} {ad : AD} {M : CT} {r : Nat} {u : RuD} {al : Nat → AlD} {t0 : TG} {e : va_E} (h : hasRu g ad M r u al) (h1 : (20, r, 0) ≠ t0) (h2 : (21, r, 0) ≠ t0) (h3 : ∀ k, (22, r, k) ≠ t0) : hasRu g ad (hm_up M t0 e) r u al := by
  obtain ⟨a1, a2, a3, a4⟩ := h
  exact ⟨(hm_up_n h1).trans a1, (hm_up_n h2).trans a2, fun k hk => (hm_up_n (h3 k)).trans (a3 k hk), a4⟩
theorem hasGr.up {g : GV} {ad : AD} {M : CT} {j : Nat} {d : GrD} {t0 : TG} {e : va_E} (h : hasGr g ad M j d) (h1 : (60, j, 0) ≠ t0) (h2 : (61, j, 0) ≠ t0) (h3 : (62, j, 0) ≠ t0) : hasGr g ad (hm_up M t0 e) j d := by
  obtain ⟨a1, a2, a3⟩ := h
  exact ⟨(hm_up_n h1).trans a1, (hm_up_n h2).trans a2, (hm_up_n h3).trans a3⟩
theorem hasLg.up {g : GV} {ad : AD} {M : CT} {d : LgD} {t0 : TG} {e : va_E} (h : hasLg g ad M d) (h1 : (8, 0, 0) ≠ t0) (h2 : (9, 0, 0) ≠ t0) (h3 : ∀ j, (51, j, 0) ≠ t0) : hasLg g ad (hm_up M t0 e) d := by
  obtain ⟨a1, a2, a3, a4⟩ := h
  exact ⟨(hm_up_n h1).trans a1, (hm_up_n h2).trans a2, fun k hk => (hm_up_n (h3 k)).trans (a3 k hk), a4⟩
abbrev xE (ad : AD) (x : XD) : va_E := .inr (7, [.ref (ad (1, 0, 0)), .ref (ad (2, 0, 0)), .ref (ad (3, 0, 0)), .ref (ad (7, 0, 0)), .ref (ad (8, 0, 0)), .ref (ad (70, 0, 0)), .int (nI (xC x)), .int (nI (xG x)), .int (nI (xP x))])
def grpA (ad : AD) : Nat → Option Nat := fun j => if j < 7 then some (ad (60, j, 0)) else none
def hasX (g : GV) (ad : AD) (M : CT) (x : XD) : Prop :=
  M (0, 0, 0) = some (xE ad x) ∧ hasLi g ad M (1, 0, 0) (4, 0, 0) (xS x) (fun i => ad (10, i, 0)) ∧ hasLi g ad M (2, 0, 0) (5, 0, 0) (xR x) (fun r => ad (20, r, 0)) ∧ hasLi g ad M (3, 0, 0) (6, 0, 0) (xH x) (fun h => ad (30, h, 0)) ∧
  M (7, 0, 0) = some (hm_ra g 1 7 (grpA ad)) ∧ hasLg g ad M (xL x) ∧ M (70, 0, 0) = some (alE (xQ x)) ∧ (∀ i, i < xS x → hasSe g ad M i (xSe x i)) ∧ (∀ r, r < xR x → hasRu g ad M r (xRu x r) (xAl x r)) ∧ (∀ h, h < xH x → M (30, h, 0) = some (huE (xHu x h))) ∧ (∀ j, j < 7 → hasGr g ad M j (xGr x j)) ∧ xS x ≤ 6 ∧ xR x ≤ 6 ∧ xH x ≤ 5
def setAl (x : XD) (r k : Nat) (a : AlD) : XD := (xS x, xSe x, xR x, xRu x, fun r1 k1 => if r1 = r ∧ k1 = k then a else xAl x r1 k1, xH x, xHu x, xGr x, xL x, xQ x, xC x, xG x, xP x)
def setQ (x : XD) (a : AlD) : XD := (xS x, xSe x, xR x, xRu x, xAl x, xH x, xHu x, xGr x, xL x, a, xC x, xG x, xP x)
def setC (x : XD) (n : Nat) : XD := (xS x, xSe x, xR x, xRu x, xAl x, xH x, xHu x, xGr x, xL x, xQ x, n, xG x, xP x)
def setG (x : XD) (n : Nat) : XD := (xS x, xSe x, xR x, xRu x, xAl x, xH x, xHu x, xGr x, xL x, xQ x, xC x, n, xP x)
def setP (x : XD) (n : Nat) : XD := (xS x, xSe x, xR x, xRu x, xAl x, xH x, xHu x, xGr x, xL x, xQ x, xC x, xG x, n)
def setSe (x : XD) (i : Nat) (s : SeD) : XD := (xS x, fun k => if k = i then s else xSe x k, xR x, xRu x, xAl x, xH x, xHu x, xGr x, xL x, xQ x, xC x, xG x, xP x)
def setRu (x : XD) (r : Nat) (u : RuD) : XD := (xS x, xSe x, xR x, fun k => if k = r then u else xRu x k, xAl x, xH x, xHu x, xGr x, xL x, xQ x, xC x, xG x, xP x)
def setGr (x : XD) (j : Nat) (d : GrD) : XD := (xS x, xSe x, xR x, xRu x, xAl x, xH x, xHu x, fun k => if k = j then d else xGr x k, xL x, xQ x, xC x, xG x, xP x)
def setL (x : XD) (d : LgD) : XD := (xS x, xSe x, xR x, xRu x, xAl x, xH x, xHu x, xGr x, d, xQ x, xC x, xG x, xP x)
section HMX
variable {g : GV} {ad : AD} {M : CT} {x : XD} {e : va_E}
/-- a change of the object's own fields -/
theorem hasX.fld (h : hasX g ad M x) (x' : XD) (h1 : xS x' = xS x) (h2 : xSe x' = xSe x) (h3 : xR x' = xR x) (h4 : xRu x' = xRu x) (h5 : xAl x' = xAl x) (h6 : xH x' = xH x) (h7 : xHu x' = xHu x) (h8 : xGr x' = xGr x) (h9 : xL x' = xL x) (h10 : xQ x' = xQ x) : hasX g ad (hm_up M (0, 0, 0) (xE ad x')) x' := by
  obtain ⟨a1, a2, a3, a4, a5, a6, a7, a8, a9, a10, a11, a12⟩ := h
  unfold hasX
  rw [h1, h2, h3, h4, h5, h6, h7, h8, h9, h10]
  exact ⟨hm_up_s, a2.up (by simp) (by simp), a3.up (by simp) (by simp), a4.up (by simp) (by simp), (hm_up_n (by simp)).trans a5, a6.up (by simp) (by simp) (by simp), (hm_up_n (by simp)).trans a7, fun i hi => (a8 i hi).up (by simp) (by simp) (by simp) (by simp), fun r hr => (a9 r hr).up (by simp) (by simp) (by simp), fun k hk => (hm_up_n (by simp)).trans (a10 k hk), fun j hj => (a11 j hj).up (by simp) (by simp) (by simp), a12⟩
theorem hasX.reh (h : hasX g ad M x) (a : AlD) : hasX g ad (hm_up M (70, 0, 0) (alE a)) (setQ x a) := by
  obtain ⟨a1, a2, a3, a4, a5, a6, a7, a8, a9, a10, a11, a12⟩ := h
  exact ⟨(hm_up_n (by simp)).trans a1, a2.up (by simp) (by simp), a3.up (by simp) (by simp), a4.up (by simp) (by simp), (hm_up_n (by simp)).trans a5, a6.up (by simp) (by simp) (by simp), hm_up_s, fun i hi => (a8 i hi).up (by simp) (by simp) (by simp) (by simp), fun r hr => (a9 r hr).up (by simp) (by simp) (by simp), fun k hk => (hm_up_n (by simp)).trans (a10 k hk), fun j hj => (a11 j hj).up (by simp) (by simp) (by simp), a12⟩
theorem hasX.alt (h : hasX g ad M x) (r k : Nat) (a : AlD) : hasX g ad (hm_up M (22, r, k) (alE a)) (setAl x r k a) := by
  obtain ⟨a1, a2, a3, a4, a5, a6, a7, a8, a9, a10, a11, a12⟩ := h
  refine ⟨(hm_up_n (by simp)).trans a1, a2.up (by simp) (by simp), a3.up (by simp) (by simp), a4.up (by simp) (by simp), (hm_up_n (by simp)).trans a5, a6.up (by simp) (by simp) (by simp), (hm_up_n (by simp)).trans a7, fun i hi => (a8 i hi).up (by simp) (by simp) (by simp) (by simp), fun r1 hr => ?_, fun k hk => (hm_up_n (by simp)).trans (a10 k hk), fun j hj => (a11 j hj).up (by simp) (by simp) (by simp), a12⟩
  obtain ⟨b1, b2, b3, b4⟩ := a9 r1 hr
  refine ⟨(hm_up_n (by simp)).trans b1, (hm_up_n (by simp)).trans b2, fun k1 hk => ?_, b4⟩
  show _ = some (alE (if r1 = r ∧ k1 = k then a else xAl x r1 k1))
  by_cases h : r1 = r ∧ k1 = k
  · obtain ⟨rfl, rfl⟩ := h
    rw [hm_up_s, if_pos ⟨rfl, rfl⟩]
  · rw [hm_up_n (fun q => h (by simpa using q)), if_neg h]
    exact b3 k1 hk
theorem hasX.rul (h : hasX g ad M x) (r : Nat) (u : RuD) (h1 : rLo u < 9) (h2 : rW u ≤ 12) (h3 : rWa u < 3) : hasX g ad (hm_up M (20, r, 0) (ruE ad r u)) (setRu x r u) := by
  obtain ⟨a1, a2, a3, a4, a5, a6, a7, a8, a9, a10, a11, a12⟩ := h
  refine ⟨(hm_up_n (by simp)).trans a1, a2.up (by simp) (by simp), a3.up (by simp) (by simp), a4.up (by simp) (by simp), (hm_up_n (by simp)).trans a5, a6.up (by simp) (by simp) (by simp), (hm_up_n (by simp)).trans a7, fun i hi => (a8 i hi).up (by simp) (by simp) (by simp) (by simp), fun r1 hr => ?_, fun k hk => (hm_up_n (by simp)).trans (a10 k hk), fun j hj => (a11 j hj).up (by simp) (by simp) (by simp), a12⟩
  show hasRu g ad _ r1 (if r1 = r then u else xRu x r1) (xAl x r1)
  have h0 := a9 r1 hr
  by_cases h : r1 = r
  · subst h
    obtain ⟨b1, b2, b3, b4, -⟩ := h0
    rw [if_pos rfl]
    exact ⟨hm_up_s, (hm_up_n (by simp)).trans b2, fun k1 hk => (hm_up_n (by simp)).trans (b3 k1 hk), b4, h1, h2, h3⟩
  · rw [if_neg h]
    exact h0.up (by simp [h]) (by simp) (by simp)
theorem hasX.gro (h : hasX g ad M x) (j : Nat) (d : GrD) {M2 : CT} (hd : j < 7 → hasGr g ad M2 j d) (hM : ∀ t, t ≠ (60, j, 0) → t ≠ (61, j, 0) → t ≠ (62, j, 0) → M2 t = M t) : hasX g ad M2 (setGr x j d) := by
  obtain ⟨a1, ⟨m1, q1, f1, b1, c1, d1⟩, ⟨m2, q2, f2, b2, c2, d2⟩, ⟨m3, q3, f3, b3, c3, d3⟩, a5, ⟨e1, e2, e3, e4⟩, a7, a8, a9, a10, a11, a12⟩ := h
  refine ⟨(hM _ (by simp) (by simp) (by simp)).trans a1, ⟨m1, q1, f1, (hM _ (by simp) (by simp) (by simp)).trans b1, by rw [hM _ (by simp) (by simp) (by simp)]; exact c1, d1⟩, ⟨m2, q2, f2, (hM _ (by simp) (by simp) (by simp)).trans b2, by rw [hM _ (by simp) (by simp) (by simp)]; exact c2, d2⟩, ⟨m3, q3, f3, (hM _ (by simp) (by simp) (by simp)).trans b3, by rw [hM _ (by simp) (by simp) (by simp)]; exact c3, d3⟩, (hM _ (by simp) (by simp) (by simp)).trans a5, ⟨(hM _ (by simp) (by simp) (by simp)).trans e1, (hM _ (by simp) (by simp) (by simp)).trans e2, fun k hk => (hM _ (by simp) (by simp) (by simp)).trans (e3 k hk), e4⟩, (hM _ (by simp) (by simp) (by simp)).trans a7, fun i hi => ?_, fun r hr => ?_, fun k hk => (hM _ (by simp) (by simp) (by simp)).trans (a10 k hk), fun i hi => ?_, a12⟩
  · obtain ⟨p1, p2, p3, p4, p5⟩ := a8 i hi
    exact ⟨(hM _ (by simp) (by simp) (by simp)).trans p1, (hM _ (by simp) (by simp) (by simp)).trans p2, (hM _ (by simp) (by simp) (by simp)).trans p3, fun k hk => (hM _ (by simp) (by simp) (by simp)).trans (p4 k hk), p5⟩
  · obtain ⟨p1, p2, p3, p4⟩ := a9 r hr
    exact ⟨(hM _ (by simp) (by simp) (by simp)).trans p1, (hM _ (by simp) (by simp) (by simp)).trans p2, fun k hk => (hM _ (by simp) (by simp) (by simp)).trans (p3 k hk), p4⟩
  · show hasGr g ad M2 i (if i = j then d else xGr x i)
    by_cases h : i = j
    · subst h
      rw [if_pos rfl]
      exact hd hi
    · rw [if_neg h]
      obtain ⟨p1, p2, p3⟩ := a11 i hi
      exact ⟨(hM _ (by simp [h]) (by simp) (by simp)).trans p1, (hM _ (by simp) (by simp [h]) (by simp)).trans p2, (hM _ (by simp) (by simp) (by simp [h])).trans p3⟩
theorem hasX.ser (h : hasX g ad M x) (i : Nat) (d : SeD) {M2 : CT} (hd : i < xS x → hasSe g ad M2 i d) (hM : ∀ t, t ≠ (10, i, 0) → t ≠ (11, i, 0) → (∀ j, t ≠ (13, i, j)) → M2 t = M t) : hasX g ad M2 (setSe x i d) := by
  obtain ⟨a1, ⟨m1, q1, f1, b1, c1, d1⟩, ⟨m2, q2, f2, b2, c2, d2⟩, ⟨m3, q3, f3, b3, c3, d3⟩, a5, ⟨e1, e2, e3, e4⟩, a7, a8, a9, a10, a11, a12⟩ := h
  refine ⟨(hM _ (by simp) (by simp) (by simp)).trans a1, ⟨m1, q1, f1, (hM _ (by simp) (by simp) (by simp)).trans b1, by rw [hM _ (by simp) (by simp) (by simp)]; exact c1, d1⟩, ⟨m2, q2, f2, (hM _ (by simp) (by simp) (by simp)).trans b2, by rw [hM _ (by simp) (by simp) (by simp)]; exact c2, d2⟩, ⟨m3, q3, f3, (hM _ (by simp) (by simp) (by simp)).trans b3, by rw [hM _ (by simp) (by simp) (by simp)]; exact c3, d3⟩, (hM _ (by simp) (by simp) (by simp)).trans a5, ⟨(hM _ (by simp) (by simp) (by simp)).trans e1, (hM _ (by simp) (by simp) (by simp)).trans e2, fun k hk => (hM _ (by simp) (by simp) (by simp)).trans (e3 k hk), e4⟩, (hM _ (by simp) (by simp) (by simp)).trans a7, fun k hk => ?_, fun r hr => ?_, fun k hk => (hM _ (by simp) (by simp) (by simp)).trans (a10 k hk), fun j hj => ?_, a12⟩
  · show hasSe g ad M2 k (if k = i then d else xSe x k)
    by_cases h : k = i
    · subst h
      rw [if_pos rfl]
      exact hd hk
    · rw [if_neg h]
      obtain ⟨p1, p2, p3, p4, p5⟩ := a8 k hk
      exact ⟨(hM _ (by simp [h]) (by simp) (by simp)).trans p1, (hM _ (by simp) (by simp [h]) (by simp)).trans p2, (hM _ (by simp) (by simp) (by simp)).trans p3, fun j hj => (hM _ (by simp) (by simp) (by simp [h])).trans (p4 j hj), p5⟩
  · obtain ⟨p1, p2, p3, p4⟩ := a9 r hr
    exact ⟨(hM _ (by simp) (by simp) (by simp)).trans p1, (hM _ (by simp) (by simp) (by simp)).trans p2, fun k hk => (hM _ (by simp) (by simp) (by simp)).trans (p3 k hk), p4⟩
  · obtain ⟨p1, p2, p3⟩ := a11 j hj
    exact ⟨(hM _ (by simp) (by simp) (by simp)).trans p1, (hM _ (by simp) (by simp) (by simp)).trans p2, (hM _ (by simp) (by simp) (by simp)).trans p3⟩
theorem hasX.log (h : hasX g ad M x) (d : LgD) {M2 : CT} (hd : hasLg g ad M2 d) (hM : ∀ t, t ≠ (8, 0, 0) → (∀ j, t ≠ (51, j, 0)) → M2 t = M t) : hasX g ad M2 (setL x d) := by
  obtain ⟨a1, ⟨m1, q1, f1, b1, c1, d1⟩, ⟨m2, q2, f2, b2, c2, d2⟩, ⟨m3, q3, f3, b3, c3, d3⟩, a5, -, a7, a8, a9, a10, a11, a12⟩ := h
  refine ⟨(hM _ (by simp) (by simp)).trans a1, ⟨m1, q1, f1, (hM _ (by simp) (by simp)).trans b1, by rw [hM _ (by simp) (by simp)]; exact c1, d1⟩, ⟨m2, q2, f2, (hM _ (by simp) (by simp)).trans b2, by rw [hM _ (by simp) (by simp)]; exact c2, d2⟩, ⟨m3, q3, f3, (hM _ (by simp) (by simp)).trans b3, by rw [hM _ (by simp) (by simp)]; exact c3, d3⟩, (hM _ (by simp) (by simp)).trans a5, hd, (hM _ (by simp) (by simp)).trans a7, fun k hk => ?_, fun r hr => ?_, fun k hk => (hM _ (by simp) (by simp)).trans (a10 k hk), fun j hj => ?_, a12⟩
  · obtain ⟨p1, p2, p3, p4, p5⟩ := a8 k hk
    exact ⟨(hM _ (by simp) (by simp)).trans p1, (hM _ (by simp) (by simp)).trans p2, (hM _ (by simp) (by simp)).trans p3, fun j hj => (hM _ (by simp) (by simp)).trans (p4 j hj), p5⟩
  · obtain ⟨p1, p2, p3, p4⟩ := a9 r hr
    exact ⟨(hM _ (by simp) (by simp)).trans p1, (hM _ (by simp) (by simp)).trans p2, fun k hk => (hM _ (by simp) (by simp)).trans (p3 k hk), p4⟩
  · obtain ⟨p1, p2, p3⟩ := a11 j hj
    exact ⟨(hM _ (by simp) (by simp)).trans p1, (hM _ (by simp) (by simp)).trans p2, (hM _ (by simp) (by simp)).trans p3⟩
theorem c_size (l : Launch) {t tq : TG} {n : Nat} {els : Nat → Nat} (h : hasLi g ad M t tq n els) : hm_Met l yJx4a65c_size_8abf5 cJx4a65c_size_8abf5 1 (some .int) rm_Jx4a65c_size_8abf5 g ad M [.ref (ad t)] (hm_pU ad M (some (.int (nI n)))) := by
  obtain ⟨mc, q, f, h1, -, -⟩ := h
  exact c_Jx4a65c_size_8abf5 l g ad M t mc q n h1
theorem c_get (l : Launch) {t tq : TG} {n : Nat} {els : Nat → Nat} (h : hasLi g ad M t tq n els) (i : Nat) (hi : i < n) : hm_Met l yJx4a65c_get_915e3 cJx4a65c_get_915e3 2 (some (.object "java/lang/Object")) rm_Jx4a65c_get_915e3 g ad M [.ref (ad t), .int (nI i)] (hm_pU ad M (some (.ref (els i)))) := by
  obtain ⟨mc, q, f, h1, h2, h3⟩ := h
  obtain ⟨h4, h5, h6⟩ := h2.resolve_left (fun h => by omega)
  exact c_Jx4a65c_get_915e3 l g ad M t mc q n h1 tq f i (els i) h4 h5 hi h3 (h6 i hi)
end HMX
end
section
def hkF (x : XD) (u : RuD) (k : Nat) : Bool := anyB (fun i => tkF u i (xSe x i) k) (xS x)
def laL (x : XD) (u : RuD) (k a : Nat) : Nat → Int32
  | 0 => 0
  | i + 1 => if tkF u i (xSe x i) k then laL x u k a i + lookF (xSe x i) (rLo u) (rW u) a else laL x u k a i
def laF (x : XD) (u : RuD) (k a : Nat) : Int32 := laL x u k a (xS x)
def plF (x : XD) (u : RuD) (k : Nat) : Int32 := if rWa u = 0 then (if k < xS x then sPl (xSe x k) else -1) else if rWa u = 1 then nI k else -1
def ih1 (x : XD) (ru pl wo : Int32) (h : Nat) : Bool := !decide (nI h = wo) && covF (xHu x h) ru pl (nI (xC x))
def ihF (x : XD) (ru pl wo : Int32) : Bool := anyB (ih1 x ru pl wo) (xH x)
def iq1 (x : XD) (rk pl wo : Int32) (r k : Nat) : Bool := decide (rk < rRk (xRu x r)) && ((decide (plF x (xRu x r) k = pl) || decide (plF x (xRu x r) k = -1)) && (decide ((xAl x r k).1 = 2) && !ihF x (nI r) (plF x (xRu x r) k) wo))
def iq2 (x : XD) (rk pl wo : Int32) (r : Nat) : Bool := anyB (iq1 x rk pl wo r) 12
def iqF (x : XD) (rk pl wo : Int32) : Bool := anyB (iq2 x rk pl wo) (xR x)
def hrF (x : XD) (r k : Nat) (wo : Int32) : Int32 := if ¬ (xAl x r k).1 = 2 then 1 else if ihF x (nI r) (plF x (xRu x r) k) wo then 2 else if iqF x (rRk (xRu x r)) (plF x (xRu x r) k) wo then 3 else 0
def cl1 (x : XD) (wo : Int32) (r k : Nat) : Bool := decide (hrF x r k wo = 0)
def clN (x : XD) (wo : Int32) : Nat → Nat := sumN (fun r => cntB (cl1 x wo r) 12)
def clX (x : XD) (wo : Int32) : Nat := clN x wo (xR x)
def caN (x : XD) (le : Int32) : Nat → Nat := sumN (fun r => caF (xAl x r) le)
def caX (x : XD) (le : Int32) : Nat := caN x le (xR x)
def cc1 (x : XD) (h : HuD) (r k : Nat) : Bool := !decide ((xAl x r k).1 = 0) && covF h (nI r) (plF x (xRu x r) k) (nI (xC x))
def ccN (x : XD) (h : HuD) : Nat → Nat := sumN (fun r => cntB (cc1 x h r) 12)
def ccX (x : XD) (h : HuD) : Nat := ccN x h (xR x)
def goF (x : XD) (r k : Nat) : Int32 := if xG x = 1 then nI r else if xG x = 2 then (if plF x (xRu x r) k = -1 then 6 else plF x (xRu x r) k) else 0
def grL2 (x : XD) (d : GrD) : Nat → Int32
  | 0 => -1
  | r + 1 => if gLo d r = 0 then grL2 x d r else mxI (grL2 x d r) (rRk (xRu x r))
def grR (x : XD) (d : GrD) : Int32 := grL2 x d (xR x)
theorem hm_szO {n : Nat} (k : Nat) (h : k < n) (hn : n < 1000) : bI (decide (nI k < 0) || decide (nI (n - 1) < nI k)) = 0 := hm_in0 (by omega) (by omega)
theorem hm_szO' {n : Nat} (k : Nat) (h : n ≤ k) (hk : k < 1000) : ¬ bI (decide (nI k < 0) || decide (nI n - 1 < nI k)) = 0 := by
  rcases Nat.eq_zero_or_pos n with h0 | h0
  · subst h0
    rw [show nI 0 - 1 = -1 by decide, decide_eq_true (show (-1 : Int32) < nI k by
      rcases Nat.eq_zero_or_pos k with h1 | h1
      · subst h1; decide
      · exact Int32.lt_trans (by decide : (-1 : Int32) < 0) (nI_lt (a := 0) h1 (by omega)))]
    simp [bI]
  · rw [show nI n - 1 = nI (n - 1) from pk_sub (b := 1) h0, decide_eq_true (nI_lt (by omega) (by omega))]
    simp [bI]

abbrev rm_X6_requireSeries : Room := { frames := 3, cells := 0, slots := 0, locals := 64 }
set_option maxHeartbeats 4000000 in
set_option maxRecDepth 100000 in
theorem c_X6_requireSeries (l : Launch) (g : GV) (ad : AD) (M : CT) (x : XD) (hx : hasX g ad M x) (k : Nat) (hk9 : k < xS x) : hm_Met l yX6_requireSeries cX6_requireSeries 2 (some (.object "HarbourlightMonitor$Series")) rm_X6_requireSeries g ad M [.ref (ad (0, 0, 0)), .int (nI k)] (hm_pU ad M (some (.ref (ad (10, k, 0))))) := by
  refine hm_start (own := RX6) (by decide) rfl (Nat.le_of_ble_eq_true rfl) ?_
  intro p e s m args below meth c S hr hlk hnm hE hG ls hl
  have hl : lv_has ls 2 [(0, .ref (ad (0, 0, 0))), (1, .int (nI k))] := hl
  obtain ⟨hX, hLs, hLr, hLh, h7, hLg, h70, hSe, hRu, hHu, hGr, hS6, hR6, hH5⟩ := id hx
  obtain ⟨fs1, hb1⟩ := hLs.ob
  obtain ⟨fs2, hb2⟩ := hLr.ob
  obtain ⟨fs3, hb3⟩ := hLh.ob
  refine lv_iload_n S.1 S.2.1 dX6_requireSeries_0 rfl (lv_at hl 1 rfl) ?_
  refine lv_iconst (v := 0) S.1 S.2.1 dX6_requireSeries_1 (by decide) ?_
  refine lv_aload_n S.1 S.2.1 dX6_requireSeries_2 rfl (lv_at hl 0 rfl) ?_
  refine hm_get (k := 0) S hE hG hX rfl rfl hi_X60 (by decide) hb_16 rfl rfl dX6_requireSeries_3 ?_
  refine hm_uV (As := []) (rest := [.int 0, .int (nI k)]) (st1 := [.int (nI (xS x)), .int 0, .int (nI k)]) S hE hG (c_size l hLs) (hm_gV hb_97 hb_98 hb_99 hb_15 hb_100) hd_Jx4a65c_size_8abf5 rfl hb1 rfl rfl ⟨Nat.le_of_ble_eq_true rfl, Nat.le_of_ble_eq_true rfl⟩ rfl hl.1 rfl (Nat.le_of_ble_eq_true rfl) dX6_requireSeries_6 ⟨Nat.le_of_ble_eq_true rfl, Nat.le_of_ble_eq_true rfl⟩ rfl (fun H locs hG => ?_)
  refine lv_iconst (v := 1) S.1 S.2.1 dX6_requireSeries_9 (by decide) ?_
  refine lv_isub S.1 S.2.1 dX6_requireSeries_10 ?_
  refine hm_top (z := nI (xS x - 1)) (pk_sub (b := 1) (by omega)) ?_
  refine hm_uS (As := [.int (nI k), .int 0, .int (nI (xS x - 1))]) (rest := []) (st1 := [.int (bI (decide ((nI k) < 0) || decide ((nI (xS x - 1)) < (nI k))))]) S hE hG (c_X6_isOutside l g ad M (nI k) 0 (nI (xS x - 1))) (hm_gS hb_91 hb_92 hb_2 hb_93) hd_X6_isOutside ⟨Nat.le_of_ble_eq_true rfl, Nat.le_of_ble_eq_true rfl⟩ rfl hl.1 rfl (Nat.le_of_ble_eq_true rfl) dX6_requireSeries_11 ⟨Nat.le_of_ble_eq_true rfl, Nat.le_of_ble_eq_true rfl⟩ rfl (fun H locs hG => ?_)
  refine lv_if_eq (tgt := 28) S.1 S.2.1 dX6_requireSeries_14 (by decide) (fun _ => ?_) (fun h9 => absurd (hm_szO k hk9 (by omega)) h9)
  refine lv_aload_n S.1 S.2.1 dX6_requireSeries_28 rfl (lv_at hl 0 rfl) ?_
  refine hm_get (k := 0) S hE hG hX rfl rfl hi_X60 (by decide) hb_16 rfl rfl dX6_requireSeries_29 ?_
  refine lv_iload_n S.1 S.2.1 dX6_requireSeries_32 rfl (lv_at hl 1 rfl) ?_
  refine hm_uV (As := [.int (nI k)]) (rest := []) (st1 := [.ref (ad (10, k, 0))]) S hE hG (c_get l hLs k hk9) (hm_gV hb_208 hb_209 hb_210 hb_15 hb_211) hd_Jx4a65c_get_915e3 rfl hb1 rfl rfl ⟨Nat.le_of_ble_eq_true rfl, Nat.le_of_ble_eq_true rfl⟩ rfl hl.1 rfl (Nat.le_of_ble_eq_true rfl) dX6_requireSeries_33 ⟨Nat.le_of_ble_eq_true rfl, Nat.le_of_ble_eq_true rfl⟩ rfl (fun H locs hG => ?_)
  refine hm_cast S hE hG (hSe k hk9).1 rfl rfl hb_246 dX6_requireSeries_36 ?_
  exact hm_aret S hG hr (Or.inl ⟨_, rfl⟩) hlk (⟨rfl, rfl, rfl⟩) (Nat.le_of_ble_eq_true rfl) (Nat.le_of_ble_eq_true rfl) dX6_requireSeries_39

abbrev rm_X6_requireRule : Room := { frames := 3, cells := 0, slots := 0, locals := 64 }
set_option maxHeartbeats 4000000 in
set_option maxRecDepth 100000 in
theorem c_X6_requireRule (l : Launch) (g : GV) (ad : AD) (M : CT) (x : XD) (hx : hasX g ad M x) (k : Nat) (hk9 : k < xR x) : hm_Met l yX6_requireRule cX6_requireRule 2 (some (.object "HarbourlightMonitor$Rule")) rm_X6_requireRule g ad M [.ref (ad (0, 0, 0)), .int (nI k)] (hm_pU ad M (some (.ref (ad (20, k, 0))))) := by
  refine hm_start (own := RX6) (by decide) rfl (Nat.le_of_ble_eq_true rfl) ?_
  intro p e s m args below meth c S hr hlk hnm hE hG ls hl
  have hl : lv_has ls 2 [(0, .ref (ad (0, 0, 0))), (1, .int (nI k))] := hl
  obtain ⟨hX, hLs, hLr, hLh, h7, hLg, h70, hSe, hRu, hHu, hGr, hS6, hR6, hH5⟩ := id hx
  obtain ⟨fs1, hb1⟩ := hLs.ob
  obtain ⟨fs2, hb2⟩ := hLr.ob
  obtain ⟨fs3, hb3⟩ := hLh.ob
  refine lv_iload_n S.1 S.2.1 dX6_requireRule_0 rfl (lv_at hl 1 rfl) ?_
  refine lv_iconst (v := 0) S.1 S.2.1 dX6_requireRule_1 (by decide) ?_
  refine lv_aload_n S.1 S.2.1 dX6_requireRule_2 rfl (lv_at hl 0 rfl) ?_
  refine hm_get (k := 1) S hE hG hX rfl rfl hi_X60 (by decide) hb_17 rfl rfl dX6_requireRule_3 ?_
  refine hm_uV (As := []) (rest := [.int 0, .int (nI k)]) (st1 := [.int (nI (xR x)), .int 0, .int (nI k)]) S hE hG (c_size l hLr) (hm_gV hb_97 hb_98 hb_99 hb_15 hb_100) hd_Jx4a65c_size_8abf5 rfl hb2 rfl rfl ⟨Nat.le_of_ble_eq_true rfl, Nat.le_of_ble_eq_true rfl⟩ rfl hl.1 rfl (Nat.le_of_ble_eq_true rfl) dX6_requireRule_6 ⟨Nat.le_of_ble_eq_true rfl, Nat.le_of_ble_eq_true rfl⟩ rfl (fun H locs hG => ?_)
  refine lv_iconst (v := 1) S.1 S.2.1 dX6_requireRule_9 (by decide) ?_
  refine lv_isub S.1 S.2.1 dX6_requireRule_10 ?_
  refine hm_top (z := nI (xR x - 1)) (pk_sub (b := 1) (by omega)) ?_
  refine hm_uS (As := [.int (nI k), .int 0, .int (nI (xR x - 1))]) (rest := []) (st1 := [.int (bI (decide ((nI k) < 0) || decide ((nI (xR x - 1)) < (nI k))))]) S hE hG (c_X6_isOutside l g ad M (nI k) 0 (nI (xR x - 1))) (hm_gS hb_91 hb_92 hb_2 hb_93) hd_X6_isOutside ⟨Nat.le_of_ble_eq_true rfl, Nat.le_of_ble_eq_true rfl⟩ rfl hl.1 rfl (Nat.le_of_ble_eq_true rfl) dX6_requireRule_11 ⟨Nat.le_of_ble_eq_true rfl, Nat.le_of_ble_eq_true rfl⟩ rfl (fun H locs hG => ?_)
  refine lv_if_eq (tgt := 28) S.1 S.2.1 dX6_requireRule_14 (by decide) (fun _ => ?_) (fun h9 => absurd (hm_szO k hk9 (by omega)) h9)
  refine lv_aload_n S.1 S.2.1 dX6_requireRule_28 rfl (lv_at hl 0 rfl) ?_
  refine hm_get (k := 1) S hE hG hX rfl rfl hi_X60 (by decide) hb_17 rfl rfl dX6_requireRule_29 ?_
  refine lv_iload_n S.1 S.2.1 dX6_requireRule_32 rfl (lv_at hl 1 rfl) ?_
  refine hm_uV (As := [.int (nI k)]) (rest := []) (st1 := [.ref (ad (20, k, 0))]) S hE hG (c_get l hLr k hk9) (hm_gV hb_208 hb_209 hb_210 hb_15 hb_211) hd_Jx4a65c_get_915e3 rfl hb2 rfl rfl ⟨Nat.le_of_ble_eq_true rfl, Nat.le_of_ble_eq_true rfl⟩ rfl hl.1 rfl (Nat.le_of_ble_eq_true rfl) dX6_requireRule_33 ⟨Nat.le_of_ble_eq_true rfl, Nat.le_of_ble_eq_true rfl⟩ rfl (fun H locs hG => ?_)
  refine hm_cast S hE hG (hRu k hk9).1 rfl rfl hb_207 dX6_requireRule_36 ?_
  exact hm_aret S hG hr (Or.inl ⟨_, rfl⟩) hlk (⟨rfl, rfl, rfl⟩) (Nat.le_of_ble_eq_true rfl) (Nat.le_of_ble_eq_true rfl) dX6_requireRule_39

abbrev rm_X6_requireHush : Room := { frames := 3, cells := 0, slots := 0, locals := 64 }
set_option maxHeartbeats 4000000 in
set_option maxRecDepth 100000 in
theorem c_X6_requireHush (l : Launch) (g : GV) (ad : AD) (M : CT) (x : XD) (hx : hasX g ad M x) (k : Nat) (hk9 : k < xH x) : hm_Met l yX6_requireHush cX6_requireHush 2 (some (.object "HarbourlightMonitor$Hush")) rm_X6_requireHush g ad M [.ref (ad (0, 0, 0)), .int (nI k)] (hm_pU ad M (some (.ref (ad (30, k, 0))))) := by
  refine hm_start (own := RX6) (by decide) rfl (Nat.le_of_ble_eq_true rfl) ?_
  intro p e s m args below meth c S hr hlk hnm hE hG ls hl
  have hl : lv_has ls 2 [(0, .ref (ad (0, 0, 0))), (1, .int (nI k))] := hl
  obtain ⟨hX, hLs, hLr, hLh, h7, hLg, h70, hSe, hRu, hHu, hGr, hS6, hR6, hH5⟩ := id hx
  obtain ⟨fs1, hb1⟩ := hLs.ob
  obtain ⟨fs2, hb2⟩ := hLr.ob
  obtain ⟨fs3, hb3⟩ := hLh.ob
  refine lv_iload_n S.1 S.2.1 dX6_requireHush_0 rfl (lv_at hl 1 rfl) ?_
  refine lv_iconst (v := 0) S.1 S.2.1 dX6_requireHush_1 (by decide) ?_
  refine lv_aload_n S.1 S.2.1 dX6_requireHush_2 rfl (lv_at hl 0 rfl) ?_
  refine hm_get (k := 2) S hE hG hX rfl rfl hi_X60 (by decide) hb_18 rfl rfl dX6_requireHush_3 ?_
  refine hm_uV (As := []) (rest := [.int 0, .int (nI k)]) (st1 := [.int (nI (xH x)), .int 0, .int (nI k)]) S hE hG (c_size l hLh) (hm_gV hb_97 hb_98 hb_99 hb_15 hb_100) hd_Jx4a65c_size_8abf5 rfl hb3 rfl rfl ⟨Nat.le_of_ble_eq_true rfl, Nat.le_of_ble_eq_true rfl⟩ rfl hl.1 rfl (Nat.le_of_ble_eq_true rfl) dX6_requireHush_6 ⟨Nat.le_of_ble_eq_true rfl, Nat.le_of_ble_eq_true rfl⟩ rfl (fun H locs hG => ?_)
  refine lv_iconst (v := 1) S.1 S.2.1 dX6_requireHush_9 (by decide) ?_
  refine lv_isub S.1 S.2.1 dX6_requireHush_10 ?_
  refine hm_top (z := nI (xH x - 1)) (pk_sub (b := 1) (by omega)) ?_
  refine hm_uS (As := [.int (nI k), .int 0, .int (nI (xH x - 1))]) (rest := []) (st1 := [.int (bI (decide ((nI k) < 0) || decide ((nI (xH x - 1)) < (nI k))))]) S hE hG (c_X6_isOutside l g ad M (nI k) 0 (nI (xH x - 1))) (hm_gS hb_91 hb_92 hb_2 hb_93) hd_X6_isOutside ⟨Nat.le_of_ble_eq_true rfl, Nat.le_of_ble_eq_true rfl⟩ rfl hl.1 rfl (Nat.le_of_ble_eq_true rfl) dX6_requireHush_11 ⟨Nat.le_of_ble_eq_true rfl, Nat.le_of_ble_eq_true rfl⟩ rfl (fun H locs hG => ?_)
  refine lv_if_eq (tgt := 28) S.1 S.2.1 dX6_requireHush_14 (by decide) (fun _ => ?_) (fun h9 => absurd (hm_szO k hk9 (by omega)) h9)
  refine lv_aload_n S.1 S.2.1 dX6_requireHush_28 rfl (lv_at hl 0 rfl) ?_
  refine hm_get (k := 2) S hE hG hX rfl rfl hi_X60 (by decide) hb_18 rfl rfl dX6_requireHush_29 ?_
  refine lv_iload_n S.1 S.2.1 dX6_requireHush_32 rfl (lv_at hl 1 rfl) ?_
  refine hm_uV (As := [.int (nI k)]) (rest := []) (st1 := [.ref (ad (30, k, 0))]) S hE hG (c_get l hLh k hk9) (hm_gV hb_208 hb_209 hb_210 hb_15 hb_211) hd_Jx4a65c_get_915e3 rfl hb3 rfl rfl ⟨Nat.le_of_ble_eq_true rfl, Nat.le_of_ble_eq_true rfl⟩ rfl hl.1 rfl (Nat.le_of_ble_eq_true rfl) dX6_requireHush_33 ⟨Nat.le_of_ble_eq_true rfl, Nat.le_of_ble_eq_true rfl⟩ rfl (fun H locs hG => ?_)
  refine hm_cast S hE hG (hHu k hk9) rfl rfl hb_320 dX6_requireHush_36 ?_
  exact hm_aret S hG hr (Or.inl ⟨_, rfl⟩) hlk (⟨rfl, rfl, rfl⟩) (Nat.le_of_ble_eq_true rfl) (Nat.le_of_ble_eq_true rfl) dX6_requireHush_39

abbrev rm_X6_hasKey : Room := { frames := 3, cells := 0, slots := 0, locals := 64 }
set_option maxHeartbeats 4000000 in
set_option maxRecDepth 100000 in
theorem c_X6_hasKey (l : Launch) (g : GV) (ad : AD) (M : CT) (x : XD) (hx : hasX g ad M x) (r : Nat) (hr9 : r < xR x) (k : Nat) (hk : k < 12) : hm_Met l yX6_hasKey cX6_hasKey 4 (some .boolean) rm_X6_hasKey g ad M [.ref (ad (0, 0, 0)), .ref (ad (20, r, 0)), .int (nI k)] (hm_pU ad M (some (.int (bI (hkF x (xRu x r) k))))) := by
  refine hm_start (own := RX6) (by decide) rfl (Nat.le_of_ble_eq_true rfl) ?_
  intro p e s m args below meth c S hr hlk hnm hE hG ls hl
  have hl : lv_has ls 4 [(0, .ref (ad (0, 0, 0))), (1, .ref (ad (20, r, 0))), (2, .int (nI k))] := hl
  obtain ⟨hX, hLs, hLr, hLh, h7, hLg, h70, hSe, hRu, hHu, hGr, hS6, hR6, hH5⟩ := id hx
  obtain ⟨fs1, hb1⟩ := hLs.ob
  obtain ⟨fs2, hb2⟩ := hLr.ob
  obtain ⟨fs3, hb3⟩ := hLh.ob
  refine lv_iconst (v := 0) S.1 S.2.1 dX6_hasKey_0 (by decide) ?_
  refine lv_istore_n (lv' := [(3, .int 0), (0, .ref (ad (0, 0, 0))), (1, .ref (ad (20, r, 0))), (2, .int (nI k))]) S.1 S.2.1 dX6_hasKey_1 rfl hl (by decide) rfl (fun ls hl => ?_)
  have L2_0 : ∀ (n : Nat) (i : Nat), anyB (fun i => tkF (xRu x r) i (xSe x i) k) i = false → n + i = xS x → ∀ (H : Heap) (locs : List Loc) (ls : Array Slot), hm_G g ad M s.heap H locs → lv_has ls 4 [(0, .ref (ad (0, 0, 0))), (1, .ref (ad (20, r, 0))), (2, .int (nI k)), (3, .int (nI i))] → W p l e rm_X6_hasKey s m args below meth c H locs 0 0 (MQ below (hm_Q g (hm_pU ad M (some (.int (bI (hkF x (xRu x r) k)))))) args s rm_X6_hasKey.cells rm_X6_hasKey.slots (hm_A g)) (F0 m 2 ls []) := by
    intro n
    induction n with
    | zero =>
      intro i hF hk0 H locs ls hG hl
      obtain rfl : i = xS x := by omega
      refine lv_iload_n S.1 S.2.1 dX6_hasKey_2 rfl (lv_at hl 3 rfl) ?_
      refine lv_aload_n S.1 S.2.1 dX6_hasKey_3 rfl (lv_at hl 0 rfl) ?_
      refine hm_get (k := 0) S hE hG hX rfl rfl hi_X60 (by decide) hb_16 rfl rfl dX6_hasKey_4 ?_
      refine hm_uV (As := []) (rest := [.int (nI (xS x))]) (st1 := [.int (nI (xS x)), .int (nI (xS x))]) S hE hG (c_size l hLs) (hm_gV hb_97 hb_98 hb_99 hb_15 hb_100) hd_Jx4a65c_size_8abf5 rfl hb1 rfl rfl ⟨Nat.le_of_ble_eq_true rfl, Nat.le_of_ble_eq_true rfl⟩ rfl hl.1 rfl (Nat.le_of_ble_eq_true rfl) dX6_hasKey_7 ⟨Nat.le_of_ble_eq_true rfl, Nat.le_of_ble_eq_true rfl⟩ rfl (fun H locs hG => ?_)
      refine lv_icmp_ge (tgt := 40) S.1 S.2.1 dX6_hasKey_10 (by decide) (fun _ => ?_) (fun h9 => absurd (nI_le (Nat.le_refl _) (by omega)) h9)
      refine lv_iconst (v := 0) S.1 S.2.1 dX6_hasKey_40 (by decide) ?_
      exact hm_zret S hG hr hlk (by decide) (⟨by rw [show hkF x (xRu x r) k = false from hF]; rfl, rfl, rfl⟩) (Nat.le_of_ble_eq_true rfl) (Nat.le_of_ble_eq_true rfl) dX6_hasKey_41
    | succ n ih2 =>
      intro i hF hk0 H locs ls hG hl
      have hi9 : i < xS x := by omega
      refine lv_iload_n S.1 S.2.1 dX6_hasKey_2 rfl (lv_at hl 3 rfl) ?_
      refine lv_aload_n S.1 S.2.1 dX6_hasKey_3 rfl (lv_at hl 0 rfl) ?_
      refine hm_get (k := 0) S hE hG hX rfl rfl hi_X60 (by decide) hb_16 rfl rfl dX6_hasKey_4 ?_
      refine hm_uV (As := []) (rest := [.int (nI i)]) (st1 := [.int (nI (xS x)), .int (nI i)]) S hE hG (c_size l hLs) (hm_gV hb_97 hb_98 hb_99 hb_15 hb_100) hd_Jx4a65c_size_8abf5 rfl hb1 rfl rfl ⟨Nat.le_of_ble_eq_true rfl, Nat.le_of_ble_eq_true rfl⟩ rfl hl.1 rfl (Nat.le_of_ble_eq_true rfl) dX6_hasKey_7 ⟨Nat.le_of_ble_eq_true rfl, Nat.le_of_ble_eq_true rfl⟩ rfl (fun H locs hG => ?_)
      refine lv_icmp_ge (tgt := 40) S.1 S.2.1 dX6_hasKey_10 (by decide) (fun h9 => absurd h9 (nI_ge hi9 (by omega))) (fun _ => ?_)
      refine lv_aload_n S.1 S.2.1 dX6_hasKey_13 rfl (lv_at hl 1 rfl) ?_
      refine lv_aload_n S.1 S.2.1 dX6_hasKey_14 rfl (lv_at hl 0 rfl) ?_
      refine hm_get (k := 0) S hE hG hX rfl rfl hi_X60 (by decide) hb_16 rfl rfl dX6_hasKey_15 ?_
      refine lv_iload_n S.1 S.2.1 dX6_hasKey_18 rfl (lv_at hl 3 rfl) ?_
      refine hm_uV (As := [.int (nI i)]) (rest := [.ref (ad (20, r, 0))]) (st1 := [.ref (ad (10, i, 0)), .ref (ad (20, r, 0))]) S hE hG (c_get l hLs i hi9) (hm_gV hb_208 hb_209 hb_210 hb_15 hb_211) hd_Jx4a65c_get_915e3 rfl hb1 rfl rfl ⟨Nat.le_of_ble_eq_true rfl, Nat.le_of_ble_eq_true rfl⟩ rfl hl.1 rfl (Nat.le_of_ble_eq_true rfl) dX6_hasKey_19 ⟨Nat.le_of_ble_eq_true rfl, Nat.le_of_ble_eq_true rfl⟩ rfl (fun H locs hG => ?_)
      refine hm_cast S hE hG (hSe i hi9).1 rfl rfl hb_246 dX6_hasKey_22 ?_
      refine lv_iload_n S.1 S.2.1 dX6_hasKey_25 rfl (lv_at hl 2 rfl) ?_
      refine hm_uV (As := [.ref (ad (10, i, 0)), .int (nI k)]) (rest := []) (st1 := [.int (bI (tkF (xRu x r) i (xSe x i) k))]) S hE hG (c_X4_takes l g ad M i (xSe x i) (hSe i hi9) r (xRu x r) (xAl x r) (hRu r hr9) k hk) (hm_gV hb_343 hb_344 hb_345 hb_170 hb_346) hd_X4_takes rfl (hRu r hr9).1 rfl rfl ⟨Nat.le_of_ble_eq_true rfl, Nat.le_of_ble_eq_true rfl⟩ rfl hl.1 rfl (Nat.le_of_ble_eq_true rfl) dX6_hasKey_26 ⟨Nat.le_of_ble_eq_true rfl, Nat.le_of_ble_eq_true rfl⟩ rfl (fun H locs hG => ?_)
      refine lv_if_eq (tgt := 34) S.1 S.2.1 dX6_hasKey_29 (by decide) (fun c29 => ?_) (fun c29 => ?_)
      · skip
        refine lv_iinc (v := nI (i + 1)) (lv' := [(3, .int (nI (i + 1))), (0, .ref (ad (0, 0, 0))), (1, .ref (ad (20, r, 0))), (2, .int (nI k))]) S.1 S.2.1 dX6_hasKey_34 hl (k := 3) rfl (nI_1 i) (by decide) rfl (fun ls hl => ?_)
        refine lv_goto (tgt := 2) S.1 S.2.1 dX6_hasKey_37 (by decide) ?_
        exact ih2 (i + 1) (anyB_step hF (bI_0.mp c29)) (by omega) _ _ _ hG (lv_sub hl [1, 2, 3, 0] rfl)
      · skip
        refine lv_iconst (v := 1) S.1 S.2.1 dX6_hasKey_32 (by decide) ?_
        exact hm_zret S hG hr hlk (by decide) (⟨by rw [show hkF x (xRu x r) k = true from anyB_true hi9 (bI_ne.mp c29)]; rfl, rfl, rfl⟩) (Nat.le_of_ble_eq_true rfl) (Nat.le_of_ble_eq_true rfl) dX6_hasKey_33
  exact L2_0 (xS x) 0 rfl rfl _ _ _ hG (lv_sub hl [1, 2, 3, 0] rfl)

abbrev rm_X6_lookedAt : Room := { frames := 4, cells := 0, slots := 0, locals := 103 }
set_option maxHeartbeats 4000000 in
set_option maxRecDepth 100000 in
theorem c_X6_lookedAt (l : Launch) (g : GV) (ad : AD) (M : CT) (x : XD) (hx : hasX g ad M x) (r : Nat) (hr9 : r < xR x) (k : Nat) (hk : k < 12) (a : Nat) (ha9 : a < 100) : hm_Met l yX6_lookedAt cX6_lookedAt 7 (some .int) rm_X6_lookedAt g ad M [.ref (ad (0, 0, 0)), .ref (ad (20, r, 0)), .int (nI k), .int (nI a)] (hm_pU ad M (some (.int (laF x (xRu x r) k a)))) := by
  refine hm_start (own := RX6) (by decide) rfl (Nat.le_of_ble_eq_true rfl) ?_
  intro p e s m args below meth c S hr hlk hnm hE hG ls hl
  have hl : lv_has ls 7 [(0, .ref (ad (0, 0, 0))), (1, .ref (ad (20, r, 0))), (2, .int (nI k)), (3, .int (nI a))] := hl
  obtain ⟨hX, hLs, hLr, hLh, h7, hLg, h70, hSe, hRu, hHu, hGr, hS6, hR6, hH5⟩ := id hx
  obtain ⟨fs1, hb1⟩ := hLs.ob
  obtain ⟨fs2, hb2⟩ := hLr.ob
  obtain ⟨fs3, hb3⟩ := hLh.ob
  obtain ⟨-, -, -, -, hlo, hw, hwa⟩ := id (hRu r hr9)
  refine lv_iconst (v := 0) S.1 S.2.1 dX6_lookedAt_0 (by decide) ?_
  refine lv_istore (lv' := [(4, .int 0), (0, .ref (ad (0, 0, 0))), (1, .ref (ad (20, r, 0))), (2, .int (nI k)), (3, .int (nI a))]) S.1 S.2.1 dX6_lookedAt_1 hl (by decide) rfl (fun ls hl => ?_)
  refine lv_iconst (v := 0) S.1 S.2.1 dX6_lookedAt_3 (by decide) ?_
  refine lv_istore (lv' := [(5, .int 0), (4, .int 0), (0, .ref (ad (0, 0, 0))), (1, .ref (ad (20, r, 0))), (2, .int (nI k)), (3, .int (nI a))]) S.1 S.2.1 dX6_lookedAt_4 hl (by decide) rfl (fun ls hl => ?_)
  have L6_0 : ∀ (n : Nat) (i : Nat), n + i = xS x → ∀ (H : Heap) (locs : List Loc) (ls : Array Slot), hm_G g ad M s.heap H locs → lv_has ls 7 [(0, .ref (ad (0, 0, 0))), (1, .ref (ad (20, r, 0))), (2, .int (nI k)), (3, .int (nI a)), (4, .int (laL x (xRu x r) k a i)), (5, .int (nI i))] → W p l e rm_X6_lookedAt s m args below meth c H locs 0 0 (MQ below (hm_Q g (hm_pU ad M (some (.int (laF x (xRu x r) k a))))) args s rm_X6_lookedAt.cells rm_X6_lookedAt.slots (hm_A g)) (F0 m 6 ls []) := by
    intro n
    induction n with
    | zero =>
      intro i hk0 H locs ls hG hl
      obtain rfl : i = xS x := by omega
      refine lv_iload S.1 S.2.1 dX6_lookedAt_6 (lv_at hl 5 rfl) ?_
      refine lv_aload_n S.1 S.2.1 dX6_lookedAt_8 rfl (lv_at hl 0 rfl) ?_
      refine hm_get (k := 0) S hE hG hX rfl rfl hi_X60 (by decide) hb_16 rfl rfl dX6_lookedAt_9 ?_
      refine hm_uV (As := []) (rest := [.int (nI (xS x))]) (st1 := [.int (nI (xS x)), .int (nI (xS x))]) S hE hG (c_size l hLs) (hm_gV hb_97 hb_98 hb_99 hb_15 hb_100) hd_Jx4a65c_size_8abf5 rfl hb1 rfl rfl ⟨Nat.le_of_ble_eq_true rfl, Nat.le_of_ble_eq_true rfl⟩ rfl hl.1 rfl (Nat.le_of_ble_eq_true rfl) dX6_lookedAt_12 ⟨Nat.le_of_ble_eq_true rfl, Nat.le_of_ble_eq_true rfl⟩ rfl (fun H locs hG => ?_)
      refine lv_icmp_ge (tgt := 67) S.1 S.2.1 dX6_lookedAt_15 (by decide) (fun _ => ?_) (fun h9 => absurd (nI_le (Nat.le_refl _) (by omega)) h9)
      refine lv_iload S.1 S.2.1 dX6_lookedAt_67 (lv_at hl 4 rfl) ?_
      exact hm_iret S hG hr hlk (⟨rfl, rfl, rfl⟩) (Nat.le_of_ble_eq_true rfl) (Nat.le_of_ble_eq_true rfl) dX6_lookedAt_69
    | succ n ih6 =>
      intro i hk0 H locs ls hG hl
      have hi9 : i < xS x := by omega
      refine lv_iload S.1 S.2.1 dX6_lookedAt_6 (lv_at hl 5 rfl) ?_
      refine lv_aload_n S.1 S.2.1 dX6_lookedAt_8 rfl (lv_at hl 0 rfl) ?_
      refine hm_get (k := 0) S hE hG hX rfl rfl hi_X60 (by decide) hb_16 rfl rfl dX6_lookedAt_9 ?_
      refine hm_uV (As := []) (rest := [.int (nI i)]) (st1 := [.int (nI (xS x)), .int (nI i)]) S hE hG (c_size l hLs) (hm_gV hb_97 hb_98 hb_99 hb_15 hb_100) hd_Jx4a65c_size_8abf5 rfl hb1 rfl rfl ⟨Nat.le_of_ble_eq_true rfl, Nat.le_of_ble_eq_true rfl⟩ rfl hl.1 rfl (Nat.le_of_ble_eq_true rfl) dX6_lookedAt_12 ⟨Nat.le_of_ble_eq_true rfl, Nat.le_of_ble_eq_true rfl⟩ rfl (fun H locs hG => ?_)
      refine lv_icmp_ge (tgt := 67) S.1 S.2.1 dX6_lookedAt_15 (by decide) (fun h9 => absurd h9 (nI_ge hi9 (by omega))) (fun _ => ?_)
      refine lv_aload_n S.1 S.2.1 dX6_lookedAt_18 rfl (lv_at hl 0 rfl) ?_
      refine hm_get (k := 0) S hE hG hX rfl rfl hi_X60 (by decide) hb_16 rfl rfl dX6_lookedAt_19 ?_
      refine lv_iload S.1 S.2.1 dX6_lookedAt_22 (lv_at hl 5 rfl) ?_
      refine hm_uV (As := [.int (nI i)]) (rest := []) (st1 := [.ref (ad (10, i, 0))]) S hE hG (c_get l hLs i hi9) (hm_gV hb_208 hb_209 hb_210 hb_15 hb_211) hd_Jx4a65c_get_915e3 rfl hb1 rfl rfl ⟨Nat.le_of_ble_eq_true rfl, Nat.le_of_ble_eq_true rfl⟩ rfl hl.1 rfl (Nat.le_of_ble_eq_true rfl) dX6_lookedAt_24 ⟨Nat.le_of_ble_eq_true rfl, Nat.le_of_ble_eq_true rfl⟩ rfl (fun H locs hG => ?_)
      refine hm_cast S hE hG (hSe i hi9).1 rfl rfl hb_246 dX6_lookedAt_27 ?_
      refine lv_astore (lv' := [(6, .ref (ad (10, i, 0))), (0, .ref (ad (0, 0, 0))), (1, .ref (ad (20, r, 0))), (2, .int (nI k)), (3, .int (nI a)), (4, .int (laL x (xRu x r) k a i)), (5, .int (nI i))]) S.1 S.2.1 dX6_lookedAt_30 hl (by decide) rfl (fun ls hl => ?_)
      refine lv_aload_n S.1 S.2.1 dX6_lookedAt_32 rfl (lv_at hl 2 rfl) ?_
      refine lv_aload S.1 S.2.1 dX6_lookedAt_33 (lv_at hl 0 rfl) ?_
      refine lv_iload_n S.1 S.2.1 dX6_lookedAt_35 rfl (lv_at hl 3 rfl) ?_
      refine hm_uV (As := [.ref (ad (10, i, 0)), .int (nI k)]) (rest := []) (st1 := [.int (bI (tkF (xRu x r) i (xSe x i) k))]) S hE hG (c_X4_takes l g ad M i (xSe x i) (hSe i hi9) r (xRu x r) (xAl x r) (hRu r hr9) k hk) (hm_gV hb_343 hb_344 hb_345 hb_170 hb_346) hd_X4_takes rfl (hRu r hr9).1 rfl rfl ⟨Nat.le_of_ble_eq_true rfl, Nat.le_of_ble_eq_true rfl⟩ rfl hl.1 rfl (Nat.le_of_ble_eq_true rfl) dX6_lookedAt_36 ⟨Nat.le_of_ble_eq_true rfl, Nat.le_of_ble_eq_true rfl⟩ rfl (fun H locs hG => ?_)
      refine lv_if_eq (tgt := 61) S.1 S.2.1 dX6_lookedAt_39 (by decide) (fun c39 => ?_) (fun c39 => ?_)
      · skip
        have e39 : laL x (xRu x r) k a (i + 1) = laL x (xRu x r) k a i := by rw [laL, if_neg (by rw [bI_0.mp c39]; decide)]
        rw [← e39] at hl
        refine lv_iinc (v := nI (i + 1)) (lv' := [(5, .int (nI (i + 1))), (6, .ref (ad (10, i, 0))), (0, .ref (ad (0, 0, 0))), (1, .ref (ad (20, r, 0))), (2, .int (nI k)), (3, .int (nI a)), (4, .int (laL x (xRu x r) k a (i + 1)))]) S.1 S.2.1 dX6_lookedAt_61 hl (k := 6) rfl (nI_1 i) (by decide) rfl (fun ls hl => ?_)
        refine lv_goto (tgt := 6) S.1 S.2.1 dX6_lookedAt_64 (by decide) ?_
        exact ih6 (i + 1) (by omega) _ _ _ hG (lv_sub hl [2, 3, 4, 5, 6, 0] rfl)
      · skip
        refine lv_iload S.1 S.2.1 dX6_lookedAt_42 (lv_at hl 5 rfl) ?_
        refine lv_aload S.1 S.2.1 dX6_lookedAt_44 (lv_at hl 0 rfl) ?_
        refine lv_aload_n S.1 S.2.1 dX6_lookedAt_46 rfl (lv_at hl 2 rfl) ?_
        refine hm_get (k := 2) S hE hG (hRu r hr9).1 rfl rfl hi_X40 (by decide) hb_358 rfl rfl dX6_lookedAt_47 ?_
        refine lv_aload_n S.1 S.2.1 dX6_lookedAt_50 rfl (lv_at hl 2 rfl) ?_
        refine hm_get (k := 3) S hE hG (hRu r hr9).1 rfl rfl hi_X40 (by decide) hb_359 rfl rfl dX6_lookedAt_51 ?_
        refine lv_iload_n S.1 S.2.1 dX6_lookedAt_54 rfl (lv_at hl 4 rfl) ?_
        refine hm_uV (As := [.int (nI (rLo (xRu x r))), .int (nI (rW (xRu x r))), .int (nI a)]) (rest := [.int (laL x (xRu x r) k a i)]) (st1 := [.int (lookF (xSe x i) (rLo (xRu x r)) (rW (xRu x r)) a), .int (laL x (xRu x r) k a i)]) S hE hG (c_X5_lookOver l g ad M i (xSe x i) (hSe i hi9) (rLo (xRu x r)) (rW (xRu x r)) a hlo (by omega) ha9) (hm_gV hb_360 hb_361 hb_362 hb_90 hb_363) hd_X5_lookOver rfl (hSe i hi9).1 rfl rfl ⟨Nat.le_of_ble_eq_true rfl, Nat.le_of_ble_eq_true rfl⟩ rfl hl.1 rfl (Nat.le_of_ble_eq_true rfl) dX6_lookedAt_55 ⟨Nat.le_of_ble_eq_true rfl, Nat.le_of_ble_eq_true rfl⟩ rfl (fun H locs hG => ?_)
        refine lv_iadd S.1 S.2.1 dX6_lookedAt_58 ?_
        refine hm_top (z := laL x (xRu x r) k a (i + 1)) (by rw [laL, if_pos (bI_ne.mp c39)]) ?_
        refine lv_istore (lv' := [(4, .int (laL x (xRu x r) k a (i + 1))), (6, .ref (ad (10, i, 0))), (0, .ref (ad (0, 0, 0))), (1, .ref (ad (20, r, 0))), (2, .int (nI k)), (3, .int (nI a)), (5, .int (nI i))]) S.1 S.2.1 dX6_lookedAt_59 hl (by decide) rfl (fun ls hl => ?_)
        refine lv_iinc (v := nI (i + 1)) (lv' := [(5, .int (nI (i + 1))), (4, .int (laL x (xRu x r) k a (i + 1))), (6, .ref (ad (10, i, 0))), (0, .ref (ad (0, 0, 0))), (1, .ref (ad (20, r, 0))), (2, .int (nI k)), (3, .int (nI a))]) S.1 S.2.1 dX6_lookedAt_61 hl (k := 6) rfl (nI_1 i) (by decide) rfl (fun ls hl => ?_)
        refine lv_goto (tgt := 6) S.1 S.2.1 dX6_lookedAt_64 (by decide) ?_
        exact ih6 (i + 1) (by omega) _ _ _ hG (lv_sub hl [3, 4, 5, 6, 1, 0] rfl)
  exact L6_0 (xS x) 0 rfl _ _ _ hG (lv_sub hl [2, 3, 4, 5, 1, 0] rfl)

abbrev rm_X6_placeOf : Room := { frames := 3, cells := 0, slots := 0, locals := 64 }
set_option maxHeartbeats 4000000 in
set_option maxRecDepth 100000 in
theorem c_X6_placeOf (l : Launch) (g : GV) (ad : AD) (M : CT) (x : XD) (hx : hasX g ad M x) (r : Nat) (hr9 : r < xR x) (k : Nat) (hk : k < 12) : hm_Met l yX6_placeOf cX6_placeOf 3 (some .int) rm_X6_placeOf g ad M [.ref (ad (0, 0, 0)), .ref (ad (20, r, 0)), .int (nI k)] (hm_pU ad M (some (.int (plF x (xRu x r) k)))) := by
  refine hm_start (own := RX6) (by decide) rfl (Nat.le_of_ble_eq_true rfl) ?_
  intro p e s m args below meth c S hr hlk hnm hE hG ls hl
  have hl : lv_has ls 3 [(0, .ref (ad (0, 0, 0))), (1, .ref (ad (20, r, 0))), (2, .int (nI k))] := hl
  obtain ⟨hX, hLs, hLr, hLh, h7, hLg, h70, hSe, hRu, hHu, hGr, hS6, hR6, hH5⟩ := id hx
  obtain ⟨fs1, hb1⟩ := hLs.ob
  obtain ⟨fs2, hb2⟩ := hLr.ob
  obtain ⟨fs3, hb3⟩ := hLh.ob
  obtain ⟨-, -, -, -, hlo, hw, hwa⟩ := id (hRu r hr9)
  refine lv_aload_n S.1 S.2.1 dX6_placeOf_0 rfl (lv_at hl 1 rfl) ?_
  refine hm_get (k := 4) S hE hG (hRu r hr9).1 rfl rfl hi_X40 (by decide) hb_297 rfl rfl dX6_placeOf_1 ?_
  rcases (show rWa (xRu x r) = 0 ∨ rWa (xRu x r) = 1 ∨ rWa (xRu x r) = 2 by omega) with ew | ew | ew
  · skip
    refine hm_top (z := 0) (by rw [ew]; rfl) ?_
    by_cases hk9 : k < xS x
    · skip
      refine lv_lookup (off := 28) (tgt := 32) S.1 S.2.1 dX6_placeOf_4 (by decide) (by decide) (by decide) ?_
      refine lv_iload_n S.1 S.2.1 dX6_placeOf_32 rfl (lv_at hl 2 rfl) ?_
      refine lv_iconst (v := 0) S.1 S.2.1 dX6_placeOf_33 (by decide) ?_
      refine lv_aload_n S.1 S.2.1 dX6_placeOf_34 rfl (lv_at hl 0 rfl) ?_
      refine hm_get (k := 0) S hE hG hX rfl rfl hi_X60 (by decide) hb_16 rfl rfl dX6_placeOf_35 ?_
      refine hm_uV (As := []) (rest := [.int 0, .int (nI k)]) (st1 := [.int (nI (xS x)), .int 0, .int (nI k)]) S hE hG (c_size l hLs) (hm_gV hb_97 hb_98 hb_99 hb_15 hb_100) hd_Jx4a65c_size_8abf5 rfl hb1 rfl rfl ⟨Nat.le_of_ble_eq_true rfl, Nat.le_of_ble_eq_true rfl⟩ rfl hl.1 rfl (Nat.le_of_ble_eq_true rfl) dX6_placeOf_38 ⟨Nat.le_of_ble_eq_true rfl, Nat.le_of_ble_eq_true rfl⟩ rfl (fun H locs hG => ?_)
      refine lv_iconst (v := 1) S.1 S.2.1 dX6_placeOf_41 (by decide) ?_
      refine lv_isub S.1 S.2.1 dX6_placeOf_42 ?_
      refine hm_uS (As := [.int (nI k), .int 0, .int ((nI (xS x)) - 1)]) (rest := []) (st1 := [.int (bI (decide ((nI k) < 0) || decide (((nI (xS x)) - 1) < (nI k))))]) S hE hG (c_X6_isOutside l g ad M (nI k) 0 ((nI (xS x)) - 1)) (hm_gS hb_91 hb_92 hb_2 hb_93) hd_X6_isOutside ⟨Nat.le_of_ble_eq_true rfl, Nat.le_of_ble_eq_true rfl⟩ rfl hl.1 rfl (Nat.le_of_ble_eq_true rfl) dX6_placeOf_43 ⟨Nat.le_of_ble_eq_true rfl, Nat.le_of_ble_eq_true rfl⟩ rfl (fun H locs hG => ?_)
      refine lv_if_eq (tgt := 53) S.1 S.2.1 dX6_placeOf_46 (by decide) (fun _ => ?_) (fun h9 => absurd (by rw [show nI (xS x) - 1 = nI (xS x - 1) from pk_sub (b := 1) (by omega)]; exact hm_szO k hk9 (by omega)) h9)
      refine lv_aload_n S.1 S.2.1 dX6_placeOf_53 rfl (lv_at hl 0 rfl) ?_
      refine hm_get (k := 0) S hE hG hX rfl rfl hi_X60 (by decide) hb_16 rfl rfl dX6_placeOf_54 ?_
      refine lv_iload_n S.1 S.2.1 dX6_placeOf_57 rfl (lv_at hl 2 rfl) ?_
      refine hm_uV (As := [.int (nI k)]) (rest := []) (st1 := [.ref (ad (10, k, 0))]) S hE hG (c_get l hLs k hk9) (hm_gV hb_208 hb_209 hb_210 hb_15 hb_211) hd_Jx4a65c_get_915e3 rfl hb1 rfl rfl ⟨Nat.le_of_ble_eq_true rfl, Nat.le_of_ble_eq_true rfl⟩ rfl hl.1 rfl (Nat.le_of_ble_eq_true rfl) dX6_placeOf_58 ⟨Nat.le_of_ble_eq_true rfl, Nat.le_of_ble_eq_true rfl⟩ rfl (fun H locs hG => ?_)
      refine hm_cast S hE hG (hSe k hk9).1 rfl rfl hb_246 dX6_placeOf_61 ?_
      refine hm_get (k := 3) S hE hG (hSe k hk9).1 rfl rfl hi_X50 (by decide) hb_298 rfl rfl dX6_placeOf_64 ?_
      exact hm_iret S hG hr hlk (⟨by simp [plF, ew, *], rfl, rfl⟩) (Nat.le_of_ble_eq_true rfl) (Nat.le_of_ble_eq_true rfl) dX6_placeOf_67
    · skip
      refine lv_lookup (off := 28) (tgt := 32) S.1 S.2.1 dX6_placeOf_4 (by decide) (by decide) (by decide) ?_
      refine lv_iload_n S.1 S.2.1 dX6_placeOf_32 rfl (lv_at hl 2 rfl) ?_
      refine lv_iconst (v := 0) S.1 S.2.1 dX6_placeOf_33 (by decide) ?_
      refine lv_aload_n S.1 S.2.1 dX6_placeOf_34 rfl (lv_at hl 0 rfl) ?_
      refine hm_get (k := 0) S hE hG hX rfl rfl hi_X60 (by decide) hb_16 rfl rfl dX6_placeOf_35 ?_
      refine hm_uV (As := []) (rest := [.int 0, .int (nI k)]) (st1 := [.int (nI (xS x)), .int 0, .int (nI k)]) S hE hG (c_size l hLs) (hm_gV hb_97 hb_98 hb_99 hb_15 hb_100) hd_Jx4a65c_size_8abf5 rfl hb1 rfl rfl ⟨Nat.le_of_ble_eq_true rfl, Nat.le_of_ble_eq_true rfl⟩ rfl hl.1 rfl (Nat.le_of_ble_eq_true rfl) dX6_placeOf_38 ⟨Nat.le_of_ble_eq_true rfl, Nat.le_of_ble_eq_true rfl⟩ rfl (fun H locs hG => ?_)
      refine lv_iconst (v := 1) S.1 S.2.1 dX6_placeOf_41 (by decide) ?_
      refine lv_isub S.1 S.2.1 dX6_placeOf_42 ?_
      refine hm_uS (As := [.int (nI k), .int 0, .int ((nI (xS x)) - 1)]) (rest := []) (st1 := [.int (bI (decide ((nI k) < 0) || decide (((nI (xS x)) - 1) < (nI k))))]) S hE hG (c_X6_isOutside l g ad M (nI k) 0 ((nI (xS x)) - 1)) (hm_gS hb_91 hb_92 hb_2 hb_93) hd_X6_isOutside ⟨Nat.le_of_ble_eq_true rfl, Nat.le_of_ble_eq_true rfl⟩ rfl hl.1 rfl (Nat.le_of_ble_eq_true rfl) dX6_placeOf_43 ⟨Nat.le_of_ble_eq_true rfl, Nat.le_of_ble_eq_true rfl⟩ rfl (fun H locs hG => ?_)
      refine lv_if_eq (tgt := 53) S.1 S.2.1 dX6_placeOf_46 (by decide) (fun h9 => absurd h9 (hm_szO' k (by omega) (by omega))) (fun _ => ?_)
      refine lv_iconst (v := (-1)) S.1 S.2.1 dX6_placeOf_49 (by decide) ?_
      refine lv_goto (tgt := 67) S.1 S.2.1 dX6_placeOf_50 (by decide) ?_
      exact hm_iret S hG hr hlk (⟨by simp [plF, ew, *], rfl, rfl⟩) (Nat.le_of_ble_eq_true rfl) (Nat.le_of_ble_eq_true rfl) dX6_placeOf_67
  · skip
    refine hm_top (z := 1) (by rw [ew]; rfl) ?_
    refine lv_lookup (off := 64) (tgt := 68) S.1 S.2.1 dX6_placeOf_4 (by decide) (by decide) (by decide) ?_
    refine lv_iload_n S.1 S.2.1 dX6_placeOf_68 rfl (lv_at hl 2 rfl) ?_
    exact hm_iret S hG hr hlk (⟨by simp [plF, ew, *], rfl, rfl⟩) (Nat.le_of_ble_eq_true rfl) (Nat.le_of_ble_eq_true rfl) dX6_placeOf_69
  · skip
    refine hm_top (z := 2) (by rw [ew]; rfl) ?_
    refine lv_lookup (off := 66) (tgt := 70) S.1 S.2.1 dX6_placeOf_4 (by decide) (by decide) (by decide) ?_
    refine lv_iconst (v := (-1)) S.1 S.2.1 dX6_placeOf_70 (by decide) ?_
    exact hm_iret S hG hr hlk (⟨by simp [plF, ew, *], rfl, rfl⟩) (Nat.le_of_ble_eq_true rfl) (Nat.le_of_ble_eq_true rfl) dX6_placeOf_71

abbrev rm_X6_isHushed : Room := { frames := 3, cells := 0, slots := 0, locals := 64 }
set_option maxHeartbeats 4000000 in
set_option maxRecDepth 100000 in
theorem c_X6_isHushed (l : Launch) (g : GV) (ad : AD) (M : CT) (x : XD) (hx : hasX g ad M x) (ru pl wo : Int32) : hm_Met l yX6_isHushed cX6_isHushed 5 (some .boolean) rm_X6_isHushed g ad M [.ref (ad (0, 0, 0)), .int ru, .int pl, .int wo] (hm_pU ad M (some (.int (bI (ihF x ru pl wo))))) := by
  refine hm_start (own := RX6) (by decide) rfl (Nat.le_of_ble_eq_true rfl) ?_
  intro p e s m args below meth c S hr hlk hnm hE hG ls hl
  have hl : lv_has ls 5 [(0, .ref (ad (0, 0, 0))), (1, .int ru), (2, .int pl), (3, .int wo)] := hl
  obtain ⟨hX, hLs, hLr, hLh, h7, hLg, h70, hSe, hRu, hHu, hGr, hS6, hR6, hH5⟩ := id hx
  obtain ⟨fs1, hb1⟩ := hLs.ob
  obtain ⟨fs2, hb2⟩ := hLr.ob
  obtain ⟨fs3, hb3⟩ := hLh.ob
  refine lv_iconst (v := 0) S.1 S.2.1 dX6_isHushed_0 (by decide) ?_
  refine lv_istore (lv' := [(4, .int 0), (0, .ref (ad (0, 0, 0))), (1, .int ru), (2, .int pl), (3, .int wo)]) S.1 S.2.1 dX6_isHushed_1 hl (by decide) rfl (fun ls hl => ?_)
  have L3_0 : ∀ (n : Nat) (i : Nat), anyB (ih1 x ru pl wo) i = false → n + i = xH x → ∀ (H : Heap) (locs : List Loc) (ls : Array Slot), hm_G g ad M s.heap H locs → lv_has ls 5 [(0, .ref (ad (0, 0, 0))), (1, .int ru), (2, .int pl), (3, .int wo), (4, .int (nI i))] → W p l e rm_X6_isHushed s m args below meth c H locs 0 0 (MQ below (hm_Q g (hm_pU ad M (some (.int (bI (ihF x ru pl wo)))))) args s rm_X6_isHushed.cells rm_X6_isHushed.slots (hm_A g)) (F0 m 3 ls []) := by
    intro n
    induction n with
    | zero =>
      intro i hF hk0 H locs ls hG hl
      obtain rfl : i = xH x := by omega
      refine lv_iload S.1 S.2.1 dX6_isHushed_3 (lv_at hl 4 rfl) ?_
      refine lv_aload_n S.1 S.2.1 dX6_isHushed_5 rfl (lv_at hl 0 rfl) ?_
      refine hm_get (k := 2) S hE hG hX rfl rfl hi_X60 (by decide) hb_18 rfl rfl dX6_isHushed_6 ?_
      refine hm_uV (As := []) (rest := [.int (nI (xH x))]) (st1 := [.int (nI (xH x)), .int (nI (xH x))]) S hE hG (c_size l hLh) (hm_gV hb_97 hb_98 hb_99 hb_15 hb_100) hd_Jx4a65c_size_8abf5 rfl hb3 rfl rfl ⟨Nat.le_of_ble_eq_true rfl, Nat.le_of_ble_eq_true rfl⟩ rfl hl.1 rfl (Nat.le_of_ble_eq_true rfl) dX6_isHushed_9 ⟨Nat.le_of_ble_eq_true rfl, Nat.le_of_ble_eq_true rfl⟩ rfl (fun H locs hG => ?_)
      refine lv_icmp_ge (tgt := 53) S.1 S.2.1 dX6_isHushed_12 (by decide) (fun _ => ?_) (fun h9 => absurd (nI_le (Nat.le_refl _) (by omega)) h9)
      refine lv_iconst (v := 0) S.1 S.2.1 dX6_isHushed_53 (by decide) ?_
      exact hm_zret S hG hr hlk (by decide) (⟨by rw [show ihF x ru pl wo = false from hF]; rfl, rfl, rfl⟩) (Nat.le_of_ble_eq_true rfl) (Nat.le_of_ble_eq_true rfl) dX6_isHushed_54
    | succ n ih3 =>
      intro i hF hk0 H locs ls hG hl
      have hi9 : i < xH x := by omega
      refine lv_iload S.1 S.2.1 dX6_isHushed_3 (lv_at hl 4 rfl) ?_
      refine lv_aload_n S.1 S.2.1 dX6_isHushed_5 rfl (lv_at hl 0 rfl) ?_
      refine hm_get (k := 2) S hE hG hX rfl rfl hi_X60 (by decide) hb_18 rfl rfl dX6_isHushed_6 ?_
      refine hm_uV (As := []) (rest := [.int (nI i)]) (st1 := [.int (nI (xH x)), .int (nI i)]) S hE hG (c_size l hLh) (hm_gV hb_97 hb_98 hb_99 hb_15 hb_100) hd_Jx4a65c_size_8abf5 rfl hb3 rfl rfl ⟨Nat.le_of_ble_eq_true rfl, Nat.le_of_ble_eq_true rfl⟩ rfl hl.1 rfl (Nat.le_of_ble_eq_true rfl) dX6_isHushed_9 ⟨Nat.le_of_ble_eq_true rfl, Nat.le_of_ble_eq_true rfl⟩ rfl (fun H locs hG => ?_)
      refine lv_icmp_ge (tgt := 53) S.1 S.2.1 dX6_isHushed_12 (by decide) (fun h9 => absurd h9 (nI_ge hi9 (by omega))) (fun _ => ?_)
      refine lv_iload S.1 S.2.1 dX6_isHushed_15 (lv_at hl 4 rfl) ?_
      refine lv_iload_n S.1 S.2.1 dX6_isHushed_17 rfl (lv_at hl 3 rfl) ?_
      refine lv_icmp_eq (tgt := 47) S.1 S.2.1 dX6_isHushed_18 (by decide) (fun c18 => ?_) (fun c18 => ?_)
      · skip
        refine lv_iinc (v := nI (i + 1)) (lv' := [(4, .int (nI (i + 1))), (0, .ref (ad (0, 0, 0))), (1, .int ru), (2, .int pl), (3, .int wo)]) S.1 S.2.1 dX6_isHushed_47 hl (k := 4) rfl (nI_1 i) (by decide) rfl (fun ls hl => ?_)
        refine lv_goto (tgt := 3) S.1 S.2.1 dX6_isHushed_50 (by decide) ?_
        exact ih3 (i + 1) (anyB_step hF (by simp [ih1, c18])) (by omega) _ _ _ hG (lv_sub hl [1, 2, 3, 4, 0] rfl)
      · skip
        refine lv_aload_n S.1 S.2.1 dX6_isHushed_21 rfl (lv_at hl 0 rfl) ?_
        refine hm_get (k := 2) S hE hG hX rfl rfl hi_X60 (by decide) hb_18 rfl rfl dX6_isHushed_22 ?_
        refine lv_iload S.1 S.2.1 dX6_isHushed_25 (lv_at hl 4 rfl) ?_
        refine hm_uV (As := [.int (nI i)]) (rest := []) (st1 := [.ref (ad (30, i, 0))]) S hE hG (c_get l hLh i hi9) (hm_gV hb_208 hb_209 hb_210 hb_15 hb_211) hd_Jx4a65c_get_915e3 rfl hb3 rfl rfl ⟨Nat.le_of_ble_eq_true rfl, Nat.le_of_ble_eq_true rfl⟩ rfl hl.1 rfl (Nat.le_of_ble_eq_true rfl) dX6_isHushed_27 ⟨Nat.le_of_ble_eq_true rfl, Nat.le_of_ble_eq_true rfl⟩ rfl (fun H locs hG => ?_)
        refine hm_cast S hE hG (hHu i hi9) rfl rfl hb_320 dX6_isHushed_30 ?_
        refine lv_iload_n S.1 S.2.1 dX6_isHushed_33 rfl (lv_at hl 1 rfl) ?_
        refine lv_iload_n S.1 S.2.1 dX6_isHushed_34 rfl (lv_at hl 2 rfl) ?_
        refine lv_aload_n S.1 S.2.1 dX6_isHushed_35 rfl (lv_at hl 0 rfl) ?_
        refine hm_get (k := 6) S hE hG hX rfl rfl hi_X60 (by decide) hb_31 rfl rfl dX6_isHushed_36 ?_
        refine hm_uV (As := [.int ru, .int pl, .int (nI (xC x))]) (rest := []) (st1 := [.int (bI (covF (xHu x i) ru pl (nI (xC x))))]) S hE hG (c_X2_covers l g ad M (30, i, 0) (xHu x i) ru pl (nI (xC x)) (hHu i hi9)) (hm_gV hb_304 hb_305 hb_306 hb_307 hb_308) hd_X2_covers rfl (hHu i hi9) rfl rfl ⟨Nat.le_of_ble_eq_true rfl, Nat.le_of_ble_eq_true rfl⟩ rfl hl.1 rfl (Nat.le_of_ble_eq_true rfl) dX6_isHushed_39 ⟨Nat.le_of_ble_eq_true rfl, Nat.le_of_ble_eq_true rfl⟩ rfl (fun H locs hG => ?_)
        refine lv_if_eq (tgt := 47) S.1 S.2.1 dX6_isHushed_42 (by decide) (fun c42 => ?_) (fun c42 => ?_)
        · skip
          refine lv_iinc (v := nI (i + 1)) (lv' := [(4, .int (nI (i + 1))), (0, .ref (ad (0, 0, 0))), (1, .int ru), (2, .int pl), (3, .int wo)]) S.1 S.2.1 dX6_isHushed_47 hl (k := 4) rfl (nI_1 i) (by decide) rfl (fun ls hl => ?_)
          refine lv_goto (tgt := 3) S.1 S.2.1 dX6_isHushed_50 (by decide) ?_
          exact ih3 (i + 1) (anyB_step hF (by simp [ih1, bI_0.mp c42])) (by omega) _ _ _ hG (lv_sub hl [1, 2, 3, 4, 0] rfl)
        · skip
          refine lv_iconst (v := 1) S.1 S.2.1 dX6_isHushed_45 (by decide) ?_
          exact hm_zret S hG hr hlk (by decide) (⟨by rw [show ihF x ru pl wo = true from anyB_true hi9 (by simp [ih1, c18, bI_ne.mp c42])]; rfl, rfl, rfl⟩) (Nat.le_of_ble_eq_true rfl) (Nat.le_of_ble_eq_true rfl) dX6_isHushed_46
  exact L3_0 (xH x) 0 rfl rfl _ _ _ hG (lv_sub hl [1, 2, 3, 4, 0] rfl)

abbrev rm_X6_isQuiet : Room := { frames := 4, cells := 0, slots := 0, locals := 88 }
set_option maxHeartbeats 4000000 in
set_option maxRecDepth 100000 in
theorem c_X6_isQuiet (l : Launch) (g : GV) (ad : AD) (M : CT) (x : XD) (hx : hasX g ad M x) (rk pl wo : Int32) : hm_Met l yX6_isQuiet cX6_isQuiet 9 (some .boolean) rm_X6_isQuiet g ad M [.ref (ad (0, 0, 0)), .int rk, .int pl, .int wo] (hm_pU ad M (some (.int (bI (iqF x rk pl wo))))) := by
  refine hm_start (own := RX6) (by decide) rfl (Nat.le_of_ble_eq_true rfl) ?_
  intro p e s m args below meth c S hr hlk hnm hE hG ls hl
  have hl : lv_has ls 9 [(0, .ref (ad (0, 0, 0))), (1, .int rk), (2, .int pl), (3, .int wo)] := hl
  obtain ⟨hX, hLs, hLr, hLh, h7, hLg, h70, hSe, hRu, hHu, hGr, hS6, hR6, hH5⟩ := id hx
  obtain ⟨fs1, hb1⟩ := hLs.ob
  obtain ⟨fs2, hb2⟩ := hLr.ob
  obtain ⟨fs3, hb3⟩ := hLh.ob
  refine lv_iconst (v := 0) S.1 S.2.1 dX6_isQuiet_0 (by decide) ?_
  refine lv_istore (lv' := [(4, .int 0), (0, .ref (ad (0, 0, 0))), (1, .int rk), (2, .int pl), (3, .int wo)]) S.1 S.2.1 dX6_isQuiet_1 hl (by decide) rfl (fun ls hl => ?_)
  have L3_0 : ∀ (n : Nat) (i : Nat), anyB (iq2 x rk pl wo) i = false → n + i = xR x → ∀ (H : Heap) (locs : List Loc) (ls : Array Slot), hm_G g ad M s.heap H locs → lv_has ls 9 [(0, .ref (ad (0, 0, 0))), (1, .int rk), (2, .int pl), (3, .int wo), (4, .int (nI i))] → W p l e rm_X6_isQuiet s m args below meth c H locs 0 0 (MQ below (hm_Q g (hm_pU ad M (some (.int (bI (iqF x rk pl wo)))))) args s rm_X6_isQuiet.cells rm_X6_isQuiet.slots (hm_A g)) (F0 m 3 ls []) := by
    intro n
    induction n with
    | zero =>
      intro i hF hi0 H locs ls hG hl
      obtain rfl : i = xR x := by omega
      refine lv_iload S.1 S.2.1 dX6_isQuiet_3 (lv_at hl 4 rfl) ?_
      refine lv_aload_n S.1 S.2.1 dX6_isQuiet_5 rfl (lv_at hl 0 rfl) ?_
      refine hm_get (k := 1) S hE hG hX rfl rfl hi_X60 (by decide) hb_17 rfl rfl dX6_isQuiet_6 ?_
      refine hm_uV (As := []) (rest := [.int (nI (xR x))]) (st1 := [.int (nI (xR x)), .int (nI (xR x))]) S hE hG (c_size l hLr) (hm_gV hb_97 hb_98 hb_99 hb_15 hb_100) hd_Jx4a65c_size_8abf5 rfl hb2 rfl rfl ⟨Nat.le_of_ble_eq_true rfl, Nat.le_of_ble_eq_true rfl⟩ rfl hl.1 rfl (Nat.le_of_ble_eq_true rfl) dX6_isQuiet_9 ⟨Nat.le_of_ble_eq_true rfl, Nat.le_of_ble_eq_true rfl⟩ rfl (fun H locs hG => ?_)
      refine lv_icmp_ge (tgt := 118) S.1 S.2.1 dX6_isQuiet_12 (by decide) (fun _ => ?_) (fun h9 => absurd (nI_le (Nat.le_refl _) (by omega)) h9)
      refine lv_iconst (v := 0) S.1 S.2.1 dX6_isQuiet_118 (by decide) ?_
      exact hm_zret S hG hr hlk (by decide) (⟨by rw [show iqF x rk pl wo = false from hF]; rfl, rfl, rfl⟩) (Nat.le_of_ble_eq_true rfl) (Nat.le_of_ble_eq_true rfl) dX6_isQuiet_119
    | succ n ih3 =>
      intro i hF hi0 H locs ls hG hl
      have hi9 : i < xR x := by omega
      refine lv_iload S.1 S.2.1 dX6_isQuiet_3 (lv_at hl 4 rfl) ?_
      refine lv_aload_n S.1 S.2.1 dX6_isQuiet_5 rfl (lv_at hl 0 rfl) ?_
      refine hm_get (k := 1) S hE hG hX rfl rfl hi_X60 (by decide) hb_17 rfl rfl dX6_isQuiet_6 ?_
      refine hm_uV (As := []) (rest := [.int (nI i)]) (st1 := [.int (nI (xR x)), .int (nI i)]) S hE hG (c_size l hLr) (hm_gV hb_97 hb_98 hb_99 hb_15 hb_100) hd_Jx4a65c_size_8abf5 rfl hb2 rfl rfl ⟨Nat.le_of_ble_eq_true rfl, Nat.le_of_ble_eq_true rfl⟩ rfl hl.1 rfl (Nat.le_of_ble_eq_true rfl) dX6_isQuiet_9 ⟨Nat.le_of_ble_eq_true rfl, Nat.le_of_ble_eq_true rfl⟩ rfl (fun H locs hG => ?_)
      refine lv_icmp_ge (tgt := 118) S.1 S.2.1 dX6_isQuiet_12 (by decide) (fun h9 => absurd h9 (nI_ge hi9 (by omega))) (fun _ => ?_)
      refine lv_aload_n S.1 S.2.1 dX6_isQuiet_15 rfl (lv_at hl 0 rfl) ?_
      refine hm_get (k := 1) S hE hG hX rfl rfl hi_X60 (by decide) hb_17 rfl rfl dX6_isQuiet_16 ?_
      refine lv_iload S.1 S.2.1 dX6_isQuiet_19 (lv_at hl 4 rfl) ?_
      refine hm_uV (As := [.int (nI i)]) (rest := []) (st1 := [.ref (ad (20, i, 0))]) S hE hG (c_get l hLr i hi9) (hm_gV hb_208 hb_209 hb_210 hb_15 hb_211) hd_Jx4a65c_get_915e3 rfl hb2 rfl rfl ⟨Nat.le_of_ble_eq_true rfl, Nat.le_of_ble_eq_true rfl⟩ rfl hl.1 rfl (Nat.le_of_ble_eq_true rfl) dX6_isQuiet_21 ⟨Nat.le_of_ble_eq_true rfl, Nat.le_of_ble_eq_true rfl⟩ rfl (fun H locs hG => ?_)
      refine hm_cast S hE hG (hRu i hi9).1 rfl rfl hb_207 dX6_isQuiet_24 ?_
      refine lv_astore (lv' := [(5, .ref (ad (20, i, 0))), (0, .ref (ad (0, 0, 0))), (1, .int rk), (2, .int pl), (3, .int wo), (4, .int (nI i))]) S.1 S.2.1 dX6_isQuiet_27 hl (by decide) rfl (fun ls hl => ?_)
      refine lv_iconst (v := 0) S.1 S.2.1 dX6_isQuiet_29 (by decide) ?_
      refine lv_istore (lv' := [(6, .int 0), (5, .ref (ad (20, i, 0))), (0, .ref (ad (0, 0, 0))), (1, .int rk), (2, .int pl), (3, .int wo), (4, .int (nI i))]) S.1 S.2.1 dX6_isQuiet_30 hl (by decide) rfl (fun ls hl => ?_)
      have L32_1 : ∀ (n : Nat) (k : Nat), anyB (iq1 x rk pl wo i) k = false → n + k = 12 → ∀ (H : Heap) (locs : List Loc) (ls : Array Slot), hm_G g ad M s.heap H locs → lv_has ls 9 [(0, .ref (ad (0, 0, 0))), (1, .int rk), (2, .int pl), (3, .int wo), (4, .int (nI i)), (5, .ref (ad (20, i, 0))), (6, .int (nI k))] → W p l e rm_X6_isQuiet s m args below meth c H locs 0 0 (MQ below (hm_Q g (hm_pU ad M (some (.int (bI (iqF x rk pl wo)))))) args s rm_X6_isQuiet.cells rm_X6_isQuiet.slots (hm_A g)) (F0 m 32 ls []) := by
        intro n
        induction n with
        | zero =>
          intro k hK hk0 H locs ls hG hl
          obtain rfl : k = 12 := by omega
          refine lv_iload S.1 S.2.1 dX6_isQuiet_32 (lv_at hl 6 rfl) ?_
          refine lv_bipush (v := 12) S.1 S.2.1 dX6_isQuiet_34 (by decide) ?_
          refine lv_icmp_ge (tgt := 112) S.1 S.2.1 dX6_isQuiet_36 (by decide) (fun _ => ?_) (fun h9 => absurd (by decide) h9)
          refine lv_iinc (v := nI (i + 1)) (lv' := [(4, .int (nI (i + 1))), (0, .ref (ad (0, 0, 0))), (1, .int rk), (2, .int pl), (3, .int wo), (5, .ref (ad (20, i, 0))), (6, .int (nI 12))]) S.1 S.2.1 dX6_isQuiet_112 hl (k := 4) rfl (nI_1 i) (by decide) rfl (fun ls hl => ?_)
          refine lv_goto (tgt := 3) S.1 S.2.1 dX6_isQuiet_115 (by decide) ?_
          exact ih3 (i + 1) (anyB_step hF (hK)) (by omega) _ _ _ hG (lv_sub hl [1, 2, 3, 4, 0] rfl)
        | succ n ih32 =>
          intro k hK hk0 H locs ls hG hl
          have hk : k < 12 := by omega
          refine lv_iload S.1 S.2.1 dX6_isQuiet_32 (lv_at hl 6 rfl) ?_
          refine lv_bipush (v := 12) S.1 S.2.1 dX6_isQuiet_34 (by decide) ?_
          refine lv_icmp_ge (tgt := 112) S.1 S.2.1 dX6_isQuiet_36 (by decide) (fun h9 => absurd h9 (nI_ge (b := 12) hk (by decide))) (fun _ => ?_)
          refine lv_aload S.1 S.2.1 dX6_isQuiet_39 (lv_at hl 5 rfl) ?_
          refine hm_get (k := 8) S hE hG (hRu i hi9).1 rfl rfl hi_X40 (by decide) hb_200 rfl rfl dX6_isQuiet_41 ?_
          refine lv_iload_n S.1 S.2.1 dX6_isQuiet_44 rfl (lv_at hl 1 rfl) ?_
          refine lv_icmp_le (tgt := 112) S.1 S.2.1 dX6_isQuiet_45 (by decide) (fun c45 => ?_) (fun c45 => ?_)
          · skip
            refine lv_iinc (v := nI (i + 1)) (lv' := [(4, .int (nI (i + 1))), (0, .ref (ad (0, 0, 0))), (1, .int rk), (2, .int pl), (3, .int wo), (5, .ref (ad (20, i, 0))), (6, .int (nI k))]) S.1 S.2.1 dX6_isQuiet_112 hl (k := 4) rfl (nI_1 i) (by decide) rfl (fun ls hl => ?_)
            refine lv_goto (tgt := 3) S.1 S.2.1 dX6_isQuiet_115 (by decide) ?_
            exact ih3 (i + 1) (anyB_step hF (anyB_false (fun k _ => by rw [iq1, decide_eq_false (Int32.not_lt.mpr c45)]; rfl))) (by omega) _ _ _ hG (lv_sub hl [1, 2, 3, 4, 0] rfl)
          · skip
            have e45 := Int32.not_le.mp c45
            refine lv_aload_n S.1 S.2.1 dX6_isQuiet_48 rfl (lv_at hl 0 rfl) ?_
            refine lv_aload S.1 S.2.1 dX6_isQuiet_49 (lv_at hl 5 rfl) ?_
            refine lv_iload S.1 S.2.1 dX6_isQuiet_51 (lv_at hl 6 rfl) ?_
            refine hm_uV (As := [.ref (ad (20, i, 0)), .int (nI k)]) (rest := []) (st1 := [.int (plF x (xRu x i) k)]) S hE hG (c_X6_placeOf l g ad M x hx i hi9 k hk) (hm_gV hb_293 hb_294 hb_295 hb_2 hb_296) hd_X6_placeOf rfl hX rfl rfl ⟨Nat.le_of_ble_eq_true rfl, Nat.le_of_ble_eq_true rfl⟩ rfl hl.1 rfl (Nat.le_of_ble_eq_true rfl) dX6_isQuiet_53 ⟨Nat.le_of_ble_eq_true rfl, Nat.le_of_ble_eq_true rfl⟩ rfl (fun H locs hG => ?_)
            refine lv_istore (lv' := [(7, .int (plF x (xRu x i) k)), (0, .ref (ad (0, 0, 0))), (1, .int rk), (2, .int pl), (3, .int wo), (4, .int (nI i)), (5, .ref (ad (20, i, 0))), (6, .int (nI k))]) S.1 S.2.1 dX6_isQuiet_56 hl (by decide) rfl (fun ls hl => ?_)
            refine lv_iload S.1 S.2.1 dX6_isQuiet_58 (lv_at hl 0 rfl) ?_
            refine lv_iload_n S.1 S.2.1 dX6_isQuiet_60 rfl (lv_at hl 3 rfl) ?_
            refine lv_icmp_eq (tgt := 70) S.1 S.2.1 dX6_isQuiet_61 (by decide) (fun c61 => ?_) (fun c61 => ?_)
            · skip
              refine lv_iconst (v := 1) S.1 S.2.1 dX6_isQuiet_70 (by decide) ?_
              refine lv_goto (tgt := 75) S.1 S.2.1 dX6_isQuiet_71 (by decide) ?_
              refine lv_istore (lv' := [(8, .int 1), (7, .int (plF x (xRu x i) k)), (0, .ref (ad (0, 0, 0))), (1, .int rk), (2, .int pl), (3, .int wo), (4, .int (nI i)), (5, .ref (ad (20, i, 0))), (6, .int (nI k))]) S.1 S.2.1 dX6_isQuiet_75 hl (by decide) rfl (fun ls hl => ?_)
              refine lv_iload S.1 S.2.1 dX6_isQuiet_77 (lv_at hl 0 rfl) ?_
              refine lv_if_eq (tgt := 106) S.1 S.2.1 dX6_isQuiet_79 (by decide) (fun h9 => absurd h9 (by decide)) (fun _ => ?_)
              refine lv_aload S.1 S.2.1 dX6_isQuiet_82 (lv_at hl 7 rfl) ?_
              refine lv_iload S.1 S.2.1 dX6_isQuiet_84 (lv_at hl 8 rfl) ?_
              refine hm_uV (As := [.int (nI k)]) (rest := []) (st1 := [.int (bI (decide ((xAl x i k).1 = 2)))]) S hE hG (c_X4_burns l g ad M i (xRu x i) (xAl x i) (hRu i hi9) k hk) (hm_gV hb_285 hb_286 hb_287 hb_170 hb_288) hd_X4_burns rfl (hRu i hi9).1 rfl rfl ⟨Nat.le_of_ble_eq_true rfl, Nat.le_of_ble_eq_true rfl⟩ rfl hl.1 rfl (Nat.le_of_ble_eq_true rfl) dX6_isQuiet_86 ⟨Nat.le_of_ble_eq_true rfl, Nat.le_of_ble_eq_true rfl⟩ rfl (fun H locs hG => ?_)
              refine lv_if_eq (tgt := 106) S.1 S.2.1 dX6_isQuiet_89 (by decide) (fun c89 => ?_) (fun c89 => ?_)
              · skip
                refine lv_iinc (v := nI (k + 1)) (lv' := [(6, .int (nI (k + 1))), (8, .int 1), (7, .int (plF x (xRu x i) k)), (0, .ref (ad (0, 0, 0))), (1, .int rk), (2, .int pl), (3, .int wo), (4, .int (nI i)), (5, .ref (ad (20, i, 0)))]) S.1 S.2.1 dX6_isQuiet_106 hl (k := 8) rfl (nI_1 k) (by decide) rfl (fun ls hl => ?_)
                refine lv_goto (tgt := 32) S.1 S.2.1 dX6_isQuiet_109 (by decide) ?_
                exact ih32 (k + 1) (anyB_step hK (by rw [iq1, bI_0.mp c89]; simp)) (by omega) _ _ _ hG (lv_sub hl [3, 4, 5, 6, 7, 8, 0] rfl)
              · skip
                refine lv_aload_n S.1 S.2.1 dX6_isQuiet_92 rfl (lv_at hl 2 rfl) ?_
                refine lv_iload S.1 S.2.1 dX6_isQuiet_93 (lv_at hl 6 rfl) ?_
                refine lv_iload S.1 S.2.1 dX6_isQuiet_95 (lv_at hl 1 rfl) ?_
                refine lv_iload_n S.1 S.2.1 dX6_isQuiet_97 rfl (lv_at hl 5 rfl) ?_
                refine hm_uV (As := [.int (nI i), .int (plF x (xRu x i) k), .int wo]) (rest := []) (st1 := [.int (bI (ihF x (nI i) (plF x (xRu x i) k) wo))]) S hE hG (c_X6_isHushed l g ad M x hx (nI i) (plF x (xRu x i) k) wo) (hm_gV hb_299 hb_300 hb_301 hb_2 hb_302) hd_X6_isHushed rfl hX rfl rfl ⟨Nat.le_of_ble_eq_true rfl, Nat.le_of_ble_eq_true rfl⟩ rfl hl.1 rfl (Nat.le_of_ble_eq_true rfl) dX6_isQuiet_98 ⟨Nat.le_of_ble_eq_true rfl, Nat.le_of_ble_eq_true rfl⟩ rfl (fun H locs hG => ?_)
                refine lv_if_ne (tgt := 106) S.1 S.2.1 dX6_isQuiet_101 (by decide) (fun c101 => ?_) (fun c101 => ?_)
                · skip
                  refine lv_iinc (v := nI (k + 1)) (lv' := [(6, .int (nI (k + 1))), (8, .int 1), (7, .int (plF x (xRu x i) k)), (0, .ref (ad (0, 0, 0))), (1, .int rk), (2, .int pl), (3, .int wo), (4, .int (nI i)), (5, .ref (ad (20, i, 0)))]) S.1 S.2.1 dX6_isQuiet_106 hl (k := 8) rfl (nI_1 k) (by decide) rfl (fun ls hl => ?_)
                  refine lv_goto (tgt := 32) S.1 S.2.1 dX6_isQuiet_109 (by decide) ?_
                  exact ih32 (k + 1) (anyB_step hK (by rw [iq1, bI_ne.mp c101]; simp)) (by omega) _ _ _ hG (lv_sub hl [3, 4, 5, 6, 7, 8, 0] rfl)
                · skip
                  refine lv_iconst (v := 1) S.1 S.2.1 dX6_isQuiet_104 (by decide) ?_
                  exact hm_zret S hG hr hlk (by decide) (⟨by rw [show iqF x rk pl wo = true from anyB_true hi9 (anyB_true hk (by rw [iq1, decide_eq_true e45, bI_ne.mp c89, bI_0.mp c101]; simp [c61]))]; rfl, rfl, rfl⟩) (Nat.le_of_ble_eq_true rfl) (Nat.le_of_ble_eq_true rfl) dX6_isQuiet_105
            · skip
              refine lv_iload S.1 S.2.1 dX6_isQuiet_64 (lv_at hl 0 rfl) ?_
              refine lv_iconst (v := (-1)) S.1 S.2.1 dX6_isQuiet_66 (by decide) ?_
              refine lv_icmp_ne (tgt := 74) S.1 S.2.1 dX6_isQuiet_67 (by decide) (fun c67 => ?_) (fun c67 => ?_)
              · skip
                have e67 : ¬ plF x (xRu x i) k = -1 := c67
                refine lv_iconst (v := 0) S.1 S.2.1 dX6_isQuiet_74 (by decide) ?_
                refine lv_istore (lv' := [(8, .int 0), (7, .int (plF x (xRu x i) k)), (0, .ref (ad (0, 0, 0))), (1, .int rk), (2, .int pl), (3, .int wo), (4, .int (nI i)), (5, .ref (ad (20, i, 0))), (6, .int (nI k))]) S.1 S.2.1 dX6_isQuiet_75 hl (by decide) rfl (fun ls hl => ?_)
                refine lv_iload S.1 S.2.1 dX6_isQuiet_77 (lv_at hl 0 rfl) ?_
                refine lv_if_eq (tgt := 106) S.1 S.2.1 dX6_isQuiet_79 (by decide) (fun _ => ?_) (fun h9 => absurd (by decide) h9)
                refine lv_iinc (v := nI (k + 1)) (lv' := [(6, .int (nI (k + 1))), (8, .int 0), (7, .int (plF x (xRu x i) k)), (0, .ref (ad (0, 0, 0))), (1, .int rk), (2, .int pl), (3, .int wo), (4, .int (nI i)), (5, .ref (ad (20, i, 0)))]) S.1 S.2.1 dX6_isQuiet_106 hl (k := 8) rfl (nI_1 k) (by decide) rfl (fun ls hl => ?_)
                refine lv_goto (tgt := 32) S.1 S.2.1 dX6_isQuiet_109 (by decide) ?_
                exact ih32 (k + 1) (anyB_step hK (by simp [iq1, c61, e67])) (by omega) _ _ _ hG (lv_sub hl [3, 4, 5, 6, 7, 8, 0] rfl)
              · skip
                have e67 : plF x (xRu x i) k = -1 := by simpa using c67
                refine lv_iconst (v := 1) S.1 S.2.1 dX6_isQuiet_70 (by decide) ?_
                refine lv_goto (tgt := 75) S.1 S.2.1 dX6_isQuiet_71 (by decide) ?_
                refine lv_istore (lv' := [(8, .int 1), (7, .int (plF x (xRu x i) k)), (0, .ref (ad (0, 0, 0))), (1, .int rk), (2, .int pl), (3, .int wo), (4, .int (nI i)), (5, .ref (ad (20, i, 0))), (6, .int (nI k))]) S.1 S.2.1 dX6_isQuiet_75 hl (by decide) rfl (fun ls hl => ?_)
                refine lv_iload S.1 S.2.1 dX6_isQuiet_77 (lv_at hl 0 rfl) ?_
                refine lv_if_eq (tgt := 106) S.1 S.2.1 dX6_isQuiet_79 (by decide) (fun h9 => absurd h9 (by decide)) (fun _ => ?_)
                refine lv_aload S.1 S.2.1 dX6_isQuiet_82 (lv_at hl 7 rfl) ?_
                refine lv_iload S.1 S.2.1 dX6_isQuiet_84 (lv_at hl 8 rfl) ?_
                refine hm_uV (As := [.int (nI k)]) (rest := []) (st1 := [.int (bI (decide ((xAl x i k).1 = 2)))]) S hE hG (c_X4_burns l g ad M i (xRu x i) (xAl x i) (hRu i hi9) k hk) (hm_gV hb_285 hb_286 hb_287 hb_170 hb_288) hd_X4_burns rfl (hRu i hi9).1 rfl rfl ⟨Nat.le_of_ble_eq_true rfl, Nat.le_of_ble_eq_true rfl⟩ rfl hl.1 rfl (Nat.le_of_ble_eq_true rfl) dX6_isQuiet_86 ⟨Nat.le_of_ble_eq_true rfl, Nat.le_of_ble_eq_true rfl⟩ rfl (fun H locs hG => ?_)
                refine lv_if_eq (tgt := 106) S.1 S.2.1 dX6_isQuiet_89 (by decide) (fun c89 => ?_) (fun c89 => ?_)
                · skip
                  refine lv_iinc (v := nI (k + 1)) (lv' := [(6, .int (nI (k + 1))), (8, .int 1), (7, .int (plF x (xRu x i) k)), (0, .ref (ad (0, 0, 0))), (1, .int rk), (2, .int pl), (3, .int wo), (4, .int (nI i)), (5, .ref (ad (20, i, 0)))]) S.1 S.2.1 dX6_isQuiet_106 hl (k := 8) rfl (nI_1 k) (by decide) rfl (fun ls hl => ?_)
                  refine lv_goto (tgt := 32) S.1 S.2.1 dX6_isQuiet_109 (by decide) ?_
                  exact ih32 (k + 1) (anyB_step hK (by rw [iq1, bI_0.mp c89]; simp)) (by omega) _ _ _ hG (lv_sub hl [3, 4, 5, 6, 7, 8, 0] rfl)
                · skip
                  refine lv_aload_n S.1 S.2.1 dX6_isQuiet_92 rfl (lv_at hl 2 rfl) ?_
                  refine lv_iload S.1 S.2.1 dX6_isQuiet_93 (lv_at hl 6 rfl) ?_
                  refine lv_iload S.1 S.2.1 dX6_isQuiet_95 (lv_at hl 1 rfl) ?_
                  refine lv_iload_n S.1 S.2.1 dX6_isQuiet_97 rfl (lv_at hl 5 rfl) ?_
                  refine hm_uV (As := [.int (nI i), .int (plF x (xRu x i) k), .int wo]) (rest := []) (st1 := [.int (bI (ihF x (nI i) (plF x (xRu x i) k) wo))]) S hE hG (c_X6_isHushed l g ad M x hx (nI i) (plF x (xRu x i) k) wo) (hm_gV hb_299 hb_300 hb_301 hb_2 hb_302) hd_X6_isHushed rfl hX rfl rfl ⟨Nat.le_of_ble_eq_true rfl, Nat.le_of_ble_eq_true rfl⟩ rfl hl.1 rfl (Nat.le_of_ble_eq_true rfl) dX6_isQuiet_98 ⟨Nat.le_of_ble_eq_true rfl, Nat.le_of_ble_eq_true rfl⟩ rfl (fun H locs hG => ?_)
                  refine lv_if_ne (tgt := 106) S.1 S.2.1 dX6_isQuiet_101 (by decide) (fun c101 => ?_) (fun c101 => ?_)
                  · skip
                    refine lv_iinc (v := nI (k + 1)) (lv' := [(6, .int (nI (k + 1))), (8, .int 1), (7, .int (plF x (xRu x i) k)), (0, .ref (ad (0, 0, 0))), (1, .int rk), (2, .int pl), (3, .int wo), (4, .int (nI i)), (5, .ref (ad (20, i, 0)))]) S.1 S.2.1 dX6_isQuiet_106 hl (k := 8) rfl (nI_1 k) (by decide) rfl (fun ls hl => ?_)
                    refine lv_goto (tgt := 32) S.1 S.2.1 dX6_isQuiet_109 (by decide) ?_
                    exact ih32 (k + 1) (anyB_step hK (by rw [iq1, bI_ne.mp c101]; simp)) (by omega) _ _ _ hG (lv_sub hl [3, 4, 5, 6, 7, 8, 0] rfl)
                  · skip
                    refine lv_iconst (v := 1) S.1 S.2.1 dX6_isQuiet_104 (by decide) ?_
                    exact hm_zret S hG hr hlk (by decide) (⟨by rw [show iqF x rk pl wo = true from anyB_true hi9 (anyB_true hk (by rw [iq1, decide_eq_true e45, bI_ne.mp c89, bI_0.mp c101]; simp [e67]))]; rfl, rfl, rfl⟩) (Nat.le_of_ble_eq_true rfl) (Nat.le_of_ble_eq_true rfl) dX6_isQuiet_105
      exact L32_1 12 0 rfl rfl _ _ _ hG (lv_sub hl [2, 3, 4, 5, 6, 1, 0] rfl)
  exact L3_0 (xR x) 0 rfl rfl _ _ _ hG (lv_sub hl [1, 2, 3, 4, 0] rfl)

abbrev rm_X6_hearing : Room := { frames := 5, cells := 0, slots := 0, locals := 116 }
set_option maxHeartbeats 4000000 in
set_option maxRecDepth 100000 in
theorem c_X6_hearing (l : Launch) (g : GV) (ad : AD) (M : CT) (x : XD) (hx : hasX g ad M x) (r : Nat) (hr9 : r < xR x) (k : Nat) (hk : k < 12) (wo : Int32) : hm_Met l yX6_hearing cX6_hearing 5 (some .int) rm_X6_hearing g ad M [.ref (ad (0, 0, 0)), .ref (ad (20, r, 0)), .int (nI k), .int wo] (hm_pU ad M (some (.int (hrF x r k wo)))) := by
  refine hm_start (own := RX6) (by decide) rfl (Nat.le_of_ble_eq_true rfl) ?_
  intro p e s m args below meth c S hr hlk hnm hE hG ls hl
  have hl : lv_has ls 5 [(0, .ref (ad (0, 0, 0))), (1, .ref (ad (20, r, 0))), (2, .int (nI k)), (3, .int wo)] := hl
  obtain ⟨hX, hLs, hLr, hLh, h7, hLg, h70, hSe, hRu, hHu, hGr, hS6, hR6, hH5⟩ := id hx
  obtain ⟨fs1, hb1⟩ := hLs.ob
  obtain ⟨fs2, hb2⟩ := hLr.ob
  obtain ⟨fs3, hb3⟩ := hLh.ob
  refine lv_aload_n S.1 S.2.1 dX6_hearing_0 rfl (lv_at hl 1 rfl) ?_
  refine lv_iload_n S.1 S.2.1 dX6_hearing_1 rfl (lv_at hl 2 rfl) ?_
  refine hm_uV (As := [.int (nI k)]) (rest := []) (st1 := [.int (bI (decide ((xAl x r k).1 = 2)))]) S hE hG (c_X4_burns l g ad M r (xRu x r) (xAl x r) (hRu r hr9) k hk) (hm_gV hb_285 hb_286 hb_287 hb_170 hb_288) hd_X4_burns rfl (hRu r hr9).1 rfl rfl ⟨Nat.le_of_ble_eq_true rfl, Nat.le_of_ble_eq_true rfl⟩ rfl hl.1 rfl (Nat.le_of_ble_eq_true rfl) dX6_hearing_2 ⟨Nat.le_of_ble_eq_true rfl, Nat.le_of_ble_eq_true rfl⟩ rfl (fun H locs hG => ?_)
  refine lv_if_ne (tgt := 10) S.1 S.2.1 dX6_hearing_5 (by decide) (fun c5 => ?_) (fun c5 => ?_)
  · skip
    have e5 : (xAl x r k).1 = 2 := of_decide_eq_true (bI_ne.mp c5)
    refine lv_aload_n S.1 S.2.1 dX6_hearing_10 rfl (lv_at hl 0 rfl) ?_
    refine lv_aload_n S.1 S.2.1 dX6_hearing_11 rfl (lv_at hl 1 rfl) ?_
    refine lv_iload_n S.1 S.2.1 dX6_hearing_12 rfl (lv_at hl 2 rfl) ?_
    refine hm_uV (As := [.ref (ad (20, r, 0)), .int (nI k)]) (rest := []) (st1 := [.int (plF x (xRu x r) k)]) S hE hG (c_X6_placeOf l g ad M x hx r hr9 k hk) (hm_gV hb_293 hb_294 hb_295 hb_2 hb_296) hd_X6_placeOf rfl hX rfl rfl ⟨Nat.le_of_ble_eq_true rfl, Nat.le_of_ble_eq_true rfl⟩ rfl hl.1 rfl (Nat.le_of_ble_eq_true rfl) dX6_hearing_13 ⟨Nat.le_of_ble_eq_true rfl, Nat.le_of_ble_eq_true rfl⟩ rfl (fun H locs hG => ?_)
    refine lv_istore (lv' := [(4, .int (plF x (xRu x r) k)), (0, .ref (ad (0, 0, 0))), (1, .ref (ad (20, r, 0))), (2, .int (nI k)), (3, .int wo)]) S.1 S.2.1 dX6_hearing_16 hl (by decide) rfl (fun ls hl => ?_)
    refine lv_aload_n S.1 S.2.1 dX6_hearing_18 rfl (lv_at hl 1 rfl) ?_
    refine lv_aload_n S.1 S.2.1 dX6_hearing_19 rfl (lv_at hl 2 rfl) ?_
    refine hm_get (k := 0) S hE hG (hRu r hr9).1 rfl rfl hi_X40 (by decide) hb_284 rfl rfl dX6_hearing_20 ?_
    refine lv_iload S.1 S.2.1 dX6_hearing_23 (lv_at hl 0 rfl) ?_
    refine lv_iload_n S.1 S.2.1 dX6_hearing_25 rfl (lv_at hl 4 rfl) ?_
    refine hm_uV (As := [.int (nI r), .int (plF x (xRu x r) k), .int wo]) (rest := []) (st1 := [.int (bI (ihF x (nI r) (plF x (xRu x r) k) wo))]) S hE hG (c_X6_isHushed l g ad M x hx (nI r) (plF x (xRu x r) k) wo) (hm_gV hb_299 hb_300 hb_301 hb_2 hb_302) hd_X6_isHushed rfl hX rfl rfl ⟨Nat.le_of_ble_eq_true rfl, Nat.le_of_ble_eq_true rfl⟩ rfl hl.1 rfl (Nat.le_of_ble_eq_true rfl) dX6_hearing_26 ⟨Nat.le_of_ble_eq_true rfl, Nat.le_of_ble_eq_true rfl⟩ rfl (fun H locs hG => ?_)
    refine lv_if_eq (tgt := 34) S.1 S.2.1 dX6_hearing_29 (by decide) (fun c29 => ?_) (fun c29 => ?_)
    · skip
      have e29 := bI_0.mp c29
      refine lv_aload_n S.1 S.2.1 dX6_hearing_34 rfl (lv_at hl 1 rfl) ?_
      refine lv_aload_n S.1 S.2.1 dX6_hearing_35 rfl (lv_at hl 2 rfl) ?_
      refine hm_get (k := 8) S hE hG (hRu r hr9).1 rfl rfl hi_X40 (by decide) hb_200 rfl rfl dX6_hearing_36 ?_
      refine lv_iload S.1 S.2.1 dX6_hearing_39 (lv_at hl 0 rfl) ?_
      refine lv_iload_n S.1 S.2.1 dX6_hearing_41 rfl (lv_at hl 4 rfl) ?_
      refine hm_uV (As := [.int (rRk (xRu x r)), .int (plF x (xRu x r) k), .int wo]) (rest := []) (st1 := [.int (bI (iqF x (rRk (xRu x r)) (plF x (xRu x r) k) wo))]) S hE hG (c_X6_isQuiet l g ad M x hx (rRk (xRu x r)) (plF x (xRu x r) k) wo) (hm_gV hb_312 hb_313 hb_314 hb_2 hb_315) hd_X6_isQuiet rfl hX rfl rfl ⟨Nat.le_of_ble_eq_true rfl, Nat.le_of_ble_eq_true rfl⟩ rfl hl.1 rfl (Nat.le_of_ble_eq_true rfl) dX6_hearing_42 ⟨Nat.le_of_ble_eq_true rfl, Nat.le_of_ble_eq_true rfl⟩ rfl (fun H locs hG => ?_)
      refine lv_if_eq (tgt := 52) S.1 S.2.1 dX6_hearing_45 (by decide) (fun c45 => ?_) (fun c45 => ?_)
      · skip
        have e45 := bI_0.mp c45
        refine lv_iconst (v := 0) S.1 S.2.1 dX6_hearing_52 (by decide) ?_
        exact hm_iret S hG hr hlk (⟨by simp [hrF, *], rfl, rfl⟩) (Nat.le_of_ble_eq_true rfl) (Nat.le_of_ble_eq_true rfl) dX6_hearing_53
      · skip
        have e45 := bI_ne.mp c45
        refine lv_iconst (v := 3) S.1 S.2.1 dX6_hearing_48 (by decide) ?_
        refine lv_goto (tgt := 53) S.1 S.2.1 dX6_hearing_49 (by decide) ?_
        exact hm_iret S hG hr hlk (⟨by simp [hrF, *], rfl, rfl⟩) (Nat.le_of_ble_eq_true rfl) (Nat.le_of_ble_eq_true rfl) dX6_hearing_53
    · skip
      have e29 := bI_ne.mp c29
      refine lv_iconst (v := 2) S.1 S.2.1 dX6_hearing_32 (by decide) ?_
      exact hm_iret S hG hr hlk (⟨by simp [hrF, *], rfl, rfl⟩) (Nat.le_of_ble_eq_true rfl) (Nat.le_of_ble_eq_true rfl) dX6_hearing_33
  · skip
    have e5 : ¬ (xAl x r k).1 = 2 := of_decide_eq_false (bI_0.mp (by simpa using c5))
    refine lv_iconst (v := 1) S.1 S.2.1 dX6_hearing_8 (by decide) ?_
    exact hm_iret S hG hr hlk (⟨by simp [hrF, *], rfl, rfl⟩) (Nat.le_of_ble_eq_true rfl) (Nat.le_of_ble_eq_true rfl) dX6_hearing_9

abbrev rm_X6_countLoud : Room := { frames := 6, cells := 0, slots := 0, locals := 140 }
set_option maxHeartbeats 4000000 in
set_option maxRecDepth 100000 in
theorem c_X6_countLoud (l : Launch) (g : GV) (ad : AD) (M : CT) (x : XD) (hx : hasX g ad M x) (wo : Int32) : hm_Met l yX6_countLoud cX6_countLoud 6 (some .int) rm_X6_countLoud g ad M [.ref (ad (0, 0, 0)), .int wo] (hm_pU ad M (some (.int (nI (clX x wo))))) := by
  refine hm_start (own := RX6) (by decide) rfl (Nat.le_of_ble_eq_true rfl) ?_
  intro p e s m args below meth c S hr hlk hnm hE hG ls hl
  have hl : lv_has ls 6 [(0, .ref (ad (0, 0, 0))), (1, .int wo)] := hl
  obtain ⟨hX, hLs, hLr, hLh, h7, hLg, h70, hSe, hRu, hHu, hGr, hS6, hR6, hH5⟩ := id hx
  obtain ⟨fs1, hb1⟩ := hLs.ob
  obtain ⟨fs2, hb2⟩ := hLr.ob
  obtain ⟨fs3, hb3⟩ := hLh.ob
  refine lv_iconst (v := 0) S.1 S.2.1 dX6_countLoud_0 (by decide) ?_
  refine lv_istore_n (lv' := [(2, .int 0), (0, .ref (ad (0, 0, 0))), (1, .int wo)]) S.1 S.2.1 dX6_countLoud_1 rfl hl (by decide) rfl (fun ls hl => ?_)
  refine lv_iconst (v := 0) S.1 S.2.1 dX6_countLoud_2 (by decide) ?_
  refine lv_istore_n (lv' := [(3, .int 0), (2, .int 0), (0, .ref (ad (0, 0, 0))), (1, .int wo)]) S.1 S.2.1 dX6_countLoud_3 rfl hl (by decide) rfl (fun ls hl => ?_)
  have L4_0 : ∀ (n : Nat) (i : Nat), n + i = xR x → ∀ (H : Heap) (locs : List Loc) (ls : Array Slot), hm_G g ad M s.heap H locs → lv_has ls 6 [(0, .ref (ad (0, 0, 0))), (1, .int wo), (2, .int (nI (clN x wo i))), (3, .int (nI i))] → W p l e rm_X6_countLoud s m args below meth c H locs 0 0 (MQ below (hm_Q g (hm_pU ad M (some (.int (nI (clX x wo)))))) args s rm_X6_countLoud.cells rm_X6_countLoud.slots (hm_A g)) (F0 m 4 ls []) := by
    intro n
    induction n with
    | zero =>
      intro i hi0 H locs ls hG hl
      obtain rfl : i = xR x := by omega
      refine lv_iload_n S.1 S.2.1 dX6_countLoud_4 rfl (lv_at hl 3 rfl) ?_
      refine lv_aload_n S.1 S.2.1 dX6_countLoud_5 rfl (lv_at hl 0 rfl) ?_
      refine hm_get (k := 1) S hE hG hX rfl rfl hi_X60 (by decide) hb_17 rfl rfl dX6_countLoud_6 ?_
      refine hm_uV (As := []) (rest := [.int (nI (xR x))]) (st1 := [.int (nI (xR x)), .int (nI (xR x))]) S hE hG (c_size l hLr) (hm_gV hb_97 hb_98 hb_99 hb_15 hb_100) hd_Jx4a65c_size_8abf5 rfl hb2 rfl rfl ⟨Nat.le_of_ble_eq_true rfl, Nat.le_of_ble_eq_true rfl⟩ rfl hl.1 rfl (Nat.le_of_ble_eq_true rfl) dX6_countLoud_9 ⟨Nat.le_of_ble_eq_true rfl, Nat.le_of_ble_eq_true rfl⟩ rfl (fun H locs hG => ?_)
      refine lv_icmp_ge (tgt := 65) S.1 S.2.1 dX6_countLoud_12 (by decide) (fun _ => ?_) (fun h9 => absurd (nI_le (Nat.le_refl _) (by omega)) h9)
      refine lv_iload_n S.1 S.2.1 dX6_countLoud_65 rfl (lv_at hl 2 rfl) ?_
      exact hm_iret S hG hr hlk (⟨rfl, rfl, rfl⟩) (Nat.le_of_ble_eq_true rfl) (Nat.le_of_ble_eq_true rfl) dX6_countLoud_66
    | succ n ih4 =>
      intro i hi0 H locs ls hG hl
      have hi9 : i < xR x := by omega
      refine lv_iload_n S.1 S.2.1 dX6_countLoud_4 rfl (lv_at hl 3 rfl) ?_
      refine lv_aload_n S.1 S.2.1 dX6_countLoud_5 rfl (lv_at hl 0 rfl) ?_
      refine hm_get (k := 1) S hE hG hX rfl rfl hi_X60 (by decide) hb_17 rfl rfl dX6_countLoud_6 ?_
      refine hm_uV (As := []) (rest := [.int (nI i)]) (st1 := [.int (nI (xR x)), .int (nI i)]) S hE hG (c_size l hLr) (hm_gV hb_97 hb_98 hb_99 hb_15 hb_100) hd_Jx4a65c_size_8abf5 rfl hb2 rfl rfl ⟨Nat.le_of_ble_eq_true rfl, Nat.le_of_ble_eq_true rfl⟩ rfl hl.1 rfl (Nat.le_of_ble_eq_true rfl) dX6_countLoud_9 ⟨Nat.le_of_ble_eq_true rfl, Nat.le_of_ble_eq_true rfl⟩ rfl (fun H locs hG => ?_)
      refine lv_icmp_ge (tgt := 65) S.1 S.2.1 dX6_countLoud_12 (by decide) (fun h9 => absurd h9 (nI_ge hi9 (by omega))) (fun _ => ?_)
      refine lv_aload_n S.1 S.2.1 dX6_countLoud_15 rfl (lv_at hl 0 rfl) ?_
      refine hm_get (k := 1) S hE hG hX rfl rfl hi_X60 (by decide) hb_17 rfl rfl dX6_countLoud_16 ?_
      refine lv_iload_n S.1 S.2.1 dX6_countLoud_19 rfl (lv_at hl 3 rfl) ?_
      refine hm_uV (As := [.int (nI i)]) (rest := []) (st1 := [.ref (ad (20, i, 0))]) S hE hG (c_get l hLr i hi9) (hm_gV hb_208 hb_209 hb_210 hb_15 hb_211) hd_Jx4a65c_get_915e3 rfl hb2 rfl rfl ⟨Nat.le_of_ble_eq_true rfl, Nat.le_of_ble_eq_true rfl⟩ rfl hl.1 rfl (Nat.le_of_ble_eq_true rfl) dX6_countLoud_20 ⟨Nat.le_of_ble_eq_true rfl, Nat.le_of_ble_eq_true rfl⟩ rfl (fun H locs hG => ?_)
      refine hm_cast S hE hG (hRu i hi9).1 rfl rfl hb_207 dX6_countLoud_23 ?_
      refine lv_astore (lv' := [(4, .ref (ad (20, i, 0))), (0, .ref (ad (0, 0, 0))), (1, .int wo), (2, .int (nI (clN x wo i))), (3, .int (nI i))]) S.1 S.2.1 dX6_countLoud_26 hl (by decide) rfl (fun ls hl => ?_)
      refine lv_iconst (v := 0) S.1 S.2.1 dX6_countLoud_28 (by decide) ?_
      refine lv_istore (lv' := [(5, .int 0), (4, .ref (ad (20, i, 0))), (0, .ref (ad (0, 0, 0))), (1, .int wo), (2, .int (nI (clN x wo i))), (3, .int (nI i))]) S.1 S.2.1 dX6_countLoud_29 hl (by decide) rfl (fun ls hl => ?_)
      have L31_1 : ∀ (n : Nat) (k : Nat), n + k = 12 → ∀ (H : Heap) (locs : List Loc) (ls : Array Slot), hm_G g ad M s.heap H locs → lv_has ls 6 [(0, .ref (ad (0, 0, 0))), (1, .int wo), (2, .int (nI (clN x wo i + cntB (cl1 x wo i) k))), (3, .int (nI i)), (4, .ref (ad (20, i, 0))), (5, .int (nI k))] → W p l e rm_X6_countLoud s m args below meth c H locs 0 0 (MQ below (hm_Q g (hm_pU ad M (some (.int (nI (clX x wo)))))) args s rm_X6_countLoud.cells rm_X6_countLoud.slots (hm_A g)) (F0 m 31 ls []) := by
        intro n
        induction n with
        | zero =>
          intro k hk0 H locs ls hG hl
          obtain rfl : k = 12 := by omega
          refine lv_iload S.1 S.2.1 dX6_countLoud_31 (lv_at hl 5 rfl) ?_
          refine lv_bipush (v := 12) S.1 S.2.1 dX6_countLoud_33 (by decide) ?_
          refine lv_icmp_ge (tgt := 59) S.1 S.2.1 dX6_countLoud_35 (by decide) (fun _ => ?_) (fun h9 => absurd (by decide) h9)
          refine lv_iinc (v := nI (i + 1)) (lv' := [(3, .int (nI (i + 1))), (0, .ref (ad (0, 0, 0))), (1, .int wo), (2, .int (nI (clN x wo (i + 1)))), (4, .ref (ad (20, i, 0))), (5, .int (nI 12))]) S.1 S.2.1 dX6_countLoud_59 hl (k := 3) rfl (nI_1 i) (by decide) rfl (fun ls hl => ?_)
          refine lv_goto (tgt := 4) S.1 S.2.1 dX6_countLoud_62 (by decide) ?_
          exact ih4 (i + 1) (by omega) _ _ _ hG (lv_sub hl [1, 2, 3, 0] rfl)
        | succ n ih31 =>
          intro k hk0 H locs ls hG hl
          have hk : k < 12 := by omega
          refine lv_iload S.1 S.2.1 dX6_countLoud_31 (lv_at hl 5 rfl) ?_
          refine lv_bipush (v := 12) S.1 S.2.1 dX6_countLoud_33 (by decide) ?_
          refine lv_icmp_ge (tgt := 59) S.1 S.2.1 dX6_countLoud_35 (by decide) (fun h9 => absurd h9 (nI_ge (b := 12) hk (by decide))) (fun _ => ?_)
          refine lv_aload_n S.1 S.2.1 dX6_countLoud_38 rfl (lv_at hl 0 rfl) ?_
          refine lv_aload S.1 S.2.1 dX6_countLoud_39 (lv_at hl 4 rfl) ?_
          refine lv_iload S.1 S.2.1 dX6_countLoud_41 (lv_at hl 5 rfl) ?_
          refine lv_iload_n S.1 S.2.1 dX6_countLoud_43 rfl (lv_at hl 1 rfl) ?_
          refine hm_uV (As := [.ref (ad (20, i, 0)), .int (nI k), .int wo]) (rest := []) (st1 := [.int (hrF x i k wo)]) S hE hG (c_X6_hearing l g ad M x hx i hi9 k hk wo) (hm_gV hb_280 hb_281 hb_282 hb_2 hb_283) hd_X6_hearing rfl hX rfl rfl ⟨Nat.le_of_ble_eq_true rfl, Nat.le_of_ble_eq_true rfl⟩ rfl hl.1 rfl (Nat.le_of_ble_eq_true rfl) dX6_countLoud_44 ⟨Nat.le_of_ble_eq_true rfl, Nat.le_of_ble_eq_true rfl⟩ rfl (fun H locs hG => ?_)
          refine lv_if_ne (tgt := 53) S.1 S.2.1 dX6_countLoud_47 (by decide) (fun c47 => ?_) (fun c47 => ?_)
          · skip
            have e9 : cntB (cl1 x wo i) (k + 1) = cntB (cl1 x wo i) k := cntB_f (decide_eq_false c47)
            rw [← e9] at hl
            refine lv_iinc (v := nI (k + 1)) (lv' := [(5, .int (nI (k + 1))), (0, .ref (ad (0, 0, 0))), (1, .int wo), (2, .int (nI (clN x wo i + cntB (cl1 x wo i) (k + 1)))), (3, .int (nI i)), (4, .ref (ad (20, i, 0)))]) S.1 S.2.1 dX6_countLoud_53 hl (k := 5) rfl (nI_1 k) (by decide) rfl (fun ls hl => ?_)
            refine lv_goto (tgt := 31) S.1 S.2.1 dX6_countLoud_56 (by decide) ?_
            exact ih31 (k + 1) (by omega) _ _ _ hG (lv_sub hl [1, 2, 3, 4, 5, 0] rfl)
          · skip
            refine lv_iinc (v := nI (clN x wo i + cntB (cl1 x wo i) (k + 1))) (lv' := [(2, .int (nI (clN x wo i + cntB (cl1 x wo i) (k + 1)))), (0, .ref (ad (0, 0, 0))), (1, .int wo), (3, .int (nI i)), (4, .ref (ad (20, i, 0))), (5, .int (nI k))]) S.1 S.2.1 dX6_countLoud_50 hl (k := 2) rfl (by rw [cntB_t (decide_eq_true (by simpa using c47))]; exact nI_1 _) (by decide) rfl (fun ls hl => ?_)
            refine lv_iinc (v := nI (k + 1)) (lv' := [(5, .int (nI (k + 1))), (2, .int (nI (clN x wo i + cntB (cl1 x wo i) (k + 1)))), (0, .ref (ad (0, 0, 0))), (1, .int wo), (3, .int (nI i)), (4, .ref (ad (20, i, 0)))]) S.1 S.2.1 dX6_countLoud_53 hl (k := 5) rfl (nI_1 k) (by decide) rfl (fun ls hl => ?_)
            refine lv_goto (tgt := 31) S.1 S.2.1 dX6_countLoud_56 (by decide) ?_
            exact ih31 (k + 1) (by omega) _ _ _ hG (lv_sub hl [2, 3, 1, 4, 5, 0] rfl)
      exact L31_1 12 0 rfl _ _ _ hG (lv_sub hl [2, 3, 4, 5, 1, 0] rfl)
  exact L4_0 (xR x) 0 rfl _ _ _ hG (lv_sub hl [2, 3, 1, 0] rfl)

abbrev rm_X6_countCovered : Room := { frames := 4, cells := 0, slots := 0, locals := 86 }
set_option maxHeartbeats 4000000 in
set_option maxRecDepth 100000 in
theorem c_X6_countCovered (l : Launch) (g : GV) (ad : AD) (M : CT) (x : XD) (hx : hasX g ad M x) (h : Nat) (hh9 : h < xH x) : hm_Met l yX6_countCovered cX6_countCovered 6 (some .int) rm_X6_countCovered g ad M [.ref (ad (0, 0, 0)), .ref (ad (30, h, 0))] (hm_pU ad M (some (.int (nI (ccX x (xHu x h)))))) := by
  refine hm_start (own := RX6) (by decide) rfl (Nat.le_of_ble_eq_true rfl) ?_
  intro p e s m args below meth c S hr hlk hnm hE hG ls hl
  have hl : lv_has ls 6 [(0, .ref (ad (0, 0, 0))), (1, .ref (ad (30, h, 0)))] := hl
  obtain ⟨hX, hLs, hLr, hLh, h7, hLg, h70, hSe, hRu, hHu, hGr, hS6, hR6, hH5⟩ := id hx
  obtain ⟨fs1, hb1⟩ := hLs.ob
  obtain ⟨fs2, hb2⟩ := hLr.ob
  obtain ⟨fs3, hb3⟩ := hLh.ob
  refine lv_iconst (v := 0) S.1 S.2.1 dX6_countCovered_0 (by decide) ?_
  refine lv_istore_n (lv' := [(2, .int 0), (0, .ref (ad (0, 0, 0))), (1, .ref (ad (30, h, 0)))]) S.1 S.2.1 dX6_countCovered_1 rfl hl (by decide) rfl (fun ls hl => ?_)
  refine lv_iconst (v := 0) S.1 S.2.1 dX6_countCovered_2 (by decide) ?_
  refine lv_istore_n (lv' := [(3, .int 0), (2, .int 0), (0, .ref (ad (0, 0, 0))), (1, .ref (ad (30, h, 0)))]) S.1 S.2.1 dX6_countCovered_3 rfl hl (by decide) rfl (fun ls hl => ?_)
  have L4_0 : ∀ (n : Nat) (i : Nat), n + i = xR x → ∀ (H : Heap) (locs : List Loc) (ls : Array Slot), hm_G g ad M s.heap H locs → lv_has ls 6 [(0, .ref (ad (0, 0, 0))), (1, .ref (ad (30, h, 0))), (2, .int (nI (ccN x (xHu x h) i))), (3, .int (nI i))] → W p l e rm_X6_countCovered s m args below meth c H locs 0 0 (MQ below (hm_Q g (hm_pU ad M (some (.int (nI (ccX x (xHu x h))))))) args s rm_X6_countCovered.cells rm_X6_countCovered.slots (hm_A g)) (F0 m 4 ls []) := by
    intro n
    induction n with
    | zero =>
      intro i hi0 H locs ls hG hl
      obtain rfl : i = xR x := by omega
      refine lv_iload_n S.1 S.2.1 dX6_countCovered_4 rfl (lv_at hl 3 rfl) ?_
      refine lv_aload_n S.1 S.2.1 dX6_countCovered_5 rfl (lv_at hl 0 rfl) ?_
      refine hm_get (k := 1) S hE hG hX rfl rfl hi_X60 (by decide) hb_17 rfl rfl dX6_countCovered_6 ?_
      refine hm_uV (As := []) (rest := [.int (nI (xR x))]) (st1 := [.int (nI (xR x)), .int (nI (xR x))]) S hE hG (c_size l hLr) (hm_gV hb_97 hb_98 hb_99 hb_15 hb_100) hd_Jx4a65c_size_8abf5 rfl hb2 rfl rfl ⟨Nat.le_of_ble_eq_true rfl, Nat.le_of_ble_eq_true rfl⟩ rfl hl.1 rfl (Nat.le_of_ble_eq_true rfl) dX6_countCovered_9 ⟨Nat.le_of_ble_eq_true rfl, Nat.le_of_ble_eq_true rfl⟩ rfl (fun H locs hG => ?_)
      refine lv_icmp_ge (tgt := 83) S.1 S.2.1 dX6_countCovered_12 (by decide) (fun _ => ?_) (fun h9 => absurd (nI_le (Nat.le_refl _) (by omega)) h9)
      refine lv_iload_n S.1 S.2.1 dX6_countCovered_83 rfl (lv_at hl 2 rfl) ?_
      exact hm_iret S hG hr hlk (⟨rfl, rfl, rfl⟩) (Nat.le_of_ble_eq_true rfl) (Nat.le_of_ble_eq_true rfl) dX6_countCovered_84
    | succ n ih4 =>
      intro i hi0 H locs ls hG hl
      have hi9 : i < xR x := by omega
      refine lv_iload_n S.1 S.2.1 dX6_countCovered_4 rfl (lv_at hl 3 rfl) ?_
      refine lv_aload_n S.1 S.2.1 dX6_countCovered_5 rfl (lv_at hl 0 rfl) ?_
      refine hm_get (k := 1) S hE hG hX rfl rfl hi_X60 (by decide) hb_17 rfl rfl dX6_countCovered_6 ?_
      refine hm_uV (As := []) (rest := [.int (nI i)]) (st1 := [.int (nI (xR x)), .int (nI i)]) S hE hG (c_size l hLr) (hm_gV hb_97 hb_98 hb_99 hb_15 hb_100) hd_Jx4a65c_size_8abf5 rfl hb2 rfl rfl ⟨Nat.le_of_ble_eq_true rfl, Nat.le_of_ble_eq_true rfl⟩ rfl hl.1 rfl (Nat.le_of_ble_eq_true rfl) dX6_countCovered_9 ⟨Nat.le_of_ble_eq_true rfl, Nat.le_of_ble_eq_true rfl⟩ rfl (fun H locs hG => ?_)
      refine lv_icmp_ge (tgt := 83) S.1 S.2.1 dX6_countCovered_12 (by decide) (fun h9 => absurd h9 (nI_ge hi9 (by omega))) (fun _ => ?_)
      refine lv_aload_n S.1 S.2.1 dX6_countCovered_15 rfl (lv_at hl 0 rfl) ?_
      refine hm_get (k := 1) S hE hG hX rfl rfl hi_X60 (by decide) hb_17 rfl rfl dX6_countCovered_16 ?_
      refine lv_iload_n S.1 S.2.1 dX6_countCovered_19 rfl (lv_at hl 3 rfl) ?_
      refine hm_uV (As := [.int (nI i)]) (rest := []) (st1 := [.ref (ad (20, i, 0))]) S hE hG (c_get l hLr i hi9) (hm_gV hb_208 hb_209 hb_210 hb_15 hb_211) hd_Jx4a65c_get_915e3 rfl hb2 rfl rfl ⟨Nat.le_of_ble_eq_true rfl, Nat.le_of_ble_eq_true rfl⟩ rfl hl.1 rfl (Nat.le_of_ble_eq_true rfl) dX6_countCovered_20 ⟨Nat.le_of_ble_eq_true rfl, Nat.le_of_ble_eq_true rfl⟩ rfl (fun H locs hG => ?_)
      refine hm_cast S hE hG (hRu i hi9).1 rfl rfl hb_207 dX6_countCovered_23 ?_
      refine lv_astore (lv' := [(4, .ref (ad (20, i, 0))), (0, .ref (ad (0, 0, 0))), (1, .ref (ad (30, h, 0))), (2, .int (nI (ccN x (xHu x h) i))), (3, .int (nI i))]) S.1 S.2.1 dX6_countCovered_26 hl (by decide) rfl (fun ls hl => ?_)
      refine lv_iconst (v := 0) S.1 S.2.1 dX6_countCovered_28 (by decide) ?_
      refine lv_istore (lv' := [(5, .int 0), (4, .ref (ad (20, i, 0))), (0, .ref (ad (0, 0, 0))), (1, .ref (ad (30, h, 0))), (2, .int (nI (ccN x (xHu x h) i))), (3, .int (nI i))]) S.1 S.2.1 dX6_countCovered_29 hl (by decide) rfl (fun ls hl => ?_)
      have L31_1 : ∀ (n : Nat) (k : Nat), n + k = 12 → ∀ (H : Heap) (locs : List Loc) (ls : Array Slot), hm_G g ad M s.heap H locs → lv_has ls 6 [(0, .ref (ad (0, 0, 0))), (1, .ref (ad (30, h, 0))), (2, .int (nI (ccN x (xHu x h) i + cntB (cc1 x (xHu x h) i) k))), (3, .int (nI i)), (4, .ref (ad (20, i, 0))), (5, .int (nI k))] → W p l e rm_X6_countCovered s m args below meth c H locs 0 0 (MQ below (hm_Q g (hm_pU ad M (some (.int (nI (ccX x (xHu x h))))))) args s rm_X6_countCovered.cells rm_X6_countCovered.slots (hm_A g)) (F0 m 31 ls []) := by
        intro n
        induction n with
        | zero =>
          intro k hk0 H locs ls hG hl
          obtain rfl : k = 12 := by omega
          refine lv_iload S.1 S.2.1 dX6_countCovered_31 (lv_at hl 5 rfl) ?_
          refine lv_bipush (v := 12) S.1 S.2.1 dX6_countCovered_33 (by decide) ?_
          refine lv_icmp_ge (tgt := 77) S.1 S.2.1 dX6_countCovered_35 (by decide) (fun _ => ?_) (fun h9 => absurd (by decide) h9)
          refine lv_iinc (v := nI (i + 1)) (lv' := [(3, .int (nI (i + 1))), (0, .ref (ad (0, 0, 0))), (1, .ref (ad (30, h, 0))), (2, .int (nI (ccN x (xHu x h) (i + 1)))), (4, .ref (ad (20, i, 0))), (5, .int (nI 12))]) S.1 S.2.1 dX6_countCovered_77 hl (k := 3) rfl (nI_1 i) (by decide) rfl (fun ls hl => ?_)
          refine lv_goto (tgt := 4) S.1 S.2.1 dX6_countCovered_80 (by decide) ?_
          exact ih4 (i + 1) (by omega) _ _ _ hG (lv_sub hl [1, 2, 3, 0] rfl)
        | succ n ih31 =>
          intro k hk0 H locs ls hG hl
          have hk : k < 12 := by omega
          refine lv_iload S.1 S.2.1 dX6_countCovered_31 (lv_at hl 5 rfl) ?_
          refine lv_bipush (v := 12) S.1 S.2.1 dX6_countCovered_33 (by decide) ?_
          refine lv_icmp_ge (tgt := 77) S.1 S.2.1 dX6_countCovered_35 (by decide) (fun h9 => absurd h9 (nI_ge (b := 12) hk (by decide))) (fun _ => ?_)
          refine lv_aload S.1 S.2.1 dX6_countCovered_38 (lv_at hl 4 rfl) ?_
          refine lv_iload S.1 S.2.1 dX6_countCovered_40 (lv_at hl 5 rfl) ?_
          refine hm_uV (As := [.int (nI k)]) (rest := []) (st1 := [.int (bI (!decide ((xAl x i k).1 = 0)))]) S hE hG (c_X4_hasAlert l g ad M i (xRu x i) (xAl x i) (hRu i hi9) k hk) (hm_gV hb_561 hb_562 hb_563 hb_170 hb_564) hd_X4_hasAlert rfl (hRu i hi9).1 rfl rfl ⟨Nat.le_of_ble_eq_true rfl, Nat.le_of_ble_eq_true rfl⟩ rfl hl.1 rfl (Nat.le_of_ble_eq_true rfl) dX6_countCovered_42 ⟨Nat.le_of_ble_eq_true rfl, Nat.le_of_ble_eq_true rfl⟩ rfl (fun H locs hG => ?_)
          refine lv_if_eq (tgt := 71) S.1 S.2.1 dX6_countCovered_45 (by decide) (fun c45 => ?_) (fun c45 => ?_)
          · skip
            have e9 : cntB (cc1 x (xHu x h) i) (k + 1) = cntB (cc1 x (xHu x h) i) k := cntB_f (by rw [cc1, bI_0.mp c45]; rfl)
            rw [← e9] at hl
            refine lv_iinc (v := nI (k + 1)) (lv' := [(5, .int (nI (k + 1))), (0, .ref (ad (0, 0, 0))), (1, .ref (ad (30, h, 0))), (2, .int (nI (ccN x (xHu x h) i + cntB (cc1 x (xHu x h) i) (k + 1)))), (3, .int (nI i)), (4, .ref (ad (20, i, 0)))]) S.1 S.2.1 dX6_countCovered_71 hl (k := 5) rfl (nI_1 k) (by decide) rfl (fun ls hl => ?_)
            refine lv_goto (tgt := 31) S.1 S.2.1 dX6_countCovered_74 (by decide) ?_
            exact ih31 (k + 1) (by omega) _ _ _ hG (lv_sub hl [1, 2, 3, 4, 5, 0] rfl)
          · skip
            refine lv_aload_n S.1 S.2.1 dX6_countCovered_48 rfl (lv_at hl 1 rfl) ?_
            refine lv_iload_n S.1 S.2.1 dX6_countCovered_49 rfl (lv_at hl 3 rfl) ?_
            refine lv_aload_n S.1 S.2.1 dX6_countCovered_50 rfl (lv_at hl 0 rfl) ?_
            refine lv_aload S.1 S.2.1 dX6_countCovered_51 (lv_at hl 4 rfl) ?_
            refine lv_iload S.1 S.2.1 dX6_countCovered_53 (lv_at hl 5 rfl) ?_
            refine hm_uV (As := [.ref (ad (20, i, 0)), .int (nI k)]) (rest := [.int (nI i), .ref (ad (30, h, 0))]) (st1 := [.int (plF x (xRu x i) k), .int (nI i), .ref (ad (30, h, 0))]) S hE hG (c_X6_placeOf l g ad M x hx i hi9 k hk) (hm_gV hb_293 hb_294 hb_295 hb_2 hb_296) hd_X6_placeOf rfl hX rfl rfl ⟨Nat.le_of_ble_eq_true rfl, Nat.le_of_ble_eq_true rfl⟩ rfl hl.1 rfl (Nat.le_of_ble_eq_true rfl) dX6_countCovered_55 ⟨Nat.le_of_ble_eq_true rfl, Nat.le_of_ble_eq_true rfl⟩ rfl (fun H locs hG => ?_)
            refine lv_aload_n S.1 S.2.1 dX6_countCovered_58 rfl (lv_at hl 0 rfl) ?_
            refine hm_get (k := 6) S hE hG hX rfl rfl hi_X60 (by decide) hb_31 rfl rfl dX6_countCovered_59 ?_
            refine hm_uV (As := [.int (nI i), .int (plF x (xRu x i) k), .int (nI (xC x))]) (rest := []) (st1 := [.int (bI (covF (xHu x h) (nI i) (plF x (xRu x i) k) (nI (xC x))))]) S hE hG (c_X2_covers l g ad M (30, h, 0) (xHu x h) (nI i) (plF x (xRu x i) k) (nI (xC x)) (hHu h hh9)) (hm_gV hb_304 hb_305 hb_306 hb_307 hb_308) hd_X2_covers rfl (hHu h hh9) rfl rfl ⟨Nat.le_of_ble_eq_true rfl, Nat.le_of_ble_eq_true rfl⟩ rfl hl.1 rfl (Nat.le_of_ble_eq_true rfl) dX6_countCovered_62 ⟨Nat.le_of_ble_eq_true rfl, Nat.le_of_ble_eq_true rfl⟩ rfl (fun H locs hG => ?_)
            refine lv_if_eq (tgt := 71) S.1 S.2.1 dX6_countCovered_65 (by decide) (fun c65 => ?_) (fun c65 => ?_)
            · skip
              have e9 : cntB (cc1 x (xHu x h) i) (k + 1) = cntB (cc1 x (xHu x h) i) k := cntB_f (by rw [cc1, bI_0.mp c65, Bool.and_false])
              rw [← e9] at hl
              refine lv_iinc (v := nI (k + 1)) (lv' := [(5, .int (nI (k + 1))), (0, .ref (ad (0, 0, 0))), (1, .ref (ad (30, h, 0))), (2, .int (nI (ccN x (xHu x h) i + cntB (cc1 x (xHu x h) i) (k + 1)))), (3, .int (nI i)), (4, .ref (ad (20, i, 0)))]) S.1 S.2.1 dX6_countCovered_71 hl (k := 5) rfl (nI_1 k) (by decide) rfl (fun ls hl => ?_)
              refine lv_goto (tgt := 31) S.1 S.2.1 dX6_countCovered_74 (by decide) ?_
              exact ih31 (k + 1) (by omega) _ _ _ hG (lv_sub hl [1, 2, 3, 4, 5, 0] rfl)
            · skip
              refine lv_iinc (v := nI (ccN x (xHu x h) i + cntB (cc1 x (xHu x h) i) (k + 1))) (lv' := [(2, .int (nI (ccN x (xHu x h) i + cntB (cc1 x (xHu x h) i) (k + 1)))), (0, .ref (ad (0, 0, 0))), (1, .ref (ad (30, h, 0))), (3, .int (nI i)), (4, .ref (ad (20, i, 0))), (5, .int (nI k))]) S.1 S.2.1 dX6_countCovered_68 hl (k := 2) rfl (by rw [cntB_t (by rw [cc1, bI_ne.mp c65, bI_ne.mp c45]; rfl)]; exact nI_1 _) (by decide) rfl (fun ls hl => ?_)
              refine lv_iinc (v := nI (k + 1)) (lv' := [(5, .int (nI (k + 1))), (2, .int (nI (ccN x (xHu x h) i + cntB (cc1 x (xHu x h) i) (k + 1)))), (0, .ref (ad (0, 0, 0))), (1, .ref (ad (30, h, 0))), (3, .int (nI i)), (4, .ref (ad (20, i, 0)))]) S.1 S.2.1 dX6_countCovered_71 hl (k := 5) rfl (nI_1 k) (by decide) rfl (fun ls hl => ?_)
              refine lv_goto (tgt := 31) S.1 S.2.1 dX6_countCovered_74 (by decide) ?_
              exact ih31 (k + 1) (by omega) _ _ _ hG (lv_sub hl [2, 3, 1, 4, 5, 0] rfl)
      exact L31_1 12 0 rfl _ _ _ hG (lv_sub hl [2, 3, 4, 5, 1, 0] rfl)
  exact L4_0 (xR x) 0 rfl _ _ _ hG (lv_sub hl [2, 3, 1, 0] rfl)

abbrev rm_X6_countAlerts : Room := { frames := 3, cells := 0, slots := 0, locals := 64 }
set_option maxHeartbeats 4000000 in
set_option maxRecDepth 100000 in
theorem c_X6_countAlerts (l : Launch) (g : GV) (ad : AD) (M : CT) (x : XD) (hx : hasX g ad M x) (le : Int32) : hm_Met l yX6_countAlerts cX6_countAlerts 4 (some .int) rm_X6_countAlerts g ad M [.ref (ad (0, 0, 0)), .int le] (hm_pU ad M (some (.int (nI (caX x le))))) := by
  refine hm_start (own := RX6) (by decide) rfl (Nat.le_of_ble_eq_true rfl) ?_
  intro p e s m args below meth c S hr hlk hnm hE hG ls hl
  have hl : lv_has ls 4 [(0, .ref (ad (0, 0, 0))), (1, .int le)] := hl
  obtain ⟨hX, hLs, hLr, hLh, h7, hLg, h70, hSe, hRu, hHu, hGr, hS6, hR6, hH5⟩ := id hx
  obtain ⟨fs1, hb1⟩ := hLs.ob
  obtain ⟨fs2, hb2⟩ := hLr.ob
  obtain ⟨fs3, hb3⟩ := hLh.ob
  refine lv_iconst (v := 0) S.1 S.2.1 dX6_countAlerts_0 (by decide) ?_
  refine lv_istore_n (lv' := [(2, .int 0), (0, .ref (ad (0, 0, 0))), (1, .int le)]) S.1 S.2.1 dX6_countAlerts_1 rfl hl (by decide) rfl (fun ls hl => ?_)
  refine lv_iconst (v := 0) S.1 S.2.1 dX6_countAlerts_2 (by decide) ?_
  refine lv_istore_n (lv' := [(3, .int 0), (2, .int 0), (0, .ref (ad (0, 0, 0))), (1, .int le)]) S.1 S.2.1 dX6_countAlerts_3 rfl hl (by decide) rfl (fun ls hl => ?_)
  have L4_0 : ∀ (n : Nat) (i : Nat), n + i = xR x → ∀ (H : Heap) (locs : List Loc) (ls : Array Slot), hm_G g ad M s.heap H locs → lv_has ls 4 [(0, .ref (ad (0, 0, 0))), (1, .int le), (2, .int (nI (caN x le i))), (3, .int (nI i))] → W p l e rm_X6_countAlerts s m args below meth c H locs 0 0 (MQ below (hm_Q g (hm_pU ad M (some (.int (nI (caX x le)))))) args s rm_X6_countAlerts.cells rm_X6_countAlerts.slots (hm_A g)) (F0 m 4 ls []) := by
    intro n
    induction n with
    | zero =>
      intro i hi0 H locs ls hG hl
      obtain rfl : i = xR x := by omega
      refine lv_iload_n S.1 S.2.1 dX6_countAlerts_4 rfl (lv_at hl 3 rfl) ?_
      refine lv_aload_n S.1 S.2.1 dX6_countAlerts_5 rfl (lv_at hl 0 rfl) ?_
      refine hm_get (k := 1) S hE hG hX rfl rfl hi_X60 (by decide) hb_17 rfl rfl dX6_countAlerts_6 ?_
      refine hm_uV (As := []) (rest := [.int (nI (xR x))]) (st1 := [.int (nI (xR x)), .int (nI (xR x))]) S hE hG (c_size l hLr) (hm_gV hb_97 hb_98 hb_99 hb_15 hb_100) hd_Jx4a65c_size_8abf5 rfl hb2 rfl rfl ⟨Nat.le_of_ble_eq_true rfl, Nat.le_of_ble_eq_true rfl⟩ rfl hl.1 rfl (Nat.le_of_ble_eq_true rfl) dX6_countAlerts_9 ⟨Nat.le_of_ble_eq_true rfl, Nat.le_of_ble_eq_true rfl⟩ rfl (fun H locs hG => ?_)
      refine lv_icmp_ge (tgt := 39) S.1 S.2.1 dX6_countAlerts_12 (by decide) (fun _ => ?_) (fun h9 => absurd (nI_le (Nat.le_refl _) (by omega)) h9)
      refine lv_iload_n S.1 S.2.1 dX6_countAlerts_39 rfl (lv_at hl 2 rfl) ?_
      exact hm_iret S hG hr hlk (⟨rfl, rfl, rfl⟩) (Nat.le_of_ble_eq_true rfl) (Nat.le_of_ble_eq_true rfl) dX6_countAlerts_40
    | succ n ih4 =>
      intro i hi0 H locs ls hG hl
      have hi9 : i < xR x := by omega
      refine lv_iload_n S.1 S.2.1 dX6_countAlerts_4 rfl (lv_at hl 3 rfl) ?_
      refine lv_aload_n S.1 S.2.1 dX6_countAlerts_5 rfl (lv_at hl 0 rfl) ?_
      refine hm_get (k := 1) S hE hG hX rfl rfl hi_X60 (by decide) hb_17 rfl rfl dX6_countAlerts_6 ?_
      refine hm_uV (As := []) (rest := [.int (nI i)]) (st1 := [.int (nI (xR x)), .int (nI i)]) S hE hG (c_size l hLr) (hm_gV hb_97 hb_98 hb_99 hb_15 hb_100) hd_Jx4a65c_size_8abf5 rfl hb2 rfl rfl ⟨Nat.le_of_ble_eq_true rfl, Nat.le_of_ble_eq_true rfl⟩ rfl hl.1 rfl (Nat.le_of_ble_eq_true rfl) dX6_countAlerts_9 ⟨Nat.le_of_ble_eq_true rfl, Nat.le_of_ble_eq_true rfl⟩ rfl (fun H locs hG => ?_)
      refine lv_icmp_ge (tgt := 39) S.1 S.2.1 dX6_countAlerts_12 (by decide) (fun h9 => absurd h9 (nI_ge hi9 (by omega))) (fun _ => ?_)
      refine lv_iload_n S.1 S.2.1 dX6_countAlerts_15 rfl (lv_at hl 2 rfl) ?_
      refine lv_aload_n S.1 S.2.1 dX6_countAlerts_16 rfl (lv_at hl 0 rfl) ?_
      refine hm_get (k := 1) S hE hG hX rfl rfl hi_X60 (by decide) hb_17 rfl rfl dX6_countAlerts_17 ?_
      refine lv_iload_n S.1 S.2.1 dX6_countAlerts_20 rfl (lv_at hl 3 rfl) ?_
      refine hm_uV (As := [.int (nI i)]) (rest := [.int (nI (caN x le i))]) (st1 := [.ref (ad (20, i, 0)), .int (nI (caN x le i))]) S hE hG (c_get l hLr i hi9) (hm_gV hb_208 hb_209 hb_210 hb_15 hb_211) hd_Jx4a65c_get_915e3 rfl hb2 rfl rfl ⟨Nat.le_of_ble_eq_true rfl, Nat.le_of_ble_eq_true rfl⟩ rfl hl.1 rfl (Nat.le_of_ble_eq_true rfl) dX6_countAlerts_21 ⟨Nat.le_of_ble_eq_true rfl, Nat.le_of_ble_eq_true rfl⟩ rfl (fun H locs hG => ?_)
      refine hm_cast S hE hG (hRu i hi9).1 rfl rfl hb_207 dX6_countAlerts_24 ?_
      refine lv_iload_n S.1 S.2.1 dX6_countAlerts_27 rfl (lv_at hl 1 rfl) ?_
      refine hm_uV (As := [.int le]) (rest := [.int (nI (caN x le i))]) (st1 := [.int (nI (caF (xAl x i) le)), .int (nI (caN x le i))]) S hE hG (c_X4_countAlertsFrom l g ad M i (xRu x i) (xAl x i) (hRu i hi9) le) (hm_gV hb_271 hb_272 hb_273 hb_170 hb_274) hd_X4_countAlertsFrom rfl (hRu i hi9).1 rfl rfl ⟨Nat.le_of_ble_eq_true rfl, Nat.le_of_ble_eq_true rfl⟩ rfl hl.1 rfl (Nat.le_of_ble_eq_true rfl) dX6_countAlerts_28 ⟨Nat.le_of_ble_eq_true rfl, Nat.le_of_ble_eq_true rfl⟩ rfl (fun H locs hG => ?_)
      refine lv_iadd S.1 S.2.1 dX6_countAlerts_31 ?_
      refine hm_top (z := nI (caN x le (i + 1))) (nI_add _ _) ?_
      refine lv_istore_n (lv' := [(2, .int (nI (caN x le (i + 1)))), (0, .ref (ad (0, 0, 0))), (1, .int le), (3, .int (nI i))]) S.1 S.2.1 dX6_countAlerts_32 rfl hl (by decide) rfl (fun ls hl => ?_)
      refine lv_iinc (v := nI (i + 1)) (lv' := [(3, .int (nI (i + 1))), (2, .int (nI (caN x le (i + 1)))), (0, .ref (ad (0, 0, 0))), (1, .int le)]) S.1 S.2.1 dX6_countAlerts_33 hl (k := 3) rfl (nI_1 i) (by decide) rfl (fun ls hl => ?_)
      refine lv_goto (tgt := 4) S.1 S.2.1 dX6_countAlerts_36 (by decide) ?_
      exact ih4 (i + 1) (by omega) _ _ _ hG (lv_sub hl [2, 3, 1, 0] rfl)
  exact L4_0 (xR x) 0 rfl _ _ _ hG (lv_sub hl [2, 3, 1, 0] rfl)

abbrev rm_X6_groupOf : Room := { frames := 4, cells := 0, slots := 0, locals := 86 }
set_option maxHeartbeats 4000000 in
set_option maxRecDepth 100000 in
theorem c_X6_groupOf (l : Launch) (g : GV) (ad : AD) (M : CT) (x : XD) (hx : hasX g ad M x) (r : Nat) (hr9 : r < xR x) (k : Nat) (hk : k < 12) (hg3 : xG x < 3) : hm_Met l yX6_groupOf cX6_groupOf 4 (some .int) rm_X6_groupOf g ad M [.ref (ad (0, 0, 0)), .ref (ad (20, r, 0)), .int (nI k)] (hm_pU ad M (some (.int (goF x r k)))) := by
  refine hm_start (own := RX6) (by decide) rfl (Nat.le_of_ble_eq_true rfl) ?_
  intro p e s m args below meth c S hr hlk hnm hE hG ls hl
  have hl : lv_has ls 4 [(0, .ref (ad (0, 0, 0))), (1, .ref (ad (20, r, 0))), (2, .int (nI k))] := hl
  obtain ⟨hX, hLs, hLr, hLh, h7, hLg, h70, hSe, hRu, hHu, hGr, hS6, hR6, hH5⟩ := id hx
  obtain ⟨fs1, hb1⟩ := hLs.ob
  obtain ⟨fs2, hb2⟩ := hLr.ob
  obtain ⟨fs3, hb3⟩ := hLh.ob
  refine lv_aload_n S.1 S.2.1 dX6_groupOf_0 rfl (lv_at hl 0 rfl) ?_
  refine hm_get (k := 7) S hE hG hX rfl rfl hi_X60 (by decide) hb_32 rfl rfl dX6_groupOf_1 ?_
  refine lv_iconst (v := 1) S.1 S.2.1 dX6_groupOf_4 (by decide) ?_
  refine lv_icmp_ne (tgt := 13) S.1 S.2.1 dX6_groupOf_5 (by decide) (fun c5 => ?_) (fun c5 => ?_)
  · skip
    have e5 : ¬ xG x = 1 := fun h => c5 (by rw [h]; rfl)
    refine lv_aload_n S.1 S.2.1 dX6_groupOf_13 rfl (lv_at hl 0 rfl) ?_
    refine hm_get (k := 7) S hE hG hX rfl rfl hi_X60 (by decide) hb_32 rfl rfl dX6_groupOf_14 ?_
    refine lv_iconst (v := 2) S.1 S.2.1 dX6_groupOf_17 (by decide) ?_
    refine lv_icmp_ne (tgt := 40) S.1 S.2.1 dX6_groupOf_18 (by decide) (fun c18 => ?_) (fun c18 => ?_)
    · skip
      have e18 : ¬ xG x = 2 := fun h => c18 (by rw [h]; rfl)
      refine lv_iconst (v := 0) S.1 S.2.1 dX6_groupOf_40 (by decide) ?_
      exact hm_iret S hG hr hlk (⟨by simp [goF, *], rfl, rfl⟩) (Nat.le_of_ble_eq_true rfl) (Nat.le_of_ble_eq_true rfl) dX6_groupOf_41
    · skip
      have e18 : xG x = 2 := hm_eqI (b := 2) (by omega) (by decide) (show nI (xG x) = nI 2 from c18)
      refine lv_aload_n S.1 S.2.1 dX6_groupOf_21 rfl (lv_at hl 0 rfl) ?_
      refine lv_aload_n S.1 S.2.1 dX6_groupOf_22 rfl (lv_at hl 1 rfl) ?_
      refine lv_iload_n S.1 S.2.1 dX6_groupOf_23 rfl (lv_at hl 2 rfl) ?_
      refine hm_uV (As := [.ref (ad (20, r, 0)), .int (nI k)]) (rest := []) (st1 := [.int (plF x (xRu x r) k)]) S hE hG (c_X6_placeOf l g ad M x hx r hr9 k hk) (hm_gV hb_293 hb_294 hb_295 hb_2 hb_296) hd_X6_placeOf rfl hX rfl rfl ⟨Nat.le_of_ble_eq_true rfl, Nat.le_of_ble_eq_true rfl⟩ rfl hl.1 rfl (Nat.le_of_ble_eq_true rfl) dX6_groupOf_24 ⟨Nat.le_of_ble_eq_true rfl, Nat.le_of_ble_eq_true rfl⟩ rfl (fun H locs hG => ?_)
      refine lv_istore_n (lv' := [(3, .int (plF x (xRu x r) k)), (0, .ref (ad (0, 0, 0))), (1, .ref (ad (20, r, 0))), (2, .int (nI k))]) S.1 S.2.1 dX6_groupOf_27 rfl hl (by decide) rfl (fun ls hl => ?_)
      refine lv_iload_n S.1 S.2.1 dX6_groupOf_28 rfl (lv_at hl 0 rfl) ?_
      refine lv_iconst (v := (-1)) S.1 S.2.1 dX6_groupOf_29 (by decide) ?_
      refine lv_icmp_ne (tgt := 38) S.1 S.2.1 dX6_groupOf_30 (by decide) (fun c30 => ?_) (fun c30 => ?_)
      · skip
        have e30 : ¬ plF x (xRu x r) k = -1 := c30
        refine lv_iload_n S.1 S.2.1 dX6_groupOf_38 rfl (lv_at hl 0 rfl) ?_
        exact hm_iret S hG hr hlk (⟨by simp [goF, *], rfl, rfl⟩) (Nat.le_of_ble_eq_true rfl) (Nat.le_of_ble_eq_true rfl) dX6_groupOf_39
      · skip
        have e30 : plF x (xRu x r) k = -1 := by simpa using c30
        refine lv_bipush (v := 6) S.1 S.2.1 dX6_groupOf_33 (by decide) ?_
        refine lv_goto (tgt := 39) S.1 S.2.1 dX6_groupOf_35 (by decide) ?_
        exact hm_iret S hG hr hlk (⟨by simp [goF, *], rfl, rfl⟩) (Nat.le_of_ble_eq_true rfl) (Nat.le_of_ble_eq_true rfl) dX6_groupOf_39
  · skip
    have e5 : xG x = 1 := hm_eqI (b := 1) (by omega) (by decide) (show nI (xG x) = nI 1 from c5)
    refine lv_aload_n S.1 S.2.1 dX6_groupOf_8 rfl (lv_at hl 1 rfl) ?_
    refine hm_get (k := 0) S hE hG (hRu r hr9).1 rfl rfl hi_X40 (by decide) hb_284 rfl rfl dX6_groupOf_9 ?_
    exact hm_iret S hG hr hlk (⟨by simp [goF, *], rfl, rfl⟩) (Nat.le_of_ble_eq_true rfl) (Nat.le_of_ble_eq_true rfl) dX6_groupOf_12

abbrev rm_X6_greatestRank : Room := { frames := 3, cells := 0, slots := 0, locals := 64 }
set_option maxHeartbeats 4000000 in
set_option maxRecDepth 100000 in
theorem c_X6_greatestRank (l : Launch) (g : GV) (ad : AD) (M : CT) (x : XD) (hx : hasX g ad M x) (j : Nat) (hj9 : j < 7) : hm_Met l yX6_greatestRank cX6_greatestRank 4 (some .int) rm_X6_greatestRank g ad M [.ref (ad (0, 0, 0)), .ref (ad (60, j, 0))] (hm_pU ad M (some (.int (grR x (xGr x j))))) := by
  refine hm_start (own := RX6) (by decide) rfl (Nat.le_of_ble_eq_true rfl) ?_
  intro p e s m args below meth c S hr hlk hnm hE hG ls hl
  have hl : lv_has ls 4 [(0, .ref (ad (0, 0, 0))), (1, .ref (ad (60, j, 0)))] := hl
  obtain ⟨hX, hLs, hLr, hLh, h7, hLg, h70, hSe, hRu, hHu, hGr, hS6, hR6, hH5⟩ := id hx
  obtain ⟨fs1, hb1⟩ := hLs.ob
  obtain ⟨fs2, hb2⟩ := hLr.ob
  obtain ⟨fs3, hb3⟩ := hLh.ob
  refine lv_iconst (v := (-1)) S.1 S.2.1 dX6_greatestRank_0 (by decide) ?_
  refine lv_istore_n (lv' := [(2, .int (-1)), (0, .ref (ad (0, 0, 0))), (1, .ref (ad (60, j, 0)))]) S.1 S.2.1 dX6_greatestRank_1 rfl hl (by decide) rfl (fun ls hl => ?_)
  refine lv_iconst (v := 0) S.1 S.2.1 dX6_greatestRank_2 (by decide) ?_
  refine lv_istore_n (lv' := [(3, .int 0), (2, .int (-1)), (0, .ref (ad (0, 0, 0))), (1, .ref (ad (60, j, 0)))]) S.1 S.2.1 dX6_greatestRank_3 rfl hl (by decide) rfl (fun ls hl => ?_)
  have L4_0 : ∀ (n : Nat) (i : Nat), n + i = xR x → ∀ (H : Heap) (locs : List Loc) (ls : Array Slot), hm_G g ad M s.heap H locs → lv_has ls 4 [(0, .ref (ad (0, 0, 0))), (1, .ref (ad (60, j, 0))), (2, .int (grL2 x (xGr x j) i)), (3, .int (nI i))] → W p l e rm_X6_greatestRank s m args below meth c H locs 0 0 (MQ below (hm_Q g (hm_pU ad M (some (.int (grR x (xGr x j)))))) args s rm_X6_greatestRank.cells rm_X6_greatestRank.slots (hm_A g)) (F0 m 4 ls []) := by
    intro n
    induction n with
    | zero =>
      intro i hi0 H locs ls hG hl
      obtain rfl : i = xR x := by omega
      refine lv_iload_n S.1 S.2.1 dX6_greatestRank_4 rfl (lv_at hl 3 rfl) ?_
      refine lv_aload_n S.1 S.2.1 dX6_greatestRank_5 rfl (lv_at hl 0 rfl) ?_
      refine hm_get (k := 1) S hE hG hX rfl rfl hi_X60 (by decide) hb_17 rfl rfl dX6_greatestRank_6 ?_
      refine hm_uV (As := []) (rest := [.int (nI (xR x))]) (st1 := [.int (nI (xR x)), .int (nI (xR x))]) S hE hG (c_size l hLr) (hm_gV hb_97 hb_98 hb_99 hb_15 hb_100) hd_Jx4a65c_size_8abf5 rfl hb2 rfl rfl ⟨Nat.le_of_ble_eq_true rfl, Nat.le_of_ble_eq_true rfl⟩ rfl hl.1 rfl (Nat.le_of_ble_eq_true rfl) dX6_greatestRank_9 ⟨Nat.le_of_ble_eq_true rfl, Nat.le_of_ble_eq_true rfl⟩ rfl (fun H locs hG => ?_)
      refine lv_icmp_ge (tgt := 48) S.1 S.2.1 dX6_greatestRank_12 (by decide) (fun _ => ?_) (fun h9 => absurd (nI_le (Nat.le_refl _) (by omega)) h9)
      refine lv_iload_n S.1 S.2.1 dX6_greatestRank_48 rfl (lv_at hl 2 rfl) ?_
      exact hm_iret S hG hr hlk (⟨rfl, rfl, rfl⟩) (Nat.le_of_ble_eq_true rfl) (Nat.le_of_ble_eq_true rfl) dX6_greatestRank_49
    | succ n ih4 =>
      intro i hi0 H locs ls hG hl
      have hi9 : i < xR x := by omega
      refine lv_iload_n S.1 S.2.1 dX6_greatestRank_4 rfl (lv_at hl 3 rfl) ?_
      refine lv_aload_n S.1 S.2.1 dX6_greatestRank_5 rfl (lv_at hl 0 rfl) ?_
      refine hm_get (k := 1) S hE hG hX rfl rfl hi_X60 (by decide) hb_17 rfl rfl dX6_greatestRank_6 ?_
      refine hm_uV (As := []) (rest := [.int (nI i)]) (st1 := [.int (nI (xR x)), .int (nI i)]) S hE hG (c_size l hLr) (hm_gV hb_97 hb_98 hb_99 hb_15 hb_100) hd_Jx4a65c_size_8abf5 rfl hb2 rfl rfl ⟨Nat.le_of_ble_eq_true rfl, Nat.le_of_ble_eq_true rfl⟩ rfl hl.1 rfl (Nat.le_of_ble_eq_true rfl) dX6_greatestRank_9 ⟨Nat.le_of_ble_eq_true rfl, Nat.le_of_ble_eq_true rfl⟩ rfl (fun H locs hG => ?_)
      refine lv_icmp_ge (tgt := 48) S.1 S.2.1 dX6_greatestRank_12 (by decide) (fun h9 => absurd h9 (nI_ge hi9 (by omega))) (fun _ => ?_)
      refine lv_aload_n S.1 S.2.1 dX6_greatestRank_15 rfl (lv_at hl 1 rfl) ?_
      refine lv_iload_n S.1 S.2.1 dX6_greatestRank_16 rfl (lv_at hl 3 rfl) ?_
      refine hm_uV (As := [.int (nI i)]) (rest := []) (st1 := [.int (bI (!decide (gLo (xGr x j) i = 0)))]) S hE hG (c_X1_hasLoudOf l g ad M j (xGr x j) (hGr j hj9) i (by omega)) (hm_gV hb_470 hb_471 hb_472 hb_22 hb_473) hd_X1_hasLoudOf rfl (hGr j hj9).1 rfl rfl ⟨Nat.le_of_ble_eq_true rfl, Nat.le_of_ble_eq_true rfl⟩ rfl hl.1 rfl (Nat.le_of_ble_eq_true rfl) dX6_greatestRank_17 ⟨Nat.le_of_ble_eq_true rfl, Nat.le_of_ble_eq_true rfl⟩ rfl (fun H locs hG => ?_)
      refine lv_if_eq (tgt := 42) S.1 S.2.1 dX6_greatestRank_20 (by decide) (fun c20 => ?_) (fun c20 => ?_)
      · skip
        have e9 : grL2 x (xGr x j) (i + 1) = grL2 x (xGr x j) i := by rw [grL2, if_pos (by simpa using bI_0.mp c20)]
        rw [← e9] at hl
        refine lv_iinc (v := nI (i + 1)) (lv' := [(3, .int (nI (i + 1))), (0, .ref (ad (0, 0, 0))), (1, .ref (ad (60, j, 0))), (2, .int (grL2 x (xGr x j) (i + 1)))]) S.1 S.2.1 dX6_greatestRank_42 hl (k := 3) rfl (nI_1 i) (by decide) rfl (fun ls hl => ?_)
        refine lv_goto (tgt := 4) S.1 S.2.1 dX6_greatestRank_45 (by decide) ?_
        exact ih4 (i + 1) (by omega) _ _ _ hG (lv_sub hl [1, 2, 3, 0] rfl)
      · skip
        refine lv_iload_n S.1 S.2.1 dX6_greatestRank_23 rfl (lv_at hl 2 rfl) ?_
        refine lv_aload_n S.1 S.2.1 dX6_greatestRank_24 rfl (lv_at hl 0 rfl) ?_
        refine hm_get (k := 1) S hE hG hX rfl rfl hi_X60 (by decide) hb_17 rfl rfl dX6_greatestRank_25 ?_
        refine lv_iload_n S.1 S.2.1 dX6_greatestRank_28 rfl (lv_at hl 3 rfl) ?_
        refine hm_uV (As := [.int (nI i)]) (rest := [.int (grL2 x (xGr x j) i)]) (st1 := [.ref (ad (20, i, 0)), .int (grL2 x (xGr x j) i)]) S hE hG (c_get l hLr i hi9) (hm_gV hb_208 hb_209 hb_210 hb_15 hb_211) hd_Jx4a65c_get_915e3 rfl hb2 rfl rfl ⟨Nat.le_of_ble_eq_true rfl, Nat.le_of_ble_eq_true rfl⟩ rfl hl.1 rfl (Nat.le_of_ble_eq_true rfl) dX6_greatestRank_29 ⟨Nat.le_of_ble_eq_true rfl, Nat.le_of_ble_eq_true rfl⟩ rfl (fun H locs hG => ?_)
        refine hm_cast S hE hG (hRu i hi9).1 rfl rfl hb_207 dX6_greatestRank_32 ?_
        refine hm_get (k := 8) S hE hG (hRu i hi9).1 rfl rfl hi_X40 (by decide) hb_200 rfl rfl dX6_greatestRank_35 ?_
        refine hm_max (z := grL2 x (xGr x j) (i + 1)) S hb_469 hb_134 hb_5 hb_135 hl.1 (Nat.le_of_ble_eq_true rfl) (Nat.le_of_ble_eq_true rfl) (Nat.le_of_ble_eq_true rfl) (Nat.le_of_ble_eq_true rfl) (by show mxI (grL2 x (xGr x j) i) (rRk (xRu x i)) = _; rw [grL2, if_neg (by simpa using bI_ne.mp c20)]) dX6_greatestRank_38 ?_
        refine lv_istore_n (lv' := [(2, .int (grL2 x (xGr x j) (i + 1))), (0, .ref (ad (0, 0, 0))), (1, .ref (ad (60, j, 0))), (3, .int (nI i))]) S.1 S.2.1 dX6_greatestRank_41 rfl hl (by decide) rfl (fun ls hl => ?_)
        refine lv_iinc (v := nI (i + 1)) (lv' := [(3, .int (nI (i + 1))), (2, .int (grL2 x (xGr x j) (i + 1))), (0, .ref (ad (0, 0, 0))), (1, .ref (ad (60, j, 0)))]) S.1 S.2.1 dX6_greatestRank_42 hl (k := 3) rfl (nI_1 i) (by decide) rfl (fun ls hl => ?_)
        refine lv_goto (tgt := 4) S.1 S.2.1 dX6_greatestRank_45 (by decide) ?_
        exact ih4 (i + 1) (by omega) _ _ _ hG (lv_sub hl [2, 3, 1, 0] rfl)
  exact L4_0 (xR x) 0 rfl _ _ _ hG (lv_sub hl [2, 3, 1, 0] rfl)
end
